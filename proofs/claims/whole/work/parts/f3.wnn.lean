/-! WINDOWS in the reference: a window, the call -/
section WNN0
variable {u v : Nat → Nat → Int} {t r : Int}
theorem wnO_ok {G : List Nat} (g4 : G.length ≤ 4) : OKO G.length (wnO u t G r) ∧ (wnO u t G r).Perm (List.range G.length) := by
  have oa := ord_all (n := G.length) (by omega)
  have op := ord_pm (n := G.length) (by omega)
  rcases bsO_in (cst := fun O => wir (wnP u G r O) t) (ords G.length) (List.range G.length) (wir u t) with q | q
  · unfold wnO
    rw [q]
    exact ⟨okO_rg (by omega), List.Perm.refl _⟩
  · exact ⟨oa.2.2 _ q, op _ q⟩
/-- a list in three pieces -/
theorem cut3 {Ly : List Nat} (j k : Nat) : Ly = Ly.take j ++ ((Ly.drop j).take k ++ Ly.drop (j + k)) := by
  have e : (Ly.drop j).drop k = Ly.drop (j + k) := by rw [List.drop_drop]
  rw [← e, List.take_append_drop, List.take_append_drop]
end WNN0
section WNN
variable {X : xL} {Q : Option xV → xH → Prop} {ns nb ln : Nat} {h h2 h3 : xH}
set_option maxHeartbeats 8000000 in
theorem l_251e (hc : CT X ns nb ln) {h0 : xH} {A G C B : List Nat} {r f0 x5 : Int} (g4 : G.length ≤ 4) (l20 : (A ++ (G ++ C)).length ≤ 20) (lB : B.length = G.length) (hB : ∀ o, o ∈ B → o < G.length) (r90 : R1 (h0.1 90) G) (r89 : R1 (h0.1 89) B) : ∀ (m i : Nat) (h : xH), i + m = G.length → NZ X h → G1 83 h0 h → (∀ k, h.1 83 k = if A.length ≤ k ∧ k < A.length + i then (((B.map (fun o => G.getD o 0)).getD (k - A.length) 0 : Nat) : Int) else h0.1 83 k) → (∀ h2, NZ X h2 → G1 83 h0 h2 → (∀ k, h2.1 83 k = if A.length ≤ k ∧ k < A.length + G.length then (((B.map (fun o => G.getD o 0)).getD (k - A.length) 0 : Nat) : Int) else h0.1 83 k) → Q none h2) → Ev X 251 108 [some (vr 70), some (vi r), some (vi (A.length : Int)), some (vi (G.length : Int)), some (vi f0), some (vi x5), some (vi i)] [] h Q := by
  have lA : A.length + G.length ≤ 20 := by
    rw [List.length_append, List.length_append] at l20
    omega
  intro m
  induction m with
  | zero =>
    intro i h hm z g p hq
    rw [e_251_108]
    simp (disch := first | assumption | omega) only [e_251_109, e_251_110, e_251_126, onI_s, onR_s, onL_s, gl_0, gl_n, gl_1, gl_2, gl_3, gl_4, gl_5, gl_6, gl_7, gl_8, gl_9, gl_10, gl_11, gl_12, gl_13, gl_14, gl_15, gl_16, gl_17, sk0i, sk0r, sk0n, sk1i, sk1r, sk1n, sk_2, sk_3, sk_4, sk_5, sk_6, sk_7, sk_8, sk_9, sk_10, sk_11, sk_12, sk_13, sk_14, sk_15, sk_16, sk_17, ls_0, ls_1, ls_2, ls_3, ls_4, ls_5, ls_6, ls_7, ls_8, ls_9, ls_10, ls_11, ls_12, ls_13, ls_14, ls_15, ls_16, ls_17, ct1_i, ct1_r, wd8_0, wd8_i1, wd8_r1, wd8_i2, wd8_r2, wd8_i3, wd8_r3, wd8_i4, wd8_r4, wd8_i5, wd8_r5, wd8_i6, wd8_r6, wd8_i7, wd8_r7, wd8_i8, wd8_r8, wd8_l2, wd8_l3, wd8_l4, wd8_l5, wd8_l6, wd8_l7, wd8_l8, tl_s, tl_n, inR_t, bd_t, true_and, and_true, true_or, or_true, if_true_x, if_false_x, if_pos, if_neg, Int.toNat_natCast, natL, bI_0, bI_1, bI_ft, eq_self, b_tf, b_ft, not_true_eq_false, not_false_eq_true]
    rw [show i = G.length by omega] at p
    exact hq h z g p
  | succ m ih =>
    intro i h hm z g p hq
    have il : i < B.length := by omega
    obtain ⟨o, hod⟩ : ∃ o, o = B.getD i 0 := ⟨_, rfl⟩
    have om : o ∈ B := by rw [hod, List.getD_eq_getElem?_getD, List.getElem?_eq_getElem il]; exact List.getElem_mem il
    have ol := hB o om
    have e89 : h.1 89 i = o := by rw [g.1 89 (by omega), R1.at r89 il, hod]
    have e90 : h.1 90 o = ((G.getD o 0 : Nat) : Int) := by rw [g.1 90 (by omega)]; exact R1.at r90 ol
    have ai : (A.length : Int) + (i : Int) = ((A.length + i : Nat) : Int) := rfl
    have bm : (B.map (fun o => G.getD o 0)).getD i 0 = G.getD o 0 := by
      rw [List.getD_eq_getElem?_getD, List.getElem?_map, List.getElem?_eq_getElem il, hod, List.getD_eq_getElem?_getD (l := B), List.getElem?_eq_getElem il]
      rfl
    rw [e_251_108]
    simp (disch := first | assumption | omega) only [e_251_109, e_251_110, e_251_111, e_251_112, e_251_113, e_251_114, e_251_115, e_251_116, e_251_117, e_251_118, e_251_119, e_251_120, e_251_121, e_251_122, e_251_123, e_251_124, e_251_125, onI_s, onR_s, onL_s, gl_0, gl_n, gl_1, gl_2, gl_3, gl_4, gl_5, gl_6, gl_7, gl_8, gl_9, gl_10, gl_11, gl_12, gl_13, gl_14, gl_15, gl_16, gl_17, sk0i, sk0r, sk0n, sk1i, sk1r, sk1n, sk_2, sk_3, sk_4, sk_5, sk_6, sk_7, sk_8, sk_9, sk_10, sk_11, sk_12, sk_13, sk_14, sk_15, sk_16, sk_17, ls_0, ls_1, ls_2, ls_3, ls_4, ls_5, ls_6, ls_7, ls_8, ls_9, ls_10, ls_11, ls_12, ls_13, ls_14, ls_15, ls_16, ls_17, ct1_i, ct1_r, wd8_0, wd8_i1, wd8_r1, wd8_i2, wd8_r2, wd8_i3, wd8_r3, wd8_i4, wd8_r4, wd8_i5, wd8_r5, wd8_i6, wd8_r6, wd8_i7, wd8_r7, wd8_i8, wd8_r8, wd8_l2, wd8_l3, wd8_l4, wd8_l5, wd8_l6, wd8_l7, wd8_l8, tl_s, tl_n, inR_t, bd_t, true_and, and_true, true_or, or_true, if_true_x, if_false_x, if_pos, if_neg, Int.toNat_natCast, natL, bI_0, bI_1, bI_ft, eq_self, b_tf, b_ft, not_true_eq_false, not_false_eq_true, ai, e89, e90, cast_s, hc.t70, hc.r70_4, hc.r70_5, hc.r70_6, hc.r70_7, hc.r70_8, hc.r70_10, hc.r70_11, hc.r70_12, hc.r70_14, hc.r70_15, hc.r70_16, hc.r70_17, hc.r70_19, hc.r70_21, hc.r70_23, hc.r70_24, hc.r70_26, hc.r70_27, hc.r70_28, hc.r70_29, hc.r70_30, hc.r70_31, hc.r70_32, hc.r70_33, hc.r70_36, hc.t83, hc.z83, hc.t89, hc.z89, hc.t90, hc.z90]
    refine ih (i + 1) (up2 h.1 83 (A.length + i) ((G.getD o 0 : Nat) : Int), h.2) (by omega) (NZ.up (I := h.1) (F := h.2) z (by rw [hc.z83]; omega)) (g.tr ⟨fun a q => up2_of q, rfl⟩) (fun k => ?_) hq
    dsimp only
    rw [up2_same]
    by_cases e : k = A.length + i
    · rw [if_pos e, if_pos (by omega), show k - A.length = i by omega, bm]
    · rw [if_neg e, p k]
      by_cases e2 : A.length ≤ k ∧ k < A.length + i
      · rw [if_pos e2, if_pos (by omega)]
      · rw [if_neg e2, if_neg (by omega)]
set_option maxHeartbeats 8000000 in
theorem m_251 (hc : CT X ns nb ln) {h0 : xH} {u v : Nat → Nat → Int} {t : Int} (gd : Gd v) {f : Int} {rn a n : Nat} {A G C : List Nat} (wi : WI u v rn f a n (A ++ (G ++ C))) (an : a + n ≤ 32) (r8 : rn < 8) (g1' : 1 ≤ G.length) (g4 : G.length ≤ 4) (l20 : (A ++ (G ++ C)).length ≤ 20) (tm : TMb (h0.1 72)) (et : h0.1 72 4 = t) (ev : vm h0 = u) (rb : RBr (h0.1 73)) (z : NZ X h0) (r83 : R1 (h0.1 83) (A ++ (G ++ C))) (hq : ∀ h2, NZ X h2 → GV7 h0 h2 → vm h2 = wnP u G rn (wnO u t G rn) → RBr (h2.1 73) → R1 (h2.1 83) (A ++ ((wnO u t G rn).map (fun o => G.getD o 0) ++ C)) → Q none h2) : Cl X 251 [vr 70, vi rn, vi (A.length : Int), vi (G.length : Int)] h0 Q := by
  have nC := wi.2.1.nC
  have mg : ∀ x, x ∈ G → (x : Int) < u 11 0 ∧ u 17 x = rn := fun x hx => ⟨(wi.2.2.2.2.1 x (by simp [hx])).1, (wi.2.2.2.2.1 x (by simp [hx])).2.1⟩
  have gc : ∀ c, c ∈ G → c < 20 := fun c hc => by have := (mg c hc).1; omega
  have lA : A.length + G.length ≤ 20 := by
    rw [List.length_append, List.length_append] at l20
    omega
  obtain ⟨wo, wp⟩ := wnO_ok (u := u) (t := t) (r := (rn : Int)) g4
  have oa := ord_all (n := G.length) (by omega)
  have op := ord_pm (n := G.length) (by omega)
  have og := okO_rg (n := G.length) (by omega)
  have sit := wi.2.1.sit (G.getD 0 0)
  have wgu : WG u := wi.2.2.1.wg wi.2.1 gd
  have e83 : h0.1 83 A.length = ((G.getD 0 0 : Nat) : Int) := r83 _ _ (by have := mid_at (A := A) (C := C) (i := 0) (G := G) (by omega); rw [Nat.add_zero] at this; exact this)
  have c0 : G.getD 0 0 < 20 := gc _ (by rw [List.getD_eq_getElem?_getD, List.getElem?_eq_getElem (by omega)]; exact List.getElem_mem _)
  rw [c_251]
  simp (disch := first | assumption | omega) only [e_251_0, e_251_1, e_251_2, e_251_3, e_251_4, e_251_5, e_251_6, e_251_7, e_251_8, e_251_9, e_251_10, e_251_11, e_251_12, onI_s, onR_s, onL_s, gl_0, gl_n, gl_1, gl_2, gl_3, gl_4, gl_5, gl_6, gl_7, gl_8, gl_9, gl_10, gl_11, gl_12, gl_13, gl_14, gl_15, gl_16, gl_17, sk0i, sk0r, sk0n, sk1i, sk1r, sk1n, sk_2, sk_3, sk_4, sk_5, sk_6, sk_7, sk_8, sk_9, sk_10, sk_11, sk_12, sk_13, sk_14, sk_15, sk_16, sk_17, ls_0, ls_1, ls_2, ls_3, ls_4, ls_5, ls_6, ls_7, ls_8, ls_9, ls_10, ls_11, ls_12, ls_13, ls_14, ls_15, ls_16, ls_17, ct1_i, ct1_r, wd8_0, wd8_i1, wd8_r1, wd8_i2, wd8_r2, wd8_i3, wd8_r3, wd8_i4, wd8_r4, wd8_i5, wd8_r5, wd8_i6, wd8_r6, wd8_i7, wd8_r7, wd8_i8, wd8_r8, wd8_l2, wd8_l3, wd8_l4, wd8_l5, wd8_l6, wd8_l7, wd8_l8, tl_s, tl_n, inR_t, bd_t, true_and, and_true, true_or, or_true, if_true_x, if_false_x, if_pos, if_neg, Int.toNat_natCast, natL, bI_0, bI_1, bI_ft, eq_self, b_tf, b_ft, not_true_eq_false, not_false_eq_true, e83, m_158, vm_18, ev, Int.toNat_natCast, hc.t70, hc.r70_4, hc.r70_5, hc.r70_6, hc.r70_7, hc.r70_8, hc.r70_10, hc.r70_11, hc.r70_12, hc.r70_14, hc.r70_15, hc.r70_16, hc.r70_17, hc.r70_19, hc.r70_21, hc.r70_23, hc.r70_24, hc.r70_26, hc.r70_27, hc.r70_28, hc.r70_29, hc.r70_30, hc.r70_31, hc.r70_32, hc.r70_33, hc.r70_36, hc.t73, hc.z73, hc.t83, hc.z83]
  refine l_251a hc wi.2.1 ev g4 l20 gc r83 G.length 0 h0 none (by omega) z (fun _ _ _ => rfl) rfl (by rw [List.take_zero]; exact R1.nil) (fun j hj => by omega) (fun h1 x5 x6 z1 o1 f1 r90 gp => ?_)
  rw [e_251_67]
  simp (disch := first | assumption | omega) only [e_251_68, onI_s, onR_s, onL_s, gl_0, gl_n, gl_1, gl_2, gl_3, gl_4, gl_5, gl_6, gl_7, gl_8, gl_9, gl_10, gl_11, gl_12, gl_13, gl_14, gl_15, gl_16, gl_17, sk0i, sk0r, sk0n, sk1i, sk1r, sk1n, sk_2, sk_3, sk_4, sk_5, sk_6, sk_7, sk_8, sk_9, sk_10, sk_11, sk_12, sk_13, sk_14, sk_15, sk_16, sk_17, ls_0, ls_1, ls_2, ls_3, ls_4, ls_5, ls_6, ls_7, ls_8, ls_9, ls_10, ls_11, ls_12, ls_13, ls_14, ls_15, ls_16, ls_17, ct1_i, ct1_r, wd8_0, wd8_i1, wd8_r1, wd8_i2, wd8_r2, wd8_i3, wd8_r3, wd8_i4, wd8_r4, wd8_i5, wd8_r5, wd8_i6, wd8_r6, wd8_i7, wd8_r7, wd8_i8, wd8_r8, wd8_l2, wd8_l3, wd8_l4, wd8_l5, wd8_l6, wd8_l7, wd8_l8, tl_s, tl_n, inR_t, bd_t, true_and, and_true, true_or, or_true, if_true_x, if_false_x, if_pos, if_neg, Int.toNat_natCast, natL, bI_0, bI_1, bI_ft, eq_self, b_tf, b_ft, not_true_eq_false, not_false_eq_true]
  (rw [e_251_69]; refine ⟨⟨hc.t70, by simp [wd_i, wd_r, wd_l, wd_0]⟩, ?_⟩)
  refine m_246 hc (by omega) z1 (fun h2 z2 g2 r2 => ?_)
  simp (disch := first | assumption | omega) only [e_251_70, e_251_71, onI_s, onR_s, onL_s, gl_0, gl_n, gl_1, gl_2, gl_3, gl_4, gl_5, gl_6, gl_7, gl_8, gl_9, gl_10, gl_11, gl_12, gl_13, gl_14, gl_15, gl_16, gl_17, sk0i, sk0r, sk0n, sk1i, sk1r, sk1n, sk_2, sk_3, sk_4, sk_5, sk_6, sk_7, sk_8, sk_9, sk_10, sk_11, sk_12, sk_13, sk_14, sk_15, sk_16, sk_17, ls_0, ls_1, ls_2, ls_3, ls_4, ls_5, ls_6, ls_7, ls_8, ls_9, ls_10, ls_11, ls_12, ls_13, ls_14, ls_15, ls_16, ls_17, ct1_i, ct1_r, wd8_0, wd8_i1, wd8_r1, wd8_i2, wd8_r2, wd8_i3, wd8_r3, wd8_i4, wd8_r4, wd8_i5, wd8_r5, wd8_i6, wd8_r6, wd8_i7, wd8_r7, wd8_i8, wd8_r8, wd8_l2, wd8_l3, wd8_l4, wd8_l5, wd8_l6, wd8_l7, wd8_l8, tl_s, tl_n, inR_t, bd_t, true_and, and_true, true_or, or_true, if_true_x, if_false_x, if_pos, if_neg, Int.toNat_natCast, natL, bI_0, bI_1, bI_ft, eq_self, b_tf, b_ft, not_true_eq_false, not_false_eq_true]
  rw [show (G.length : Int) = ((List.range G.length).length : Int) by rw [og.1]]
  (rw [e_251_72]; refine ⟨⟨hc.t70, by simp [wd_i, wd_r, wd_l, wd_0]⟩, ?_⟩)
  refine m_249 hc (by rw [og.1]; omega) r2 z2 (fun h3 z3 g3 r3 => ?_)
  rw [og.1]
  have ev3 : vm h3 = u := by
    rw [g3.vmk (by omega), g2.vmk (by omega), ← ev]
    show rv (h1.1 73) (h1.2 70 2) (h1.2 70 3) = rv (h0.1 73) (h0.2 70 2) (h0.2 70 3)
    rw [o1 73 (by omega) (by omega), f1]
  have t3 : h3.1 72 = h0.1 72 := by rw [g3.1 72 (by omega), g2.1 72 (by omega), o1 72 (by omega) (by omega)]
  have rb3 : RBr (h3.1 73) := by rw [g3.1 73 (by omega), g2.1 73 (by omega), o1 73 (by omega) (by omega)]; exact rb
  have idv : u = wnP u G rn (List.range G.length) := by
    unfold wnP
    rw [List.range_eq_range', wn_id (fun c hc => (mg c hc).2) G 0 (by simp)]
  simp (disch := first | assumption | omega) only [e_251_73, e_251_74, e_251_75, onI_s, onR_s, onL_s, gl_0, gl_n, gl_1, gl_2, gl_3, gl_4, gl_5, gl_6, gl_7, gl_8, gl_9, gl_10, gl_11, gl_12, gl_13, gl_14, gl_15, gl_16, gl_17, sk0i, sk0r, sk0n, sk1i, sk1r, sk1n, sk_2, sk_3, sk_4, sk_5, sk_6, sk_7, sk_8, sk_9, sk_10, sk_11, sk_12, sk_13, sk_14, sk_15, sk_16, sk_17, ls_0, ls_1, ls_2, ls_3, ls_4, ls_5, ls_6, ls_7, ls_8, ls_9, ls_10, ls_11, ls_12, ls_13, ls_14, ls_15, ls_16, ls_17, ct1_i, ct1_r, wd8_0, wd8_i1, wd8_r1, wd8_i2, wd8_r2, wd8_i3, wd8_r3, wd8_i4, wd8_r4, wd8_i5, wd8_r5, wd8_i6, wd8_r6, wd8_i7, wd8_r7, wd8_i8, wd8_r8, wd8_l2, wd8_l3, wd8_l4, wd8_l5, wd8_l6, wd8_l7, wd8_l8, tl_s, tl_n, inR_t, bd_t, true_and, and_true, true_or, or_true, if_true_x, if_false_x, if_pos, if_neg, Int.toNat_natCast, natL, bI_0, bI_1, bI_ft, eq_self, b_tf, b_ft, not_true_eq_false, not_false_eq_true, wirM hc (show WG (vm h3) by rw [ev3]; exact wgu) (show TMb (h3.1 72) by rw [t3]; exact tm), ev3, t3, et, hc.t70, hc.r70_4, hc.r70_5, hc.r70_6, hc.r70_7, hc.r70_8, hc.r70_10, hc.r70_11, hc.r70_12, hc.r70_14, hc.r70_15, hc.r70_16, hc.r70_17, hc.r70_19, hc.r70_21, hc.r70_23, hc.r70_24, hc.r70_26, hc.r70_27, hc.r70_28, hc.r70_29, hc.r70_30, hc.r70_31, hc.r70_32, hc.r70_33, hc.r70_36]
  refine l_251s hc (t := t) (h0 := h3) gd rfl wi an r8 g1' (by rw [t3]; exact tm) (by rw [t3]; exact et) g4 gc (by rw [g3.1 90 (by omega), g2.1 90 (by omega)]; exact r90) (fun j hj => by rw [g3.1 91 (by omega), g2.1 91 (by omega)]; exact gp j hj) (ords G.length) (List.range G.length) (List.range G.length) (List.range G.length) _ h3 _ oa.1 og.1 og.1 (List.Perm.refl _) (fun O hO => ⟨oa.2.2 O hO, op O hO⟩) z3 (fun _ _ _ _ => rfl) rfl (by rw [g3.1 88 (by omega)]; exact r2) r3 (ev3.trans idv) rb3 (fun h4 L3 x5 x6 z4 o4 f4 r4 p3 ev4 rb4 => ?_)
  change R1 (h4.1 89) (wnO u t G rn) at r4
  have s3 : SJ (wnP u G rn L3) u := mvL_sj _ u SJ.refl
  rw [e_251_99]
  simp (disch := first | assumption | omega) only [e_251_100, e_251_101, e_251_102, e_251_103, e_251_104, onI_s, onR_s, onL_s, gl_0, gl_n, gl_1, gl_2, gl_3, gl_4, gl_5, gl_6, gl_7, gl_8, gl_9, gl_10, gl_11, gl_12, gl_13, gl_14, gl_15, gl_16, gl_17, sk0i, sk0r, sk0n, sk1i, sk1r, sk1n, sk_2, sk_3, sk_4, sk_5, sk_6, sk_7, sk_8, sk_9, sk_10, sk_11, sk_12, sk_13, sk_14, sk_15, sk_16, sk_17, ls_0, ls_1, ls_2, ls_3, ls_4, ls_5, ls_6, ls_7, ls_8, ls_9, ls_10, ls_11, ls_12, ls_13, ls_14, ls_15, ls_16, ls_17, ct1_i, ct1_r, wd8_0, wd8_i1, wd8_r1, wd8_i2, wd8_r2, wd8_i3, wd8_r3, wd8_i4, wd8_r4, wd8_i5, wd8_r5, wd8_i6, wd8_r6, wd8_i7, wd8_r7, wd8_i8, wd8_r8, wd8_l2, wd8_l3, wd8_l4, wd8_l5, wd8_l6, wd8_l7, wd8_l8, tl_s, tl_n, inR_t, bd_t, true_and, and_true, true_or, or_true, if_true_x, if_false_x, if_pos, if_neg, Int.toNat_natCast, natL, bI_0, bI_1, bI_ft, eq_self, b_tf, b_ft, not_true_eq_false, not_false_eq_true, hc.t70, hc.r70_4, hc.r70_5, hc.r70_6, hc.r70_7, hc.r70_8, hc.r70_10, hc.r70_11, hc.r70_12, hc.r70_14, hc.r70_15, hc.r70_16, hc.r70_17, hc.r70_19, hc.r70_21, hc.r70_23, hc.r70_24, hc.r70_26, hc.r70_27, hc.r70_28, hc.r70_29, hc.r70_30, hc.r70_31, hc.r70_32, hc.r70_33, hc.r70_36]
  (rw [e_251_105]; refine ⟨⟨hc.t70, by simp [wd_i, wd_r, wd_l, wd_0]⟩, ?_⟩)
  refine m_250 hc wi.2.1 s3 (ra := 89) (by omega) hc.t89 hc.z89 g4 gc wo.1 wo.2.1 (by rw [o4 90 (by omega) (by omega) (by omega), g3.1 90 (by omega), g2.1 90 (by omega)]; exact r90) (fun j hj => by rw [o4 91 (by omega) (by omega) (by omega), g3.1 91 (by omega), g2.1 91 (by omega)]; exact gp j hj) r4 z4 ev4 rb4 (by omega) (fun h5 vs => ?_)
  have ag : mvL rn (posW u G 0 (wnO u t G rn) (u 18 (G.getD 0 0))) (wnP u G rn L3) = wnP u G rn (wnO u t G rn) := by
    unfold wnP
    refine mvL_again (fun x hx => ?_)
    have k1 := (WI_win wi an r8 g1' wp).2.2.2.2.2.2.1
    have k2 := (WI_win wi an r8 g1' p3).2.2.2.2.2.2.1
    have : x.1 ∈ (posW u G 0 (wnO u t G rn) (u 18 (G.getD 0 0))).map (fun x => x.1) := k1.mem_iff.mpr (k2.mem_iff.mp (List.mem_map.mpr ⟨x, hx, rfl⟩))
    obtain ⟨y, hy, e⟩ := List.mem_map.mp this
    exact ⟨y, hy, e⟩
  rw [ag] at vs
  have o5 : ∀ a, a ≠ 73 → a ≠ 88 → a ≠ 89 → h5.1 a = h3.1 a := fun a q1 q2 q3 => by rw [vs.2.1.1 a q1]; exact o4 a q1 q2 q3
  have f5 : h5.2 = h0.2 := by rw [vs.2.1.2, f4, g3.2, g2.2, f1]
  have gv5 : GV7 h0 h5 := ⟨fun a q1 q2 q3 => by rw [o5 a q1 (by omega) (by omega), g3.1 a (by omega), g2.1 a (by omega), o1 a (by omega) (by omega)], f5⟩
  have r835 : h5.1 83 = h0.1 83 := by rw [o5 83 (by omega) (by omega) (by omega), g3.1 83 (by omega), g2.1 83 (by omega), o1 83 (by omega) (by omega)]
  simp (disch := first | assumption | omega) only [e_251_106, e_251_107, onI_s, onR_s, onL_s, gl_0, gl_n, gl_1, gl_2, gl_3, gl_4, gl_5, gl_6, gl_7, gl_8, gl_9, gl_10, gl_11, gl_12, gl_13, gl_14, gl_15, gl_16, gl_17, sk0i, sk0r, sk0n, sk1i, sk1r, sk1n, sk_2, sk_3, sk_4, sk_5, sk_6, sk_7, sk_8, sk_9, sk_10, sk_11, sk_12, sk_13, sk_14, sk_15, sk_16, sk_17, ls_0, ls_1, ls_2, ls_3, ls_4, ls_5, ls_6, ls_7, ls_8, ls_9, ls_10, ls_11, ls_12, ls_13, ls_14, ls_15, ls_16, ls_17, ct1_i, ct1_r, wd8_0, wd8_i1, wd8_r1, wd8_i2, wd8_r2, wd8_i3, wd8_r3, wd8_i4, wd8_r4, wd8_i5, wd8_r5, wd8_i6, wd8_r6, wd8_i7, wd8_r7, wd8_i8, wd8_r8, wd8_l2, wd8_l3, wd8_l4, wd8_l5, wd8_l6, wd8_l7, wd8_l8, tl_s, tl_n, inR_t, bd_t, true_and, and_true, true_or, or_true, if_true_x, if_false_x, if_pos, if_neg, Int.toNat_natCast, natL, bI_0, bI_1, bI_ft, eq_self, b_tf, b_ft, not_true_eq_false, not_false_eq_true]
  refine l_251e hc (h0 := h5) (C := C) g4 l20 wo.1 wo.2.1 (by rw [o5 90 (by omega) (by omega) (by omega), g3.1 90 (by omega), g2.1 90 (by omega)]; exact r90) (by rw [vs.2.1.1 89 (by omega)]; exact r4) G.length 0 h5 (by omega) vs.1 G1.refl (fun k => by rw [if_neg (by omega)]) (fun h6 z6 g6 p6 => ?_)
  refine hq h6 z6 (gv5.tr (g6.gv7 (by omega))) ((g6.vmk (by omega)).trans vs.2.2.1) (by rw [g6.1 73 (by omega)]; exact vs.2.2.2) (mid_R1 (R := h5.1 83) (by rw [r835]; exact r83) (by rw [List.length_map]; exact wo.1) p6)
set_option maxHeartbeats 8000000 in
theorem l_252j (hc : CT X ns nb ln) {h0 : xH} {v : Nat → Nat → Int} {t : Int} (gd : Gd v) {f bef : Int} {rn a n i k : Nat} (k2 : 2 ≤ k ∧ k ≤ 4) (i256 : i < 256) (an : a + n ≤ 32) (hr : gdR (fun s => decide (own v rn s = f)) (v 0 1).toNat (a, n)) (rR : (rn : Int) < v 0 0) (tm : TMb (h0.1 72)) (et : h0.1 72 4 = t) (h79 : h0.1 79 i = rn) : ∀ (m j : Nat) (Ly : List Nat) (u : Nat → Nat → Int) (h : xH), m = Ly.length + 1 - k - j → j ≤ 21 → Ly.length ≤ 20 → WI u v rn f a n Ly → NZ X h → GV7 h0 h → h0.2 70 20 = Ly.length → vm h = u → RBr (h.1 73) → R1 (h.1 83) Ly → (∀ h2 Ly2 x4, NZ X h2 → GV7 h0 h2 → vm h2 = wnJ t rn k m j Ly u → RBr (h2.1 73) → WI (wnJ t rn k m j Ly u) v rn f a n Ly2 → Ev X 252 48 [some (vr 70), some (vi k), some (vi bef), some (vi i), x4] [] h2 Q) → Ev X 252 32 [some (vr 70), some (vi k), some (vi bef), some (vi i), some (vi j)] [] h Q := by
  have r8 : rn < 8 := by
    have := gd.rg.rows
    omega
  intro m
  induction m with
  | zero =>
    intro j Ly u h hm j21 l20 wi z g n20 ev rb r83 hq
    have e20 : h.2 70 20 = Ly.length := by rw [g.2]; exact n20
    rw [wnJ] at hq
    rw [e_252_32]
    simp (disch := first | assumption | omega) only [e_252_33, e_252_34, e_252_35, e_252_36, e_252_37, onI_s, onR_s, onL_s, gl_0, gl_n, gl_1, gl_2, gl_3, gl_4, gl_5, gl_6, gl_7, gl_8, gl_9, gl_10, gl_11, gl_12, gl_13, gl_14, gl_15, gl_16, gl_17, sk0i, sk0r, sk0n, sk1i, sk1r, sk1n, sk_2, sk_3, sk_4, sk_5, sk_6, sk_7, sk_8, sk_9, sk_10, sk_11, sk_12, sk_13, sk_14, sk_15, sk_16, sk_17, ls_0, ls_1, ls_2, ls_3, ls_4, ls_5, ls_6, ls_7, ls_8, ls_9, ls_10, ls_11, ls_12, ls_13, ls_14, ls_15, ls_16, ls_17, ct1_i, ct1_r, wd8_0, wd8_i1, wd8_r1, wd8_i2, wd8_r2, wd8_i3, wd8_r3, wd8_i4, wd8_r4, wd8_i5, wd8_r5, wd8_i6, wd8_r6, wd8_i7, wd8_r7, wd8_i8, wd8_r8, wd8_l2, wd8_l3, wd8_l4, wd8_l5, wd8_l6, wd8_l7, wd8_l8, tl_s, tl_n, inR_t, bd_t, true_and, and_true, true_or, or_true, if_true_x, if_false_x, if_pos, if_neg, Int.toNat_natCast, natL, bI_0, bI_1, bI_ft, eq_self, b_tf, b_ft, not_true_eq_false, not_false_eq_true, e20, hc.t70, hc.r70_4, hc.r70_5, hc.r70_6, hc.r70_7, hc.r70_8, hc.r70_10, hc.r70_11, hc.r70_12, hc.r70_14, hc.r70_15, hc.r70_16, hc.r70_17, hc.r70_19, hc.r70_21, hc.r70_23, hc.r70_24, hc.r70_26, hc.r70_27, hc.r70_28, hc.r70_29, hc.r70_30, hc.r70_31, hc.r70_32, hc.r70_33, hc.r70_36]
    exact hq h Ly _ z g ev rb wi
  | succ m ih =>
    intro j Ly u h hm j21 l20 wi z g n20 ev rb r83 hq
    have e20 : h.2 70 20 = Ly.length := by rw [g.2]; exact n20
    have e79 : h.1 79 i = rn := by rw [g.1 79 (by omega) (by omega) (by omega)]; exact h79
    have jk : j + k ≤ Ly.length := by omega
    have ct := cut3 (Ly := Ly) j k
    rw [wnJ] at hq
    obtain ⟨A, hA⟩ : ∃ A, A = Ly.take j := ⟨_, rfl⟩
    obtain ⟨G, hG⟩ : ∃ G, G = (Ly.drop j).take k := ⟨_, rfl⟩
    obtain ⟨C, hC⟩ : ∃ C, C = Ly.drop (j + k) := ⟨_, rfl⟩
    rw [← hA, ← hG, ← hC] at ct hq
    have lA : A.length = j := by rw [hA, List.length_take]; omega
    have lG : G.length = k := by rw [hG, List.length_take, List.length_drop]; omega
    rw [ct] at wi r83
    have t1 : h.1 72 = h0.1 72 := g.1 72 (by omega) (by omega) (by omega)
    obtain ⟨wo, wp⟩ := wnO_ok (u := u) (t := t) (r := (rn : Int)) (G := G) (by omega)
    have ll : (A ++ ((wnO u t G rn).map (fun o => G.getD o 0) ++ C)).length = Ly.length := by
      rw [ct]
      simp only [List.length_append, List.length_map]
      rw [wo.1]
    rw [e_252_32]
    simp (disch := first | assumption | omega) only [e_252_33, e_252_34, e_252_35, e_252_36, e_252_37, e_252_38, e_252_39, e_252_40, e_252_41, e_252_42, e_252_43, e_252_44, onI_s, onR_s, onL_s, gl_0, gl_n, gl_1, gl_2, gl_3, gl_4, gl_5, gl_6, gl_7, gl_8, gl_9, gl_10, gl_11, gl_12, gl_13, gl_14, gl_15, gl_16, gl_17, sk0i, sk0r, sk0n, sk1i, sk1r, sk1n, sk_2, sk_3, sk_4, sk_5, sk_6, sk_7, sk_8, sk_9, sk_10, sk_11, sk_12, sk_13, sk_14, sk_15, sk_16, sk_17, ls_0, ls_1, ls_2, ls_3, ls_4, ls_5, ls_6, ls_7, ls_8, ls_9, ls_10, ls_11, ls_12, ls_13, ls_14, ls_15, ls_16, ls_17, ct1_i, ct1_r, wd8_0, wd8_i1, wd8_r1, wd8_i2, wd8_r2, wd8_i3, wd8_r3, wd8_i4, wd8_r4, wd8_i5, wd8_r5, wd8_i6, wd8_r6, wd8_i7, wd8_r7, wd8_i8, wd8_r8, wd8_l2, wd8_l3, wd8_l4, wd8_l5, wd8_l6, wd8_l7, wd8_l8, tl_s, tl_n, inR_t, bd_t, true_and, and_true, true_or, or_true, if_true_x, if_false_x, if_pos, if_neg, Int.toNat_natCast, natL, bI_0, bI_1, bI_ft, eq_self, b_tf, b_ft, not_true_eq_false, not_false_eq_true, e20, e79, hc.t70, hc.r70_4, hc.r70_5, hc.r70_6, hc.r70_7, hc.r70_8, hc.r70_10, hc.r70_11, hc.r70_12, hc.r70_14, hc.r70_15, hc.r70_16, hc.r70_17, hc.r70_19, hc.r70_21, hc.r70_23, hc.r70_24, hc.r70_26, hc.r70_27, hc.r70_28, hc.r70_29, hc.r70_30, hc.r70_31, hc.r70_32, hc.r70_33, hc.r70_36, hc.t79, hc.z79]
    (rw [e_252_45]; refine ⟨⟨hc.t70, by simp [wd_i, wd_r, wd_l, wd_0]⟩, ?_⟩)
    have key := m_251 (Q := fun r h2 => Ev X 252 46 [some (vr 70), some (vi k), some (vi bef), some (vi i), some (vi j)] (r.toList ++ []) h2 Q) (t := t) hc gd wi an r8 (by omega) (by omega) (by rw [← ct]; exact l20) (by rw [t1]; exact tm) (by rw [t1]; exact et) ev rb z r83 (fun h2 z2 g2 ev2 rb2 r2 => by
      simp (disch := first | assumption | omega) only [e_252_46, e_252_47, onI_s, onR_s, onL_s, gl_0, gl_n, gl_1, gl_2, gl_3, gl_4, gl_5, gl_6, gl_7, gl_8, gl_9, gl_10, gl_11, gl_12, gl_13, gl_14, gl_15, gl_16, gl_17, sk0i, sk0r, sk0n, sk1i, sk1r, sk1n, sk_2, sk_3, sk_4, sk_5, sk_6, sk_7, sk_8, sk_9, sk_10, sk_11, sk_12, sk_13, sk_14, sk_15, sk_16, sk_17, ls_0, ls_1, ls_2, ls_3, ls_4, ls_5, ls_6, ls_7, ls_8, ls_9, ls_10, ls_11, ls_12, ls_13, ls_14, ls_15, ls_16, ls_17, ct1_i, ct1_r, wd8_0, wd8_i1, wd8_r1, wd8_i2, wd8_r2, wd8_i3, wd8_r3, wd8_i4, wd8_r4, wd8_i5, wd8_r5, wd8_i6, wd8_r6, wd8_i7, wd8_r7, wd8_i8, wd8_r8, wd8_l2, wd8_l3, wd8_l4, wd8_l5, wd8_l6, wd8_l7, wd8_l8, tl_s, tl_n, inR_t, bd_t, true_and, and_true, true_or, or_true, if_true_x, if_false_x, if_pos, if_neg, Int.toNat_natCast, natL, bI_0, bI_1, bI_ft, eq_self, b_tf, b_ft, not_true_eq_false, not_false_eq_true, cast_s]
      exact ih (j + 1) _ _ h2 (by rw [ll]; omega) (by omega) (by rw [ll]; exact l20) (WI_step wi an hr rR (by omega) wp) z2 (g.tr g2) (by rw [ll]; exact n20) ev2 rb2 r2 hq)
    rw [lA, lG] at key
    exact key
def GW7 (h h2 : xH) : Prop := (∀ a, a ≠ 73 → a ≠ 83 → ¬ (88 ≤ a ∧ a ≤ 91) → h2.1 a = h.1 a) ∧ (∀ a k, ¬ (a = 70 ∧ k = 20) → h2.2 a k = h.2 a k)
theorem GW7.refl : GW7 h h := ⟨fun _ _ _ _ => rfl, fun _ _ _ => rfl⟩
theorem GW7.tr (g : GW7 h h2) (k : GW7 h2 h3) : GW7 h h3 := ⟨fun a q r s => (k.1 a q r s).trans (g.1 a q r s), fun a j q => (k.2 a j q).trans (g.2 a j q)⟩
theorem GV7.gw7 (g : GV7 h h2) : GW7 h h2 := ⟨g.1, fun a k _ => by rw [g.2]⟩
theorem GL.gw7 (g : GL h h2) : GW7 h h2 := ⟨fun a _ q _ => g.1 a q, g.2⟩
theorem GW7.gx (g : GW7 h h2) : GX h h2 := ⟨fun a q r => g.1 a q (by omega) (by omega), fun a k q => g.2 a k (by omega)⟩
set_option maxHeartbeats 8000000 in
theorem l_252 (hc : CT X ns nb ln) {h0 : xH} {v : Nat → Nat → Int} {t bef : Int} (gd : Gd v) {k : Nat} (k2 : 2 ≤ k ∧ k ≤ 4) (tm : TMb (h0.1 72)) (et : h0.1 72 4 = t) (hn : h0.2 70 18 = (rnL v).length) (ro : RO (h0.1 79) (h0.1 80) (h0.1 81) (h0.1 82) (rnL v)) : ∀ (M : List Rn) (i : Nat) (u : Nat → Nat → Int) (h : xH) (x4 : Option xV), (rnL v).drop i = M → i + M.length = (rnL v).length → GEO u → RGv u → SJ u v → FXs u v → NZ X h → GW7 h0 h → vm h = u → RBr (h.1 73) → (∀ h2 x3 x4, NZ X h2 → GW7 h0 h2 → vm h2 = wnR t k M u → RBr (h2.1 73) → RGv (wnR t k M u) → SJ (wnR t k M u) v → Ev X 252 50 [some (vr 70), some (vi k), some (vi bef), x3, x4] [] h2 Q) → Ev X 252 23 [some (vr 70), some (vi k), some (vi bef), some (vi i), x4] [] h Q := by
  have l256 := rnL_len gd.rg
  have ws := gd.rg.sites
  intro M
  induction M with
  | nil =>
    intro i u h x4 hd hk g w s fx z gw ev rb hq
    simp at hk
    have e18 : h.2 70 18 = (rnL v).length := by rw [gw.2 70 18 (by omega)]; exact hn
    rw [wnR] at hq
    rw [e_252_23]
    simp (disch := first | assumption | omega) only [e_252_24, e_252_25, e_252_26, onI_s, onR_s, onL_s, gl_0, gl_n, gl_1, gl_2, gl_3, gl_4, gl_5, gl_6, gl_7, gl_8, gl_9, gl_10, gl_11, gl_12, gl_13, gl_14, gl_15, gl_16, gl_17, sk0i, sk0r, sk0n, sk1i, sk1r, sk1n, sk_2, sk_3, sk_4, sk_5, sk_6, sk_7, sk_8, sk_9, sk_10, sk_11, sk_12, sk_13, sk_14, sk_15, sk_16, sk_17, ls_0, ls_1, ls_2, ls_3, ls_4, ls_5, ls_6, ls_7, ls_8, ls_9, ls_10, ls_11, ls_12, ls_13, ls_14, ls_15, ls_16, ls_17, ct1_i, ct1_r, wd8_0, wd8_i1, wd8_r1, wd8_i2, wd8_r2, wd8_i3, wd8_r3, wd8_i4, wd8_r4, wd8_i5, wd8_r5, wd8_i6, wd8_r6, wd8_i7, wd8_r7, wd8_i8, wd8_r8, wd8_l2, wd8_l3, wd8_l4, wd8_l5, wd8_l6, wd8_l7, wd8_l8, tl_s, tl_n, inR_t, bd_t, true_and, and_true, true_or, or_true, if_true_x, if_false_x, if_pos, if_neg, Int.toNat_natCast, natL, bI_0, bI_1, bI_ft, eq_self, b_tf, b_ft, not_true_eq_false, not_false_eq_true, e18, hc.t70, hc.r70_4, hc.r70_5, hc.r70_6, hc.r70_7, hc.r70_8, hc.r70_10, hc.r70_11, hc.r70_12, hc.r70_14, hc.r70_15, hc.r70_16, hc.r70_17, hc.r70_19, hc.r70_21, hc.r70_23, hc.r70_24, hc.r70_26, hc.r70_27, hc.r70_28, hc.r70_29, hc.r70_30, hc.r70_31, hc.r70_32, hc.r70_33, hc.r70_36]
    exact hq h _ _ z gw ev rb w s
  | cons x M ih =>
    intro i u h x4 hd hk g w s fx z gw ev rb hq
    rw [List.length_cons] at hk
    have hx : (rnL v)[i]? = some x := by
      have := List.getElem?_drop (xs := rnL v) (i := i) (j := 0)
      rw [hd] at this
      simpa using this.symm
    have hd2 : (rnL v).drop (i + 1) = M := by
      rw [← List.drop_drop, hd]
      rfl
    have xg := rnL_gd (List.mem_of_getElem? hx)
    obtain ⟨r, f, a, n⟩ := x
    obtain ⟨x1, f1, x3, xg⟩ := xg
    dsimp only at x1 f1 x3 xg
    have an : a + n ≤ 32 := by have := xg.2.1; dsimp only at this; omega
    obtain ⟨y1, y2, y3, y4⟩ := ro i _ hx
    dsimp only at y1 y2 y3 y4
    have e18 : h.2 70 18 = (rnL v).length := by rw [gw.2 70 18 (by omega)]; exact hn
    have z1 : h.1 79 i = r := by rw [gw.1 79 (by omega) (by omega) (by omega)]; exact y1
    have z3 : h.1 81 i = a := by rw [gw.1 81 (by omega) (by omega) (by omega)]; exact y3
    have z4 : h.1 82 i = n := by rw [gw.1 82 (by omega) (by omega) (by omega)]; exact y4
    have i256 : i < 256 := by omega
    have xgu : gdR (fun s => decide (own u r s = f)) (u 0 1).toNat (a, n) := by
      rw [show (fun s => decide (own u r s = f)) = (fun s => decide (own v r s = f)) from funext fun st => by rw [own_fx s fx], s 0 (by decide) (by decide)]
      exact xg
    have l20 := ly_len g w f1 xgu
    have wi := WI_start g w s fx f1 xg
    rw [wnR] at hq
    dsimp only at hq
    rw [e_252_23]
    simp (disch := first | assumption | omega) only [e_252_24, e_252_25, e_252_26, e_252_27, e_252_28, onI_s, onR_s, onL_s, gl_0, gl_n, gl_1, gl_2, gl_3, gl_4, gl_5, gl_6, gl_7, gl_8, gl_9, gl_10, gl_11, gl_12, gl_13, gl_14, gl_15, gl_16, gl_17, sk0i, sk0r, sk0n, sk1i, sk1r, sk1n, sk_2, sk_3, sk_4, sk_5, sk_6, sk_7, sk_8, sk_9, sk_10, sk_11, sk_12, sk_13, sk_14, sk_15, sk_16, sk_17, ls_0, ls_1, ls_2, ls_3, ls_4, ls_5, ls_6, ls_7, ls_8, ls_9, ls_10, ls_11, ls_12, ls_13, ls_14, ls_15, ls_16, ls_17, ct1_i, ct1_r, wd8_0, wd8_i1, wd8_r1, wd8_i2, wd8_r2, wd8_i3, wd8_r3, wd8_i4, wd8_r4, wd8_i5, wd8_r5, wd8_i6, wd8_r6, wd8_i7, wd8_r7, wd8_i8, wd8_r8, wd8_l2, wd8_l3, wd8_l4, wd8_l5, wd8_l6, wd8_l7, wd8_l8, tl_s, tl_n, inR_t, bd_t, true_and, and_true, true_or, or_true, if_true_x, if_false_x, if_pos, if_neg, Int.toNat_natCast, natL, bI_0, bI_1, bI_ft, eq_self, b_tf, b_ft, not_true_eq_false, not_false_eq_true, e18, hc.t70, hc.r70_4, hc.r70_5, hc.r70_6, hc.r70_7, hc.r70_8, hc.r70_10, hc.r70_11, hc.r70_12, hc.r70_14, hc.r70_15, hc.r70_16, hc.r70_17, hc.r70_19, hc.r70_21, hc.r70_23, hc.r70_24, hc.r70_26, hc.r70_27, hc.r70_28, hc.r70_29, hc.r70_30, hc.r70_31, hc.r70_32, hc.r70_33, hc.r70_36]
    (rw [e_252_29]; refine ⟨⟨hc.t70, by simp [wd_i, wd_r, wd_l, wd_0]⟩, ?_⟩)
    refine m_233 hc ev w z i256 z1 z3 z4 an l20 (fun h1 l1 => ?_)
    have g1 : GW7 h0 h1 := gw.tr l1.2.1.gw7
    have t1 : h1.1 72 = h0.1 72 := g1.1 72 (by omega) (by omega) (by omega)
    simp (disch := first | assumption | omega) only [e_252_30, e_252_31, onI_s, onR_s, onL_s, gl_0, gl_n, gl_1, gl_2, gl_3, gl_4, gl_5, gl_6, gl_7, gl_8, gl_9, gl_10, gl_11, gl_12, gl_13, gl_14, gl_15, gl_16, gl_17, sk0i, sk0r, sk0n, sk1i, sk1r, sk1n, sk_2, sk_3, sk_4, sk_5, sk_6, sk_7, sk_8, sk_9, sk_10, sk_11, sk_12, sk_13, sk_14, sk_15, sk_16, sk_17, ls_0, ls_1, ls_2, ls_3, ls_4, ls_5, ls_6, ls_7, ls_8, ls_9, ls_10, ls_11, ls_12, ls_13, ls_14, ls_15, ls_16, ls_17, ct1_i, ct1_r, wd8_0, wd8_i1, wd8_r1, wd8_i2, wd8_r2, wd8_i3, wd8_r3, wd8_i4, wd8_r4, wd8_i5, wd8_r5, wd8_i6, wd8_r6, wd8_i7, wd8_r7, wd8_i8, wd8_r8, wd8_l2, wd8_l3, wd8_l4, wd8_l5, wd8_l6, wd8_l7, wd8_l8, tl_s, tl_n, inR_t, bd_t, true_and, and_true, true_or, or_true, if_true_x, if_false_x, if_pos, if_neg, Int.toNat_natCast, natL, bI_0, bI_1, bI_ft, eq_self, b_tf, b_ft, not_true_eq_false, not_false_eq_true]
    refine l_252j hc (t := t) (h0 := h1) gd k2 i256 an xg (by omega) (by rw [t1]; exact tm) (by rw [t1]; exact et) (by rw [l1.2.1.1 79 (by omega)]; exact z1) ((lyL u r n a).length + 1 - k) 0 (lyL u r n a) u h1 (by omega) (by omega) l20 wi l1.1 GV7.refl l1.2.2.1 (l1.2.1.vm.trans ev) (by rw [l1.2.1.1 73 (by omega)]; exact rb) l1.2.2.2 (fun h2 Ly2 x4 z2 g2 ev2 rb2 wi2 => ?_)
    rw [e_252_48]
    simp (disch := first | assumption | omega) only [e_252_49, onI_s, onR_s, onL_s, gl_0, gl_n, gl_1, gl_2, gl_3, gl_4, gl_5, gl_6, gl_7, gl_8, gl_9, gl_10, gl_11, gl_12, gl_13, gl_14, gl_15, gl_16, gl_17, sk0i, sk0r, sk0n, sk1i, sk1r, sk1n, sk_2, sk_3, sk_4, sk_5, sk_6, sk_7, sk_8, sk_9, sk_10, sk_11, sk_12, sk_13, sk_14, sk_15, sk_16, sk_17, ls_0, ls_1, ls_2, ls_3, ls_4, ls_5, ls_6, ls_7, ls_8, ls_9, ls_10, ls_11, ls_12, ls_13, ls_14, ls_15, ls_16, ls_17, ct1_i, ct1_r, wd8_0, wd8_i1, wd8_r1, wd8_i2, wd8_r2, wd8_i3, wd8_r3, wd8_i4, wd8_r4, wd8_i5, wd8_r5, wd8_i6, wd8_r6, wd8_i7, wd8_r7, wd8_i8, wd8_r8, wd8_l2, wd8_l3, wd8_l4, wd8_l5, wd8_l6, wd8_l7, wd8_l8, tl_s, tl_n, inR_t, bd_t, true_and, and_true, true_or, or_true, if_true_x, if_false_x, if_pos, if_neg, Int.toNat_natCast, natL, bI_0, bI_1, bI_ft, eq_self, b_tf, b_ft, not_true_eq_false, not_false_eq_true, cast_s]
    exact ih (i + 1) _ h2 _ hd2 (by omega) wi2.1 wi2.2.1 wi2.2.2.1 wi2.2.2.2.1 z2 (g1.tr g2.gw7) ev2 rb2 hq
set_option maxHeartbeats 8000000 in
theorem q_252 {k : Int} (ok : Ok X h) (g : Gd (vm h)) (tm : TMb (h.1 72)) (rf : RFb (h.1 71)) (hq : ∀ h2, Mst X h h2 → mS h2 = (spWin (mS h) k).2 → Q (some (vi (spWin (mS h) k).1)) h2) : Ev X 252 3 [some (vr 70), some (vi k), none, none, none] [] h Q := by
  have ok0 := ok
  obtain ⟨z, os, oc, om, ⟨nb, ln, hc, hnb⟩, lp⟩ := ok
  have hw := g.rg
  have tt := tm.tall
  have wb := wir_bd g.wg tt.1 tt.2
  unfold spWin at hq
  rw [show (mS h).1 = vm h from rfl, show (mS h).2.1 = h.1 72 from rfl] at hq
  by_cases c : 2 ≤ k ∧ k ≤ 4
  · have d := bT c
    rw [if_neg (fun q => q c)] at hq
    obtain ⟨kk, rfl⟩ : ∃ kk : Nat, k = kk := ⟨k.toNat, by omega⟩
    rw [Int.toNat_natCast] at hq
    simp (disch := first | assumption | omega) only [e_252_3, e_252_4, e_252_5, e_252_6, e_252_7, e_252_8, e_252_13, e_252_14, onI_s, onR_s, onL_s, gl_0, gl_n, gl_1, gl_2, gl_3, gl_4, gl_5, gl_6, gl_7, gl_8, gl_9, gl_10, gl_11, gl_12, gl_13, gl_14, gl_15, gl_16, gl_17, sk0i, sk0r, sk0n, sk1i, sk1r, sk1n, sk_2, sk_3, sk_4, sk_5, sk_6, sk_7, sk_8, sk_9, sk_10, sk_11, sk_12, sk_13, sk_14, sk_15, sk_16, sk_17, ls_0, ls_1, ls_2, ls_3, ls_4, ls_5, ls_6, ls_7, ls_8, ls_9, ls_10, ls_11, ls_12, ls_13, ls_14, ls_15, ls_16, ls_17, ct1_i, ct1_r, wd8_0, wd8_i1, wd8_r1, wd8_i2, wd8_r2, wd8_i3, wd8_r3, wd8_i4, wd8_r4, wd8_i5, wd8_r5, wd8_i6, wd8_r6, wd8_i7, wd8_r7, wd8_i8, wd8_r8, wd8_l2, wd8_l3, wd8_l4, wd8_l5, wd8_l6, wd8_l7, wd8_l8, tl_s, tl_n, inR_t, bd_t, true_and, and_true, true_or, or_true, if_true_x, if_false_x, if_pos, if_neg, Int.toNat_natCast, natL, bI_0, bI_1, bI_ft, eq_self, b_tf, b_ft, not_true_eq_false, not_false_eq_true, m_149, inL_t, d, hc.t70, hc.r70_4, hc.r70_5, hc.r70_6, hc.r70_7, hc.r70_8, hc.r70_10, hc.r70_11, hc.r70_12, hc.r70_14, hc.r70_15, hc.r70_16, hc.r70_17, hc.r70_19, hc.r70_21, hc.r70_23, hc.r70_24, hc.r70_26, hc.r70_27, hc.r70_28, hc.r70_29, hc.r70_30, hc.r70_31, hc.r70_32, hc.r70_33, hc.r70_36]
    (rw [e_252_15]; refine ⟨⟨hc.t70, by simp [wd_i, wd_r, wd_l, wd_0]⟩, ?_⟩)
    refine kpM ok0 (fun h2 kp => ?_)
    have g2 : WG (vm h2) := by rw [kp.pv]; exact g.wg
    have tm2 : TMb (h2.1 72) := by rw [kp.t]; exact tm
    have rb2 : RBr (h2.1 73) := kp.1.2.2.2.1.2.1
    simp (disch := first | assumption | omega) only [e_252_16, e_252_17, e_252_18, e_252_19, onI_s, onR_s, onL_s, gl_0, gl_n, gl_1, gl_2, gl_3, gl_4, gl_5, gl_6, gl_7, gl_8, gl_9, gl_10, gl_11, gl_12, gl_13, gl_14, gl_15, gl_16, gl_17, sk0i, sk0r, sk0n, sk1i, sk1r, sk1n, sk_2, sk_3, sk_4, sk_5, sk_6, sk_7, sk_8, sk_9, sk_10, sk_11, sk_12, sk_13, sk_14, sk_15, sk_16, sk_17, ls_0, ls_1, ls_2, ls_3, ls_4, ls_5, ls_6, ls_7, ls_8, ls_9, ls_10, ls_11, ls_12, ls_13, ls_14, ls_15, ls_16, ls_17, ct1_i, ct1_r, wd8_0, wd8_i1, wd8_r1, wd8_i2, wd8_r2, wd8_i3, wd8_r3, wd8_i4, wd8_r4, wd8_i5, wd8_r5, wd8_i6, wd8_r6, wd8_i7, wd8_r7, wd8_i8, wd8_r8, wd8_l2, wd8_l3, wd8_l4, wd8_l5, wd8_l6, wd8_l7, wd8_l8, tl_s, tl_n, inR_t, bd_t, true_and, and_true, true_or, or_true, if_true_x, if_false_x, if_pos, if_neg, Int.toNat_natCast, natL, bI_0, bI_1, bI_ft, eq_self, b_tf, b_ft, not_true_eq_false, not_false_eq_true, wirM hc g2 tm2, kp.pv, kp.t, hc.t70, hc.r70_4, hc.r70_5, hc.r70_6, hc.r70_7, hc.r70_8, hc.r70_10, hc.r70_11, hc.r70_12, hc.r70_14, hc.r70_15, hc.r70_16, hc.r70_17, hc.r70_19, hc.r70_21, hc.r70_23, hc.r70_24, hc.r70_26, hc.r70_27, hc.r70_28, hc.r70_29, hc.r70_30, hc.r70_31, hc.r70_32, hc.r70_33, hc.r70_36]
    (rw [e_252_20]; refine ⟨⟨hc.t70, by simp [wd_i, wd_r, wd_l, wd_0]⟩, ?_⟩)
    refine m_231 hc kp.pv hw rb2 kp.1.1 (fun h3 s3 => ?_)
    have t3 : h3.1 72 = h.1 72 := by rw [s3.2.1.1 72 (by omega)]; exact kp.t
    simp (disch := first | assumption | omega) only [e_252_21, e_252_22, onI_s, onR_s, onL_s, gl_0, gl_n, gl_1, gl_2, gl_3, gl_4, gl_5, gl_6, gl_7, gl_8, gl_9, gl_10, gl_11, gl_12, gl_13, gl_14, gl_15, gl_16, gl_17, sk0i, sk0r, sk0n, sk1i, sk1r, sk1n, sk_2, sk_3, sk_4, sk_5, sk_6, sk_7, sk_8, sk_9, sk_10, sk_11, sk_12, sk_13, sk_14, sk_15, sk_16, sk_17, ls_0, ls_1, ls_2, ls_3, ls_4, ls_5, ls_6, ls_7, ls_8, ls_9, ls_10, ls_11, ls_12, ls_13, ls_14, ls_15, ls_16, ls_17, ct1_i, ct1_r, wd8_0, wd8_i1, wd8_r1, wd8_i2, wd8_r2, wd8_i3, wd8_r3, wd8_i4, wd8_r4, wd8_i5, wd8_r5, wd8_i6, wd8_r6, wd8_i7, wd8_r7, wd8_i8, wd8_r8, wd8_l2, wd8_l3, wd8_l4, wd8_l5, wd8_l6, wd8_l7, wd8_l8, tl_s, tl_n, inR_t, bd_t, true_and, and_true, true_or, or_true, if_true_x, if_false_x, if_pos, if_neg, Int.toNat_natCast, natL, bI_0, bI_1, bI_ft, eq_self, b_tf, b_ft, not_true_eq_false, not_false_eq_true]
    refine l_252 hc (t := h.1 72 4) (h0 := h3) g (by omega) (by rw [t3]; exact tm) (by rw [t3]) s3.2.2.1 s3.2.2.2 (rnL (vm h)) 0 (vm h) h3 _ (by simp) (by omega) g.geo hw SJ.refl (fun _ _ _ => ⟨rfl, rfl⟩) s3.1 GW7.refl (s3.2.1.vm.trans kp.pv) (by rw [s3.2.1.1 73 (by omega)]; exact rb2) (fun h4 x3 x4 z4 g4 ev4 rb4 w4 sj4 => ?_)
    have f4 : Fm X h2 h4 := (s3.2.1.gy.gx.tr g4.gx).fm z4 rb4
    have t4 : h4.1 72 = h.1 72 := by rw [f4.t]; exact kp.t
    have wgu : WG (wnR (h.1 72 4) kk (rnL (vm h)) (vm h)) := sj4.wg w4 g
    have wb2 := wir_bd wgu tt.1 tt.2
    rw [e_252_50]
    simp (disch := first | assumption | omega) only [e_252_51, e_252_52, e_252_53, e_252_54, e_252_55, e_252_56, onI_s, onR_s, onL_s, gl_0, gl_n, gl_1, gl_2, gl_3, gl_4, gl_5, gl_6, gl_7, gl_8, gl_9, gl_10, gl_11, gl_12, gl_13, gl_14, gl_15, gl_16, gl_17, sk0i, sk0r, sk0n, sk1i, sk1r, sk1n, sk_2, sk_3, sk_4, sk_5, sk_6, sk_7, sk_8, sk_9, sk_10, sk_11, sk_12, sk_13, sk_14, sk_15, sk_16, sk_17, ls_0, ls_1, ls_2, ls_3, ls_4, ls_5, ls_6, ls_7, ls_8, ls_9, ls_10, ls_11, ls_12, ls_13, ls_14, ls_15, ls_16, ls_17, ct1_i, ct1_r, wd8_0, wd8_i1, wd8_r1, wd8_i2, wd8_r2, wd8_i3, wd8_r3, wd8_i4, wd8_r4, wd8_i5, wd8_r5, wd8_i6, wd8_r6, wd8_i7, wd8_r7, wd8_i8, wd8_r8, wd8_l2, wd8_l3, wd8_l4, wd8_l5, wd8_l6, wd8_l7, wd8_l8, tl_s, tl_n, inR_t, bd_t, true_and, and_true, true_or, or_true, if_true_x, if_false_x, if_pos, if_neg, Int.toNat_natCast, natL, bI_0, bI_1, bI_ft, eq_self, b_tf, b_ft, not_true_eq_false, not_false_eq_true, wirM hc (show WG (vm h4) by rw [ev4]; exact wgu) (show TMb (h4.1 72) by rw [t4]; exact tm), m_153 hc, ev4, t4, hc.t70, hc.r70_4, hc.r70_5, hc.r70_6, hc.r70_7, hc.r70_8, hc.r70_10, hc.r70_11, hc.r70_12, hc.r70_14, hc.r70_15, hc.r70_16, hc.r70_17, hc.r70_19, hc.r70_21, hc.r70_23, hc.r70_24, hc.r70_26, hc.r70_27, hc.r70_28, hc.r70_29, hc.r70_30, hc.r70_31, hc.r70_32, hc.r70_33, hc.r70_36]
    have ac := act_m (r := wir (vm h) (h.1 72 4) - wir (wnR (h.1 72 4) kk (rnL (vm h)) (vm h)) (h.1 72 4)) kp f4 ev4
    exact hq _ ac.1 ac.2
  · have d := bF c
    rw [if_pos c] at hq
    simp (disch := first | assumption | omega) only [e_252_3, e_252_4, e_252_5, e_252_6, e_252_7, e_252_8, e_252_9, e_252_10, e_252_11, e_252_12, onI_s, onR_s, onL_s, gl_0, gl_n, gl_1, gl_2, gl_3, gl_4, gl_5, gl_6, gl_7, gl_8, gl_9, gl_10, gl_11, gl_12, gl_13, gl_14, gl_15, gl_16, gl_17, sk0i, sk0r, sk0n, sk1i, sk1r, sk1n, sk_2, sk_3, sk_4, sk_5, sk_6, sk_7, sk_8, sk_9, sk_10, sk_11, sk_12, sk_13, sk_14, sk_15, sk_16, sk_17, ls_0, ls_1, ls_2, ls_3, ls_4, ls_5, ls_6, ls_7, ls_8, ls_9, ls_10, ls_11, ls_12, ls_13, ls_14, ls_15, ls_16, ls_17, ct1_i, ct1_r, wd8_0, wd8_i1, wd8_r1, wd8_i2, wd8_r2, wd8_i3, wd8_r3, wd8_i4, wd8_r4, wd8_i5, wd8_r5, wd8_i6, wd8_r6, wd8_i7, wd8_r7, wd8_i8, wd8_r8, wd8_l2, wd8_l3, wd8_l4, wd8_l5, wd8_l6, wd8_l7, wd8_l8, tl_s, tl_n, inR_t, bd_t, true_and, and_true, true_or, or_true, if_true_x, if_false_x, if_pos, if_neg, Int.toNat_natCast, natL, bI_0, bI_1, bI_ft, eq_self, b_tf, b_ft, not_true_eq_false, not_false_eq_true, m_149, inL_t, d, rfM ok0 rf, hc.t70, hc.r70_4, hc.r70_5, hc.r70_6, hc.r70_7, hc.r70_8, hc.r70_10, hc.r70_11, hc.r70_12, hc.r70_14, hc.r70_15, hc.r70_16, hc.r70_17, hc.r70_19, hc.r70_21, hc.r70_23, hc.r70_24, hc.r70_26, hc.r70_27, hc.r70_28, hc.r70_29, hc.r70_30, hc.r70_31, hc.r70_32, hc.r70_33, hc.r70_36]
    exact hq _ (rM_st ok0 rf (by omega) (by omega)).1 (rM_st ok0 rf (by omega) (by omega)).2
theorem p_252 {k : Int} (ok : Ok X h) (g : Gd (vm h)) (tm : TMb (h.1 72)) (rf : RFb (h.1 71)) (hq : ∀ h2, Mst X h h2 → mS h2 = (spWin (mS h) k).2 → Q (some (vi (spWin (mS h) k).1)) h2) : Cl X 252 [vr 70, vi k] h Q := by
  obtain ⟨nb, ln, hc, hnb⟩ := ok.2.2.2.2.1
  rw [c_252]
  simp (disch := first | assumption | omega) only [e_252_0, e_252_1, e_252_2, onI_s, onR_s, onL_s, gl_0, gl_n, gl_1, gl_2, gl_3, gl_4, gl_5, gl_6, gl_7, gl_8, gl_9, gl_10, gl_11, gl_12, gl_13, gl_14, gl_15, gl_16, gl_17, sk0i, sk0r, sk0n, sk1i, sk1r, sk1n, sk_2, sk_3, sk_4, sk_5, sk_6, sk_7, sk_8, sk_9, sk_10, sk_11, sk_12, sk_13, sk_14, sk_15, sk_16, sk_17, ls_0, ls_1, ls_2, ls_3, ls_4, ls_5, ls_6, ls_7, ls_8, ls_9, ls_10, ls_11, ls_12, ls_13, ls_14, ls_15, ls_16, ls_17, ct1_i, ct1_r, wd8_0, wd8_i1, wd8_r1, wd8_i2, wd8_r2, wd8_i3, wd8_r3, wd8_i4, wd8_r4, wd8_i5, wd8_r5, wd8_i6, wd8_r6, wd8_i7, wd8_r7, wd8_i8, wd8_r8, wd8_l2, wd8_l3, wd8_l4, wd8_l5, wd8_l6, wd8_l7, wd8_l8, tl_s, tl_n, inR_t, bd_t, true_and, and_true, true_or, or_true, if_true_x, if_false_x, if_pos, if_neg, Int.toNat_natCast, natL, bI_0, bI_1, bI_ft, eq_self, b_tf, b_ft, not_true_eq_false, not_false_eq_true, hc.t70]
  exact q_252 (thr_ok ok) (by rw [thr_v]; exact g) tm rf (thr (sp := fun s => spWin s k) ok hq)
end WNN
