/-! SORTS in the reference: the search, the call -/
section SRB
variable {X : xL} {Q : Option xV → xH → Prop} {ns nb ln : Nat} {h h2 h3 : xH}
set_option maxHeartbeats 4000000 in
theorem m_246 (hc : CT X ns nb ln) {h0 : xH} {n : Nat} (n5 : n ≤ 5) (z : NZ X h0) (hq : ∀ h2, NZ X h2 → G1 88 h0 h2 → R1 (h2.1 88) (List.range n) → Q none h2) : Cl X 246 [vr 70, vi n] h0 Q := by
  have lp : ∀ (m i : Nat) (h : xH), i + m = n → NZ X h → G1 88 h0 h → R1 (h.1 88) (List.range i) → Ev X 246 2 [some (vr 70), some (vi n), some (vi i)] [] h Q := by
    intro m
    induction m with
    | zero =>
      intro i h hm z g r1
      rw [e_246_2]
      simp (disch := first | assumption | omega) only [e_246_3, e_246_4, e_246_12, onI_s, onR_s, onL_s, gl_0, gl_n, gl_1, gl_2, gl_3, gl_4, gl_5, gl_6, gl_7, gl_8, gl_9, gl_10, gl_11, gl_12, gl_13, gl_14, gl_15, gl_16, gl_17, sk0i, sk0r, sk0n, sk1i, sk1r, sk1n, sk_2, sk_3, sk_4, sk_5, sk_6, sk_7, sk_8, sk_9, sk_10, sk_11, sk_12, sk_13, sk_14, sk_15, sk_16, sk_17, ls_0, ls_1, ls_2, ls_3, ls_4, ls_5, ls_6, ls_7, ls_8, ls_9, ls_10, ls_11, ls_12, ls_13, ls_14, ls_15, ls_16, ls_17, ct1_i, ct1_r, wd8_0, wd8_i1, wd8_r1, wd8_i2, wd8_r2, wd8_i3, wd8_r3, wd8_i4, wd8_r4, wd8_i5, wd8_r5, wd8_i6, wd8_r6, wd8_i7, wd8_r7, wd8_i8, wd8_r8, wd8_l2, wd8_l3, wd8_l4, wd8_l5, wd8_l6, wd8_l7, wd8_l8, tl_s, tl_n, inR_t, bd_t, true_and, and_true, true_or, or_true, if_true_x, if_false_x, if_pos, if_neg, Int.toNat_natCast, natL, bI_0, bI_1, bI_ft, eq_self, b_tf, b_ft, not_true_eq_false, not_false_eq_true]
      rw [show i = n by omega] at r1
      exact hq h z g r1
    | succ m ih =>
      intro i h hm z g r1
      rw [e_246_2]
      simp (disch := first | assumption | omega) only [e_246_3, e_246_4, e_246_5, e_246_6, e_246_7, e_246_8, e_246_9, e_246_10, e_246_11, onI_s, onR_s, onL_s, gl_0, gl_n, gl_1, gl_2, gl_3, gl_4, gl_5, gl_6, gl_7, gl_8, gl_9, gl_10, gl_11, gl_12, gl_13, gl_14, gl_15, gl_16, gl_17, sk0i, sk0r, sk0n, sk1i, sk1r, sk1n, sk_2, sk_3, sk_4, sk_5, sk_6, sk_7, sk_8, sk_9, sk_10, sk_11, sk_12, sk_13, sk_14, sk_15, sk_16, sk_17, ls_0, ls_1, ls_2, ls_3, ls_4, ls_5, ls_6, ls_7, ls_8, ls_9, ls_10, ls_11, ls_12, ls_13, ls_14, ls_15, ls_16, ls_17, ct1_i, ct1_r, wd8_0, wd8_i1, wd8_r1, wd8_i2, wd8_r2, wd8_i3, wd8_r3, wd8_i4, wd8_r4, wd8_i5, wd8_r5, wd8_i6, wd8_r6, wd8_i7, wd8_r7, wd8_i8, wd8_r8, wd8_l2, wd8_l3, wd8_l4, wd8_l5, wd8_l6, wd8_l7, wd8_l8, tl_s, tl_n, inR_t, bd_t, true_and, and_true, true_or, or_true, if_true_x, if_false_x, if_pos, if_neg, Int.toNat_natCast, natL, bI_0, bI_1, bI_ft, eq_self, b_tf, b_ft, not_true_eq_false, not_false_eq_true, cast_s, hc.t70, hc.r70_4, hc.r70_5, hc.r70_6, hc.r70_7, hc.r70_8, hc.r70_10, hc.r70_11, hc.r70_12, hc.r70_14, hc.r70_15, hc.r70_16, hc.r70_17, hc.r70_19, hc.r70_21, hc.r70_23, hc.r70_24, hc.r70_26, hc.r70_27, hc.r70_28, hc.r70_29, hc.r70_30, hc.r70_31, hc.r70_32, hc.r70_33, hc.r70_36, hc.t88, hc.z88]
      refine ih (i + 1) (up2 h.1 88 i i, h.2) (by omega) (NZ.up (I := h.1) (F := h.2) z (by rw [hc.z88]; omega)) (g.tr ⟨fun a q => up2_of q, rfl⟩) ?_
      rw [List.range_succ]
      exact R1.snoc r1 (fun k => by dsimp only; rw [up2_same, List.length_range])
  rw [c_246]
  simp (disch := first | assumption | omega) only [e_246_0, e_246_1, onI_s, onR_s, onL_s, gl_0, gl_n, gl_1, gl_2, gl_3, gl_4, gl_5, gl_6, gl_7, gl_8, gl_9, gl_10, gl_11, gl_12, gl_13, gl_14, gl_15, gl_16, gl_17, sk0i, sk0r, sk0n, sk1i, sk1r, sk1n, sk_2, sk_3, sk_4, sk_5, sk_6, sk_7, sk_8, sk_9, sk_10, sk_11, sk_12, sk_13, sk_14, sk_15, sk_16, sk_17, ls_0, ls_1, ls_2, ls_3, ls_4, ls_5, ls_6, ls_7, ls_8, ls_9, ls_10, ls_11, ls_12, ls_13, ls_14, ls_15, ls_16, ls_17, ct1_i, ct1_r, wd8_0, wd8_i1, wd8_r1, wd8_i2, wd8_r2, wd8_i3, wd8_r3, wd8_i4, wd8_r4, wd8_i5, wd8_r5, wd8_i6, wd8_r6, wd8_i7, wd8_r7, wd8_i8, wd8_r8, wd8_l2, wd8_l3, wd8_l4, wd8_l5, wd8_l6, wd8_l7, wd8_l8, tl_s, tl_n, inR_t, bd_t, true_and, and_true, true_or, or_true, if_true_x, if_false_x, if_pos, if_neg, Int.toNat_natCast, natL, bI_0, bI_1, bI_ft, eq_self, b_tf, b_ft, not_true_eq_false, not_false_eq_true]
  exact lp n 0 h0 (by omega) z G1.refl R1.nil
set_option maxHeartbeats 8000000 in
theorem m_260 (hc : CT X ns nb ln) {h0 : xH} {u v : Nat → Nat → Int} {G B : List Nat} {ra : Nat} (hra : 88 ≤ ra ∧ ra ≤ 91) (ht : X.1 ra = 13) (hz : X.2.1 ra = 5) (g5 : G.length ≤ 5) (gc : ∀ c, c ∈ G → c < 20) (hB : B.length = G.length) (ho : ∀ o, o ∈ B → o < G.length) (gs : GSm h0 v G) (rB : R1 (h0.1 ra) B) (z : NZ X h0) (ev : vm h0 = u) (rb : RBr (h0.1 73)) (hq : ∀ h2, VS X h0 h2 (ptG v G G B u) → Q none h2) : Cl X 260 [vr 70, vr ra] h0 Q := by
  have lp : ∀ (Gs Os : List Nat) (i : Nat) (u : Nat → Nat → Int) (h : xH), G.drop i = Gs → B.drop i = Os → i + Gs.length = G.length → i + Os.length = G.length → VS X h0 h u → (∀ h2, VS X h0 h2 (ptG v G Gs Os u) → Q none h2) → Ev X 260 2 [some (vr 70), some (vr ra), some (vi i)] [] h Q := by
    intro Gs
    induction Gs with
    | nil =>
      intro Os i u h hd hd2 hk hk2 vs hq
      have : Os = [] := by
        cases Os with
        | nil => rfl
        | cons x y => simp at hk hk2; omega
      rw [this, ptG] at hq
      · simp at hk
        have n34 : h.2 70 34 = G.length := by rw [vs.2.1.2]; exact gs.1
        rw [e_260_2]
        simp (disch := first | assumption | omega) only [e_260_3, e_260_4, e_260_5, e_260_26, onI_s, onR_s, onL_s, gl_0, gl_n, gl_1, gl_2, gl_3, gl_4, gl_5, gl_6, gl_7, gl_8, gl_9, gl_10, gl_11, gl_12, gl_13, gl_14, gl_15, gl_16, gl_17, sk0i, sk0r, sk0n, sk1i, sk1r, sk1n, sk_2, sk_3, sk_4, sk_5, sk_6, sk_7, sk_8, sk_9, sk_10, sk_11, sk_12, sk_13, sk_14, sk_15, sk_16, sk_17, ls_0, ls_1, ls_2, ls_3, ls_4, ls_5, ls_6, ls_7, ls_8, ls_9, ls_10, ls_11, ls_12, ls_13, ls_14, ls_15, ls_16, ls_17, ct1_i, ct1_r, wd8_0, wd8_i1, wd8_r1, wd8_i2, wd8_r2, wd8_i3, wd8_r3, wd8_i4, wd8_r4, wd8_i5, wd8_r5, wd8_i6, wd8_r6, wd8_i7, wd8_r7, wd8_i8, wd8_r8, wd8_l2, wd8_l3, wd8_l4, wd8_l5, wd8_l6, wd8_l7, wd8_l8, tl_s, tl_n, inR_t, bd_t, true_and, and_true, true_or, or_true, if_true_x, if_false_x, if_pos, if_neg, Int.toNat_natCast, natL, bI_0, bI_1, bI_ft, eq_self, b_tf, b_ft, not_true_eq_false, not_false_eq_true, n34, hc.t70, hc.r70_4, hc.r70_5, hc.r70_6, hc.r70_7, hc.r70_8, hc.r70_10, hc.r70_11, hc.r70_12, hc.r70_14, hc.r70_15, hc.r70_16, hc.r70_17, hc.r70_19, hc.r70_21, hc.r70_23, hc.r70_24, hc.r70_26, hc.r70_27, hc.r70_28, hc.r70_29, hc.r70_30, hc.r70_31, hc.r70_32, hc.r70_33, hc.r70_36]
        exact hq h vs
      all_goals simp
    | cons c Gs ih =>
      intro Os i u h hd hd2 hk hk2 vs hq
      cases Os with
      | nil => simp at hk hk2; omega
      | cons o Os =>
        rw [List.length_cons] at hk hk2
        have hx : G[i]? = some c := by
          have := List.getElem?_drop (xs := G) (i := i) (j := 0)
          rw [hd] at this
          simpa using this.symm
        have hx2 : B[i]? = some o := by
          have := List.getElem?_drop (xs := B) (i := i) (j := 0)
          rw [hd2] at this
          simpa using this.symm
        have hdn : G.drop (i + 1) = Gs := by rw [← List.drop_drop, hd]; rfl
        have hdn2 : B.drop (i + 1) = Os := by rw [← List.drop_drop, hd2]; rfl
        have c20 := gc c (List.mem_of_getElem? hx)
        have ol := ho o (List.mem_of_getElem? hx2)
        have n34 : h.2 70 34 = G.length := by rw [vs.2.1.2]; exact gs.1
        have e92 : h.1 92 i = c := by rw [vs.2.1.1 92 (by omega)]; exact gs.2.1 i c hx
        have eB : h.1 ra i = o := by rw [vs.2.1.1 ra (by omega)]; exact rB i o hx2
        have e93 : h.1 93 o = v 17 (G.getD o 0) := by rw [vs.2.1.1 93 (by omega)]; exact (gs.2.2 o ol).1
        have e94 : h.1 94 o = v 18 (G.getD o 0) := by rw [vs.2.1.1 94 (by omega)]; exact (gs.2.2 o ol).2
        rw [ptG] at hq
        rw [e_260_2]
        simp (disch := first | assumption | omega) only [e_260_3, e_260_4, e_260_5, e_260_6, e_260_7, e_260_8, e_260_9, e_260_10, e_260_11, e_260_12, e_260_13, e_260_14, e_260_15, e_260_16, e_260_17, e_260_18, e_260_19, e_260_20, e_260_21, e_260_22, e_260_23, onI_s, onR_s, onL_s, gl_0, gl_n, gl_1, gl_2, gl_3, gl_4, gl_5, gl_6, gl_7, gl_8, gl_9, gl_10, gl_11, gl_12, gl_13, gl_14, gl_15, gl_16, gl_17, sk0i, sk0r, sk0n, sk1i, sk1r, sk1n, sk_2, sk_3, sk_4, sk_5, sk_6, sk_7, sk_8, sk_9, sk_10, sk_11, sk_12, sk_13, sk_14, sk_15, sk_16, sk_17, ls_0, ls_1, ls_2, ls_3, ls_4, ls_5, ls_6, ls_7, ls_8, ls_9, ls_10, ls_11, ls_12, ls_13, ls_14, ls_15, ls_16, ls_17, ct1_i, ct1_r, wd8_0, wd8_i1, wd8_r1, wd8_i2, wd8_r2, wd8_i3, wd8_r3, wd8_i4, wd8_r4, wd8_i5, wd8_r5, wd8_i6, wd8_r6, wd8_i7, wd8_r7, wd8_i8, wd8_r8, wd8_l2, wd8_l3, wd8_l4, wd8_l5, wd8_l6, wd8_l7, wd8_l8, tl_s, tl_n, inR_t, bd_t, true_and, and_true, true_or, or_true, if_true_x, if_false_x, if_pos, if_neg, Int.toNat_natCast, natL, bI_0, bI_1, bI_ft, eq_self, b_tf, b_ft, not_true_eq_false, not_false_eq_true, n34, e92, eB, e93, e94, ht, hz, m_166 hc, hc.t70, hc.r70_4, hc.r70_5, hc.r70_6, hc.r70_7, hc.r70_8, hc.r70_10, hc.r70_11, hc.r70_12, hc.r70_14, hc.r70_15, hc.r70_16, hc.r70_17, hc.r70_19, hc.r70_21, hc.r70_23, hc.r70_24, hc.r70_26, hc.r70_27, hc.r70_28, hc.r70_29, hc.r70_30, hc.r70_31, hc.r70_32, hc.r70_33, hc.r70_36, hc.t92, hc.z92, hc.t93, hc.z93, hc.t94, hc.z94]
        rw [e_260_24]
        simp (disch := first | assumption | omega) only [e_260_25, onI_s, onR_s, onL_s, gl_0, gl_n, gl_1, gl_2, gl_3, gl_4, gl_5, gl_6, gl_7, gl_8, gl_9, gl_10, gl_11, gl_12, gl_13, gl_14, gl_15, gl_16, gl_17, sk0i, sk0r, sk0n, sk1i, sk1r, sk1n, sk_2, sk_3, sk_4, sk_5, sk_6, sk_7, sk_8, sk_9, sk_10, sk_11, sk_12, sk_13, sk_14, sk_15, sk_16, sk_17, ls_0, ls_1, ls_2, ls_3, ls_4, ls_5, ls_6, ls_7, ls_8, ls_9, ls_10, ls_11, ls_12, ls_13, ls_14, ls_15, ls_16, ls_17, ct1_i, ct1_r, wd8_0, wd8_i1, wd8_r1, wd8_i2, wd8_r2, wd8_i3, wd8_r3, wd8_i4, wd8_r4, wd8_i5, wd8_r5, wd8_i6, wd8_r6, wd8_i7, wd8_r7, wd8_i8, wd8_r8, wd8_l2, wd8_l3, wd8_l4, wd8_l5, wd8_l6, wd8_l7, wd8_l8, tl_s, tl_n, inR_t, bd_t, true_and, and_true, true_or, or_true, if_true_x, if_false_x, if_pos, if_neg, Int.toNat_natCast, natL, bI_0, bI_1, bI_ft, eq_self, b_tf, b_ft, not_true_eq_false, not_false_eq_true, cast_s]
        exact ih Os (i + 1) _ _ hdn hdn2 (by omega) (by omega) (vs.gv hc c20) hq
  rw [c_260]
  simp (disch := first | assumption | omega) only [e_260_0, e_260_1, onI_s, onR_s, onL_s, gl_0, gl_n, gl_1, gl_2, gl_3, gl_4, gl_5, gl_6, gl_7, gl_8, gl_9, gl_10, gl_11, gl_12, gl_13, gl_14, gl_15, gl_16, gl_17, sk0i, sk0r, sk0n, sk1i, sk1r, sk1n, sk_2, sk_3, sk_4, sk_5, sk_6, sk_7, sk_8, sk_9, sk_10, sk_11, sk_12, sk_13, sk_14, sk_15, sk_16, sk_17, ls_0, ls_1, ls_2, ls_3, ls_4, ls_5, ls_6, ls_7, ls_8, ls_9, ls_10, ls_11, ls_12, ls_13, ls_14, ls_15, ls_16, ls_17, ct1_i, ct1_r, wd8_0, wd8_i1, wd8_r1, wd8_i2, wd8_r2, wd8_i3, wd8_r3, wd8_i4, wd8_r4, wd8_i5, wd8_r5, wd8_i6, wd8_r6, wd8_i7, wd8_r7, wd8_i8, wd8_r8, wd8_l2, wd8_l3, wd8_l4, wd8_l5, wd8_l6, wd8_l7, wd8_l8, tl_s, tl_n, inR_t, bd_t, true_and, and_true, true_or, or_true, if_true_x, if_false_x, if_pos, if_neg, Int.toNat_natCast, natL, bI_0, bI_1, bI_ft, eq_self, b_tf, b_ft, not_true_eq_false, not_false_eq_true]
  exact lp G B 0 u h0 (by simp) (by simp) (by omega) (by omega) ⟨z, M73.refl, ev, rb⟩ hq
def GT7 (h h2 : xH) : Prop := (∀ a, a ≠ 73 → ¬ (88 ≤ a ∧ a ≤ 94) → h2.1 a = h.1 a) ∧ (∀ a k, ¬ (a = 70 ∧ k = 34) → h2.2 a k = h.2 a k)
theorem GT7.refl : GT7 h h := ⟨fun _ _ _ => rfl, fun _ _ _ => rfl⟩
theorem GT7.tr (g : GT7 h h2) (k : GT7 h2 h3) : GT7 h h3 := ⟨fun a q r => (k.1 a q r).trans (g.1 a q r), fun a j q => (k.2 a j q).trans (g.2 a j q)⟩
theorem GT7.fm (g : GT7 h h2) (z : NZ X h2) (r : RBr (h2.1 73)) : Fm X h h2 := ⟨z, fun a q => ⟨g.1 a (by omega) (by omega), funext fun k => g.2 a k (by omega)⟩, fun a q => g.1 a (by omega) (by omega), fun k q => g.2 70 k (by omega), r⟩
theorem G1.gt7 {k : Nat} (g : G1 k h h2) (hk : 88 ≤ k ∧ k ≤ 94) : GT7 h h2 := ⟨fun a _ q => g.1 a (by omega), fun a k _ => by rw [g.2]⟩
theorem M73.gt7 (g : M73 h h2) : GT7 h h2 := ⟨fun a q _ => g.1 a q, fun a k _ => by rw [g.2]⟩
theorem GGp.gt7 (g : GGp h h2) : GT7 h h2 := ⟨fun a _ q => g.1 a (by omega) (by omega) (by omega), g.2⟩
theorem G1.vmk {k : Nat} (g : G1 k h h2) (hk : k ≠ 73) : vm h2 = vm h := by
  unfold vm
  rw [g.1 73 (by omega), g.2]
theorem GSm.g1 {k : Nat} {v : Nat → Nat → Int} {G : List Nat} (s : GSm h v G) (g : G1 k h h2) (hk : k < 92) : GSm h2 v G := by
  unfold GSm at s ⊢
  rw [g.1 92 (by omega), g.1 93 (by omega), g.1 94 (by omega), g.2]
  exact s
theorem GSm.m73 {v : Nat → Nat → Int} {G : List Nat} (s : GSm h v G) (g : M73 h h2) : GSm h2 v G := by
  unfold GSm at s ⊢
  rw [g.1 92 (by omega), g.1 93 (by omega), g.1 94 (by omega), g.2]
  exact s
set_option maxHeartbeats 8000000 in
theorem l_261 (hc : CT X ns nb ln) {h0 : xH} {v : Nat → Nat → Int} {t : Int} (gd0 : ∃ v0, Gd v0 ∧ SJ v v0) (wv : RGv v) (tm : TMb (h0.1 72)) (et : h0.1 72 4 = t) {G : List Nat} (g5 : G.length ≤ 5) (gc : ∀ c, c ∈ G → c < 20) (hs : ∀ o, o < G.length → rgS (v 17 (G.getD o 0)) (v 18 (G.getD o 0))) : ∀ (Os : List (List Nat)) (L L2 B : List Nat) (le : Int) (h : xH) (x2 : Option xV), chB L Os = true → L.length = G.length → B.length = G.length → L2.length = G.length → (∀ O, O ∈ Os → OKO G.length O) → NZ X h → GT7 h0 h → GSm h v G → R1 (h.1 88) L → R1 (h.1 89) B → vm h = ptG v G G L2 v → RBr (h.1 73) → (∀ h2 L3 x1 x2, NZ X h2 → GT7 h0 h2 → GSm h2 v G → R1 (h2.1 89) (bsO (fun O => wir (ptG v G G O v) t) Os B le) → L3.length = G.length → vm h2 = ptG v G G L3 v → RBr (h2.1 73) → Ev X 261 33 [some (vr 70), x1, x2] [] h2 Q) → Ev X 261 11 [some (vr 70), some (vi le), x2] [] h Q := by
  obtain ⟨v0, g0, sj0⟩ := gd0
  intro Os
  induction Os with
  | nil =>
    intro L L2 B le h x2 ch lL lB lL2 ok z g gs r1 r2 ev rb hq
    rw [chB] at ch
    have nn := of_decide_eq_true ch
    have n34 := gs.1
    rw [← lL] at n34
    rw [e_261_11]
    simp (disch := first | assumption | omega) only [e_261_12, e_261_13, onI_s, onR_s, onL_s, gl_0, gl_n, gl_1, gl_2, gl_3, gl_4, gl_5, gl_6, gl_7, gl_8, gl_9, gl_10, gl_11, gl_12, gl_13, gl_14, gl_15, gl_16, gl_17, sk0i, sk0r, sk0n, sk1i, sk1r, sk1n, sk_2, sk_3, sk_4, sk_5, sk_6, sk_7, sk_8, sk_9, sk_10, sk_11, sk_12, sk_13, sk_14, sk_15, sk_16, sk_17, ls_0, ls_1, ls_2, ls_3, ls_4, ls_5, ls_6, ls_7, ls_8, ls_9, ls_10, ls_11, ls_12, ls_13, ls_14, ls_15, ls_16, ls_17, ct1_i, ct1_r, wd8_0, wd8_i1, wd8_r1, wd8_i2, wd8_r2, wd8_i3, wd8_r3, wd8_i4, wd8_r4, wd8_i5, wd8_r5, wd8_i6, wd8_r6, wd8_i7, wd8_r7, wd8_i8, wd8_r8, wd8_l2, wd8_l3, wd8_l4, wd8_l5, wd8_l6, wd8_l7, wd8_l8, tl_s, tl_n, inR_t, bd_t, true_and, and_true, true_or, or_true, if_true_x, if_false_x, if_pos, if_neg, Int.toNat_natCast, natL, bI_0, bI_1, bI_ft, eq_self, b_tf, b_ft, not_true_eq_false, not_false_eq_true, n34, hc.t70, hc.r70_4, hc.r70_5, hc.r70_6, hc.r70_7, hc.r70_8, hc.r70_10, hc.r70_11, hc.r70_12, hc.r70_14, hc.r70_15, hc.r70_16, hc.r70_17, hc.r70_19, hc.r70_21, hc.r70_23, hc.r70_24, hc.r70_26, hc.r70_27, hc.r70_28, hc.r70_29, hc.r70_30, hc.r70_31, hc.r70_32, hc.r70_33, hc.r70_36]
    (rw [e_261_14]; refine ⟨⟨hc.t70, by simp [wd_i, wd_r, wd_l, wd_0]⟩, ?_⟩)
    refine m_247 hc (by omega) r1 z (fun _ => ?_) (fun M e2 => by rw [nn] at e2; cases e2)
    simp (disch := first | assumption | omega) only [e_261_15, onI_s, onR_s, onL_s, gl_0, gl_n, gl_1, gl_2, gl_3, gl_4, gl_5, gl_6, gl_7, gl_8, gl_9, gl_10, gl_11, gl_12, gl_13, gl_14, gl_15, gl_16, gl_17, sk0i, sk0r, sk0n, sk1i, sk1r, sk1n, sk_2, sk_3, sk_4, sk_5, sk_6, sk_7, sk_8, sk_9, sk_10, sk_11, sk_12, sk_13, sk_14, sk_15, sk_16, sk_17, ls_0, ls_1, ls_2, ls_3, ls_4, ls_5, ls_6, ls_7, ls_8, ls_9, ls_10, ls_11, ls_12, ls_13, ls_14, ls_15, ls_16, ls_17, ct1_i, ct1_r, wd8_0, wd8_i1, wd8_r1, wd8_i2, wd8_r2, wd8_i3, wd8_r3, wd8_i4, wd8_r4, wd8_i5, wd8_r5, wd8_i6, wd8_r6, wd8_i7, wd8_r7, wd8_i8, wd8_r8, wd8_l2, wd8_l3, wd8_l4, wd8_l5, wd8_l6, wd8_l7, wd8_l8, tl_s, tl_n, inR_t, bd_t, true_and, and_true, true_or, or_true, if_true_x, if_false_x, if_pos, if_neg, Int.toNat_natCast, natL, bI_0, bI_1, bI_ft, eq_self, b_tf, b_ft, not_true_eq_false, not_false_eq_true]
    exact hq h L2 _ _ z g gs r2 lL2 ev rb
  | cons O Os ih =>
    intro L L2 B le h x2 ch lL lB lL2 ok z g gs r1 r2 ev rb hq
    rw [chB, Bool.and_eq_true] at ch
    have nn := of_decide_eq_true ch.1
    have oo := ok O (by simp)
    have n34 := gs.1
    have n34' := n34
    rw [← lL] at n34'
    rw [bsO] at hq
    rw [e_261_11]
    simp (disch := first | assumption | omega) only [e_261_12, e_261_13, onI_s, onR_s, onL_s, gl_0, gl_n, gl_1, gl_2, gl_3, gl_4, gl_5, gl_6, gl_7, gl_8, gl_9, gl_10, gl_11, gl_12, gl_13, gl_14, gl_15, gl_16, gl_17, sk0i, sk0r, sk0n, sk1i, sk1r, sk1n, sk_2, sk_3, sk_4, sk_5, sk_6, sk_7, sk_8, sk_9, sk_10, sk_11, sk_12, sk_13, sk_14, sk_15, sk_16, sk_17, ls_0, ls_1, ls_2, ls_3, ls_4, ls_5, ls_6, ls_7, ls_8, ls_9, ls_10, ls_11, ls_12, ls_13, ls_14, ls_15, ls_16, ls_17, ct1_i, ct1_r, wd8_0, wd8_i1, wd8_r1, wd8_i2, wd8_r2, wd8_i3, wd8_r3, wd8_i4, wd8_r4, wd8_i5, wd8_r5, wd8_i6, wd8_r6, wd8_i7, wd8_r7, wd8_i8, wd8_r8, wd8_l2, wd8_l3, wd8_l4, wd8_l5, wd8_l6, wd8_l7, wd8_l8, tl_s, tl_n, inR_t, bd_t, true_and, and_true, true_or, or_true, if_true_x, if_false_x, if_pos, if_neg, Int.toNat_natCast, natL, bI_0, bI_1, bI_ft, eq_self, b_tf, b_ft, not_true_eq_false, not_false_eq_true, n34', hc.t70, hc.r70_4, hc.r70_5, hc.r70_6, hc.r70_7, hc.r70_8, hc.r70_10, hc.r70_11, hc.r70_12, hc.r70_14, hc.r70_15, hc.r70_16, hc.r70_17, hc.r70_19, hc.r70_21, hc.r70_23, hc.r70_24, hc.r70_26, hc.r70_27, hc.r70_28, hc.r70_29, hc.r70_30, hc.r70_31, hc.r70_32, hc.r70_33, hc.r70_36]
    (rw [e_261_14]; refine ⟨⟨hc.t70, by simp [wd_i, wd_r, wd_l, wd_0]⟩, ?_⟩)
    refine m_247 hc (by omega) r1 z (fun e2 => by rw [nn] at e2; cases e2) (fun M e2 h2 z2 g2 r12 => ?_)
    have em : M = O := by rw [nn] at e2; exact (Option.some.inj e2).symm
    rw [em] at r12
    have gs2 := gs.g1 g2 (by omega)
    have ev2 : vm h2 = ptG v G G L2 v := (g2.vmk (by omega)).trans ev
    simp (disch := first | assumption | omega) only [e_261_15, e_261_16, e_261_17, e_261_18, onI_s, onR_s, onL_s, gl_0, gl_n, gl_1, gl_2, gl_3, gl_4, gl_5, gl_6, gl_7, gl_8, gl_9, gl_10, gl_11, gl_12, gl_13, gl_14, gl_15, gl_16, gl_17, sk0i, sk0r, sk0n, sk1i, sk1r, sk1n, sk_2, sk_3, sk_4, sk_5, sk_6, sk_7, sk_8, sk_9, sk_10, sk_11, sk_12, sk_13, sk_14, sk_15, sk_16, sk_17, ls_0, ls_1, ls_2, ls_3, ls_4, ls_5, ls_6, ls_7, ls_8, ls_9, ls_10, ls_11, ls_12, ls_13, ls_14, ls_15, ls_16, ls_17, ct1_i, ct1_r, wd8_0, wd8_i1, wd8_r1, wd8_i2, wd8_r2, wd8_i3, wd8_r3, wd8_i4, wd8_r4, wd8_i5, wd8_r5, wd8_i6, wd8_r6, wd8_i7, wd8_r7, wd8_i8, wd8_r8, wd8_l2, wd8_l3, wd8_l4, wd8_l5, wd8_l6, wd8_l7, wd8_l8, tl_s, tl_n, inR_t, bd_t, true_and, and_true, true_or, or_true, if_true_x, if_false_x, if_pos, if_neg, Int.toNat_natCast, natL, bI_0, bI_1, bI_ft, eq_self, b_tf, b_ft, not_true_eq_false, not_false_eq_true, hc.t70, hc.r70_4, hc.r70_5, hc.r70_6, hc.r70_7, hc.r70_8, hc.r70_10, hc.r70_11, hc.r70_12, hc.r70_14, hc.r70_15, hc.r70_16, hc.r70_17, hc.r70_19, hc.r70_21, hc.r70_23, hc.r70_24, hc.r70_26, hc.r70_27, hc.r70_28, hc.r70_29, hc.r70_30, hc.r70_31, hc.r70_32, hc.r70_33, hc.r70_36]
    (rw [e_261_19]; refine ⟨⟨hc.t70, by simp [wd_i, wd_r, wd_l, wd_0]⟩, ?_⟩)
    refine m_260 hc (ra := 88) (by omega) hc.t88 hc.z88 g5 gc oo.1 oo.2.1 gs2 r12 z2 ev2 (by rw [g2.1 73 (by omega)]; exact rb) (fun h3 vs => ?_)
    rw [ptG_again oo.1.symm] at vs
    have w3 : RGv (ptG v G G O v) := ptG_rg hs G O v oo.2.1 wv
    have sj3 : SJ (ptG v G G O v) v0 := ptG_sj G O v v0 sj0
    have wg3 : WG (vm h3) := by rw [vs.2.2.1]; exact sj3.wg w3 g0
    have t3 : h3.1 72 = h0.1 72 := by rw [vs.2.1.1 72 (by omega), g2.1 72 (by omega), g.1 72 (by omega) (by omega)]
    have tm3 : TMb (h3.1 72) := by rw [t3]; exact tm
    have ev3 := vs.2.2.1
    have et3 : h3.1 72 4 = t := by rw [t3]; exact et
    have gs3 := gs2.m73 vs.2.1
    have n343 := gs3.1
    have g03 : GT7 h0 h3 := g.tr ((g2.gt7 (by omega)).tr vs.2.1.gt7)
    by_cases e : wir (ptG v G G O v) t < le
    · rw [if_pos e] at hq
      have n343' := n343
      rw [← oo.1] at n343'
      simp (disch := first | assumption | omega) only [e_261_20, e_261_21, e_261_22, e_261_23, e_261_24, e_261_25, e_261_26, e_261_27, e_261_28, e_261_29, e_261_30, onI_s, onR_s, onL_s, gl_0, gl_n, gl_1, gl_2, gl_3, gl_4, gl_5, gl_6, gl_7, gl_8, gl_9, gl_10, gl_11, gl_12, gl_13, gl_14, gl_15, gl_16, gl_17, sk0i, sk0r, sk0n, sk1i, sk1r, sk1n, sk_2, sk_3, sk_4, sk_5, sk_6, sk_7, sk_8, sk_9, sk_10, sk_11, sk_12, sk_13, sk_14, sk_15, sk_16, sk_17, ls_0, ls_1, ls_2, ls_3, ls_4, ls_5, ls_6, ls_7, ls_8, ls_9, ls_10, ls_11, ls_12, ls_13, ls_14, ls_15, ls_16, ls_17, ct1_i, ct1_r, wd8_0, wd8_i1, wd8_r1, wd8_i2, wd8_r2, wd8_i3, wd8_r3, wd8_i4, wd8_r4, wd8_i5, wd8_r5, wd8_i6, wd8_r6, wd8_i7, wd8_r7, wd8_i8, wd8_r8, wd8_l2, wd8_l3, wd8_l4, wd8_l5, wd8_l6, wd8_l7, wd8_l8, tl_s, tl_n, inR_t, bd_t, true_and, and_true, true_or, or_true, if_true_x, if_false_x, if_pos, if_neg, Int.toNat_natCast, natL, bI_0, bI_1, bI_ft, eq_self, b_tf, b_ft, not_true_eq_false, not_false_eq_true, wirM hc wg3 tm3, ev3, et3, e, n343', hc.t70, hc.r70_4, hc.r70_5, hc.r70_6, hc.r70_7, hc.r70_8, hc.r70_10, hc.r70_11, hc.r70_12, hc.r70_14, hc.r70_15, hc.r70_16, hc.r70_17, hc.r70_19, hc.r70_21, hc.r70_23, hc.r70_24, hc.r70_26, hc.r70_27, hc.r70_28, hc.r70_29, hc.r70_30, hc.r70_31, hc.r70_32, hc.r70_33, hc.r70_36]
      (rw [e_261_31]; refine ⟨⟨hc.t70, by simp [wd_i, wd_r, wd_l, wd_0]⟩, ?_⟩)
      refine m_249 hc (by have := oo.1; omega) (L := O) (by rw [vs.2.1.1 88 (by omega)]; exact r12) vs.1 (fun h4 z4 g4 r4 => ?_)
      simp (disch := first | assumption | omega) only [e_261_32, onI_s, onR_s, onL_s, gl_0, gl_n, gl_1, gl_2, gl_3, gl_4, gl_5, gl_6, gl_7, gl_8, gl_9, gl_10, gl_11, gl_12, gl_13, gl_14, gl_15, gl_16, gl_17, sk0i, sk0r, sk0n, sk1i, sk1r, sk1n, sk_2, sk_3, sk_4, sk_5, sk_6, sk_7, sk_8, sk_9, sk_10, sk_11, sk_12, sk_13, sk_14, sk_15, sk_16, sk_17, ls_0, ls_1, ls_2, ls_3, ls_4, ls_5, ls_6, ls_7, ls_8, ls_9, ls_10, ls_11, ls_12, ls_13, ls_14, ls_15, ls_16, ls_17, ct1_i, ct1_r, wd8_0, wd8_i1, wd8_r1, wd8_i2, wd8_r2, wd8_i3, wd8_r3, wd8_i4, wd8_r4, wd8_i5, wd8_r5, wd8_i6, wd8_r6, wd8_i7, wd8_r7, wd8_i8, wd8_r8, wd8_l2, wd8_l3, wd8_l4, wd8_l5, wd8_l6, wd8_l7, wd8_l8, tl_s, tl_n, inR_t, bd_t, true_and, and_true, true_or, or_true, if_true_x, if_false_x, if_pos, if_neg, Int.toNat_natCast, natL, bI_0, bI_1, bI_ft, eq_self, b_tf, b_ft, not_true_eq_false, not_false_eq_true]
      exact ih O O O _ h4 _ ch.2 oo.1 oo.1 oo.1 (fun P hP => ok P (by simp [hP])) z4 (g03.tr (g4.gt7 (by omega))) (gs3.g1 g4 (by omega)) (by rw [g4.1 88 (by omega), vs.2.1.1 88 (by omega)]; exact r12) r4 ((g4.vmk (by omega)).trans ev3) (by rw [g4.1 73 (by omega)]; exact vs.2.2.2) hq
    · rw [if_neg e] at hq
      simp (disch := first | assumption | omega) only [e_261_20, e_261_21, e_261_22, e_261_23, e_261_24, e_261_25, e_261_32, onI_s, onR_s, onL_s, gl_0, gl_n, gl_1, gl_2, gl_3, gl_4, gl_5, gl_6, gl_7, gl_8, gl_9, gl_10, gl_11, gl_12, gl_13, gl_14, gl_15, gl_16, gl_17, sk0i, sk0r, sk0n, sk1i, sk1r, sk1n, sk_2, sk_3, sk_4, sk_5, sk_6, sk_7, sk_8, sk_9, sk_10, sk_11, sk_12, sk_13, sk_14, sk_15, sk_16, sk_17, ls_0, ls_1, ls_2, ls_3, ls_4, ls_5, ls_6, ls_7, ls_8, ls_9, ls_10, ls_11, ls_12, ls_13, ls_14, ls_15, ls_16, ls_17, ct1_i, ct1_r, wd8_0, wd8_i1, wd8_r1, wd8_i2, wd8_r2, wd8_i3, wd8_r3, wd8_i4, wd8_r4, wd8_i5, wd8_r5, wd8_i6, wd8_r6, wd8_i7, wd8_r7, wd8_i8, wd8_r8, wd8_l2, wd8_l3, wd8_l4, wd8_l5, wd8_l6, wd8_l7, wd8_l8, tl_s, tl_n, inR_t, bd_t, true_and, and_true, true_or, or_true, if_true_x, if_false_x, if_pos, if_neg, Int.toNat_natCast, natL, bI_0, bI_1, bI_ft, eq_self, b_tf, b_ft, not_true_eq_false, not_false_eq_true, wirM hc wg3 tm3, ev3, et3, e, hc.t70, hc.r70_4, hc.r70_5, hc.r70_6, hc.r70_7, hc.r70_8, hc.r70_10, hc.r70_11, hc.r70_12, hc.r70_14, hc.r70_15, hc.r70_16, hc.r70_17, hc.r70_19, hc.r70_21, hc.r70_23, hc.r70_24, hc.r70_26, hc.r70_27, hc.r70_28, hc.r70_29, hc.r70_30, hc.r70_31, hc.r70_32, hc.r70_33, hc.r70_36]
      exact ih O O B le h3 _ ch.2 oo.1 lB oo.1 (fun P hP => ok P (by simp [hP])) vs.1 g03 gs3 (by rw [vs.2.1.1 88 (by omega)]; exact r12) (by rw [vs.2.1.1 89 (by omega), g2.1 89 (by omega)]; exact r2) ev3 vs.2.2.2 hq
set_option maxHeartbeats 8000000 in
theorem m_261 (hc : CT X ns nb ln) {h0 : xH} {v v0 : Nat → Nat → Int} {t f ww : Int} (g0 : Gd v0) (sk : SK v v0) (tm : TMb (h0.1 72)) (et : h0.1 72 4 = t) (ev : vm h0 = v) (rb : RBr (h0.1 73)) (z : NZ X h0) (gs : GSm h0 v (gpA v f ww)) (hq : ∀ h2, NZ X h2 → GT7 h0 h2 → vm h2 = srG v t f ww → RBr (h2.1 73) → Q none h2) : Cl X 261 [vr 70] h0 Q := by
  have g5 : (gpA v f ww).length ≤ 5 := grp_len _
  have nC := sk.2.1.nC
  have gc : ∀ c, c ∈ gpA v f ww → c < 20 := fun c hc => by have := (grp_in _ c hc).1; omega
  have hs := gp_rg (f := f) (ww := ww) sk.2.1 sk.2.2
  have so := srO_ok (v := v) (t := t) (f := f) (ww := ww)
  have oa := ord_all (n := (gpA v f ww).length) g5
  unfold srG at hq
  unfold srO at hq so
  obtain ⟨G, eG⟩ : ∃ G, G = gpA v f ww := ⟨_, rfl⟩
  rw [← eG] at g5 gc hs so oa hq gs
  have og := okO_rg g5
  have n34 := gs.1
  have wgv : WG v := sk.1.wg sk.2.1 g0
  rw [c_261]
  simp (disch := first | assumption | omega) only [e_261_0, e_261_1, e_261_2, onI_s, onR_s, onL_s, gl_0, gl_n, gl_1, gl_2, gl_3, gl_4, gl_5, gl_6, gl_7, gl_8, gl_9, gl_10, gl_11, gl_12, gl_13, gl_14, gl_15, gl_16, gl_17, sk0i, sk0r, sk0n, sk1i, sk1r, sk1n, sk_2, sk_3, sk_4, sk_5, sk_6, sk_7, sk_8, sk_9, sk_10, sk_11, sk_12, sk_13, sk_14, sk_15, sk_16, sk_17, ls_0, ls_1, ls_2, ls_3, ls_4, ls_5, ls_6, ls_7, ls_8, ls_9, ls_10, ls_11, ls_12, ls_13, ls_14, ls_15, ls_16, ls_17, ct1_i, ct1_r, wd8_0, wd8_i1, wd8_r1, wd8_i2, wd8_r2, wd8_i3, wd8_r3, wd8_i4, wd8_r4, wd8_i5, wd8_r5, wd8_i6, wd8_r6, wd8_i7, wd8_r7, wd8_i8, wd8_r8, wd8_l2, wd8_l3, wd8_l4, wd8_l5, wd8_l6, wd8_l7, wd8_l8, tl_s, tl_n, inR_t, bd_t, true_and, and_true, true_or, or_true, if_true_x, if_false_x, if_pos, if_neg, Int.toNat_natCast, natL, bI_0, bI_1, bI_ft, eq_self, b_tf, b_ft, not_true_eq_false, not_false_eq_true, n34, hc.t70, hc.r70_4, hc.r70_5, hc.r70_6, hc.r70_7, hc.r70_8, hc.r70_10, hc.r70_11, hc.r70_12, hc.r70_14, hc.r70_15, hc.r70_16, hc.r70_17, hc.r70_19, hc.r70_21, hc.r70_23, hc.r70_24, hc.r70_26, hc.r70_27, hc.r70_28, hc.r70_29, hc.r70_30, hc.r70_31, hc.r70_32, hc.r70_33, hc.r70_36]
  (rw [e_261_3]; refine ⟨⟨hc.t70, by simp [wd_i, wd_r, wd_l, wd_0]⟩, ?_⟩)
  refine m_246 hc g5 z (fun h1 z1 g1 r1 => ?_)
  have gs1 := gs.g1 g1 (by omega)
  have n1 := gs1.1
  have n1' := n1
  rw [← og.1] at n1'
  simp (disch := first | assumption | omega) only [e_261_4, e_261_5, e_261_6, onI_s, onR_s, onL_s, gl_0, gl_n, gl_1, gl_2, gl_3, gl_4, gl_5, gl_6, gl_7, gl_8, gl_9, gl_10, gl_11, gl_12, gl_13, gl_14, gl_15, gl_16, gl_17, sk0i, sk0r, sk0n, sk1i, sk1r, sk1n, sk_2, sk_3, sk_4, sk_5, sk_6, sk_7, sk_8, sk_9, sk_10, sk_11, sk_12, sk_13, sk_14, sk_15, sk_16, sk_17, ls_0, ls_1, ls_2, ls_3, ls_4, ls_5, ls_6, ls_7, ls_8, ls_9, ls_10, ls_11, ls_12, ls_13, ls_14, ls_15, ls_16, ls_17, ct1_i, ct1_r, wd8_0, wd8_i1, wd8_r1, wd8_i2, wd8_r2, wd8_i3, wd8_r3, wd8_i4, wd8_r4, wd8_i5, wd8_r5, wd8_i6, wd8_r6, wd8_i7, wd8_r7, wd8_i8, wd8_r8, wd8_l2, wd8_l3, wd8_l4, wd8_l5, wd8_l6, wd8_l7, wd8_l8, tl_s, tl_n, inR_t, bd_t, true_and, and_true, true_or, or_true, if_true_x, if_false_x, if_pos, if_neg, Int.toNat_natCast, natL, bI_0, bI_1, bI_ft, eq_self, b_tf, b_ft, not_true_eq_false, not_false_eq_true, n1', hc.t70, hc.r70_4, hc.r70_5, hc.r70_6, hc.r70_7, hc.r70_8, hc.r70_10, hc.r70_11, hc.r70_12, hc.r70_14, hc.r70_15, hc.r70_16, hc.r70_17, hc.r70_19, hc.r70_21, hc.r70_23, hc.r70_24, hc.r70_26, hc.r70_27, hc.r70_28, hc.r70_29, hc.r70_30, hc.r70_31, hc.r70_32, hc.r70_33, hc.r70_36]
  (rw [e_261_7]; refine ⟨⟨hc.t70, by simp [wd_i, wd_r, wd_l, wd_0]⟩, ?_⟩)
  refine m_249 hc (by rw [og.1]; exact g5) r1 z1 (fun h2 z2 g2 r2 => ?_)
  have ev2 : vm h2 = v := (g2.vmk (by omega)).trans ((g1.vmk (by omega)).trans ev)
  have t2 : h2.1 72 = h0.1 72 := by rw [g2.1 72 (by omega), g1.1 72 (by omega)]
  have idv : v = ptG v G G (List.range G.length) v := by rw [List.range_eq_range', ptG_id _ 0 (by simp)]
  have rb2 : RBr (h2.1 73) := by rw [g2.1 73 (by omega), g1.1 73 (by omega)]; exact rb
  simp (disch := first | assumption | omega) only [e_261_8, e_261_9, e_261_10, onI_s, onR_s, onL_s, gl_0, gl_n, gl_1, gl_2, gl_3, gl_4, gl_5, gl_6, gl_7, gl_8, gl_9, gl_10, gl_11, gl_12, gl_13, gl_14, gl_15, gl_16, gl_17, sk0i, sk0r, sk0n, sk1i, sk1r, sk1n, sk_2, sk_3, sk_4, sk_5, sk_6, sk_7, sk_8, sk_9, sk_10, sk_11, sk_12, sk_13, sk_14, sk_15, sk_16, sk_17, ls_0, ls_1, ls_2, ls_3, ls_4, ls_5, ls_6, ls_7, ls_8, ls_9, ls_10, ls_11, ls_12, ls_13, ls_14, ls_15, ls_16, ls_17, ct1_i, ct1_r, wd8_0, wd8_i1, wd8_r1, wd8_i2, wd8_r2, wd8_i3, wd8_r3, wd8_i4, wd8_r4, wd8_i5, wd8_r5, wd8_i6, wd8_r6, wd8_i7, wd8_r7, wd8_i8, wd8_r8, wd8_l2, wd8_l3, wd8_l4, wd8_l5, wd8_l6, wd8_l7, wd8_l8, tl_s, tl_n, inR_t, bd_t, true_and, and_true, true_or, or_true, if_true_x, if_false_x, if_pos, if_neg, Int.toNat_natCast, natL, bI_0, bI_1, bI_ft, eq_self, b_tf, b_ft, not_true_eq_false, not_false_eq_true, wirM hc (show WG (vm h2) by rw [ev2]; exact wgv) (show TMb (h2.1 72) by rw [t2]; exact tm), ev2, t2, et, hc.t70, hc.r70_4, hc.r70_5, hc.r70_6, hc.r70_7, hc.r70_8, hc.r70_10, hc.r70_11, hc.r70_12, hc.r70_14, hc.r70_15, hc.r70_16, hc.r70_17, hc.r70_19, hc.r70_21, hc.r70_23, hc.r70_24, hc.r70_26, hc.r70_27, hc.r70_28, hc.r70_29, hc.r70_30, hc.r70_31, hc.r70_32, hc.r70_33, hc.r70_36]
  refine l_261 (t := t) hc (h0 := h2) ⟨v0, g0, sk.1⟩ sk.2.1 (by rw [t2]; exact tm) (by rw [t2]; exact et) g5 gc hs (ords G.length) (List.range G.length) (List.range G.length) (List.range G.length) _ h2 _ oa.1 og.1 og.1 og.1 oa.2.2 z2 GT7.refl (gs1.g1 g2 (by omega)) (by rw [g2.1 88 (by omega)]; exact r1) r2 (ev2.trans idv) rb2 (fun h3 L3 x1 x2 z3 g3 gs3 r3 l3 ev3 rb3 => ?_)
  rw [e_261_33]
  simp (disch := first | assumption | omega) only [e_261_34, e_261_35, onI_s, onR_s, onL_s, gl_0, gl_n, gl_1, gl_2, gl_3, gl_4, gl_5, gl_6, gl_7, gl_8, gl_9, gl_10, gl_11, gl_12, gl_13, gl_14, gl_15, gl_16, gl_17, sk0i, sk0r, sk0n, sk1i, sk1r, sk1n, sk_2, sk_3, sk_4, sk_5, sk_6, sk_7, sk_8, sk_9, sk_10, sk_11, sk_12, sk_13, sk_14, sk_15, sk_16, sk_17, ls_0, ls_1, ls_2, ls_3, ls_4, ls_5, ls_6, ls_7, ls_8, ls_9, ls_10, ls_11, ls_12, ls_13, ls_14, ls_15, ls_16, ls_17, ct1_i, ct1_r, wd8_0, wd8_i1, wd8_r1, wd8_i2, wd8_r2, wd8_i3, wd8_r3, wd8_i4, wd8_r4, wd8_i5, wd8_r5, wd8_i6, wd8_r6, wd8_i7, wd8_r7, wd8_i8, wd8_r8, wd8_l2, wd8_l3, wd8_l4, wd8_l5, wd8_l6, wd8_l7, wd8_l8, tl_s, tl_n, inR_t, bd_t, true_and, and_true, true_or, or_true, if_true_x, if_false_x, if_pos, if_neg, Int.toNat_natCast, natL, bI_0, bI_1, bI_ft, eq_self, b_tf, b_ft, not_true_eq_false, not_false_eq_true, hc.t70, hc.r70_4, hc.r70_5, hc.r70_6, hc.r70_7, hc.r70_8, hc.r70_10, hc.r70_11, hc.r70_12, hc.r70_14, hc.r70_15, hc.r70_16, hc.r70_17, hc.r70_19, hc.r70_21, hc.r70_23, hc.r70_24, hc.r70_26, hc.r70_27, hc.r70_28, hc.r70_29, hc.r70_30, hc.r70_31, hc.r70_32, hc.r70_33, hc.r70_36]
  (rw [e_261_36]; refine ⟨⟨hc.t70, by simp [wd_i, wd_r, wd_l, wd_0]⟩, ?_⟩)
  refine m_260 hc (ra := 89) (by omega) hc.t89 hc.z89 g5 gc so.1 so.2.1 gs3 r3 z3 ev3 rb3 (fun h4 vs => ?_)
  rw [ptG_again so.1.symm] at vs
  simp (disch := first | assumption | omega) only [e_261_37, onI_s, onR_s, onL_s, gl_0, gl_n, gl_1, gl_2, gl_3, gl_4, gl_5, gl_6, gl_7, gl_8, gl_9, gl_10, gl_11, gl_12, gl_13, gl_14, gl_15, gl_16, gl_17, sk0i, sk0r, sk0n, sk1i, sk1r, sk1n, sk_2, sk_3, sk_4, sk_5, sk_6, sk_7, sk_8, sk_9, sk_10, sk_11, sk_12, sk_13, sk_14, sk_15, sk_16, sk_17, ls_0, ls_1, ls_2, ls_3, ls_4, ls_5, ls_6, ls_7, ls_8, ls_9, ls_10, ls_11, ls_12, ls_13, ls_14, ls_15, ls_16, ls_17, ct1_i, ct1_r, wd8_0, wd8_i1, wd8_r1, wd8_i2, wd8_r2, wd8_i3, wd8_r3, wd8_i4, wd8_r4, wd8_i5, wd8_r5, wd8_i6, wd8_r6, wd8_i7, wd8_r7, wd8_i8, wd8_r8, wd8_l2, wd8_l3, wd8_l4, wd8_l5, wd8_l6, wd8_l7, wd8_l8, tl_s, tl_n, inR_t, bd_t, true_and, and_true, true_or, or_true, if_true_x, if_false_x, if_pos, if_neg, Int.toNat_natCast, natL, bI_0, bI_1, bI_ft, eq_self, b_tf, b_ft, not_true_eq_false, not_false_eq_true]
  exact hq h4 vs.1 (((g1.gt7 (by omega)).tr (g2.gt7 (by omega))).tr (g3.tr vs.2.1.gt7)) vs.2.2.1 vs.2.2.2
set_option maxHeartbeats 8000000 in
theorem l_262w (hc : CT X ns nb ln) {v : Nat → Nat → Int} (gd : Gd v) {t : Int} {h0 : xH} (tm : TMb (h0.1 72)) (et : h0.1 72 4 = t) {x1 f : Int} : ∀ (m k : Nat) (u : Nat → Nat → Int) (h : xH), k + m = 7 → SK u v → NZ X h → GT7 h0 h → vm h = u → RBr (h.1 73) → (∀ h2 x3, NZ X h2 → GT7 h0 h2 → vm h2 = srW t f m k u → RBr (h2.1 73) → Ev X 262 30 [some (vr 70), some (vi x1), some (vi f), x3] [] h2 Q) → Ev X 262 19 [some (vr 70), some (vi x1), some (vi f), some (vi k)] [] h Q := by
  intro m
  induction m with
  | zero =>
    intro k u h hm sk z g ev rb hq
    rw [e_262_19]
    simp (disch := first | assumption | omega) only [e_262_20, e_262_21, onI_s, onR_s, onL_s, gl_0, gl_n, gl_1, gl_2, gl_3, gl_4, gl_5, gl_6, gl_7, gl_8, gl_9, gl_10, gl_11, gl_12, gl_13, gl_14, gl_15, gl_16, gl_17, sk0i, sk0r, sk0n, sk1i, sk1r, sk1n, sk_2, sk_3, sk_4, sk_5, sk_6, sk_7, sk_8, sk_9, sk_10, sk_11, sk_12, sk_13, sk_14, sk_15, sk_16, sk_17, ls_0, ls_1, ls_2, ls_3, ls_4, ls_5, ls_6, ls_7, ls_8, ls_9, ls_10, ls_11, ls_12, ls_13, ls_14, ls_15, ls_16, ls_17, ct1_i, ct1_r, wd8_0, wd8_i1, wd8_r1, wd8_i2, wd8_r2, wd8_i3, wd8_r3, wd8_i4, wd8_r4, wd8_i5, wd8_r5, wd8_i6, wd8_r6, wd8_i7, wd8_r7, wd8_i8, wd8_r8, wd8_l2, wd8_l3, wd8_l4, wd8_l5, wd8_l6, wd8_l7, wd8_l8, tl_s, tl_n, inR_t, bd_t, true_and, and_true, true_or, or_true, if_true_x, if_false_x, if_pos, if_neg, Int.toNat_natCast, natL, bI_0, bI_1, bI_ft, eq_self, b_tf, b_ft, not_true_eq_false, not_false_eq_true]
    exact hq h _ z g ev rb
  | succ m ih =>
    intro k u h hm sk z g ev rb hq
    rw [srW] at hq
    rw [e_262_19]
    simp (disch := first | assumption | omega) only [e_262_20, e_262_21, e_262_22, e_262_23, e_262_24, onI_s, onR_s, onL_s, gl_0, gl_n, gl_1, gl_2, gl_3, gl_4, gl_5, gl_6, gl_7, gl_8, gl_9, gl_10, gl_11, gl_12, gl_13, gl_14, gl_15, gl_16, gl_17, sk0i, sk0r, sk0n, sk1i, sk1r, sk1n, sk_2, sk_3, sk_4, sk_5, sk_6, sk_7, sk_8, sk_9, sk_10, sk_11, sk_12, sk_13, sk_14, sk_15, sk_16, sk_17, ls_0, ls_1, ls_2, ls_3, ls_4, ls_5, ls_6, ls_7, ls_8, ls_9, ls_10, ls_11, ls_12, ls_13, ls_14, ls_15, ls_16, ls_17, ct1_i, ct1_r, wd8_0, wd8_i1, wd8_r1, wd8_i2, wd8_r2, wd8_i3, wd8_r3, wd8_i4, wd8_r4, wd8_i5, wd8_r5, wd8_i6, wd8_r6, wd8_i7, wd8_r7, wd8_i8, wd8_r8, wd8_l2, wd8_l3, wd8_l4, wd8_l5, wd8_l6, wd8_l7, wd8_l8, tl_s, tl_n, inR_t, bd_t, true_and, and_true, true_or, or_true, if_true_x, if_false_x, if_pos, if_neg, Int.toNat_natCast, natL, bI_0, bI_1, bI_ft, eq_self, b_tf, b_ft, not_true_eq_false, not_false_eq_true]
    (rw [e_262_25]; refine ⟨⟨hc.t70, by simp [wd_i, wd_r, wd_l, wd_0]⟩, ?_⟩)
    refine m_259 hc ev sk.2.1 (sk.1.nd gd.nd) z (fun h1 z1 g1 gs1 => ?_)
    have g01 : GT7 h0 h1 := g.tr g1.gt7
    have t1 : h1.1 72 = h0.1 72 := g01.1 72 (by omega) (by omega)
    simp (disch := first | assumption | omega) only [e_262_26, onI_s, onR_s, onL_s, gl_0, gl_n, gl_1, gl_2, gl_3, gl_4, gl_5, gl_6, gl_7, gl_8, gl_9, gl_10, gl_11, gl_12, gl_13, gl_14, gl_15, gl_16, gl_17, sk0i, sk0r, sk0n, sk1i, sk1r, sk1n, sk_2, sk_3, sk_4, sk_5, sk_6, sk_7, sk_8, sk_9, sk_10, sk_11, sk_12, sk_13, sk_14, sk_15, sk_16, sk_17, ls_0, ls_1, ls_2, ls_3, ls_4, ls_5, ls_6, ls_7, ls_8, ls_9, ls_10, ls_11, ls_12, ls_13, ls_14, ls_15, ls_16, ls_17, ct1_i, ct1_r, wd8_0, wd8_i1, wd8_r1, wd8_i2, wd8_r2, wd8_i3, wd8_r3, wd8_i4, wd8_r4, wd8_i5, wd8_r5, wd8_i6, wd8_r6, wd8_i7, wd8_r7, wd8_i8, wd8_r8, wd8_l2, wd8_l3, wd8_l4, wd8_l5, wd8_l6, wd8_l7, wd8_l8, tl_s, tl_n, inR_t, bd_t, true_and, and_true, true_or, or_true, if_true_x, if_false_x, if_pos, if_neg, Int.toNat_natCast, natL, bI_0, bI_1, bI_ft, eq_self, b_tf, b_ft, not_true_eq_false, not_false_eq_true]
    (rw [e_262_27]; refine ⟨⟨hc.t70, by simp [wd_i, wd_r, wd_l, wd_0]⟩, ?_⟩)
    refine m_261 (t := t) hc gd sk (by rw [t1]; exact tm) (by rw [t1]; exact et) (g1.vm.trans ev) (by rw [g1.1 73 (by omega) (by omega) (by omega)]; exact rb) z1 gs1 (fun h2 z2 g2 ev2 rb2 => ?_)
    simp (disch := first | assumption | omega) only [e_262_28, e_262_29, onI_s, onR_s, onL_s, gl_0, gl_n, gl_1, gl_2, gl_3, gl_4, gl_5, gl_6, gl_7, gl_8, gl_9, gl_10, gl_11, gl_12, gl_13, gl_14, gl_15, gl_16, gl_17, sk0i, sk0r, sk0n, sk1i, sk1r, sk1n, sk_2, sk_3, sk_4, sk_5, sk_6, sk_7, sk_8, sk_9, sk_10, sk_11, sk_12, sk_13, sk_14, sk_15, sk_16, sk_17, ls_0, ls_1, ls_2, ls_3, ls_4, ls_5, ls_6, ls_7, ls_8, ls_9, ls_10, ls_11, ls_12, ls_13, ls_14, ls_15, ls_16, ls_17, ct1_i, ct1_r, wd8_0, wd8_i1, wd8_r1, wd8_i2, wd8_r2, wd8_i3, wd8_r3, wd8_i4, wd8_r4, wd8_i5, wd8_r5, wd8_i6, wd8_r6, wd8_i7, wd8_r7, wd8_i8, wd8_r8, wd8_l2, wd8_l3, wd8_l4, wd8_l5, wd8_l6, wd8_l7, wd8_l8, tl_s, tl_n, inR_t, bd_t, true_and, and_true, true_or, or_true, if_true_x, if_false_x, if_pos, if_neg, Int.toNat_natCast, natL, bI_0, bI_1, bI_ft, eq_self, b_tf, b_ft, not_true_eq_false, not_false_eq_true, cast_s]
    exact ih (k + 1) _ h2 (by omega) sk.srG z2 (g01.tr g2) ev2 rb2 hq
set_option maxHeartbeats 8000000 in
theorem q_262 (ok : Ok X h) (g : Gd (vm h)) (tm : TMb (h.1 72)) (hq : ∀ h2, Mst X h h2 → mS h2 = (spSorts (mS h)).2 → Q (some (vi (spSorts (mS h)).1)) h2) : Ev X 262 3 [some (vr 70), none, none, none] [] h Q := by
  have ok0 := ok
  obtain ⟨z, os, oc, om, ⟨nb, ln, hc, hnb⟩, lp⟩ := ok
  have hw := g.rg
  have tt := tm.tall
  have nF := hw.nF
  have wb := wir_bd g.wg tt.1 tt.2
  unfold spSorts at hq
  rw [show (mS h).1 = vm h from rfl, show (mS h).2.1 = h.1 72 from rfl] at hq
  obtain ⟨v, hv⟩ : ∃ v, v = vm h := ⟨_, rfl⟩
  have sk0 : SK (vm h) (vm h) := ⟨SJ.refl, g.rg, g.geo.plc g.rg⟩
  have sk := SK.srF (t := h.1 72 4) ((vm h 6 0).toNat + 1) (-1) (vm h) sk0
  have wgu : WG (srF (h.1 72 4) ((vm h 6 0).toNat + 1) (-1) (vm h)) := sk.1.wg sk.2.1 g
  have wb2 := wir_bd wgu tt.1 tt.2
  simp (disch := first | assumption | omega) only [e_262_3, e_262_4, onI_s, onR_s, onL_s, gl_0, gl_n, gl_1, gl_2, gl_3, gl_4, gl_5, gl_6, gl_7, gl_8, gl_9, gl_10, gl_11, gl_12, gl_13, gl_14, gl_15, gl_16, gl_17, sk0i, sk0r, sk0n, sk1i, sk1r, sk1n, sk_2, sk_3, sk_4, sk_5, sk_6, sk_7, sk_8, sk_9, sk_10, sk_11, sk_12, sk_13, sk_14, sk_15, sk_16, sk_17, ls_0, ls_1, ls_2, ls_3, ls_4, ls_5, ls_6, ls_7, ls_8, ls_9, ls_10, ls_11, ls_12, ls_13, ls_14, ls_15, ls_16, ls_17, ct1_i, ct1_r, wd8_0, wd8_i1, wd8_r1, wd8_i2, wd8_r2, wd8_i3, wd8_r3, wd8_i4, wd8_r4, wd8_i5, wd8_r5, wd8_i6, wd8_r6, wd8_i7, wd8_r7, wd8_i8, wd8_r8, wd8_l2, wd8_l3, wd8_l4, wd8_l5, wd8_l6, wd8_l7, wd8_l8, tl_s, tl_n, inR_t, bd_t, true_and, and_true, true_or, or_true, if_true_x, if_false_x, if_pos, if_neg, Int.toNat_natCast, natL, bI_0, bI_1, bI_ft, eq_self, b_tf, b_ft, not_true_eq_false, not_false_eq_true]
  (rw [e_262_5]; refine ⟨⟨hc.t70, by simp [wd_i, wd_r, wd_l, wd_0]⟩, ?_⟩)
  refine kpM ok0 (fun h2 k => ?_)
  have g2 : WG (vm h2) := by rw [k.pv]; exact g.wg
  have tm2 : TMb (h2.1 72) := by rw [k.t]; exact tm
  have lp : ∀ (m : Nat) (f : Int) (u : Nat → Nat → Int) (h3 : xH) (x3 : Option xV), f + m = vm h 6 0 → -1 ≤ f → SK u (vm h) → NZ X h3 → GT7 h2 h3 → vm h3 = u → RBr (h3.1 73) → (∀ h4, NZ X h4 → GT7 h2 h4 → vm h4 = srF (h.1 72 4) m f u → RBr (h4.1 73) → ∀ x2 x3, Ev X 262 32 [some (vr 70), some (vi (wir (vm h) (h.1 72 4))), x2, x3] [] h4 Q) → Ev X 262 11 [some (vr 70), some (vi (wir (vm h) (h.1 72 4))), some (vi f), x3] [] h3 Q := by
    intro m
    induction m with
    | zero =>
      intro f u h3 x3 hm f1 sk z3 g3 ev3 rb3 hq
      have e6 : h3.1 73 1 = vm h 6 0 := by rw [← sk.1 6 (by decide) (by decide), ← ev3]; rfl
      rw [e_262_11]
      simp (disch := first | assumption | omega) only [e_262_12, e_262_13, e_262_14, e_262_15, e_262_16, onI_s, onR_s, onL_s, gl_0, gl_n, gl_1, gl_2, gl_3, gl_4, gl_5, gl_6, gl_7, gl_8, gl_9, gl_10, gl_11, gl_12, gl_13, gl_14, gl_15, gl_16, gl_17, sk0i, sk0r, sk0n, sk1i, sk1r, sk1n, sk_2, sk_3, sk_4, sk_5, sk_6, sk_7, sk_8, sk_9, sk_10, sk_11, sk_12, sk_13, sk_14, sk_15, sk_16, sk_17, ls_0, ls_1, ls_2, ls_3, ls_4, ls_5, ls_6, ls_7, ls_8, ls_9, ls_10, ls_11, ls_12, ls_13, ls_14, ls_15, ls_16, ls_17, ct1_i, ct1_r, wd8_0, wd8_i1, wd8_r1, wd8_i2, wd8_r2, wd8_i3, wd8_r3, wd8_i4, wd8_r4, wd8_i5, wd8_r5, wd8_i6, wd8_r6, wd8_i7, wd8_r7, wd8_i8, wd8_r8, wd8_l2, wd8_l3, wd8_l4, wd8_l5, wd8_l6, wd8_l7, wd8_l8, tl_s, tl_n, inR_t, bd_t, true_and, and_true, true_or, or_true, if_true_x, if_false_x, if_pos, if_neg, Int.toNat_natCast, natL, bI_0, bI_1, bI_ft, eq_self, b_tf, b_ft, not_true_eq_false, not_false_eq_true, tn_1, e6, hc.t70, hc.r70_4, hc.r70_5, hc.r70_6, hc.r70_7, hc.r70_8, hc.r70_10, hc.r70_11, hc.r70_12, hc.r70_14, hc.r70_15, hc.r70_16, hc.r70_17, hc.r70_19, hc.r70_21, hc.r70_23, hc.r70_24, hc.r70_26, hc.r70_27, hc.r70_28, hc.r70_29, hc.r70_30, hc.r70_31, hc.r70_32, hc.r70_33, hc.r70_36, hc.t73, hc.z73]
      exact hq h3 z3 g3 ev3 rb3 _ _
    | succ m ih =>
      intro f u h3 x3 hm f1 sk z3 g3 ev3 rb3 hq
      have e6 : h3.1 73 1 = vm h 6 0 := by rw [← sk.1 6 (by decide) (by decide), ← ev3]; rfl
      rw [srF] at hq
      rw [e_262_11]
      simp (disch := first | assumption | omega) only [e_262_12, e_262_13, e_262_14, e_262_15, e_262_16, e_262_17, e_262_18, onI_s, onR_s, onL_s, gl_0, gl_n, gl_1, gl_2, gl_3, gl_4, gl_5, gl_6, gl_7, gl_8, gl_9, gl_10, gl_11, gl_12, gl_13, gl_14, gl_15, gl_16, gl_17, sk0i, sk0r, sk0n, sk1i, sk1r, sk1n, sk_2, sk_3, sk_4, sk_5, sk_6, sk_7, sk_8, sk_9, sk_10, sk_11, sk_12, sk_13, sk_14, sk_15, sk_16, sk_17, ls_0, ls_1, ls_2, ls_3, ls_4, ls_5, ls_6, ls_7, ls_8, ls_9, ls_10, ls_11, ls_12, ls_13, ls_14, ls_15, ls_16, ls_17, ct1_i, ct1_r, wd8_0, wd8_i1, wd8_r1, wd8_i2, wd8_r2, wd8_i3, wd8_r3, wd8_i4, wd8_r4, wd8_i5, wd8_r5, wd8_i6, wd8_r6, wd8_i7, wd8_r7, wd8_i8, wd8_r8, wd8_l2, wd8_l3, wd8_l4, wd8_l5, wd8_l6, wd8_l7, wd8_l8, tl_s, tl_n, inR_t, bd_t, true_and, and_true, true_or, or_true, if_true_x, if_false_x, if_pos, if_neg, Int.toNat_natCast, natL, bI_0, bI_1, bI_ft, eq_self, b_tf, b_ft, not_true_eq_false, not_false_eq_true, tn_1, e6, hc.t70, hc.r70_4, hc.r70_5, hc.r70_6, hc.r70_7, hc.r70_8, hc.r70_10, hc.r70_11, hc.r70_12, hc.r70_14, hc.r70_15, hc.r70_16, hc.r70_17, hc.r70_19, hc.r70_21, hc.r70_23, hc.r70_24, hc.r70_26, hc.r70_27, hc.r70_28, hc.r70_29, hc.r70_30, hc.r70_31, hc.r70_32, hc.r70_33, hc.r70_36, hc.t73, hc.z73]
      refine l_262w hc g tm2 (by rw [k.t]) 6 1 u h3 (by omega) sk z3 g3 ev3 rb3 (fun h4 x3 z4 g4 ev4 rb4 => ?_)
      rw [e_262_30]
      simp (disch := first | assumption | omega) only [e_262_31, onI_s, onR_s, onL_s, gl_0, gl_n, gl_1, gl_2, gl_3, gl_4, gl_5, gl_6, gl_7, gl_8, gl_9, gl_10, gl_11, gl_12, gl_13, gl_14, gl_15, gl_16, gl_17, sk0i, sk0r, sk0n, sk1i, sk1r, sk1n, sk_2, sk_3, sk_4, sk_5, sk_6, sk_7, sk_8, sk_9, sk_10, sk_11, sk_12, sk_13, sk_14, sk_15, sk_16, sk_17, ls_0, ls_1, ls_2, ls_3, ls_4, ls_5, ls_6, ls_7, ls_8, ls_9, ls_10, ls_11, ls_12, ls_13, ls_14, ls_15, ls_16, ls_17, ct1_i, ct1_r, wd8_0, wd8_i1, wd8_r1, wd8_i2, wd8_r2, wd8_i3, wd8_r3, wd8_i4, wd8_r4, wd8_i5, wd8_r5, wd8_i6, wd8_r6, wd8_i7, wd8_r7, wd8_i8, wd8_r8, wd8_l2, wd8_l3, wd8_l4, wd8_l5, wd8_l6, wd8_l7, wd8_l8, tl_s, tl_n, inR_t, bd_t, true_and, and_true, true_or, or_true, if_true_x, if_false_x, if_pos, if_neg, Int.toNat_natCast, natL, bI_0, bI_1, bI_ft, eq_self, b_tf, b_ft, not_true_eq_false, not_false_eq_true]
      exact ih (f + 1) _ h4 _ (by omega) (by omega) (SK.srW 6 1 u sk) z4 g4 ev4 rb4 hq
  simp (disch := first | assumption | omega) only [e_262_6, e_262_7, e_262_8, e_262_9, e_262_10, onI_s, onR_s, onL_s, gl_0, gl_n, gl_1, gl_2, gl_3, gl_4, gl_5, gl_6, gl_7, gl_8, gl_9, gl_10, gl_11, gl_12, gl_13, gl_14, gl_15, gl_16, gl_17, sk0i, sk0r, sk0n, sk1i, sk1r, sk1n, sk_2, sk_3, sk_4, sk_5, sk_6, sk_7, sk_8, sk_9, sk_10, sk_11, sk_12, sk_13, sk_14, sk_15, sk_16, sk_17, ls_0, ls_1, ls_2, ls_3, ls_4, ls_5, ls_6, ls_7, ls_8, ls_9, ls_10, ls_11, ls_12, ls_13, ls_14, ls_15, ls_16, ls_17, ct1_i, ct1_r, wd8_0, wd8_i1, wd8_r1, wd8_i2, wd8_r2, wd8_i3, wd8_r3, wd8_i4, wd8_r4, wd8_i5, wd8_r5, wd8_i6, wd8_r6, wd8_i7, wd8_r7, wd8_i8, wd8_r8, wd8_l2, wd8_l3, wd8_l4, wd8_l5, wd8_l6, wd8_l7, wd8_l8, tl_s, tl_n, inR_t, bd_t, true_and, and_true, true_or, or_true, if_true_x, if_false_x, if_pos, if_neg, Int.toNat_natCast, natL, bI_0, bI_1, bI_ft, eq_self, b_tf, b_ft, not_true_eq_false, not_false_eq_true, wirM hc g2 tm2, k.pv, k.t, hc.t70, hc.r70_4, hc.r70_5, hc.r70_6, hc.r70_7, hc.r70_8, hc.r70_10, hc.r70_11, hc.r70_12, hc.r70_14, hc.r70_15, hc.r70_16, hc.r70_17, hc.r70_19, hc.r70_21, hc.r70_23, hc.r70_24, hc.r70_26, hc.r70_27, hc.r70_28, hc.r70_29, hc.r70_30, hc.r70_31, hc.r70_32, hc.r70_33, hc.r70_36]
  refine lp ((vm h 6 0).toNat + 1) (-1) (vm h) h2 none (by omega) (by omega) sk0 k.1.1 GT7.refl k.pv k.1.2.2.2.1.2.1 (fun h4 z4 g4 ev4 rb4 x2 x3 => ?_)
  have f4 := g4.fm z4 rb4
  have t4 : h4.1 72 = h.1 72 := by rw [f4.t]; exact k.t
  have wg4 : WG (vm h4) := by rw [ev4]; exact wgu
  rw [e_262_32]
  simp (disch := first | assumption | omega) only [e_262_33, e_262_34, e_262_35, e_262_36, e_262_37, e_262_38, onI_s, onR_s, onL_s, gl_0, gl_n, gl_1, gl_2, gl_3, gl_4, gl_5, gl_6, gl_7, gl_8, gl_9, gl_10, gl_11, gl_12, gl_13, gl_14, gl_15, gl_16, gl_17, sk0i, sk0r, sk0n, sk1i, sk1r, sk1n, sk_2, sk_3, sk_4, sk_5, sk_6, sk_7, sk_8, sk_9, sk_10, sk_11, sk_12, sk_13, sk_14, sk_15, sk_16, sk_17, ls_0, ls_1, ls_2, ls_3, ls_4, ls_5, ls_6, ls_7, ls_8, ls_9, ls_10, ls_11, ls_12, ls_13, ls_14, ls_15, ls_16, ls_17, ct1_i, ct1_r, wd8_0, wd8_i1, wd8_r1, wd8_i2, wd8_r2, wd8_i3, wd8_r3, wd8_i4, wd8_r4, wd8_i5, wd8_r5, wd8_i6, wd8_r6, wd8_i7, wd8_r7, wd8_i8, wd8_r8, wd8_l2, wd8_l3, wd8_l4, wd8_l5, wd8_l6, wd8_l7, wd8_l8, tl_s, tl_n, inR_t, bd_t, true_and, and_true, true_or, or_true, if_true_x, if_false_x, if_pos, if_neg, Int.toNat_natCast, natL, bI_0, bI_1, bI_ft, eq_self, b_tf, b_ft, not_true_eq_false, not_false_eq_true, wirM hc wg4 (show TMb (h4.1 72) by rw [t4]; exact tm), m_153 hc, ev4, t4, hc.t70, hc.r70_4, hc.r70_5, hc.r70_6, hc.r70_7, hc.r70_8, hc.r70_10, hc.r70_11, hc.r70_12, hc.r70_14, hc.r70_15, hc.r70_16, hc.r70_17, hc.r70_19, hc.r70_21, hc.r70_23, hc.r70_24, hc.r70_26, hc.r70_27, hc.r70_28, hc.r70_29, hc.r70_30, hc.r70_31, hc.r70_32, hc.r70_33, hc.r70_36]
  have ac := act_m (r := wir (vm h) (h.1 72 4) - wir (srF (h.1 72 4) ((vm h 6 0).toNat + 1) (-1) (vm h)) (h.1 72 4)) k f4 ev4
  exact hq _ ac.1 ac.2
theorem p_262 (ok : Ok X h) (g : Gd (vm h)) (tm : TMb (h.1 72)) (hq : ∀ h2, Mst X h h2 → mS h2 = (spSorts (mS h)).2 → Q (some (vi (spSorts (mS h)).1)) h2) : Cl X 262 [vr 70] h Q := by
  obtain ⟨nb, ln, hc, hnb⟩ := ok.2.2.2.2.1
  rw [c_262]
  simp (disch := first | assumption | omega) only [e_262_0, e_262_1, e_262_2, onI_s, onR_s, onL_s, gl_0, gl_n, gl_1, gl_2, gl_3, gl_4, gl_5, gl_6, gl_7, gl_8, gl_9, gl_10, gl_11, gl_12, gl_13, gl_14, gl_15, gl_16, gl_17, sk0i, sk0r, sk0n, sk1i, sk1r, sk1n, sk_2, sk_3, sk_4, sk_5, sk_6, sk_7, sk_8, sk_9, sk_10, sk_11, sk_12, sk_13, sk_14, sk_15, sk_16, sk_17, ls_0, ls_1, ls_2, ls_3, ls_4, ls_5, ls_6, ls_7, ls_8, ls_9, ls_10, ls_11, ls_12, ls_13, ls_14, ls_15, ls_16, ls_17, ct1_i, ct1_r, wd8_0, wd8_i1, wd8_r1, wd8_i2, wd8_r2, wd8_i3, wd8_r3, wd8_i4, wd8_r4, wd8_i5, wd8_r5, wd8_i6, wd8_r6, wd8_i7, wd8_r7, wd8_i8, wd8_r8, wd8_l2, wd8_l3, wd8_l4, wd8_l5, wd8_l6, wd8_l7, wd8_l8, tl_s, tl_n, inR_t, bd_t, true_and, and_true, true_or, or_true, if_true_x, if_false_x, if_pos, if_neg, Int.toNat_natCast, natL, bI_0, bI_1, bI_ft, eq_self, b_tf, b_ft, not_true_eq_false, not_false_eq_true, hc.t70]
  exact q_262 (thr_ok ok) (by rw [thr_v]; exact g) tm (thr (sp := fun s => spSorts s) ok hq)
end SRB
