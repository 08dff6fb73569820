/-! SORTS in the class: the search, all groups, the call -/
theorem PLc_gv {u : Nat → Nat → Int} {c : Nat} {r s : Int} (p : PLc u) (h : rgS r s) : PLc (gvP u c r s) := by
  intro d hd hp
  obtain ⟨h1, h2⟩ := h
  unfold gvP at hd hp ⊢
  rw [up2_oth (by decide), up2_oth (by decide)] at hd
  rw [up2_oth (by decide), up2_same] at hp
  rw [up2_same, up2_oth (by decide)]
  by_cases e : d = c
  · rw [if_pos e]
    omega
  · rw [if_neg e] at hp ⊢
    exact p d hd hp
theorem PLc_pt {v : Nat → Nat → Int} {G : List Nat} (hs : ∀ o, o < G.length → rgS (v 17 (G.getD o 0)) (v 18 (G.getD o 0))) : ∀ (Gs Os : List Nat) (u : Nat → Nat → Int), (∀ o, o ∈ Os → o < G.length) → PLc u → PLc (ptG v G Gs Os u)
  | c :: Gs, o :: Os, u, ho, h => by
    rw [ptG]
    exact PLc_pt hs Gs Os _ (fun p hp => ho p (by simp [hp])) (PLc_gv h (hs o (ho o (by simp))))
  | [], [], _, _, h => h
  | [], _ :: _, _, _, h => h
  | _ :: _, [], _, _, h => h
theorem GEO.plc {v : Nat → Nat → Int} (g : GEO v) (w : RGv v) : PLc v := fun c hc hp => ((gf_sites0 g.g0 w hc).mp (g.gnd hc hp)).1.2.2.1
/-- what is kept from group to group -/
def SK (u v : Nat → Nat → Int) : Prop := SJ u v ∧ RGv u ∧ PLc u
theorem SK.srG {u v : Nat → Nat → Int} {t f ww : Int} (k : SK u v) : SK (srG u t f ww) v := by
  have ok := srO_ok (v := u) (t := t) (f := f) (ww := ww)
  exact ⟨ptG_sj _ _ _ _ k.1, ptG_rg (gp_rg k.2.1 k.2.2) _ _ _ ok.2.1 k.2.1, PLc_pt (gp_rg k.2.1 k.2.2) _ _ _ ok.2.1 k.2.2⟩
theorem SK.srW {v : Nat → Nat → Int} {t f : Int} : ∀ (m : Nat) (ww : Int) (u : Nat → Nat → Int), SK u v → SK (srW t f m ww u) v
  | 0, _, _, k => k
  | m + 1, ww, u, k => by
    rw [_root_.Jvm.Pilot.CCellRowsLaw_law_r4691_e6d42c.srW]
    exact SK.srW m (ww + 1) _ k.srG
theorem SK.srF {v : Nat → Nat → Int} {t : Int} : ∀ (m : Nat) (f : Int) (u : Nat → Nat → Int), SK u v → SK (srF t m f u) v
  | 0, _, _, k => k
  | m + 1, f, u, k => by
    rw [_root_.Jvm.Pilot.CCellRowsLaw_law_r4691_e6d42c.srF]
    exact SK.srF m (f + 1) _ (SK.srW 6 1 u k)
section SCC
variable {X : xL} {Q : Option xV → xH → Prop} {ns nb ln : Nat} {h h2 h3 : xH}
theorem PTb.g1 {k : Nat} {v : Nat → Nat → Int} {t : Int} {G : List Nat} (p : PTb h v t G) (g : G1 k h h2) (hk : k ≠ 64) : PTb h2 v t G := by
  unfold PTb at p ⊢
  rw [g.1 64 (by omega)]
  exact p
set_option maxHeartbeats 8000000 in
theorem l_69s (hc : CT X ns nb ln) {h0 : xH} {v : Nat → Nat → Int} {t : Int} (wg : WG v) (t0 : 0 ≤ t) (t1 : t ≤ 8) {G : List Nat} (g5 : G.length ≤ 5) (hs : ∀ o, o < G.length → rgS (v 17 (G.getD o 0)) (v 18 (G.getD o 0))) : ∀ (Os : List (List Nat)) (L B : List Nat) (le : Int) (tr : Nat) (h : xH) (x6 : Option xV), chB L Os = true → tr + Os.length ≤ 120 → L.length = G.length → B.length = G.length → (∀ O, O ∈ Os → OKO G.length O) → NZ X h → GE h0 h → (∀ a, a = 60 ∨ a = 62 ∨ a = 63 → h.1 a = h0.1 a) → R1 (h.1 58) L → R1 (h.1 59) B → PTb h v t G → (∀ h2 (x4 : Int) x5 x6, NZ X h2 → GE h0 h2 → (∀ a, a = 60 ∨ a = 62 ∨ a = 63 → h2.1 a = h0.1 a) → R1 (h2.1 59) (bsO (pcG v t G G) Os B le) → Ev X 69 107 [some (vr 57), some (vr 200), some (vi (G.length : Int)), some (vr (200 + 11)), some (vi x4), x5, x6] [] h2 Q) → Ev X 69 86 [some (vr 57), some (vr 200), some (vi (G.length : Int)), some (vr (200 + 11)), some (vi le), some (vi tr), x6] [] h Q := by
  intro Os
  induction Os with
  | nil =>
    intro L B le tr h x6 ch ht lL lB ok z g k r1 r2 pt hq
    rw [chB] at ch
    have nn := of_decide_eq_true ch
    rw [e_69_86]
    by_cases e : 120 ≤ tr
    · simp (disch := first | assumption | omega) only [e_69_87, e_69_88, onI_s, onR_s, onL_s, gl_0, gl_n, gl_1, gl_2, gl_3, gl_4, gl_5, gl_6, gl_7, gl_8, gl_9, gl_10, gl_11, gl_12, gl_13, gl_14, gl_15, gl_16, gl_17, sk0i, sk0r, sk0n, sk1i, sk1r, sk1n, sk_2, sk_3, sk_4, sk_5, sk_6, sk_7, sk_8, sk_9, sk_10, sk_11, sk_12, sk_13, sk_14, sk_15, sk_16, sk_17, ls_0, ls_1, ls_2, ls_3, ls_4, ls_5, ls_6, ls_7, ls_8, ls_9, ls_10, ls_11, ls_12, ls_13, ls_14, ls_15, ls_16, ls_17, ct1_i, ct1_r, wd8_0, wd8_i1, wd8_r1, wd8_i2, wd8_r2, wd8_i3, wd8_r3, wd8_i4, wd8_r4, wd8_i5, wd8_r5, wd8_i6, wd8_r6, wd8_i7, wd8_r7, wd8_i8, wd8_r8, wd8_l2, wd8_l3, wd8_l4, wd8_l5, wd8_l6, wd8_l7, wd8_l8, tl_s, tl_n, inR_t, bd_t, true_and, and_true, true_or, or_true, if_true_x, if_false_x, if_pos, if_neg, Int.toNat_natCast, natL, bI_0, bI_1, bI_ft, eq_self, b_tf, b_ft, not_true_eq_false, not_false_eq_true]
      exact hq h _ _ _ z g k r2
    · simp (disch := first | assumption | omega) only [e_69_87, e_69_88, e_69_89, e_69_90, onI_s, onR_s, onL_s, gl_0, gl_n, gl_1, gl_2, gl_3, gl_4, gl_5, gl_6, gl_7, gl_8, gl_9, gl_10, gl_11, gl_12, gl_13, gl_14, gl_15, gl_16, gl_17, sk0i, sk0r, sk0n, sk1i, sk1r, sk1n, sk_2, sk_3, sk_4, sk_5, sk_6, sk_7, sk_8, sk_9, sk_10, sk_11, sk_12, sk_13, sk_14, sk_15, sk_16, sk_17, ls_0, ls_1, ls_2, ls_3, ls_4, ls_5, ls_6, ls_7, ls_8, ls_9, ls_10, ls_11, ls_12, ls_13, ls_14, ls_15, ls_16, ls_17, ct1_i, ct1_r, wd8_0, wd8_i1, wd8_r1, wd8_i2, wd8_r2, wd8_i3, wd8_r3, wd8_i4, wd8_r4, wd8_i5, wd8_r5, wd8_i6, wd8_r6, wd8_i7, wd8_r7, wd8_i8, wd8_r8, wd8_l2, wd8_l3, wd8_l4, wd8_l5, wd8_l6, wd8_l7, wd8_l8, tl_s, tl_n, inR_t, bd_t, true_and, and_true, true_or, or_true, if_true_x, if_false_x, if_pos, if_neg, Int.toNat_natCast, natL, bI_0, bI_1, bI_ft, eq_self, b_tf, b_ft, not_true_eq_false, not_false_eq_true]
      rw [← lL]
      (rw [e_69_91]; refine ⟨⟨hc.t57, by simp [wd_i, wd_r, wd_l, wd_0]⟩, ?_⟩)
      refine m_57 hc (by omega) r1 z (fun _ => ?_) (fun M e2 => by rw [nn] at e2; cases e2)
      rw [lL]
      simp (disch := first | assumption | omega) only [e_69_92, onI_s, onR_s, onL_s, gl_0, gl_n, gl_1, gl_2, gl_3, gl_4, gl_5, gl_6, gl_7, gl_8, gl_9, gl_10, gl_11, gl_12, gl_13, gl_14, gl_15, gl_16, gl_17, sk0i, sk0r, sk0n, sk1i, sk1r, sk1n, sk_2, sk_3, sk_4, sk_5, sk_6, sk_7, sk_8, sk_9, sk_10, sk_11, sk_12, sk_13, sk_14, sk_15, sk_16, sk_17, ls_0, ls_1, ls_2, ls_3, ls_4, ls_5, ls_6, ls_7, ls_8, ls_9, ls_10, ls_11, ls_12, ls_13, ls_14, ls_15, ls_16, ls_17, ct1_i, ct1_r, wd8_0, wd8_i1, wd8_r1, wd8_i2, wd8_r2, wd8_i3, wd8_r3, wd8_i4, wd8_r4, wd8_i5, wd8_r5, wd8_i6, wd8_r6, wd8_i7, wd8_r7, wd8_i8, wd8_r8, wd8_l2, wd8_l3, wd8_l4, wd8_l5, wd8_l6, wd8_l7, wd8_l8, tl_s, tl_n, inR_t, bd_t, true_and, and_true, true_or, or_true, if_true_x, if_false_x, if_pos, if_neg, Int.toNat_natCast, natL, bI_0, bI_1, bI_ft, eq_self, b_tf, b_ft, not_true_eq_false, not_false_eq_true]
      exact hq h _ _ _ z g k r2
  | cons O Os ih =>
    intro L B le tr h x6 ch ht lL lB ok z g k r1 r2 pt hq
    rw [chB, Bool.and_eq_true] at ch
    have nn := of_decide_eq_true ch.1
    have oo := ok O (by simp)
    rw [List.length_cons] at ht
    rw [bsO] at hq
    have pb := pcG_bd wg t0 t1 hs G O oo.2.1
    rw [e_69_86]
    simp (disch := first | assumption | omega) only [e_69_87, e_69_88, e_69_89, e_69_90, onI_s, onR_s, onL_s, gl_0, gl_n, gl_1, gl_2, gl_3, gl_4, gl_5, gl_6, gl_7, gl_8, gl_9, gl_10, gl_11, gl_12, gl_13, gl_14, gl_15, gl_16, gl_17, sk0i, sk0r, sk0n, sk1i, sk1r, sk1n, sk_2, sk_3, sk_4, sk_5, sk_6, sk_7, sk_8, sk_9, sk_10, sk_11, sk_12, sk_13, sk_14, sk_15, sk_16, sk_17, ls_0, ls_1, ls_2, ls_3, ls_4, ls_5, ls_6, ls_7, ls_8, ls_9, ls_10, ls_11, ls_12, ls_13, ls_14, ls_15, ls_16, ls_17, ct1_i, ct1_r, wd8_0, wd8_i1, wd8_r1, wd8_i2, wd8_r2, wd8_i3, wd8_r3, wd8_i4, wd8_r4, wd8_i5, wd8_r5, wd8_i6, wd8_r6, wd8_i7, wd8_r7, wd8_i8, wd8_r8, wd8_l2, wd8_l3, wd8_l4, wd8_l5, wd8_l6, wd8_l7, wd8_l8, tl_s, tl_n, inR_t, bd_t, true_and, and_true, true_or, or_true, if_true_x, if_false_x, if_pos, if_neg, Int.toNat_natCast, natL, bI_0, bI_1, bI_ft, eq_self, b_tf, b_ft, not_true_eq_false, not_false_eq_true]
    rw [← lL]
    (rw [e_69_91]; refine ⟨⟨hc.t57, by simp [wd_i, wd_r, wd_l, wd_0]⟩, ?_⟩)
    refine m_57 hc (by omega) r1 z (fun e2 => by rw [nn] at e2; cases e2) (fun M e2 h2 z2 g2 r12 => ?_)
    have em : M = O := by rw [nn] at e2; exact (Option.some.inj e2).symm
    rw [em] at r12
    rw [lL]
    have pt2 := pt.g1 g2 (by omega)
    have k2 : ∀ a, a = 60 ∨ a = 62 ∨ a = 63 → h2.1 a = h0.1 a := fun a q => by rw [g2.1 a (by omega)]; exact k a q
    by_cases e : pcG v t G G O < le
    · rw [if_pos e] at hq
      simp (disch := first | assumption | omega) only [e_69_92, e_69_93, e_69_94, e_69_95, e_69_96, e_69_97, e_69_98, e_69_99, e_69_100, e_69_101, e_69_102, e_69_103, onI_s, onR_s, onL_s, gl_0, gl_n, gl_1, gl_2, gl_3, gl_4, gl_5, gl_6, gl_7, gl_8, gl_9, gl_10, gl_11, gl_12, gl_13, gl_14, gl_15, gl_16, gl_17, sk0i, sk0r, sk0n, sk1i, sk1r, sk1n, sk_2, sk_3, sk_4, sk_5, sk_6, sk_7, sk_8, sk_9, sk_10, sk_11, sk_12, sk_13, sk_14, sk_15, sk_16, sk_17, ls_0, ls_1, ls_2, ls_3, ls_4, ls_5, ls_6, ls_7, ls_8, ls_9, ls_10, ls_11, ls_12, ls_13, ls_14, ls_15, ls_16, ls_17, ct1_i, ct1_r, wd8_0, wd8_i1, wd8_r1, wd8_i2, wd8_r2, wd8_i3, wd8_r3, wd8_i4, wd8_r4, wd8_i5, wd8_r5, wd8_i6, wd8_r6, wd8_i7, wd8_r7, wd8_i8, wd8_r8, wd8_l2, wd8_l3, wd8_l4, wd8_l5, wd8_l6, wd8_l7, wd8_l8, tl_s, tl_n, inR_t, bd_t, true_and, and_true, true_or, or_true, if_true_x, if_false_x, if_pos, if_neg, Int.toNat_natCast, natL, bI_0, bI_1, bI_ft, eq_self, b_tf, b_ft, not_true_eq_false, not_false_eq_true, m_70 hc wg t0 t1 hs g5 oo.1 oo.2.1 r12 pt2, e, hc.t57, hc.r57_0, hc.r57_1, hc.r57_2, hc.r57_3, hc.r57_4, hc.r57_5, hc.r57_6, hc.r57_7, hc.r57_8, hc.r57_9, hc.r57_10]
      rw [← oo.1]
      (rw [e_69_104]; refine ⟨⟨hc.t57, by simp [wd_i, wd_r, wd_l, wd_0]⟩, ?_⟩)
      refine m_56 hc (by have := oo.1; omega) r12 z2 (fun h3 z3 g3 r3 => ?_)
      rw [oo.1]
      simp (disch := first | assumption | omega) only [e_69_105, e_69_106, onI_s, onR_s, onL_s, gl_0, gl_n, gl_1, gl_2, gl_3, gl_4, gl_5, gl_6, gl_7, gl_8, gl_9, gl_10, gl_11, gl_12, gl_13, gl_14, gl_15, gl_16, gl_17, sk0i, sk0r, sk0n, sk1i, sk1r, sk1n, sk_2, sk_3, sk_4, sk_5, sk_6, sk_7, sk_8, sk_9, sk_10, sk_11, sk_12, sk_13, sk_14, sk_15, sk_16, sk_17, ls_0, ls_1, ls_2, ls_3, ls_4, ls_5, ls_6, ls_7, ls_8, ls_9, ls_10, ls_11, ls_12, ls_13, ls_14, ls_15, ls_16, ls_17, ct1_i, ct1_r, wd8_0, wd8_i1, wd8_r1, wd8_i2, wd8_r2, wd8_i3, wd8_r3, wd8_i4, wd8_r4, wd8_i5, wd8_r5, wd8_i6, wd8_r6, wd8_i7, wd8_r7, wd8_i8, wd8_r8, wd8_l2, wd8_l3, wd8_l4, wd8_l5, wd8_l6, wd8_l7, wd8_l8, tl_s, tl_n, inR_t, bd_t, true_and, and_true, true_or, or_true, if_true_x, if_false_x, if_pos, if_neg, Int.toNat_natCast, natL, bI_0, bI_1, bI_ft, eq_self, b_tf, b_ft, not_true_eq_false, not_false_eq_true, cast_s]
      exact ih O O _ (tr + 1) h3 _ ch.2 (by omega) oo.1 oo.1 (fun P hP => ok P (by simp [hP])) z3 (g.tr ((g2.ge (by omega)).tr (g3.ge (by omega)))) (fun a q => by rw [g3.1 a (by omega)]; exact k2 a q) (by rw [g3.1 58 (by omega)]; exact r12) r3 (pt2.g1 g3 (by omega)) hq
    · rw [if_neg e] at hq
      simp (disch := first | assumption | omega) only [e_69_92, e_69_93, e_69_94, e_69_95, e_69_96, e_69_97, e_69_98, e_69_99, e_69_105, e_69_106, onI_s, onR_s, onL_s, gl_0, gl_n, gl_1, gl_2, gl_3, gl_4, gl_5, gl_6, gl_7, gl_8, gl_9, gl_10, gl_11, gl_12, gl_13, gl_14, gl_15, gl_16, gl_17, sk0i, sk0r, sk0n, sk1i, sk1r, sk1n, sk_2, sk_3, sk_4, sk_5, sk_6, sk_7, sk_8, sk_9, sk_10, sk_11, sk_12, sk_13, sk_14, sk_15, sk_16, sk_17, ls_0, ls_1, ls_2, ls_3, ls_4, ls_5, ls_6, ls_7, ls_8, ls_9, ls_10, ls_11, ls_12, ls_13, ls_14, ls_15, ls_16, ls_17, ct1_i, ct1_r, wd8_0, wd8_i1, wd8_r1, wd8_i2, wd8_r2, wd8_i3, wd8_r3, wd8_i4, wd8_r4, wd8_i5, wd8_r5, wd8_i6, wd8_r6, wd8_i7, wd8_r7, wd8_i8, wd8_r8, wd8_l2, wd8_l3, wd8_l4, wd8_l5, wd8_l6, wd8_l7, wd8_l8, tl_s, tl_n, inR_t, bd_t, true_and, and_true, true_or, or_true, if_true_x, if_false_x, if_pos, if_neg, Int.toNat_natCast, natL, bI_0, bI_1, bI_ft, eq_self, b_tf, b_ft, not_true_eq_false, not_false_eq_true, m_70 hc wg t0 t1 hs g5 oo.1 oo.2.1 r12 pt2, e, cast_s, hc.t57, hc.r57_0, hc.r57_1, hc.r57_2, hc.r57_3, hc.r57_4, hc.r57_5, hc.r57_6, hc.r57_7, hc.r57_8, hc.r57_9, hc.r57_10]
      exact ih O B le (tr + 1) h2 _ ch.2 (by omega) oo.1 lB (fun P hP => ok P (by simp [hP])) z2 (g.tr (g2.ge (by omega))) k2 r12 (by rw [g2.1 59 (by omega)]; exact r2) pt2 hq
set_option maxHeartbeats 8000000 in
theorem l_69p (hp : PL X 200) (hc : CT X ns nb ln) {h0 : xH} {v : Nat → Nat → Int} {G B : List Nat} (g5 : G.length ≤ 5) (gc : ∀ c, c ∈ G → c < 20) (hB : B.length = G.length) (ho : ∀ o, o ∈ B → o < G.length) (r60 : R1 (h0.1 60) G) (r59 : R1 (h0.1 59) B) (gs : GSp h0 v G G.length) : ∀ (Gs Os : List Nat) (i : Nat) (u : Nat → Nat → Int) (h : xH) (x4 : Int) (x6 : Option xV), G.drop i = Gs → B.drop i = Os → i + Gs.length = G.length → i + Os.length = G.length → NZ X h → (∀ a, a ≠ 217 → a ≠ 218 → h.1 a = h0.1 a) → h.2 = h0.2 → cv h 200 = u → (∀ h2, NZ X h2 → (∀ a, a ≠ 217 → a ≠ 218 → h2.1 a = h0.1 a) → h2.2 = h0.2 → cv h2 200 = ptG v G Gs Os u → Q none h2) → Ev X 69 109 [some (vr 57), some (vr 200), some (vi (G.length : Int)), some (vr (200 + 11)), some (vi x4), some (vi i), x6] [] h Q := by
  intro Gs
  induction Gs with
  | nil =>
    intro Os i u h x4 x6 hd hd2 hk hk2 z g1 g2 ev hq
    have : Os = [] := by
      cases Os with
      | nil => rfl
      | cons x y => simp at hk hk2; omega
    rw [this, ptG] at hq
    · simp at hk
      rw [e_69_109]
      simp (disch := first | assumption | omega) only [e_69_110, e_69_111, e_69_134, onI_s, onR_s, onL_s, gl_0, gl_n, gl_1, gl_2, gl_3, gl_4, gl_5, gl_6, gl_7, gl_8, gl_9, gl_10, gl_11, gl_12, gl_13, gl_14, gl_15, gl_16, gl_17, sk0i, sk0r, sk0n, sk1i, sk1r, sk1n, sk_2, sk_3, sk_4, sk_5, sk_6, sk_7, sk_8, sk_9, sk_10, sk_11, sk_12, sk_13, sk_14, sk_15, sk_16, sk_17, ls_0, ls_1, ls_2, ls_3, ls_4, ls_5, ls_6, ls_7, ls_8, ls_9, ls_10, ls_11, ls_12, ls_13, ls_14, ls_15, ls_16, ls_17, ct1_i, ct1_r, wd8_0, wd8_i1, wd8_r1, wd8_i2, wd8_r2, wd8_i3, wd8_r3, wd8_i4, wd8_r4, wd8_i5, wd8_r5, wd8_i6, wd8_r6, wd8_i7, wd8_r7, wd8_i8, wd8_r8, wd8_l2, wd8_l3, wd8_l4, wd8_l5, wd8_l6, wd8_l7, wd8_l8, tl_s, tl_n, inR_t, bd_t, true_and, and_true, true_or, or_true, if_true_x, if_false_x, if_pos, if_neg, Int.toNat_natCast, natL, bI_0, bI_1, bI_ft, eq_self, b_tf, b_ft, not_true_eq_false, not_false_eq_true]
      exact hq h z g1 g2 ev
    all_goals simp
  | cons c Gs ih =>
    intro Os i u h x4 x6 hd hd2 hk hk2 z g1 g2 ev hq
    cases Os with
    | nil => simp at hk hk2; omega
    | cons o Os =>
      rw [List.length_cons] at hk hk2
      have hx : G[i]? = some c := by
        have := List.getElem?_drop (xs := G) (i := i) (j := 0)
        rw [hd] at this
        simpa using this.symm
      have hx2 : B[i]? = some o := by
        have := List.getElem?_drop (xs := B) (i := i) (j := 0)
        rw [hd2] at this
        simpa using this.symm
      have hdn : G.drop (i + 1) = Gs := by rw [← List.drop_drop, hd]; rfl
      have hdn2 : B.drop (i + 1) = Os := by rw [← List.drop_drop, hd2]; rfl
      have c20 := gc c (List.mem_of_getElem? hx)
      have ol := ho o (List.mem_of_getElem? hx2)
      have e60 : h.1 60 i = c := by rw [g1 60 (by omega) (by omega)]; exact r60 i c hx
      have e59 : h.1 59 i = o := by rw [g1 59 (by omega) (by omega)]; exact r59 i o hx2
      have e62 : h.1 62 o = v 17 (G.getD o 0) := by rw [g1 62 (by omega) (by omega)]; exact (gs o ol).1
      have e63 : h.1 63 o = v 18 (G.getD o 0) := by rw [g1 63 (by omega) (by omega)]; exact (gs o ol).2
      rw [ptG] at hq
      rw [e_69_109]
      simp (disch := first | assumption | omega) only [e_69_110, e_69_111, e_69_112, e_69_113, e_69_114, e_69_115, e_69_116, e_69_117, e_69_118, e_69_119, e_69_120, e_69_121, e_69_122, e_69_123, e_69_124, e_69_125, e_69_126, e_69_127, e_69_128, e_69_129, e_69_130, e_69_131, e_69_132, e_69_133, onI_s, onR_s, onL_s, gl_0, gl_n, gl_1, gl_2, gl_3, gl_4, gl_5, gl_6, gl_7, gl_8, gl_9, gl_10, gl_11, gl_12, gl_13, gl_14, gl_15, gl_16, gl_17, sk0i, sk0r, sk0n, sk1i, sk1r, sk1n, sk_2, sk_3, sk_4, sk_5, sk_6, sk_7, sk_8, sk_9, sk_10, sk_11, sk_12, sk_13, sk_14, sk_15, sk_16, sk_17, ls_0, ls_1, ls_2, ls_3, ls_4, ls_5, ls_6, ls_7, ls_8, ls_9, ls_10, ls_11, ls_12, ls_13, ls_14, ls_15, ls_16, ls_17, ct1_i, ct1_r, wd8_0, wd8_i1, wd8_r1, wd8_i2, wd8_r2, wd8_i3, wd8_r3, wd8_i4, wd8_r4, wd8_i5, wd8_r5, wd8_i6, wd8_r6, wd8_i7, wd8_r7, wd8_i8, wd8_r8, wd8_l2, wd8_l3, wd8_l4, wd8_l5, wd8_l6, wd8_l7, wd8_l8, tl_s, tl_n, inR_t, bd_t, true_and, and_true, true_or, or_true, if_true_x, if_false_x, if_pos, if_neg, Int.toNat_natCast, natL, bI_0, bI_1, bI_ft, eq_self, b_tf, b_ft, not_true_eq_false, not_false_eq_true, e60, e59, e62, e63, m_20 hp, Int.toNat_natCast, hp.t11, cast_s, hc.t57, hc.r57_0, hc.r57_1, hc.r57_2, hc.r57_3, hc.r57_4, hc.r57_5, hc.r57_6, hc.r57_7, hc.r57_8, hc.r57_9, hc.r57_10, hc.t59, hc.z59, hc.t60, hc.z60, hc.t62, hc.z62, hc.t63, hc.z63]
      have z17 : X.2.1 (200 + 17) = 20 := hp.z17
      have z18 : X.2.1 (200 + 18) = 20 := hp.z18
      refine ih Os (i + 1) (gvP u c (v 17 (G.getD o 0)) (v 18 (G.getD o 0))) (up2 (up2 h.1 (200 + 17) c (v 17 (G.getD o 0))) (200 + 18) c (v 18 (G.getD o 0)), h.2) _ _ hdn hdn2 (by omega) (by omega) (NZ.up (F := h.2) (NZ.up (I := h.1) (F := h.2) z (by rw [z17]; omega)) (by rw [z18]; omega)) (fun a q1 q2 => by dsimp only; rw [up2_of q2, up2_of q1]; exact g1 a q1 q2) g2 ?_ hq
      rw [cv_u (by omega) (by omega), cv_u (by omega) (by omega)]
      unfold gvP
      rw [← ev]
/-- rows of the passes, and the plan's spots -/
def GE7 (h h2 : xH) : Prop := (∀ a, ¬ (16 ≤ a ∧ a ≤ 21) → ¬ (58 ≤ a ∧ a ≤ 64) → a ≠ 217 → a ≠ 218 → h2.1 a = h.1 a) ∧ (∀ a, a ≠ 14 → h2.2 a = h.2 a)
theorem GE7.refl : GE7 h h := ⟨fun _ _ _ _ _ => rfl, fun _ _ => rfl⟩
theorem GE7.tr (a : GE7 h h2) (b : GE7 h2 h3) : GE7 h h3 := ⟨fun k q r s t => (b.1 k q r s t).trans (a.1 k q r s t), fun k q => (b.2 k q).trans (a.2 k q)⟩
theorem GE.ge7 (a : GE h h2) : GE7 h h2 := ⟨fun k q r _ _ => a.1 k q r, a.2⟩
theorem GE7.fz (f : GE7 h h2) (z : NZ X h2) : Fz X h h2 := ⟨z, fun a q => ⟨f.1 a (by omega) (by omega) (by omega) (by omega), f.2 a (by omega)⟩, ⟨by rw [f.2 7 (by omega)], by rw [f.2 7 (by omega)], by rw [f.2 22 (by omega)], by rw [f.2 22 (by omega)]⟩, fun p hp => ⟨fun i => by rw [f.2 _ (by omega)], fun j hj i hi => by rw [f.2 _ (by omega)]⟩⟩
set_option maxHeartbeats 8000000 in
theorem m_69 (hp : PL X 200) (hc : CT X ns nb ln) {h0 : xH} {v : Nat → Nat → Int} {t f ww : Int} (ev : cv h0 200 = v) (wg : WG v) (nd : NDv v) (pl : PLc v) (t0 : 0 ≤ t) (t1 : t ≤ 8) (et : h0.1 1 4 = t) (r60 : R1 (h0.1 60) (gpA v f ww)) (z : NZ X h0) (hq : ∀ h2, NZ X h2 → GE7 h0 h2 → cv h2 200 = srG v t f ww → Q none h2) : Cl X 69 [vr 57, vr 200, vi ((gpA v f ww).length : Int)] h0 Q := by
  have g5 : (gpA v f ww).length ≤ 5 := grp_len _
  have nC := wg.1.nC
  have gc : ∀ c, c ∈ gpA v f ww → c < 20 := fun c hc => by have := (grp_in _ c hc).1; omega
  have hs := gp_rg (f := f) (ww := ww) wg.1 pl
  have sc := srO_c (t := t) (f := f) (ww := ww) wg nd pl
  have so := srO_ok (v := v) (t := t) (f := f) (ww := ww)
  have oa := ord_all (n := (gpA v f ww).length) g5
  unfold srG at hq
  obtain ⟨G, eG⟩ : ∃ G, G = gpA v f ww := ⟨_, rfl⟩
  rw [← eG] at g5 gc hs sc so oa hq r60 ⊢
  have og := okO_rg g5
  rw [c_69]
  simp (disch := first | assumption | omega) only [e_69_0, e_69_1, e_69_2, e_69_3, e_69_4, onI_s, onR_s, onL_s, gl_0, gl_n, gl_1, gl_2, gl_3, gl_4, gl_5, gl_6, gl_7, gl_8, gl_9, gl_10, gl_11, gl_12, gl_13, gl_14, gl_15, gl_16, gl_17, sk0i, sk0r, sk0n, sk1i, sk1r, sk1n, sk_2, sk_3, sk_4, sk_5, sk_6, sk_7, sk_8, sk_9, sk_10, sk_11, sk_12, sk_13, sk_14, sk_15, sk_16, sk_17, ls_0, ls_1, ls_2, ls_3, ls_4, ls_5, ls_6, ls_7, ls_8, ls_9, ls_10, ls_11, ls_12, ls_13, ls_14, ls_15, ls_16, ls_17, ct1_i, ct1_r, wd8_0, wd8_i1, wd8_r1, wd8_i2, wd8_r2, wd8_i3, wd8_r3, wd8_i4, wd8_r4, wd8_i5, wd8_r5, wd8_i6, wd8_r6, wd8_i7, wd8_r7, wd8_i8, wd8_r8, wd8_l2, wd8_l3, wd8_l4, wd8_l5, wd8_l6, wd8_l7, wd8_l8, tl_s, tl_n, inR_t, bd_t, true_and, and_true, true_or, or_true, if_true_x, if_false_x, if_pos, if_neg, Int.toNat_natCast, natL, bI_0, bI_1, bI_ft, eq_self, b_tf, b_ft, not_true_eq_false, not_false_eq_true, hp.t0, hp.t1, hp.t2, hp.t3, hp.t4, hp.t5, hp.t6, hp.t7, hp.t8, hp.t9, hp.t10, hp.t11, hp.t12, hp.t13, hp.t14, hp.t15, hp.t16, hp.t17, hp.t18, hp.t19, hp.t20, hp.t21, hp.t22, hp.t23, hp.z2, hp.z3, hp.z4, hp.z5, hp.z7, hp.z8, hp.z9, hp.z10, hp.z12, hp.z13, hp.z14, hp.z15, hp.z16, hp.z17, hp.z18, hp.z20, hp.z21, hp.z22, hp.z23, hp.r0_2, hp.r0_3, hp.r0_4, hp.r0_5, hp.r1_1, hp.r1_2, hp.r1_3, hp.r1_4, hp.r6_1, hp.r6_2, hp.r6_3, hp.r6_4, hp.r11_1, hp.r11_2, hp.r11_3, hp.r11_4, hp.r11_5, hp.r11_6, hp.r11_7, hp.r19_1, hp.r19_2, hp.r19_3, hp.r19_4]
  refine l_69a hp hc ev g5 gc r60 G.length 0 h0 (by omega) z (fun _ _ _ => rfl) rfl (fun j hj => by omega) (fun h1 x4 z1 o1 f1 gs1 => ?_)
  have cv1 : cv h1 200 = v := (cv_congr (fun a q1 q2 => ⟨o1 a (by omega) (by omega), by rw [f1]⟩)).trans ev
  have ge1 : GE h0 h1 := ⟨fun a _ q => o1 a (by omega) (by omega), fun a _ => by rw [f1]⟩
  rw [e_69_32]
  simp (disch := first | assumption | omega) only [e_69_33, onI_s, onR_s, onL_s, gl_0, gl_n, gl_1, gl_2, gl_3, gl_4, gl_5, gl_6, gl_7, gl_8, gl_9, gl_10, gl_11, gl_12, gl_13, gl_14, gl_15, gl_16, gl_17, sk0i, sk0r, sk0n, sk1i, sk1r, sk1n, sk_2, sk_3, sk_4, sk_5, sk_6, sk_7, sk_8, sk_9, sk_10, sk_11, sk_12, sk_13, sk_14, sk_15, sk_16, sk_17, ls_0, ls_1, ls_2, ls_3, ls_4, ls_5, ls_6, ls_7, ls_8, ls_9, ls_10, ls_11, ls_12, ls_13, ls_14, ls_15, ls_16, ls_17, ct1_i, ct1_r, wd8_0, wd8_i1, wd8_r1, wd8_i2, wd8_r2, wd8_i3, wd8_r3, wd8_i4, wd8_r4, wd8_i5, wd8_r5, wd8_i6, wd8_r6, wd8_i7, wd8_r7, wd8_i8, wd8_r8, wd8_l2, wd8_l3, wd8_l4, wd8_l5, wd8_l6, wd8_l7, wd8_l8, tl_s, tl_n, inR_t, bd_t, true_and, and_true, true_or, or_true, if_true_x, if_false_x, if_pos, if_neg, Int.toNat_natCast, natL, bI_0, bI_1, bI_ft, eq_self, b_tf, b_ft, not_true_eq_false, not_false_eq_true]
  refine l_69i hp hc cv1 wg t0 t1 (by rw [o1 1 (by omega) (by omega)]; exact et) g5 gc (by rw [o1 60 (by omega) (by omega)]; exact r60) hs gs1 G.length 0 h1 _ (by omega) z1 (fun _ _ _ => rfl) (fun _ _ => rfl) (fun a b ha hb q => by omega) (fun h2 x4 x5 z2 o2 f2 pt2 => ?_)
  have ge2 : GE h0 h2 := ge1.tr ⟨fun a q1 q2 => o2 a q1 (by omega), fun a q => f2 a q⟩
  rw [e_69_77]
  simp (disch := first | assumption | omega) only [e_69_78, onI_s, onR_s, onL_s, gl_0, gl_n, gl_1, gl_2, gl_3, gl_4, gl_5, gl_6, gl_7, gl_8, gl_9, gl_10, gl_11, gl_12, gl_13, gl_14, gl_15, gl_16, gl_17, sk0i, sk0r, sk0n, sk1i, sk1r, sk1n, sk_2, sk_3, sk_4, sk_5, sk_6, sk_7, sk_8, sk_9, sk_10, sk_11, sk_12, sk_13, sk_14, sk_15, sk_16, sk_17, ls_0, ls_1, ls_2, ls_3, ls_4, ls_5, ls_6, ls_7, ls_8, ls_9, ls_10, ls_11, ls_12, ls_13, ls_14, ls_15, ls_16, ls_17, ct1_i, ct1_r, wd8_0, wd8_i1, wd8_r1, wd8_i2, wd8_r2, wd8_i3, wd8_r3, wd8_i4, wd8_r4, wd8_i5, wd8_r5, wd8_i6, wd8_r6, wd8_i7, wd8_r7, wd8_i8, wd8_r8, wd8_l2, wd8_l3, wd8_l4, wd8_l5, wd8_l6, wd8_l7, wd8_l8, tl_s, tl_n, inR_t, bd_t, true_and, and_true, true_or, or_true, if_true_x, if_false_x, if_pos, if_neg, Int.toNat_natCast, natL, bI_0, bI_1, bI_ft, eq_self, b_tf, b_ft, not_true_eq_false, not_false_eq_true]
  (rw [e_69_79]; refine ⟨⟨hc.t57, by simp [wd_i, wd_r, wd_l, wd_0]⟩, ?_⟩)
  refine m_55 hc g5 z2 (fun h3 z3 o3 f3 r13 r23 => ?_)
  have ge3 : GE h0 h3 := ge2.tr ⟨fun a _ q => o3 a (by omega) (by omega), fun a _ => by rw [f3]⟩
  have pt3 : PTb h3 v t G := by unfold PTb; rw [o3 64 (by omega) (by omega)]; exact pt2
  simp (disch := first | assumption | omega) only [e_69_80, e_69_81, e_69_82, e_69_83, e_69_84, e_69_85, onI_s, onR_s, onL_s, gl_0, gl_n, gl_1, gl_2, gl_3, gl_4, gl_5, gl_6, gl_7, gl_8, gl_9, gl_10, gl_11, gl_12, gl_13, gl_14, gl_15, gl_16, gl_17, sk0i, sk0r, sk0n, sk1i, sk1r, sk1n, sk_2, sk_3, sk_4, sk_5, sk_6, sk_7, sk_8, sk_9, sk_10, sk_11, sk_12, sk_13, sk_14, sk_15, sk_16, sk_17, ls_0, ls_1, ls_2, ls_3, ls_4, ls_5, ls_6, ls_7, ls_8, ls_9, ls_10, ls_11, ls_12, ls_13, ls_14, ls_15, ls_16, ls_17, ct1_i, ct1_r, wd8_0, wd8_i1, wd8_r1, wd8_i2, wd8_r2, wd8_i3, wd8_r3, wd8_i4, wd8_r4, wd8_i5, wd8_r5, wd8_i6, wd8_r6, wd8_i7, wd8_r7, wd8_i8, wd8_r8, wd8_l2, wd8_l3, wd8_l4, wd8_l5, wd8_l6, wd8_l7, wd8_l8, tl_s, tl_n, inR_t, bd_t, true_and, and_true, true_or, or_true, if_true_x, if_false_x, if_pos, if_neg, Int.toNat_natCast, natL, bI_0, bI_1, bI_ft, eq_self, b_tf, b_ft, not_true_eq_false, not_false_eq_true, m_70 hc wg t0 t1 hs g5 og.1 og.2.1 r13 pt3, hc.t57, hc.r57_0, hc.r57_1, hc.r57_2, hc.r57_3, hc.r57_4, hc.r57_5, hc.r57_6, hc.r57_7, hc.r57_8, hc.r57_9, hc.r57_10]
  have k3 : ∀ a, a = 60 ∨ a = 62 ∨ a = 63 → h3.1 a = h1.1 a := fun a q => by rw [o3 a (by omega) (by omega), o2 a (by omega) (by omega)]
  refine l_69s hc (h0 := h3) wg t0 t1 g5 hs (ords G.length) (List.range G.length) (List.range G.length) _ 1 h3 _ oa.1 (by have := oa.2.1; omega) og.1 og.1 oa.2.2 z3 GE.refl (fun _ _ => rfl) r13 r23 pt3 (fun h4 x4 x5 x6 z4 g4 k4 r4 => ?_)
  rw [← sc] at r4
  have ge4 : GE h0 h4 := ge3.tr g4
  have cv4 : cv h4 200 = v := ge4.cv.trans ev
  rw [e_69_107]
  simp (disch := first | assumption | omega) only [e_69_108, onI_s, onR_s, onL_s, gl_0, gl_n, gl_1, gl_2, gl_3, gl_4, gl_5, gl_6, gl_7, gl_8, gl_9, gl_10, gl_11, gl_12, gl_13, gl_14, gl_15, gl_16, gl_17, sk0i, sk0r, sk0n, sk1i, sk1r, sk1n, sk_2, sk_3, sk_4, sk_5, sk_6, sk_7, sk_8, sk_9, sk_10, sk_11, sk_12, sk_13, sk_14, sk_15, sk_16, sk_17, ls_0, ls_1, ls_2, ls_3, ls_4, ls_5, ls_6, ls_7, ls_8, ls_9, ls_10, ls_11, ls_12, ls_13, ls_14, ls_15, ls_16, ls_17, ct1_i, ct1_r, wd8_0, wd8_i1, wd8_r1, wd8_i2, wd8_r2, wd8_i3, wd8_r3, wd8_i4, wd8_r4, wd8_i5, wd8_r5, wd8_i6, wd8_r6, wd8_i7, wd8_r7, wd8_i8, wd8_r8, wd8_l2, wd8_l3, wd8_l4, wd8_l5, wd8_l6, wd8_l7, wd8_l8, tl_s, tl_n, inR_t, bd_t, true_and, and_true, true_or, or_true, if_true_x, if_false_x, if_pos, if_neg, Int.toNat_natCast, natL, bI_0, bI_1, bI_ft, eq_self, b_tf, b_ft, not_true_eq_false, not_false_eq_true]
  refine l_69p hp hc g5 gc so.1 so.2.1 (by rw [k4 60 (by omega), k3 60 (by omega), o1 60 (by omega) (by omega)]; exact r60) r4 (fun j hj => by rw [k4 62 (by omega), k4 63 (by omega), k3 62 (by omega), k3 63 (by omega)]; exact gs1 j hj) G (srO v t G) 0 v h4 _ _ (by simp) (by simp) (by omega) (by have := so.1; omega) z4 (fun _ _ _ => rfl) rfl cv4 (fun h5 z5 o5 f5 cv5 => hq h5 z5 (ge4.ge7.tr ⟨fun a _ _ q1 q2 => o5 a q1 q2, fun a _ => by rw [f5]⟩) cv5)
/-- a group of one or none stays -/
theorem srG_1 {v : Nat → Nat → Int} {t f ww : Int} (h : (gpA v f ww).length ≤ 1) : srG v t f ww = v := by
  unfold srG srO
  have o0 : ords (gpA v f ww).length = [] := by
    rcases (show (gpA v f ww).length = 0 ∨ (gpA v f ww).length = 1 by omega) with e | e <;> rw [e] <;> rfl
  rw [o0, bsO, List.range_eq_range', ptG_id _ 0 (by simp)]
set_option maxHeartbeats 8000000 in
theorem l_66w (hp : PL X 200) (hc : CT X ns nb ln) {v : Nat → Nat → Int} (gd : Gd v) {t : Int} (t0 : 0 ≤ t) (t1 : t ≤ 8) {h0 : xH} (et : h0.1 1 4 = t) {f : Int} : ∀ (m k : Nat) (u : Nat → Nat → Int) (h : xH) (x4 : Option xV), k + m = 7 → SK u v → NZ X h → GE7 h0 h → cv h 200 = u → (∀ h2 x3 x4, NZ X h2 → GE7 h0 h2 → cv h2 200 = srW t f m k u → Ev X 66 27 [some (vr 57), some (vr 200), some (vi f), x3, x4] [] h2 Q) → Ev X 66 9 [some (vr 57), some (vr 200), some (vi f), some (vi k), x4] [] h Q := by
  intro m
  induction m with
  | zero =>
    intro k u h x4 hm sk z g ev hq
    rw [e_66_9]
    simp (disch := first | assumption | omega) only [e_66_10, e_66_11, onI_s, onR_s, onL_s, gl_0, gl_n, gl_1, gl_2, gl_3, gl_4, gl_5, gl_6, gl_7, gl_8, gl_9, gl_10, gl_11, gl_12, gl_13, gl_14, gl_15, gl_16, gl_17, sk0i, sk0r, sk0n, sk1i, sk1r, sk1n, sk_2, sk_3, sk_4, sk_5, sk_6, sk_7, sk_8, sk_9, sk_10, sk_11, sk_12, sk_13, sk_14, sk_15, sk_16, sk_17, ls_0, ls_1, ls_2, ls_3, ls_4, ls_5, ls_6, ls_7, ls_8, ls_9, ls_10, ls_11, ls_12, ls_13, ls_14, ls_15, ls_16, ls_17, ct1_i, ct1_r, wd8_0, wd8_i1, wd8_r1, wd8_i2, wd8_r2, wd8_i3, wd8_r3, wd8_i4, wd8_r4, wd8_i5, wd8_r5, wd8_i6, wd8_r6, wd8_i7, wd8_r7, wd8_i8, wd8_r8, wd8_l2, wd8_l3, wd8_l4, wd8_l5, wd8_l6, wd8_l7, wd8_l8, tl_s, tl_n, inR_t, bd_t, true_and, and_true, true_or, or_true, if_true_x, if_false_x, if_pos, if_neg, Int.toNat_natCast, natL, bI_0, bI_1, bI_ft, eq_self, b_tf, b_ft, not_true_eq_false, not_false_eq_true]
    exact hq h _ _ z g ev
  | succ m ih =>
    intro k u h x4 hm sk z g ev hq
    have wgu : WG u := sk.1.wg sk.2.1 gd
    rw [srW] at hq
    rw [e_66_9]
    simp (disch := first | assumption | omega) only [e_66_10, e_66_11, e_66_12, e_66_13, e_66_14, e_66_15, onI_s, onR_s, onL_s, gl_0, gl_n, gl_1, gl_2, gl_3, gl_4, gl_5, gl_6, gl_7, gl_8, gl_9, gl_10, gl_11, gl_12, gl_13, gl_14, gl_15, gl_16, gl_17, sk0i, sk0r, sk0n, sk1i, sk1r, sk1n, sk_2, sk_3, sk_4, sk_5, sk_6, sk_7, sk_8, sk_9, sk_10, sk_11, sk_12, sk_13, sk_14, sk_15, sk_16, sk_17, ls_0, ls_1, ls_2, ls_3, ls_4, ls_5, ls_6, ls_7, ls_8, ls_9, ls_10, ls_11, ls_12, ls_13, ls_14, ls_15, ls_16, ls_17, ct1_i, ct1_r, wd8_0, wd8_i1, wd8_r1, wd8_i2, wd8_r2, wd8_i3, wd8_r3, wd8_i4, wd8_r4, wd8_i5, wd8_r5, wd8_i6, wd8_r6, wd8_i7, wd8_r7, wd8_i8, wd8_r8, wd8_l2, wd8_l3, wd8_l4, wd8_l5, wd8_l6, wd8_l7, wd8_l8, tl_s, tl_n, inR_t, bd_t, true_and, and_true, true_or, or_true, if_true_x, if_false_x, if_pos, if_neg, Int.toNat_natCast, natL, bI_0, bI_1, bI_ft, eq_self, b_tf, b_ft, not_true_eq_false, not_false_eq_true]
    (rw [e_66_16]; refine ⟨⟨hc.t57, by simp [wd_i, wd_r, wd_l, wd_0]⟩, ?_⟩)
    refine m_67 hp hc ev sk.2.1 z (fun h1 z1 g1 r1 => ?_)
    have ge1 : GE7 h0 h1 := g.tr (g1.ge (by omega)).ge7
    have cv1 : cv h1 200 = u := (g1.ge (by omega)).cv.trans ev
    have l5 := grp_len (v := u) (f := f) (w := k) (u 11 0).toNat
    by_cases e : (gpA u f k).length ≤ 1
    · have e' : ((gpA u f k).length : Int) ≤ 1 := by omega
      rw [srG_1 e] at hq
      simp (disch := first | assumption | omega) only [e_66_17, e_66_18, e_66_19, e_66_20, e_66_25, e_66_26, onI_s, onR_s, onL_s, gl_0, gl_n, gl_1, gl_2, gl_3, gl_4, gl_5, gl_6, gl_7, gl_8, gl_9, gl_10, gl_11, gl_12, gl_13, gl_14, gl_15, gl_16, gl_17, sk0i, sk0r, sk0n, sk1i, sk1r, sk1n, sk_2, sk_3, sk_4, sk_5, sk_6, sk_7, sk_8, sk_9, sk_10, sk_11, sk_12, sk_13, sk_14, sk_15, sk_16, sk_17, ls_0, ls_1, ls_2, ls_3, ls_4, ls_5, ls_6, ls_7, ls_8, ls_9, ls_10, ls_11, ls_12, ls_13, ls_14, ls_15, ls_16, ls_17, ct1_i, ct1_r, wd8_0, wd8_i1, wd8_r1, wd8_i2, wd8_r2, wd8_i3, wd8_r3, wd8_i4, wd8_r4, wd8_i5, wd8_r5, wd8_i6, wd8_r6, wd8_i7, wd8_r7, wd8_i8, wd8_r8, wd8_l2, wd8_l3, wd8_l4, wd8_l5, wd8_l6, wd8_l7, wd8_l8, tl_s, tl_n, inR_t, bd_t, true_and, and_true, true_or, or_true, if_true_x, if_false_x, if_pos, if_neg, Int.toNat_natCast, natL, bI_0, bI_1, bI_ft, eq_self, b_tf, b_ft, not_true_eq_false, not_false_eq_true, e', cast_s]
      exact ih (k + 1) u h1 _ (by omega) sk z1 ge1 cv1 hq
    · have e' : ¬ ((gpA u f k).length : Int) ≤ 1 := by omega
      simp (disch := first | assumption | omega) only [e_66_17, e_66_18, e_66_19, e_66_20, e_66_21, e_66_22, e_66_23, onI_s, onR_s, onL_s, gl_0, gl_n, gl_1, gl_2, gl_3, gl_4, gl_5, gl_6, gl_7, gl_8, gl_9, gl_10, gl_11, gl_12, gl_13, gl_14, gl_15, gl_16, gl_17, sk0i, sk0r, sk0n, sk1i, sk1r, sk1n, sk_2, sk_3, sk_4, sk_5, sk_6, sk_7, sk_8, sk_9, sk_10, sk_11, sk_12, sk_13, sk_14, sk_15, sk_16, sk_17, ls_0, ls_1, ls_2, ls_3, ls_4, ls_5, ls_6, ls_7, ls_8, ls_9, ls_10, ls_11, ls_12, ls_13, ls_14, ls_15, ls_16, ls_17, ct1_i, ct1_r, wd8_0, wd8_i1, wd8_r1, wd8_i2, wd8_r2, wd8_i3, wd8_r3, wd8_i4, wd8_r4, wd8_i5, wd8_r5, wd8_i6, wd8_r6, wd8_i7, wd8_r7, wd8_i8, wd8_r8, wd8_l2, wd8_l3, wd8_l4, wd8_l5, wd8_l6, wd8_l7, wd8_l8, tl_s, tl_n, inR_t, bd_t, true_and, and_true, true_or, or_true, if_true_x, if_false_x, if_pos, if_neg, Int.toNat_natCast, natL, bI_0, bI_1, bI_ft, eq_self, b_tf, b_ft, not_true_eq_false, not_false_eq_true, e']
      (rw [e_66_24]; refine ⟨⟨hc.t57, by simp [wd_i, wd_r, wd_l, wd_0]⟩, ?_⟩)
      refine m_69 hp hc cv1 wgu (sk.1.nd gd.nd) sk.2.2 t0 t1 (by rw [ge1.1 1 (by omega) (by omega) (by omega) (by omega)]; exact et) r1 z1 (fun h2 z2 g2 cv2 => ?_)
      simp (disch := first | assumption | omega) only [e_66_25, e_66_26, onI_s, onR_s, onL_s, gl_0, gl_n, gl_1, gl_2, gl_3, gl_4, gl_5, gl_6, gl_7, gl_8, gl_9, gl_10, gl_11, gl_12, gl_13, gl_14, gl_15, gl_16, gl_17, sk0i, sk0r, sk0n, sk1i, sk1r, sk1n, sk_2, sk_3, sk_4, sk_5, sk_6, sk_7, sk_8, sk_9, sk_10, sk_11, sk_12, sk_13, sk_14, sk_15, sk_16, sk_17, ls_0, ls_1, ls_2, ls_3, ls_4, ls_5, ls_6, ls_7, ls_8, ls_9, ls_10, ls_11, ls_12, ls_13, ls_14, ls_15, ls_16, ls_17, ct1_i, ct1_r, wd8_0, wd8_i1, wd8_r1, wd8_i2, wd8_r2, wd8_i3, wd8_r3, wd8_i4, wd8_r4, wd8_i5, wd8_r5, wd8_i6, wd8_r6, wd8_i7, wd8_r7, wd8_i8, wd8_r8, wd8_l2, wd8_l3, wd8_l4, wd8_l5, wd8_l6, wd8_l7, wd8_l8, tl_s, tl_n, inR_t, bd_t, true_and, and_true, true_or, or_true, if_true_x, if_false_x, if_pos, if_neg, Int.toNat_natCast, natL, bI_0, bI_1, bI_ft, eq_self, b_tf, b_ft, not_true_eq_false, not_false_eq_true, cast_s]
      exact ih (k + 1) _ h2 _ (by omega) sk.srG z2 (ge1.tr g2) cv2 hq
set_option maxHeartbeats 8000000 in
theorem m_66 (hp : PL X 200) (hc : CT X ns nb ln) {v : Nat → Nat → Int} (gd : Gd v) {t : Int} (t0 : 0 ≤ t) (t1 : t ≤ 8) {h0 : xH} (et : h0.1 1 4 = t) (ev : cv h0 200 = v) (z : NZ X h0) (hq : ∀ h2, NZ X h2 → GE7 h0 h2 → cv h2 200 = srF t ((v 6 0).toNat + 1) (-1) v → Q none h2) : Cl X 66 [vr 57, vr 200] h0 Q := by
  have nF := gd.rg.nF
  have lp : ∀ (m : Nat) (f : Int) (u : Nat → Nat → Int) (h : xH) (x3 x4 : Option xV), f + m = v 6 0 → -1 ≤ f → SK u v → NZ X h → GE7 h0 h → cv h 200 = u → (∀ h2, NZ X h2 → GE7 h0 h2 → cv h2 200 = srF t m f u → Q none h2) → Ev X 66 2 [some (vr 57), some (vr 200), some (vi f), x3, x4] [] h Q := by
    intro m
    induction m with
    | zero =>
      intro f u h x3 x4 hm f1 sk z g cvh hq
      have e6 : h.2 (200 + 6) 0 = v 6 0 := by rw [← sk.1 6 (by decide) (by decide), ← cvh]; rfl
      rw [e_66_2]
      simp (disch := first | assumption | omega) only [e_66_3, e_66_4, e_66_5, e_66_6, e_66_29, onI_s, onR_s, onL_s, gl_0, gl_n, gl_1, gl_2, gl_3, gl_4, gl_5, gl_6, gl_7, gl_8, gl_9, gl_10, gl_11, gl_12, gl_13, gl_14, gl_15, gl_16, gl_17, sk0i, sk0r, sk0n, sk1i, sk1r, sk1n, sk_2, sk_3, sk_4, sk_5, sk_6, sk_7, sk_8, sk_9, sk_10, sk_11, sk_12, sk_13, sk_14, sk_15, sk_16, sk_17, ls_0, ls_1, ls_2, ls_3, ls_4, ls_5, ls_6, ls_7, ls_8, ls_9, ls_10, ls_11, ls_12, ls_13, ls_14, ls_15, ls_16, ls_17, ct1_i, ct1_r, wd8_0, wd8_i1, wd8_r1, wd8_i2, wd8_r2, wd8_i3, wd8_r3, wd8_i4, wd8_r4, wd8_i5, wd8_r5, wd8_i6, wd8_r6, wd8_i7, wd8_r7, wd8_i8, wd8_r8, wd8_l2, wd8_l3, wd8_l4, wd8_l5, wd8_l6, wd8_l7, wd8_l8, tl_s, tl_n, inR_t, bd_t, true_and, and_true, true_or, or_true, if_true_x, if_false_x, if_pos, if_neg, Int.toNat_natCast, natL, bI_0, bI_1, bI_ft, eq_self, b_tf, b_ft, not_true_eq_false, not_false_eq_true, e6, hp.t0, hp.t1, hp.t2, hp.t3, hp.t4, hp.t5, hp.t6, hp.t7, hp.t8, hp.t9, hp.t10, hp.t11, hp.t12, hp.t13, hp.t14, hp.t15, hp.t16, hp.t17, hp.t18, hp.t19, hp.t20, hp.t21, hp.t22, hp.t23, hp.z2, hp.z3, hp.z4, hp.z5, hp.z7, hp.z8, hp.z9, hp.z10, hp.z12, hp.z13, hp.z14, hp.z15, hp.z16, hp.z17, hp.z18, hp.z20, hp.z21, hp.z22, hp.z23, hp.r0_2, hp.r0_3, hp.r0_4, hp.r0_5, hp.r1_1, hp.r1_2, hp.r1_3, hp.r1_4, hp.r6_1, hp.r6_2, hp.r6_3, hp.r6_4, hp.r11_1, hp.r11_2, hp.r11_3, hp.r11_4, hp.r11_5, hp.r11_6, hp.r11_7, hp.r19_1, hp.r19_2, hp.r19_3, hp.r19_4]
      exact hq h z g cvh
    | succ m ih =>
      intro f u h x3 x4 hm f1 sk z g cvh hq
      have e6 : h.2 (200 + 6) 0 = v 6 0 := by rw [← sk.1 6 (by decide) (by decide), ← cvh]; rfl
      rw [srF] at hq
      rw [e_66_2]
      simp (disch := first | assumption | omega) only [e_66_3, e_66_4, e_66_5, e_66_6, e_66_7, e_66_8, onI_s, onR_s, onL_s, gl_0, gl_n, gl_1, gl_2, gl_3, gl_4, gl_5, gl_6, gl_7, gl_8, gl_9, gl_10, gl_11, gl_12, gl_13, gl_14, gl_15, gl_16, gl_17, sk0i, sk0r, sk0n, sk1i, sk1r, sk1n, sk_2, sk_3, sk_4, sk_5, sk_6, sk_7, sk_8, sk_9, sk_10, sk_11, sk_12, sk_13, sk_14, sk_15, sk_16, sk_17, ls_0, ls_1, ls_2, ls_3, ls_4, ls_5, ls_6, ls_7, ls_8, ls_9, ls_10, ls_11, ls_12, ls_13, ls_14, ls_15, ls_16, ls_17, ct1_i, ct1_r, wd8_0, wd8_i1, wd8_r1, wd8_i2, wd8_r2, wd8_i3, wd8_r3, wd8_i4, wd8_r4, wd8_i5, wd8_r5, wd8_i6, wd8_r6, wd8_i7, wd8_r7, wd8_i8, wd8_r8, wd8_l2, wd8_l3, wd8_l4, wd8_l5, wd8_l6, wd8_l7, wd8_l8, tl_s, tl_n, inR_t, bd_t, true_and, and_true, true_or, or_true, if_true_x, if_false_x, if_pos, if_neg, Int.toNat_natCast, natL, bI_0, bI_1, bI_ft, eq_self, b_tf, b_ft, not_true_eq_false, not_false_eq_true, e6, hp.t0, hp.t1, hp.t2, hp.t3, hp.t4, hp.t5, hp.t6, hp.t7, hp.t8, hp.t9, hp.t10, hp.t11, hp.t12, hp.t13, hp.t14, hp.t15, hp.t16, hp.t17, hp.t18, hp.t19, hp.t20, hp.t21, hp.t22, hp.t23, hp.z2, hp.z3, hp.z4, hp.z5, hp.z7, hp.z8, hp.z9, hp.z10, hp.z12, hp.z13, hp.z14, hp.z15, hp.z16, hp.z17, hp.z18, hp.z20, hp.z21, hp.z22, hp.z23, hp.r0_2, hp.r0_3, hp.r0_4, hp.r0_5, hp.r1_1, hp.r1_2, hp.r1_3, hp.r1_4, hp.r6_1, hp.r6_2, hp.r6_3, hp.r6_4, hp.r11_1, hp.r11_2, hp.r11_3, hp.r11_4, hp.r11_5, hp.r11_6, hp.r11_7, hp.r19_1, hp.r19_2, hp.r19_3, hp.r19_4]
      refine l_66w hp hc gd t0 t1 et 6 1 u h _ (by omega) sk z g cvh (fun h2 x3 x4 z2 g2 cv2 => ?_)
      rw [e_66_27]
      simp (disch := first | assumption | omega) only [e_66_28, onI_s, onR_s, onL_s, gl_0, gl_n, gl_1, gl_2, gl_3, gl_4, gl_5, gl_6, gl_7, gl_8, gl_9, gl_10, gl_11, gl_12, gl_13, gl_14, gl_15, gl_16, gl_17, sk0i, sk0r, sk0n, sk1i, sk1r, sk1n, sk_2, sk_3, sk_4, sk_5, sk_6, sk_7, sk_8, sk_9, sk_10, sk_11, sk_12, sk_13, sk_14, sk_15, sk_16, sk_17, ls_0, ls_1, ls_2, ls_3, ls_4, ls_5, ls_6, ls_7, ls_8, ls_9, ls_10, ls_11, ls_12, ls_13, ls_14, ls_15, ls_16, ls_17, ct1_i, ct1_r, wd8_0, wd8_i1, wd8_r1, wd8_i2, wd8_r2, wd8_i3, wd8_r3, wd8_i4, wd8_r4, wd8_i5, wd8_r5, wd8_i6, wd8_r6, wd8_i7, wd8_r7, wd8_i8, wd8_r8, wd8_l2, wd8_l3, wd8_l4, wd8_l5, wd8_l6, wd8_l7, wd8_l8, tl_s, tl_n, inR_t, bd_t, true_and, and_true, true_or, or_true, if_true_x, if_false_x, if_pos, if_neg, Int.toNat_natCast, natL, bI_0, bI_1, bI_ft, eq_self, b_tf, b_ft, not_true_eq_false, not_false_eq_true]
      exact ih (f + 1) _ h2 _ _ (by omega) (by omega) (SK.srW 6 1 u sk) z2 g2 cv2 hq
  rw [c_66]
  simp (disch := first | assumption | omega) only [e_66_0, e_66_1, onI_s, onR_s, onL_s, gl_0, gl_n, gl_1, gl_2, gl_3, gl_4, gl_5, gl_6, gl_7, gl_8, gl_9, gl_10, gl_11, gl_12, gl_13, gl_14, gl_15, gl_16, gl_17, sk0i, sk0r, sk0n, sk1i, sk1r, sk1n, sk_2, sk_3, sk_4, sk_5, sk_6, sk_7, sk_8, sk_9, sk_10, sk_11, sk_12, sk_13, sk_14, sk_15, sk_16, sk_17, ls_0, ls_1, ls_2, ls_3, ls_4, ls_5, ls_6, ls_7, ls_8, ls_9, ls_10, ls_11, ls_12, ls_13, ls_14, ls_15, ls_16, ls_17, ct1_i, ct1_r, wd8_0, wd8_i1, wd8_r1, wd8_i2, wd8_r2, wd8_i3, wd8_r3, wd8_i4, wd8_r4, wd8_i5, wd8_r5, wd8_i6, wd8_r6, wd8_i7, wd8_r7, wd8_i8, wd8_r8, wd8_l2, wd8_l3, wd8_l4, wd8_l5, wd8_l6, wd8_l7, wd8_l8, tl_s, tl_n, inR_t, bd_t, true_and, and_true, true_or, or_true, if_true_x, if_false_x, if_pos, if_neg, Int.toNat_natCast, natL, bI_0, bI_1, bI_ft, eq_self, b_tf, b_ft, not_true_eq_false, not_false_eq_true]
  exact lp ((v 6 0).toNat + 1) (-1) v h0 none none (by omega) (by omega) ⟨SJ.refl, gd.rg, gd.geo.plc gd.rg⟩ z GE7.refl ev hq
set_option maxHeartbeats 8000000 in
theorem p_122 (ok : Ok X h) (g : Gd (cv h 200)) (tm : TMb (h.1 1)) (hq : ∀ h2, Cst X h h2 → cS h2 = (spSorts (cS h)).2 → Q (some (vi (spSorts (cS h)).1)) h2) : Cl X 122 [vr 0] h Q := by
  have ok0 := ok
  obtain ⟨z, os, oc, om, ⟨nb, ln, hc, hnb⟩, lp⟩ := ok
  have hp : PL X 200 := lp 0 (by decide)
  have hw := g.rg
  have tt := tm.tall
  have wb := wir_bd g.wg tt.1 tt.2
  unfold spSorts at hq
  rw [show (cS h).1 = cv h 200 from rfl, show (cS h).2.1 = h.1 1 from rfl] at hq
  have sk := SK.srF (t := h.1 1 4) ((cv h 200 6 0).toNat + 1) (-1) (cv h 200) ⟨SJ.refl, g.rg, g.geo.plc g.rg⟩
  have wgu : WG (srF (h.1 1 4) ((cv h 200 6 0).toNat + 1) (-1) (cv h 200)) := sk.1.wg sk.2.1 g
  have wb2 := wir_bd wgu tt.1 tt.2
  rw [c_122]
  simp (disch := first | assumption | omega) only [e_122_0, e_122_1, onI_s, onR_s, onL_s, gl_0, gl_n, gl_1, gl_2, gl_3, gl_4, gl_5, gl_6, gl_7, gl_8, gl_9, gl_10, gl_11, gl_12, gl_13, gl_14, gl_15, gl_16, gl_17, sk0i, sk0r, sk0n, sk1i, sk1r, sk1n, sk_2, sk_3, sk_4, sk_5, sk_6, sk_7, sk_8, sk_9, sk_10, sk_11, sk_12, sk_13, sk_14, sk_15, sk_16, sk_17, ls_0, ls_1, ls_2, ls_3, ls_4, ls_5, ls_6, ls_7, ls_8, ls_9, ls_10, ls_11, ls_12, ls_13, ls_14, ls_15, ls_16, ls_17, ct1_i, ct1_r, wd8_0, wd8_i1, wd8_r1, wd8_i2, wd8_r2, wd8_i3, wd8_r3, wd8_i4, wd8_r4, wd8_i5, wd8_r5, wd8_i6, wd8_r6, wd8_i7, wd8_r7, wd8_i8, wd8_r8, wd8_l2, wd8_l3, wd8_l4, wd8_l5, wd8_l6, wd8_l7, wd8_l8, tl_s, tl_n, inR_t, bd_t, true_and, and_true, true_or, or_true, if_true_x, if_false_x, if_pos, if_neg, Int.toNat_natCast, natL, bI_0, bI_1, bI_ft, eq_self, b_tf, b_ft, not_true_eq_false, not_false_eq_true]
  (rw [e_122_2]; refine ⟨⟨hc.t0, by simp [wd_i, wd_r, wd_l, wd_0]⟩, ?_⟩)
  refine kpC ok0 g (fun h2 k => ?_)
  simp (disch := first | assumption | omega) only [e_122_3, e_122_4, e_122_5, e_122_6, onI_s, onR_s, onL_s, gl_0, gl_n, gl_1, gl_2, gl_3, gl_4, gl_5, gl_6, gl_7, gl_8, gl_9, gl_10, gl_11, gl_12, gl_13, gl_14, gl_15, gl_16, gl_17, sk0i, sk0r, sk0n, sk1i, sk1r, sk1n, sk_2, sk_3, sk_4, sk_5, sk_6, sk_7, sk_8, sk_9, sk_10, sk_11, sk_12, sk_13, sk_14, sk_15, sk_16, sk_17, ls_0, ls_1, ls_2, ls_3, ls_4, ls_5, ls_6, ls_7, ls_8, ls_9, ls_10, ls_11, ls_12, ls_13, ls_14, ls_15, ls_16, ls_17, ct1_i, ct1_r, wd8_0, wd8_i1, wd8_r1, wd8_i2, wd8_r2, wd8_i3, wd8_r3, wd8_i4, wd8_r4, wd8_i5, wd8_r5, wd8_i6, wd8_r6, wd8_i7, wd8_r7, wd8_i8, wd8_r8, wd8_l2, wd8_l3, wd8_l4, wd8_l5, wd8_l6, wd8_l7, wd8_l8, tl_s, tl_n, inR_t, bd_t, true_and, and_true, true_or, or_true, if_true_x, if_false_x, if_pos, if_neg, Int.toNat_natCast, natL, bI_0, bI_1, bI_ft, eq_self, b_tf, b_ft, not_true_eq_false, not_false_eq_true, hc.t0, hc.r0_0, hc.r0_1, hc.r0_3, hc.r0_5, hc.r0_6, hc.r0_7, hc.r0_8, hc.r0_9, hc.r0_10, hc.r0_11, hc.r0_12, hc.r0_13]
  (rw [e_122_7]; refine ⟨⟨hc.t14, by simp [wd_i, wd_r, wd_l, wd_0]⟩, ?_⟩)
  refine wirC hp hc (by rw [k.pv]; exact g.wg) (by rw [k.t]; exact tm) (fun h3 q3 => ?_)
  rw [k.pv, k.t]
  have e3 := (q3.cv (b := 200) (by omega)).trans k.pv
  have f3 := q3.fz k.1.1
  have t3 : h3.1 1 = h.1 1 := by rw [q3.1]; exact k.t
  simp (disch := first | assumption | omega) only [e_122_8, e_122_9, e_122_10, e_122_11, e_122_12, onI_s, onR_s, onL_s, gl_0, gl_n, gl_1, gl_2, gl_3, gl_4, gl_5, gl_6, gl_7, gl_8, gl_9, gl_10, gl_11, gl_12, gl_13, gl_14, gl_15, gl_16, gl_17, sk0i, sk0r, sk0n, sk1i, sk1r, sk1n, sk_2, sk_3, sk_4, sk_5, sk_6, sk_7, sk_8, sk_9, sk_10, sk_11, sk_12, sk_13, sk_14, sk_15, sk_16, sk_17, ls_0, ls_1, ls_2, ls_3, ls_4, ls_5, ls_6, ls_7, ls_8, ls_9, ls_10, ls_11, ls_12, ls_13, ls_14, ls_15, ls_16, ls_17, ct1_i, ct1_r, wd8_0, wd8_i1, wd8_r1, wd8_i2, wd8_r2, wd8_i3, wd8_r3, wd8_i4, wd8_r4, wd8_i5, wd8_r5, wd8_i6, wd8_r6, wd8_i7, wd8_r7, wd8_i8, wd8_r8, wd8_l2, wd8_l3, wd8_l4, wd8_l5, wd8_l6, wd8_l7, wd8_l8, tl_s, tl_n, inR_t, bd_t, true_and, and_true, true_or, or_true, if_true_x, if_false_x, if_pos, if_neg, Int.toNat_natCast, natL, bI_0, bI_1, bI_ft, eq_self, b_tf, b_ft, not_true_eq_false, not_false_eq_true, hc.t0, hc.r0_0, hc.r0_1, hc.r0_3, hc.r0_5, hc.r0_6, hc.r0_7, hc.r0_8, hc.r0_9, hc.r0_10, hc.r0_11, hc.r0_12, hc.r0_13]
  (rw [e_122_13]; refine ⟨⟨hc.t57, by simp [wd_i, wd_r, wd_l, wd_0]⟩, ?_⟩)
  refine m_66 hp hc g tt.1 tt.2 (by rw [t3]) e3 f3.1 (fun h4 z4 g4 cv4 => ?_)
  have f4 := g4.fz z4
  have t4 : h4.1 1 = h.1 1 := by rw [(f4.2.1 1 (by omega)).1]; exact t3
  simp (disch := first | assumption | omega) only [e_122_14, e_122_15, e_122_16, e_122_17, e_122_18, onI_s, onR_s, onL_s, gl_0, gl_n, gl_1, gl_2, gl_3, gl_4, gl_5, gl_6, gl_7, gl_8, gl_9, gl_10, gl_11, gl_12, gl_13, gl_14, gl_15, gl_16, gl_17, sk0i, sk0r, sk0n, sk1i, sk1r, sk1n, sk_2, sk_3, sk_4, sk_5, sk_6, sk_7, sk_8, sk_9, sk_10, sk_11, sk_12, sk_13, sk_14, sk_15, sk_16, sk_17, ls_0, ls_1, ls_2, ls_3, ls_4, ls_5, ls_6, ls_7, ls_8, ls_9, ls_10, ls_11, ls_12, ls_13, ls_14, ls_15, ls_16, ls_17, ct1_i, ct1_r, wd8_0, wd8_i1, wd8_r1, wd8_i2, wd8_r2, wd8_i3, wd8_r3, wd8_i4, wd8_r4, wd8_i5, wd8_r5, wd8_i6, wd8_r6, wd8_i7, wd8_r7, wd8_i8, wd8_r8, wd8_l2, wd8_l3, wd8_l4, wd8_l5, wd8_l6, wd8_l7, wd8_l8, tl_s, tl_n, inR_t, bd_t, true_and, and_true, true_or, or_true, if_true_x, if_false_x, if_pos, if_neg, Int.toNat_natCast, natL, bI_0, bI_1, bI_ft, eq_self, b_tf, b_ft, not_true_eq_false, not_false_eq_true, hc.t0, hc.r0_0, hc.r0_1, hc.r0_3, hc.r0_5, hc.r0_6, hc.r0_7, hc.r0_8, hc.r0_9, hc.r0_10, hc.r0_11, hc.r0_12, hc.r0_13]
  (rw [e_122_19]; refine ⟨⟨hc.t14, by simp [wd_i, wd_r, wd_l, wd_0]⟩, ?_⟩)
  refine wirC hp hc (by rw [cv4]; exact wgu) (by rw [t4]; exact tm) (fun h5 q5 => ?_)
  rw [cv4, t4]
  have e5 := (q5.cv (b := 200) (by omega)).trans cv4
  have f5 := q5.fz (X := X) f4.1
  simp (disch := first | assumption | omega) only [e_122_20, e_122_21, onI_s, onR_s, onL_s, gl_0, gl_n, gl_1, gl_2, gl_3, gl_4, gl_5, gl_6, gl_7, gl_8, gl_9, gl_10, gl_11, gl_12, gl_13, gl_14, gl_15, gl_16, gl_17, sk0i, sk0r, sk0n, sk1i, sk1r, sk1n, sk_2, sk_3, sk_4, sk_5, sk_6, sk_7, sk_8, sk_9, sk_10, sk_11, sk_12, sk_13, sk_14, sk_15, sk_16, sk_17, ls_0, ls_1, ls_2, ls_3, ls_4, ls_5, ls_6, ls_7, ls_8, ls_9, ls_10, ls_11, ls_12, ls_13, ls_14, ls_15, ls_16, ls_17, ct1_i, ct1_r, wd8_0, wd8_i1, wd8_r1, wd8_i2, wd8_r2, wd8_i3, wd8_r3, wd8_i4, wd8_r4, wd8_i5, wd8_r5, wd8_i6, wd8_r6, wd8_i7, wd8_r7, wd8_i8, wd8_r8, wd8_l2, wd8_l3, wd8_l4, wd8_l5, wd8_l6, wd8_l7, wd8_l8, tl_s, tl_n, inR_t, bd_t, true_and, and_true, true_or, or_true, if_true_x, if_false_x, if_pos, if_neg, Int.toNat_natCast, natL, bI_0, bI_1, bI_ft, eq_self, b_tf, b_ft, not_true_eq_false, not_false_eq_true]
  have ac := act_c (r := wir (cv h 200) (h.1 1 4) - wir (srF (h.1 1 4) ((cv h 200 6 0).toNat + 1) (-1) (cv h 200)) (h.1 1 4)) k (f3.tr (f4.tr f5)) e5
  exact hq h5 ac.1 ac.2
end SCC
