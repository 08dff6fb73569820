section HPM
variable {X : xL} {Q : Option xV → xH → Prop} {ns nb ln : Nat} {h : xH}
set_option maxHeartbeats 2000000 in
theorem givM {c : Nat} {r s : Int} (hc : CT X ns nb ln) (ok : Ok X h) (hcc : c < 20) (hq : ∀ h2, Fm X h h2 → M73 h h2 → vm h2 = gvP (vm h) c r s → Q none h2) : Cl X 166 [vr 70, vi c, vi r, vi s] h Q := by
  rw [m_166 hc (by omega) (by omega)]
  have f1 := Fm.I73 (X := X) (h := h) (I := h.1) (F := h.2) (x := r) (j := (36 + 7 * (c : Int) + 5).toNat) (Fm.refl ok) (by omega) (by rw [hc.z73]; omega)
  have f2 := Fm.I73 (x := s) (j := (36 + 7 * (c : Int) + 6).toNat) f1 (by omega) (by rw [hc.z73]; omega)
  refine hq _ f2 (((M73.refl (h := h)).u (I := h.1) (F := h.2)).u) ?_
  rw [vm_uc (j := 18) (c := c) (by omega) (by omega) (by omega), vm_uc (j := 17) (c := c) (by omega) (by omega) (by omega)]
  rfl
theorem gv_wg {v : Nat → Nat → Int} {c : Nat} {r s : Int} (g : WG v) (h1 : -1 ≤ r ∧ r ≤ 7) (h2 : -1 ≤ s ∧ s ≤ 31) : WG (gvP v c r s) := (g.u (by unfold rgP; omega) (by omega)).u (by unfold rgP; omega) (by omega)
set_option maxHeartbeats 2000000 in
theorem m_276 {c : Nat} {r s : Int} (hc : CT X ns nb ln) (ok : Ok X h) (g : WG (vm h)) (tm : TMb (h.1 72)) (hcc : c < 20) (h1 : -1 ≤ r ∧ r ≤ 7) (h2 : -1 ≤ s ∧ s ≤ 31) (hq : ∀ h2, Fm X h h2 → M73 h h2 → vm h2 = vm h → Q (some (vi (wir (gvP (vm h) c r s) (h.1 72 4)))) h2) : Cl X 276 [vr 70, vi c, vi r, vi s] h Q := by
  rw [c_276]
  simp (disch := first | assumption | omega) only [e_276_0, e_276_1, e_276_2, e_276_3, e_276_4, e_276_5, e_276_6, e_276_7, e_276_8, e_276_9, e_276_10, e_276_11, e_276_12, e_276_13, e_276_14, e_276_15, e_276_16, e_276_17, e_276_18, e_276_19, onI_s, onR_s, onL_s, gl_0, gl_n, gl_1, gl_2, gl_3, gl_4, gl_5, gl_6, gl_7, gl_8, gl_9, gl_10, gl_11, gl_12, gl_13, gl_14, gl_15, gl_16, gl_17, sk0i, sk0r, sk0n, sk1i, sk1r, sk1n, sk_2, sk_3, sk_4, sk_5, sk_6, sk_7, sk_8, sk_9, sk_10, sk_11, sk_12, sk_13, sk_14, sk_15, sk_16, sk_17, ls_0, ls_1, ls_2, ls_3, ls_4, ls_5, ls_6, ls_7, ls_8, ls_9, ls_10, ls_11, ls_12, ls_13, ls_14, ls_15, ls_16, ls_17, ct1_i, ct1_r, wd8_0, wd8_i1, wd8_r1, wd8_i2, wd8_r2, wd8_i3, wd8_r3, wd8_i4, wd8_r4, wd8_i5, wd8_r5, wd8_i6, wd8_r6, wd8_i7, wd8_r7, wd8_i8, wd8_r8, wd8_l2, wd8_l3, wd8_l4, wd8_l5, wd8_l6, wd8_l7, wd8_l8, tl_s, tl_n, inR_t, bd_t, true_and, and_true, true_or, or_true, if_true_x, if_false_x, if_pos, if_neg, Int.toNat_natCast, natL, bI_0, bI_1, bI_ft, eq_self, b_tf, b_ft, not_true_eq_false, not_false_eq_true, m_158, vm_17, vm_18, hc.t70, hc.r70_4, hc.r70_5, hc.r70_6, hc.r70_7, hc.r70_8, hc.r70_10, hc.r70_11, hc.r70_12, hc.r70_14, hc.r70_15, hc.r70_16, hc.r70_17, hc.r70_19, hc.r70_21, hc.r70_23, hc.r70_24, hc.r70_26, hc.r70_27, hc.r70_28, hc.r70_29, hc.r70_30, hc.r70_31, hc.r70_32, hc.r70_33, hc.r70_36, hc.t73, hc.z73]
  (rw [e_276_20]; refine ⟨⟨hc.t70, by decide⟩, ?_⟩)
  refine givM hc ok hcc (fun h3 f3 p3 e3 => ?_)
  have g3 : WG (vm h3) := by rw [e3]; exact gv_wg g h1 h2
  have tm3 : TMb (h3.1 72) := by rw [f3.t]; exact tm
  simp (disch := first | assumption | omega) only [e_276_21, e_276_22, e_276_23, e_276_24, e_276_25, e_276_26, e_276_27, onI_s, onR_s, onL_s, gl_0, gl_n, gl_1, gl_2, gl_3, gl_4, gl_5, gl_6, gl_7, gl_8, gl_9, gl_10, gl_11, gl_12, gl_13, gl_14, gl_15, gl_16, gl_17, sk0i, sk0r, sk0n, sk1i, sk1r, sk1n, sk_2, sk_3, sk_4, sk_5, sk_6, sk_7, sk_8, sk_9, sk_10, sk_11, sk_12, sk_13, sk_14, sk_15, sk_16, sk_17, ls_0, ls_1, ls_2, ls_3, ls_4, ls_5, ls_6, ls_7, ls_8, ls_9, ls_10, ls_11, ls_12, ls_13, ls_14, ls_15, ls_16, ls_17, ct1_i, ct1_r, wd8_0, wd8_i1, wd8_r1, wd8_i2, wd8_r2, wd8_i3, wd8_r3, wd8_i4, wd8_r4, wd8_i5, wd8_r5, wd8_i6, wd8_r6, wd8_i7, wd8_r7, wd8_i8, wd8_r8, wd8_l2, wd8_l3, wd8_l4, wd8_l5, wd8_l6, wd8_l7, wd8_l8, tl_s, tl_n, inR_t, bd_t, true_and, and_true, true_or, or_true, if_true_x, if_false_x, if_pos, if_neg, Int.toNat_natCast, natL, bI_0, bI_1, bI_ft, eq_self, b_tf, b_ft, not_true_eq_false, not_false_eq_true, wirM hc g3 tm3, hc.t70, hc.r70_4, hc.r70_5, hc.r70_6, hc.r70_7, hc.r70_8, hc.r70_10, hc.r70_11, hc.r70_12, hc.r70_14, hc.r70_15, hc.r70_16, hc.r70_17, hc.r70_19, hc.r70_21, hc.r70_23, hc.r70_24, hc.r70_26, hc.r70_27, hc.r70_28, hc.r70_29, hc.r70_30, hc.r70_31, hc.r70_32, hc.r70_33, hc.r70_36]
  (rw [e_276_28]; refine ⟨⟨hc.t70, by decide⟩, ?_⟩)
  refine givM hc (f3.ok ok) hcc (fun h4 f4 p4 e4 => ?_)
  rw [e3, gv_gv] at e4
  simp (disch := first | assumption | omega) only [e_276_29, e_276_30, onI_s, onR_s, onL_s, gl_0, gl_n, gl_1, gl_2, gl_3, gl_4, gl_5, gl_6, gl_7, gl_8, gl_9, gl_10, gl_11, gl_12, gl_13, gl_14, gl_15, gl_16, gl_17, sk0i, sk0r, sk0n, sk1i, sk1r, sk1n, sk_2, sk_3, sk_4, sk_5, sk_6, sk_7, sk_8, sk_9, sk_10, sk_11, sk_12, sk_13, sk_14, sk_15, sk_16, sk_17, ls_0, ls_1, ls_2, ls_3, ls_4, ls_5, ls_6, ls_7, ls_8, ls_9, ls_10, ls_11, ls_12, ls_13, ls_14, ls_15, ls_16, ls_17, ct1_i, ct1_r, wd8_0, wd8_i1, wd8_r1, wd8_i2, wd8_r2, wd8_i3, wd8_r3, wd8_i4, wd8_r4, wd8_i5, wd8_r5, wd8_i6, wd8_r6, wd8_i7, wd8_r7, wd8_i8, wd8_r8, wd8_l2, wd8_l3, wd8_l4, wd8_l5, wd8_l6, wd8_l7, wd8_l8, tl_s, tl_n, inR_t, bd_t, true_and, and_true, true_or, or_true, if_true_x, if_false_x, if_pos, if_neg, Int.toNat_natCast, natL, bI_0, bI_1, bI_ft, eq_self, b_tf, b_ft, not_true_eq_false, not_false_eq_true]
  rw [e3, f3.t]
  exact hq h4 (f3.tr f4) (p3.tr p4) e4
set_option maxHeartbeats 4000000 in
theorem q_277 {c r st : Int} (ok : Ok X h) (g : Gd (vm h)) (tm : TMb (h.1 72)) (hq : ∀ h2, Mst X h h2 → mS h2 = mS h → Q (some (vi (spWould (mS h) c r st))) h2) : Ev X 277 3 [some (vr 70), some (vi c), some (vi r), some (vi st)] [] h Q := by
  have ok0 := ok
  obtain ⟨z, os, oc, om, ⟨nb, ln, hc, hnb⟩, lp⟩ := ok
  have hw := g.rg
  have nC := hw.nC
  have ws := hw.sites
  have wr := hw.rows
  have fin3 : ∀ h3, Fm X h h3 → vm h3 = vm h → Mst X h h3 ∧ mS h3 = mS h := fun h3 f e => ⟨f.mst ok0, by rw [f.ms, e]; rfl⟩
  have q0 := fin3 h (Fm.refl ok0) rfl
  unfold spWould at hq
  rw [show (mS h).1 = vm h from rfl, show (mS h).2.1 = h.1 72 from rfl] at hq
  by_cases g2 : 0 ≤ c ∧ c < vm h 11 0
  · have d := bT (show 0 ≤ c ∧ c ≤ vm h 11 0 - 1 by omega)
    obtain ⟨cn, rfl⟩ : ∃ cn : Nat, c = cn := ⟨c.toNat, by omega⟩
    have hcn : cn < 20 := by omega
    have cw := (g.geo.cel g2.2).1
    have wc := hw.wid cn
    rw [Int.toNat_natCast] at hq
    cases d1 : (decide (0 ≤ r) && decide (r < vm h 0 0) && decide (0 ≤ st) && decide (st < vm h 0 1))
    · rw [if_neg (fun q => by
        have := q.2
        unfold icB at this
        rw [Bool.eq_false_iff] at d1
        apply d1
        simp only [Bool.and_eq_true, decide_eq_true_eq] at this ⊢
        omega)] at hq
      simp (disch := first | assumption | omega) only [e_277_3, e_277_4, e_277_5, e_277_6, e_277_7, e_277_8, e_277_9, e_277_10, e_277_11, e_277_26, e_277_27, onI_s, onR_s, onL_s, gl_0, gl_n, gl_1, gl_2, gl_3, gl_4, gl_5, gl_6, gl_7, gl_8, gl_9, gl_10, gl_11, gl_12, gl_13, gl_14, gl_15, gl_16, gl_17, sk0i, sk0r, sk0n, sk1i, sk1r, sk1n, sk_2, sk_3, sk_4, sk_5, sk_6, sk_7, sk_8, sk_9, sk_10, sk_11, sk_12, sk_13, sk_14, sk_15, sk_16, sk_17, ls_0, ls_1, ls_2, ls_3, ls_4, ls_5, ls_6, ls_7, ls_8, ls_9, ls_10, ls_11, ls_12, ls_13, ls_14, ls_15, ls_16, ls_17, ct1_i, ct1_r, wd8_0, wd8_i1, wd8_r1, wd8_i2, wd8_r2, wd8_i3, wd8_r3, wd8_i4, wd8_r4, wd8_i5, wd8_r5, wd8_i6, wd8_r6, wd8_i7, wd8_r7, wd8_i8, wd8_r8, wd8_l2, wd8_l3, wd8_l4, wd8_l5, wd8_l6, wd8_l7, wd8_l8, tl_s, tl_n, inR_t, bd_t, true_and, and_true, true_or, or_true, if_true_x, if_false_x, if_pos, if_neg, Int.toNat_natCast, natL, bI_0, bI_1, bI_ft, eq_self, b_tf, b_ft, not_true_eq_false, not_false_eq_true, m_167 hc hw, m_170 hc hw, d, d1, hc.t70, hc.r70_4, hc.r70_5, hc.r70_6, hc.r70_7, hc.r70_8, hc.r70_10, hc.r70_11, hc.r70_12, hc.r70_14, hc.r70_15, hc.r70_16, hc.r70_17, hc.r70_19, hc.r70_21, hc.r70_23, hc.r70_24, hc.r70_26, hc.r70_27, hc.r70_28, hc.r70_29, hc.r70_30, hc.r70_31, hc.r70_32, hc.r70_33, hc.r70_36]
      exact hq h q0.1 q0.2
    · have d2 := d1
      simp only [Bool.and_eq_true, decide_eq_true_eq] at d2
      by_cases e : st + vm h 12 cn ≤ vm h 0 1
      · rw [if_pos ⟨g2, by unfold icB; simp only [Bool.and_eq_true, decide_eq_true_eq]; omega⟩] at hq
        rw [vm_si] at e
        simp (disch := first | assumption | omega) only [e_277_3, e_277_4, e_277_5, e_277_6, e_277_7, e_277_8, e_277_9, e_277_10, e_277_11, e_277_12, e_277_13, e_277_14, e_277_15, e_277_16, e_277_17, e_277_18, e_277_19, e_277_20, e_277_21, e_277_22, e_277_23, onI_s, onR_s, onL_s, gl_0, gl_n, gl_1, gl_2, gl_3, gl_4, gl_5, gl_6, gl_7, gl_8, gl_9, gl_10, gl_11, gl_12, gl_13, gl_14, gl_15, gl_16, gl_17, sk0i, sk0r, sk0n, sk1i, sk1r, sk1n, sk_2, sk_3, sk_4, sk_5, sk_6, sk_7, sk_8, sk_9, sk_10, sk_11, sk_12, sk_13, sk_14, sk_15, sk_16, sk_17, ls_0, ls_1, ls_2, ls_3, ls_4, ls_5, ls_6, ls_7, ls_8, ls_9, ls_10, ls_11, ls_12, ls_13, ls_14, ls_15, ls_16, ls_17, ct1_i, ct1_r, wd8_0, wd8_i1, wd8_r1, wd8_i2, wd8_r2, wd8_i3, wd8_r3, wd8_i4, wd8_r4, wd8_i5, wd8_r5, wd8_i6, wd8_r6, wd8_i7, wd8_r7, wd8_i8, wd8_r8, wd8_l2, wd8_l3, wd8_l4, wd8_l5, wd8_l6, wd8_l7, wd8_l8, tl_s, tl_n, inR_t, bd_t, true_and, and_true, true_or, or_true, if_true_x, if_false_x, if_pos, if_neg, Int.toNat_natCast, natL, bI_0, bI_1, bI_ft, eq_self, b_tf, b_ft, not_true_eq_false, not_false_eq_true, m_167 hc hw, m_170 hc hw, m_160 hc, d, d1, hc.t70, hc.r70_4, hc.r70_5, hc.r70_6, hc.r70_7, hc.r70_8, hc.r70_10, hc.r70_11, hc.r70_12, hc.r70_14, hc.r70_15, hc.r70_16, hc.r70_17, hc.r70_19, hc.r70_21, hc.r70_23, hc.r70_24, hc.r70_26, hc.r70_27, hc.r70_28, hc.r70_29, hc.r70_30, hc.r70_31, hc.r70_32, hc.r70_33, hc.r70_36]
        (rw [e_277_24]; refine ⟨⟨hc.t70, by decide⟩, ?_⟩)
        refine m_276 hc ok0 g.wg tm hcn (by omega) (by omega) (fun h3 f3 p3 e3 => ?_)
        simp (disch := first | assumption | omega) only [e_277_25, e_277_27, onI_s, onR_s, onL_s, gl_0, gl_n, gl_1, gl_2, gl_3, gl_4, gl_5, gl_6, gl_7, gl_8, gl_9, gl_10, gl_11, gl_12, gl_13, gl_14, gl_15, gl_16, gl_17, sk0i, sk0r, sk0n, sk1i, sk1r, sk1n, sk_2, sk_3, sk_4, sk_5, sk_6, sk_7, sk_8, sk_9, sk_10, sk_11, sk_12, sk_13, sk_14, sk_15, sk_16, sk_17, ls_0, ls_1, ls_2, ls_3, ls_4, ls_5, ls_6, ls_7, ls_8, ls_9, ls_10, ls_11, ls_12, ls_13, ls_14, ls_15, ls_16, ls_17, ct1_i, ct1_r, wd8_0, wd8_i1, wd8_r1, wd8_i2, wd8_r2, wd8_i3, wd8_r3, wd8_i4, wd8_r4, wd8_i5, wd8_r5, wd8_i6, wd8_r6, wd8_i7, wd8_r7, wd8_i8, wd8_r8, wd8_l2, wd8_l3, wd8_l4, wd8_l5, wd8_l6, wd8_l7, wd8_l8, tl_s, tl_n, inR_t, bd_t, true_and, and_true, true_or, or_true, if_true_x, if_false_x, if_pos, if_neg, Int.toNat_natCast, natL, bI_0, bI_1, bI_ft, eq_self, b_tf, b_ft, not_true_eq_false, not_false_eq_true]
        exact hq h3 (fin3 h3 f3 e3).1 (fin3 h3 f3 e3).2
      · rw [if_neg (fun q => by
          have := q.2
          unfold icB at this
          simp only [Bool.and_eq_true, decide_eq_true_eq] at this
          omega)] at hq
        rw [vm_si] at e
        simp (disch := first | assumption | omega) only [e_277_3, e_277_4, e_277_5, e_277_6, e_277_7, e_277_8, e_277_9, e_277_10, e_277_11, e_277_12, e_277_13, e_277_14, e_277_15, e_277_16, e_277_17, e_277_18, e_277_19, e_277_26, e_277_27, onI_s, onR_s, onL_s, gl_0, gl_n, gl_1, gl_2, gl_3, gl_4, gl_5, gl_6, gl_7, gl_8, gl_9, gl_10, gl_11, gl_12, gl_13, gl_14, gl_15, gl_16, gl_17, sk0i, sk0r, sk0n, sk1i, sk1r, sk1n, sk_2, sk_3, sk_4, sk_5, sk_6, sk_7, sk_8, sk_9, sk_10, sk_11, sk_12, sk_13, sk_14, sk_15, sk_16, sk_17, ls_0, ls_1, ls_2, ls_3, ls_4, ls_5, ls_6, ls_7, ls_8, ls_9, ls_10, ls_11, ls_12, ls_13, ls_14, ls_15, ls_16, ls_17, ct1_i, ct1_r, wd8_0, wd8_i1, wd8_r1, wd8_i2, wd8_r2, wd8_i3, wd8_r3, wd8_i4, wd8_r4, wd8_i5, wd8_r5, wd8_i6, wd8_r6, wd8_i7, wd8_r7, wd8_i8, wd8_r8, wd8_l2, wd8_l3, wd8_l4, wd8_l5, wd8_l6, wd8_l7, wd8_l8, tl_s, tl_n, inR_t, bd_t, true_and, and_true, true_or, or_true, if_true_x, if_false_x, if_pos, if_neg, Int.toNat_natCast, natL, bI_0, bI_1, bI_ft, eq_self, b_tf, b_ft, not_true_eq_false, not_false_eq_true, m_167 hc hw, m_170 hc hw, m_160 hc, d, d1, hc.t70, hc.r70_4, hc.r70_5, hc.r70_6, hc.r70_7, hc.r70_8, hc.r70_10, hc.r70_11, hc.r70_12, hc.r70_14, hc.r70_15, hc.r70_16, hc.r70_17, hc.r70_19, hc.r70_21, hc.r70_23, hc.r70_24, hc.r70_26, hc.r70_27, hc.r70_28, hc.r70_29, hc.r70_30, hc.r70_31, hc.r70_32, hc.r70_33, hc.r70_36]
        exact hq h q0.1 q0.2
  · rw [if_neg (fun q => g2 q.1)] at hq
    have d := bF (show ¬ (0 ≤ c ∧ c ≤ vm h 11 0 - 1) by omega)
    simp (disch := first | assumption | omega) only [e_277_3, e_277_4, e_277_5, e_277_6, e_277_26, e_277_27, onI_s, onR_s, onL_s, gl_0, gl_n, gl_1, gl_2, gl_3, gl_4, gl_5, gl_6, gl_7, gl_8, gl_9, gl_10, gl_11, gl_12, gl_13, gl_14, gl_15, gl_16, gl_17, sk0i, sk0r, sk0n, sk1i, sk1r, sk1n, sk_2, sk_3, sk_4, sk_5, sk_6, sk_7, sk_8, sk_9, sk_10, sk_11, sk_12, sk_13, sk_14, sk_15, sk_16, sk_17, ls_0, ls_1, ls_2, ls_3, ls_4, ls_5, ls_6, ls_7, ls_8, ls_9, ls_10, ls_11, ls_12, ls_13, ls_14, ls_15, ls_16, ls_17, ct1_i, ct1_r, wd8_0, wd8_i1, wd8_r1, wd8_i2, wd8_r2, wd8_i3, wd8_r3, wd8_i4, wd8_r4, wd8_i5, wd8_r5, wd8_i6, wd8_r6, wd8_i7, wd8_r7, wd8_i8, wd8_r8, wd8_l2, wd8_l3, wd8_l4, wd8_l5, wd8_l6, wd8_l7, wd8_l8, tl_s, tl_n, inR_t, bd_t, true_and, and_true, true_or, or_true, if_true_x, if_false_x, if_pos, if_neg, Int.toNat_natCast, natL, bI_0, bI_1, bI_ft, eq_self, b_tf, b_ft, not_true_eq_false, not_false_eq_true, m_167 hc hw, d, hc.t70, hc.r70_4, hc.r70_5, hc.r70_6, hc.r70_7, hc.r70_8, hc.r70_10, hc.r70_11, hc.r70_12, hc.r70_14, hc.r70_15, hc.r70_16, hc.r70_17, hc.r70_19, hc.r70_21, hc.r70_23, hc.r70_24, hc.r70_26, hc.r70_27, hc.r70_28, hc.r70_29, hc.r70_30, hc.r70_31, hc.r70_32, hc.r70_33, hc.r70_36]
    exact hq h q0.1 q0.2
set_option maxHeartbeats 4000000 in
theorem l_278 (hc : CT X ns nb ln) {v : Nat → Nat → Int} {c M : Nat} {w t : Int} (g : WG v) (hcc : c < 20) (M33 : M ≤ 32) (hM : v 0 1 - v 12 c + 1 = M) : ∀ (m s : Nat) (fi la le : Int) (h : xH) (x7 : Option xV), Ok X h → vm h = v → TMb (h.1 72) → h.1 72 4 = t → s + m = M → (∀ h2 x6 x7, Fm X h h2 → vm h2 = v → Ev X 278 70 [some (vr 70), some (vi c), some (vi w), some (vi (bst (fun s => wir (gvP v c (v 17 c) s) t) m s (fi, la, le)).1), some (vi (bst (fun s => wir (gvP v c (v 17 c) s) t) m s (fi, la, le)).2.1), some (vi (bst (fun s => wir (gvP v c (v 17 c) s) t) m s (fi, la, le)).2.2), x6, x7] [] h2 Q) → Ev X 278 27 [some (vr 70), some (vi c), some (vi w), some (vi fi), some (vi la), some (vi le), some (vi s), x7] [] h Q := by
  have wr := g.1.row c
  have wc := g.1.wid c
  intro m
  induction m with
  | zero =>
    intro s fi la le h x7 ok ev tm ht hm hq
    have e1 : vm h 12 c = v 12 c := by rw [ev]
    have e2 : h.2 70 3 = v 0 1 := by rw [← ev]; rfl
    rw [e_278_27]
    simp (disch := first | assumption | omega) only [e_278_28, e_278_29, e_278_30, e_278_31, e_278_32, e_278_33, e_278_34, onI_s, onR_s, onL_s, gl_0, gl_n, gl_1, gl_2, gl_3, gl_4, gl_5, gl_6, gl_7, gl_8, gl_9, gl_10, gl_11, gl_12, gl_13, gl_14, gl_15, gl_16, gl_17, sk0i, sk0r, sk0n, sk1i, sk1r, sk1n, sk_2, sk_3, sk_4, sk_5, sk_6, sk_7, sk_8, sk_9, sk_10, sk_11, sk_12, sk_13, sk_14, sk_15, sk_16, sk_17, ls_0, ls_1, ls_2, ls_3, ls_4, ls_5, ls_6, ls_7, ls_8, ls_9, ls_10, ls_11, ls_12, ls_13, ls_14, ls_15, ls_16, ls_17, ct1_i, ct1_r, wd8_0, wd8_i1, wd8_r1, wd8_i2, wd8_r2, wd8_i3, wd8_r3, wd8_i4, wd8_r4, wd8_i5, wd8_r5, wd8_i6, wd8_r6, wd8_i7, wd8_r7, wd8_i8, wd8_r8, wd8_l2, wd8_l3, wd8_l4, wd8_l5, wd8_l6, wd8_l7, wd8_l8, tl_s, tl_n, inR_t, bd_t, true_and, and_true, true_or, or_true, if_true_x, if_false_x, if_pos, if_neg, Int.toNat_natCast, natL, bI_0, bI_1, bI_ft, eq_self, b_tf, b_ft, not_true_eq_false, not_false_eq_true, m_160 hc, e1, e2, hc.t70, hc.r70_4, hc.r70_5, hc.r70_6, hc.r70_7, hc.r70_8, hc.r70_10, hc.r70_11, hc.r70_12, hc.r70_14, hc.r70_15, hc.r70_16, hc.r70_17, hc.r70_19, hc.r70_21, hc.r70_23, hc.r70_24, hc.r70_26, hc.r70_27, hc.r70_28, hc.r70_29, hc.r70_30, hc.r70_31, hc.r70_32, hc.r70_33, hc.r70_36]
    exact hq h _ x7 (Fm.refl ok) ev
  | succ m ih =>
    intro s fi la le h x7 ok ev tm ht hm hq
    have e1 : vm h 12 c = v 12 c := by rw [ev]
    have e2 : h.2 70 3 = v 0 1 := by rw [← ev]; rfl
    have e3 : vm h 17 c = v 17 c := by rw [ev]
    rw [bst] at hq
    dsimp only at hq
    rw [e_278_27]
    simp (disch := first | assumption | omega) only [e_278_28, e_278_29, e_278_30, e_278_31, e_278_32, e_278_33, e_278_34, e_278_35, e_278_36, e_278_37, e_278_38, e_278_39, e_278_40, e_278_41, e_278_42, e_278_43, e_278_44, onI_s, onR_s, onL_s, gl_0, gl_n, gl_1, gl_2, gl_3, gl_4, gl_5, gl_6, gl_7, gl_8, gl_9, gl_10, gl_11, gl_12, gl_13, gl_14, gl_15, gl_16, gl_17, sk0i, sk0r, sk0n, sk1i, sk1r, sk1n, sk_2, sk_3, sk_4, sk_5, sk_6, sk_7, sk_8, sk_9, sk_10, sk_11, sk_12, sk_13, sk_14, sk_15, sk_16, sk_17, ls_0, ls_1, ls_2, ls_3, ls_4, ls_5, ls_6, ls_7, ls_8, ls_9, ls_10, ls_11, ls_12, ls_13, ls_14, ls_15, ls_16, ls_17, ct1_i, ct1_r, wd8_0, wd8_i1, wd8_r1, wd8_i2, wd8_r2, wd8_i3, wd8_r3, wd8_i4, wd8_r4, wd8_i5, wd8_r5, wd8_i6, wd8_r6, wd8_i7, wd8_r7, wd8_i8, wd8_r8, wd8_l2, wd8_l3, wd8_l4, wd8_l5, wd8_l6, wd8_l7, wd8_l8, tl_s, tl_n, inR_t, bd_t, true_and, and_true, true_or, or_true, if_true_x, if_false_x, if_pos, if_neg, Int.toNat_natCast, natL, bI_0, bI_1, bI_ft, eq_self, b_tf, b_ft, not_true_eq_false, not_false_eq_true, m_160 hc, m_158, vm_17, e1, e2, e3, hc.t70, hc.r70_4, hc.r70_5, hc.r70_6, hc.r70_7, hc.r70_8, hc.r70_10, hc.r70_11, hc.r70_12, hc.r70_14, hc.r70_15, hc.r70_16, hc.r70_17, hc.r70_19, hc.r70_21, hc.r70_23, hc.r70_24, hc.r70_26, hc.r70_27, hc.r70_28, hc.r70_29, hc.r70_30, hc.r70_31, hc.r70_32, hc.r70_33, hc.r70_36, hc.t73, hc.z73]
    (rw [e_278_45]; refine ⟨⟨hc.t70, by decide⟩, ?_⟩)
    refine m_276 hc ok (by rw [ev]; exact g) tm hcc (by omega) (by omega) (fun h3 f3 p3 e4 => ?_)
    rw [ev, ht]
    have nx : ∀ fi2 la2 le2, (if wir (gvP v c (v 17 c) s) t < le then (s : Int) else fi) = fi2 → (if wir (gvP v c (v 17 c) s) t ≤ le then (s : Int) else la) = la2 → (if wir (gvP v c (v 17 c) s) t < le then wir (gvP v c (v 17 c) s) t else le) = le2 → ∀ x7, Ev X 278 27 [some (vr 70), some (vi c), some (vi w), some (vi fi2), some (vi la2), some (vi le2), some (vi ((s + 1 : Nat) : Int)), x7] [] h3 Q := by
      intro fi2 la2 le2 h1 h2 h3 x7
      rw [h1, h2, h3] at hq
      exact ih (s + 1) fi2 la2 le2 _ _ (f3.ok ok) (e4.trans ev) (by rw [f3.t]; exact tm) (by rw [f3.t]; exact ht) (by omega) (fun h5 x6 x7 f5 e5 => hq h5 x6 x7 (f3.tr f5) e5)
    by_cases y1 : wir (gvP v c (v 17 c) s) t < le
    · simp (disch := first | assumption | omega) only [e_278_46, e_278_47, e_278_48, e_278_49, e_278_50, e_278_51, e_278_53, e_278_54, e_278_55, e_278_56, e_278_57, e_278_58, e_278_60, e_278_61, e_278_62, e_278_63, e_278_64, e_278_65, e_278_67, e_278_68, e_278_69, onI_s, onR_s, onL_s, gl_0, gl_n, gl_1, gl_2, gl_3, gl_4, gl_5, gl_6, gl_7, gl_8, gl_9, gl_10, gl_11, gl_12, gl_13, gl_14, gl_15, gl_16, gl_17, sk0i, sk0r, sk0n, sk1i, sk1r, sk1n, sk_2, sk_3, sk_4, sk_5, sk_6, sk_7, sk_8, sk_9, sk_10, sk_11, sk_12, sk_13, sk_14, sk_15, sk_16, sk_17, ls_0, ls_1, ls_2, ls_3, ls_4, ls_5, ls_6, ls_7, ls_8, ls_9, ls_10, ls_11, ls_12, ls_13, ls_14, ls_15, ls_16, ls_17, ct1_i, ct1_r, wd8_0, wd8_i1, wd8_r1, wd8_i2, wd8_r2, wd8_i3, wd8_r3, wd8_i4, wd8_r4, wd8_i5, wd8_r5, wd8_i6, wd8_r6, wd8_i7, wd8_r7, wd8_i8, wd8_r8, wd8_l2, wd8_l3, wd8_l4, wd8_l5, wd8_l6, wd8_l7, wd8_l8, tl_s, tl_n, inR_t, bd_t, true_and, and_true, true_or, or_true, if_true_x, if_false_x, if_pos, if_neg, Int.toNat_natCast, natL, bI_0, bI_1, bI_ft, eq_self, b_tf, b_ft, not_true_eq_false, not_false_eq_true, cast_s]
      exact nx _ _ _ (if_pos y1) (if_pos (by omega)) (if_pos y1) _
    · by_cases y2 : wir (gvP v c (v 17 c) s) t ≤ le
      · simp (disch := first | assumption | omega) only [e_278_46, e_278_47, e_278_48, e_278_49, e_278_52, e_278_53, e_278_54, e_278_55, e_278_56, e_278_57, e_278_58, e_278_60, e_278_61, e_278_62, e_278_63, e_278_66, e_278_67, e_278_68, e_278_69, onI_s, onR_s, onL_s, gl_0, gl_n, gl_1, gl_2, gl_3, gl_4, gl_5, gl_6, gl_7, gl_8, gl_9, gl_10, gl_11, gl_12, gl_13, gl_14, gl_15, gl_16, gl_17, sk0i, sk0r, sk0n, sk1i, sk1r, sk1n, sk_2, sk_3, sk_4, sk_5, sk_6, sk_7, sk_8, sk_9, sk_10, sk_11, sk_12, sk_13, sk_14, sk_15, sk_16, sk_17, ls_0, ls_1, ls_2, ls_3, ls_4, ls_5, ls_6, ls_7, ls_8, ls_9, ls_10, ls_11, ls_12, ls_13, ls_14, ls_15, ls_16, ls_17, ct1_i, ct1_r, wd8_0, wd8_i1, wd8_r1, wd8_i2, wd8_r2, wd8_i3, wd8_r3, wd8_i4, wd8_r4, wd8_i5, wd8_r5, wd8_i6, wd8_r6, wd8_i7, wd8_r7, wd8_i8, wd8_r8, wd8_l2, wd8_l3, wd8_l4, wd8_l5, wd8_l6, wd8_l7, wd8_l8, tl_s, tl_n, inR_t, bd_t, true_and, and_true, true_or, or_true, if_true_x, if_false_x, if_pos, if_neg, Int.toNat_natCast, natL, bI_0, bI_1, bI_ft, eq_self, b_tf, b_ft, not_true_eq_false, not_false_eq_true, cast_s]
        exact nx _ _ _ (if_neg y1) (if_pos y2) (if_neg y1) _
      · simp (disch := first | assumption | omega) only [e_278_46, e_278_47, e_278_48, e_278_49, e_278_52, e_278_53, e_278_54, e_278_55, e_278_56, e_278_59, e_278_60, e_278_61, e_278_62, e_278_63, e_278_66, e_278_67, e_278_68, e_278_69, onI_s, onR_s, onL_s, gl_0, gl_n, gl_1, gl_2, gl_3, gl_4, gl_5, gl_6, gl_7, gl_8, gl_9, gl_10, gl_11, gl_12, gl_13, gl_14, gl_15, gl_16, gl_17, sk0i, sk0r, sk0n, sk1i, sk1r, sk1n, sk_2, sk_3, sk_4, sk_5, sk_6, sk_7, sk_8, sk_9, sk_10, sk_11, sk_12, sk_13, sk_14, sk_15, sk_16, sk_17, ls_0, ls_1, ls_2, ls_3, ls_4, ls_5, ls_6, ls_7, ls_8, ls_9, ls_10, ls_11, ls_12, ls_13, ls_14, ls_15, ls_16, ls_17, ct1_i, ct1_r, wd8_0, wd8_i1, wd8_r1, wd8_i2, wd8_r2, wd8_i3, wd8_r3, wd8_i4, wd8_r4, wd8_i5, wd8_r5, wd8_i6, wd8_r6, wd8_i7, wd8_r7, wd8_i8, wd8_r8, wd8_l2, wd8_l3, wd8_l4, wd8_l5, wd8_l6, wd8_l7, wd8_l8, tl_s, tl_n, inR_t, bd_t, true_and, and_true, true_or, or_true, if_true_x, if_false_x, if_pos, if_neg, Int.toNat_natCast, natL, bI_0, bI_1, bI_ft, eq_self, b_tf, b_ft, not_true_eq_false, not_false_eq_true, cast_s]
        exact nx _ _ _ (if_neg y1) (if_neg y2) (if_neg y1) _
set_option maxHeartbeats 4000000 in
theorem q_278 {c w : Int} (ok : Ok X h) (g : Gd (vm h)) (tm : TMb (h.1 72)) (hq : ∀ h2, Mst X h h2 → mS h2 = mS h → Q (some (vi (spBest (mS h) c w))) h2) : Ev X 278 3 [some (vr 70), some (vi c), some (vi w), none, none, none, none, none] [] h Q := by
  have ok0 := ok
  obtain ⟨z, os, oc, om, ⟨nb, ln, hc, hnb⟩, lp⟩ := ok
  have hw := g.rg
  have nC := hw.nC
  have ws := hw.sites
  have fin3 : ∀ h3, Fm X h h3 → vm h3 = vm h → Mst X h h3 ∧ mS h3 = mS h := fun h3 f e => ⟨f.mst ok0, by rw [f.ms, e]; rfl⟩
  have q0 := fin3 h (Fm.refl ok0) rfl
  unfold spBest at hq
  rw [show (mS h).1 = vm h from rfl, show (mS h).2.1 = h.1 72 from rfl] at hq
  by_cases g2 : 0 ≤ c ∧ c < vm h 11 0
  · have d := bT (show 0 ≤ c ∧ c ≤ vm h 11 0 - 1 by omega)
    obtain ⟨cn, rfl⟩ : ∃ cn : Nat, c = cn := ⟨c.toNat, by omega⟩
    have hcn : cn < 20 := by omega
    have cw := (g.geo.cel g2.2).1
    have wc := hw.wid cn
    rw [Int.toNat_natCast] at hq
    by_cases g3 : vm h 17 cn = -1
    · have d3 : (!decide (vm h 17 cn = -1)) = false := by simp [g3]
      rw [if_neg (fun q => q.2.1 g3)] at hq
      simp (disch := first | assumption | omega) only [e_278_3, e_278_4, e_278_5, e_278_6, e_278_7, e_278_8, e_278_9, e_278_10, e_278_17, e_278_18, onI_s, onR_s, onL_s, gl_0, gl_n, gl_1, gl_2, gl_3, gl_4, gl_5, gl_6, gl_7, gl_8, gl_9, gl_10, gl_11, gl_12, gl_13, gl_14, gl_15, gl_16, gl_17, sk0i, sk0r, sk0n, sk1i, sk1r, sk1n, sk_2, sk_3, sk_4, sk_5, sk_6, sk_7, sk_8, sk_9, sk_10, sk_11, sk_12, sk_13, sk_14, sk_15, sk_16, sk_17, ls_0, ls_1, ls_2, ls_3, ls_4, ls_5, ls_6, ls_7, ls_8, ls_9, ls_10, ls_11, ls_12, ls_13, ls_14, ls_15, ls_16, ls_17, ct1_i, ct1_r, wd8_0, wd8_i1, wd8_r1, wd8_i2, wd8_r2, wd8_i3, wd8_r3, wd8_i4, wd8_r4, wd8_i5, wd8_r5, wd8_i6, wd8_r6, wd8_i7, wd8_r7, wd8_i8, wd8_r8, wd8_l2, wd8_l3, wd8_l4, wd8_l5, wd8_l6, wd8_l7, wd8_l8, tl_s, tl_n, inR_t, bd_t, true_and, and_true, true_or, or_true, if_true_x, if_false_x, if_pos, if_neg, Int.toNat_natCast, natL, bI_0, bI_1, bI_ft, eq_self, b_tf, b_ft, not_true_eq_false, not_false_eq_true, m_167 hc hw, m_163 hc, d, d3, hc.t70, hc.r70_4, hc.r70_5, hc.r70_6, hc.r70_7, hc.r70_8, hc.r70_10, hc.r70_11, hc.r70_12, hc.r70_14, hc.r70_15, hc.r70_16, hc.r70_17, hc.r70_19, hc.r70_21, hc.r70_23, hc.r70_24, hc.r70_26, hc.r70_27, hc.r70_28, hc.r70_29, hc.r70_30, hc.r70_31, hc.r70_32, hc.r70_33, hc.r70_36]
      exact hq h q0.1 q0.2
    · have d3 : (!decide (vm h 17 cn = -1)) = true := by simp [g3]
      by_cases g4 : 0 ≤ w ∧ w ≤ 2
      · rw [if_pos ⟨g2, g3, g4⟩] at hq
        have d4 := bT g4
        simp (disch := first | assumption | omega) only [e_278_3, e_278_4, e_278_5, e_278_6, e_278_7, e_278_8, e_278_9, e_278_10, e_278_11, e_278_12, e_278_13, e_278_14, e_278_15, e_278_16, e_278_19, e_278_20, e_278_21, e_278_22, e_278_23, e_278_24, e_278_25, e_278_26, onI_s, onR_s, onL_s, gl_0, gl_n, gl_1, gl_2, gl_3, gl_4, gl_5, gl_6, gl_7, gl_8, gl_9, gl_10, gl_11, gl_12, gl_13, gl_14, gl_15, gl_16, gl_17, sk0i, sk0r, sk0n, sk1i, sk1r, sk1n, sk_2, sk_3, sk_4, sk_5, sk_6, sk_7, sk_8, sk_9, sk_10, sk_11, sk_12, sk_13, sk_14, sk_15, sk_16, sk_17, ls_0, ls_1, ls_2, ls_3, ls_4, ls_5, ls_6, ls_7, ls_8, ls_9, ls_10, ls_11, ls_12, ls_13, ls_14, ls_15, ls_16, ls_17, ct1_i, ct1_r, wd8_0, wd8_i1, wd8_r1, wd8_i2, wd8_r2, wd8_i3, wd8_r3, wd8_i4, wd8_r4, wd8_i5, wd8_r5, wd8_i6, wd8_r6, wd8_i7, wd8_r7, wd8_i8, wd8_r8, wd8_l2, wd8_l3, wd8_l4, wd8_l5, wd8_l6, wd8_l7, wd8_l8, tl_s, tl_n, inR_t, bd_t, true_and, and_true, true_or, or_true, if_true_x, if_false_x, if_pos, if_neg, Int.toNat_natCast, natL, bI_0, bI_1, bI_ft, eq_self, b_tf, b_ft, not_true_eq_false, not_false_eq_true, m_167 hc hw, m_163 hc, m_149, d, d3, d4, hc.t70, hc.r70_4, hc.r70_5, hc.r70_6, hc.r70_7, hc.r70_8, hc.r70_10, hc.r70_11, hc.r70_12, hc.r70_14, hc.r70_15, hc.r70_16, hc.r70_17, hc.r70_19, hc.r70_21, hc.r70_23, hc.r70_24, hc.r70_26, hc.r70_27, hc.r70_28, hc.r70_29, hc.r70_30, hc.r70_31, hc.r70_32, hc.r70_33, hc.r70_36]
        refine l_278 hc (v := vm h) (c := cn) (M := (vm h 0 1 - vm h 12 cn + 1).toNat) (t := h.1 72 4) g.wg hcn (by omega) (by omega) (vm h 0 1 - vm h 12 cn + 1).toNat 0 (-1) (-1) 100000000 h none ok0 rfl tm rfl (by omega) (fun h3 x6 x7 f3 e3 => ?_)
        rw [show bst (fun s => wir (gvP (vm h) cn (vm h 17 cn) s) (h.1 72 4)) (vm h 0 1 - vm h 12 cn + 1).toNat 0 (-1, -1, 100000000) = bsW (vm h) (h.1 72 4) cn from rfl, e_278_70]
        by_cases w0 : w = 0
        · rw [if_pos w0] at hq
          simp (disch := first | assumption | omega) only [e_278_71, e_278_72, e_278_73, e_278_80, onI_s, onR_s, onL_s, gl_0, gl_n, gl_1, gl_2, gl_3, gl_4, gl_5, gl_6, gl_7, gl_8, gl_9, gl_10, gl_11, gl_12, gl_13, gl_14, gl_15, gl_16, gl_17, sk0i, sk0r, sk0n, sk1i, sk1r, sk1n, sk_2, sk_3, sk_4, sk_5, sk_6, sk_7, sk_8, sk_9, sk_10, sk_11, sk_12, sk_13, sk_14, sk_15, sk_16, sk_17, ls_0, ls_1, ls_2, ls_3, ls_4, ls_5, ls_6, ls_7, ls_8, ls_9, ls_10, ls_11, ls_12, ls_13, ls_14, ls_15, ls_16, ls_17, ct1_i, ct1_r, wd8_0, wd8_i1, wd8_r1, wd8_i2, wd8_r2, wd8_i3, wd8_r3, wd8_i4, wd8_r4, wd8_i5, wd8_r5, wd8_i6, wd8_r6, wd8_i7, wd8_r7, wd8_i8, wd8_r8, wd8_l2, wd8_l3, wd8_l4, wd8_l5, wd8_l6, wd8_l7, wd8_l8, tl_s, tl_n, inR_t, bd_t, true_and, and_true, true_or, or_true, if_true_x, if_false_x, if_pos, if_neg, Int.toNat_natCast, natL, bI_0, bI_1, bI_ft, eq_self, b_tf, b_ft, not_true_eq_false, not_false_eq_true, w0]
          exact hq h3 (fin3 h3 f3 e3).1 (fin3 h3 f3 e3).2
        · rw [if_neg w0] at hq
          by_cases w1 : w = 1
          · rw [if_pos w1] at hq
            simp (disch := first | assumption | omega) only [e_278_71, e_278_74, e_278_75, e_278_76, e_278_77, e_278_78, e_278_80, onI_s, onR_s, onL_s, gl_0, gl_n, gl_1, gl_2, gl_3, gl_4, gl_5, gl_6, gl_7, gl_8, gl_9, gl_10, gl_11, gl_12, gl_13, gl_14, gl_15, gl_16, gl_17, sk0i, sk0r, sk0n, sk1i, sk1r, sk1n, sk_2, sk_3, sk_4, sk_5, sk_6, sk_7, sk_8, sk_9, sk_10, sk_11, sk_12, sk_13, sk_14, sk_15, sk_16, sk_17, ls_0, ls_1, ls_2, ls_3, ls_4, ls_5, ls_6, ls_7, ls_8, ls_9, ls_10, ls_11, ls_12, ls_13, ls_14, ls_15, ls_16, ls_17, ct1_i, ct1_r, wd8_0, wd8_i1, wd8_r1, wd8_i2, wd8_r2, wd8_i3, wd8_r3, wd8_i4, wd8_r4, wd8_i5, wd8_r5, wd8_i6, wd8_r6, wd8_i7, wd8_r7, wd8_i8, wd8_r8, wd8_l2, wd8_l3, wd8_l4, wd8_l5, wd8_l6, wd8_l7, wd8_l8, tl_s, tl_n, inR_t, bd_t, true_and, and_true, true_or, or_true, if_true_x, if_false_x, if_pos, if_neg, Int.toNat_natCast, natL, bI_0, bI_1, bI_ft, eq_self, b_tf, b_ft, not_true_eq_false, not_false_eq_true, w0, w1]
            exact hq h3 (fin3 h3 f3 e3).1 (fin3 h3 f3 e3).2
          · rw [if_neg w1] at hq
            simp (disch := first | assumption | omega) only [e_278_71, e_278_74, e_278_75, e_278_76, e_278_79, e_278_80, onI_s, onR_s, onL_s, gl_0, gl_n, gl_1, gl_2, gl_3, gl_4, gl_5, gl_6, gl_7, gl_8, gl_9, gl_10, gl_11, gl_12, gl_13, gl_14, gl_15, gl_16, gl_17, sk0i, sk0r, sk0n, sk1i, sk1r, sk1n, sk_2, sk_3, sk_4, sk_5, sk_6, sk_7, sk_8, sk_9, sk_10, sk_11, sk_12, sk_13, sk_14, sk_15, sk_16, sk_17, ls_0, ls_1, ls_2, ls_3, ls_4, ls_5, ls_6, ls_7, ls_8, ls_9, ls_10, ls_11, ls_12, ls_13, ls_14, ls_15, ls_16, ls_17, ct1_i, ct1_r, wd8_0, wd8_i1, wd8_r1, wd8_i2, wd8_r2, wd8_i3, wd8_r3, wd8_i4, wd8_r4, wd8_i5, wd8_r5, wd8_i6, wd8_r6, wd8_i7, wd8_r7, wd8_i8, wd8_r8, wd8_l2, wd8_l3, wd8_l4, wd8_l5, wd8_l6, wd8_l7, wd8_l8, tl_s, tl_n, inR_t, bd_t, true_and, and_true, true_or, or_true, if_true_x, if_false_x, if_pos, if_neg, Int.toNat_natCast, natL, bI_0, bI_1, bI_ft, eq_self, b_tf, b_ft, not_true_eq_false, not_false_eq_true, w0, w1]
            exact hq h3 (fin3 h3 f3 e3).1 (fin3 h3 f3 e3).2
      · rw [if_neg (fun q => g4 q.2.2)] at hq
        have d4 := bF g4
        simp (disch := first | assumption | omega) only [e_278_3, e_278_4, e_278_5, e_278_6, e_278_7, e_278_8, e_278_9, e_278_10, e_278_11, e_278_12, e_278_13, e_278_14, e_278_15, e_278_16, e_278_17, e_278_18, onI_s, onR_s, onL_s, gl_0, gl_n, gl_1, gl_2, gl_3, gl_4, gl_5, gl_6, gl_7, gl_8, gl_9, gl_10, gl_11, gl_12, gl_13, gl_14, gl_15, gl_16, gl_17, sk0i, sk0r, sk0n, sk1i, sk1r, sk1n, sk_2, sk_3, sk_4, sk_5, sk_6, sk_7, sk_8, sk_9, sk_10, sk_11, sk_12, sk_13, sk_14, sk_15, sk_16, sk_17, ls_0, ls_1, ls_2, ls_3, ls_4, ls_5, ls_6, ls_7, ls_8, ls_9, ls_10, ls_11, ls_12, ls_13, ls_14, ls_15, ls_16, ls_17, ct1_i, ct1_r, wd8_0, wd8_i1, wd8_r1, wd8_i2, wd8_r2, wd8_i3, wd8_r3, wd8_i4, wd8_r4, wd8_i5, wd8_r5, wd8_i6, wd8_r6, wd8_i7, wd8_r7, wd8_i8, wd8_r8, wd8_l2, wd8_l3, wd8_l4, wd8_l5, wd8_l6, wd8_l7, wd8_l8, tl_s, tl_n, inR_t, bd_t, true_and, and_true, true_or, or_true, if_true_x, if_false_x, if_pos, if_neg, Int.toNat_natCast, natL, bI_0, bI_1, bI_ft, eq_self, b_tf, b_ft, not_true_eq_false, not_false_eq_true, m_167 hc hw, m_163 hc, m_149, d, d3, d4, hc.t70, hc.r70_4, hc.r70_5, hc.r70_6, hc.r70_7, hc.r70_8, hc.r70_10, hc.r70_11, hc.r70_12, hc.r70_14, hc.r70_15, hc.r70_16, hc.r70_17, hc.r70_19, hc.r70_21, hc.r70_23, hc.r70_24, hc.r70_26, hc.r70_27, hc.r70_28, hc.r70_29, hc.r70_30, hc.r70_31, hc.r70_32, hc.r70_33, hc.r70_36]
        exact hq h q0.1 q0.2
  · rw [if_neg (fun q => g2 q.1)] at hq
    have d := bF (show ¬ (0 ≤ c ∧ c ≤ vm h 11 0 - 1) by omega)
    simp (disch := first | assumption | omega) only [e_278_3, e_278_4, e_278_5, e_278_6, e_278_17, e_278_18, onI_s, onR_s, onL_s, gl_0, gl_n, gl_1, gl_2, gl_3, gl_4, gl_5, gl_6, gl_7, gl_8, gl_9, gl_10, gl_11, gl_12, gl_13, gl_14, gl_15, gl_16, gl_17, sk0i, sk0r, sk0n, sk1i, sk1r, sk1n, sk_2, sk_3, sk_4, sk_5, sk_6, sk_7, sk_8, sk_9, sk_10, sk_11, sk_12, sk_13, sk_14, sk_15, sk_16, sk_17, ls_0, ls_1, ls_2, ls_3, ls_4, ls_5, ls_6, ls_7, ls_8, ls_9, ls_10, ls_11, ls_12, ls_13, ls_14, ls_15, ls_16, ls_17, ct1_i, ct1_r, wd8_0, wd8_i1, wd8_r1, wd8_i2, wd8_r2, wd8_i3, wd8_r3, wd8_i4, wd8_r4, wd8_i5, wd8_r5, wd8_i6, wd8_r6, wd8_i7, wd8_r7, wd8_i8, wd8_r8, wd8_l2, wd8_l3, wd8_l4, wd8_l5, wd8_l6, wd8_l7, wd8_l8, tl_s, tl_n, inR_t, bd_t, true_and, and_true, true_or, or_true, if_true_x, if_false_x, if_pos, if_neg, Int.toNat_natCast, natL, bI_0, bI_1, bI_ft, eq_self, b_tf, b_ft, not_true_eq_false, not_false_eq_true, m_167 hc hw, d, hc.t70, hc.r70_4, hc.r70_5, hc.r70_6, hc.r70_7, hc.r70_8, hc.r70_10, hc.r70_11, hc.r70_12, hc.r70_14, hc.r70_15, hc.r70_16, hc.r70_17, hc.r70_19, hc.r70_21, hc.r70_23, hc.r70_24, hc.r70_26, hc.r70_27, hc.r70_28, hc.r70_29, hc.r70_30, hc.r70_31, hc.r70_32, hc.r70_33, hc.r70_36]
    exact hq h q0.1 q0.2
theorem thq {a : AS → Int} (ok : Ok X h) (hq : ∀ h2, Mst X h h2 → mS h2 = mS h → Q (some (vi (a (mS h)))) h2) : ∀ h2, Mst X (h.1, up2 h.2 70 0 0) h2 → mS h2 = mS (h.1, up2 h.2 70 0 0) → Q (some (vi (a (mS (h.1, up2 h.2 70 0 0))))) h2 := by
  intro h2 x b
  rw [mS_th] at b ⊢
  exact hq h2 ((ok_f ok (Or.inl rfl)).tr x) b
theorem p_277 {c r st : Int} (ok : Ok X h) (g : Gd (vm h)) (tm : TMb (h.1 72)) (hq : ∀ h2, Mst X h h2 → mS h2 = mS h → Q (some (vi (spWould (mS h) c r st))) h2) : Cl X 277 [vr 70, vi c, vi r, vi st] h Q := by
  obtain ⟨nb, ln, hc, hnb⟩ := ok.2.2.2.2.1
  rw [c_277]
  simp (disch := first | assumption | omega) only [e_277_0, e_277_1, e_277_2, onI_s, onR_s, onL_s, gl_0, gl_n, gl_1, gl_2, gl_3, gl_4, gl_5, gl_6, gl_7, gl_8, gl_9, gl_10, gl_11, gl_12, gl_13, gl_14, gl_15, gl_16, gl_17, sk0i, sk0r, sk0n, sk1i, sk1r, sk1n, sk_2, sk_3, sk_4, sk_5, sk_6, sk_7, sk_8, sk_9, sk_10, sk_11, sk_12, sk_13, sk_14, sk_15, sk_16, sk_17, ls_0, ls_1, ls_2, ls_3, ls_4, ls_5, ls_6, ls_7, ls_8, ls_9, ls_10, ls_11, ls_12, ls_13, ls_14, ls_15, ls_16, ls_17, ct1_i, ct1_r, wd8_0, wd8_i1, wd8_r1, wd8_i2, wd8_r2, wd8_i3, wd8_r3, wd8_i4, wd8_r4, wd8_i5, wd8_r5, wd8_i6, wd8_r6, wd8_i7, wd8_r7, wd8_i8, wd8_r8, wd8_l2, wd8_l3, wd8_l4, wd8_l5, wd8_l6, wd8_l7, wd8_l8, tl_s, tl_n, inR_t, bd_t, true_and, and_true, true_or, or_true, if_true_x, if_false_x, if_pos, if_neg, Int.toNat_natCast, natL, bI_0, bI_1, bI_ft, eq_self, b_tf, b_ft, not_true_eq_false, not_false_eq_true, hc.t70]
  exact q_277 (thr_ok ok) (by rw [thr_v]; exact g) tm (thq (a := fun s => spWould s c r st) ok hq)
theorem p_278 {c w : Int} (ok : Ok X h) (g : Gd (vm h)) (tm : TMb (h.1 72)) (hq : ∀ h2, Mst X h h2 → mS h2 = mS h → Q (some (vi (spBest (mS h) c w))) h2) : Cl X 278 [vr 70, vi c, vi w] h Q := by
  obtain ⟨nb, ln, hc, hnb⟩ := ok.2.2.2.2.1
  rw [c_278]
  simp (disch := first | assumption | omega) only [e_278_0, e_278_1, e_278_2, onI_s, onR_s, onL_s, gl_0, gl_n, gl_1, gl_2, gl_3, gl_4, gl_5, gl_6, gl_7, gl_8, gl_9, gl_10, gl_11, gl_12, gl_13, gl_14, gl_15, gl_16, gl_17, sk0i, sk0r, sk0n, sk1i, sk1r, sk1n, sk_2, sk_3, sk_4, sk_5, sk_6, sk_7, sk_8, sk_9, sk_10, sk_11, sk_12, sk_13, sk_14, sk_15, sk_16, sk_17, ls_0, ls_1, ls_2, ls_3, ls_4, ls_5, ls_6, ls_7, ls_8, ls_9, ls_10, ls_11, ls_12, ls_13, ls_14, ls_15, ls_16, ls_17, ct1_i, ct1_r, wd8_0, wd8_i1, wd8_r1, wd8_i2, wd8_r2, wd8_i3, wd8_r3, wd8_i4, wd8_r4, wd8_i5, wd8_r5, wd8_i6, wd8_r6, wd8_i7, wd8_r7, wd8_i8, wd8_r8, wd8_l2, wd8_l3, wd8_l4, wd8_l5, wd8_l6, wd8_l7, wd8_l8, tl_s, tl_n, inR_t, bd_t, true_and, and_true, true_or, or_true, if_true_x, if_false_x, if_pos, if_neg, Int.toNat_natCast, natL, bI_0, bI_1, bI_ft, eq_self, b_tf, b_ft, not_true_eq_false, not_false_eq_true, hc.t70]
  exact q_278 (thr_ok ok) (by rw [thr_v]; exact g) tm (thq (a := fun s => spBest s c w) ok hq)
end HPM
