section NTM
variable {X : xL} {ns nb ln : Nat} {h : xH} {Q : Option xV → xH → Prop} {w : Int}
set_option maxHeartbeats 4000000 in
theorem l_189 (hc : CT X ns nb ln) {k : Nat} {b : Int} (hk : k < 6) (h2 : h.1 78 (2 * k) < 200) : ∀ (m l : Nat) (so : Bool), l + m = k → (Ev X 189 37 [some (vr 70), some (vi (2 * (k : Int))), some (vi (h.1 78 (2 * k))), some (vi b), some (vi (bI so)), some (vi (2 * (l : Int)))] [] h Q ↔ Q (some (vi (bI (so && !srch (pnD (h.1 78) k) m l)))) h) := by
  intro m
  induction m with
  | zero =>
    intro l so hm
    rw [e_189_37]
    simp (disch := first | assumption | omega) only [e_189_38, e_189_39, e_189_54, e_189_55, onI_s, onR_s, onL_s, gl_0, gl_n, gl_1, gl_2, gl_3, gl_4, gl_5, gl_6, gl_7, gl_8, gl_9, gl_10, gl_11, gl_12, gl_13, gl_14, gl_15, gl_16, gl_17, sk0i, sk0r, sk0n, sk1i, sk1r, sk1n, sk_2, sk_3, sk_4, sk_5, sk_6, sk_7, sk_8, sk_9, sk_10, sk_11, sk_12, sk_13, sk_14, sk_15, sk_16, sk_17, ls_0, ls_1, ls_2, ls_3, ls_4, ls_5, ls_6, ls_7, ls_8, ls_9, ls_10, ls_11, ls_12, ls_13, ls_14, ls_15, ls_16, ls_17, ct1_i, ct1_r, wd8_0, wd8_i1, wd8_r1, wd8_i2, wd8_r2, wd8_i3, wd8_r3, wd8_i4, wd8_r4, wd8_i5, wd8_r5, wd8_i6, wd8_r6, wd8_i7, wd8_r7, wd8_i8, wd8_r8, wd8_l2, wd8_l3, wd8_l4, wd8_l5, wd8_l6, wd8_l7, wd8_l8, tl_s, tl_n, inR_t, bd_t, true_and, and_true, true_or, or_true, if_true_x, if_false_x, if_pos, if_neg, Int.toNat_natCast, natL, bI_0, bI_1, bI_ft, eq_self, b_tf, b_ft, not_true_eq_false, not_false_eq_true]
    rw [srch, Bool.not_false, Bool.and_true]
  | succ m ih =>
    intro l so hm
    have it := ih (l + 1) true (by omega)
    have ie := ih (l + 1) false (by omega)
    rw [bI_t] at it
    rw [bI_f] at ie
    rw [e_189_37, srch]
    cases so
    · simp (disch := first | assumption | omega) only [e_189_38, e_189_39, e_189_40, e_189_41, e_189_50, e_189_51, e_189_52, e_189_53, onI_s, onR_s, onL_s, gl_0, gl_n, gl_1, gl_2, gl_3, gl_4, gl_5, gl_6, gl_7, gl_8, gl_9, gl_10, gl_11, gl_12, gl_13, gl_14, gl_15, gl_16, gl_17, sk0i, sk0r, sk0n, sk1i, sk1r, sk1n, sk_2, sk_3, sk_4, sk_5, sk_6, sk_7, sk_8, sk_9, sk_10, sk_11, sk_12, sk_13, sk_14, sk_15, sk_16, sk_17, ls_0, ls_1, ls_2, ls_3, ls_4, ls_5, ls_6, ls_7, ls_8, ls_9, ls_10, ls_11, ls_12, ls_13, ls_14, ls_15, ls_16, ls_17, ct1_i, ct1_r, wd8_0, wd8_i1, wd8_r1, wd8_i2, wd8_r2, wd8_i3, wd8_r3, wd8_i4, wd8_r4, wd8_i5, wd8_r5, wd8_i6, wd8_r6, wd8_i7, wd8_r7, wd8_i8, wd8_r8, wd8_l2, wd8_l3, wd8_l4, wd8_l5, wd8_l6, wd8_l7, wd8_l8, tl_s, tl_n, inR_t, bd_t, true_and, and_true, true_or, or_true, if_true_x, if_false_x, if_pos, if_neg, Int.toNat_natCast, natL, bI_0, bI_1, bI_ft, eq_self, b_tf, b_ft, not_true_eq_false, not_false_eq_true, bI_f, ev4]
      rw [ie]
      simp
    · by_cases e : h.1 78 (2 * l) = h.1 78 (2 * k)
      · have ep : pnD (h.1 78) k l = true := by unfold pnD; simp [e]; omega
        simp (disch := first | assumption | omega) only [e_189_38, e_189_39, e_189_40, e_189_41, e_189_42, e_189_43, e_189_44, e_189_45, e_189_46, e_189_47, e_189_50, e_189_51, e_189_52, e_189_53, onI_s, onR_s, onL_s, gl_0, gl_n, gl_1, gl_2, gl_3, gl_4, gl_5, gl_6, gl_7, gl_8, gl_9, gl_10, gl_11, gl_12, gl_13, gl_14, gl_15, gl_16, gl_17, sk0i, sk0r, sk0n, sk1i, sk1r, sk1n, sk_2, sk_3, sk_4, sk_5, sk_6, sk_7, sk_8, sk_9, sk_10, sk_11, sk_12, sk_13, sk_14, sk_15, sk_16, sk_17, ls_0, ls_1, ls_2, ls_3, ls_4, ls_5, ls_6, ls_7, ls_8, ls_9, ls_10, ls_11, ls_12, ls_13, ls_14, ls_15, ls_16, ls_17, ct1_i, ct1_r, wd8_0, wd8_i1, wd8_r1, wd8_i2, wd8_r2, wd8_i3, wd8_r3, wd8_i4, wd8_r4, wd8_i5, wd8_r5, wd8_i6, wd8_r6, wd8_i7, wd8_r7, wd8_i8, wd8_r8, wd8_l2, wd8_l3, wd8_l4, wd8_l5, wd8_l6, wd8_l7, wd8_l8, tl_s, tl_n, inR_t, bd_t, true_and, and_true, true_or, or_true, if_true_x, if_false_x, if_pos, if_neg, Int.toNat_natCast, natL, bI_0, bI_1, bI_ft, eq_self, b_tf, b_ft, not_true_eq_false, not_false_eq_true, bI_t, ev2, ev4, e, hc.t70, hc.r70_4, hc.r70_5, hc.r70_6, hc.r70_7, hc.r70_8, hc.r70_10, hc.r70_11, hc.r70_12, hc.r70_14, hc.r70_15, hc.r70_16, hc.r70_17, hc.r70_19, hc.r70_21, hc.r70_23, hc.r70_24, hc.r70_26, hc.r70_27, hc.r70_28, hc.r70_29, hc.r70_30, hc.r70_31, hc.r70_32, hc.r70_33, hc.r70_36, hc.t78, hc.z78]
        rw [ie]
        simp
      · have ep : ¬ pnD (h.1 78) k l = true := by unfold pnD; simp [e]
        simp (disch := first | assumption | omega) only [e_189_38, e_189_39, e_189_40, e_189_41, e_189_42, e_189_43, e_189_44, e_189_45, e_189_46, e_189_47, e_189_48, e_189_49, e_189_51, e_189_52, e_189_53, onI_s, onR_s, onL_s, gl_0, gl_n, gl_1, gl_2, gl_3, gl_4, gl_5, gl_6, gl_7, gl_8, gl_9, gl_10, gl_11, gl_12, gl_13, gl_14, gl_15, gl_16, gl_17, sk0i, sk0r, sk0n, sk1i, sk1r, sk1n, sk_2, sk_3, sk_4, sk_5, sk_6, sk_7, sk_8, sk_9, sk_10, sk_11, sk_12, sk_13, sk_14, sk_15, sk_16, sk_17, ls_0, ls_1, ls_2, ls_3, ls_4, ls_5, ls_6, ls_7, ls_8, ls_9, ls_10, ls_11, ls_12, ls_13, ls_14, ls_15, ls_16, ls_17, ct1_i, ct1_r, wd8_0, wd8_i1, wd8_r1, wd8_i2, wd8_r2, wd8_i3, wd8_r3, wd8_i4, wd8_r4, wd8_i5, wd8_r5, wd8_i6, wd8_r6, wd8_i7, wd8_r7, wd8_i8, wd8_r8, wd8_l2, wd8_l3, wd8_l4, wd8_l5, wd8_l6, wd8_l7, wd8_l8, tl_s, tl_n, inR_t, bd_t, true_and, and_true, true_or, or_true, if_true_x, if_false_x, if_pos, if_neg, Int.toNat_natCast, natL, bI_0, bI_1, bI_ft, eq_self, b_tf, b_ft, not_true_eq_false, not_false_eq_true, bI_t, ev2, ev4, e, hc.t70, hc.r70_4, hc.r70_5, hc.r70_6, hc.r70_7, hc.r70_8, hc.r70_10, hc.r70_11, hc.r70_12, hc.r70_14, hc.r70_15, hc.r70_16, hc.r70_17, hc.r70_19, hc.r70_21, hc.r70_23, hc.r70_24, hc.r70_26, hc.r70_27, hc.r70_28, hc.r70_29, hc.r70_30, hc.r70_31, hc.r70_32, hc.r70_33, hc.r70_36, hc.t78, hc.z78]
        rw [it]
set_option maxHeartbeats 4000000 in
theorem m_189 (hc : CT X ns nb ln) (hw : RGv (vm h)) (tp : TPb (h.1 78)) {k : Nat} (hk : k < 6) : Cl X 189 [vr 70, vi (2 * (k : Int))] h Q ↔ Q (some (vi (bI (pnK (vm h) (h.1 78) k)))) h := by
  have t1 := tp (2 * k)
  have t2 := tp (2 * k + 1)
  have nC := hw.nC
  have pk : ∀ b, pnB (vm h) (h.1 78 (2 * k)) (h.1 78 (2 * k + 1)) = b → pnK (vm h) (h.1 78) k = (b && !srch (pnD (h.1 78) k) k 0) := fun b e => by unfold pnK; rw [e]
  rw [c_189]
  by_cases e : 200 ≤ h.1 78 (2 * k)
  · have e1 : srch (pnD (h.1 78) k) k 0 = false := by
      rw [srch_cg (q := fun _ => false) k 0 (fun d _ _ => by unfold pnD; simp; omega)]
      have : ∀ m i, srch (fun _ => false) m i = false := by
        intro m
        induction m with
        | zero => intro i; rfl
        | succ m ih => intro i; rw [srch]; simp [ih]
      exact this k 0
    have ep : pnK (vm h) (h.1 78) k = (decide (0 ≤ h.1 78 (2 * k) - 200) && decide (h.1 78 (2 * k) - 200 < vm h 0 0) && decide (0 ≤ h.1 78 (2 * k + 1)) && decide (h.1 78 (2 * k + 1) < vm h 0 1)) := by
      rw [pk _ rfl, e1]
      unfold pnB
      rw [if_pos e, Bool.not_false, Bool.and_true]
    rw [ep]
    simp (disch := first | assumption | omega) only [e_189_0, e_189_1, e_189_2, e_189_3, e_189_4, e_189_5, e_189_6, e_189_7, e_189_8, e_189_9, e_189_10, e_189_11, e_189_12, e_189_13, e_189_14, e_189_15, e_189_16, e_189_17, e_189_18, e_189_19, e_189_20, e_189_21, onI_s, onR_s, onL_s, gl_0, gl_n, gl_1, gl_2, gl_3, gl_4, gl_5, gl_6, gl_7, gl_8, gl_9, gl_10, gl_11, gl_12, gl_13, gl_14, gl_15, gl_16, gl_17, sk0i, sk0r, sk0n, sk1i, sk1r, sk1n, sk_2, sk_3, sk_4, sk_5, sk_6, sk_7, sk_8, sk_9, sk_10, sk_11, sk_12, sk_13, sk_14, sk_15, sk_16, sk_17, ls_0, ls_1, ls_2, ls_3, ls_4, ls_5, ls_6, ls_7, ls_8, ls_9, ls_10, ls_11, ls_12, ls_13, ls_14, ls_15, ls_16, ls_17, ct1_i, ct1_r, wd8_0, wd8_i1, wd8_r1, wd8_i2, wd8_r2, wd8_i3, wd8_r3, wd8_i4, wd8_r4, wd8_i5, wd8_r5, wd8_i6, wd8_r6, wd8_i7, wd8_r7, wd8_i8, wd8_r8, wd8_l2, wd8_l3, wd8_l4, wd8_l5, wd8_l6, wd8_l7, wd8_l8, tl_s, tl_n, inR_t, bd_t, true_and, and_true, true_or, or_true, if_true_x, if_false_x, if_pos, if_neg, Int.toNat_natCast, natL, bI_0, bI_1, bI_ft, eq_self, b_tf, b_ft, not_true_eq_false, not_false_eq_true, m_170 hc hw, ev2, ev3, hc.t70, hc.r70_4, hc.r70_5, hc.r70_6, hc.r70_7, hc.r70_8, hc.r70_10, hc.r70_11, hc.r70_12, hc.r70_14, hc.r70_15, hc.r70_16, hc.r70_17, hc.r70_19, hc.r70_21, hc.r70_23, hc.r70_24, hc.r70_26, hc.r70_27, hc.r70_28, hc.r70_29, hc.r70_30, hc.r70_31, hc.r70_32, hc.r70_33, hc.r70_36, hc.t78, hc.z78]
  · have ft := l_189 (Q := Q) (h := h) (b := h.1 78 (2 * k + 1)) hc hk (by omega) k 0 true (by omega)
    have ff := l_189 (Q := Q) (h := h) (b := h.1 78 (2 * k + 1)) hc hk (by omega) k 0 false (by omega)
    rw [bI_t, show 2 * ((0 : Nat) : Int) = 0 from rfl] at ft
    rw [bI_f, show 2 * ((0 : Nat) : Int) = 0 from rfl] at ff
    by_cases g2 : 0 ≤ h.1 78 (2 * k) ∧ h.1 78 (2 * k) ≤ vm h 11 0 - 1
    · have d := bT g2
      by_cases g3 : h.1 78 (2 * k + 1) < vm h 12 (h.1 78 (2 * k)).toNat
      · have eb : pnB (vm h) (h.1 78 (2 * k)) (h.1 78 (2 * k + 1)) = true := by
          unfold pnB
          rw [if_neg e]
          simp [g3]
          omega
        simp (disch := first | assumption | omega) only [e_189_0, e_189_1, e_189_2, e_189_3, e_189_4, e_189_5, e_189_6, e_189_7, e_189_8, e_189_9, e_189_10, e_189_11, e_189_12, e_189_13, e_189_14, e_189_22, e_189_23, e_189_24, e_189_25, e_189_26, e_189_27, e_189_28, e_189_29, e_189_30, e_189_31, e_189_32, e_189_34, e_189_35, e_189_36, onI_s, onR_s, onL_s, gl_0, gl_n, gl_1, gl_2, gl_3, gl_4, gl_5, gl_6, gl_7, gl_8, gl_9, gl_10, gl_11, gl_12, gl_13, gl_14, gl_15, gl_16, gl_17, sk0i, sk0r, sk0n, sk1i, sk1r, sk1n, sk_2, sk_3, sk_4, sk_5, sk_6, sk_7, sk_8, sk_9, sk_10, sk_11, sk_12, sk_13, sk_14, sk_15, sk_16, sk_17, ls_0, ls_1, ls_2, ls_3, ls_4, ls_5, ls_6, ls_7, ls_8, ls_9, ls_10, ls_11, ls_12, ls_13, ls_14, ls_15, ls_16, ls_17, ct1_i, ct1_r, wd8_0, wd8_i1, wd8_r1, wd8_i2, wd8_r2, wd8_i3, wd8_r3, wd8_i4, wd8_r4, wd8_i5, wd8_r5, wd8_i6, wd8_r6, wd8_i7, wd8_r7, wd8_i8, wd8_r8, wd8_l2, wd8_l3, wd8_l4, wd8_l5, wd8_l6, wd8_l7, wd8_l8, tl_s, tl_n, inR_t, bd_t, true_and, and_true, true_or, or_true, if_true_x, if_false_x, if_pos, if_neg, Int.toNat_natCast, natL, bI_0, bI_1, bI_ft, eq_self, b_tf, b_ft, not_true_eq_false, not_false_eq_true, m_167 hc hw, m_160 hc, d, ev2, ev3, hc.t70, hc.r70_4, hc.r70_5, hc.r70_6, hc.r70_7, hc.r70_8, hc.r70_10, hc.r70_11, hc.r70_12, hc.r70_14, hc.r70_15, hc.r70_16, hc.r70_17, hc.r70_19, hc.r70_21, hc.r70_23, hc.r70_24, hc.r70_26, hc.r70_27, hc.r70_28, hc.r70_29, hc.r70_30, hc.r70_31, hc.r70_32, hc.r70_33, hc.r70_36, hc.t78, hc.z78]
        rw [ft, pk _ eb]
      · have eb : pnB (vm h) (h.1 78 (2 * k)) (h.1 78 (2 * k + 1)) = false := by
          unfold pnB
          rw [if_neg e]
          simp [g3]
        simp (disch := first | assumption | omega) only [e_189_0, e_189_1, e_189_2, e_189_3, e_189_4, e_189_5, e_189_6, e_189_7, e_189_8, e_189_9, e_189_10, e_189_11, e_189_12, e_189_13, e_189_14, e_189_22, e_189_23, e_189_24, e_189_25, e_189_26, e_189_27, e_189_28, e_189_29, e_189_30, e_189_33, e_189_34, e_189_35, e_189_36, onI_s, onR_s, onL_s, gl_0, gl_n, gl_1, gl_2, gl_3, gl_4, gl_5, gl_6, gl_7, gl_8, gl_9, gl_10, gl_11, gl_12, gl_13, gl_14, gl_15, gl_16, gl_17, sk0i, sk0r, sk0n, sk1i, sk1r, sk1n, sk_2, sk_3, sk_4, sk_5, sk_6, sk_7, sk_8, sk_9, sk_10, sk_11, sk_12, sk_13, sk_14, sk_15, sk_16, sk_17, ls_0, ls_1, ls_2, ls_3, ls_4, ls_5, ls_6, ls_7, ls_8, ls_9, ls_10, ls_11, ls_12, ls_13, ls_14, ls_15, ls_16, ls_17, ct1_i, ct1_r, wd8_0, wd8_i1, wd8_r1, wd8_i2, wd8_r2, wd8_i3, wd8_r3, wd8_i4, wd8_r4, wd8_i5, wd8_r5, wd8_i6, wd8_r6, wd8_i7, wd8_r7, wd8_i8, wd8_r8, wd8_l2, wd8_l3, wd8_l4, wd8_l5, wd8_l6, wd8_l7, wd8_l8, tl_s, tl_n, inR_t, bd_t, true_and, and_true, true_or, or_true, if_true_x, if_false_x, if_pos, if_neg, Int.toNat_natCast, natL, bI_0, bI_1, bI_ft, eq_self, b_tf, b_ft, not_true_eq_false, not_false_eq_true, m_167 hc hw, m_160 hc, d, ev2, ev3, hc.t70, hc.r70_4, hc.r70_5, hc.r70_6, hc.r70_7, hc.r70_8, hc.r70_10, hc.r70_11, hc.r70_12, hc.r70_14, hc.r70_15, hc.r70_16, hc.r70_17, hc.r70_19, hc.r70_21, hc.r70_23, hc.r70_24, hc.r70_26, hc.r70_27, hc.r70_28, hc.r70_29, hc.r70_30, hc.r70_31, hc.r70_32, hc.r70_33, hc.r70_36, hc.t78, hc.z78]
        rw [ff, pk _ eb]
    · have d := bF g2
      have eb : pnB (vm h) (h.1 78 (2 * k)) (h.1 78 (2 * k + 1)) = false := by
        unfold pnB
        rw [if_neg e, bF (show ¬ (0 ≤ h.1 78 (2 * k) ∧ h.1 78 (2 * k) < vm h 11 0) by omega), Bool.false_and]
      simp (disch := first | assumption | omega) only [e_189_0, e_189_1, e_189_2, e_189_3, e_189_4, e_189_5, e_189_6, e_189_7, e_189_8, e_189_9, e_189_10, e_189_11, e_189_12, e_189_13, e_189_14, e_189_22, e_189_23, e_189_24, e_189_25, e_189_33, e_189_34, e_189_35, e_189_36, onI_s, onR_s, onL_s, gl_0, gl_n, gl_1, gl_2, gl_3, gl_4, gl_5, gl_6, gl_7, gl_8, gl_9, gl_10, gl_11, gl_12, gl_13, gl_14, gl_15, gl_16, gl_17, sk0i, sk0r, sk0n, sk1i, sk1r, sk1n, sk_2, sk_3, sk_4, sk_5, sk_6, sk_7, sk_8, sk_9, sk_10, sk_11, sk_12, sk_13, sk_14, sk_15, sk_16, sk_17, ls_0, ls_1, ls_2, ls_3, ls_4, ls_5, ls_6, ls_7, ls_8, ls_9, ls_10, ls_11, ls_12, ls_13, ls_14, ls_15, ls_16, ls_17, ct1_i, ct1_r, wd8_0, wd8_i1, wd8_r1, wd8_i2, wd8_r2, wd8_i3, wd8_r3, wd8_i4, wd8_r4, wd8_i5, wd8_r5, wd8_i6, wd8_r6, wd8_i7, wd8_r7, wd8_i8, wd8_r8, wd8_l2, wd8_l3, wd8_l4, wd8_l5, wd8_l6, wd8_l7, wd8_l8, tl_s, tl_n, inR_t, bd_t, true_and, and_true, true_or, or_true, if_true_x, if_false_x, if_pos, if_neg, Int.toNat_natCast, natL, bI_0, bI_1, bI_ft, eq_self, b_tf, b_ft, not_true_eq_false, not_false_eq_true, m_167 hc hw, d, ev2, ev3, hc.t70, hc.r70_4, hc.r70_5, hc.r70_6, hc.r70_7, hc.r70_8, hc.r70_10, hc.r70_11, hc.r70_12, hc.r70_14, hc.r70_15, hc.r70_16, hc.r70_17, hc.r70_19, hc.r70_21, hc.r70_23, hc.r70_24, hc.r70_26, hc.r70_27, hc.r70_28, hc.r70_29, hc.r70_30, hc.r70_31, hc.r70_32, hc.r70_33, hc.r70_36, hc.t78, hc.z78]
      rw [ff, pk _ eb]
set_option maxHeartbeats 4000000 in
theorem l_190a (hc : CT X ns nb ln) (hw : RGv (vm h)) (tp : TPb (h.1 78)) {many : Int} {nn : Nat} {n : Int} (hn : many = 2 * (nn : Int)) (h6 : nn ≤ 6) : ∀ (m k : Nat) (so : Bool), k + m = nn → (∀ x5, Ev X 190 58 [some (vr 70), some (vi w), some (vi n), some (vi many), some (vi (bI (so && !srch (fun k => !pnK (vm h) (h.1 78) k) m k))), x5] [] h Q) → Ev X 190 47 [some (vr 70), some (vi w), some (vi n), some (vi many), some (vi (bI so)), some (vi (2 * (k : Int)))] [] h Q := by
  intro m
  induction m with
  | zero =>
    intro k so hm hq
    rw [srch, Bool.not_false, Bool.and_true] at hq
    rw [e_190_47]
    simp (disch := first | assumption | omega) only [e_190_48, e_190_49, onI_s, onR_s, onL_s, gl_0, gl_n, gl_1, gl_2, gl_3, gl_4, gl_5, gl_6, gl_7, gl_8, gl_9, gl_10, gl_11, gl_12, gl_13, gl_14, gl_15, gl_16, gl_17, sk0i, sk0r, sk0n, sk1i, sk1r, sk1n, sk_2, sk_3, sk_4, sk_5, sk_6, sk_7, sk_8, sk_9, sk_10, sk_11, sk_12, sk_13, sk_14, sk_15, sk_16, sk_17, ls_0, ls_1, ls_2, ls_3, ls_4, ls_5, ls_6, ls_7, ls_8, ls_9, ls_10, ls_11, ls_12, ls_13, ls_14, ls_15, ls_16, ls_17, ct1_i, ct1_r, wd8_0, wd8_i1, wd8_r1, wd8_i2, wd8_r2, wd8_i3, wd8_r3, wd8_i4, wd8_r4, wd8_i5, wd8_r5, wd8_i6, wd8_r6, wd8_i7, wd8_r7, wd8_i8, wd8_r8, wd8_l2, wd8_l3, wd8_l4, wd8_l5, wd8_l6, wd8_l7, wd8_l8, tl_s, tl_n, inR_t, bd_t, true_and, and_true, true_or, or_true, if_true_x, if_false_x, if_pos, if_neg, Int.toNat_natCast, natL, bI_0, bI_1, bI_ft, eq_self, b_tf, b_ft, not_true_eq_false, not_false_eq_true]
    exact hq _
  | succ m ih =>
    intro k so hm hq
    rw [srch] at hq
    rw [e_190_47]
    cases so
    · simp (disch := first | assumption | omega) only [e_190_48, e_190_49, e_190_50, e_190_51, onI_s, onR_s, onL_s, gl_0, gl_n, gl_1, gl_2, gl_3, gl_4, gl_5, gl_6, gl_7, gl_8, gl_9, gl_10, gl_11, gl_12, gl_13, gl_14, gl_15, gl_16, gl_17, sk0i, sk0r, sk0n, sk1i, sk1r, sk1n, sk_2, sk_3, sk_4, sk_5, sk_6, sk_7, sk_8, sk_9, sk_10, sk_11, sk_12, sk_13, sk_14, sk_15, sk_16, sk_17, ls_0, ls_1, ls_2, ls_3, ls_4, ls_5, ls_6, ls_7, ls_8, ls_9, ls_10, ls_11, ls_12, ls_13, ls_14, ls_15, ls_16, ls_17, ct1_i, ct1_r, wd8_0, wd8_i1, wd8_r1, wd8_i2, wd8_r2, wd8_i3, wd8_r3, wd8_i4, wd8_r4, wd8_i5, wd8_r5, wd8_i6, wd8_r6, wd8_i7, wd8_r7, wd8_i8, wd8_r8, wd8_l2, wd8_l3, wd8_l4, wd8_l5, wd8_l6, wd8_l7, wd8_l8, tl_s, tl_n, inR_t, bd_t, true_and, and_true, true_or, or_true, if_true_x, if_false_x, if_pos, if_neg, Int.toNat_natCast, natL, bI_0, bI_1, bI_ft, eq_self, b_tf, b_ft, not_true_eq_false, not_false_eq_true, bI_f]
      have := hq (some (vi (2 * (k : Int))))
      rw [Bool.false_and, bI_f] at this
      exact this
    · simp (disch := first | assumption | omega) only [e_190_48, e_190_49, e_190_50, e_190_51, e_190_52, e_190_53, e_190_54, e_190_55, e_190_56, e_190_57, onI_s, onR_s, onL_s, gl_0, gl_n, gl_1, gl_2, gl_3, gl_4, gl_5, gl_6, gl_7, gl_8, gl_9, gl_10, gl_11, gl_12, gl_13, gl_14, gl_15, gl_16, gl_17, sk0i, sk0r, sk0n, sk1i, sk1r, sk1n, sk_2, sk_3, sk_4, sk_5, sk_6, sk_7, sk_8, sk_9, sk_10, sk_11, sk_12, sk_13, sk_14, sk_15, sk_16, sk_17, ls_0, ls_1, ls_2, ls_3, ls_4, ls_5, ls_6, ls_7, ls_8, ls_9, ls_10, ls_11, ls_12, ls_13, ls_14, ls_15, ls_16, ls_17, ct1_i, ct1_r, wd8_0, wd8_i1, wd8_r1, wd8_i2, wd8_r2, wd8_i3, wd8_r3, wd8_i4, wd8_r4, wd8_i5, wd8_r5, wd8_i6, wd8_r6, wd8_i7, wd8_r7, wd8_i8, wd8_r8, wd8_l2, wd8_l3, wd8_l4, wd8_l5, wd8_l6, wd8_l7, wd8_l8, tl_s, tl_n, inR_t, bd_t, true_and, and_true, true_or, or_true, if_true_x, if_false_x, if_pos, if_neg, Int.toNat_natCast, natL, bI_0, bI_1, bI_ft, eq_self, b_tf, b_ft, not_true_eq_false, not_false_eq_true, m_189 hc hw tp, bI_t, ev4, hc.t70, hc.r70_4, hc.r70_5, hc.r70_6, hc.r70_7, hc.r70_8, hc.r70_10, hc.r70_11, hc.r70_12, hc.r70_14, hc.r70_15, hc.r70_16, hc.r70_17, hc.r70_19, hc.r70_21, hc.r70_23, hc.r70_24, hc.r70_26, hc.r70_27, hc.r70_28, hc.r70_29, hc.r70_30, hc.r70_31, hc.r70_32, hc.r70_33, hc.r70_36]
      refine ih (k + 1) _ (by omega) (fun x5 => ?_)
      have := hq x5
      cases e : pnK (vm h) (h.1 78) k
      · rw [e] at this
        exact this
      · rw [e] at this
        exact this
set_option maxHeartbeats 4000000 in
theorem l_190b (hc : CT X ns nb ln) {many : Int} {nn n : Nat} (hn : many = 2 * (nn : Int)) (h6 : nn ≤ 6) (hn16 : n < 16) {x4 : Option xV} : ∀ (m k : Nat) (h : xH), Ok X h → k + m = nn → (∀ h2, Fm X h h2 → vm h2 = pnW n (h.1 78) m k (vm h) → Ev X 190 103 [some (vr 70), some (vi w), some (vi n), some (vi many), some (vi 1), some (vi many)] [] h2 Q) → Ev X 190 85 [some (vr 70), some (vi w), some (vi n), some (vi many), some (vi 1), some (vi (2 * (k : Int)))] [] h Q := by
  intro m
  induction m with
  | zero =>
    intro k h ok hm hq
    rw [e_190_85]
    simp (disch := first | assumption | omega) only [e_190_86, e_190_87, onI_s, onR_s, onL_s, gl_0, gl_n, gl_1, gl_2, gl_3, gl_4, gl_5, gl_6, gl_7, gl_8, gl_9, gl_10, gl_11, gl_12, gl_13, gl_14, gl_15, gl_16, gl_17, sk0i, sk0r, sk0n, sk1i, sk1r, sk1n, sk_2, sk_3, sk_4, sk_5, sk_6, sk_7, sk_8, sk_9, sk_10, sk_11, sk_12, sk_13, sk_14, sk_15, sk_16, sk_17, ls_0, ls_1, ls_2, ls_3, ls_4, ls_5, ls_6, ls_7, ls_8, ls_9, ls_10, ls_11, ls_12, ls_13, ls_14, ls_15, ls_16, ls_17, ct1_i, ct1_r, wd8_0, wd8_i1, wd8_r1, wd8_i2, wd8_r2, wd8_i3, wd8_r3, wd8_i4, wd8_r4, wd8_i5, wd8_r5, wd8_i6, wd8_r6, wd8_i7, wd8_r7, wd8_i8, wd8_r8, wd8_l2, wd8_l3, wd8_l4, wd8_l5, wd8_l6, wd8_l7, wd8_l8, tl_s, tl_n, inR_t, bd_t, true_and, and_true, true_or, or_true, if_true_x, if_false_x, if_pos, if_neg, Int.toNat_natCast, natL, bI_0, bI_1, bI_ft, eq_self, b_tf, b_ft, not_true_eq_false, not_false_eq_true]
    rw [show 2 * (k : Int) = many by omega]
    exact hq h (Fm.refl ok) rfl
  | succ m ih =>
    intro k h ok hm hq
    have t1 : (176 + 14 * (n : Int) + 2 + 2 * (k : Int)).toNat = 176 + 14 * n + 2 + 2 * k := by omega
    have t2 : (176 + 14 * (n : Int) + 2 + (2 * (k : Int) + 1)).toNat = 176 + 14 * n + 2 + 2 * k + 1 := by omega
    have t3 : 2 * (k : Int) + 1 + 1 = 2 * ((k + 1 : Nat) : Int) := by omega
    rw [e_190_85]
    simp (disch := first | assumption | omega) only [e_190_86, e_190_87, e_190_88, e_190_89, e_190_90, e_190_91, e_190_92, e_190_93, e_190_94, e_190_95, e_190_96, e_190_97, e_190_98, e_190_99, e_190_100, e_190_101, e_190_102, onI_s, onR_s, onL_s, gl_0, gl_n, gl_1, gl_2, gl_3, gl_4, gl_5, gl_6, gl_7, gl_8, gl_9, gl_10, gl_11, gl_12, gl_13, gl_14, gl_15, gl_16, gl_17, sk0i, sk0r, sk0n, sk1i, sk1r, sk1n, sk_2, sk_3, sk_4, sk_5, sk_6, sk_7, sk_8, sk_9, sk_10, sk_11, sk_12, sk_13, sk_14, sk_15, sk_16, sk_17, ls_0, ls_1, ls_2, ls_3, ls_4, ls_5, ls_6, ls_7, ls_8, ls_9, ls_10, ls_11, ls_12, ls_13, ls_14, ls_15, ls_16, ls_17, ct1_i, ct1_r, wd8_0, wd8_i1, wd8_r1, wd8_i2, wd8_r2, wd8_i3, wd8_r3, wd8_i4, wd8_r4, wd8_i5, wd8_r5, wd8_i6, wd8_r6, wd8_i7, wd8_r7, wd8_i8, wd8_r8, wd8_l2, wd8_l3, wd8_l4, wd8_l5, wd8_l6, wd8_l7, wd8_l8, tl_s, tl_n, inR_t, bd_t, true_and, and_true, true_or, or_true, if_true_x, if_false_x, if_pos, if_neg, Int.toNat_natCast, natL, bI_0, bI_1, bI_ft, eq_self, b_tf, b_ft, not_true_eq_false, not_false_eq_true, m_159, ev2, t1, hc.t70, hc.r70_4, hc.r70_5, hc.r70_6, hc.r70_7, hc.r70_8, hc.r70_10, hc.r70_11, hc.r70_12, hc.r70_14, hc.r70_15, hc.r70_16, hc.r70_17, hc.r70_19, hc.r70_21, hc.r70_23, hc.r70_24, hc.r70_26, hc.r70_27, hc.r70_28, hc.r70_29, hc.r70_30, hc.r70_31, hc.r70_32, hc.r70_33, hc.r70_36, hc.t73, hc.z73, hc.t78, hc.z78]
    rw [e_190_85]
    simp (disch := first | assumption | omega) only [e_190_86, e_190_87, e_190_88, e_190_89, e_190_90, e_190_91, e_190_92, e_190_93, e_190_94, e_190_95, e_190_96, e_190_97, e_190_98, e_190_99, e_190_100, e_190_101, e_190_102, onI_s, onR_s, onL_s, gl_0, gl_n, gl_1, gl_2, gl_3, gl_4, gl_5, gl_6, gl_7, gl_8, gl_9, gl_10, gl_11, gl_12, gl_13, gl_14, gl_15, gl_16, gl_17, sk0i, sk0r, sk0n, sk1i, sk1r, sk1n, sk_2, sk_3, sk_4, sk_5, sk_6, sk_7, sk_8, sk_9, sk_10, sk_11, sk_12, sk_13, sk_14, sk_15, sk_16, sk_17, ls_0, ls_1, ls_2, ls_3, ls_4, ls_5, ls_6, ls_7, ls_8, ls_9, ls_10, ls_11, ls_12, ls_13, ls_14, ls_15, ls_16, ls_17, ct1_i, ct1_r, wd8_0, wd8_i1, wd8_r1, wd8_i2, wd8_r2, wd8_i3, wd8_r3, wd8_i4, wd8_r4, wd8_i5, wd8_r5, wd8_i6, wd8_r6, wd8_i7, wd8_r7, wd8_i8, wd8_r8, wd8_l2, wd8_l3, wd8_l4, wd8_l5, wd8_l6, wd8_l7, wd8_l8, tl_s, tl_n, inR_t, bd_t, true_and, and_true, true_or, or_true, if_true_x, if_false_x, if_pos, if_neg, Int.toNat_natCast, natL, bI_0, bI_1, bI_ft, eq_self, b_tf, b_ft, not_true_eq_false, not_false_eq_true, m_159, ev3, t2, t3, up2_oth, hc.t70, hc.r70_4, hc.r70_5, hc.r70_6, hc.r70_7, hc.r70_8, hc.r70_10, hc.r70_11, hc.r70_12, hc.r70_14, hc.r70_15, hc.r70_16, hc.r70_17, hc.r70_19, hc.r70_21, hc.r70_23, hc.r70_24, hc.r70_26, hc.r70_27, hc.r70_28, hc.r70_29, hc.r70_30, hc.r70_31, hc.r70_32, hc.r70_33, hc.r70_36, hc.t73, hc.z73, hc.t78, hc.z78]
    have f1 := Fm.I73 (X := X) (h := h) (I := h.1) (F := h.2) (x := h.1 78 (2 * k)) (j := 176 + 14 * n + 2 + 2 * k) (Fm.refl ok) (by omega) (by rw [hc.z73]; omega)
    have f2 := Fm.I73 (x := h.1 78 (2 * k + 1)) (j := 176 + 14 * n + 2 + 2 * k + 1) f1 (by omega) (by rw [hc.z73]; omega)
    refine ih (k + 1) _ (f2.ok ok) (by omega) (fun h2 a b => hq h2 (f2.tr a) ?_)
    rw [b, vm_up (j := 23) (c := n) (n := k) (by omega) (by omega) (by omega) (by omega), vm_up (j := 22) (c := n) (n := k) (by omega) (by omega) (by omega) (by omega)]
    dsimp only
    rw [up2_of (by omega), up2_of (by omega)]
    rfl
set_option maxHeartbeats 4000000 in
theorem q_190 {n : Nat} {many : Int} (ok : Ok X h) (rf : RFb (h.1 71)) (g : Gd (vm h)) (tp : TPb (h.1 78)) (n0 : 0 ≤ many) (n1 : many ≤ 100) (hN : vm h 19 0 = n) (hn : n < 16) (hq : ∀ h2, Mst X h h2 → mS h2 = (if ntB (vm h) (h.1 78) many = false then refS (mS h) (-6) else actS (mS h) 3 (vm h 19 0) (adN (vm h) w (h.1 78) (many / 2))).2 → Q (some (vi (if ntB (vm h) (h.1 78) many = false then refS (mS h) (-6) else actS (mS h) 3 (vm h 19 0) (adN (vm h) w (h.1 78) (many / 2))).1)) h2) : Ev X 190 31 [some (vr 70), some (vi w), some (vi n), some (vi many), none, none] [] h Q := by
  have ok0 := ok
  obtain ⟨z, os, oc, om, ⟨nb, ln, hc, hnb⟩, lp⟩ := ok
  have hw := g.rg
  have tm := t2mod n0
  rw [e_190_31]
  have bad : ntB (vm h) (h.1 78) many = false → ∀ x5, Ev X 190 58 [some (vr 70), some (vi w), some (vi n), some (vi many), some (vi 0), x5] [] h Q := by
    intro e x5
    rw [e, if_pos rfl] at hq
    rw [e_190_58]
    simp (disch := first | assumption | omega) only [e_190_59, e_190_60, e_190_61, e_190_62, e_190_63, onI_s, onR_s, onL_s, gl_0, gl_n, gl_1, gl_2, gl_3, gl_4, gl_5, gl_6, gl_7, gl_8, gl_9, gl_10, gl_11, gl_12, gl_13, gl_14, gl_15, gl_16, gl_17, sk0i, sk0r, sk0n, sk1i, sk1r, sk1n, sk_2, sk_3, sk_4, sk_5, sk_6, sk_7, sk_8, sk_9, sk_10, sk_11, sk_12, sk_13, sk_14, sk_15, sk_16, sk_17, ls_0, ls_1, ls_2, ls_3, ls_4, ls_5, ls_6, ls_7, ls_8, ls_9, ls_10, ls_11, ls_12, ls_13, ls_14, ls_15, ls_16, ls_17, ct1_i, ct1_r, wd8_0, wd8_i1, wd8_r1, wd8_i2, wd8_r2, wd8_i3, wd8_r3, wd8_i4, wd8_r4, wd8_i5, wd8_r5, wd8_i6, wd8_r6, wd8_i7, wd8_r7, wd8_i8, wd8_r8, wd8_l2, wd8_l3, wd8_l4, wd8_l5, wd8_l6, wd8_l7, wd8_l8, tl_s, tl_n, inR_t, bd_t, true_and, and_true, true_or, or_true, if_true_x, if_false_x, if_pos, if_neg, Int.toNat_natCast, natL, bI_0, bI_1, bI_ft, eq_self, b_tf, b_ft, not_true_eq_false, not_false_eq_true, rfM ok0 rf, hc.t70, hc.r70_4, hc.r70_5, hc.r70_6, hc.r70_7, hc.r70_8, hc.r70_10, hc.r70_11, hc.r70_12, hc.r70_14, hc.r70_15, hc.r70_16, hc.r70_17, hc.r70_19, hc.r70_21, hc.r70_23, hc.r70_24, hc.r70_26, hc.r70_27, hc.r70_28, hc.r70_29, hc.r70_30, hc.r70_31, hc.r70_32, hc.r70_33, hc.r70_36]
    exact hq _ (rM_st ok0 rf (by omega) (by omega)).1 (rM_st ok0 rf (by omega) (by omega)).2
  have z47 : many < 4 ∨ 12 < many ∨ ¬ many % 2 = 0 → Ev X 190 47 [some (vr 70), some (vi w), some (vi n), some (vi many), some (vi 0), some (vi 0)] [] h Q := by
    intro z
    have e : ntB (vm h) (h.1 78) many = false := by
      rw [Bool.eq_false_iff]
      intro y
      unfold ntB at y
      simp only [Bool.and_eq_true, decide_eq_true_eq] at y
      omega
    rw [e_190_47]
    by_cases y : 0 < many
    · simp (disch := first | assumption | omega) only [e_190_48, e_190_49, e_190_50, e_190_51, onI_s, onR_s, onL_s, gl_0, gl_n, gl_1, gl_2, gl_3, gl_4, gl_5, gl_6, gl_7, gl_8, gl_9, gl_10, gl_11, gl_12, gl_13, gl_14, gl_15, gl_16, gl_17, sk0i, sk0r, sk0n, sk1i, sk1r, sk1n, sk_2, sk_3, sk_4, sk_5, sk_6, sk_7, sk_8, sk_9, sk_10, sk_11, sk_12, sk_13, sk_14, sk_15, sk_16, sk_17, ls_0, ls_1, ls_2, ls_3, ls_4, ls_5, ls_6, ls_7, ls_8, ls_9, ls_10, ls_11, ls_12, ls_13, ls_14, ls_15, ls_16, ls_17, ct1_i, ct1_r, wd8_0, wd8_i1, wd8_r1, wd8_i2, wd8_r2, wd8_i3, wd8_r3, wd8_i4, wd8_r4, wd8_i5, wd8_r5, wd8_i6, wd8_r6, wd8_i7, wd8_r7, wd8_i8, wd8_r8, wd8_l2, wd8_l3, wd8_l4, wd8_l5, wd8_l6, wd8_l7, wd8_l8, tl_s, tl_n, inR_t, bd_t, true_and, and_true, true_or, or_true, if_true_x, if_false_x, if_pos, if_neg, Int.toNat_natCast, natL, bI_0, bI_1, bI_ft, eq_self, b_tf, b_ft, not_true_eq_false, not_false_eq_true]
      exact bad e _
    · simp (disch := first | assumption | omega) only [e_190_48, e_190_49, onI_s, onR_s, onL_s, gl_0, gl_n, gl_1, gl_2, gl_3, gl_4, gl_5, gl_6, gl_7, gl_8, gl_9, gl_10, gl_11, gl_12, gl_13, gl_14, gl_15, gl_16, gl_17, sk0i, sk0r, sk0n, sk1i, sk1r, sk1n, sk_2, sk_3, sk_4, sk_5, sk_6, sk_7, sk_8, sk_9, sk_10, sk_11, sk_12, sk_13, sk_14, sk_15, sk_16, sk_17, ls_0, ls_1, ls_2, ls_3, ls_4, ls_5, ls_6, ls_7, ls_8, ls_9, ls_10, ls_11, ls_12, ls_13, ls_14, ls_15, ls_16, ls_17, ct1_i, ct1_r, wd8_0, wd8_i1, wd8_r1, wd8_i2, wd8_r2, wd8_i3, wd8_r3, wd8_i4, wd8_r4, wd8_i5, wd8_r5, wd8_i6, wd8_r6, wd8_i7, wd8_r7, wd8_i8, wd8_r8, wd8_l2, wd8_l3, wd8_l4, wd8_l5, wd8_l6, wd8_l7, wd8_l8, tl_s, tl_n, inR_t, bd_t, true_and, and_true, true_or, or_true, if_true_x, if_false_x, if_pos, if_neg, Int.toNat_natCast, natL, bI_0, bI_1, bI_ft, eq_self, b_tf, b_ft, not_true_eq_false, not_false_eq_true]
      exact bad e _
  by_cases e1 : many % 2 = 0
  · by_cases e2 : 4 ≤ many ∧ many ≤ 12
    · have d := bT e2
      simp (disch := first | assumption | omega) only [e_190_32, e_190_33, e_190_34, e_190_35, e_190_36, e_190_37, e_190_38, e_190_39, e_190_40, e_190_41, e_190_42, e_190_44, e_190_45, e_190_46, onI_s, onR_s, onL_s, gl_0, gl_n, gl_1, gl_2, gl_3, gl_4, gl_5, gl_6, gl_7, gl_8, gl_9, gl_10, gl_11, gl_12, gl_13, gl_14, gl_15, gl_16, gl_17, sk0i, sk0r, sk0n, sk1i, sk1r, sk1n, sk_2, sk_3, sk_4, sk_5, sk_6, sk_7, sk_8, sk_9, sk_10, sk_11, sk_12, sk_13, sk_14, sk_15, sk_16, sk_17, ls_0, ls_1, ls_2, ls_3, ls_4, ls_5, ls_6, ls_7, ls_8, ls_9, ls_10, ls_11, ls_12, ls_13, ls_14, ls_15, ls_16, ls_17, ct1_i, ct1_r, wd8_0, wd8_i1, wd8_r1, wd8_i2, wd8_r2, wd8_i3, wd8_r3, wd8_i4, wd8_r4, wd8_i5, wd8_r5, wd8_i6, wd8_r6, wd8_i7, wd8_r7, wd8_i8, wd8_r8, wd8_l2, wd8_l3, wd8_l4, wd8_l5, wd8_l6, wd8_l7, wd8_l8, tl_s, tl_n, inR_t, bd_t, true_and, and_true, true_or, or_true, if_true_x, if_false_x, if_pos, if_neg, Int.toNat_natCast, natL, bI_0, bI_1, bI_ft, eq_self, b_tf, b_ft, not_true_eq_false, not_false_eq_true, dv_t, dvR, nz_2, tm, e1, m_149, d, hc.t70, hc.r70_4, hc.r70_5, hc.r70_6, hc.r70_7, hc.r70_8, hc.r70_10, hc.r70_11, hc.r70_12, hc.r70_14, hc.r70_15, hc.r70_16, hc.r70_17, hc.r70_19, hc.r70_21, hc.r70_23, hc.r70_24, hc.r70_26, hc.r70_27, hc.r70_28, hc.r70_29, hc.r70_30, hc.r70_31, hc.r70_32, hc.r70_33, hc.r70_36]
      have li := l_190a (Q := Q) (w := w) (n := (n : Int)) hc hw tp (many := many) (nn := (many / 2).toNat) (by omega) (by omega) (many / 2).toNat 0 true (by omega)
      rw [bI_t, show 2 * ((0 : Nat) : Int) = 0 from rfl, Bool.true_and] at li
      have ep : ntB (vm h) (h.1 78) many = !srch (fun k => !pnK (vm h) (h.1 78) k) (many / 2).toNat 0 := by
        unfold ntB
        rw [d]
        simp [e1]
      rw [← ep] at li
      refine li (fun x5 => ?_)
      cases e : ntB (vm h) (h.1 78) many
      · rw [bI_f]; exact bad e x5
      · rw [e, if_neg (by simp)] at hq
        rw [bI_t, e_190_58]
        simp (disch := first | assumption | omega) only [e_190_59, e_190_64, e_190_65, onI_s, onR_s, onL_s, gl_0, gl_n, gl_1, gl_2, gl_3, gl_4, gl_5, gl_6, gl_7, gl_8, gl_9, gl_10, gl_11, gl_12, gl_13, gl_14, gl_15, gl_16, gl_17, sk0i, sk0r, sk0n, sk1i, sk1r, sk1n, sk_2, sk_3, sk_4, sk_5, sk_6, sk_7, sk_8, sk_9, sk_10, sk_11, sk_12, sk_13, sk_14, sk_15, sk_16, sk_17, ls_0, ls_1, ls_2, ls_3, ls_4, ls_5, ls_6, ls_7, ls_8, ls_9, ls_10, ls_11, ls_12, ls_13, ls_14, ls_15, ls_16, ls_17, ct1_i, ct1_r, wd8_0, wd8_i1, wd8_r1, wd8_i2, wd8_r2, wd8_i3, wd8_r3, wd8_i4, wd8_r4, wd8_i5, wd8_r5, wd8_i6, wd8_r6, wd8_i7, wd8_r7, wd8_i8, wd8_r8, wd8_l2, wd8_l3, wd8_l4, wd8_l5, wd8_l6, wd8_l7, wd8_l8, tl_s, tl_n, inR_t, bd_t, true_and, and_true, true_or, or_true, if_true_x, if_false_x, if_pos, if_neg, Int.toNat_natCast, natL, bI_0, bI_1, bI_ft, eq_self, b_tf, b_ft, not_true_eq_false, not_false_eq_true]
        (rw [e_190_66]; refine ⟨⟨hc.t70, by decide⟩, ?_⟩)
        refine kpM ok0 (fun h2 k => ?_)
        have t1 : (176 + 14 * (n : Int)).toNat = 176 + 14 * n := by omega
        have t3 : (176 + 14 * (n : Int) + 1).toNat = 176 + 14 * n + 1 := by omega
        have t2 : many.tdiv 2 = many / 2 := td_n n0
        simp (disch := first | assumption | omega) only [e_190_67, e_190_68, e_190_69, e_190_70, e_190_71, e_190_72, e_190_73, e_190_74, e_190_75, e_190_76, e_190_77, e_190_78, e_190_79, e_190_80, e_190_81, e_190_82, e_190_83, e_190_84, onI_s, onR_s, onL_s, gl_0, gl_n, gl_1, gl_2, gl_3, gl_4, gl_5, gl_6, gl_7, gl_8, gl_9, gl_10, gl_11, gl_12, gl_13, gl_14, gl_15, gl_16, gl_17, sk0i, sk0r, sk0n, sk1i, sk1r, sk1n, sk_2, sk_3, sk_4, sk_5, sk_6, sk_7, sk_8, sk_9, sk_10, sk_11, sk_12, sk_13, sk_14, sk_15, sk_16, sk_17, ls_0, ls_1, ls_2, ls_3, ls_4, ls_5, ls_6, ls_7, ls_8, ls_9, ls_10, ls_11, ls_12, ls_13, ls_14, ls_15, ls_16, ls_17, ct1_i, ct1_r, wd8_0, wd8_i1, wd8_r1, wd8_i2, wd8_r2, wd8_i3, wd8_r3, wd8_i4, wd8_r4, wd8_i5, wd8_r5, wd8_i6, wd8_r6, wd8_i7, wd8_r7, wd8_i8, wd8_r8, wd8_l2, wd8_l3, wd8_l4, wd8_l5, wd8_l6, wd8_l7, wd8_l8, tl_s, tl_n, inR_t, bd_t, true_and, and_true, true_or, or_true, if_true_x, if_false_x, if_pos, if_neg, Int.toNat_natCast, natL, bI_0, bI_1, bI_ft, eq_self, b_tf, b_ft, not_true_eq_false, not_false_eq_true, m_159, t1, t3, t2, dv_t, dvR, nz_2, hc.t70, hc.r70_4, hc.r70_5, hc.r70_6, hc.r70_7, hc.r70_8, hc.r70_10, hc.r70_11, hc.r70_12, hc.r70_14, hc.r70_15, hc.r70_16, hc.r70_17, hc.r70_19, hc.r70_21, hc.r70_23, hc.r70_24, hc.r70_26, hc.r70_27, hc.r70_28, hc.r70_29, hc.r70_30, hc.r70_31, hc.r70_32, hc.r70_33, hc.r70_36, hc.t73, hc.z73]
        have f1 := Fm.I73 (X := X) (h := h2) (I := h2.1) (F := h2.2) (x := w) (j := 176 + 14 * n) (Fm.refl k.1) (by omega) (by rw [hc.z73]; omega)
        have f2 := Fm.I73 (x := many / 2) (j := 176 + 14 * n + 1) f1 (by omega) (by rw [hc.z73]; omega)
        have li := l_190b (Q := Q) (w := w) (x4 := none) hc (many := many) (nn := (many / 2).toNat) (n := n) (by omega) (by omega) hn (many / 2).toNat 0 _ (f2.ok k.1) (by omega)
        rw [show 2 * ((0 : Nat) : Int) = 0 from rfl] at li
        refine li (fun h3 f3 e3 => ?_)
        rw [e_190_103]
        rw [vm_un (j := 21) (c := n) (by omega) (by omega) (by omega), vm_un (j := 20) (c := n) (by omega) (by omega) (by omega)] at e3
        dsimp only at e3
        rw [up2_of (by omega), up2_of (by omega), show vm (h2.1, h2.2) = vm h from k.pv, (k.2.2.2.1 78 (by omega) (by omega) (by omega)).1] at e3
        have e9 : h3.1 73 (Int.toNat 3) = n := by
          have : vm h3 19 0 = n := by
            rw [e3, pnW_o (by omega), up2_oth (by omega), up2_oth (by omega)]
            exact hN
          exact this
        simp (disch := first | assumption | omega) only [e_190_104, e_190_105, e_190_106, e_190_107, e_190_108, e_190_109, e_190_110, e_190_111, e_190_112, e_190_113, e_190_114, onI_s, onR_s, onL_s, gl_0, gl_n, gl_1, gl_2, gl_3, gl_4, gl_5, gl_6, gl_7, gl_8, gl_9, gl_10, gl_11, gl_12, gl_13, gl_14, gl_15, gl_16, gl_17, sk0i, sk0r, sk0n, sk1i, sk1r, sk1n, sk_2, sk_3, sk_4, sk_5, sk_6, sk_7, sk_8, sk_9, sk_10, sk_11, sk_12, sk_13, sk_14, sk_15, sk_16, sk_17, ls_0, ls_1, ls_2, ls_3, ls_4, ls_5, ls_6, ls_7, ls_8, ls_9, ls_10, ls_11, ls_12, ls_13, ls_14, ls_15, ls_16, ls_17, ct1_i, ct1_r, wd8_0, wd8_i1, wd8_r1, wd8_i2, wd8_r2, wd8_i3, wd8_r3, wd8_i4, wd8_r4, wd8_i5, wd8_r5, wd8_i6, wd8_r6, wd8_i7, wd8_r7, wd8_i8, wd8_r8, wd8_l2, wd8_l3, wd8_l4, wd8_l5, wd8_l6, wd8_l7, wd8_l8, tl_s, tl_n, inR_t, bd_t, true_and, and_true, true_or, or_true, if_true_x, if_false_x, if_pos, if_neg, Int.toNat_natCast, natL, bI_0, bI_1, bI_ft, eq_self, b_tf, b_ft, not_true_eq_false, not_false_eq_true, e9, m_153 hc, hc.t70, hc.r70_4, hc.r70_5, hc.r70_6, hc.r70_7, hc.r70_8, hc.r70_10, hc.r70_11, hc.r70_12, hc.r70_14, hc.r70_15, hc.r70_16, hc.r70_17, hc.r70_19, hc.r70_21, hc.r70_23, hc.r70_24, hc.r70_26, hc.r70_27, hc.r70_28, hc.r70_29, hc.r70_30, hc.r70_31, hc.r70_32, hc.r70_33, hc.r70_36, hc.t73, hc.z73]
        have f4 := Fm.I73 (x := (n : Int) + 1) (j := Int.toNat 3) (I := h3.1) (F := h3.2) (f2.tr f3) (by decide) (by rw [hc.z73]; decide)
        have ee : vm (up2 h3.1 73 (Int.toNat 3) ((n : Int) + 1), h3.2) = adN (vm h) w (h.1 78) (many / 2) := by
          rw [vm_uk (j := 19) (by decide)]
          unfold adN
          rw [hN, Int.toNat_natCast, ← e3]
        rw [hN] at hq
        exact hq _ (act_m (r := 0) k f4 ee).1 (act_m (r := 0) k f4 ee).2
    · have d := bF e2
      simp (disch := first | assumption | omega) only [e_190_32, e_190_33, e_190_34, e_190_35, e_190_36, e_190_37, e_190_38, e_190_39, e_190_40, e_190_43, e_190_44, e_190_45, e_190_46, onI_s, onR_s, onL_s, gl_0, gl_n, gl_1, gl_2, gl_3, gl_4, gl_5, gl_6, gl_7, gl_8, gl_9, gl_10, gl_11, gl_12, gl_13, gl_14, gl_15, gl_16, gl_17, sk0i, sk0r, sk0n, sk1i, sk1r, sk1n, sk_2, sk_3, sk_4, sk_5, sk_6, sk_7, sk_8, sk_9, sk_10, sk_11, sk_12, sk_13, sk_14, sk_15, sk_16, sk_17, ls_0, ls_1, ls_2, ls_3, ls_4, ls_5, ls_6, ls_7, ls_8, ls_9, ls_10, ls_11, ls_12, ls_13, ls_14, ls_15, ls_16, ls_17, ct1_i, ct1_r, wd8_0, wd8_i1, wd8_r1, wd8_i2, wd8_r2, wd8_i3, wd8_r3, wd8_i4, wd8_r4, wd8_i5, wd8_r5, wd8_i6, wd8_r6, wd8_i7, wd8_r7, wd8_i8, wd8_r8, wd8_l2, wd8_l3, wd8_l4, wd8_l5, wd8_l6, wd8_l7, wd8_l8, tl_s, tl_n, inR_t, bd_t, true_and, and_true, true_or, or_true, if_true_x, if_false_x, if_pos, if_neg, Int.toNat_natCast, natL, bI_0, bI_1, bI_ft, eq_self, b_tf, b_ft, not_true_eq_false, not_false_eq_true, dv_t, dvR, nz_2, tm, e1, m_149, d, hc.t70, hc.r70_4, hc.r70_5, hc.r70_6, hc.r70_7, hc.r70_8, hc.r70_10, hc.r70_11, hc.r70_12, hc.r70_14, hc.r70_15, hc.r70_16, hc.r70_17, hc.r70_19, hc.r70_21, hc.r70_23, hc.r70_24, hc.r70_26, hc.r70_27, hc.r70_28, hc.r70_29, hc.r70_30, hc.r70_31, hc.r70_32, hc.r70_33, hc.r70_36]
      exact z47 (by omega)
  · simp (disch := first | assumption | omega) only [e_190_32, e_190_33, e_190_34, e_190_43, e_190_44, e_190_45, e_190_46, onI_s, onR_s, onL_s, gl_0, gl_n, gl_1, gl_2, gl_3, gl_4, gl_5, gl_6, gl_7, gl_8, gl_9, gl_10, gl_11, gl_12, gl_13, gl_14, gl_15, gl_16, gl_17, sk0i, sk0r, sk0n, sk1i, sk1r, sk1n, sk_2, sk_3, sk_4, sk_5, sk_6, sk_7, sk_8, sk_9, sk_10, sk_11, sk_12, sk_13, sk_14, sk_15, sk_16, sk_17, ls_0, ls_1, ls_2, ls_3, ls_4, ls_5, ls_6, ls_7, ls_8, ls_9, ls_10, ls_11, ls_12, ls_13, ls_14, ls_15, ls_16, ls_17, ct1_i, ct1_r, wd8_0, wd8_i1, wd8_r1, wd8_i2, wd8_r2, wd8_i3, wd8_r3, wd8_i4, wd8_r4, wd8_i5, wd8_r5, wd8_i6, wd8_r6, wd8_i7, wd8_r7, wd8_i8, wd8_r8, wd8_l2, wd8_l3, wd8_l4, wd8_l5, wd8_l6, wd8_l7, wd8_l8, tl_s, tl_n, inR_t, bd_t, true_and, and_true, true_or, or_true, if_true_x, if_false_x, if_pos, if_neg, Int.toNat_natCast, natL, bI_0, bI_1, bI_ft, eq_self, b_tf, b_ft, not_true_eq_false, not_false_eq_true, dv_t, dvR, nz_2, tm, e1, hc.t70, hc.r70_4, hc.r70_5, hc.r70_6, hc.r70_7, hc.r70_8, hc.r70_10, hc.r70_11, hc.r70_12, hc.r70_14, hc.r70_15, hc.r70_16, hc.r70_17, hc.r70_19, hc.r70_21, hc.r70_23, hc.r70_24, hc.r70_26, hc.r70_27, hc.r70_28, hc.r70_29, hc.r70_30, hc.r70_31, hc.r70_32, hc.r70_33, hc.r70_36]
    exact z47 (by omega)
set_option maxHeartbeats 4000000 in
theorem q_190t (ok : Ok X h) (rf : RFb (h.1 71)) (g : Gd (vm h)) (tp : TPb (h.1 78)) (n0 : 0 ≤ h.2 70 13) (n1 : h.2 70 13 ≤ 100) (hq : ∀ h2, Mst X h h2 → mS h2 = (spNet (mS h) w).2 → Q (some (vi (spNet (mS h) w).1)) h2) : Ev X 190 3 [some (vr 70), some (vi w), none, none, none, none] [] h Q := by
  have ok0 := ok
  obtain ⟨z, os, oc, om, ⟨nb, ln, hc, hnb⟩, lp⟩ := ok
  have hw := g.rg
  have nN := hw.nN
  unfold spNet at hq
  rw [show (mS h).1 = vm h from rfl, show (mS h).2.2.1 = h.1 78 from rfl, show (mS h).2.2.2.1 = h.2 70 13 from rfl] at hq
  by_cases g1 : 1 ≤ w ∧ w ≤ 9
  · rw [if_neg (not_not_intro g1)] at hq
    have d1 := bT g1
    by_cases g2 : vm h 19 0 = 16
    · rw [if_pos g2] at hq
      simp (disch := first | assumption | omega) only [e_190_3, e_190_4, e_190_5, e_190_6, e_190_7, e_190_8, e_190_13, e_190_14, e_190_15, e_190_16, e_190_17, e_190_18, e_190_19, e_190_20, e_190_21, e_190_22, e_190_23, e_190_24, onI_s, onR_s, onL_s, gl_0, gl_n, gl_1, gl_2, gl_3, gl_4, gl_5, gl_6, gl_7, gl_8, gl_9, gl_10, gl_11, gl_12, gl_13, gl_14, gl_15, gl_16, gl_17, sk0i, sk0r, sk0n, sk1i, sk1r, sk1n, sk_2, sk_3, sk_4, sk_5, sk_6, sk_7, sk_8, sk_9, sk_10, sk_11, sk_12, sk_13, sk_14, sk_15, sk_16, sk_17, ls_0, ls_1, ls_2, ls_3, ls_4, ls_5, ls_6, ls_7, ls_8, ls_9, ls_10, ls_11, ls_12, ls_13, ls_14, ls_15, ls_16, ls_17, ct1_i, ct1_r, wd8_0, wd8_i1, wd8_r1, wd8_i2, wd8_r2, wd8_i3, wd8_r3, wd8_i4, wd8_r4, wd8_i5, wd8_r5, wd8_i6, wd8_r6, wd8_i7, wd8_r7, wd8_i8, wd8_r8, wd8_l2, wd8_l3, wd8_l4, wd8_l5, wd8_l6, wd8_l7, wd8_l8, tl_s, tl_n, inR_t, bd_t, true_and, and_true, true_or, or_true, if_true_x, if_false_x, if_pos, if_neg, Int.toNat_natCast, natL, bI_0, bI_1, bI_ft, eq_self, b_tf, b_ft, not_true_eq_false, not_false_eq_true, m_149, d1, tn_3, vm_nN, g2, rfM ok0 rf, hc.t70, hc.r70_4, hc.r70_5, hc.r70_6, hc.r70_7, hc.r70_8, hc.r70_10, hc.r70_11, hc.r70_12, hc.r70_14, hc.r70_15, hc.r70_16, hc.r70_17, hc.r70_19, hc.r70_21, hc.r70_23, hc.r70_24, hc.r70_26, hc.r70_27, hc.r70_28, hc.r70_29, hc.r70_30, hc.r70_31, hc.r70_32, hc.r70_33, hc.r70_36, hc.t73, hc.z73]
      exact hq _ (rM_st ok0 rf (by omega) (by omega)).1 (rM_st ok0 rf (by omega) (by omega)).2
    · rw [if_neg g2] at hq
      simp (disch := first | assumption | omega) only [e_190_3, e_190_4, e_190_5, e_190_6, e_190_7, e_190_8, e_190_13, e_190_14, e_190_15, e_190_16, e_190_17, e_190_18, e_190_19, e_190_20, e_190_25, e_190_26, e_190_27, e_190_28, e_190_29, e_190_30, onI_s, onR_s, onL_s, gl_0, gl_n, gl_1, gl_2, gl_3, gl_4, gl_5, gl_6, gl_7, gl_8, gl_9, gl_10, gl_11, gl_12, gl_13, gl_14, gl_15, gl_16, gl_17, sk0i, sk0r, sk0n, sk1i, sk1r, sk1n, sk_2, sk_3, sk_4, sk_5, sk_6, sk_7, sk_8, sk_9, sk_10, sk_11, sk_12, sk_13, sk_14, sk_15, sk_16, sk_17, ls_0, ls_1, ls_2, ls_3, ls_4, ls_5, ls_6, ls_7, ls_8, ls_9, ls_10, ls_11, ls_12, ls_13, ls_14, ls_15, ls_16, ls_17, ct1_i, ct1_r, wd8_0, wd8_i1, wd8_r1, wd8_i2, wd8_r2, wd8_i3, wd8_r3, wd8_i4, wd8_r4, wd8_i5, wd8_r5, wd8_i6, wd8_r6, wd8_i7, wd8_r7, wd8_i8, wd8_r8, wd8_l2, wd8_l3, wd8_l4, wd8_l5, wd8_l6, wd8_l7, wd8_l8, tl_s, tl_n, inR_t, bd_t, true_and, and_true, true_or, or_true, if_true_x, if_false_x, if_pos, if_neg, Int.toNat_natCast, natL, bI_0, bI_1, bI_ft, eq_self, b_tf, b_ft, not_true_eq_false, not_false_eq_true, m_149, d1, tn_3, vm_nN, g2, hc.t70, hc.r70_4, hc.r70_5, hc.r70_6, hc.r70_7, hc.r70_8, hc.r70_10, hc.r70_11, hc.r70_12, hc.r70_14, hc.r70_15, hc.r70_16, hc.r70_17, hc.r70_19, hc.r70_21, hc.r70_23, hc.r70_24, hc.r70_26, hc.r70_27, hc.r70_28, hc.r70_29, hc.r70_30, hc.r70_31, hc.r70_32, hc.r70_33, hc.r70_36, hc.t73, hc.z73]
      have o1 := tp_sM ok0
      have ev : vm (h.1, up2 h.2 70 13 0) = vm h := vm_oF (I := h.1) (F := h.2) (by omega)
      obtain ⟨n, hn⟩ : ∃ n : Nat, vm h 19 0 = n := ⟨(vm h 19 0).toNat, by omega⟩
      rw [hn]
      refine q_190 (Mst.ok ok0 o1.1) rf (by rw [ev]; exact g) tp n0 n1 (by rw [ev]; exact hn) (by omega) (fun h2 a b => ?_)
      rw [ev, o1.2] at b ⊢
      exact hq h2 (o1.1.tr a) b
  · rw [if_pos g1] at hq
    have d1 := bF g1
    simp (disch := first | assumption | omega) only [e_190_3, e_190_4, e_190_5, e_190_6, e_190_7, e_190_8, e_190_9, e_190_10, e_190_11, e_190_12, onI_s, onR_s, onL_s, gl_0, gl_n, gl_1, gl_2, gl_3, gl_4, gl_5, gl_6, gl_7, gl_8, gl_9, gl_10, gl_11, gl_12, gl_13, gl_14, gl_15, gl_16, gl_17, sk0i, sk0r, sk0n, sk1i, sk1r, sk1n, sk_2, sk_3, sk_4, sk_5, sk_6, sk_7, sk_8, sk_9, sk_10, sk_11, sk_12, sk_13, sk_14, sk_15, sk_16, sk_17, ls_0, ls_1, ls_2, ls_3, ls_4, ls_5, ls_6, ls_7, ls_8, ls_9, ls_10, ls_11, ls_12, ls_13, ls_14, ls_15, ls_16, ls_17, ct1_i, ct1_r, wd8_0, wd8_i1, wd8_r1, wd8_i2, wd8_r2, wd8_i3, wd8_r3, wd8_i4, wd8_r4, wd8_i5, wd8_r5, wd8_i6, wd8_r6, wd8_i7, wd8_r7, wd8_i8, wd8_r8, wd8_l2, wd8_l3, wd8_l4, wd8_l5, wd8_l6, wd8_l7, wd8_l8, tl_s, tl_n, inR_t, bd_t, true_and, and_true, true_or, or_true, if_true_x, if_false_x, if_pos, if_neg, Int.toNat_natCast, natL, bI_0, bI_1, bI_ft, eq_self, b_tf, b_ft, not_true_eq_false, not_false_eq_true, m_149, d1, rfM ok0 rf, hc.t70, hc.r70_4, hc.r70_5, hc.r70_6, hc.r70_7, hc.r70_8, hc.r70_10, hc.r70_11, hc.r70_12, hc.r70_14, hc.r70_15, hc.r70_16, hc.r70_17, hc.r70_19, hc.r70_21, hc.r70_23, hc.r70_24, hc.r70_26, hc.r70_27, hc.r70_28, hc.r70_29, hc.r70_30, hc.r70_31, hc.r70_32, hc.r70_33, hc.r70_36]
    exact hq _ (rM_st ok0 rf (by omega) (by omega)).1 (rM_st ok0 rf (by omega) (by omega)).2
theorem p_190 (ok : Ok X h) (rf : RFb (h.1 71)) (g : Gd (vm h)) (tp : TPb (h.1 78)) (n0 : 0 ≤ h.2 70 13) (n1 : h.2 70 13 ≤ 100) (hq : ∀ h2, Mst X h h2 → mS h2 = (spNet (mS h) w).2 → Q (some (vi (spNet (mS h) w).1)) h2) : Cl X 190 [vr 70, vi w] h Q := by
  obtain ⟨nb, ln, hc, hnb⟩ := ok.2.2.2.2.1
  rw [c_190]
  simp (disch := first | assumption | omega) only [e_190_0, e_190_1, e_190_2, onI_s, onR_s, onL_s, gl_0, gl_n, gl_1, gl_2, gl_3, gl_4, gl_5, gl_6, gl_7, gl_8, gl_9, gl_10, gl_11, gl_12, gl_13, gl_14, gl_15, gl_16, gl_17, sk0i, sk0r, sk0n, sk1i, sk1r, sk1n, sk_2, sk_3, sk_4, sk_5, sk_6, sk_7, sk_8, sk_9, sk_10, sk_11, sk_12, sk_13, sk_14, sk_15, sk_16, sk_17, ls_0, ls_1, ls_2, ls_3, ls_4, ls_5, ls_6, ls_7, ls_8, ls_9, ls_10, ls_11, ls_12, ls_13, ls_14, ls_15, ls_16, ls_17, ct1_i, ct1_r, wd8_0, wd8_i1, wd8_r1, wd8_i2, wd8_r2, wd8_i3, wd8_r3, wd8_i4, wd8_r4, wd8_i5, wd8_r5, wd8_i6, wd8_r6, wd8_i7, wd8_r7, wd8_i8, wd8_r8, wd8_l2, wd8_l3, wd8_l4, wd8_l5, wd8_l6, wd8_l7, wd8_l8, tl_s, tl_n, inR_t, bd_t, true_and, and_true, true_or, or_true, if_true_x, if_false_x, if_pos, if_neg, Int.toNat_natCast, natL, bI_0, bI_1, bI_ft, eq_self, b_tf, b_ft, not_true_eq_false, not_false_eq_true, hc.t70]
  have e : up2 h.2 70 0 0 70 13 = h.2 70 13 := by rw [up2_same, if_neg (by decide)]
  exact q_190t (thr_ok ok) rf (by rw [thr_v]; exact g) tp (by dsimp only; rw [e]; exact n0) (by dsimp only; rw [e]; exact n1) (thr (sp := fun s => spNet s w) ok hq)
end NTM
