/-! spots that are no ground any more are lost: both sides -/
section LOL
variable {X : xL} {ns nb ln : Nat} {Q : Option xV → xH → Prop}
theorem lsV_e {v : Nat → Nat → Int} {c j : Nat} (h1 : j ≠ 17) (h2 : j ≠ 18) : lsV v c j = v j := lsV_o ⟨h1, h2⟩
set_option maxHeartbeats 4000000 in
theorem l_84 (hp : PL X 200) {n : Nat} (hn : n ≤ 20) : ∀ (m i : Nat) (h : xH), NZ X h → GEO0 (cv h 200) → RGv (cv h 200) → cv h 200 11 0 = n → i + m = n → (∀ h2, Fz X h h2 → cv h2 200 = loS m i (cv h 200) → Q none h2) → Ev X 84 2 [some (vr 200), some (vi i)] [] h Q := by
  intro m
  induction m with
  | zero =>
    intro i h z g w hs hm hq
    have hs2 : h.2 (200 + 11) 0 = n := hs
    rw [e_84_2]
    simp (disch := first | assumption | omega) only [e_84_3, e_84_4, e_84_5, e_84_6, e_84_34, onI_s, onR_s, onL_s, gl_0, gl_n, gl_1, gl_2, gl_3, gl_4, gl_5, gl_6, gl_7, gl_8, gl_9, gl_10, gl_11, gl_12, gl_13, gl_14, gl_15, gl_16, gl_17, sk0i, sk0r, sk0n, sk1i, sk1r, sk1n, sk_2, sk_3, sk_4, sk_5, sk_6, sk_7, sk_8, sk_9, sk_10, sk_11, sk_12, sk_13, sk_14, sk_15, sk_16, sk_17, ls_0, ls_1, ls_2, ls_3, ls_4, ls_5, ls_6, ls_7, ls_8, ls_9, ls_10, ls_11, ls_12, ls_13, ls_14, ls_15, ls_16, ls_17, ct1_i, ct1_r, wd8_0, wd8_i1, wd8_r1, wd8_i2, wd8_r2, wd8_i3, wd8_r3, wd8_i4, wd8_r4, wd8_i5, wd8_r5, wd8_i6, wd8_r6, wd8_i7, wd8_r7, wd8_i8, wd8_r8, wd8_l2, wd8_l3, wd8_l4, wd8_l5, wd8_l6, wd8_l7, wd8_l8, tl_s, tl_n, inR_t, bd_t, true_and, and_true, true_or, or_true, if_true_x, if_false_x, if_pos, if_neg, Int.toNat_natCast, natL, bI_0, bI_1, bI_ft, eq_self, b_tf, b_ft, not_true_eq_false, not_false_eq_true, hs2, hp.t0, hp.t1, hp.t2, hp.t3, hp.t4, hp.t5, hp.t6, hp.t7, hp.t8, hp.t9, hp.t10, hp.t11, hp.t12, hp.t13, hp.t14, hp.t15, hp.t16, hp.t17, hp.t18, hp.t19, hp.t20, hp.t21, hp.t22, hp.t23, hp.z2, hp.z3, hp.z4, hp.z5, hp.z7, hp.z8, hp.z9, hp.z10, hp.z12, hp.z13, hp.z14, hp.z15, hp.z16, hp.z17, hp.z18, hp.z20, hp.z21, hp.z22, hp.z23, hp.r0_2, hp.r0_3, hp.r0_4, hp.r0_5, hp.r1_1, hp.r1_2, hp.r1_3, hp.r1_4, hp.r6_1, hp.r6_2, hp.r6_3, hp.r6_4, hp.r11_1, hp.r11_2, hp.r11_3, hp.r11_4, hp.r11_5, hp.r11_6, hp.r11_7, hp.r19_1, hp.r19_2, hp.r19_3, hp.r19_4]
    exact hq h (Fz.refl z) rfl
  | succ m ih =>
    intro i h z g w hs hm hq
    have hs2 : h.2 (200 + 11) 0 = n := hs
    have hf := (g.1 i (by rw [hs]; omega)).2
    rw [cv_13, cv_6] at hf
    rw [e_84_2]
    rw [loS] at hq
    cases e1 : lpB (cv h 200) i
    · rw [if_neg (by rw [e1]; simp)] at hq
      simp (disch := first | assumption | omega) only [e_84_3, e_84_4, e_84_5, e_84_6, e_84_7, e_84_8, e_84_9, e_84_10, e_84_11, e_84_32, e_84_33, onI_s, onR_s, onL_s, gl_0, gl_n, gl_1, gl_2, gl_3, gl_4, gl_5, gl_6, gl_7, gl_8, gl_9, gl_10, gl_11, gl_12, gl_13, gl_14, gl_15, gl_16, gl_17, sk0i, sk0r, sk0n, sk1i, sk1r, sk1n, sk_2, sk_3, sk_4, sk_5, sk_6, sk_7, sk_8, sk_9, sk_10, sk_11, sk_12, sk_13, sk_14, sk_15, sk_16, sk_17, ls_0, ls_1, ls_2, ls_3, ls_4, ls_5, ls_6, ls_7, ls_8, ls_9, ls_10, ls_11, ls_12, ls_13, ls_14, ls_15, ls_16, ls_17, ct1_i, ct1_r, wd8_0, wd8_i1, wd8_r1, wd8_i2, wd8_r2, wd8_i3, wd8_r3, wd8_i4, wd8_r4, wd8_i5, wd8_r5, wd8_i6, wd8_r6, wd8_i7, wd8_r7, wd8_i8, wd8_r8, wd8_l2, wd8_l3, wd8_l4, wd8_l5, wd8_l6, wd8_l7, wd8_l8, tl_s, tl_n, inR_t, bd_t, true_and, and_true, true_or, or_true, if_true_x, if_false_x, if_pos, if_neg, Int.toNat_natCast, natL, bI_0, bI_1, bI_ft, eq_self, b_tf, b_ft, not_true_eq_false, not_false_eq_true, m_23 hp, e1, hs2, cast_s, hp.t0, hp.t1, hp.t2, hp.t3, hp.t4, hp.t5, hp.t6, hp.t7, hp.t8, hp.t9, hp.t10, hp.t11, hp.t12, hp.t13, hp.t14, hp.t15, hp.t16, hp.t17, hp.t18, hp.t19, hp.t20, hp.t21, hp.t22, hp.t23, hp.z2, hp.z3, hp.z4, hp.z5, hp.z7, hp.z8, hp.z9, hp.z10, hp.z12, hp.z13, hp.z14, hp.z15, hp.z16, hp.z17, hp.z18, hp.z20, hp.z21, hp.z22, hp.z23, hp.r0_2, hp.r0_3, hp.r0_4, hp.r0_5, hp.r1_1, hp.r1_2, hp.r1_3, hp.r1_4, hp.r6_1, hp.r6_2, hp.r6_3, hp.r6_4, hp.r11_1, hp.r11_2, hp.r11_3, hp.r11_4, hp.r11_5, hp.r11_6, hp.r11_7, hp.r19_1, hp.r19_2, hp.r19_3, hp.r19_4]
      exact ih (i + 1) h z g w hs (by omega) hq
    · cases e2 : gfB (cv h 200) i (cv h 200 17 i) (cv h 200 18 i)
      · rw [if_pos ⟨e1, e2⟩] at hq
        rw [cv_17, cv_18] at e2
        simp (disch := first | assumption | omega) only [e_84_3, e_84_4, e_84_5, e_84_6, e_84_7, e_84_8, e_84_9, e_84_10, e_84_11, e_84_12, e_84_13, e_84_14, e_84_15, e_84_16, e_84_17, e_84_18, e_84_19, e_84_20, e_84_21, e_84_22, e_84_23, e_84_24, e_84_25, e_84_26, e_84_27, e_84_28, e_84_29, e_84_30, e_84_31, e_84_32, e_84_33, onI_s, onR_s, onL_s, gl_0, gl_n, gl_1, gl_2, gl_3, gl_4, gl_5, gl_6, gl_7, gl_8, gl_9, gl_10, gl_11, gl_12, gl_13, gl_14, gl_15, gl_16, gl_17, sk0i, sk0r, sk0n, sk1i, sk1r, sk1n, sk_2, sk_3, sk_4, sk_5, sk_6, sk_7, sk_8, sk_9, sk_10, sk_11, sk_12, sk_13, sk_14, sk_15, sk_16, sk_17, ls_0, ls_1, ls_2, ls_3, ls_4, ls_5, ls_6, ls_7, ls_8, ls_9, ls_10, ls_11, ls_12, ls_13, ls_14, ls_15, ls_16, ls_17, ct1_i, ct1_r, wd8_0, wd8_i1, wd8_r1, wd8_i2, wd8_r2, wd8_i3, wd8_r3, wd8_i4, wd8_r4, wd8_i5, wd8_r5, wd8_i6, wd8_r6, wd8_i7, wd8_r7, wd8_i8, wd8_r8, wd8_l2, wd8_l3, wd8_l4, wd8_l5, wd8_l6, wd8_l7, wd8_l8, tl_s, tl_n, inR_t, bd_t, true_and, and_true, true_or, or_true, if_true_x, if_false_x, if_pos, if_neg, Int.toNat_natCast, natL, bI_0, bI_1, bI_ft, eq_self, b_tf, b_ft, not_true_eq_false, not_false_eq_true, m_23 hp, m_82 (c := (i : Int)) hp w hf, m_20 hp, e1, e2, hs2, cast_s, hp.t0, hp.t1, hp.t2, hp.t3, hp.t4, hp.t5, hp.t6, hp.t7, hp.t8, hp.t9, hp.t10, hp.t11, hp.t12, hp.t13, hp.t14, hp.t15, hp.t16, hp.t17, hp.t18, hp.t19, hp.t20, hp.t21, hp.t22, hp.t23, hp.z2, hp.z3, hp.z4, hp.z5, hp.z7, hp.z8, hp.z9, hp.z10, hp.z12, hp.z13, hp.z14, hp.z15, hp.z16, hp.z17, hp.z18, hp.z20, hp.z21, hp.z22, hp.z23, hp.r0_2, hp.r0_3, hp.r0_4, hp.r0_5, hp.r1_1, hp.r1_2, hp.r1_3, hp.r1_4, hp.r6_1, hp.r6_2, hp.r6_3, hp.r6_4, hp.r11_1, hp.r11_2, hp.r11_3, hp.r11_4, hp.r11_5, hp.r11_6, hp.r11_7, hp.r19_1, hp.r19_2, hp.r19_3, hp.r19_4]
        have f := Fz.uI (X := X) (h := h) (x := -1) (a := 200 + 18) (j := i) (Fz.uI (x := -1) (a := 200 + 17) (j := i) (I := h.1) (F := h.2) (Fz.refl z) (by omega) (by rw [hp.z17]; omega)) (by omega) (by rw [hp.z18]; omega)
        have e : cv (up2 (up2 h.1 (200 + 17) i (-1)) (200 + 18) i (-1), h.2) 200 = lsV (cv h 200) i := by
          rw [cv_u (by omega) (by omega), cv_u (by omega) (by omega)]
          rfl
        refine ih (i + 1) _ f.1 ?_ ?_ ?_ (by omega) (fun h2 a b => hq h2 (f.tr a) ?_)
        · rw [e]; exact g.cg (fun j h1 h2 => lsV_e h1 h2)
        · rw [e]; exact lsV_rg w i
        · rw [e, lsV_e (by omega) (by omega)]; exact hs
        · rw [b, e]
      · rw [if_neg (by rw [e2]; simp)] at hq
        rw [cv_17, cv_18] at e2
        simp (disch := first | assumption | omega) only [e_84_3, e_84_4, e_84_5, e_84_6, e_84_7, e_84_8, e_84_9, e_84_10, e_84_11, e_84_12, e_84_13, e_84_14, e_84_15, e_84_16, e_84_17, e_84_18, e_84_19, e_84_20, e_84_21, e_84_22, e_84_23, e_84_24, e_84_25, e_84_32, e_84_33, onI_s, onR_s, onL_s, gl_0, gl_n, gl_1, gl_2, gl_3, gl_4, gl_5, gl_6, gl_7, gl_8, gl_9, gl_10, gl_11, gl_12, gl_13, gl_14, gl_15, gl_16, gl_17, sk0i, sk0r, sk0n, sk1i, sk1r, sk1n, sk_2, sk_3, sk_4, sk_5, sk_6, sk_7, sk_8, sk_9, sk_10, sk_11, sk_12, sk_13, sk_14, sk_15, sk_16, sk_17, ls_0, ls_1, ls_2, ls_3, ls_4, ls_5, ls_6, ls_7, ls_8, ls_9, ls_10, ls_11, ls_12, ls_13, ls_14, ls_15, ls_16, ls_17, ct1_i, ct1_r, wd8_0, wd8_i1, wd8_r1, wd8_i2, wd8_r2, wd8_i3, wd8_r3, wd8_i4, wd8_r4, wd8_i5, wd8_r5, wd8_i6, wd8_r6, wd8_i7, wd8_r7, wd8_i8, wd8_r8, wd8_l2, wd8_l3, wd8_l4, wd8_l5, wd8_l6, wd8_l7, wd8_l8, tl_s, tl_n, inR_t, bd_t, true_and, and_true, true_or, or_true, if_true_x, if_false_x, if_pos, if_neg, Int.toNat_natCast, natL, bI_0, bI_1, bI_ft, eq_self, b_tf, b_ft, not_true_eq_false, not_false_eq_true, m_23 hp, m_82 (c := (i : Int)) hp w hf, e1, e2, hs2, cast_s, hp.t0, hp.t1, hp.t2, hp.t3, hp.t4, hp.t5, hp.t6, hp.t7, hp.t8, hp.t9, hp.t10, hp.t11, hp.t12, hp.t13, hp.t14, hp.t15, hp.t16, hp.t17, hp.t18, hp.t19, hp.t20, hp.t21, hp.t22, hp.t23, hp.z2, hp.z3, hp.z4, hp.z5, hp.z7, hp.z8, hp.z9, hp.z10, hp.z12, hp.z13, hp.z14, hp.z15, hp.z16, hp.z17, hp.z18, hp.z20, hp.z21, hp.z22, hp.z23, hp.r0_2, hp.r0_3, hp.r0_4, hp.r0_5, hp.r1_1, hp.r1_2, hp.r1_3, hp.r1_4, hp.r6_1, hp.r6_2, hp.r6_3, hp.r6_4, hp.r11_1, hp.r11_2, hp.r11_3, hp.r11_4, hp.r11_5, hp.r11_6, hp.r11_7, hp.r19_1, hp.r19_2, hp.r19_3, hp.r19_4]
        exact ih (i + 1) h z g w hs (by omega) hq
theorem m_84 {h : xH} (hp : PL X 200) (z : NZ X h) (g : GEO0 (cv h 200)) (w : RGv (cv h 200)) (hq : ∀ h2, Fz X h h2 → cv h2 200 = loS (cv h 200 11 0).toNat 0 (cv h 200) → Q none h2) : Cl X 84 [vr 200] h Q := by
  have nC := w.nC
  rw [c_84]
  simp (disch := first | assumption | omega) only [e_84_0, e_84_1, onI_s, onR_s, onL_s, gl_0, gl_n, gl_1, gl_2, gl_3, gl_4, gl_5, gl_6, gl_7, gl_8, gl_9, gl_10, gl_11, gl_12, gl_13, gl_14, gl_15, gl_16, gl_17, sk0i, sk0r, sk0n, sk1i, sk1r, sk1n, sk_2, sk_3, sk_4, sk_5, sk_6, sk_7, sk_8, sk_9, sk_10, sk_11, sk_12, sk_13, sk_14, sk_15, sk_16, sk_17, ls_0, ls_1, ls_2, ls_3, ls_4, ls_5, ls_6, ls_7, ls_8, ls_9, ls_10, ls_11, ls_12, ls_13, ls_14, ls_15, ls_16, ls_17, ct1_i, ct1_r, wd8_0, wd8_i1, wd8_r1, wd8_i2, wd8_r2, wd8_i3, wd8_r3, wd8_i4, wd8_r4, wd8_i5, wd8_r5, wd8_i6, wd8_r6, wd8_i7, wd8_r7, wd8_i8, wd8_r8, wd8_l2, wd8_l3, wd8_l4, wd8_l5, wd8_l6, wd8_l7, wd8_l8, tl_s, tl_n, inR_t, bd_t, true_and, and_true, true_or, or_true, if_true_x, if_false_x, if_pos, if_neg, Int.toNat_natCast, natL, bI_0, bI_1, bI_ft, eq_self, b_tf, b_ft, not_true_eq_false, not_false_eq_true]
  exact l_84 hp (n := (cv h 200 11 0).toNat) (by omega) _ 0 h z g w (by omega) (by omega) hq
set_option maxHeartbeats 4000000 in
theorem l_178 (hc : CT X ns nb ln) {n : Nat} (hn : n ≤ 20) : ∀ (m i : Nat) (h : xH), Ok X h → GEO0 (vm h) → RGv (vm h) → DIS (vm h) → vm h 11 0 = n → i + m = n → (∀ h2, Fm X h h2 → vm h2 = loS m i (vm h) → Q none h2) → Ev X 178 2 [some (vr 70), some (vi i)] [] h Q := by
  intro m
  induction m with
  | zero =>
    intro i h ok g w ds hs hm hq
    rw [e_178_2]
    simp (disch := first | assumption | omega) only [e_178_3, e_178_4, e_178_5, e_178_6, e_178_7, e_178_36, onI_s, onR_s, onL_s, gl_0, gl_n, gl_1, gl_2, gl_3, gl_4, gl_5, gl_6, gl_7, gl_8, gl_9, gl_10, gl_11, gl_12, gl_13, gl_14, gl_15, gl_16, gl_17, sk0i, sk0r, sk0n, sk1i, sk1r, sk1n, sk_2, sk_3, sk_4, sk_5, sk_6, sk_7, sk_8, sk_9, sk_10, sk_11, sk_12, sk_13, sk_14, sk_15, sk_16, sk_17, ls_0, ls_1, ls_2, ls_3, ls_4, ls_5, ls_6, ls_7, ls_8, ls_9, ls_10, ls_11, ls_12, ls_13, ls_14, ls_15, ls_16, ls_17, ct1_i, ct1_r, wd8_0, wd8_i1, wd8_r1, wd8_i2, wd8_r2, wd8_i3, wd8_r3, wd8_i4, wd8_r4, wd8_i5, wd8_r5, wd8_i6, wd8_r6, wd8_i7, wd8_r7, wd8_i8, wd8_r8, wd8_l2, wd8_l3, wd8_l4, wd8_l5, wd8_l6, wd8_l7, wd8_l8, tl_s, tl_n, inR_t, bd_t, true_and, and_true, true_or, or_true, if_true_x, if_false_x, if_pos, if_neg, Int.toNat_natCast, natL, bI_0, bI_1, bI_ft, eq_self, b_tf, b_ft, not_true_eq_false, not_false_eq_true, hs, tn_2, vm_nC, hc.t70, hc.r70_4, hc.r70_5, hc.r70_6, hc.r70_7, hc.r70_8, hc.r70_10, hc.r70_11, hc.r70_12, hc.r70_14, hc.r70_15, hc.r70_16, hc.r70_17, hc.r70_19, hc.r70_21, hc.r70_23, hc.r70_24, hc.r70_26, hc.r70_27, hc.r70_28, hc.r70_29, hc.r70_30, hc.r70_31, hc.r70_32, hc.r70_33, hc.r70_36, hc.t73, hc.z73]
    exact hq h (Fm.refl ok) rfl
  | succ m ih =>
    intro i h ok g w ds hs hm hq
    have hb : RBm h := ok.2.2.2.1.2.1
    have hi : (i : Int) < vm h 11 0 := by rw [hs]; omega
    have hi2 : i < 20 := by omega
    rw [e_178_2]
    rw [loS] at hq
    cases e1 : lpB (vm h) i
    · rw [if_neg (by rw [e1]; simp)] at hq
      simp (disch := first | assumption | omega) only [e_178_3, e_178_4, e_178_5, e_178_6, e_178_7, e_178_8, e_178_9, e_178_10, e_178_11, e_178_34, e_178_35, onI_s, onR_s, onL_s, gl_0, gl_n, gl_1, gl_2, gl_3, gl_4, gl_5, gl_6, gl_7, gl_8, gl_9, gl_10, gl_11, gl_12, gl_13, gl_14, gl_15, gl_16, gl_17, sk0i, sk0r, sk0n, sk1i, sk1r, sk1n, sk_2, sk_3, sk_4, sk_5, sk_6, sk_7, sk_8, sk_9, sk_10, sk_11, sk_12, sk_13, sk_14, sk_15, sk_16, sk_17, ls_0, ls_1, ls_2, ls_3, ls_4, ls_5, ls_6, ls_7, ls_8, ls_9, ls_10, ls_11, ls_12, ls_13, ls_14, ls_15, ls_16, ls_17, ct1_i, ct1_r, wd8_0, wd8_i1, wd8_r1, wd8_i2, wd8_r2, wd8_i3, wd8_r3, wd8_i4, wd8_r4, wd8_i5, wd8_r5, wd8_i6, wd8_r6, wd8_i7, wd8_r7, wd8_i8, wd8_r8, wd8_l2, wd8_l3, wd8_l4, wd8_l5, wd8_l6, wd8_l7, wd8_l8, tl_s, tl_n, inR_t, bd_t, true_and, and_true, true_or, or_true, if_true_x, if_false_x, if_pos, if_neg, Int.toNat_natCast, natL, bI_0, bI_1, bI_ft, eq_self, b_tf, b_ft, not_true_eq_false, not_false_eq_true, m_164 hc w, e1, hs, tn_2, vm_nC, cast_s, hc.t70, hc.r70_4, hc.r70_5, hc.r70_6, hc.r70_7, hc.r70_8, hc.r70_10, hc.r70_11, hc.r70_12, hc.r70_14, hc.r70_15, hc.r70_16, hc.r70_17, hc.r70_19, hc.r70_21, hc.r70_23, hc.r70_24, hc.r70_26, hc.r70_27, hc.r70_28, hc.r70_29, hc.r70_30, hc.r70_31, hc.r70_32, hc.r70_33, hc.r70_36, hc.t73, hc.z73]
      exact ih (i + 1) h ok g w ds hs (by omega) hq
    · have e9 : vm h 17 i ≠ -1 := by
        unfold lpB at e1
        simp only [Bool.and_eq_true, Bool.not_eq_true', decide_eq_false_iff_not] at e1
        exact e1.2
      have lo := lw_own g w ds hi e9
      cases e2 : gfB (vm h) i (vm h 17 i) (vm h 18 i)
      · rw [if_pos ⟨e1, e2⟩] at hq
        rw [← lo] at e2
        simp (disch := first | assumption | omega) only [e_178_3, e_178_4, e_178_5, e_178_6, e_178_7, e_178_8, e_178_9, e_178_10, e_178_11, e_178_12, e_178_13, e_178_14, e_178_15, e_178_16, e_178_17, e_178_18, e_178_19, e_178_20, e_178_21, e_178_22, e_178_23, e_178_24, e_178_25, e_178_26, e_178_27, e_178_28, e_178_29, e_178_30, e_178_31, e_178_32, e_178_33, e_178_34, e_178_35, onI_s, onR_s, onL_s, gl_0, gl_n, gl_1, gl_2, gl_3, gl_4, gl_5, gl_6, gl_7, gl_8, gl_9, gl_10, gl_11, gl_12, gl_13, gl_14, gl_15, gl_16, gl_17, sk0i, sk0r, sk0n, sk1i, sk1r, sk1n, sk_2, sk_3, sk_4, sk_5, sk_6, sk_7, sk_8, sk_9, sk_10, sk_11, sk_12, sk_13, sk_14, sk_15, sk_16, sk_17, ls_0, ls_1, ls_2, ls_3, ls_4, ls_5, ls_6, ls_7, ls_8, ls_9, ls_10, ls_11, ls_12, ls_13, ls_14, ls_15, ls_16, ls_17, ct1_i, ct1_r, wd8_0, wd8_i1, wd8_r1, wd8_i2, wd8_r2, wd8_i3, wd8_r3, wd8_i4, wd8_r4, wd8_i5, wd8_r5, wd8_i6, wd8_r6, wd8_i7, wd8_r7, wd8_i8, wd8_r8, wd8_l2, wd8_l3, wd8_l4, wd8_l5, wd8_l6, wd8_l7, wd8_l8, tl_s, tl_n, inR_t, bd_t, true_and, and_true, true_or, or_true, if_true_x, if_false_x, if_pos, if_neg, Int.toNat_natCast, natL, bI_0, bI_1, bI_ft, eq_self, b_tf, b_ft, not_true_eq_false, not_false_eq_true, m_164 hc w, m_158, m_165 hc, m_176 hc w hb, vm_17, vm_18, e1, e2, hs, tn_2, vm_nC, cast_s, hc.t70, hc.r70_4, hc.r70_5, hc.r70_6, hc.r70_7, hc.r70_8, hc.r70_10, hc.r70_11, hc.r70_12, hc.r70_14, hc.r70_15, hc.r70_16, hc.r70_17, hc.r70_19, hc.r70_21, hc.r70_23, hc.r70_24, hc.r70_26, hc.r70_27, hc.r70_28, hc.r70_29, hc.r70_30, hc.r70_31, hc.r70_32, hc.r70_33, hc.r70_36, hc.t73, hc.z73]
        have f := Fm.I73 (X := X) (h := h) (x := -1) (j := (36 + 7 * (i : Int) + 6).toNat) (Fm.I73 (x := -1) (j := (36 + 7 * (i : Int) + 5).toNat) (I := h.1) (F := h.2) (Fm.refl ok) (by omega) (by rw [hc.z73]; omega)) (by omega) (by rw [hc.z73]; omega)
        have e : vm (up2 (up2 h.1 73 (36 + 7 * (i : Int) + 5).toNat (-1)) 73 (36 + 7 * (i : Int) + 6).toNat (-1), h.2) = lsV (vm h) i := by
          rw [vm_uc (j := 18) (c := i) (by omega) (by omega) (by omega), vm_uc (j := 17) (c := i) (by omega) (by omega) (by omega)]
          rfl
        refine ih (i + 1) _ (f.ok ok) ?_ ?_ ?_ ?_ (by omega) (fun h2 a b => hq h2 (f.tr a) ?_)
        · rw [e]; exact g.cg (fun j h1 h2 => lsV_e h1 h2)
        · rw [e]; exact lsV_rg w i
        · rw [e]; exact lsV_dis ds i
        · rw [e, lsV_e (by omega) (by omega)]; exact hs
        · rw [b, e]
      · rw [if_neg (by rw [e2]; simp)] at hq
        rw [← lo] at e2
        simp (disch := first | assumption | omega) only [e_178_3, e_178_4, e_178_5, e_178_6, e_178_7, e_178_8, e_178_9, e_178_10, e_178_11, e_178_12, e_178_13, e_178_14, e_178_15, e_178_16, e_178_17, e_178_18, e_178_19, e_178_20, e_178_21, e_178_22, e_178_23, e_178_24, e_178_25, e_178_26, e_178_27, e_178_28, e_178_29, e_178_30, e_178_34, e_178_35, onI_s, onR_s, onL_s, gl_0, gl_n, gl_1, gl_2, gl_3, gl_4, gl_5, gl_6, gl_7, gl_8, gl_9, gl_10, gl_11, gl_12, gl_13, gl_14, gl_15, gl_16, gl_17, sk0i, sk0r, sk0n, sk1i, sk1r, sk1n, sk_2, sk_3, sk_4, sk_5, sk_6, sk_7, sk_8, sk_9, sk_10, sk_11, sk_12, sk_13, sk_14, sk_15, sk_16, sk_17, ls_0, ls_1, ls_2, ls_3, ls_4, ls_5, ls_6, ls_7, ls_8, ls_9, ls_10, ls_11, ls_12, ls_13, ls_14, ls_15, ls_16, ls_17, ct1_i, ct1_r, wd8_0, wd8_i1, wd8_r1, wd8_i2, wd8_r2, wd8_i3, wd8_r3, wd8_i4, wd8_r4, wd8_i5, wd8_r5, wd8_i6, wd8_r6, wd8_i7, wd8_r7, wd8_i8, wd8_r8, wd8_l2, wd8_l3, wd8_l4, wd8_l5, wd8_l6, wd8_l7, wd8_l8, tl_s, tl_n, inR_t, bd_t, true_and, and_true, true_or, or_true, if_true_x, if_false_x, if_pos, if_neg, Int.toNat_natCast, natL, bI_0, bI_1, bI_ft, eq_self, b_tf, b_ft, not_true_eq_false, not_false_eq_true, m_164 hc w, m_158, m_176 hc w hb, vm_17, vm_18, e1, e2, hs, tn_2, vm_nC, cast_s, hc.t70, hc.r70_4, hc.r70_5, hc.r70_6, hc.r70_7, hc.r70_8, hc.r70_10, hc.r70_11, hc.r70_12, hc.r70_14, hc.r70_15, hc.r70_16, hc.r70_17, hc.r70_19, hc.r70_21, hc.r70_23, hc.r70_24, hc.r70_26, hc.r70_27, hc.r70_28, hc.r70_29, hc.r70_30, hc.r70_31, hc.r70_32, hc.r70_33, hc.r70_36, hc.t73, hc.z73]
        exact ih (i + 1) h ok g w ds hs (by omega) hq
theorem m_178 {h : xH} (hc : CT X ns nb ln) (ok : Ok X h) (g : GEO0 (vm h)) (w : RGv (vm h)) (ds : DIS (vm h)) (hq : ∀ h2, Fm X h h2 → vm h2 = loS (vm h 11 0).toNat 0 (vm h) → Q none h2) : Cl X 178 [vr 70] h Q := by
  have nC := w.nC
  rw [c_178]
  simp (disch := first | assumption | omega) only [e_178_0, e_178_1, onI_s, onR_s, onL_s, gl_0, gl_n, gl_1, gl_2, gl_3, gl_4, gl_5, gl_6, gl_7, gl_8, gl_9, gl_10, gl_11, gl_12, gl_13, gl_14, gl_15, gl_16, gl_17, sk0i, sk0r, sk0n, sk1i, sk1r, sk1n, sk_2, sk_3, sk_4, sk_5, sk_6, sk_7, sk_8, sk_9, sk_10, sk_11, sk_12, sk_13, sk_14, sk_15, sk_16, sk_17, ls_0, ls_1, ls_2, ls_3, ls_4, ls_5, ls_6, ls_7, ls_8, ls_9, ls_10, ls_11, ls_12, ls_13, ls_14, ls_15, ls_16, ls_17, ct1_i, ct1_r, wd8_0, wd8_i1, wd8_r1, wd8_i2, wd8_r2, wd8_i3, wd8_r3, wd8_i4, wd8_r4, wd8_i5, wd8_r5, wd8_i6, wd8_r6, wd8_i7, wd8_r7, wd8_i8, wd8_r8, wd8_l2, wd8_l3, wd8_l4, wd8_l5, wd8_l6, wd8_l7, wd8_l8, tl_s, tl_n, inR_t, bd_t, true_and, and_true, true_or, or_true, if_true_x, if_false_x, if_pos, if_neg, Int.toNat_natCast, natL, bI_0, bI_1, bI_ft, eq_self, b_tf, b_ft, not_true_eq_false, not_false_eq_true]
  exact l_178 hc (n := (vm h 11 0).toNat) (by omega) _ 0 h ok g w ds (by omega) (by omega) hq
end LOL
