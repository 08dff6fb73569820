section STC
variable {X : xL} {Q : Option xV → xH → Prop} {ns nb ln : Nat} {h : xH}
set_option maxHeartbeats 4000000 in
theorem m_282 {x y : Int} (hx : -2000000000 ≤ x) (hx2 : x ≤ 2000000000) (hy : 0 < y) (hy2 : y ≤ 100000) : Cl X 282 [vi x, vi y] h Q ↔ Q (some (vi (x / y))) h := by
  have xs := xor_sg (x := x) (y := y) (by omega) (by omega) (by omega)
  rw [c_282]
  by_cases e : 0 ≤ x
  · have td : x.tdiv y = x / y := td_n e
    have x1 := xs.mpr e
    simp (disch := first | assumption | omega) only [e_282_0, e_282_1, e_282_2, e_282_3, e_282_4, e_282_5, e_282_6, e_282_7, e_282_17, e_282_18, onI_s, onR_s, onL_s, gl_0, gl_n, gl_1, gl_2, gl_3, gl_4, gl_5, gl_6, gl_7, gl_8, gl_9, gl_10, gl_11, gl_12, gl_13, gl_14, gl_15, gl_16, gl_17, sk0i, sk0r, sk0n, sk1i, sk1r, sk1n, sk_2, sk_3, sk_4, sk_5, sk_6, sk_7, sk_8, sk_9, sk_10, sk_11, sk_12, sk_13, sk_14, sk_15, sk_16, sk_17, ls_0, ls_1, ls_2, ls_3, ls_4, ls_5, ls_6, ls_7, ls_8, ls_9, ls_10, ls_11, ls_12, ls_13, ls_14, ls_15, ls_16, ls_17, ct1_i, ct1_r, wd8_0, wd8_i1, wd8_r1, wd8_i2, wd8_r2, wd8_i3, wd8_r3, wd8_i4, wd8_r4, wd8_i5, wd8_r5, wd8_i6, wd8_r6, wd8_i7, wd8_r7, wd8_i8, wd8_r8, wd8_l2, wd8_l3, wd8_l4, wd8_l5, wd8_l6, wd8_l7, wd8_l8, tl_s, tl_n, inR_t, bd_t, true_and, and_true, true_or, or_true, if_true_x, if_false_x, if_pos, if_neg, Int.toNat_natCast, natL, bI_0, bI_1, bI_ft, eq_self, b_tf, b_ft, not_true_eq_false, not_false_eq_true, dv_t, dvR, dvE, nzp, td]
  · obtain ⟨f, r, ⟨f0, r0, r1, hxx⟩, td, _, ed⟩ := ed_neg (x := x) (y := y) (by omega) hy
    have x1 : ¬ 0 ≤ (Int32.ofInt x ^^^ Int32.ofInt y).toInt := fun q => e (xs.mp q)
    have fb : f ≤ 2000000000 := by
      have : 1 * f ≤ y * f := Int.mul_le_mul_of_nonneg_right (by omega) f0
      omega
    have fy : -f * y = -(y * f) := by rw [Int.neg_mul, Int.mul_comm]
    rw [ed]
    by_cases q : r = 0
    · have e2 : -(y * f) = x := by omega
      rw [if_pos q]
      simp (disch := first | assumption | omega) only [e_282_0, e_282_1, e_282_2, e_282_3, e_282_4, e_282_5, e_282_6, e_282_7, e_282_8, e_282_9, e_282_10, e_282_11, e_282_12, e_282_17, e_282_18, onI_s, onR_s, onL_s, gl_0, gl_n, gl_1, gl_2, gl_3, gl_4, gl_5, gl_6, gl_7, gl_8, gl_9, gl_10, gl_11, gl_12, gl_13, gl_14, gl_15, gl_16, gl_17, sk0i, sk0r, sk0n, sk1i, sk1r, sk1n, sk_2, sk_3, sk_4, sk_5, sk_6, sk_7, sk_8, sk_9, sk_10, sk_11, sk_12, sk_13, sk_14, sk_15, sk_16, sk_17, ls_0, ls_1, ls_2, ls_3, ls_4, ls_5, ls_6, ls_7, ls_8, ls_9, ls_10, ls_11, ls_12, ls_13, ls_14, ls_15, ls_16, ls_17, ct1_i, ct1_r, wd8_0, wd8_i1, wd8_r1, wd8_i2, wd8_r2, wd8_i3, wd8_r3, wd8_i4, wd8_r4, wd8_i5, wd8_r5, wd8_i6, wd8_r6, wd8_i7, wd8_r7, wd8_i8, wd8_r8, wd8_l2, wd8_l3, wd8_l4, wd8_l5, wd8_l6, wd8_l7, wd8_l8, tl_s, tl_n, inR_t, bd_t, true_and, and_true, true_or, or_true, if_true_x, if_false_x, if_pos, if_neg, Int.toNat_natCast, natL, bI_0, bI_1, bI_ft, eq_self, b_tf, b_ft, not_true_eq_false, not_false_eq_true, td, nzp, fy, e2]
    · have e2 : ¬ -(y * f) = x := by omega
      rw [if_neg q]
      simp (disch := first | assumption | omega) only [e_282_0, e_282_1, e_282_2, e_282_3, e_282_4, e_282_5, e_282_6, e_282_7, e_282_8, e_282_9, e_282_10, e_282_11, e_282_12, e_282_13, e_282_14, e_282_15, e_282_16, onI_s, onR_s, onL_s, gl_0, gl_n, gl_1, gl_2, gl_3, gl_4, gl_5, gl_6, gl_7, gl_8, gl_9, gl_10, gl_11, gl_12, gl_13, gl_14, gl_15, gl_16, gl_17, sk0i, sk0r, sk0n, sk1i, sk1r, sk1n, sk_2, sk_3, sk_4, sk_5, sk_6, sk_7, sk_8, sk_9, sk_10, sk_11, sk_12, sk_13, sk_14, sk_15, sk_16, sk_17, ls_0, ls_1, ls_2, ls_3, ls_4, ls_5, ls_6, ls_7, ls_8, ls_9, ls_10, ls_11, ls_12, ls_13, ls_14, ls_15, ls_16, ls_17, ct1_i, ct1_r, wd8_0, wd8_i1, wd8_r1, wd8_i2, wd8_r2, wd8_i3, wd8_r3, wd8_i4, wd8_r4, wd8_i5, wd8_r5, wd8_i6, wd8_r6, wd8_i7, wd8_r7, wd8_i8, wd8_r8, wd8_l2, wd8_l3, wd8_l4, wd8_l5, wd8_l6, wd8_l7, wd8_l8, tl_s, tl_n, inR_t, bd_t, true_and, and_true, true_or, or_true, if_true_x, if_false_x, if_pos, if_neg, Int.toNat_natCast, natL, bI_0, bI_1, bI_ft, eq_self, b_tf, b_ft, not_true_eq_false, not_false_eq_true, td, nzp, fy, e2]
      rw [show -(f + 1) = -f - 1 by omega]
set_option maxHeartbeats 8000000 in
theorem l_1i (hp : PL X 200) (hc : CT X ns nb ln) {c n p P : Nat} (g : WG (cv h 200)) (hn : (n : Int) < cv h 200 19 0) (hpp : cv h 200 21 n = P) (hpP : p < P) (hcc : c < 20) : ∀ (m k : Nat) (q : Int × Int × Int) (x12 x13 : Option xV), k + m = P → qB q (n * 6 + k) → (∀ x12 x13, Ev X 1 99 [some (vr 26), some (vr 200), some (vi c), some (vr (200 + 19)), some (vr (200 + 11)), some (vi (stI (cv h 200) n p m k q).1), some (vi (stI (cv h 200) n p m k q).2.1), some (vi (stI (cv h 200) n p m k q).2.2), some (vi n), some (vi p), some (vi ((n : Int) * 6)), some (vi P), x12, x13] [] h Q) → Ev X 1 29 [some (vr 26), some (vr 200), some (vi c), some (vr (200 + 19)), some (vr (200 + 11)), some (vi q.1), some (vi q.2.1), some (vi q.2.2), some (vi n), some (vi p), some (vi ((n : Int) * 6)), some (vi k), x12, x13] [] h Q := by
  have nN := g.1.nN
  have p6 := g.1.pin n
  have hpp2 : h.1 (200 + 21) n = P := hpp
  have pn : ¬ (p : Int) = -1 := by omega
  intro m
  induction m with
  | zero =>
    intro k q x12 x13 hm hb hq
    rw [e_1_29]
    simp (disch := first | assumption | omega) only [e_1_30, e_1_31, e_1_32, e_1_33, e_1_34, e_1_35, e_1_36, e_1_37, onI_s, onR_s, onL_s, gl_0, gl_n, gl_1, gl_2, gl_3, gl_4, gl_5, gl_6, gl_7, gl_8, gl_9, gl_10, gl_11, gl_12, gl_13, gl_14, gl_15, gl_16, gl_17, sk0i, sk0r, sk0n, sk1i, sk1r, sk1n, sk_2, sk_3, sk_4, sk_5, sk_6, sk_7, sk_8, sk_9, sk_10, sk_11, sk_12, sk_13, sk_14, sk_15, sk_16, sk_17, ls_0, ls_1, ls_2, ls_3, ls_4, ls_5, ls_6, ls_7, ls_8, ls_9, ls_10, ls_11, ls_12, ls_13, ls_14, ls_15, ls_16, ls_17, ct1_i, ct1_r, wd8_0, wd8_i1, wd8_r1, wd8_i2, wd8_r2, wd8_i3, wd8_r3, wd8_i4, wd8_r4, wd8_i5, wd8_r5, wd8_i6, wd8_r6, wd8_i7, wd8_r7, wd8_i8, wd8_r8, wd8_l2, wd8_l3, wd8_l4, wd8_l5, wd8_l6, wd8_l7, wd8_l8, tl_s, tl_n, inR_t, bd_t, true_and, and_true, true_or, or_true, if_true_x, if_false_x, if_pos, if_neg, Int.toNat_natCast, natL, bI_0, bI_1, bI_ft, eq_self, b_tf, b_ft, not_true_eq_false, not_false_eq_true, hpp2, hp.t0, hp.t1, hp.t2, hp.t3, hp.t4, hp.t5, hp.t6, hp.t7, hp.t8, hp.t9, hp.t10, hp.t11, hp.t12, hp.t13, hp.t14, hp.t15, hp.t16, hp.t17, hp.t18, hp.t19, hp.t20, hp.t21, hp.t22, hp.t23, hp.z2, hp.z3, hp.z4, hp.z5, hp.z7, hp.z8, hp.z9, hp.z10, hp.z12, hp.z13, hp.z14, hp.z15, hp.z16, hp.z17, hp.z18, hp.z20, hp.z21, hp.z22, hp.z23, hp.r0_2, hp.r0_3, hp.r0_4, hp.r0_5, hp.r1_1, hp.r1_2, hp.r1_3, hp.r1_4, hp.r6_1, hp.r6_2, hp.r6_3, hp.r6_4, hp.r11_1, hp.r11_2, hp.r11_3, hp.r11_4, hp.r11_5, hp.r11_6, hp.r11_7, hp.r19_1, hp.r19_2, hp.r19_3, hp.r19_4]
    rw [show k = P by omega]
    exact hq _ _
  | succ m ih =>
    intro k q x12 x13 hm hb hq
    rw [stI] at hq
    rw [e_1_29]
    by_cases e : k = p
    · have e' : (k : Int) = p := by omega
      rw [if_pos e] at hq
      simp (disch := first | assumption | omega) only [e_1_30, e_1_31, e_1_32, e_1_33, e_1_34, e_1_35, e_1_36, e_1_37, e_1_38, e_1_39, e_1_40, e_1_97, e_1_98, onI_s, onR_s, onL_s, gl_0, gl_n, gl_1, gl_2, gl_3, gl_4, gl_5, gl_6, gl_7, gl_8, gl_9, gl_10, gl_11, gl_12, gl_13, gl_14, gl_15, gl_16, gl_17, sk0i, sk0r, sk0n, sk1i, sk1r, sk1n, sk_2, sk_3, sk_4, sk_5, sk_6, sk_7, sk_8, sk_9, sk_10, sk_11, sk_12, sk_13, sk_14, sk_15, sk_16, sk_17, ls_0, ls_1, ls_2, ls_3, ls_4, ls_5, ls_6, ls_7, ls_8, ls_9, ls_10, ls_11, ls_12, ls_13, ls_14, ls_15, ls_16, ls_17, ct1_i, ct1_r, wd8_0, wd8_i1, wd8_r1, wd8_i2, wd8_r2, wd8_i3, wd8_r3, wd8_i4, wd8_r4, wd8_i5, wd8_r5, wd8_i6, wd8_r6, wd8_i7, wd8_r7, wd8_i8, wd8_r8, wd8_l2, wd8_l3, wd8_l4, wd8_l5, wd8_l6, wd8_l7, wd8_l8, tl_s, tl_n, inR_t, bd_t, true_and, and_true, true_or, or_true, if_true_x, if_false_x, if_pos, if_neg, Int.toNat_natCast, natL, bI_0, bI_1, bI_ft, eq_self, b_tf, b_ft, not_true_eq_false, not_false_eq_true, hpp2, cast_s, hp.t0, hp.t1, hp.t2, hp.t3, hp.t4, hp.t5, hp.t6, hp.t7, hp.t8, hp.t9, hp.t10, hp.t11, hp.t12, hp.t13, hp.t14, hp.t15, hp.t16, hp.t17, hp.t18, hp.t19, hp.t20, hp.t21, hp.t22, hp.t23, hp.z2, hp.z3, hp.z4, hp.z5, hp.z7, hp.z8, hp.z9, hp.z10, hp.z12, hp.z13, hp.z14, hp.z15, hp.z16, hp.z17, hp.z18, hp.z20, hp.z21, hp.z22, hp.z23, hp.r0_2, hp.r0_3, hp.r0_4, hp.r0_5, hp.r1_1, hp.r1_2, hp.r1_3, hp.r1_4, hp.r6_1, hp.r6_2, hp.r6_3, hp.r6_4, hp.r11_1, hp.r11_2, hp.r11_3, hp.r11_4, hp.r11_5, hp.r11_6, hp.r11_7, hp.r19_1, hp.r19_2, hp.r19_3, hp.r19_4]
      exact ih (k + 1) q _ _ (by omega) (qB_m hb (by omega)) hq
    · have e' : ¬ (k : Int) = p := by omega
      rw [if_neg e] at hq
      have st := stI_1 (n := n) (p := p) g.1 (k := k) hb
      have w1 := g.1.hed (n * 6 + k)
      have w2 := g.1.tai (n * 6 + k)
      have w3 := g.1.tai (n * 6 + p)
      have wg := g.1.wgt n
      have w5 := g.2.1 n k hn (by omega)
      have w6 := g.1.nC
      have a := pwX_bd g.1 n k
      have b := pwY_bd g.1 n k
      have h22 : h.1 (200 + 22) (n * 6 + k) = cv h 200 22 (n * 6 + k) := rfl
      have h23 : h.1 (200 + 23) (n * 6 + k) = cv h 200 23 (n * 6 + k) := rfl
      have h23p : h.1 (200 + 23) (n * 6 + p) = cv h 200 23 (n * 6 + p) := rfl
      have h20 : h.1 (200 + 20) n = cv h 200 20 n := rfl
      have m99 : ∀ {Q2 : Option xV → xH → Prop}, Cl X 99 [vr (200 + 11), vi (cv h 200 22 (n * 6 + k)), vi (cv h 200 23 (n * 6 + k))] h Q2 ↔ Q2 (some (vi (pwX (cv h 200) n k))) h := by
        intro Q2
        rw [m_99 hp g.1 w1.1 (by omega) w2.1 w2.2, pw_X]
      have m99p : ∀ {Q2 : Option xV → xH → Prop}, Cl X 99 [vr (200 + 11), vi 200, vi (cv h 200 23 (n * 6 + p))] h Q2 ↔ Q2 (some (vi (16 * cv h 200 23 (n * 6 + p) + 8))) h := by
        intro Q2
        rw [m_99 hp g.1 (by omega) (by omega) w3.1 w3.2, if_pos (by omega), Int.zero_add]
      have m100 : ∀ {Q2 : Option xV → xH → Prop}, Cl X 100 [vr (200 + 11), vi (cv h 200 22 (n * 6 + k))] h Q2 ↔ Q2 (some (vi (pwY (cv h 200) n k))) h := by
        intro Q2
        rw [m_100 hp g.1 w1.1 (by omega) w1.2, pw_Y]
      obtain ⟨q1, q2, q3⟩ := hb
      simp (disch := first | assumption | omega) only [e_1_30, e_1_31, e_1_32, e_1_33, e_1_34, e_1_35, e_1_36, e_1_37, e_1_38, e_1_39, e_1_40, e_1_41, e_1_42, e_1_43, e_1_44, e_1_45, e_1_46, e_1_47, e_1_48, e_1_49, e_1_50, e_1_51, e_1_52, e_1_53, e_1_54, e_1_55, e_1_56, e_1_57, e_1_58, e_1_59, e_1_60, e_1_61, e_1_62, e_1_63, e_1_64, e_1_65, e_1_66, e_1_67, e_1_68, e_1_69, e_1_70, e_1_71, e_1_72, e_1_73, e_1_74, e_1_75, e_1_76, e_1_77, e_1_78, e_1_79, e_1_80, e_1_81, e_1_82, e_1_83, e_1_84, e_1_85, e_1_86, e_1_87, e_1_88, e_1_89, e_1_90, e_1_91, e_1_92, e_1_93, e_1_94, e_1_95, e_1_96, e_1_97, e_1_98, onI_s, onR_s, onL_s, gl_0, gl_n, gl_1, gl_2, gl_3, gl_4, gl_5, gl_6, gl_7, gl_8, gl_9, gl_10, gl_11, gl_12, gl_13, gl_14, gl_15, gl_16, gl_17, sk0i, sk0r, sk0n, sk1i, sk1r, sk1n, sk_2, sk_3, sk_4, sk_5, sk_6, sk_7, sk_8, sk_9, sk_10, sk_11, sk_12, sk_13, sk_14, sk_15, sk_16, sk_17, ls_0, ls_1, ls_2, ls_3, ls_4, ls_5, ls_6, ls_7, ls_8, ls_9, ls_10, ls_11, ls_12, ls_13, ls_14, ls_15, ls_16, ls_17, ct1_i, ct1_r, wd8_0, wd8_i1, wd8_r1, wd8_i2, wd8_r2, wd8_i3, wd8_r3, wd8_i4, wd8_r4, wd8_i5, wd8_r5, wd8_i6, wd8_r6, wd8_i7, wd8_r7, wd8_i8, wd8_r8, wd8_l2, wd8_l3, wd8_l4, wd8_l5, wd8_l6, wd8_l7, wd8_l8, tl_s, tl_n, inR_t, bd_t, true_and, and_true, true_or, or_true, if_true_x, if_false_x, if_pos, if_neg, Int.toNat_natCast, natL, bI_0, bI_1, bI_ft, eq_self, b_tf, b_ft, not_true_eq_false, not_false_eq_true, hpp2, ix6, h22, h23, h23p, h20, m99, m99p, m100, cast_s, hp.t0, hp.t1, hp.t2, hp.t3, hp.t4, hp.t5, hp.t6, hp.t7, hp.t8, hp.t9, hp.t10, hp.t11, hp.t12, hp.t13, hp.t14, hp.t15, hp.t16, hp.t17, hp.t18, hp.t19, hp.t20, hp.t21, hp.t22, hp.t23, hp.z2, hp.z3, hp.z4, hp.z5, hp.z7, hp.z8, hp.z9, hp.z10, hp.z12, hp.z13, hp.z14, hp.z15, hp.z16, hp.z17, hp.z18, hp.z20, hp.z21, hp.z22, hp.z23, hp.r0_2, hp.r0_3, hp.r0_4, hp.r0_5, hp.r1_1, hp.r1_2, hp.r1_3, hp.r1_4, hp.r6_1, hp.r6_2, hp.r6_3, hp.r6_4, hp.r11_1, hp.r11_2, hp.r11_3, hp.r11_4, hp.r11_5, hp.r11_6, hp.r11_7, hp.r19_1, hp.r19_2, hp.r19_3, hp.r19_4]
      exact ih (k + 1) (_, _, _) _ _ (by omega) (qB_m st.2.2 (by omega)) hq
set_option maxHeartbeats 8000000 in
theorem l_1 (hp : PL X 200) (hc : CT X ns nb ln) {c N : Nat} (g : WG (cv h 200)) (hN : cv h 200 19 0 = N) (hcc : c < 20) : ∀ (m n : Nat) (q : Int × Int × Int) (x9 x10 x11 x12 x13 : Option xV), n + m = N → qB q (n * 6) → (∀ x9 x10 x11 x12 x13, qB (stO (cv h 200) c m n q) (N * 6) → Ev X 1 101 [some (vr 26), some (vr 200), some (vi c), some (vr (200 + 19)), some (vr (200 + 11)), some (vi (stO (cv h 200) c m n q).1), some (vi (stO (cv h 200) c m n q).2.1), some (vi (stO (cv h 200) c m n q).2.2), some (vi N), x9, x10, x11, x12, x13] [] h Q) → Ev X 1 14 [some (vr 26), some (vr 200), some (vi c), some (vr (200 + 19)), some (vr (200 + 11)), some (vi q.1), some (vi q.2.1), some (vi q.2.2), some (vi n), x9, x10, x11, x12, x13] [] h Q := by
  have nN := g.1.nN
  have hs : h.2 (200 + 19) 0 = N := hN
  intro m
  induction m with
  | zero =>
    intro n q x9 x10 x11 x12 x13 hm hb hq
    rw [e_1_14]
    simp (disch := first | assumption | omega) only [e_1_15, e_1_16, e_1_17, onI_s, onR_s, onL_s, gl_0, gl_n, gl_1, gl_2, gl_3, gl_4, gl_5, gl_6, gl_7, gl_8, gl_9, gl_10, gl_11, gl_12, gl_13, gl_14, gl_15, gl_16, gl_17, sk0i, sk0r, sk0n, sk1i, sk1r, sk1n, sk_2, sk_3, sk_4, sk_5, sk_6, sk_7, sk_8, sk_9, sk_10, sk_11, sk_12, sk_13, sk_14, sk_15, sk_16, sk_17, ls_0, ls_1, ls_2, ls_3, ls_4, ls_5, ls_6, ls_7, ls_8, ls_9, ls_10, ls_11, ls_12, ls_13, ls_14, ls_15, ls_16, ls_17, ct1_i, ct1_r, wd8_0, wd8_i1, wd8_r1, wd8_i2, wd8_r2, wd8_i3, wd8_r3, wd8_i4, wd8_r4, wd8_i5, wd8_r5, wd8_i6, wd8_r6, wd8_i7, wd8_r7, wd8_i8, wd8_r8, wd8_l2, wd8_l3, wd8_l4, wd8_l5, wd8_l6, wd8_l7, wd8_l8, tl_s, tl_n, inR_t, bd_t, true_and, and_true, true_or, or_true, if_true_x, if_false_x, if_pos, if_neg, Int.toNat_natCast, natL, bI_0, bI_1, bI_ft, eq_self, b_tf, b_ft, not_true_eq_false, not_false_eq_true, hs, hp.t0, hp.t1, hp.t2, hp.t3, hp.t4, hp.t5, hp.t6, hp.t7, hp.t8, hp.t9, hp.t10, hp.t11, hp.t12, hp.t13, hp.t14, hp.t15, hp.t16, hp.t17, hp.t18, hp.t19, hp.t20, hp.t21, hp.t22, hp.t23, hp.z2, hp.z3, hp.z4, hp.z5, hp.z7, hp.z8, hp.z9, hp.z10, hp.z12, hp.z13, hp.z14, hp.z15, hp.z16, hp.z17, hp.z18, hp.z20, hp.z21, hp.z22, hp.z23, hp.r0_2, hp.r0_3, hp.r0_4, hp.r0_5, hp.r1_1, hp.r1_2, hp.r1_3, hp.r1_4, hp.r6_1, hp.r6_2, hp.r6_3, hp.r6_4, hp.r11_1, hp.r11_2, hp.r11_3, hp.r11_4, hp.r11_5, hp.r11_6, hp.r11_7, hp.r19_1, hp.r19_2, hp.r19_3, hp.r19_4]
    rw [show n = N by omega] at hb ⊢
    exact hq _ _ _ _ _ hb
  | succ m ih =>
    intro n q x9 x10 x11 x12 x13 hm hb hq
    have n16 : n < 16 := by omega
    rw [stO] at hq
    rw [e_1_14]
    rcases pnO_rg (v := cv h 200) (c := c) n with e | ⟨p, hp6, e, hh⟩
    · rw [if_pos e] at hq
      simp (disch := first | assumption | omega) only [e_1_15, e_1_16, e_1_17, e_1_18, e_1_19, e_1_20, e_1_21, e_1_22, e_1_23, e_1_24, e_1_25, e_1_26, e_1_27, e_1_28, onI_s, onR_s, onL_s, gl_0, gl_n, gl_1, gl_2, gl_3, gl_4, gl_5, gl_6, gl_7, gl_8, gl_9, gl_10, gl_11, gl_12, gl_13, gl_14, gl_15, gl_16, gl_17, sk0i, sk0r, sk0n, sk1i, sk1r, sk1n, sk_2, sk_3, sk_4, sk_5, sk_6, sk_7, sk_8, sk_9, sk_10, sk_11, sk_12, sk_13, sk_14, sk_15, sk_16, sk_17, ls_0, ls_1, ls_2, ls_3, ls_4, ls_5, ls_6, ls_7, ls_8, ls_9, ls_10, ls_11, ls_12, ls_13, ls_14, ls_15, ls_16, ls_17, ct1_i, ct1_r, wd8_0, wd8_i1, wd8_r1, wd8_i2, wd8_r2, wd8_i3, wd8_r3, wd8_i4, wd8_r4, wd8_i5, wd8_r5, wd8_i6, wd8_r6, wd8_i7, wd8_r7, wd8_i8, wd8_r8, wd8_l2, wd8_l3, wd8_l4, wd8_l5, wd8_l6, wd8_l7, wd8_l8, tl_s, tl_n, inR_t, bd_t, true_and, and_true, true_or, or_true, if_true_x, if_false_x, if_pos, if_neg, Int.toNat_natCast, natL, bI_0, bI_1, bI_ft, eq_self, b_tf, b_ft, not_true_eq_false, not_false_eq_true, hs, m_45 hp g.1, e, hp.t0, hp.t1, hp.t2, hp.t3, hp.t4, hp.t5, hp.t6, hp.t7, hp.t8, hp.t9, hp.t10, hp.t11, hp.t12, hp.t13, hp.t14, hp.t15, hp.t16, hp.t17, hp.t18, hp.t19, hp.t20, hp.t21, hp.t22, hp.t23, hp.z2, hp.z3, hp.z4, hp.z5, hp.z7, hp.z8, hp.z9, hp.z10, hp.z12, hp.z13, hp.z14, hp.z15, hp.z16, hp.z17, hp.z18, hp.z20, hp.z21, hp.z22, hp.z23, hp.r0_2, hp.r0_3, hp.r0_4, hp.r0_5, hp.r1_1, hp.r1_2, hp.r1_3, hp.r1_4, hp.r6_1, hp.r6_2, hp.r6_3, hp.r6_4, hp.r11_1, hp.r11_2, hp.r11_3, hp.r11_4, hp.r11_5, hp.r11_6, hp.r11_7, hp.r19_1, hp.r19_2, hp.r19_3, hp.r19_4]
      rw [e_1_29]
      simp (disch := first | assumption | omega) only [e_1_30, e_1_31, e_1_99, e_1_100, onI_s, onR_s, onL_s, gl_0, gl_n, gl_1, gl_2, gl_3, gl_4, gl_5, gl_6, gl_7, gl_8, gl_9, gl_10, gl_11, gl_12, gl_13, gl_14, gl_15, gl_16, gl_17, sk0i, sk0r, sk0n, sk1i, sk1r, sk1n, sk_2, sk_3, sk_4, sk_5, sk_6, sk_7, sk_8, sk_9, sk_10, sk_11, sk_12, sk_13, sk_14, sk_15, sk_16, sk_17, ls_0, ls_1, ls_2, ls_3, ls_4, ls_5, ls_6, ls_7, ls_8, ls_9, ls_10, ls_11, ls_12, ls_13, ls_14, ls_15, ls_16, ls_17, ct1_i, ct1_r, wd8_0, wd8_i1, wd8_r1, wd8_i2, wd8_r2, wd8_i3, wd8_r3, wd8_i4, wd8_r4, wd8_i5, wd8_r5, wd8_i6, wd8_r6, wd8_i7, wd8_r7, wd8_i8, wd8_r8, wd8_l2, wd8_l3, wd8_l4, wd8_l5, wd8_l6, wd8_l7, wd8_l8, tl_s, tl_n, inR_t, bd_t, true_and, and_true, true_or, or_true, if_true_x, if_false_x, if_pos, if_neg, Int.toNat_natCast, natL, bI_0, bI_1, bI_ft, eq_self, b_tf, b_ft, not_true_eq_false, not_false_eq_true, cast_s]
      exact ih (n + 1) q _ _ _ _ _ (by omega) (qB_m hb (by omega)) hq
    · rw [e, if_neg (by omega), Int.toNat_natCast] at hq
      have p6 := g.1.pin n
      simp (disch := first | assumption | omega) only [e_1_15, e_1_16, e_1_17, e_1_18, e_1_19, e_1_20, e_1_21, e_1_22, e_1_23, e_1_24, e_1_25, e_1_26, e_1_27, e_1_28, onI_s, onR_s, onL_s, gl_0, gl_n, gl_1, gl_2, gl_3, gl_4, gl_5, gl_6, gl_7, gl_8, gl_9, gl_10, gl_11, gl_12, gl_13, gl_14, gl_15, gl_16, gl_17, sk0i, sk0r, sk0n, sk1i, sk1r, sk1n, sk_2, sk_3, sk_4, sk_5, sk_6, sk_7, sk_8, sk_9, sk_10, sk_11, sk_12, sk_13, sk_14, sk_15, sk_16, sk_17, ls_0, ls_1, ls_2, ls_3, ls_4, ls_5, ls_6, ls_7, ls_8, ls_9, ls_10, ls_11, ls_12, ls_13, ls_14, ls_15, ls_16, ls_17, ct1_i, ct1_r, wd8_0, wd8_i1, wd8_r1, wd8_i2, wd8_r2, wd8_i3, wd8_r3, wd8_i4, wd8_r4, wd8_i5, wd8_r5, wd8_i6, wd8_r6, wd8_i7, wd8_r7, wd8_i8, wd8_r8, wd8_l2, wd8_l3, wd8_l4, wd8_l5, wd8_l6, wd8_l7, wd8_l8, tl_s, tl_n, inR_t, bd_t, true_and, and_true, true_or, or_true, if_true_x, if_false_x, if_pos, if_neg, Int.toNat_natCast, natL, bI_0, bI_1, bI_ft, eq_self, b_tf, b_ft, not_true_eq_false, not_false_eq_true, hs, m_45 hp g.1, e, hp.t0, hp.t1, hp.t2, hp.t3, hp.t4, hp.t5, hp.t6, hp.t7, hp.t8, hp.t9, hp.t10, hp.t11, hp.t12, hp.t13, hp.t14, hp.t15, hp.t16, hp.t17, hp.t18, hp.t19, hp.t20, hp.t21, hp.t22, hp.t23, hp.z2, hp.z3, hp.z4, hp.z5, hp.z7, hp.z8, hp.z9, hp.z10, hp.z12, hp.z13, hp.z14, hp.z15, hp.z16, hp.z17, hp.z18, hp.z20, hp.z21, hp.z22, hp.z23, hp.r0_2, hp.r0_3, hp.r0_4, hp.r0_5, hp.r1_1, hp.r1_2, hp.r1_3, hp.r1_4, hp.r6_1, hp.r6_2, hp.r6_3, hp.r6_4, hp.r11_1, hp.r11_2, hp.r11_3, hp.r11_4, hp.r11_5, hp.r11_6, hp.r11_7, hp.r19_1, hp.r19_2, hp.r19_3, hp.r19_4]
      refine l_1i hp hc (c := c) (n := n) (p := p) (P := (cv h 200 21 n).toNat) g (by omega) (by omega) (by omega) hcc (cv h 200 21 n).toNat 0 q x12 x13 (by omega) (qB_m hb (by omega)) (fun x12 x13 => ?_)
      rw [e_1_99]
      simp (disch := first | assumption | omega) only [e_1_100, onI_s, onR_s, onL_s, gl_0, gl_n, gl_1, gl_2, gl_3, gl_4, gl_5, gl_6, gl_7, gl_8, gl_9, gl_10, gl_11, gl_12, gl_13, gl_14, gl_15, gl_16, gl_17, sk0i, sk0r, sk0n, sk1i, sk1r, sk1n, sk_2, sk_3, sk_4, sk_5, sk_6, sk_7, sk_8, sk_9, sk_10, sk_11, sk_12, sk_13, sk_14, sk_15, sk_16, sk_17, ls_0, ls_1, ls_2, ls_3, ls_4, ls_5, ls_6, ls_7, ls_8, ls_9, ls_10, ls_11, ls_12, ls_13, ls_14, ls_15, ls_16, ls_17, ct1_i, ct1_r, wd8_0, wd8_i1, wd8_r1, wd8_i2, wd8_r2, wd8_i3, wd8_r3, wd8_i4, wd8_r4, wd8_i5, wd8_r5, wd8_i6, wd8_r6, wd8_i7, wd8_r7, wd8_i8, wd8_r8, wd8_l2, wd8_l3, wd8_l4, wd8_l5, wd8_l6, wd8_l7, wd8_l8, tl_s, tl_n, inR_t, bd_t, true_and, and_true, true_or, or_true, if_true_x, if_false_x, if_pos, if_neg, Int.toNat_natCast, natL, bI_0, bI_1, bI_ft, eq_self, b_tf, b_ft, not_true_eq_false, not_false_eq_true, cast_s]
      refine ih (n + 1) _ _ _ _ _ _ (by omega) ?_ hq
      exact qB_m (stI_b g.1 (cv h 200 21 n).toNat 0 q (n * 6) hb) (by omega)
set_option maxHeartbeats 8000000 in
theorem m_1 (hp : PL X 200) (hc : CT X ns nb ln) (z : NZ X h) {c : Nat} (g : WG (cv h 200)) (hcc : c < 20) (hq : ∀ h2, NZ X h2 → (∀ a, a ≠ 215 → a ≠ 216 → h2.1 a = h.1 a) → h2.2 = h.2 → cv h2 200 = sttC (cv h 200) c → Q none h2) : Cl X 1 [vr 26, vr 200, vi c] h Q := by
  have nN := g.1.nN
  rw [c_1]
  simp (disch := first | assumption | omega) only [e_1_0, e_1_1, e_1_2, e_1_3, e_1_4, e_1_5, e_1_6, e_1_7, e_1_8, e_1_9, e_1_10, e_1_11, e_1_12, e_1_13, onI_s, onR_s, onL_s, gl_0, gl_n, gl_1, gl_2, gl_3, gl_4, gl_5, gl_6, gl_7, gl_8, gl_9, gl_10, gl_11, gl_12, gl_13, gl_14, gl_15, gl_16, gl_17, sk0i, sk0r, sk0n, sk1i, sk1r, sk1n, sk_2, sk_3, sk_4, sk_5, sk_6, sk_7, sk_8, sk_9, sk_10, sk_11, sk_12, sk_13, sk_14, sk_15, sk_16, sk_17, ls_0, ls_1, ls_2, ls_3, ls_4, ls_5, ls_6, ls_7, ls_8, ls_9, ls_10, ls_11, ls_12, ls_13, ls_14, ls_15, ls_16, ls_17, ct1_i, ct1_r, wd8_0, wd8_i1, wd8_r1, wd8_i2, wd8_r2, wd8_i3, wd8_r3, wd8_i4, wd8_r4, wd8_i5, wd8_r5, wd8_i6, wd8_r6, wd8_i7, wd8_r7, wd8_i8, wd8_r8, wd8_l2, wd8_l3, wd8_l4, wd8_l5, wd8_l6, wd8_l7, wd8_l8, tl_s, tl_n, inR_t, bd_t, true_and, and_true, true_or, or_true, if_true_x, if_false_x, if_pos, if_neg, Int.toNat_natCast, natL, bI_0, bI_1, bI_ft, eq_self, b_tf, b_ft, not_true_eq_false, not_false_eq_true, hp.t0, hp.t1, hp.t2, hp.t3, hp.t4, hp.t5, hp.t6, hp.t7, hp.t8, hp.t9, hp.t10, hp.t11, hp.t12, hp.t13, hp.t14, hp.t15, hp.t16, hp.t17, hp.t18, hp.t19, hp.t20, hp.t21, hp.t22, hp.t23, hp.z2, hp.z3, hp.z4, hp.z5, hp.z7, hp.z8, hp.z9, hp.z10, hp.z12, hp.z13, hp.z14, hp.z15, hp.z16, hp.z17, hp.z18, hp.z20, hp.z21, hp.z22, hp.z23, hp.r0_2, hp.r0_3, hp.r0_4, hp.r0_5, hp.r1_1, hp.r1_2, hp.r1_3, hp.r1_4, hp.r6_1, hp.r6_2, hp.r6_3, hp.r6_4, hp.r11_1, hp.r11_2, hp.r11_3, hp.r11_4, hp.r11_5, hp.r11_6, hp.r11_7, hp.r19_1, hp.r19_2, hp.r19_3, hp.r19_4]
  refine l_1 hp hc (c := c) (N := (cv h 200 19 0).toNat) g (by omega) hcc (cv h 200 19 0).toNat 0 (0, 0, 0) none none none none none (by omega) (by unfold qB; dsimp only; omega) (fun x9 x10 x11 x12 x13 qb => ?_)
  rw [show stO (cv h 200) c (cv h 200 19 0).toNat 0 (0, 0, 0) = stQ (cv h 200) c from rfl] at qb ⊢
  obtain ⟨q1, q2, q3⟩ := qb
  unfold sttC at hq
  rw [e_1_101]
  by_cases e : 0 < (stQ (cv h 200) c).1
  · rw [if_pos e] at hq
    have ev : cv (up2 h.1 (200 + 15) c (hdX (cv h 200) c ((stQ (cv h 200) c).2.1 / (stQ (cv h 200) c).1)), h.2) 200 = up2 (cv h 200) 15 c (hdX (cv h 200) c ((stQ (cv h 200) c).2.1 / (stQ (cv h 200) c).1)) := cv_u (by omega) (by omega)
    have hb := hdX_bd (c := c) g.1 ((stQ (cv h 200) c).2.1 / (stQ (cv h 200) c).1)
    have hw2 : RGv (cv (up2 h.1 (200 + 15) c (hdX (cv h 200) c ((stQ (cv h 200) c).2.1 / (stQ (cv h 200) c).1)), h.2) 200) := by rw [ev]; exact g.1.u (by unfold rgP; omega)
    have ey : ∀ x, hdY (cv (up2 h.1 (200 + 15) c (hdX (cv h 200) c ((stQ (cv h 200) c).2.1 / (stQ (cv h 200) c).1)), h.2) 200) c x = hdY (cv h 200) c x := by
      intro x
      rw [ev]
      unfold hdY
      rw [up2_of (show 0 ≠ 15 by omega), up2_of (show 13 ≠ 15 by omega), up2_of (show 7 ≠ 15 by omega), up2_of (show 8 ≠ 15 by omega)]
    simp (disch := first | assumption | omega) only [e_1_102, e_1_103, e_1_104, e_1_105, e_1_106, e_1_107, e_1_108, e_1_109, e_1_110, e_1_111, e_1_112, e_1_113, e_1_114, e_1_115, e_1_116, e_1_117, e_1_118, e_1_119, e_1_120, e_1_121, e_1_122, e_1_123, onI_s, onR_s, onL_s, gl_0, gl_n, gl_1, gl_2, gl_3, gl_4, gl_5, gl_6, gl_7, gl_8, gl_9, gl_10, gl_11, gl_12, gl_13, gl_14, gl_15, gl_16, gl_17, sk0i, sk0r, sk0n, sk1i, sk1r, sk1n, sk_2, sk_3, sk_4, sk_5, sk_6, sk_7, sk_8, sk_9, sk_10, sk_11, sk_12, sk_13, sk_14, sk_15, sk_16, sk_17, ls_0, ls_1, ls_2, ls_3, ls_4, ls_5, ls_6, ls_7, ls_8, ls_9, ls_10, ls_11, ls_12, ls_13, ls_14, ls_15, ls_16, ls_17, ct1_i, ct1_r, wd8_0, wd8_i1, wd8_r1, wd8_i2, wd8_r2, wd8_i3, wd8_r3, wd8_i4, wd8_r4, wd8_i5, wd8_r5, wd8_i6, wd8_r6, wd8_i7, wd8_r7, wd8_i8, wd8_r8, wd8_l2, wd8_l3, wd8_l4, wd8_l5, wd8_l6, wd8_l7, wd8_l8, tl_s, tl_n, inR_t, bd_t, true_and, and_true, true_or, or_true, if_true_x, if_false_x, if_pos, if_neg, Int.toNat_natCast, natL, bI_0, bI_1, bI_ft, eq_self, b_tf, b_ft, not_true_eq_false, not_false_eq_true, m_282, m_87 hp g.1, m_88 hp hw2, ey, hp.t0, hp.t1, hp.t2, hp.t3, hp.t4, hp.t5, hp.t6, hp.t7, hp.t8, hp.t9, hp.t10, hp.t11, hp.t12, hp.t13, hp.t14, hp.t15, hp.t16, hp.t17, hp.t18, hp.t19, hp.t20, hp.t21, hp.t22, hp.t23, hp.z2, hp.z3, hp.z4, hp.z5, hp.z7, hp.z8, hp.z9, hp.z10, hp.z12, hp.z13, hp.z14, hp.z15, hp.z16, hp.z17, hp.z18, hp.z20, hp.z21, hp.z22, hp.z23, hp.r0_2, hp.r0_3, hp.r0_4, hp.r0_5, hp.r1_1, hp.r1_2, hp.r1_3, hp.r1_4, hp.r6_1, hp.r6_2, hp.r6_3, hp.r6_4, hp.r11_1, hp.r11_2, hp.r11_3, hp.r11_4, hp.r11_5, hp.r11_6, hp.r11_7, hp.r19_1, hp.r19_2, hp.r19_3, hp.r19_4]
    refine hq _ (NZ.up (F2 := h.2) (NZ.up (I := h.1) (F := h.2) (F2 := h.2) z (by rw [hp.z15]; omega)) (by rw [hp.z16]; omega)) (fun a q1 q2 => by dsimp only; rw [up2_of (by omega), up2_of (by omega)]) rfl ?_
    rw [cv_u (by omega) (by omega), ev]
  · rw [if_neg e] at hq
    simp (disch := first | assumption | omega) only [e_1_102, e_1_123, onI_s, onR_s, onL_s, gl_0, gl_n, gl_1, gl_2, gl_3, gl_4, gl_5, gl_6, gl_7, gl_8, gl_9, gl_10, gl_11, gl_12, gl_13, gl_14, gl_15, gl_16, gl_17, sk0i, sk0r, sk0n, sk1i, sk1r, sk1n, sk_2, sk_3, sk_4, sk_5, sk_6, sk_7, sk_8, sk_9, sk_10, sk_11, sk_12, sk_13, sk_14, sk_15, sk_16, sk_17, ls_0, ls_1, ls_2, ls_3, ls_4, ls_5, ls_6, ls_7, ls_8, ls_9, ls_10, ls_11, ls_12, ls_13, ls_14, ls_15, ls_16, ls_17, ct1_i, ct1_r, wd8_0, wd8_i1, wd8_r1, wd8_i2, wd8_r2, wd8_i3, wd8_r3, wd8_i4, wd8_r4, wd8_i5, wd8_r5, wd8_i6, wd8_r6, wd8_i7, wd8_r7, wd8_i8, wd8_r8, wd8_l2, wd8_l3, wd8_l4, wd8_l5, wd8_l6, wd8_l7, wd8_l8, tl_s, tl_n, inR_t, bd_t, true_and, and_true, true_or, or_true, if_true_x, if_false_x, if_pos, if_neg, Int.toNat_natCast, natL, bI_0, bI_1, bI_ft, eq_self, b_tf, b_ft, not_true_eq_false, not_false_eq_true]
    exact hq h z (fun _ _ _ => rfl) rfl rfl
end STC
