def S15 (h h2 : xH) : Prop := (∀ a, a ≠ 15 → h2.1 a = h.1 a) ∧ h2.2 = h.2
section SMD
variable {X : xL} {Q : Option xV → xH → Prop} {ns nb ln : Nat} {I F : Nat → Nat → Int}
theorem S15.refl {h : xH} : S15 h h := ⟨fun _ _ => rfl, rfl⟩
theorem S15.tr {h h2 h3 : xH} (a : S15 h h2) (b : S15 h2 h3) : S15 h h3 := ⟨fun k q => (b.1 k q).trans (a.1 k q), b.2.trans a.2⟩
theorem S15.cv {h h2 : xH} (a : S15 h h2) : cv h2 200 = cv h 200 := cv_congr (fun k q1 q2 => ⟨a.1 k (by omega), by rw [a.2]⟩)
theorem S15.fz {h h2 : xH} (a : S15 h h2) (z : NZ X h2) : Fz X h h2 := by
  refine ⟨z, fun k q => ⟨a.1 k (by omega), by rw [a.2]⟩, ?_, fun p hp => ?_⟩
  · rw [a.2]; exact ⟨rfl, rfl, rfl, rfl⟩
  · rw [a.2]; exact ⟨fun _ => rfl, fun _ _ _ _ => rfl⟩
theorem pw_X {v : Nat → Nat → Int} {n k : Nat} : (if 200 ≤ v 22 (n * 6 + k) then 0 else v 15 (v 22 (n * 6 + k)).toNat) + 16 * v 23 (n * 6 + k) + 8 = pwX v n k := by
  unfold pwX
  split <;> omega
theorem pw_Y {v : Nat → Nat → Int} {n k : Nat} : (if 200 ≤ v 22 (n * 6 + k) then 16 * (v 22 (n * 6 + k) - 200) else v 16 (v 22 (n * 6 + k)).toNat) + 8 = pwY v n k := by
  unfold pwY
  split <;> rfl
set_option maxHeartbeats 4000000 in
theorem l_98a (hp : PL X 200) (hc : CT X ns nb ln) {n p : Nat} (g : WG (cv (I, F) 200)) (hn : (n : Int) < cv (I, F) 200 19 0) (hpp : I (200 + 21) n = p) : ∀ (m i : Nat), i + m = p → (Ev X 98 14 [some (vr 14), some (vr 200), some (vi n), some (vr (200 + 19)), some (vi p), some (vi ((n : Int) * 6)), some (vi i), none] [] (up1 I 15 (fil (pwX (cv (I, F) 200) n) (I 15) i), F) Q ↔ Ev X 98 38 [some (vr 14), some (vr 200), some (vi n), some (vr (200 + 19)), some (vi p), some (vi ((n : Int) * 6)), some (vi p), none] [] (up1 I 15 (fil (pwX (cv (I, F) 200) n) (I 15) p), F) Q) := by
  have nN := g.1.nN
  have p6 := g.1.pin n
  rw [cv_21] at p6
  dsimp only at p6
  intro m
  induction m with
  | zero =>
    intro i hm
    rw [e_98_14]
    simp (disch := first | assumption | omega) only [e_98_15, e_98_16, onI_s, onR_s, onL_s, gl_0, gl_n, gl_1, gl_2, gl_3, gl_4, gl_5, gl_6, gl_7, gl_8, gl_9, gl_10, gl_11, gl_12, gl_13, gl_14, gl_15, gl_16, gl_17, sk0i, sk0r, sk0n, sk1i, sk1r, sk1n, sk_2, sk_3, sk_4, sk_5, sk_6, sk_7, sk_8, sk_9, sk_10, sk_11, sk_12, sk_13, sk_14, sk_15, sk_16, sk_17, ls_0, ls_1, ls_2, ls_3, ls_4, ls_5, ls_6, ls_7, ls_8, ls_9, ls_10, ls_11, ls_12, ls_13, ls_14, ls_15, ls_16, ls_17, ct1_i, ct1_r, wd8_0, wd8_i1, wd8_r1, wd8_i2, wd8_r2, wd8_i3, wd8_r3, wd8_i4, wd8_r4, wd8_i5, wd8_r5, wd8_i6, wd8_r6, wd8_i7, wd8_r7, wd8_i8, wd8_r8, wd8_l2, wd8_l3, wd8_l4, wd8_l5, wd8_l6, wd8_l7, wd8_l8, tl_s, tl_n, inR_t, bd_t, true_and, and_true, true_or, or_true, if_true_x, if_false_x, if_pos, if_neg, Int.toNat_natCast, natL, bI_0, bI_1, bI_ft, eq_self, b_tf, b_ft, not_true_eq_false, not_false_eq_true]
    rw [show i = p by omega]
  | succ m ih =>
    intro i hm
    have w1 := g.1.hed (n * 6 + i)
    have w2 := g.1.tai (n * 6 + i)
    have w5 := g.2.1 n i hn (by rw [cv_21]; show (i : Int) < I (200 + 21) n; omega)
    have w6 := g.1.nC
    have ev : cv (up1 I 15 (fil (pwX (cv (I, F) 200) n) (I 15) i), F) 200 = cv (I, F) 200 := cv_n1 (by omega)
    have hw2 : RGv (cv (up1 I 15 (fil (pwX (cv (I, F) 200) n) (I 15) i), F) 200) := by rw [ev]; exact g.1
    have m99 : ∀ {Q2 : Option xV → xH → Prop}, Cl X 99 [vr (200 + 11), vi (I (200 + 22) (n * 6 + i)), vi (I (200 + 23) (n * 6 + i))] (up1 I 15 (fil (pwX (cv (I, F) 200) n) (I 15) i), F) Q2 ↔ Q2 (some (vi (pwX (cv (I, F) 200) n i))) (up1 I 15 (fil (pwX (cv (I, F) 200) n) (I 15) i), F) := by
      intro Q2
      rw [m_99 (a := I (200 + 22) (n * 6 + i)) (t := I (200 + 23) (n * 6 + i)) hp hw2 w1.1 (by rw [cv_22, cv_11] at w5; rw [cv_11] at w6; dsimp only at w5 w6; omega) w2.1 w2.2, ev]
      rw [show (if 200 ≤ I (200 + 22) (n * 6 + i) then 0 else cv (I, F) 200 15 (I (200 + 22) (n * 6 + i)).toNat) + 16 * I (200 + 23) (n * 6 + i) + 8 = pwX (cv (I, F) 200) n i from pw_X (v := cv (I, F) 200)]
    rw [e_98_14]
    simp (disch := first | assumption | omega) only [e_98_15, e_98_16, e_98_17, e_98_18, e_98_19, e_98_20, e_98_21, e_98_22, e_98_23, e_98_24, e_98_25, e_98_26, e_98_27, e_98_28, e_98_29, e_98_30, e_98_31, e_98_32, e_98_33, e_98_34, e_98_35, e_98_36, e_98_37, onI_s, onR_s, onL_s, gl_0, gl_n, gl_1, gl_2, gl_3, gl_4, gl_5, gl_6, gl_7, gl_8, gl_9, gl_10, gl_11, gl_12, gl_13, gl_14, gl_15, gl_16, gl_17, sk0i, sk0r, sk0n, sk1i, sk1r, sk1n, sk_2, sk_3, sk_4, sk_5, sk_6, sk_7, sk_8, sk_9, sk_10, sk_11, sk_12, sk_13, sk_14, sk_15, sk_16, sk_17, ls_0, ls_1, ls_2, ls_3, ls_4, ls_5, ls_6, ls_7, ls_8, ls_9, ls_10, ls_11, ls_12, ls_13, ls_14, ls_15, ls_16, ls_17, ct1_i, ct1_r, wd8_0, wd8_i1, wd8_r1, wd8_i2, wd8_r2, wd8_i3, wd8_r3, wd8_i4, wd8_r4, wd8_i5, wd8_r5, wd8_i6, wd8_r6, wd8_i7, wd8_r7, wd8_i8, wd8_r8, wd8_l2, wd8_l3, wd8_l4, wd8_l5, wd8_l6, wd8_l7, wd8_l8, tl_s, tl_n, inR_t, bd_t, true_and, and_true, true_or, or_true, if_true_x, if_false_x, if_pos, if_neg, Int.toNat_natCast, natL, bI_0, bI_1, bI_ft, eq_self, b_tf, b_ft, not_true_eq_false, not_false_eq_true, ix6, up1_o, m99, cast_s, hc.t14, hc.r14_0, hc.r14_5, hc.r14_7, hc.r14_8, hc.r14_9, hc.r14_10, hc.r14_11, hc.r14_12, hc.t15, hc.z15, hp.t0, hp.t1, hp.t2, hp.t3, hp.t4, hp.t5, hp.t6, hp.t7, hp.t8, hp.t9, hp.t10, hp.t11, hp.t12, hp.t13, hp.t14, hp.t15, hp.t16, hp.t17, hp.t18, hp.t19, hp.t20, hp.t21, hp.t22, hp.t23, hp.z2, hp.z3, hp.z4, hp.z5, hp.z7, hp.z8, hp.z9, hp.z10, hp.z12, hp.z13, hp.z14, hp.z15, hp.z16, hp.z17, hp.z18, hp.z20, hp.z21, hp.z22, hp.z23, hp.r0_2, hp.r0_3, hp.r0_4, hp.r0_5, hp.r1_1, hp.r1_2, hp.r1_3, hp.r1_4, hp.r6_1, hp.r6_2, hp.r6_3, hp.r6_4, hp.r11_1, hp.r11_2, hp.r11_3, hp.r11_4, hp.r11_5, hp.r11_6, hp.r11_7, hp.r19_1, hp.r19_2, hp.r19_3, hp.r19_4]
    rw [u21 (g := fil (pwX (cv (I, F) 200) n) (I 15) (i + 1)) fil_s, ih (i + 1) (by omega)]
set_option maxHeartbeats 4000000 in
theorem l_98b (hp : PL X 200) (hc : CT X ns nb ln) {n p : Nat} {wd2 : Int} (g : WG (cv (I, F) 200)) (hn : (n : Int) < cv (I, F) 200 19 0) (hpp : I (200 + 21) n = p) : ∀ (m i : Nat), i + m = p → (Ev X 98 44 [some (vr 14), some (vr 200), some (vi n), some (vr (200 + 19)), some (vi p), some (vi ((n : Int) * 6)), some (vi wd2), some (vi i)] [] (up1 I 15 (fil (pwY (cv (I, F) 200) n) (I 15) i), F) Q ↔ Ev X 98 62 [some (vr 14), some (vr 200), some (vi n), some (vr (200 + 19)), some (vi p), some (vi ((n : Int) * 6)), some (vi wd2), some (vi p)] [] (up1 I 15 (fil (pwY (cv (I, F) 200) n) (I 15) p), F) Q) := by
  have nN := g.1.nN
  have p6 := g.1.pin n
  rw [cv_21] at p6
  dsimp only at p6
  intro m
  induction m with
  | zero =>
    intro i hm
    rw [e_98_44]
    simp (disch := first | assumption | omega) only [e_98_45, e_98_46, onI_s, onR_s, onL_s, gl_0, gl_n, gl_1, gl_2, gl_3, gl_4, gl_5, gl_6, gl_7, gl_8, gl_9, gl_10, gl_11, gl_12, gl_13, gl_14, gl_15, gl_16, gl_17, sk0i, sk0r, sk0n, sk1i, sk1r, sk1n, sk_2, sk_3, sk_4, sk_5, sk_6, sk_7, sk_8, sk_9, sk_10, sk_11, sk_12, sk_13, sk_14, sk_15, sk_16, sk_17, ls_0, ls_1, ls_2, ls_3, ls_4, ls_5, ls_6, ls_7, ls_8, ls_9, ls_10, ls_11, ls_12, ls_13, ls_14, ls_15, ls_16, ls_17, ct1_i, ct1_r, wd8_0, wd8_i1, wd8_r1, wd8_i2, wd8_r2, wd8_i3, wd8_r3, wd8_i4, wd8_r4, wd8_i5, wd8_r5, wd8_i6, wd8_r6, wd8_i7, wd8_r7, wd8_i8, wd8_r8, wd8_l2, wd8_l3, wd8_l4, wd8_l5, wd8_l6, wd8_l7, wd8_l8, tl_s, tl_n, inR_t, bd_t, true_and, and_true, true_or, or_true, if_true_x, if_false_x, if_pos, if_neg, Int.toNat_natCast, natL, bI_0, bI_1, bI_ft, eq_self, b_tf, b_ft, not_true_eq_false, not_false_eq_true]
    rw [show i = p by omega]
  | succ m ih =>
    intro i hm
    have w1 := g.1.hed (n * 6 + i)
    have w5 := g.2.1 n i hn (by rw [cv_21]; show (i : Int) < I (200 + 21) n; omega)
    have w6 := g.1.nC
    have ev : cv (up1 I 15 (fil (pwY (cv (I, F) 200) n) (I 15) i), F) 200 = cv (I, F) 200 := cv_n1 (by omega)
    have hw2 : RGv (cv (up1 I 15 (fil (pwY (cv (I, F) 200) n) (I 15) i), F) 200) := by rw [ev]; exact g.1
    have m100 : ∀ {Q2 : Option xV → xH → Prop}, Cl X 100 [vr (200 + 11), vi (I (200 + 22) (n * 6 + i))] (up1 I 15 (fil (pwY (cv (I, F) 200) n) (I 15) i), F) Q2 ↔ Q2 (some (vi (pwY (cv (I, F) 200) n i))) (up1 I 15 (fil (pwY (cv (I, F) 200) n) (I 15) i), F) := by
      intro Q2
      rw [m_100 (a := I (200 + 22) (n * 6 + i)) hp hw2 w1.1 (by rw [cv_22, cv_11] at w5; rw [cv_11] at w6; dsimp only at w5 w6; omega) w1.2, ev]
      rw [show (if 200 ≤ I (200 + 22) (n * 6 + i) then 16 * (I (200 + 22) (n * 6 + i) - 200) else cv (I, F) 200 16 (I (200 + 22) (n * 6 + i)).toNat) + 8 = pwY (cv (I, F) 200) n i from pw_Y (v := cv (I, F) 200)]
    rw [e_98_44]
    simp (disch := first | assumption | omega) only [e_98_45, e_98_46, e_98_47, e_98_48, e_98_49, e_98_50, e_98_51, e_98_52, e_98_53, e_98_54, e_98_55, e_98_56, e_98_57, e_98_58, e_98_59, e_98_60, e_98_61, onI_s, onR_s, onL_s, gl_0, gl_n, gl_1, gl_2, gl_3, gl_4, gl_5, gl_6, gl_7, gl_8, gl_9, gl_10, gl_11, gl_12, gl_13, gl_14, gl_15, gl_16, gl_17, sk0i, sk0r, sk0n, sk1i, sk1r, sk1n, sk_2, sk_3, sk_4, sk_5, sk_6, sk_7, sk_8, sk_9, sk_10, sk_11, sk_12, sk_13, sk_14, sk_15, sk_16, sk_17, ls_0, ls_1, ls_2, ls_3, ls_4, ls_5, ls_6, ls_7, ls_8, ls_9, ls_10, ls_11, ls_12, ls_13, ls_14, ls_15, ls_16, ls_17, ct1_i, ct1_r, wd8_0, wd8_i1, wd8_r1, wd8_i2, wd8_r2, wd8_i3, wd8_r3, wd8_i4, wd8_r4, wd8_i5, wd8_r5, wd8_i6, wd8_r6, wd8_i7, wd8_r7, wd8_i8, wd8_r8, wd8_l2, wd8_l3, wd8_l4, wd8_l5, wd8_l6, wd8_l7, wd8_l8, tl_s, tl_n, inR_t, bd_t, true_and, and_true, true_or, or_true, if_true_x, if_false_x, if_pos, if_neg, Int.toNat_natCast, natL, bI_0, bI_1, bI_ft, eq_self, b_tf, b_ft, not_true_eq_false, not_false_eq_true, ix6, up1_o, m100, cast_s, hc.t14, hc.r14_0, hc.r14_5, hc.r14_7, hc.r14_8, hc.r14_9, hc.r14_10, hc.r14_11, hc.r14_12, hc.t15, hc.z15, hp.t0, hp.t1, hp.t2, hp.t3, hp.t4, hp.t5, hp.t6, hp.t7, hp.t8, hp.t9, hp.t10, hp.t11, hp.t12, hp.t13, hp.t14, hp.t15, hp.t16, hp.t17, hp.t18, hp.t19, hp.t20, hp.t21, hp.t22, hp.t23, hp.z2, hp.z3, hp.z4, hp.z5, hp.z7, hp.z8, hp.z9, hp.z10, hp.z12, hp.z13, hp.z14, hp.z15, hp.z16, hp.z17, hp.z18, hp.z20, hp.z21, hp.z22, hp.z23, hp.r0_2, hp.r0_3, hp.r0_4, hp.r0_5, hp.r1_1, hp.r1_2, hp.r1_3, hp.r1_4, hp.r6_1, hp.r6_2, hp.r6_3, hp.r6_4, hp.r11_1, hp.r11_2, hp.r11_3, hp.r11_4, hp.r11_5, hp.r11_6, hp.r11_7, hp.r19_1, hp.r19_2, hp.r19_3, hp.r19_4]
    rw [u21 (g := fil (pwY (cv (I, F) 200) n) (I 15) (i + 1)) fil_s, ih (i + 1) (by omega)]
set_option maxHeartbeats 4000000 in
theorem m_98 {h : xH} (hp : PL X 200) (hc : CT X ns nb ln) (z : NZ X h) {n : Nat} (g : WG (cv h 200)) (tm : TMb (h.1 1)) (hn : (n : Int) < cv h 200 19 0) (hq : ∀ h2, NZ X h2 → S15 h h2 → Q (some (vi (smN (cv h 200) (h.1 1 4) (h.1 1 0) n))) h2) : Cl X 98 [vr 14, vr 200, vi n] h Q := by
  obtain ⟨I, F⟩ := h
  have nN := g.1.nN
  have p6 := g.1.pin n
  have p2 := g.2.2 n hn
  have tt := tm.tall
  have tg := tm.gam
  have sm := smN_bd (t := I 1 4) (gm := I 1 0) g.1 g.2.2 hn tt.1 tt.2 (by dsimp only at tg; omega)
  have sx := smF_bd (f := pwX (cv (I, F) 200) n) (gm := I 1 0) (by dsimp only at tg; omega) (pw_pR g.1 n (cv (I, F) 200 21 n).toNat).1 (by omega) (by omega)
  have sy := smF_bd (f := pwY (cv (I, F) 200) n) (gm := I 1 0) (by dsimp only at tg; omega) (pw_pR g.1 n (cv (I, F) 200 21 n).toNat).2 (by omega) (by omega)
  obtain ⟨p, hpp⟩ : ∃ p : Nat, cv (I, F) 200 21 n = p := ⟨(cv (I, F) 200 21 n).toNat, by omega⟩
  have hpp2 : I (200 + 21) n = p := hpp
  unfold smN at sm hq
  rw [hpp, Int.toNat_natCast] at sm sx sy hq
  rw [c_98]
  simp (disch := first | assumption | omega) only [e_98_0, e_98_1, e_98_2, e_98_3, e_98_4, e_98_5, e_98_6, e_98_7, e_98_8, e_98_9, e_98_10, e_98_11, e_98_12, e_98_13, onI_s, onR_s, onL_s, gl_0, gl_n, gl_1, gl_2, gl_3, gl_4, gl_5, gl_6, gl_7, gl_8, gl_9, gl_10, gl_11, gl_12, gl_13, gl_14, gl_15, gl_16, gl_17, sk0i, sk0r, sk0n, sk1i, sk1r, sk1n, sk_2, sk_3, sk_4, sk_5, sk_6, sk_7, sk_8, sk_9, sk_10, sk_11, sk_12, sk_13, sk_14, sk_15, sk_16, sk_17, ls_0, ls_1, ls_2, ls_3, ls_4, ls_5, ls_6, ls_7, ls_8, ls_9, ls_10, ls_11, ls_12, ls_13, ls_14, ls_15, ls_16, ls_17, ct1_i, ct1_r, wd8_0, wd8_i1, wd8_r1, wd8_i2, wd8_r2, wd8_i3, wd8_r3, wd8_i4, wd8_r4, wd8_i5, wd8_r5, wd8_i6, wd8_r6, wd8_i7, wd8_r7, wd8_i8, wd8_r8, wd8_l2, wd8_l3, wd8_l4, wd8_l5, wd8_l6, wd8_l7, wd8_l8, tl_s, tl_n, inR_t, bd_t, true_and, and_true, true_or, or_true, if_true_x, if_false_x, if_pos, if_neg, Int.toNat_natCast, natL, bI_0, bI_1, bI_ft, eq_self, b_tf, b_ft, not_true_eq_false, not_false_eq_true, hpp2, hp.t0, hp.t1, hp.t2, hp.t3, hp.t4, hp.t5, hp.t6, hp.t7, hp.t8, hp.t9, hp.t10, hp.t11, hp.t12, hp.t13, hp.t14, hp.t15, hp.t16, hp.t17, hp.t18, hp.t19, hp.t20, hp.t21, hp.t22, hp.t23, hp.z2, hp.z3, hp.z4, hp.z5, hp.z7, hp.z8, hp.z9, hp.z10, hp.z12, hp.z13, hp.z14, hp.z15, hp.z16, hp.z17, hp.z18, hp.z20, hp.z21, hp.z22, hp.z23, hp.r0_2, hp.r0_3, hp.r0_4, hp.r0_5, hp.r1_1, hp.r1_2, hp.r1_3, hp.r1_4, hp.r6_1, hp.r6_2, hp.r6_3, hp.r6_4, hp.r11_1, hp.r11_2, hp.r11_3, hp.r11_4, hp.r11_5, hp.r11_6, hp.r11_7, hp.r19_1, hp.r19_2, hp.r19_3, hp.r19_4]
  have la := l_98a (I := I) (F := F) (Q := Q) hp hc g hn hpp2 p 0 (by omega)
  rw [fil_0, up1_id (fun _ => rfl)] at la
  refine la.mpr ?_
  rw [e_98_38]
  have m101a : ∀ {Q2 : Option xV → xH → Prop}, Cl X 101 [vr 14, vi (p : Int)] (up1 I 15 (fil (pwX (cv (I, F) 200) n) (I 15) p), F) Q2 ↔ Q2 (some (vi (smF (pwX (cv (I, F) 200) n) p (I 1 0)))) (up1 I 15 (fil (pwX (cv (I, F) 200) n) (I 15) p), F) := by
    intro Q2
    have := m_101 (Q := Q2) (f := pwX (cv (I, F) 200) n) (h := (up1 I 15 (fil (pwX (cv (I, F) 200) n) (I 15) p), F)) hc (p := p) (by dsimp only; rw [up1_o (by omega)]; exact tm) (by omega) (by omega) (fun k hk => by dsimp only; rw [up1_self]; unfold fil; rw [if_pos hk]) (pw_pR g.1 n p).1
    dsimp only at this
    rw [up1_o (show 1 ≠ 15 by omega)] at this
    exact this
  simp (disch := first | assumption | omega) only [e_98_39, e_98_40, e_98_41, e_98_42, e_98_43, onI_s, onR_s, onL_s, gl_0, gl_n, gl_1, gl_2, gl_3, gl_4, gl_5, gl_6, gl_7, gl_8, gl_9, gl_10, gl_11, gl_12, gl_13, gl_14, gl_15, gl_16, gl_17, sk0i, sk0r, sk0n, sk1i, sk1r, sk1n, sk_2, sk_3, sk_4, sk_5, sk_6, sk_7, sk_8, sk_9, sk_10, sk_11, sk_12, sk_13, sk_14, sk_15, sk_16, sk_17, ls_0, ls_1, ls_2, ls_3, ls_4, ls_5, ls_6, ls_7, ls_8, ls_9, ls_10, ls_11, ls_12, ls_13, ls_14, ls_15, ls_16, ls_17, ct1_i, ct1_r, wd8_0, wd8_i1, wd8_r1, wd8_i2, wd8_r2, wd8_i3, wd8_r3, wd8_i4, wd8_r4, wd8_i5, wd8_r5, wd8_i6, wd8_r6, wd8_i7, wd8_r7, wd8_i8, wd8_r8, wd8_l2, wd8_l3, wd8_l4, wd8_l5, wd8_l6, wd8_l7, wd8_l8, tl_s, tl_n, inR_t, bd_t, true_and, and_true, true_or, or_true, if_true_x, if_false_x, if_pos, if_neg, Int.toNat_natCast, natL, bI_0, bI_1, bI_ft, eq_self, b_tf, b_ft, not_true_eq_false, not_false_eq_true, m101a, hc.t14, hc.r14_0, hc.r14_5, hc.r14_7, hc.r14_8, hc.r14_9, hc.r14_10, hc.r14_11, hc.r14_12]
  have ev : cv (up1 I 15 (fil (pwX (cv (I, F) 200) n) (I 15) p), F) 200 = cv (I, F) 200 := cv_n1 (by omega)
  have lb := l_98b (I := up1 I 15 (fil (pwX (cv (I, F) 200) n) (I 15) p)) (F := F) (Q := Q) (wd2 := smF (pwX (cv (I, F) 200) n) p (I 1 0)) hp hc (by rw [ev]; exact g) (by rw [ev]; exact hn) (by rw [up1_o (by omega)]; exact hpp2) p 0 (by omega)
  rw [fil_0, up1_id (a := 15) (fun _ => rfl), ev, up1_up1, up1_self] at lb
  refine lb.mpr ?_
  rw [e_98_62]
  have m101b : ∀ {Q2 : Option xV → xH → Prop}, Cl X 101 [vr 14, vi (p : Int)] (up1 I 15 (fil (pwY (cv (I, F) 200) n) (fil (pwX (cv (I, F) 200) n) (I 15) p) p), F) Q2 ↔ Q2 (some (vi (smF (pwY (cv (I, F) 200) n) p (I 1 0)))) (up1 I 15 (fil (pwY (cv (I, F) 200) n) (fil (pwX (cv (I, F) 200) n) (I 15) p) p), F) := by
    intro Q2
    have := m_101 (Q := Q2) (f := pwY (cv (I, F) 200) n) (h := (up1 I 15 (fil (pwY (cv (I, F) 200) n) (fil (pwX (cv (I, F) 200) n) (I 15) p) p), F)) hc (p := p) (by dsimp only; rw [up1_o (by omega)]; exact tm) (by omega) (by omega) (fun k hk => by dsimp only; rw [up1_self]; unfold fil; rw [if_pos hk]) (pw_pR g.1 n p).2
    dsimp only at this
    rw [up1_o (show 1 ≠ 15 by omega)] at this
    exact this
  simp (disch := first | assumption | omega) only [e_98_63, e_98_64, e_98_65, e_98_66, e_98_67, e_98_68, e_98_69, e_98_70, e_98_71, e_98_72, onI_s, onR_s, onL_s, gl_0, gl_n, gl_1, gl_2, gl_3, gl_4, gl_5, gl_6, gl_7, gl_8, gl_9, gl_10, gl_11, gl_12, gl_13, gl_14, gl_15, gl_16, gl_17, sk0i, sk0r, sk0n, sk1i, sk1r, sk1n, sk_2, sk_3, sk_4, sk_5, sk_6, sk_7, sk_8, sk_9, sk_10, sk_11, sk_12, sk_13, sk_14, sk_15, sk_16, sk_17, ls_0, ls_1, ls_2, ls_3, ls_4, ls_5, ls_6, ls_7, ls_8, ls_9, ls_10, ls_11, ls_12, ls_13, ls_14, ls_15, ls_16, ls_17, ct1_i, ct1_r, wd8_0, wd8_i1, wd8_r1, wd8_i2, wd8_r2, wd8_i3, wd8_r3, wd8_i4, wd8_r4, wd8_i5, wd8_r5, wd8_i6, wd8_r6, wd8_i7, wd8_r7, wd8_i8, wd8_r8, wd8_l2, wd8_l3, wd8_l4, wd8_l5, wd8_l6, wd8_l7, wd8_l8, tl_s, tl_n, inR_t, bd_t, true_and, and_true, true_or, or_true, if_true_x, if_false_x, if_pos, if_neg, Int.toNat_natCast, natL, bI_0, bI_1, bI_ft, eq_self, b_tf, b_ft, not_true_eq_false, not_false_eq_true, m101b, tn_4, up1_o, hc.t1, hc.z1, hc.t14, hc.r14_0, hc.r14_5, hc.r14_7, hc.r14_8, hc.r14_9, hc.r14_10, hc.r14_11, hc.r14_12]
  refine hq _ (NZ.cg (I := I) (F := F) z (fun j hj => ?_)) ⟨fun a qa => up1_o qa, rfl⟩
  rw [hc.z15] at hj
  unfold fil
  rw [if_neg (by omega), if_neg (by omega)]
  exact z 15 j (Or.inl hc.t15) (by rw [hc.z15]; exact hj)
end SMD
