/-! a net is no more -/
def shf (R : Nat → Int) (lo hi d : Nat) : Nat → Int := fun i => if lo ≤ i ∧ i < hi then R (i + d) else R i
def dpV (v : Nat → Nat → Int) (n : Nat) : Nat → Nat → Int := fun j i => if j = 20 ∨ j = 21 then shf (v j) n ((v 19 0).toNat - 1) 1 i else if j = 22 ∨ j = 23 then shf (v j) (n * 6) (((v 19 0).toNat - 1) * 6) 6 i else if j = 19 ∧ i = 0 then v 19 0 - 1 else v j i
def spDrop (s : AS) (n : Int) : Int × AS := if ¬ (0 ≤ n ∧ n < s.1 19 0) then refS s (-2) else actS s 4 (s.1 21 n.toNat) (dpV s.1 n.toNat)
section DRP
variable {X : xL} {ns nb ln : Nat} {Q : Option xV → xH → Prop} {I F : Nat → Nat → Int}
theorem shf_s {R : Nat → Int} {lo hi d : Nat} (hl : lo ≤ hi) : ∀ k, shf R lo (hi + 1) d k = if k = hi then R (hi + d) else shf R lo hi d k := by
  intro k
  unfold shf
  by_cases e : k = hi
  · rw [if_pos e, if_pos (by omega), e]
  · rw [if_neg e]
    by_cases e2 : lo ≤ k ∧ k < hi
    · rw [if_pos e2, if_pos (by omega)]
    · rw [if_neg e2, if_neg (by omega)]
theorem shf_r {R : Nat → Int} {lo hi d k : Nat} (hk : hi ≤ k) : shf R lo hi d k = R k := by
  unfold shf
  rw [if_neg (by omega)]
theorem shf_0 {R : Nat → Int} {lo d : Nat} : shf R lo lo d = R := by
  funext k
  unfold shf
  rw [if_neg (by omega)]
theorem up1_sw {a b : Nat} {f g : Nat → Int} (h : a ≠ b) : up1 (up1 I a f) b g = up1 (up1 I b g) a f := by
  funext c
  unfold up1
  by_cases e : c = b
  · rw [if_pos e, if_pos e, if_neg (by omega)]
  · rw [if_neg e, if_neg e]
theorem cv_out {a b j i : Nat} {g : Nat → Int} (h : a ≠ b + j) : cv (up1 I a g, F) b j i = cv (I, F) b j i := by
  unfold cv
  dsimp only
  rw [up1_o (Ne.symm h)]
def dI (I : Nat → Nat → Int) (n a k : Nat) : Nat → Nat → Int := up1 (up1 (up1 (up1 I 220 (shf (I 220) n a 1)) 221 (shf (I 221) n a 1)) 222 (shf (I 222) (n * 6) k 6)) 223 (shf (I 223) (n * 6) k 6)
set_option maxHeartbeats 4000000 in
theorem l_44i (hp : PL X 200) {n a : Nat} (hna : n ≤ a) (ha : a < 15) {N : Nat} : ∀ (m k : Nat), k + m = 6 → (Ev X 44 30 [some (vr (200 + 19)), some (vi n), some (vi ((a + 1 : Nat) : Int)), some (vi k)] [] (dI I n (a + 1) (a * 6 + k), F) Q ↔ Ev X 44 71 [some (vr (200 + 19)), some (vi n), some (vi ((a + 1 : Nat) : Int)), some (vi 6)] [] (dI I n (a + 1) ((a + 1) * 6), F) Q) := by
  intro m
  induction m with
  | zero =>
    intro k hm
    rw [e_44_30, show k = 6 by omega]
    simp (disch := first | assumption | omega) only [e_44_31, e_44_32, onI_s, onR_s, onL_s, gl_0, gl_n, gl_1, gl_2, gl_3, gl_4, gl_5, gl_6, gl_7, gl_8, gl_9, gl_10, gl_11, gl_12, gl_13, gl_14, gl_15, gl_16, gl_17, sk0i, sk0r, sk0n, sk1i, sk1r, sk1n, sk_2, sk_3, sk_4, sk_5, sk_6, sk_7, sk_8, sk_9, sk_10, sk_11, sk_12, sk_13, sk_14, sk_15, sk_16, sk_17, ls_0, ls_1, ls_2, ls_3, ls_4, ls_5, ls_6, ls_7, ls_8, ls_9, ls_10, ls_11, ls_12, ls_13, ls_14, ls_15, ls_16, ls_17, ct1_i, ct1_r, wd8_0, wd8_i1, wd8_r1, wd8_i2, wd8_r2, wd8_i3, wd8_r3, wd8_i4, wd8_r4, wd8_i5, wd8_r5, wd8_i6, wd8_r6, wd8_i7, wd8_r7, wd8_i8, wd8_r8, wd8_l2, wd8_l3, wd8_l4, wd8_l5, wd8_l6, wd8_l7, wd8_l8, tl_s, tl_n, inR_t, bd_t, true_and, and_true, true_or, or_true, if_true_x, if_false_x, if_pos, if_neg, Int.toNat_natCast, natL, bI_0, bI_1, bI_ft, eq_self, b_tf, b_ft, not_true_eq_false, not_false_eq_true]
    rw [show a * 6 + 6 = (a + 1) * 6 by omega]
    exact Iff.rfl
  | succ m ih =>
    intro k hm
    rw [e_44_30]
    have t1 : ((((a + 1 : Nat) : Int) - 1) * 6 + (k : Int)).toNat = a * 6 + k := by omega
    have t2 : (((a + 1 : Nat) : Int) * 6 + (k : Int)).toNat = a * 6 + k + 6 := by omega
    have r22 : dI I n (a + 1) (a * 6 + k) (200 + 22) (a * 6 + k + 6) = I 222 (a * 6 + k + 6) := by
      show dI I n (a + 1) (a * 6 + k) 222 (a * 6 + k + 6) = _
      unfold dI
      rw [up1_o (by decide), up1_self, shf_r (by omega)]
    have r23 : dI I n (a + 1) (a * 6 + k) 223 (a * 6 + k + 6) = I 223 (a * 6 + k + 6) := by
      unfold dI
      rw [up1_self, shf_r (by omega)]
    have r23' : up2 (dI I n (a + 1) (a * 6 + k)) (200 + 22) (a * 6 + k) (I 222 (a * 6 + k + 6)) (200 + 23) (a * 6 + k + 6) = I 223 (a * 6 + k + 6) := by
      rw [up2_oth (by decide)]
      exact r23
    simp (disch := first | assumption | omega) only [e_44_31, e_44_32, e_44_33, e_44_34, e_44_35, e_44_36, e_44_37, e_44_38, e_44_39, e_44_40, e_44_41, e_44_42, e_44_43, e_44_44, e_44_45, e_44_46, e_44_47, e_44_48, e_44_49, e_44_50, e_44_51, e_44_52, e_44_53, e_44_54, e_44_55, e_44_56, e_44_57, e_44_58, e_44_59, e_44_60, e_44_61, e_44_62, e_44_63, e_44_64, e_44_65, e_44_66, e_44_67, e_44_68, e_44_69, e_44_70, onI_s, onR_s, onL_s, gl_0, gl_n, gl_1, gl_2, gl_3, gl_4, gl_5, gl_6, gl_7, gl_8, gl_9, gl_10, gl_11, gl_12, gl_13, gl_14, gl_15, gl_16, gl_17, sk0i, sk0r, sk0n, sk1i, sk1r, sk1n, sk_2, sk_3, sk_4, sk_5, sk_6, sk_7, sk_8, sk_9, sk_10, sk_11, sk_12, sk_13, sk_14, sk_15, sk_16, sk_17, ls_0, ls_1, ls_2, ls_3, ls_4, ls_5, ls_6, ls_7, ls_8, ls_9, ls_10, ls_11, ls_12, ls_13, ls_14, ls_15, ls_16, ls_17, ct1_i, ct1_r, wd8_0, wd8_i1, wd8_r1, wd8_i2, wd8_r2, wd8_i3, wd8_r3, wd8_i4, wd8_r4, wd8_i5, wd8_r5, wd8_i6, wd8_r6, wd8_i7, wd8_r7, wd8_i8, wd8_r8, wd8_l2, wd8_l3, wd8_l4, wd8_l5, wd8_l6, wd8_l7, wd8_l8, tl_s, tl_n, inR_t, bd_t, true_and, and_true, true_or, or_true, if_true_x, if_false_x, if_pos, if_neg, Int.toNat_natCast, natL, bI_0, bI_1, bI_ft, eq_self, b_tf, b_ft, not_true_eq_false, not_false_eq_true, t1, t2, r22, r23', cast_s, hp.t0, hp.t1, hp.t2, hp.t3, hp.t4, hp.t5, hp.t6, hp.t7, hp.t8, hp.t9, hp.t10, hp.t11, hp.t12, hp.t13, hp.t14, hp.t15, hp.t16, hp.t17, hp.t18, hp.t19, hp.t20, hp.t21, hp.t22, hp.t23, hp.z2, hp.z3, hp.z4, hp.z5, hp.z7, hp.z8, hp.z9, hp.z10, hp.z12, hp.z13, hp.z14, hp.z15, hp.z16, hp.z17, hp.z18, hp.z20, hp.z21, hp.z22, hp.z23, hp.r0_2, hp.r0_3, hp.r0_4, hp.r0_5, hp.r1_1, hp.r1_2, hp.r1_3, hp.r1_4, hp.r6_1, hp.r6_2, hp.r6_3, hp.r6_4, hp.r11_1, hp.r11_2, hp.r11_3, hp.r11_4, hp.r11_5, hp.r11_6, hp.r11_7, hp.r19_1, hp.r19_2, hp.r19_3, hp.r19_4]
    have e : up2 (up2 (dI I n (a + 1) (a * 6 + k)) (200 + 22) (a * 6 + k) (I 222 (a * 6 + k + 6))) (200 + 23) (a * 6 + k) (I 223 (a * 6 + k + 6)) = dI I n (a + 1) (a * 6 + (k + 1)) := by
      unfold dI
      rw [up1_sw (a := 222) (b := 223) (by decide)]
      rw [show (200 + 22 : Nat) = 222 from rfl, show (200 + 23 : Nat) = 223 from rfl]
      rw [u21 (a := 222) (g := shf (I 222) (n * 6) (a * 6 + k + 1) 6) (shf_s (by omega)), up1_sw (a := 223) (b := 222) (by decide)]
      rw [u21 (a := 223) (g := shf (I 223) (n * 6) (a * 6 + k + 1) 6) (shf_s (by omega))]
      rfl
    rw [e, ih (k + 1) (by omega)]
set_option maxHeartbeats 4000000 in
theorem l_44 (hp : PL X 200) {n N : Nat} (hN : N ≤ 16) (hs : F (200 + 19) 0 = N) : ∀ (m a : Nat) (x3 : Option xV), n ≤ a → a + 1 + m = N → (Ev X 44 4 [some (vr (200 + 19)), some (vi n), some (vi ((a + 1 : Nat) : Int)), x3] [] (dI I n a (a * 6), F) Q ↔ Q none (dI I n (N - 1) ((N - 1) * 6), up2 F (200 + 19) 0 ((N : Int) - 1))) := by
  intro m
  induction m with
  | zero =>
    intro a x3 hna hm
    rw [e_44_4]
    simp (disch := first | assumption | omega) only [e_44_5, e_44_6, e_44_7, e_44_73, e_44_74, e_44_75, e_44_76, e_44_77, e_44_78, e_44_79, onI_s, onR_s, onL_s, gl_0, gl_n, gl_1, gl_2, gl_3, gl_4, gl_5, gl_6, gl_7, gl_8, gl_9, gl_10, gl_11, gl_12, gl_13, gl_14, gl_15, gl_16, gl_17, sk0i, sk0r, sk0n, sk1i, sk1r, sk1n, sk_2, sk_3, sk_4, sk_5, sk_6, sk_7, sk_8, sk_9, sk_10, sk_11, sk_12, sk_13, sk_14, sk_15, sk_16, sk_17, ls_0, ls_1, ls_2, ls_3, ls_4, ls_5, ls_6, ls_7, ls_8, ls_9, ls_10, ls_11, ls_12, ls_13, ls_14, ls_15, ls_16, ls_17, ct1_i, ct1_r, wd8_0, wd8_i1, wd8_r1, wd8_i2, wd8_r2, wd8_i3, wd8_r3, wd8_i4, wd8_r4, wd8_i5, wd8_r5, wd8_i6, wd8_r6, wd8_i7, wd8_r7, wd8_i8, wd8_r8, wd8_l2, wd8_l3, wd8_l4, wd8_l5, wd8_l6, wd8_l7, wd8_l8, tl_s, tl_n, inR_t, bd_t, true_and, and_true, true_or, or_true, if_true_x, if_false_x, if_pos, if_neg, Int.toNat_natCast, natL, bI_0, bI_1, bI_ft, eq_self, b_tf, b_ft, not_true_eq_false, not_false_eq_true, hs, hp.t0, hp.t1, hp.t2, hp.t3, hp.t4, hp.t5, hp.t6, hp.t7, hp.t8, hp.t9, hp.t10, hp.t11, hp.t12, hp.t13, hp.t14, hp.t15, hp.t16, hp.t17, hp.t18, hp.t19, hp.t20, hp.t21, hp.t22, hp.t23, hp.z2, hp.z3, hp.z4, hp.z5, hp.z7, hp.z8, hp.z9, hp.z10, hp.z12, hp.z13, hp.z14, hp.z15, hp.z16, hp.z17, hp.z18, hp.z20, hp.z21, hp.z22, hp.z23, hp.r0_2, hp.r0_3, hp.r0_4, hp.r0_5, hp.r1_1, hp.r1_2, hp.r1_3, hp.r1_4, hp.r6_1, hp.r6_2, hp.r6_3, hp.r6_4, hp.r11_1, hp.r11_2, hp.r11_3, hp.r11_4, hp.r11_5, hp.r11_6, hp.r11_7, hp.r19_1, hp.r19_2, hp.r19_3, hp.r19_4]
    rw [show a = N - 1 by omega]
  | succ m ih =>
    intro a x3 hna hm
    rw [e_44_4]
    have t1 : ((((a + 1 : Nat) : Int) - 1)).toNat = a := by omega
    have r20 : dI I n a (a * 6) (200 + 20) (a + 1) = I 220 (a + 1) := by
      show dI I n a (a * 6) 220 (a + 1) = _
      unfold dI
      rw [up1_o (by decide), up1_o (by decide), up1_o (by decide), up1_self, shf_r (by omega)]
    have r21 : dI I n a (a * 6) (200 + 21) (a + 1) = I 221 (a + 1) := by
      show dI I n a (a * 6) 221 (a + 1) = _
      unfold dI
      rw [up1_o (by decide), up1_o (by decide), up1_self, shf_r (by omega)]
    simp (disch := first | assumption | omega) only [e_44_5, e_44_6, e_44_7, e_44_8, e_44_9, e_44_10, e_44_11, e_44_12, e_44_13, e_44_14, e_44_15, e_44_16, e_44_17, e_44_18, e_44_19, e_44_20, e_44_21, e_44_22, e_44_23, e_44_24, e_44_25, e_44_26, e_44_27, e_44_28, e_44_29, onI_s, onR_s, onL_s, gl_0, gl_n, gl_1, gl_2, gl_3, gl_4, gl_5, gl_6, gl_7, gl_8, gl_9, gl_10, gl_11, gl_12, gl_13, gl_14, gl_15, gl_16, gl_17, sk0i, sk0r, sk0n, sk1i, sk1r, sk1n, sk_2, sk_3, sk_4, sk_5, sk_6, sk_7, sk_8, sk_9, sk_10, sk_11, sk_12, sk_13, sk_14, sk_15, sk_16, sk_17, ls_0, ls_1, ls_2, ls_3, ls_4, ls_5, ls_6, ls_7, ls_8, ls_9, ls_10, ls_11, ls_12, ls_13, ls_14, ls_15, ls_16, ls_17, ct1_i, ct1_r, wd8_0, wd8_i1, wd8_r1, wd8_i2, wd8_r2, wd8_i3, wd8_r3, wd8_i4, wd8_r4, wd8_i5, wd8_r5, wd8_i6, wd8_r6, wd8_i7, wd8_r7, wd8_i8, wd8_r8, wd8_l2, wd8_l3, wd8_l4, wd8_l5, wd8_l6, wd8_l7, wd8_l8, tl_s, tl_n, inR_t, bd_t, true_and, and_true, true_or, or_true, if_true_x, if_false_x, if_pos, if_neg, Int.toNat_natCast, natL, bI_0, bI_1, bI_ft, eq_self, b_tf, b_ft, not_true_eq_false, not_false_eq_true, hs, t1, r20, r21, up2_oth, hp.t0, hp.t1, hp.t2, hp.t3, hp.t4, hp.t5, hp.t6, hp.t7, hp.t8, hp.t9, hp.t10, hp.t11, hp.t12, hp.t13, hp.t14, hp.t15, hp.t16, hp.t17, hp.t18, hp.t19, hp.t20, hp.t21, hp.t22, hp.t23, hp.z2, hp.z3, hp.z4, hp.z5, hp.z7, hp.z8, hp.z9, hp.z10, hp.z12, hp.z13, hp.z14, hp.z15, hp.z16, hp.z17, hp.z18, hp.z20, hp.z21, hp.z22, hp.z23, hp.r0_2, hp.r0_3, hp.r0_4, hp.r0_5, hp.r1_1, hp.r1_2, hp.r1_3, hp.r1_4, hp.r6_1, hp.r6_2, hp.r6_3, hp.r6_4, hp.r11_1, hp.r11_2, hp.r11_3, hp.r11_4, hp.r11_5, hp.r11_6, hp.r11_7, hp.r19_1, hp.r19_2, hp.r19_3, hp.r19_4]
    have e : up2 (up2 (dI I n a (a * 6)) (200 + 20) a (I 220 (a + 1))) (200 + 21) a (I 221 (a + 1)) = dI I n (a + 1) (a * 6) := by
      unfold dI
      rw [show (200 + 20 : Nat) = 220 from rfl, show (200 + 21 : Nat) = 221 from rfl]
      rw [up1_sw (a := 222) (b := 223) (by decide), up1_sw (a := 221) (b := 223) (by decide), up1_sw (a := 221) (b := 222) (by decide), up1_sw (a := 220) (b := 223) (by decide), up1_sw (a := 220) (b := 222) (by decide), up1_sw (a := 220) (b := 221) (by decide)]
      rw [u21 (a := 220) (g := shf (I 220) n (a + 1) 1) (shf_s (by omega)), up1_sw (a := 221) (b := 220) (by decide)]
      rw [u21 (a := 221) (g := shf (I 221) n (a + 1) 1) (shf_s (by omega))]
      rw [up1_sw (a := 222) (b := 220) (by decide), up1_sw (a := 222) (b := 221) (by decide), up1_sw (a := 223) (b := 220) (by decide), up1_sw (a := 223) (b := 221) (by decide), up1_sw (a := 223) (b := 222) (by decide)]
    rw [e]
    have li := l_44i (I := I) (F := F) (Q := Q) hp hna (by omega) (N := N) 6 0 (by omega)
    rw [Nat.add_zero] at li
    refine li.trans ?_
    rw [e_44_71]
    simp (disch := first | assumption | omega) only [e_44_72, onI_s, onR_s, onL_s, gl_0, gl_n, gl_1, gl_2, gl_3, gl_4, gl_5, gl_6, gl_7, gl_8, gl_9, gl_10, gl_11, gl_12, gl_13, gl_14, gl_15, gl_16, gl_17, sk0i, sk0r, sk0n, sk1i, sk1r, sk1n, sk_2, sk_3, sk_4, sk_5, sk_6, sk_7, sk_8, sk_9, sk_10, sk_11, sk_12, sk_13, sk_14, sk_15, sk_16, sk_17, ls_0, ls_1, ls_2, ls_3, ls_4, ls_5, ls_6, ls_7, ls_8, ls_9, ls_10, ls_11, ls_12, ls_13, ls_14, ls_15, ls_16, ls_17, ct1_i, ct1_r, wd8_0, wd8_i1, wd8_r1, wd8_i2, wd8_r2, wd8_i3, wd8_r3, wd8_i4, wd8_r4, wd8_i5, wd8_r5, wd8_i6, wd8_r6, wd8_i7, wd8_r7, wd8_i8, wd8_r8, wd8_l2, wd8_l3, wd8_l4, wd8_l5, wd8_l6, wd8_l7, wd8_l8, tl_s, tl_n, inR_t, bd_t, true_and, and_true, true_or, or_true, if_true_x, if_false_x, if_pos, if_neg, Int.toNat_natCast, natL, bI_0, bI_1, bI_ft, eq_self, b_tf, b_ft, not_true_eq_false, not_false_eq_true, cast_s]
    exact ih (a + 1) _ (by omega) (by omega)
theorem m_44 {h : xH} (hp : PL X 200) {n N : Nat} (hN : N ≤ 16) (hs : h.2 (200 + 19) 0 = N) (hn : n < N) : Cl X 44 [vr (200 + 19), vi n] h Q ↔ Q none (dI h.1 n (N - 1) ((N - 1) * 6), up2 h.2 (200 + 19) 0 ((N : Int) - 1)) := by
  rw [c_44]
  simp (disch := first | assumption | omega) only [e_44_0, e_44_1, e_44_2, e_44_3, onI_s, onR_s, onL_s, gl_0, gl_n, gl_1, gl_2, gl_3, gl_4, gl_5, gl_6, gl_7, gl_8, gl_9, gl_10, gl_11, gl_12, gl_13, gl_14, gl_15, gl_16, gl_17, sk0i, sk0r, sk0n, sk1i, sk1r, sk1n, sk_2, sk_3, sk_4, sk_5, sk_6, sk_7, sk_8, sk_9, sk_10, sk_11, sk_12, sk_13, sk_14, sk_15, sk_16, sk_17, ls_0, ls_1, ls_2, ls_3, ls_4, ls_5, ls_6, ls_7, ls_8, ls_9, ls_10, ls_11, ls_12, ls_13, ls_14, ls_15, ls_16, ls_17, ct1_i, ct1_r, wd8_0, wd8_i1, wd8_r1, wd8_i2, wd8_r2, wd8_i3, wd8_r3, wd8_i4, wd8_r4, wd8_i5, wd8_r5, wd8_i6, wd8_r6, wd8_i7, wd8_r7, wd8_i8, wd8_r8, wd8_l2, wd8_l3, wd8_l4, wd8_l5, wd8_l6, wd8_l7, wd8_l8, tl_s, tl_n, inR_t, bd_t, true_and, and_true, true_or, or_true, if_true_x, if_false_x, if_pos, if_neg, Int.toNat_natCast, natL, bI_0, bI_1, bI_ft, eq_self, b_tf, b_ft, not_true_eq_false, not_false_eq_true, cast_s]
  have li := l_44 (I := h.1) (F := h.2) (Q := Q) hp (n := n) hN hs (N - 1 - n) n none (Nat.le_refl n) (by omega)
  have e : dI h.1 n n (n * 6) = h.1 := by
    unfold dI
    rw [shf_0, shf_0, shf_0, shf_0, up1_id (a := 220) (fun _ => rfl), up1_id (a := 221) (fun _ => rfl), up1_id (a := 222) (fun _ => rfl), up1_id (a := 223) (fun _ => rfl)]
  rw [e] at li
  exact li
theorem dI_cv {n N : Nat} (hs : F 219 0 = N) : cv (dI I n (N - 1) ((N - 1) * 6), up2 F (200 + 19) 0 ((N : Int) - 1)) 200 = dpV (cv (I, F) 200) n := by
  have e19 : cv (I, F) 200 19 0 = N := hs
  rw [cv_uF (by omega)]
  funext j i
  rw [up2_eq]
  unfold dpV
  rw [e19, Int.toNat_natCast]
  by_cases h1 : j = 20 ∨ j = 21
  · rw [if_neg (by omega), if_pos h1]
    rcases h1 with rfl | rfl
    · show dI I n (N - 1) ((N - 1) * 6) 220 i = _
      unfold dI
      rw [up1_o (by decide), up1_o (by decide), up1_o (by decide), up1_self]
      rfl
    · show dI I n (N - 1) ((N - 1) * 6) 221 i = _
      unfold dI
      rw [up1_o (by decide), up1_o (by decide), up1_self]
      rfl
  · rw [if_neg h1]
    by_cases h2 : j = 22 ∨ j = 23
    · rw [if_neg (by omega), if_pos h2]
      rcases h2 with rfl | rfl
      · show dI I n (N - 1) ((N - 1) * 6) 222 i = _
        unfold dI
        rw [up1_o (by decide), up1_self]
        rfl
      · show dI I n (N - 1) ((N - 1) * 6) 223 i = _
        unfold dI
        rw [up1_self]
        rfl
    · rw [if_neg h2]
      by_cases h3 : j = 19 ∧ i = 0
      · rw [if_pos h3, if_pos h3]
      · rw [if_neg h3, if_neg h3]
        unfold dI
        rw [cv_out (by omega), cv_out (by omega), cv_out (by omega), cv_out (by omega)]
set_option maxHeartbeats 4000000 in
theorem p_110 {h : xH} {n : Int} (ok : Ok X h) (rf : RFb (h.1 3)) (g : Gd (cv h 200)) (hq : ∀ h2, Cst X h h2 → cS h2 = (spDrop (cS h) n).2 → Q (some (vi (spDrop (cS h) n).1)) h2) : Cl X 110 [vr 0, vi n] h Q := by
  have ok0 := ok
  obtain ⟨z, os, oc, om, ⟨nb, ln, hc, hnb⟩, lp⟩ := ok
  have hp : PL X 200 := lp 0 (by decide)
  have hw := g.rg
  have w3 := hw.nN
  rw [cv_19] at w3
  unfold spDrop at hq
  rw [show (cS h).1 = cv h 200 from rfl] at hq
  rw [c_110]
  by_cases g2 : 0 ≤ n ∧ n < cv h 200 19 0
  · rw [if_neg (not_not_intro g2)] at hq
    have d := bT (show 0 ≤ n ∧ n < h.2 (200 + 19) 0 from g2)
    rw [cv_19] at g2
    simp (disch := first | assumption | omega) only [e_110_0, e_110_1, e_110_2, e_110_3, e_110_4, e_110_9, e_110_10, onI_s, onR_s, onL_s, gl_0, gl_n, gl_1, gl_2, gl_3, gl_4, gl_5, gl_6, gl_7, gl_8, gl_9, gl_10, gl_11, gl_12, gl_13, gl_14, gl_15, gl_16, gl_17, sk0i, sk0r, sk0n, sk1i, sk1r, sk1n, sk_2, sk_3, sk_4, sk_5, sk_6, sk_7, sk_8, sk_9, sk_10, sk_11, sk_12, sk_13, sk_14, sk_15, sk_16, sk_17, ls_0, ls_1, ls_2, ls_3, ls_4, ls_5, ls_6, ls_7, ls_8, ls_9, ls_10, ls_11, ls_12, ls_13, ls_14, ls_15, ls_16, ls_17, ct1_i, ct1_r, wd8_0, wd8_i1, wd8_r1, wd8_i2, wd8_r2, wd8_i3, wd8_r3, wd8_i4, wd8_r4, wd8_i5, wd8_r5, wd8_i6, wd8_r6, wd8_i7, wd8_r7, wd8_i8, wd8_r8, wd8_l2, wd8_l3, wd8_l4, wd8_l5, wd8_l6, wd8_l7, wd8_l8, tl_s, tl_n, inR_t, bd_t, true_and, and_true, true_or, or_true, if_true_x, if_false_x, if_pos, if_neg, Int.toNat_natCast, natL, bI_0, bI_1, bI_ft, eq_self, b_tf, b_ft, not_true_eq_false, not_false_eq_true, m_80 hp, d, hc.t0, hc.r0_0, hc.r0_1, hc.r0_3, hc.r0_5, hc.r0_6, hc.r0_7, hc.r0_8, hc.r0_9, hc.r0_10, hc.r0_11, hc.r0_12, hc.r0_13, hp.t0, hp.t1, hp.t2, hp.t3, hp.t4, hp.t5, hp.t6, hp.t7, hp.t8, hp.t9, hp.t10, hp.t11, hp.t12, hp.t13, hp.t14, hp.t15, hp.t16, hp.t17, hp.t18, hp.t19, hp.t20, hp.t21, hp.t22, hp.t23, hp.z2, hp.z3, hp.z4, hp.z5, hp.z7, hp.z8, hp.z9, hp.z10, hp.z12, hp.z13, hp.z14, hp.z15, hp.z16, hp.z17, hp.z18, hp.z20, hp.z21, hp.z22, hp.z23, hp.r0_2, hp.r0_3, hp.r0_4, hp.r0_5, hp.r1_1, hp.r1_2, hp.r1_3, hp.r1_4, hp.r6_1, hp.r6_2, hp.r6_3, hp.r6_4, hp.r11_1, hp.r11_2, hp.r11_3, hp.r11_4, hp.r11_5, hp.r11_6, hp.r11_7, hp.r19_1, hp.r19_2, hp.r19_3, hp.r19_4]
    (rw [e_110_11]; refine ⟨⟨hc.t0, by decide⟩, ?_⟩)
    refine kpC ok0 g (fun h2 k => ?_)
    obtain ⟨nn, rfl⟩ : ∃ nn : Nat, n = nn := ⟨n.toNat, by omega⟩
    obtain ⟨N, hN⟩ : ∃ N : Nat, h.2 (200 + 19) 0 = N := ⟨(h.2 (200 + 19) 0).toNat, by omega⟩
    have e21 := (k.2.2.2 (200 + 21) (by omega) (by omega) (by omega) (by omega)).1
    have e19 : h2.2 (200 + 19) 0 = N := by rw [(k.2.2.2 (200 + 19) (by omega) (by omega) (by omega) (by omega)).2]; exact hN
    simp (disch := first | assumption | omega) only [e_110_12, e_110_13, e_110_14, e_110_15, e_110_16, e_110_17, e_110_18, e_110_19, e_110_20, e_110_21, e_110_22, e_110_23, e_110_24, e_110_25, onI_s, onR_s, onL_s, gl_0, gl_n, gl_1, gl_2, gl_3, gl_4, gl_5, gl_6, gl_7, gl_8, gl_9, gl_10, gl_11, gl_12, gl_13, gl_14, gl_15, gl_16, gl_17, sk0i, sk0r, sk0n, sk1i, sk1r, sk1n, sk_2, sk_3, sk_4, sk_5, sk_6, sk_7, sk_8, sk_9, sk_10, sk_11, sk_12, sk_13, sk_14, sk_15, sk_16, sk_17, ls_0, ls_1, ls_2, ls_3, ls_4, ls_5, ls_6, ls_7, ls_8, ls_9, ls_10, ls_11, ls_12, ls_13, ls_14, ls_15, ls_16, ls_17, ct1_i, ct1_r, wd8_0, wd8_i1, wd8_r1, wd8_i2, wd8_r2, wd8_i3, wd8_r3, wd8_i4, wd8_r4, wd8_i5, wd8_r5, wd8_i6, wd8_r6, wd8_i7, wd8_r7, wd8_i8, wd8_r8, wd8_l2, wd8_l3, wd8_l4, wd8_l5, wd8_l6, wd8_l7, wd8_l8, tl_s, tl_n, inR_t, bd_t, true_and, and_true, true_or, or_true, if_true_x, if_false_x, if_pos, if_neg, Int.toNat_natCast, natL, bI_0, bI_1, bI_ft, eq_self, b_tf, b_ft, not_true_eq_false, not_false_eq_true, m_44 (N := N) hp (show N ≤ 16 by omega) e19 (show nn < N by omega), e21, hc.t0, hc.r0_0, hc.r0_1, hc.r0_3, hc.r0_5, hc.r0_6, hc.r0_7, hc.r0_8, hc.r0_9, hc.r0_10, hc.r0_11, hc.r0_12, hc.r0_13, hp.t0, hp.t1, hp.t2, hp.t3, hp.t4, hp.t5, hp.t6, hp.t7, hp.t8, hp.t9, hp.t10, hp.t11, hp.t12, hp.t13, hp.t14, hp.t15, hp.t16, hp.t17, hp.t18, hp.t19, hp.t20, hp.t21, hp.t22, hp.t23, hp.z2, hp.z3, hp.z4, hp.z5, hp.z7, hp.z8, hp.z9, hp.z10, hp.z12, hp.z13, hp.z14, hp.z15, hp.z16, hp.z17, hp.z18, hp.z20, hp.z21, hp.z22, hp.z23, hp.r0_2, hp.r0_3, hp.r0_4, hp.r0_5, hp.r1_1, hp.r1_2, hp.r1_3, hp.r1_4, hp.r6_1, hp.r6_2, hp.r6_3, hp.r6_4, hp.r11_1, hp.r11_2, hp.r11_3, hp.r11_4, hp.r11_5, hp.r11_6, hp.r11_7, hp.r19_1, hp.r19_2, hp.r19_3, hp.r19_4]
    have z2 := k.1.1
    have zr : ∀ a hi d, (a = 220 ∨ a = 221 ∨ a = 222 ∨ a = 223) → hi ≤ X.2.1 a → ∀ lo j, X.2.1 a ≤ j → shf (h2.1 a) lo hi d j = 0 := by
      intro a hi d ha hh lo j hj
      rw [shf_r (by omega)]
      refine z2 a j (Or.inl ?_) hj
      rcases ha with rfl | rfl | rfl | rfl
      · exact hp.t20
      · exact hp.t21
      · exact hp.t22
      · exact hp.t23
    have l20 : X.2.1 220 = 16 := hp.z20
    have l21 : X.2.1 221 = 16 := hp.z21
    have l22 : X.2.1 222 = 96 := hp.z22
    have l23 : X.2.1 223 = 96 := hp.z23
    have f1 := Fz.I1 (X := X) (h := h2) (I := h2.1) (F := h2.2) (a := 220) (g := shf (h2.1 220) nn (N - 1) 1) (Fz.refl z2) (by omega) (zr 220 _ _ (by omega) (by omega) _)
    have f2 := Fz.I1 (a := 221) (g := shf (h2.1 221) nn (N - 1) 1) f1 (by omega) (zr 221 _ _ (by omega) (by omega) _)
    have f3 := Fz.I1 (a := 222) (g := shf (h2.1 222) (nn * 6) ((N - 1) * 6) 6) f2 (by omega) (zr 222 _ _ (by omega) (by omega) _)
    have f4 := Fz.I1 (a := 223) (g := shf (h2.1 223) (nn * 6) ((N - 1) * 6) 6) f3 (by omega) (zr 223 _ _ (by omega) (by omega) _)
    have f5 := Fz.uF (x := (N : Int) - 1) (a := 200 + 19) (k := 0) f4 (by omega)
    have e := dI_cv (I := h2.1) (F := h2.2) (n := nn) e19
    rw [show cv (h2.1, h2.2) 200 = cv h 200 from k.pv] at e
    exact hq _ (act_c (r := 0) k f5 e).1 (act_c (r := 0) k f5 e).2
  · rw [if_pos g2] at hq
    have d := bF (show ¬ (0 ≤ n ∧ n < h.2 (200 + 19) 0) from g2)
    simp (disch := first | assumption | omega) only [e_110_0, e_110_1, e_110_2, e_110_3, e_110_4, e_110_5, e_110_6, e_110_7, e_110_8, onI_s, onR_s, onL_s, gl_0, gl_n, gl_1, gl_2, gl_3, gl_4, gl_5, gl_6, gl_7, gl_8, gl_9, gl_10, gl_11, gl_12, gl_13, gl_14, gl_15, gl_16, gl_17, sk0i, sk0r, sk0n, sk1i, sk1r, sk1n, sk_2, sk_3, sk_4, sk_5, sk_6, sk_7, sk_8, sk_9, sk_10, sk_11, sk_12, sk_13, sk_14, sk_15, sk_16, sk_17, ls_0, ls_1, ls_2, ls_3, ls_4, ls_5, ls_6, ls_7, ls_8, ls_9, ls_10, ls_11, ls_12, ls_13, ls_14, ls_15, ls_16, ls_17, ct1_i, ct1_r, wd8_0, wd8_i1, wd8_r1, wd8_i2, wd8_r2, wd8_i3, wd8_r3, wd8_i4, wd8_r4, wd8_i5, wd8_r5, wd8_i6, wd8_r6, wd8_i7, wd8_r7, wd8_i8, wd8_r8, wd8_l2, wd8_l3, wd8_l4, wd8_l5, wd8_l6, wd8_l7, wd8_l8, tl_s, tl_n, inR_t, bd_t, true_and, and_true, true_or, or_true, if_true_x, if_false_x, if_pos, if_neg, Int.toNat_natCast, natL, bI_0, bI_1, bI_ft, eq_self, b_tf, b_ft, not_true_eq_false, not_false_eq_true, m_80 hp, d, rfC ok0 rf, hc.t0, hc.r0_0, hc.r0_1, hc.r0_3, hc.r0_5, hc.r0_6, hc.r0_7, hc.r0_8, hc.r0_9, hc.r0_10, hc.r0_11, hc.r0_12, hc.r0_13, hp.t0, hp.t1, hp.t2, hp.t3, hp.t4, hp.t5, hp.t6, hp.t7, hp.t8, hp.t9, hp.t10, hp.t11, hp.t12, hp.t13, hp.t14, hp.t15, hp.t16, hp.t17, hp.t18, hp.t19, hp.t20, hp.t21, hp.t22, hp.t23, hp.z2, hp.z3, hp.z4, hp.z5, hp.z7, hp.z8, hp.z9, hp.z10, hp.z12, hp.z13, hp.z14, hp.z15, hp.z16, hp.z17, hp.z18, hp.z20, hp.z21, hp.z22, hp.z23, hp.r0_2, hp.r0_3, hp.r0_4, hp.r0_5, hp.r1_1, hp.r1_2, hp.r1_3, hp.r1_4, hp.r6_1, hp.r6_2, hp.r6_3, hp.r6_4, hp.r11_1, hp.r11_2, hp.r11_3, hp.r11_4, hp.r11_5, hp.r11_6, hp.r11_7, hp.r19_1, hp.r19_2, hp.r19_3, hp.r19_4]
    exact hq _ (rH_st ok0 rf (by omega) (by omega)).1 (rH_st ok0 rf (by omega) (by omega)).2
end DRP
