/-! nets made -/
def pnB (v : Nat → Nat → Int) (a b : Int) : Bool := if 200 ≤ a then (decide (0 ≤ a - 200) && decide (a - 200 < v 0 0) && decide (0 ≤ b) && decide (b < v 0 1)) else (decide (0 ≤ a) && decide (a < v 11 0) && decide (b < v 12 a.toNat))
def pnD (T : Nat → Int) (k l : Nat) : Bool := decide (T (2 * k) < 200) && decide (T (2 * l) = T (2 * k))
def pnK (v : Nat → Nat → Int) (T : Nat → Int) (k : Nat) : Bool := pnB v (T (2 * k)) (T (2 * k + 1)) && !srch (pnD T k) k 0
def ntB (v : Nat → Nat → Int) (T : Nat → Int) (n : Int) : Bool := decide (n % 2 = 0) && (decide (4 ≤ n) && decide (n ≤ 12)) && !srch (fun k => !pnK v T k) (n / 2).toNat 0
def pnW (n : Nat) (T : Nat → Int) : Nat → Nat → (Nat → Nat → Int) → (Nat → Nat → Int)
  | 0, _, v => v
  | m + 1, k, v => pnW n T m (k + 1) (up2 (up2 v 22 (n * 6 + k) (T (2 * k))) 23 (n * 6 + k) (T (2 * k + 1)))
def adN (v : Nat → Nat → Int) (w : Int) (T : Nat → Int) (p : Int) : Nat → Nat → Int := up2 (pnW (v 19 0).toNat T p.toNat 0 (up2 (up2 v 20 (v 19 0).toNat w) 21 (v 19 0).toNat p)) 19 0 (v 19 0 + 1)
def tp0 (s : AS) : AS := (s.1, s.2.1, s.2.2.1, 0, s.2.2.2.2)
def spNet (s : AS) (w : Int) : Int × AS := if ¬ (1 ≤ w ∧ w ≤ 9) then refS s (-1) else if s.1 19 0 = 16 then refS s (-5) else if ntB s.1 s.2.2.1 s.2.2.2.1 = false then refS (tp0 s) (-6) else actS (tp0 s) 3 (s.1 19 0) (adN s.1 w s.2.2.1 (s.2.2.2.1 / 2))
def TPb (T : Nat → Int) : Prop := ∀ i, 0 ≤ T i ∧ T i ≤ 255
theorem pnW_o {n : Nat} {T : Nat → Int} {j : Nat} (hj : j ≠ 22 ∧ j ≠ 23) : ∀ (m k : Nat) (v : Nat → Nat → Int), pnW n T m k v j = v j
  | 0, _, _ => rfl
  | m + 1, k, v => by rw [pnW, pnW_o hj m (k + 1), up2_of (by omega), up2_of (by omega)]
theorem srch_cg {p q : Nat → Bool} : ∀ (m i : Nat), (∀ d, i ≤ d → d < i + m → p d = q d) → srch p m i = srch q m i
  | 0, _, _ => rfl
  | m + 1, i, h => by
    rw [srch, srch, h i (by omega) (by omega), srch_cg m (i + 1) (fun d h1 h2 => h d (by omega) (by omega))]
section NTC
variable {X : xL} {ns nb ln : Nat} {h : xH} {Q : Option xV → xH → Prop}
theorem ev2 {k : Nat} : (2 * (k : Int)).toNat = 2 * k := by omega
theorem ev3 {k : Nat} : (2 * (k : Int) + 1).toNat = 2 * k + 1 := by omega
theorem ev4 {k : Nat} : 2 * (k : Int) + 2 = 2 * ((k + 1 : Nat) : Int) := by omega
set_option maxHeartbeats 2000000 in
theorem m_143 (hc : CT X ns nb ln) (hp : PL X 200) (hw : RGv (cv h 200)) {a b : Int} (a0 : 0 ≤ a) (a1 : a ≤ 255) (b0 : 0 ≤ b) (b1 : b ≤ 255) : Cl X 143 [vr 0, vi a, vi b] h Q ↔ Q (some (vi (bI (pnB (cv h 200) a b)))) h := by
  have nC := hw.nC
  rw [cv_11] at nC
  rw [c_143]
  by_cases e : 200 ≤ a
  · have ep : pnB (cv h 200) a b = (decide (0 ≤ a - 200) && decide (a - 200 < h.2 200 0) && decide (0 ≤ b) && decide (b < h.2 200 1)) := by
      unfold pnB
      rw [if_pos e]
      rfl
    rw [ep]
    simp (disch := first | assumption | omega) only [e_143_0, e_143_1, e_143_2, e_143_3, e_143_4, e_143_5, e_143_6, e_143_7, e_143_8, e_143_9, e_143_10, onI_s, onR_s, onL_s, gl_0, gl_n, gl_1, gl_2, gl_3, gl_4, gl_5, gl_6, gl_7, gl_8, gl_9, gl_10, gl_11, gl_12, gl_13, gl_14, gl_15, gl_16, gl_17, sk0i, sk0r, sk0n, sk1i, sk1r, sk1n, sk_2, sk_3, sk_4, sk_5, sk_6, sk_7, sk_8, sk_9, sk_10, sk_11, sk_12, sk_13, sk_14, sk_15, sk_16, sk_17, ls_0, ls_1, ls_2, ls_3, ls_4, ls_5, ls_6, ls_7, ls_8, ls_9, ls_10, ls_11, ls_12, ls_13, ls_14, ls_15, ls_16, ls_17, ct1_i, ct1_r, wd8_0, wd8_i1, wd8_r1, wd8_i2, wd8_r2, wd8_i3, wd8_r3, wd8_i4, wd8_r4, wd8_i5, wd8_r5, wd8_i6, wd8_r6, wd8_i7, wd8_r7, wd8_i8, wd8_r8, wd8_l2, wd8_l3, wd8_l4, wd8_l5, wd8_l6, wd8_l7, wd8_l8, tl_s, tl_n, inR_t, bd_t, true_and, and_true, true_or, or_true, if_true_x, if_false_x, if_pos, if_neg, Int.toNat_natCast, natL, bI_0, bI_1, bI_ft, eq_self, b_tf, b_ft, not_true_eq_false, not_false_eq_true, m_77 hp, hc.t0, hc.r0_0, hc.r0_1, hc.r0_3, hc.r0_5, hc.r0_6, hc.r0_7, hc.r0_8, hc.r0_9, hc.r0_10, hc.r0_11, hc.r0_12, hc.r0_13, hp.t0, hp.t1, hp.t2, hp.t3, hp.t4, hp.t5, hp.t6, hp.t7, hp.t8, hp.t9, hp.t10, hp.t11, hp.t12, hp.t13, hp.t14, hp.t15, hp.t16, hp.t17, hp.t18, hp.t19, hp.t20, hp.t21, hp.t22, hp.t23, hp.z2, hp.z3, hp.z4, hp.z5, hp.z7, hp.z8, hp.z9, hp.z10, hp.z12, hp.z13, hp.z14, hp.z15, hp.z16, hp.z17, hp.z18, hp.z20, hp.z21, hp.z22, hp.z23, hp.r0_2, hp.r0_3, hp.r0_4, hp.r0_5, hp.r1_1, hp.r1_2, hp.r1_3, hp.r1_4, hp.r6_1, hp.r6_2, hp.r6_3, hp.r6_4, hp.r11_1, hp.r11_2, hp.r11_3, hp.r11_4, hp.r11_5, hp.r11_6, hp.r11_7, hp.r19_1, hp.r19_2, hp.r19_3, hp.r19_4]
  · have ep : pnB (cv h 200) a b = (decide (0 ≤ a) && decide (a < h.2 (200 + 11) 0) && decide (b < h.1 (200 + 12) a.toNat)) := by
      unfold pnB
      rw [if_neg e]
      rfl
    rw [ep]
    by_cases g2 : 0 ≤ a ∧ a < h.2 (200 + 11) 0
    · have d := bT g2
      by_cases g3 : b < h.1 (200 + 12) a.toNat
      · simp (disch := first | assumption | omega) only [e_143_0, e_143_1, e_143_2, e_143_11, e_143_12, e_143_13, e_143_14, e_143_15, e_143_16, e_143_17, e_143_18, e_143_19, e_143_20, e_143_21, e_143_22, e_143_23, e_143_24, e_143_25, e_143_26, e_143_27, onI_s, onR_s, onL_s, gl_0, gl_n, gl_1, gl_2, gl_3, gl_4, gl_5, gl_6, gl_7, gl_8, gl_9, gl_10, gl_11, gl_12, gl_13, gl_14, gl_15, gl_16, gl_17, sk0i, sk0r, sk0n, sk1i, sk1r, sk1n, sk_2, sk_3, sk_4, sk_5, sk_6, sk_7, sk_8, sk_9, sk_10, sk_11, sk_12, sk_13, sk_14, sk_15, sk_16, sk_17, ls_0, ls_1, ls_2, ls_3, ls_4, ls_5, ls_6, ls_7, ls_8, ls_9, ls_10, ls_11, ls_12, ls_13, ls_14, ls_15, ls_16, ls_17, ct1_i, ct1_r, wd8_0, wd8_i1, wd8_r1, wd8_i2, wd8_r2, wd8_i3, wd8_r3, wd8_i4, wd8_r4, wd8_i5, wd8_r5, wd8_i6, wd8_r6, wd8_i7, wd8_r7, wd8_i8, wd8_r8, wd8_l2, wd8_l3, wd8_l4, wd8_l5, wd8_l6, wd8_l7, wd8_l8, tl_s, tl_n, inR_t, bd_t, true_and, and_true, true_or, or_true, if_true_x, if_false_x, if_pos, if_neg, Int.toNat_natCast, natL, bI_0, bI_1, bI_ft, eq_self, b_tf, b_ft, not_true_eq_false, not_false_eq_true, m_79 hp, d, hc.t0, hc.r0_0, hc.r0_1, hc.r0_3, hc.r0_5, hc.r0_6, hc.r0_7, hc.r0_8, hc.r0_9, hc.r0_10, hc.r0_11, hc.r0_12, hc.r0_13, hp.t0, hp.t1, hp.t2, hp.t3, hp.t4, hp.t5, hp.t6, hp.t7, hp.t8, hp.t9, hp.t10, hp.t11, hp.t12, hp.t13, hp.t14, hp.t15, hp.t16, hp.t17, hp.t18, hp.t19, hp.t20, hp.t21, hp.t22, hp.t23, hp.z2, hp.z3, hp.z4, hp.z5, hp.z7, hp.z8, hp.z9, hp.z10, hp.z12, hp.z13, hp.z14, hp.z15, hp.z16, hp.z17, hp.z18, hp.z20, hp.z21, hp.z22, hp.z23, hp.r0_2, hp.r0_3, hp.r0_4, hp.r0_5, hp.r1_1, hp.r1_2, hp.r1_3, hp.r1_4, hp.r6_1, hp.r6_2, hp.r6_3, hp.r6_4, hp.r11_1, hp.r11_2, hp.r11_3, hp.r11_4, hp.r11_5, hp.r11_6, hp.r11_7, hp.r19_1, hp.r19_2, hp.r19_3, hp.r19_4]
        simp [g3, bI]
      · simp (disch := first | assumption | omega) only [e_143_0, e_143_1, e_143_2, e_143_11, e_143_12, e_143_13, e_143_14, e_143_15, e_143_16, e_143_17, e_143_18, e_143_19, e_143_20, e_143_21, e_143_22, e_143_23, e_143_24, e_143_25, e_143_26, e_143_27, onI_s, onR_s, onL_s, gl_0, gl_n, gl_1, gl_2, gl_3, gl_4, gl_5, gl_6, gl_7, gl_8, gl_9, gl_10, gl_11, gl_12, gl_13, gl_14, gl_15, gl_16, gl_17, sk0i, sk0r, sk0n, sk1i, sk1r, sk1n, sk_2, sk_3, sk_4, sk_5, sk_6, sk_7, sk_8, sk_9, sk_10, sk_11, sk_12, sk_13, sk_14, sk_15, sk_16, sk_17, ls_0, ls_1, ls_2, ls_3, ls_4, ls_5, ls_6, ls_7, ls_8, ls_9, ls_10, ls_11, ls_12, ls_13, ls_14, ls_15, ls_16, ls_17, ct1_i, ct1_r, wd8_0, wd8_i1, wd8_r1, wd8_i2, wd8_r2, wd8_i3, wd8_r3, wd8_i4, wd8_r4, wd8_i5, wd8_r5, wd8_i6, wd8_r6, wd8_i7, wd8_r7, wd8_i8, wd8_r8, wd8_l2, wd8_l3, wd8_l4, wd8_l5, wd8_l6, wd8_l7, wd8_l8, tl_s, tl_n, inR_t, bd_t, true_and, and_true, true_or, or_true, if_true_x, if_false_x, if_pos, if_neg, Int.toNat_natCast, natL, bI_0, bI_1, bI_ft, eq_self, b_tf, b_ft, not_true_eq_false, not_false_eq_true, m_79 hp, d, hc.t0, hc.r0_0, hc.r0_1, hc.r0_3, hc.r0_5, hc.r0_6, hc.r0_7, hc.r0_8, hc.r0_9, hc.r0_10, hc.r0_11, hc.r0_12, hc.r0_13, hp.t0, hp.t1, hp.t2, hp.t3, hp.t4, hp.t5, hp.t6, hp.t7, hp.t8, hp.t9, hp.t10, hp.t11, hp.t12, hp.t13, hp.t14, hp.t15, hp.t16, hp.t17, hp.t18, hp.t19, hp.t20, hp.t21, hp.t22, hp.t23, hp.z2, hp.z3, hp.z4, hp.z5, hp.z7, hp.z8, hp.z9, hp.z10, hp.z12, hp.z13, hp.z14, hp.z15, hp.z16, hp.z17, hp.z18, hp.z20, hp.z21, hp.z22, hp.z23, hp.r0_2, hp.r0_3, hp.r0_4, hp.r0_5, hp.r1_1, hp.r1_2, hp.r1_3, hp.r1_4, hp.r6_1, hp.r6_2, hp.r6_3, hp.r6_4, hp.r11_1, hp.r11_2, hp.r11_3, hp.r11_4, hp.r11_5, hp.r11_6, hp.r11_7, hp.r19_1, hp.r19_2, hp.r19_3, hp.r19_4]
        simp [g3, bI]
    · have d := bF g2
      simp (disch := first | assumption | omega) only [e_143_0, e_143_1, e_143_2, e_143_11, e_143_12, e_143_13, e_143_14, e_143_15, e_143_16, e_143_17, e_143_18, e_143_19, e_143_20, e_143_21, e_143_22, e_143_23, e_143_24, e_143_25, e_143_26, e_143_27, onI_s, onR_s, onL_s, gl_0, gl_n, gl_1, gl_2, gl_3, gl_4, gl_5, gl_6, gl_7, gl_8, gl_9, gl_10, gl_11, gl_12, gl_13, gl_14, gl_15, gl_16, gl_17, sk0i, sk0r, sk0n, sk1i, sk1r, sk1n, sk_2, sk_3, sk_4, sk_5, sk_6, sk_7, sk_8, sk_9, sk_10, sk_11, sk_12, sk_13, sk_14, sk_15, sk_16, sk_17, ls_0, ls_1, ls_2, ls_3, ls_4, ls_5, ls_6, ls_7, ls_8, ls_9, ls_10, ls_11, ls_12, ls_13, ls_14, ls_15, ls_16, ls_17, ct1_i, ct1_r, wd8_0, wd8_i1, wd8_r1, wd8_i2, wd8_r2, wd8_i3, wd8_r3, wd8_i4, wd8_r4, wd8_i5, wd8_r5, wd8_i6, wd8_r6, wd8_i7, wd8_r7, wd8_i8, wd8_r8, wd8_l2, wd8_l3, wd8_l4, wd8_l5, wd8_l6, wd8_l7, wd8_l8, tl_s, tl_n, inR_t, bd_t, true_and, and_true, true_or, or_true, if_true_x, if_false_x, if_pos, if_neg, Int.toNat_natCast, natL, bI_0, bI_1, bI_ft, eq_self, b_tf, b_ft, not_true_eq_false, not_false_eq_true, m_79 hp, d, hc.t0, hc.r0_0, hc.r0_1, hc.r0_3, hc.r0_5, hc.r0_6, hc.r0_7, hc.r0_8, hc.r0_9, hc.r0_10, hc.r0_11, hc.r0_12, hc.r0_13, hp.t0, hp.t1, hp.t2, hp.t3, hp.t4, hp.t5, hp.t6, hp.t7, hp.t8, hp.t9, hp.t10, hp.t11, hp.t12, hp.t13, hp.t14, hp.t15, hp.t16, hp.t17, hp.t18, hp.t19, hp.t20, hp.t21, hp.t22, hp.t23, hp.z2, hp.z3, hp.z4, hp.z5, hp.z7, hp.z8, hp.z9, hp.z10, hp.z12, hp.z13, hp.z14, hp.z15, hp.z16, hp.z17, hp.z18, hp.z20, hp.z21, hp.z22, hp.z23, hp.r0_2, hp.r0_3, hp.r0_4, hp.r0_5, hp.r1_1, hp.r1_2, hp.r1_3, hp.r1_4, hp.r6_1, hp.r6_2, hp.r6_3, hp.r6_4, hp.r11_1, hp.r11_2, hp.r11_3, hp.r11_4, hp.r11_5, hp.r11_6, hp.r11_7, hp.r19_1, hp.r19_2, hp.r19_3, hp.r19_4]
      simp [bI]
set_option maxHeartbeats 4000000 in
theorem l_142i (hc : CT X ns nb ln) (tp : TPb (h.1 2)) {n : Int} {k : Nat} (hk : k < 6) : ∀ (m l : Nat), l + m = k → (Ev X 142 34 [some (vr 0), some (vi n), some (vi (2 * (k : Int))), some (vi (2 * (l : Int)))] [] h Q ↔ (if srch (pnD (h.1 2) k) m l = true then Q (some (vi 0)) h else Ev X 142 56 [some (vr 0), some (vi n), some (vi (2 * (k : Int))), some (vi (2 * (k : Int)))] [] h Q)) := by
  intro m
  induction m with
  | zero =>
    intro l hm
    rw [e_142_34]
    simp (disch := first | assumption | omega) only [e_142_35, e_142_36, onI_s, onR_s, onL_s, gl_0, gl_n, gl_1, gl_2, gl_3, gl_4, gl_5, gl_6, gl_7, gl_8, gl_9, gl_10, gl_11, gl_12, gl_13, gl_14, gl_15, gl_16, gl_17, sk0i, sk0r, sk0n, sk1i, sk1r, sk1n, sk_2, sk_3, sk_4, sk_5, sk_6, sk_7, sk_8, sk_9, sk_10, sk_11, sk_12, sk_13, sk_14, sk_15, sk_16, sk_17, ls_0, ls_1, ls_2, ls_3, ls_4, ls_5, ls_6, ls_7, ls_8, ls_9, ls_10, ls_11, ls_12, ls_13, ls_14, ls_15, ls_16, ls_17, ct1_i, ct1_r, wd8_0, wd8_i1, wd8_r1, wd8_i2, wd8_r2, wd8_i3, wd8_r3, wd8_i4, wd8_r4, wd8_i5, wd8_r5, wd8_i6, wd8_r6, wd8_i7, wd8_r7, wd8_i8, wd8_r8, wd8_l2, wd8_l3, wd8_l4, wd8_l5, wd8_l6, wd8_l7, wd8_l8, tl_s, tl_n, inR_t, bd_t, true_and, and_true, true_or, or_true, if_true_x, if_false_x, if_pos, if_neg, Int.toNat_natCast, natL, bI_0, bI_1, bI_ft, eq_self, b_tf, b_ft, not_true_eq_false, not_false_eq_true]
    rw [show l = k by omega, srch, if_neg (by simp)]
  | succ m ih =>
    intro l hm
    have t1 := tp (2 * k)
    rw [e_142_34, srch]
    by_cases e1 : 200 ≤ h.1 2 (2 * k)
    · have ep : ¬ pnD (h.1 2) k l = true := by unfold pnD; simp; omega
      simp (disch := first | assumption | omega) only [e_142_35, e_142_36, e_142_37, e_142_38, e_142_39, e_142_40, e_142_41, e_142_42, e_142_54, e_142_55, onI_s, onR_s, onL_s, gl_0, gl_n, gl_1, gl_2, gl_3, gl_4, gl_5, gl_6, gl_7, gl_8, gl_9, gl_10, gl_11, gl_12, gl_13, gl_14, gl_15, gl_16, gl_17, sk0i, sk0r, sk0n, sk1i, sk1r, sk1n, sk_2, sk_3, sk_4, sk_5, sk_6, sk_7, sk_8, sk_9, sk_10, sk_11, sk_12, sk_13, sk_14, sk_15, sk_16, sk_17, ls_0, ls_1, ls_2, ls_3, ls_4, ls_5, ls_6, ls_7, ls_8, ls_9, ls_10, ls_11, ls_12, ls_13, ls_14, ls_15, ls_16, ls_17, ct1_i, ct1_r, wd8_0, wd8_i1, wd8_r1, wd8_i2, wd8_r2, wd8_i3, wd8_r3, wd8_i4, wd8_r4, wd8_i5, wd8_r5, wd8_i6, wd8_r6, wd8_i7, wd8_r7, wd8_i8, wd8_r8, wd8_l2, wd8_l3, wd8_l4, wd8_l5, wd8_l6, wd8_l7, wd8_l8, tl_s, tl_n, inR_t, bd_t, true_and, and_true, true_or, or_true, if_true_x, if_false_x, if_pos, if_neg, Int.toNat_natCast, natL, bI_0, bI_1, bI_ft, eq_self, b_tf, b_ft, not_true_eq_false, not_false_eq_true, ev2, ev4, hc.t0, hc.r0_0, hc.r0_1, hc.r0_3, hc.r0_5, hc.r0_6, hc.r0_7, hc.r0_8, hc.r0_9, hc.r0_10, hc.r0_11, hc.r0_12, hc.r0_13, hc.t2, hc.z2]
      rw [ih (l + 1) (by omega)]
    · by_cases e2 : h.1 2 (2 * l) = h.1 2 (2 * k)
      · have ep : pnD (h.1 2) k l = true := by unfold pnD; simp [e2]; omega
        simp (disch := first | assumption | omega) only [e_142_35, e_142_36, e_142_37, e_142_38, e_142_39, e_142_40, e_142_41, e_142_42, e_142_43, e_142_44, e_142_45, e_142_46, e_142_47, e_142_48, e_142_49, e_142_50, e_142_51, e_142_52, e_142_53, onI_s, onR_s, onL_s, gl_0, gl_n, gl_1, gl_2, gl_3, gl_4, gl_5, gl_6, gl_7, gl_8, gl_9, gl_10, gl_11, gl_12, gl_13, gl_14, gl_15, gl_16, gl_17, sk0i, sk0r, sk0n, sk1i, sk1r, sk1n, sk_2, sk_3, sk_4, sk_5, sk_6, sk_7, sk_8, sk_9, sk_10, sk_11, sk_12, sk_13, sk_14, sk_15, sk_16, sk_17, ls_0, ls_1, ls_2, ls_3, ls_4, ls_5, ls_6, ls_7, ls_8, ls_9, ls_10, ls_11, ls_12, ls_13, ls_14, ls_15, ls_16, ls_17, ct1_i, ct1_r, wd8_0, wd8_i1, wd8_r1, wd8_i2, wd8_r2, wd8_i3, wd8_r3, wd8_i4, wd8_r4, wd8_i5, wd8_r5, wd8_i6, wd8_r6, wd8_i7, wd8_r7, wd8_i8, wd8_r8, wd8_l2, wd8_l3, wd8_l4, wd8_l5, wd8_l6, wd8_l7, wd8_l8, tl_s, tl_n, inR_t, bd_t, true_and, and_true, true_or, or_true, if_true_x, if_false_x, if_pos, if_neg, Int.toNat_natCast, natL, bI_0, bI_1, bI_ft, eq_self, b_tf, b_ft, not_true_eq_false, not_false_eq_true, ev2, e2, hc.t0, hc.r0_0, hc.r0_1, hc.r0_3, hc.r0_5, hc.r0_6, hc.r0_7, hc.r0_8, hc.r0_9, hc.r0_10, hc.r0_11, hc.r0_12, hc.r0_13, hc.t2, hc.z2]
      · have ep : ¬ pnD (h.1 2) k l = true := by unfold pnD; simp [e2]
        simp (disch := first | assumption | omega) only [e_142_35, e_142_36, e_142_37, e_142_38, e_142_39, e_142_40, e_142_41, e_142_42, e_142_43, e_142_44, e_142_45, e_142_46, e_142_47, e_142_48, e_142_49, e_142_50, e_142_51, e_142_54, e_142_55, onI_s, onR_s, onL_s, gl_0, gl_n, gl_1, gl_2, gl_3, gl_4, gl_5, gl_6, gl_7, gl_8, gl_9, gl_10, gl_11, gl_12, gl_13, gl_14, gl_15, gl_16, gl_17, sk0i, sk0r, sk0n, sk1i, sk1r, sk1n, sk_2, sk_3, sk_4, sk_5, sk_6, sk_7, sk_8, sk_9, sk_10, sk_11, sk_12, sk_13, sk_14, sk_15, sk_16, sk_17, ls_0, ls_1, ls_2, ls_3, ls_4, ls_5, ls_6, ls_7, ls_8, ls_9, ls_10, ls_11, ls_12, ls_13, ls_14, ls_15, ls_16, ls_17, ct1_i, ct1_r, wd8_0, wd8_i1, wd8_r1, wd8_i2, wd8_r2, wd8_i3, wd8_r3, wd8_i4, wd8_r4, wd8_i5, wd8_r5, wd8_i6, wd8_r6, wd8_i7, wd8_r7, wd8_i8, wd8_r8, wd8_l2, wd8_l3, wd8_l4, wd8_l5, wd8_l6, wd8_l7, wd8_l8, tl_s, tl_n, inR_t, bd_t, true_and, and_true, true_or, or_true, if_true_x, if_false_x, if_pos, if_neg, Int.toNat_natCast, natL, bI_0, bI_1, bI_ft, eq_self, b_tf, b_ft, not_true_eq_false, not_false_eq_true, ev2, ev4, e2, hc.t0, hc.r0_0, hc.r0_1, hc.r0_3, hc.r0_5, hc.r0_6, hc.r0_7, hc.r0_8, hc.r0_9, hc.r0_10, hc.r0_11, hc.r0_12, hc.r0_13, hc.t2, hc.z2]
        rw [ih (l + 1) (by omega)]
set_option maxHeartbeats 4000000 in
theorem l_142 (hc : CT X ns nb ln) (hp : PL X 200) (hw : RGv (cv h 200)) (tp : TPb (h.1 2)) {n : Int} {nn : Nat} (hn : n = 2 * (nn : Int)) (hn6 : nn ≤ 6) : ∀ (m k : Nat) (x3 : Option xV), k + m = nn → (Ev X 142 14 [some (vr 0), some (vi n), some (vi (2 * (k : Int))), x3] [] h Q ↔ Q (some (vi (bI (!srch (fun k => !pnK (cv h 200) (h.1 2) k) m k)))) h) := by
  intro m
  induction m with
  | zero =>
    intro k x3 hm
    rw [e_142_14]
    simp (disch := first | assumption | omega) only [e_142_15, e_142_16, e_142_58, e_142_59, onI_s, onR_s, onL_s, gl_0, gl_n, gl_1, gl_2, gl_3, gl_4, gl_5, gl_6, gl_7, gl_8, gl_9, gl_10, gl_11, gl_12, gl_13, gl_14, gl_15, gl_16, gl_17, sk0i, sk0r, sk0n, sk1i, sk1r, sk1n, sk_2, sk_3, sk_4, sk_5, sk_6, sk_7, sk_8, sk_9, sk_10, sk_11, sk_12, sk_13, sk_14, sk_15, sk_16, sk_17, ls_0, ls_1, ls_2, ls_3, ls_4, ls_5, ls_6, ls_7, ls_8, ls_9, ls_10, ls_11, ls_12, ls_13, ls_14, ls_15, ls_16, ls_17, ct1_i, ct1_r, wd8_0, wd8_i1, wd8_r1, wd8_i2, wd8_r2, wd8_i3, wd8_r3, wd8_i4, wd8_r4, wd8_i5, wd8_r5, wd8_i6, wd8_r6, wd8_i7, wd8_r7, wd8_i8, wd8_r8, wd8_l2, wd8_l3, wd8_l4, wd8_l5, wd8_l6, wd8_l7, wd8_l8, tl_s, tl_n, inR_t, bd_t, true_and, and_true, true_or, or_true, if_true_x, if_false_x, if_pos, if_neg, Int.toNat_natCast, natL, bI_0, bI_1, bI_ft, eq_self, b_tf, b_ft, not_true_eq_false, not_false_eq_true]
    simp [srch, bI]
  | succ m ih =>
    intro k x3 hm
    have t1 := tp (2 * k)
    have t2 := tp (2 * k + 1)
    rw [e_142_14, srch]
    cases e1 : pnB (cv h 200) (h.1 2 (2 * k)) (h.1 2 (2 * k + 1))
    · have ep : pnK (cv h 200) (h.1 2) k = false := by unfold pnK; rw [e1, Bool.false_and]
      simp (disch := first | assumption | omega) only [e_142_15, e_142_16, e_142_17, e_142_18, e_142_19, e_142_20, e_142_21, e_142_22, e_142_23, e_142_24, e_142_25, e_142_26, e_142_27, e_142_28, e_142_29, e_142_30, e_142_31, onI_s, onR_s, onL_s, gl_0, gl_n, gl_1, gl_2, gl_3, gl_4, gl_5, gl_6, gl_7, gl_8, gl_9, gl_10, gl_11, gl_12, gl_13, gl_14, gl_15, gl_16, gl_17, sk0i, sk0r, sk0n, sk1i, sk1r, sk1n, sk_2, sk_3, sk_4, sk_5, sk_6, sk_7, sk_8, sk_9, sk_10, sk_11, sk_12, sk_13, sk_14, sk_15, sk_16, sk_17, ls_0, ls_1, ls_2, ls_3, ls_4, ls_5, ls_6, ls_7, ls_8, ls_9, ls_10, ls_11, ls_12, ls_13, ls_14, ls_15, ls_16, ls_17, ct1_i, ct1_r, wd8_0, wd8_i1, wd8_r1, wd8_i2, wd8_r2, wd8_i3, wd8_r3, wd8_i4, wd8_r4, wd8_i5, wd8_r5, wd8_i6, wd8_r6, wd8_i7, wd8_r7, wd8_i8, wd8_r8, wd8_l2, wd8_l3, wd8_l4, wd8_l5, wd8_l6, wd8_l7, wd8_l8, tl_s, tl_n, inR_t, bd_t, true_and, and_true, true_or, or_true, if_true_x, if_false_x, if_pos, if_neg, Int.toNat_natCast, natL, bI_0, bI_1, bI_ft, eq_self, b_tf, b_ft, not_true_eq_false, not_false_eq_true, m_143 hc hp hw, ev2, ev3, e1, hc.t0, hc.r0_0, hc.r0_1, hc.r0_3, hc.r0_5, hc.r0_6, hc.r0_7, hc.r0_8, hc.r0_9, hc.r0_10, hc.r0_11, hc.r0_12, hc.r0_13, hc.t2, hc.z2]
      simp [ep, bI]
    · simp (disch := first | assumption | omega) only [e_142_15, e_142_16, e_142_17, e_142_18, e_142_19, e_142_20, e_142_21, e_142_22, e_142_23, e_142_24, e_142_25, e_142_26, e_142_27, e_142_28, e_142_29, e_142_32, e_142_33, onI_s, onR_s, onL_s, gl_0, gl_n, gl_1, gl_2, gl_3, gl_4, gl_5, gl_6, gl_7, gl_8, gl_9, gl_10, gl_11, gl_12, gl_13, gl_14, gl_15, gl_16, gl_17, sk0i, sk0r, sk0n, sk1i, sk1r, sk1n, sk_2, sk_3, sk_4, sk_5, sk_6, sk_7, sk_8, sk_9, sk_10, sk_11, sk_12, sk_13, sk_14, sk_15, sk_16, sk_17, ls_0, ls_1, ls_2, ls_3, ls_4, ls_5, ls_6, ls_7, ls_8, ls_9, ls_10, ls_11, ls_12, ls_13, ls_14, ls_15, ls_16, ls_17, ct1_i, ct1_r, wd8_0, wd8_i1, wd8_r1, wd8_i2, wd8_r2, wd8_i3, wd8_r3, wd8_i4, wd8_r4, wd8_i5, wd8_r5, wd8_i6, wd8_r6, wd8_i7, wd8_r7, wd8_i8, wd8_r8, wd8_l2, wd8_l3, wd8_l4, wd8_l5, wd8_l6, wd8_l7, wd8_l8, tl_s, tl_n, inR_t, bd_t, true_and, and_true, true_or, or_true, if_true_x, if_false_x, if_pos, if_neg, Int.toNat_natCast, natL, bI_0, bI_1, bI_ft, eq_self, b_tf, b_ft, not_true_eq_false, not_false_eq_true, m_143 hc hp hw, ev2, ev3, e1, hc.t0, hc.r0_0, hc.r0_1, hc.r0_3, hc.r0_5, hc.r0_6, hc.r0_7, hc.r0_8, hc.r0_9, hc.r0_10, hc.r0_11, hc.r0_12, hc.r0_13, hc.t2, hc.z2]
      have li := l_142i (Q := Q) (n := n) hc tp (k := k) (by omega) k 0 (by omega)
      rw [show 2 * ((0 : Nat) : Int) = 0 from rfl] at li
      rw [li]
      cases e2 : srch (pnD (h.1 2) k) k 0
      · have ep : pnK (cv h 200) (h.1 2) k = true := by unfold pnK; rw [e1, e2]; rfl
        rw [if_neg (by simp), e_142_56]
        simp (disch := first | assumption | omega) only [e_142_57, onI_s, onR_s, onL_s, gl_0, gl_n, gl_1, gl_2, gl_3, gl_4, gl_5, gl_6, gl_7, gl_8, gl_9, gl_10, gl_11, gl_12, gl_13, gl_14, gl_15, gl_16, gl_17, sk0i, sk0r, sk0n, sk1i, sk1r, sk1n, sk_2, sk_3, sk_4, sk_5, sk_6, sk_7, sk_8, sk_9, sk_10, sk_11, sk_12, sk_13, sk_14, sk_15, sk_16, sk_17, ls_0, ls_1, ls_2, ls_3, ls_4, ls_5, ls_6, ls_7, ls_8, ls_9, ls_10, ls_11, ls_12, ls_13, ls_14, ls_15, ls_16, ls_17, ct1_i, ct1_r, wd8_0, wd8_i1, wd8_r1, wd8_i2, wd8_r2, wd8_i3, wd8_r3, wd8_i4, wd8_r4, wd8_i5, wd8_r5, wd8_i6, wd8_r6, wd8_i7, wd8_r7, wd8_i8, wd8_r8, wd8_l2, wd8_l3, wd8_l4, wd8_l5, wd8_l6, wd8_l7, wd8_l8, tl_s, tl_n, inR_t, bd_t, true_and, and_true, true_or, or_true, if_true_x, if_false_x, if_pos, if_neg, Int.toNat_natCast, natL, bI_0, bI_1, bI_ft, eq_self, b_tf, b_ft, not_true_eq_false, not_false_eq_true, ev4]
        rw [ih (k + 1) _ (by omega)]
        simp [ep]
      · have ep : pnK (cv h 200) (h.1 2) k = false := by unfold pnK; rw [e1, e2]; rfl
        simp [ep, bI]
theorem dvR {x y : Int} (h : (0 ≤ x ∧ x ≤ 2147483647) ∧ 0 < y) : inR (x.tdiv y) ↔ True := ⟨fun _ => trivial, fun _ => ((dv_t h).mpr trivial).2⟩
theorem t2mod {n : Int} (h : 0 ≤ n) : n.tmod 2 = n % 2 := tm_n h
set_option maxHeartbeats 4000000 in
theorem m_142 (hc : CT X ns nb ln) (hp : PL X 200) (hw : RGv (cv h 200)) (tp : TPb (h.1 2)) {n : Int} (n0 : 0 ≤ n) (n1 : n ≤ 100) : Cl X 142 [vr 0, vi n] h Q ↔ Q (some (vi (bI (ntB (cv h 200) (h.1 2) n)))) h := by
  have tm := t2mod n0
  rw [c_142]
  by_cases e1 : n % 2 = 0
  · by_cases e2 : 4 ≤ n ∧ n ≤ 12
    · have d := bT e2
      have ep : ntB (cv h 200) (h.1 2) n = !srch (fun k => !pnK (cv h 200) (h.1 2) k) (n / 2).toNat 0 := by
        unfold ntB
        rw [d]
        simp [e1]
      simp (disch := first | assumption | omega) only [e_142_0, e_142_1, e_142_2, e_142_3, e_142_4, e_142_5, e_142_6, e_142_7, e_142_8, e_142_9, e_142_12, e_142_13, onI_s, onR_s, onL_s, gl_0, gl_n, gl_1, gl_2, gl_3, gl_4, gl_5, gl_6, gl_7, gl_8, gl_9, gl_10, gl_11, gl_12, gl_13, gl_14, gl_15, gl_16, gl_17, sk0i, sk0r, sk0n, sk1i, sk1r, sk1n, sk_2, sk_3, sk_4, sk_5, sk_6, sk_7, sk_8, sk_9, sk_10, sk_11, sk_12, sk_13, sk_14, sk_15, sk_16, sk_17, ls_0, ls_1, ls_2, ls_3, ls_4, ls_5, ls_6, ls_7, ls_8, ls_9, ls_10, ls_11, ls_12, ls_13, ls_14, ls_15, ls_16, ls_17, ct1_i, ct1_r, wd8_0, wd8_i1, wd8_r1, wd8_i2, wd8_r2, wd8_i3, wd8_r3, wd8_i4, wd8_r4, wd8_i5, wd8_r5, wd8_i6, wd8_r6, wd8_i7, wd8_r7, wd8_i8, wd8_r8, wd8_l2, wd8_l3, wd8_l4, wd8_l5, wd8_l6, wd8_l7, wd8_l8, tl_s, tl_n, inR_t, bd_t, true_and, and_true, true_or, or_true, if_true_x, if_false_x, if_pos, if_neg, Int.toNat_natCast, natL, bI_0, bI_1, bI_ft, eq_self, b_tf, b_ft, not_true_eq_false, not_false_eq_true, dv_t, tm, e1]
      have li := l_142 (Q := Q) hc hp hw tp (n := n) (nn := (n / 2).toNat) (by omega) (by omega) (n / 2).toNat 0 none (by omega)
      rw [show 2 * ((0 : Nat) : Int) = 0 from rfl] at li
      rw [li, ep]
    · have d := bF e2
      have ep : ntB (cv h 200) (h.1 2) n = false := by
        unfold ntB
        rw [d]
        simp
      rw [ep]
      (repeat' (first | (simp (disch := first | assumption | omega) only [e_142_0, e_142_1, e_142_2, e_142_3, e_142_4, e_142_5, e_142_6, e_142_7, e_142_8, e_142_9, e_142_10, e_142_11, onI_s, onR_s, onL_s, gl_0, gl_n, gl_1, gl_2, gl_3, gl_4, gl_5, gl_6, gl_7, gl_8, gl_9, gl_10, gl_11, gl_12, gl_13, gl_14, gl_15, gl_16, gl_17, sk0i, sk0r, sk0n, sk1i, sk1r, sk1n, sk_2, sk_3, sk_4, sk_5, sk_6, sk_7, sk_8, sk_9, sk_10, sk_11, sk_12, sk_13, sk_14, sk_15, sk_16, sk_17, ls_0, ls_1, ls_2, ls_3, ls_4, ls_5, ls_6, ls_7, ls_8, ls_9, ls_10, ls_11, ls_12, ls_13, ls_14, ls_15, ls_16, ls_17, ct1_i, ct1_r, wd8_0, wd8_i1, wd8_r1, wd8_i2, wd8_r2, wd8_i3, wd8_r3, wd8_i4, wd8_r4, wd8_i5, wd8_r5, wd8_i6, wd8_r6, wd8_i7, wd8_r7, wd8_i8, wd8_r8, wd8_l2, wd8_l3, wd8_l4, wd8_l5, wd8_l6, wd8_l7, wd8_l8, tl_s, tl_n, inR_t, bd_t, true_and, and_true, true_or, or_true, if_true_x, if_false_x, if_pos, if_neg, Int.toNat_natCast, natL, bI_0, bI_1, bI_ft, eq_self, b_tf, b_ft, not_true_eq_false, not_false_eq_true, dv_t, tm, e1]) | split))
      all_goals first | exact Iff.rfl | (exfalso; omega)
  · have ep : ntB (cv h 200) (h.1 2) n = false := by
      unfold ntB
      simp [e1]
    rw [ep]
    simp (disch := first | assumption | omega) only [e_142_0, e_142_1, e_142_2, e_142_3, e_142_10, e_142_11, onI_s, onR_s, onL_s, gl_0, gl_n, gl_1, gl_2, gl_3, gl_4, gl_5, gl_6, gl_7, gl_8, gl_9, gl_10, gl_11, gl_12, gl_13, gl_14, gl_15, gl_16, gl_17, sk0i, sk0r, sk0n, sk1i, sk1r, sk1n, sk_2, sk_3, sk_4, sk_5, sk_6, sk_7, sk_8, sk_9, sk_10, sk_11, sk_12, sk_13, sk_14, sk_15, sk_16, sk_17, ls_0, ls_1, ls_2, ls_3, ls_4, ls_5, ls_6, ls_7, ls_8, ls_9, ls_10, ls_11, ls_12, ls_13, ls_14, ls_15, ls_16, ls_17, ct1_i, ct1_r, wd8_0, wd8_i1, wd8_r1, wd8_i2, wd8_r2, wd8_i3, wd8_r3, wd8_i4, wd8_r4, wd8_i5, wd8_r5, wd8_i6, wd8_r6, wd8_i7, wd8_r7, wd8_i8, wd8_r8, wd8_l2, wd8_l3, wd8_l4, wd8_l5, wd8_l6, wd8_l7, wd8_l8, tl_s, tl_n, inR_t, bd_t, true_and, and_true, true_or, or_true, if_true_x, if_false_x, if_pos, if_neg, Int.toNat_natCast, natL, bI_0, bI_1, bI_ft, eq_self, b_tf, b_ft, not_true_eq_false, not_false_eq_true, dv_t, tm, e1]
    exact Iff.rfl
set_option maxHeartbeats 4000000 in
theorem l_43 (hc : CT X ns nb ln) (hp : PL X 200) {n p : Nat} {w : Int} (hn : n < 16) (hp6 : p ≤ 6) : ∀ (m k : Nat) (h : xH), k + m = p → NZ X h → h.2 (200 + 19) 0 = n → (∀ h2, Fz X h h2 → cv h2 200 = up2 (pnW n (h.1 2) m k (cv h 200)) 19 0 ((n : Int) + 1) → Q none h2) → Ev X 43 28 [some (vr (200 + 19)), some (vi w), some (vr 2), some (vi p), some (vi k)] [] h Q := by
  intro m
  induction m with
  | zero =>
    intro k h hm z hs hq
    rw [e_43_28]
    simp (disch := first | assumption | omega) only [e_43_29, e_43_30, e_43_63, e_43_64, e_43_65, e_43_66, e_43_67, e_43_68, e_43_69, onI_s, onR_s, onL_s, gl_0, gl_n, gl_1, gl_2, gl_3, gl_4, gl_5, gl_6, gl_7, gl_8, gl_9, gl_10, gl_11, gl_12, gl_13, gl_14, gl_15, gl_16, gl_17, sk0i, sk0r, sk0n, sk1i, sk1r, sk1n, sk_2, sk_3, sk_4, sk_5, sk_6, sk_7, sk_8, sk_9, sk_10, sk_11, sk_12, sk_13, sk_14, sk_15, sk_16, sk_17, ls_0, ls_1, ls_2, ls_3, ls_4, ls_5, ls_6, ls_7, ls_8, ls_9, ls_10, ls_11, ls_12, ls_13, ls_14, ls_15, ls_16, ls_17, ct1_i, ct1_r, wd8_0, wd8_i1, wd8_r1, wd8_i2, wd8_r2, wd8_i3, wd8_r3, wd8_i4, wd8_r4, wd8_i5, wd8_r5, wd8_i6, wd8_r6, wd8_i7, wd8_r7, wd8_i8, wd8_r8, wd8_l2, wd8_l3, wd8_l4, wd8_l5, wd8_l6, wd8_l7, wd8_l8, tl_s, tl_n, inR_t, bd_t, true_and, and_true, true_or, or_true, if_true_x, if_false_x, if_pos, if_neg, Int.toNat_natCast, natL, bI_0, bI_1, bI_ft, eq_self, b_tf, b_ft, not_true_eq_false, not_false_eq_true, hs, hp.t0, hp.t1, hp.t2, hp.t3, hp.t4, hp.t5, hp.t6, hp.t7, hp.t8, hp.t9, hp.t10, hp.t11, hp.t12, hp.t13, hp.t14, hp.t15, hp.t16, hp.t17, hp.t18, hp.t19, hp.t20, hp.t21, hp.t22, hp.t23, hp.z2, hp.z3, hp.z4, hp.z5, hp.z7, hp.z8, hp.z9, hp.z10, hp.z12, hp.z13, hp.z14, hp.z15, hp.z16, hp.z17, hp.z18, hp.z20, hp.z21, hp.z22, hp.z23, hp.r0_2, hp.r0_3, hp.r0_4, hp.r0_5, hp.r1_1, hp.r1_2, hp.r1_3, hp.r1_4, hp.r6_1, hp.r6_2, hp.r6_3, hp.r6_4, hp.r11_1, hp.r11_2, hp.r11_3, hp.r11_4, hp.r11_5, hp.r11_6, hp.r11_7, hp.r19_1, hp.r19_2, hp.r19_3, hp.r19_4]
    have f := Fz.uF (X := X) (h := h) (I := h.1) (F := h.2) (x := (n : Int) + 1) (a := 200 + 19) (k := 0) (Fz.refl z) (by omega)
    refine hq _ f ?_
    rw [cv_uF (by omega)]
    rfl
  | succ m ih =>
    intro k h hm z hs hq
    rw [e_43_28]
    have t1 : ((n : Int) * 6 + (k : Int)).toNat = n * 6 + k := by omega
    simp (disch := first | assumption | omega) only [e_43_29, e_43_30, e_43_31, e_43_32, e_43_33, e_43_34, e_43_35, e_43_36, e_43_37, e_43_38, e_43_39, e_43_40, e_43_41, e_43_42, e_43_43, e_43_44, e_43_45, e_43_46, e_43_47, e_43_48, e_43_49, e_43_50, e_43_51, e_43_52, e_43_53, e_43_54, e_43_55, e_43_56, e_43_57, e_43_58, e_43_59, e_43_60, e_43_61, e_43_62, onI_s, onR_s, onL_s, gl_0, gl_n, gl_1, gl_2, gl_3, gl_4, gl_5, gl_6, gl_7, gl_8, gl_9, gl_10, gl_11, gl_12, gl_13, gl_14, gl_15, gl_16, gl_17, sk0i, sk0r, sk0n, sk1i, sk1r, sk1n, sk_2, sk_3, sk_4, sk_5, sk_6, sk_7, sk_8, sk_9, sk_10, sk_11, sk_12, sk_13, sk_14, sk_15, sk_16, sk_17, ls_0, ls_1, ls_2, ls_3, ls_4, ls_5, ls_6, ls_7, ls_8, ls_9, ls_10, ls_11, ls_12, ls_13, ls_14, ls_15, ls_16, ls_17, ct1_i, ct1_r, wd8_0, wd8_i1, wd8_r1, wd8_i2, wd8_r2, wd8_i3, wd8_r3, wd8_i4, wd8_r4, wd8_i5, wd8_r5, wd8_i6, wd8_r6, wd8_i7, wd8_r7, wd8_i8, wd8_r8, wd8_l2, wd8_l3, wd8_l4, wd8_l5, wd8_l6, wd8_l7, wd8_l8, tl_s, tl_n, inR_t, bd_t, true_and, and_true, true_or, or_true, if_true_x, if_false_x, if_pos, if_neg, Int.toNat_natCast, natL, bI_0, bI_1, bI_ft, eq_self, b_tf, b_ft, not_true_eq_false, not_false_eq_true, hs, ev2, ev3, t1, up2_oth, cast_s, hc.t2, hc.z2, hp.t0, hp.t1, hp.t2, hp.t3, hp.t4, hp.t5, hp.t6, hp.t7, hp.t8, hp.t9, hp.t10, hp.t11, hp.t12, hp.t13, hp.t14, hp.t15, hp.t16, hp.t17, hp.t18, hp.t19, hp.t20, hp.t21, hp.t22, hp.t23, hp.z2, hp.z3, hp.z4, hp.z5, hp.z7, hp.z8, hp.z9, hp.z10, hp.z12, hp.z13, hp.z14, hp.z15, hp.z16, hp.z17, hp.z18, hp.z20, hp.z21, hp.z22, hp.z23, hp.r0_2, hp.r0_3, hp.r0_4, hp.r0_5, hp.r1_1, hp.r1_2, hp.r1_3, hp.r1_4, hp.r6_1, hp.r6_2, hp.r6_3, hp.r6_4, hp.r11_1, hp.r11_2, hp.r11_3, hp.r11_4, hp.r11_5, hp.r11_6, hp.r11_7, hp.r19_1, hp.r19_2, hp.r19_3, hp.r19_4]
    have f := Fz.uI (X := X) (h := h) (x := h.1 2 (2 * k + 1)) (a := 200 + 23) (j := n * 6 + k) (Fz.uI (x := h.1 2 (2 * k)) (a := 200 + 22) (j := n * 6 + k) (I := h.1) (F := h.2) (Fz.refl z) (by omega) (by rw [hp.z22]; omega)) (by omega) (by rw [hp.z23]; omega)
    refine ih (k + 1) _ (by omega) f.1 hs (fun h2 a b => hq h2 (f.tr a) ?_)
    rw [b, cv_u (by omega) (by omega), cv_u (by omega) (by omega)]
    dsimp only
    rw [up2_of (by omega), up2_of (by omega)]
    rfl
set_option maxHeartbeats 4000000 in
theorem m_43 (hc : CT X ns nb ln) (hp : PL X 200) (z : NZ X h) (hw : RGv (cv h 200)) {p : Nat} {w : Int} (hs : cv h 200 19 0 < 16) (hp6 : p ≤ 6) (hq : ∀ h2, Fz X h h2 → cv h2 200 = adN (cv h 200) w (h.1 2) p → Q none h2) : Cl X 43 [vr (200 + 19), vi w, vr 2, vi p] h Q := by
  have nN := hw.nN
  obtain ⟨n, hn⟩ : ∃ n : Nat, cv h 200 19 0 = n := ⟨(cv h 200 19 0).toNat, by omega⟩
  have hn2 : h.2 (200 + 19) 0 = n := hn
  rw [c_43]
  simp (disch := first | assumption | omega) only [e_43_0, e_43_1, e_43_2, e_43_3, e_43_4, e_43_5, e_43_6, e_43_7, e_43_8, e_43_9, e_43_10, e_43_11, e_43_12, e_43_14, e_43_15, e_43_16, e_43_17, e_43_18, e_43_19, e_43_20, e_43_21, e_43_22, e_43_23, e_43_24, e_43_25, e_43_26, e_43_27, onI_s, onR_s, onL_s, gl_0, gl_n, gl_1, gl_2, gl_3, gl_4, gl_5, gl_6, gl_7, gl_8, gl_9, gl_10, gl_11, gl_12, gl_13, gl_14, gl_15, gl_16, gl_17, sk0i, sk0r, sk0n, sk1i, sk1r, sk1n, sk_2, sk_3, sk_4, sk_5, sk_6, sk_7, sk_8, sk_9, sk_10, sk_11, sk_12, sk_13, sk_14, sk_15, sk_16, sk_17, ls_0, ls_1, ls_2, ls_3, ls_4, ls_5, ls_6, ls_7, ls_8, ls_9, ls_10, ls_11, ls_12, ls_13, ls_14, ls_15, ls_16, ls_17, ct1_i, ct1_r, wd8_0, wd8_i1, wd8_r1, wd8_i2, wd8_r2, wd8_i3, wd8_r3, wd8_i4, wd8_r4, wd8_i5, wd8_r5, wd8_i6, wd8_r6, wd8_i7, wd8_r7, wd8_i8, wd8_r8, wd8_l2, wd8_l3, wd8_l4, wd8_l5, wd8_l6, wd8_l7, wd8_l8, tl_s, tl_n, inR_t, bd_t, true_and, and_true, true_or, or_true, if_true_x, if_false_x, if_pos, if_neg, Int.toNat_natCast, natL, bI_0, bI_1, bI_ft, eq_self, b_tf, b_ft, not_true_eq_false, not_false_eq_true, hn2, hc.t2, hc.z2, hp.t0, hp.t1, hp.t2, hp.t3, hp.t4, hp.t5, hp.t6, hp.t7, hp.t8, hp.t9, hp.t10, hp.t11, hp.t12, hp.t13, hp.t14, hp.t15, hp.t16, hp.t17, hp.t18, hp.t19, hp.t20, hp.t21, hp.t22, hp.t23, hp.z2, hp.z3, hp.z4, hp.z5, hp.z7, hp.z8, hp.z9, hp.z10, hp.z12, hp.z13, hp.z14, hp.z15, hp.z16, hp.z17, hp.z18, hp.z20, hp.z21, hp.z22, hp.z23, hp.r0_2, hp.r0_3, hp.r0_4, hp.r0_5, hp.r1_1, hp.r1_2, hp.r1_3, hp.r1_4, hp.r6_1, hp.r6_2, hp.r6_3, hp.r6_4, hp.r11_1, hp.r11_2, hp.r11_3, hp.r11_4, hp.r11_5, hp.r11_6, hp.r11_7, hp.r19_1, hp.r19_2, hp.r19_3, hp.r19_4]
  have f := Fz.uI (X := X) (h := h) (x := (p : Int)) (a := 200 + 21) (j := n) (Fz.uI (x := w) (a := 200 + 20) (j := n) (I := h.1) (F := h.2) (Fz.refl z) (by omega) (by rw [hp.z20]; omega)) (by omega) (by rw [hp.z21]; omega)
  have li := l_43 (Q := Q) (w := w) hc hp (n := n) (p := p) (by omega) hp6 p 0 _ (by omega) f.1 hn2
  refine li (fun h2 a b => hq h2 (f.tr a) ?_)
  rw [b, cv_u (by omega) (by omega), cv_u (by omega) (by omega)]
  unfold adN
  rw [hn, Int.toNat_natCast, Int.toNat_natCast]
  dsimp only
  rw [up2_of (by omega), up2_of (by omega)]
end NTC
