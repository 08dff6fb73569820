/-- the first of m from i on that has it; -1 -/
def fnd (p : Nat → Bool) : Nat → Nat → Int
  | 0, _ => -1
  | m + 1, i => if p i = true then (i : Int) else fnd p m (i + 1)
theorem fnd_t {p : Nat → Bool} {m i : Nat} (h : p i = true) : fnd p (m + 1) i = i := by rw [fnd, if_pos h]
theorem fnd_f {p : Nat → Bool} {m i : Nat} (h : ¬ p i = true) : fnd p (m + 1) i = fnd p m (i + 1) := by rw [fnd, if_neg h]
theorem fnd_rng {p : Nat → Bool} : ∀ (m i : Nat), fnd p m i = -1 ∨ ∃ j, i ≤ j ∧ j < i + m ∧ p j = true ∧ fnd p m i = j ∧ ∀ q, i ≤ q → q < j → ¬ p q = true
  | 0, _ => Or.inl rfl
  | m + 1, i => by
    by_cases h : p i = true
    · exact Or.inr ⟨i, by omega, by omega, h, fnd_t h, fun q h1 h2 => by omega⟩
    · rw [fnd_f h]
      rcases fnd_rng (p := p) m (i + 1) with q | ⟨j, h1, h2, h3, h4, h5⟩
      · exact Or.inl q
      · refine Or.inr ⟨j, by omega, by omega, h3, h4, fun q h6 h7 => ?_⟩
        rcases Nat.lt_or_ge i q with z | z
        · exact h5 q (by omega) h7
        · have : q = i := by omega
          subst this
          exact h
/-- how many of m from i on have it -/
def cntB (p : Nat → Bool) : Nat → Nat → Int
  | 0, _ => 0
  | m + 1, i => (if p i = true then 1 else 0) + cntB p m (i + 1)
theorem cntB_bd {p : Nat → Bool} : ∀ (m i : Nat), 0 ≤ cntB p m i ∧ cntB p m i ≤ m
  | 0, _ => ⟨Int.le_refl _, Int.le_refl _⟩
  | m + 1, i => by
    have := cntB_bd (p := p) m (i + 1)
    rw [cntB]
    split <;> omega
def phB (v : Nat → Nat → Int) (n : Nat) (c : Int) (k : Nat) : Bool := decide (v 22 (n * 6 + k) = c)
/-- which pin of a net is a cell's -/
def pnO (v : Nat → Nat → Int) (n : Nat) (c : Int) : Int := fnd (phB v n c) (v 21 n).toNat 0
theorem ix6 {n k : Nat} : ((n : Int) * 6 + (k : Int)).toNat = n * 6 + k := by omega
section NET
variable {X : xL} {b : Nat} {h : xH} {Q : Option xV → xH → Prop}
set_option maxHeartbeats 1000000 in
theorem l_45 {n : Nat} {c : Int} (hp : PL X b) (hn : n < 16) {pp : Nat} (hs : h.1 (b + 21) n = pp) (hpp : pp ≤ 6) : ∀ (m i : Nat), i + m = pp → (Ev X 45 6 [some (vr (b + 19)), some (vi n), some (vi c), some (vi (n * 6)), some (vi i)] [] h Q ↔ Q (some (vi (fnd (phB (cv h b) n c) m i))) h) := by
  intro m
  induction m with
  | zero =>
    intro i hm
    rw [e_45_6]
    simp (disch := first | assumption | omega) only [e_45_7, e_45_8, e_45_9, e_45_10, e_45_11, e_45_24, e_45_25, onI_s, onR_s, onL_s, gl_0, gl_n, gl_1, gl_2, gl_3, gl_4, gl_5, gl_6, gl_7, gl_8, gl_9, gl_10, gl_11, gl_12, gl_13, gl_14, gl_15, gl_16, gl_17, sk0i, sk0r, sk0n, sk1i, sk1r, sk1n, sk_2, sk_3, sk_4, sk_5, sk_6, sk_7, sk_8, sk_9, sk_10, sk_11, sk_12, sk_13, sk_14, sk_15, sk_16, sk_17, ls_0, ls_1, ls_2, ls_3, ls_4, ls_5, ls_6, ls_7, ls_8, ls_9, ls_10, ls_11, ls_12, ls_13, ls_14, ls_15, ls_16, ls_17, ct1_i, ct1_r, wd8_0, wd8_i1, wd8_r1, wd8_i2, wd8_r2, wd8_i3, wd8_r3, wd8_i4, wd8_r4, wd8_i5, wd8_r5, wd8_i6, wd8_r6, wd8_i7, wd8_r7, wd8_i8, wd8_r8, wd8_l2, wd8_l3, wd8_l4, wd8_l5, wd8_l6, wd8_l7, wd8_l8, tl_s, tl_n, inR_t, bd_t, true_and, and_true, true_or, or_true, if_true_x, if_false_x, if_pos, if_neg, Int.toNat_natCast, natL, bI_0, bI_1, bI_ft, eq_self, b_tf, b_ft, hp.t0, hp.t1, hp.t2, hp.t3, hp.t4, hp.t5, hp.t6, hp.t7, hp.t8, hp.t9, hp.t10, hp.t11, hp.t12, hp.t13, hp.t14, hp.t15, hp.t16, hp.t17, hp.t18, hp.t19, hp.t20, hp.t21, hp.t22, hp.t23, hp.z2, hp.z3, hp.z4, hp.z5, hp.z7, hp.z8, hp.z9, hp.z10, hp.z12, hp.z13, hp.z14, hp.z15, hp.z16, hp.z17, hp.z18, hp.z20, hp.z21, hp.z22, hp.z23, hp.r0_2, hp.r0_3, hp.r0_4, hp.r0_5, hp.r1_1, hp.r1_2, hp.r1_3, hp.r1_4, hp.r6_1, hp.r6_2, hp.r6_3, hp.r6_4, hp.r11_1, hp.r11_2, hp.r11_3, hp.r11_4, hp.r11_5, hp.r11_6, hp.r11_7, hp.r19_1, hp.r19_2, hp.r19_3, hp.r19_4, hs]
    exact Iff.rfl
  | succ m ih =>
    intro i hm
    rw [e_45_6]
    simp (disch := first | assumption | omega) only [e_45_7, e_45_8, e_45_9, e_45_10, e_45_11, e_45_12, e_45_13, e_45_14, e_45_15, e_45_16, e_45_17, e_45_18, e_45_19, e_45_20, e_45_21, e_45_22, e_45_23, onI_s, onR_s, onL_s, gl_0, gl_n, gl_1, gl_2, gl_3, gl_4, gl_5, gl_6, gl_7, gl_8, gl_9, gl_10, gl_11, gl_12, gl_13, gl_14, gl_15, gl_16, gl_17, sk0i, sk0r, sk0n, sk1i, sk1r, sk1n, sk_2, sk_3, sk_4, sk_5, sk_6, sk_7, sk_8, sk_9, sk_10, sk_11, sk_12, sk_13, sk_14, sk_15, sk_16, sk_17, ls_0, ls_1, ls_2, ls_3, ls_4, ls_5, ls_6, ls_7, ls_8, ls_9, ls_10, ls_11, ls_12, ls_13, ls_14, ls_15, ls_16, ls_17, ct1_i, ct1_r, wd8_0, wd8_i1, wd8_r1, wd8_i2, wd8_r2, wd8_i3, wd8_r3, wd8_i4, wd8_r4, wd8_i5, wd8_r5, wd8_i6, wd8_r6, wd8_i7, wd8_r7, wd8_i8, wd8_r8, wd8_l2, wd8_l3, wd8_l4, wd8_l5, wd8_l6, wd8_l7, wd8_l8, tl_s, tl_n, inR_t, bd_t, true_and, and_true, true_or, or_true, if_true_x, if_false_x, if_pos, if_neg, Int.toNat_natCast, natL, bI_0, bI_1, bI_ft, eq_self, b_tf, b_ft, ix6, hp.t0, hp.t1, hp.t2, hp.t3, hp.t4, hp.t5, hp.t6, hp.t7, hp.t8, hp.t9, hp.t10, hp.t11, hp.t12, hp.t13, hp.t14, hp.t15, hp.t16, hp.t17, hp.t18, hp.t19, hp.t20, hp.t21, hp.t22, hp.t23, hp.z2, hp.z3, hp.z4, hp.z5, hp.z7, hp.z8, hp.z9, hp.z10, hp.z12, hp.z13, hp.z14, hp.z15, hp.z16, hp.z17, hp.z18, hp.z20, hp.z21, hp.z22, hp.z23, hp.r0_2, hp.r0_3, hp.r0_4, hp.r0_5, hp.r1_1, hp.r1_2, hp.r1_3, hp.r1_4, hp.r6_1, hp.r6_2, hp.r6_3, hp.r6_4, hp.r11_1, hp.r11_2, hp.r11_3, hp.r11_4, hp.r11_5, hp.r11_6, hp.r11_7, hp.r19_1, hp.r19_2, hp.r19_3, hp.r19_4, hs]
    simp only [cast_s, ih (i + 1) (by omega)]
    by_cases e : h.1 (b + 22) (n * 6 + i) = c
    · rw [fnd_t (by simp [phB, cv_22, e])]
      simp [e]
    · rw [fnd_f (by simp [phB, cv_22, e])]
      simp [e]
set_option maxHeartbeats 1000000 in
theorem m_45 {n : Nat} {c : Int} (hp : PL X b) (hw : RGv (cv h b)) (hn : n < 16) : Cl X 45 [vr (b + 19), vi n, vi c] h Q ↔ Q (some (vi (pnO (cv h b) n c))) h := by
  have w := hw.pin n
  rw [cv_21] at w
  rw [c_45]
  simp (disch := first | assumption | omega) only [e_45_0, e_45_1, e_45_2, e_45_3, e_45_4, e_45_5, onI_s, onR_s, onL_s, gl_0, gl_n, gl_1, gl_2, gl_3, gl_4, gl_5, gl_6, gl_7, gl_8, gl_9, gl_10, gl_11, gl_12, gl_13, gl_14, gl_15, gl_16, gl_17, sk0i, sk0r, sk0n, sk1i, sk1r, sk1n, sk_2, sk_3, sk_4, sk_5, sk_6, sk_7, sk_8, sk_9, sk_10, sk_11, sk_12, sk_13, sk_14, sk_15, sk_16, sk_17, ls_0, ls_1, ls_2, ls_3, ls_4, ls_5, ls_6, ls_7, ls_8, ls_9, ls_10, ls_11, ls_12, ls_13, ls_14, ls_15, ls_16, ls_17, ct1_i, ct1_r, wd8_0, wd8_i1, wd8_r1, wd8_i2, wd8_r2, wd8_i3, wd8_r3, wd8_i4, wd8_r4, wd8_i5, wd8_r5, wd8_i6, wd8_r6, wd8_i7, wd8_r7, wd8_i8, wd8_r8, wd8_l2, wd8_l3, wd8_l4, wd8_l5, wd8_l6, wd8_l7, wd8_l8, tl_s, tl_n, inR_t, bd_t, true_and, and_true, true_or, or_true, if_true_x, if_false_x, if_pos, if_neg, Int.toNat_natCast, natL, bI_0, bI_1, bI_ft, eq_self, b_tf, b_ft, hp.t0, hp.t1, hp.t2, hp.t3, hp.t4, hp.t5, hp.t6, hp.t7, hp.t8, hp.t9, hp.t10, hp.t11, hp.t12, hp.t13, hp.t14, hp.t15, hp.t16, hp.t17, hp.t18, hp.t19, hp.t20, hp.t21, hp.t22, hp.t23, hp.z2, hp.z3, hp.z4, hp.z5, hp.z7, hp.z8, hp.z9, hp.z10, hp.z12, hp.z13, hp.z14, hp.z15, hp.z16, hp.z17, hp.z18, hp.z20, hp.z21, hp.z22, hp.z23, hp.r0_2, hp.r0_3, hp.r0_4, hp.r0_5, hp.r1_1, hp.r1_2, hp.r1_3, hp.r1_4, hp.r6_1, hp.r6_2, hp.r6_3, hp.r6_4, hp.r11_1, hp.r11_2, hp.r11_3, hp.r11_4, hp.r11_5, hp.r11_6, hp.r11_7, hp.r19_1, hp.r19_2, hp.r19_3, hp.r19_4]
  exact l_45 hp hn (pp := (h.1 (b + 21) n).toNat) (by omega) (by omega) _ 0 (by rw [cv_21]; omega)
def nwB (v : Nat → Nat → Int) (c : Int) (n : Nat) : Bool := !decide (pnO v n c = -1)
set_option maxHeartbeats 1000000 in
theorem l_46 {c : Int} (hp : PL X b) (hw : RGv (cv h b)) {nn : Nat} (hs : h.2 (b + 19) 0 = nn) (hnn : nn ≤ 16) : ∀ (m i : Nat) (a : Int), i + m = nn → 0 ≤ a → a ≤ i → (Ev X 46 4 [some (vr (b + 19)), some (vi c), some (vi a), some (vi i)] [] h Q ↔ Q (some (vi (a + cntB (nwB (cv h b) c) m i))) h) := by
  intro m
  induction m with
  | zero =>
    intro i a hm h0 h1
    rw [e_46_4]
    simp (disch := first | assumption | omega) only [e_46_5, e_46_6, e_46_7, e_46_17, e_46_18, onI_s, onR_s, onL_s, gl_0, gl_n, gl_1, gl_2, gl_3, gl_4, gl_5, gl_6, gl_7, gl_8, gl_9, gl_10, gl_11, gl_12, gl_13, gl_14, gl_15, gl_16, gl_17, sk0i, sk0r, sk0n, sk1i, sk1r, sk1n, sk_2, sk_3, sk_4, sk_5, sk_6, sk_7, sk_8, sk_9, sk_10, sk_11, sk_12, sk_13, sk_14, sk_15, sk_16, sk_17, ls_0, ls_1, ls_2, ls_3, ls_4, ls_5, ls_6, ls_7, ls_8, ls_9, ls_10, ls_11, ls_12, ls_13, ls_14, ls_15, ls_16, ls_17, ct1_i, ct1_r, wd8_0, wd8_i1, wd8_r1, wd8_i2, wd8_r2, wd8_i3, wd8_r3, wd8_i4, wd8_r4, wd8_i5, wd8_r5, wd8_i6, wd8_r6, wd8_i7, wd8_r7, wd8_i8, wd8_r8, wd8_l2, wd8_l3, wd8_l4, wd8_l5, wd8_l6, wd8_l7, wd8_l8, tl_s, tl_n, inR_t, bd_t, true_and, and_true, true_or, or_true, if_true_x, if_false_x, if_pos, if_neg, Int.toNat_natCast, natL, bI_0, bI_1, bI_ft, eq_self, b_tf, b_ft, hp.t0, hp.t1, hp.t2, hp.t3, hp.t4, hp.t5, hp.t6, hp.t7, hp.t8, hp.t9, hp.t10, hp.t11, hp.t12, hp.t13, hp.t14, hp.t15, hp.t16, hp.t17, hp.t18, hp.t19, hp.t20, hp.t21, hp.t22, hp.t23, hp.z2, hp.z3, hp.z4, hp.z5, hp.z7, hp.z8, hp.z9, hp.z10, hp.z12, hp.z13, hp.z14, hp.z15, hp.z16, hp.z17, hp.z18, hp.z20, hp.z21, hp.z22, hp.z23, hp.r0_2, hp.r0_3, hp.r0_4, hp.r0_5, hp.r1_1, hp.r1_2, hp.r1_3, hp.r1_4, hp.r6_1, hp.r6_2, hp.r6_3, hp.r6_4, hp.r11_1, hp.r11_2, hp.r11_3, hp.r11_4, hp.r11_5, hp.r11_6, hp.r11_7, hp.r19_1, hp.r19_2, hp.r19_3, hp.r19_4, hs]
    rw [cntB, Int.add_zero]
  | succ m ih =>
    intro i a hm h0 h1
    rw [e_46_4]
    by_cases e : pnO (cv h b) i c = -1
    · simp (disch := first | assumption | omega) only [e_46_5, e_46_6, e_46_7, e_46_8, e_46_9, e_46_10, e_46_11, e_46_12, e_46_13, e_46_14, e_46_15, e_46_16, onI_s, onR_s, onL_s, gl_0, gl_n, gl_1, gl_2, gl_3, gl_4, gl_5, gl_6, gl_7, gl_8, gl_9, gl_10, gl_11, gl_12, gl_13, gl_14, gl_15, gl_16, gl_17, sk0i, sk0r, sk0n, sk1i, sk1r, sk1n, sk_2, sk_3, sk_4, sk_5, sk_6, sk_7, sk_8, sk_9, sk_10, sk_11, sk_12, sk_13, sk_14, sk_15, sk_16, sk_17, ls_0, ls_1, ls_2, ls_3, ls_4, ls_5, ls_6, ls_7, ls_8, ls_9, ls_10, ls_11, ls_12, ls_13, ls_14, ls_15, ls_16, ls_17, ct1_i, ct1_r, wd8_0, wd8_i1, wd8_r1, wd8_i2, wd8_r2, wd8_i3, wd8_r3, wd8_i4, wd8_r4, wd8_i5, wd8_r5, wd8_i6, wd8_r6, wd8_i7, wd8_r7, wd8_i8, wd8_r8, wd8_l2, wd8_l3, wd8_l4, wd8_l5, wd8_l6, wd8_l7, wd8_l8, tl_s, tl_n, inR_t, bd_t, true_and, and_true, true_or, or_true, if_true_x, if_false_x, if_pos, if_neg, Int.toNat_natCast, natL, bI_0, bI_1, bI_ft, eq_self, b_tf, b_ft, m_45 hp hw, e, hp.t0, hp.t1, hp.t2, hp.t3, hp.t4, hp.t5, hp.t6, hp.t7, hp.t8, hp.t9, hp.t10, hp.t11, hp.t12, hp.t13, hp.t14, hp.t15, hp.t16, hp.t17, hp.t18, hp.t19, hp.t20, hp.t21, hp.t22, hp.t23, hp.z2, hp.z3, hp.z4, hp.z5, hp.z7, hp.z8, hp.z9, hp.z10, hp.z12, hp.z13, hp.z14, hp.z15, hp.z16, hp.z17, hp.z18, hp.z20, hp.z21, hp.z22, hp.z23, hp.r0_2, hp.r0_3, hp.r0_4, hp.r0_5, hp.r1_1, hp.r1_2, hp.r1_3, hp.r1_4, hp.r6_1, hp.r6_2, hp.r6_3, hp.r6_4, hp.r11_1, hp.r11_2, hp.r11_3, hp.r11_4, hp.r11_5, hp.r11_6, hp.r11_7, hp.r19_1, hp.r19_2, hp.r19_3, hp.r19_4, hs]
      simp only [cast_s, ih (i + 1) a (by omega) h0 (by omega)]
      rw [cntB, if_neg (by simp [nwB, e]), Int.zero_add]
    · simp (disch := first | assumption | omega) only [e_46_5, e_46_6, e_46_7, e_46_8, e_46_9, e_46_10, e_46_11, e_46_12, e_46_13, e_46_14, e_46_15, e_46_16, onI_s, onR_s, onL_s, gl_0, gl_n, gl_1, gl_2, gl_3, gl_4, gl_5, gl_6, gl_7, gl_8, gl_9, gl_10, gl_11, gl_12, gl_13, gl_14, gl_15, gl_16, gl_17, sk0i, sk0r, sk0n, sk1i, sk1r, sk1n, sk_2, sk_3, sk_4, sk_5, sk_6, sk_7, sk_8, sk_9, sk_10, sk_11, sk_12, sk_13, sk_14, sk_15, sk_16, sk_17, ls_0, ls_1, ls_2, ls_3, ls_4, ls_5, ls_6, ls_7, ls_8, ls_9, ls_10, ls_11, ls_12, ls_13, ls_14, ls_15, ls_16, ls_17, ct1_i, ct1_r, wd8_0, wd8_i1, wd8_r1, wd8_i2, wd8_r2, wd8_i3, wd8_r3, wd8_i4, wd8_r4, wd8_i5, wd8_r5, wd8_i6, wd8_r6, wd8_i7, wd8_r7, wd8_i8, wd8_r8, wd8_l2, wd8_l3, wd8_l4, wd8_l5, wd8_l6, wd8_l7, wd8_l8, tl_s, tl_n, inR_t, bd_t, true_and, and_true, true_or, or_true, if_true_x, if_false_x, if_pos, if_neg, Int.toNat_natCast, natL, bI_0, bI_1, bI_ft, eq_self, b_tf, b_ft, m_45 hp hw, hp.t0, hp.t1, hp.t2, hp.t3, hp.t4, hp.t5, hp.t6, hp.t7, hp.t8, hp.t9, hp.t10, hp.t11, hp.t12, hp.t13, hp.t14, hp.t15, hp.t16, hp.t17, hp.t18, hp.t19, hp.t20, hp.t21, hp.t22, hp.t23, hp.z2, hp.z3, hp.z4, hp.z5, hp.z7, hp.z8, hp.z9, hp.z10, hp.z12, hp.z13, hp.z14, hp.z15, hp.z16, hp.z17, hp.z18, hp.z20, hp.z21, hp.z22, hp.z23, hp.r0_2, hp.r0_3, hp.r0_4, hp.r0_5, hp.r1_1, hp.r1_2, hp.r1_3, hp.r1_4, hp.r6_1, hp.r6_2, hp.r6_3, hp.r6_4, hp.r11_1, hp.r11_2, hp.r11_3, hp.r11_4, hp.r11_5, hp.r11_6, hp.r11_7, hp.r19_1, hp.r19_2, hp.r19_3, hp.r19_4, hs]
      simp only [cast_s, ih (i + 1) (a + 1) (by omega) (by omega) (by omega)]
      rw [cntB, if_pos (by simp [nwB, e]), Int.add_assoc]
set_option maxHeartbeats 1000000 in
theorem m_46 {c : Int} (hp : PL X b) (hw : RGv (cv h b)) : Cl X 46 [vr (b + 19), vi c] h Q ↔ Q (some (vi (cntB (nwB (cv h b) c) (cv h b 19 0).toNat 0))) h := by
  have w := hw.nN
  rw [cv_19] at w
  rw [c_46]
  simp (disch := first | assumption | omega) only [e_46_0, e_46_1, e_46_2, e_46_3, onI_s, onR_s, onL_s, gl_0, gl_n, gl_1, gl_2, gl_3, gl_4, gl_5, gl_6, gl_7, gl_8, gl_9, gl_10, gl_11, gl_12, gl_13, gl_14, gl_15, gl_16, gl_17, sk0i, sk0r, sk0n, sk1i, sk1r, sk1n, sk_2, sk_3, sk_4, sk_5, sk_6, sk_7, sk_8, sk_9, sk_10, sk_11, sk_12, sk_13, sk_14, sk_15, sk_16, sk_17, ls_0, ls_1, ls_2, ls_3, ls_4, ls_5, ls_6, ls_7, ls_8, ls_9, ls_10, ls_11, ls_12, ls_13, ls_14, ls_15, ls_16, ls_17, ct1_i, ct1_r, wd8_0, wd8_i1, wd8_r1, wd8_i2, wd8_r2, wd8_i3, wd8_r3, wd8_i4, wd8_r4, wd8_i5, wd8_r5, wd8_i6, wd8_r6, wd8_i7, wd8_r7, wd8_i8, wd8_r8, wd8_l2, wd8_l3, wd8_l4, wd8_l5, wd8_l6, wd8_l7, wd8_l8, tl_s, tl_n, inR_t, bd_t, true_and, and_true, true_or, or_true, if_true_x, if_false_x, if_pos, if_neg, Int.toNat_natCast, natL, bI_0, bI_1, bI_ft, eq_self, b_tf, b_ft, hp.t0, hp.t1, hp.t2, hp.t3, hp.t4, hp.t5, hp.t6, hp.t7, hp.t8, hp.t9, hp.t10, hp.t11, hp.t12, hp.t13, hp.t14, hp.t15, hp.t16, hp.t17, hp.t18, hp.t19, hp.t20, hp.t21, hp.t22, hp.t23, hp.z2, hp.z3, hp.z4, hp.z5, hp.z7, hp.z8, hp.z9, hp.z10, hp.z12, hp.z13, hp.z14, hp.z15, hp.z16, hp.z17, hp.z18, hp.z20, hp.z21, hp.z22, hp.z23, hp.r0_2, hp.r0_3, hp.r0_4, hp.r0_5, hp.r1_1, hp.r1_2, hp.r1_3, hp.r1_4, hp.r6_1, hp.r6_2, hp.r6_3, hp.r6_4, hp.r11_1, hp.r11_2, hp.r11_3, hp.r11_4, hp.r11_5, hp.r11_6, hp.r11_7, hp.r19_1, hp.r19_2, hp.r19_3, hp.r19_4]
  have := l_46 (Q := Q) (c := c) hp hw (nn := (h.2 (b + 19) 0).toNat) (by omega) (by omega) _ 0 0 (by rw [Nat.zero_add]) (by omega) (by omega)
  rw [Int.zero_add] at this
  exact this
def shB (v : Nat → Nat → Int) (x y : Int) (n : Nat) : Bool := nwB v x n && nwB v y n
set_option maxHeartbeats 1000000 in
theorem l_47 {x y : Int} (hp : PL X b) (hw : RGv (cv h b)) {nn : Nat} (hs : h.2 (b + 19) 0 = nn) (hnn : nn ≤ 16) : ∀ (m i : Nat), i + m = nn → (Ev X 47 2 [some (vr (b + 19)), some (vi x), some (vi y), some (vi i)] [] h Q ↔ Q (some (vi (bI (srch (shB (cv h b) x y) m i)))) h) := by
  intro m
  induction m with
  | zero =>
    intro i hm
    rw [e_47_2]
    simp (disch := first | assumption | omega) only [e_47_3, e_47_4, e_47_5, e_47_22, e_47_23, onI_s, onR_s, onL_s, gl_0, gl_n, gl_1, gl_2, gl_3, gl_4, gl_5, gl_6, gl_7, gl_8, gl_9, gl_10, gl_11, gl_12, gl_13, gl_14, gl_15, gl_16, gl_17, sk0i, sk0r, sk0n, sk1i, sk1r, sk1n, sk_2, sk_3, sk_4, sk_5, sk_6, sk_7, sk_8, sk_9, sk_10, sk_11, sk_12, sk_13, sk_14, sk_15, sk_16, sk_17, ls_0, ls_1, ls_2, ls_3, ls_4, ls_5, ls_6, ls_7, ls_8, ls_9, ls_10, ls_11, ls_12, ls_13, ls_14, ls_15, ls_16, ls_17, ct1_i, ct1_r, wd8_0, wd8_i1, wd8_r1, wd8_i2, wd8_r2, wd8_i3, wd8_r3, wd8_i4, wd8_r4, wd8_i5, wd8_r5, wd8_i6, wd8_r6, wd8_i7, wd8_r7, wd8_i8, wd8_r8, wd8_l2, wd8_l3, wd8_l4, wd8_l5, wd8_l6, wd8_l7, wd8_l8, tl_s, tl_n, inR_t, bd_t, true_and, and_true, true_or, or_true, if_true_x, if_false_x, if_pos, if_neg, Int.toNat_natCast, natL, bI_0, bI_1, bI_ft, eq_self, b_tf, b_ft, hp.t0, hp.t1, hp.t2, hp.t3, hp.t4, hp.t5, hp.t6, hp.t7, hp.t8, hp.t9, hp.t10, hp.t11, hp.t12, hp.t13, hp.t14, hp.t15, hp.t16, hp.t17, hp.t18, hp.t19, hp.t20, hp.t21, hp.t22, hp.t23, hp.z2, hp.z3, hp.z4, hp.z5, hp.z7, hp.z8, hp.z9, hp.z10, hp.z12, hp.z13, hp.z14, hp.z15, hp.z16, hp.z17, hp.z18, hp.z20, hp.z21, hp.z22, hp.z23, hp.r0_2, hp.r0_3, hp.r0_4, hp.r0_5, hp.r1_1, hp.r1_2, hp.r1_3, hp.r1_4, hp.r6_1, hp.r6_2, hp.r6_3, hp.r6_4, hp.r11_1, hp.r11_2, hp.r11_3, hp.r11_4, hp.r11_5, hp.r11_6, hp.r11_7, hp.r19_1, hp.r19_2, hp.r19_3, hp.r19_4, hs]
    exact Iff.rfl
  | succ m ih =>
    intro i hm
    rw [e_47_2]
    simp (disch := first | assumption | omega) only [e_47_3, e_47_4, e_47_5, e_47_6, e_47_7, e_47_8, e_47_9, e_47_10, e_47_11, e_47_12, e_47_13, e_47_14, e_47_15, e_47_16, e_47_17, e_47_18, e_47_19, e_47_20, e_47_21, onI_s, onR_s, onL_s, gl_0, gl_n, gl_1, gl_2, gl_3, gl_4, gl_5, gl_6, gl_7, gl_8, gl_9, gl_10, gl_11, gl_12, gl_13, gl_14, gl_15, gl_16, gl_17, sk0i, sk0r, sk0n, sk1i, sk1r, sk1n, sk_2, sk_3, sk_4, sk_5, sk_6, sk_7, sk_8, sk_9, sk_10, sk_11, sk_12, sk_13, sk_14, sk_15, sk_16, sk_17, ls_0, ls_1, ls_2, ls_3, ls_4, ls_5, ls_6, ls_7, ls_8, ls_9, ls_10, ls_11, ls_12, ls_13, ls_14, ls_15, ls_16, ls_17, ct1_i, ct1_r, wd8_0, wd8_i1, wd8_r1, wd8_i2, wd8_r2, wd8_i3, wd8_r3, wd8_i4, wd8_r4, wd8_i5, wd8_r5, wd8_i6, wd8_r6, wd8_i7, wd8_r7, wd8_i8, wd8_r8, wd8_l2, wd8_l3, wd8_l4, wd8_l5, wd8_l6, wd8_l7, wd8_l8, tl_s, tl_n, inR_t, bd_t, true_and, and_true, true_or, or_true, if_true_x, if_false_x, if_pos, if_neg, Int.toNat_natCast, natL, bI_0, bI_1, bI_ft, eq_self, b_tf, b_ft, m_45 hp hw, hp.t0, hp.t1, hp.t2, hp.t3, hp.t4, hp.t5, hp.t6, hp.t7, hp.t8, hp.t9, hp.t10, hp.t11, hp.t12, hp.t13, hp.t14, hp.t15, hp.t16, hp.t17, hp.t18, hp.t19, hp.t20, hp.t21, hp.t22, hp.t23, hp.z2, hp.z3, hp.z4, hp.z5, hp.z7, hp.z8, hp.z9, hp.z10, hp.z12, hp.z13, hp.z14, hp.z15, hp.z16, hp.z17, hp.z18, hp.z20, hp.z21, hp.z22, hp.z23, hp.r0_2, hp.r0_3, hp.r0_4, hp.r0_5, hp.r1_1, hp.r1_2, hp.r1_3, hp.r1_4, hp.r6_1, hp.r6_2, hp.r6_3, hp.r6_4, hp.r11_1, hp.r11_2, hp.r11_3, hp.r11_4, hp.r11_5, hp.r11_6, hp.r11_7, hp.r19_1, hp.r19_2, hp.r19_3, hp.r19_4, hs]
    simp only [cast_s, ih (i + 1) (by omega)]
    by_cases e1 : pnO (cv h b) i x = -1
    · rw [srch_f (by simp [shB, nwB, e1])]
      simp [e1]
    · by_cases e2 : pnO (cv h b) i y = -1
      · rw [srch_f (by simp [shB, nwB, e2])]
        simp [e1, e2]
      · rw [srch_t (by simp [shB, nwB, e1, e2])]
        simp [e1, e2, bI]
set_option maxHeartbeats 1000000 in
theorem m_47 {x y : Int} (hp : PL X b) (hw : RGv (cv h b)) : Cl X 47 [vr (b + 19), vi x, vi y] h Q ↔ Q (some (vi (bI (anyB (shB (cv h b) x y) (cv h b 19 0).toNat)))) h := by
  have w := hw.nN
  rw [cv_19] at w
  rw [c_47]
  simp (disch := first | assumption | omega) only [e_47_0, e_47_1, onI_s, onR_s, onL_s, gl_0, gl_n, gl_1, gl_2, gl_3, gl_4, gl_5, gl_6, gl_7, gl_8, gl_9, gl_10, gl_11, gl_12, gl_13, gl_14, gl_15, gl_16, gl_17, sk0i, sk0r, sk0n, sk1i, sk1r, sk1n, sk_2, sk_3, sk_4, sk_5, sk_6, sk_7, sk_8, sk_9, sk_10, sk_11, sk_12, sk_13, sk_14, sk_15, sk_16, sk_17, ls_0, ls_1, ls_2, ls_3, ls_4, ls_5, ls_6, ls_7, ls_8, ls_9, ls_10, ls_11, ls_12, ls_13, ls_14, ls_15, ls_16, ls_17, ct1_i, ct1_r, wd8_0, wd8_i1, wd8_r1, wd8_i2, wd8_r2, wd8_i3, wd8_r3, wd8_i4, wd8_r4, wd8_i5, wd8_r5, wd8_i6, wd8_r6, wd8_i7, wd8_r7, wd8_i8, wd8_r8, wd8_l2, wd8_l3, wd8_l4, wd8_l5, wd8_l6, wd8_l7, wd8_l8, tl_s, tl_n, inR_t, bd_t, true_and, and_true, true_or, or_true, if_true_x, if_false_x, if_pos, if_neg, Int.toNat_natCast, natL, bI_0, bI_1, bI_ft, eq_self, b_tf, b_ft, hp.t0, hp.t1, hp.t2, hp.t3, hp.t4, hp.t5, hp.t6, hp.t7, hp.t8, hp.t9, hp.t10, hp.t11, hp.t12, hp.t13, hp.t14, hp.t15, hp.t16, hp.t17, hp.t18, hp.t19, hp.t20, hp.t21, hp.t22, hp.t23, hp.z2, hp.z3, hp.z4, hp.z5, hp.z7, hp.z8, hp.z9, hp.z10, hp.z12, hp.z13, hp.z14, hp.z15, hp.z16, hp.z17, hp.z18, hp.z20, hp.z21, hp.z22, hp.z23, hp.r0_2, hp.r0_3, hp.r0_4, hp.r0_5, hp.r1_1, hp.r1_2, hp.r1_3, hp.r1_4, hp.r6_1, hp.r6_2, hp.r6_3, hp.r6_4, hp.r11_1, hp.r11_2, hp.r11_3, hp.r11_4, hp.r11_5, hp.r11_6, hp.r11_7, hp.r19_1, hp.r19_2, hp.r19_3, hp.r19_4]
  exact l_47 hp hw (nn := (h.2 (b + 19) 0).toNat) (by omega) (by omega) _ 0 (by rw [cv_19]; omega)
end NET
