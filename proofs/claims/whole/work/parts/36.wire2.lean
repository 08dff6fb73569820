theorem tn_0 : Int.toNat 0 = 0 := rfl
theorem tn_1 : Int.toNat 1 = 1 := rfl
theorem tn_2 : Int.toNat 2 = 2 := rfl
theorem tn_3 : Int.toNat 3 = 3 := rfl
theorem tn_4 : Int.toNat 4 = 4 := rfl
theorem tn_5 : Int.toNat 5 = 5 := rfl
theorem tn_6 : Int.toNat 6 = 6 := rfl
theorem tn_7 : Int.toNat 7 = 7 := rfl
theorem tn_8 : Int.toNat 8 = 8 := rfl
theorem tn_9 : Int.toNat 9 = 9 := rfl
theorem tn_10 : Int.toNat 10 = 10 := rfl
theorem tn_11 : Int.toNat 11 = 11 := rfl
theorem tn_12 : Int.toNat 12 = 12 := rfl
theorem tn_13 : Int.toNat 13 = 13 := rfl
theorem tn_14 : Int.toNat 14 = 14 := rfl
theorem tn_15 : Int.toNat 15 = 15 := rfl
theorem tn_16 : Int.toNat 16 = 16 := rfl
theorem tn_17 : Int.toNat 17 = 17 := rfl
theorem tn_18 : Int.toNat 18 = 18 := rfl
theorem tn_19 : Int.toNat 19 = 19 := rfl
theorem tn_20 : Int.toNat 20 = 20 := rfl
def sumF (f : Nat → Int) : Nat → Nat → Int
  | 0, _ => 0
  | m + 1, i => f i + sumF f m (i + 1)
theorem sumF_bd {f : Nat → Int} {B : Int} (hB : 0 ≤ B) : ∀ (m i : Nat), (∀ j, i ≤ j → j < i + m → 0 ≤ f j ∧ f j ≤ B) → 0 ≤ sumF f m i ∧ sumF f m i ≤ m * B
  | 0, _, _ => ⟨Int.le_refl _, by simp [sumF]⟩
  | m + 1, i, h => by
    have h1 := sumF_bd hB m (i + 1) (fun j a c => h j (by omega) (by omega))
    have h2 := h i (by omega) (by omega)
    rw [sumF]
    have h3 : ((m + 1 : Nat) : Int) * B = m * B + B := by rw [Int.natCast_add, Int.add_mul]; simp
    omega
def bxG (q : Int × Int × Int × Int) : Prop := -8 ≤ q.1 ∧ q.1 ≤ q.2.1 ∧ q.2.1 ≤ 1016 ∧ -8 ≤ q.2.2.1 ∧ q.2.2.1 ≤ q.2.2.2 ∧ q.2.2.2 ≤ 136
def bx0 : Int × Int × Int × Int := (268435456, -268435456, 268435456, -268435456)
theorem bx4_good {px py : Nat → Int} {sk : Int} (hx : ∀ k, -8 ≤ px k ∧ px k ≤ 1016) (hy : ∀ k, -8 ≤ py k ∧ py k ≤ 136) : ∀ (m i : Nat) (q : Int × Int × Int × Int), bxG q → bxG (bx4 px py sk m i q)
  | 0, _, _, h => h
  | m + 1, i, q, h => by
    rw [bx4]
    refine bx4_good hx hy m (i + 1) _ ?_
    by_cases e : (i : Int) = sk
    · rw [if_pos e]; exact h
    · rw [if_neg e]
      have h1 := hx i
      have h2 := hy i
      obtain ⟨a1, a2, a3, a4, a5, a6⟩ := h
      refine ⟨?_, ?_, ?_, ?_, ?_, ?_⟩ <;> dsimp only <;> omega
theorem bx4_first {px py : Nat → Int} {sk : Int} (hx : ∀ k, -8 ≤ px k ∧ px k ≤ 1016) (hy : ∀ k, -8 ≤ py k ∧ py k ≤ 136) {m i : Nat} (e : ¬ (i : Int) = sk) : bxG (bx4 px py sk (m + 1) i bx0) := by
  rw [bx4, if_neg e]
  refine bx4_good hx hy m (i + 1) _ ?_
  have h1 := hx i
  have h2 := hy i
  unfold bx0
  refine ⟨?_, ?_, ?_, ?_, ?_, ?_⟩ <;> dsimp only <;> omega
/-- the box of a net -/
def bxn (v : Nat → Nat → Int) (n : Nat) : Int × Int × Int × Int := bx4 (pnX v n) (pnY v n) (-1) (v 21 n).toNat 0 bx0
/-- nets have pins enough -/
def N2v (v : Nat → Nat → Int) : Prop := ∀ n : Nat, (n : Int) < v 19 0 → 2 ≤ v 21 n
theorem bxn_good {v : Nat → Nat → Int} (hw : RGv v) (h2 : N2v v) {n : Nat} (hn : (n : Int) < v 19 0) : bxG (bxn v n) := by
  have := h2 n hn
  unfold bxn
  obtain ⟨m, hm⟩ : ∃ m, (v 21 n).toNat = m + 1 := ⟨(v 21 n).toNat - 1, by omega⟩
  rw [hm]
  exact bx4_first (fun k => pnX_bd hw n k) (fun k => pnY_bd hw n k) (by omega)
def spn (v : Nat → Nat → Int) (t : Int) (n : Nat) : Int := (bxn v n).2.1 - (bxn v n).1 + t * ((bxn v n).2.2.2 - (bxn v n).2.2.1)
theorem spn_bd {v : Nat → Nat → Int} {t : Int} (hw : RGv v) (h2 : N2v v) {n : Nat} (hn : (n : Int) < v 19 0) (t0 : 0 ≤ t) (t1 : t ≤ 8) : 0 ≤ spn v t n ∧ spn v t n ≤ 2176 := by
  obtain ⟨a1, a2, a3, a4, a5, a6⟩ := bxn_good hw h2 hn
  have := mul_bd (a := t) (b := (bxn v n).2.2.2 - (bxn v n).2.2.1) (A := 8) (B := 144) t0 t1 (by omega) (by omega)
  unfold spn
  omega
def wir (v : Nat → Nat → Int) (t : Int) : Int := sumF (fun n => v 20 n * spn v t n) (v 19 0).toNat 0
/-- the kept box behind the first m nets -/
def wbx (F : Nat → Nat → Int) (v : Nat → Nat → Int) : Nat → Nat → Nat → Int
  | 0 => F
  | m + 1 => sb F (bxn v m).1 (bxn v m).2.1 (bxn v m).2.2.1 (bxn v m).2.2.2
section WIR
variable {X : xL} {b ns nb ln : Nat} {I F : Nat → Nat → Int} {l r lo hi : Int} {h : xH} {Q : Option xV → xH → Prop}
theorem sb_4u : up2 (up2 (up2 (up2 F 14 1 l) 14 2 r) 14 3 lo) 14 4 hi = sb F l r lo hi := by
  have := sb_id (F := F)
  rw [← this, sb_u1, sb_u2, sb_u3, sb_u4, sb_sb]
set_option maxHeartbeats 2000000 in
theorem m_89 {n : Nat} {sk : Int} (hp : PL X b) (hc : CT X ns nb ln) (hw : RGv (cv (I, F) b)) (hnw : NWv (cv (I, F) b)) (hnn : (n : Int) < F (b + 19) 0) : Cl X 89 [vr 14, vr b, vi n, vi sk] (I, F) Q ↔ Q none (I, sb F (bx4 (pnX (cv (I, F) b) n) (pnY (cv (I, F) b) n) sk (I (b + 21) n).toNat 0 bx0).1 (bx4 (pnX (cv (I, F) b) n) (pnY (cv (I, F) b) n) sk (I (b + 21) n).toNat 0 bx0).2.1 (bx4 (pnX (cv (I, F) b) n) (pnY (cv (I, F) b) n) sk (I (b + 21) n).toNat 0 bx0).2.2.1 (bx4 (pnX (cv (I, F) b) n) (pnY (cv (I, F) b) n) sk (I (b + 21) n).toNat 0 bx0).2.2.2) := by
  have w1 := hw.nN
  have w2 := hw.pin n
  rw [cv_19] at w1
  rw [cv_21] at w2
  dsimp only at w1 w2
  rw [c_89]
  simp (disch := first | assumption | omega) only [e_89_0, e_89_1, e_89_2, e_89_3, e_89_4, e_89_5, e_89_6, e_89_7, e_89_8, e_89_9, e_89_10, e_89_11, e_89_12, e_89_13, e_89_14, e_89_15, e_89_16, e_89_17, e_89_18, e_89_19, e_89_20, onI_s, onR_s, onL_s, gl_0, gl_n, gl_1, gl_2, gl_3, gl_4, gl_5, gl_6, gl_7, gl_8, gl_9, gl_10, gl_11, gl_12, gl_13, gl_14, gl_15, gl_16, gl_17, sk0i, sk0r, sk0n, sk1i, sk1r, sk1n, sk_2, sk_3, sk_4, sk_5, sk_6, sk_7, sk_8, sk_9, sk_10, sk_11, sk_12, sk_13, sk_14, sk_15, sk_16, sk_17, ls_0, ls_1, ls_2, ls_3, ls_4, ls_5, ls_6, ls_7, ls_8, ls_9, ls_10, ls_11, ls_12, ls_13, ls_14, ls_15, ls_16, ls_17, ct1_i, ct1_r, wd8_0, wd8_i1, wd8_r1, wd8_i2, wd8_r2, wd8_i3, wd8_r3, wd8_i4, wd8_r4, wd8_i5, wd8_r5, wd8_i6, wd8_r6, wd8_i7, wd8_r7, wd8_i8, wd8_r8, wd8_l2, wd8_l3, wd8_l4, wd8_l5, wd8_l6, wd8_l7, wd8_l8, tl_s, tl_n, inR_t, bd_t, true_and, and_true, true_or, or_true, if_true_x, if_false_x, if_pos, if_neg, Int.toNat_natCast, natL, bI_0, bI_1, bI_ft, eq_self, b_tf, b_ft, hc.t14, hc.r14_0, hc.r14_5, hc.r14_7, hc.r14_8, hc.r14_9, hc.r14_10, hc.r14_11, hc.r14_12, hp.t0, hp.t1, hp.t2, hp.t3, hp.t4, hp.t5, hp.t6, hp.t7, hp.t8, hp.t9, hp.t10, hp.t11, hp.t12, hp.t13, hp.t14, hp.t15, hp.t16, hp.t17, hp.t18, hp.t19, hp.t20, hp.t21, hp.t22, hp.t23, hp.z2, hp.z3, hp.z4, hp.z5, hp.z7, hp.z8, hp.z9, hp.z10, hp.z12, hp.z13, hp.z14, hp.z15, hp.z16, hp.z17, hp.z18, hp.z20, hp.z21, hp.z22, hp.z23, hp.r0_2, hp.r0_3, hp.r0_4, hp.r0_5, hp.r1_1, hp.r1_2, hp.r1_3, hp.r1_4, hp.r6_1, hp.r6_2, hp.r6_3, hp.r6_4, hp.r11_1, hp.r11_2, hp.r11_3, hp.r11_4, hp.r11_5, hp.r11_6, hp.r11_7, hp.r19_1, hp.r19_2, hp.r19_3, hp.r19_4, sb_4u]
  exact l_89 hp hc hw hnw (by omega) hnn (pp := (I (b + 21) n).toNat) (by omega) (by omega) _ 0 _ _ _ _ _ _ (by omega)
set_option maxHeartbeats 2000000 in
theorem m_91 {n : Nat} (hp : PL X b) (hc : CT X ns nb ln) (hw : RGv (cv (I, F) b)) (hnw : NWv (cv (I, F) b)) (h2 : N2v (cv (I, F) b)) (t0 : 0 ≤ I 1 4) (t1 : I 1 4 ≤ 8) (hnn : (n : Int) < F (b + 19) 0) : Cl X 91 [vr 14, vr b, vi n] (I, F) Q ↔ Q (some (vi (spn (cv (I, F) b) (I 1 4) n))) (I, sb F (bxn (cv (I, F) b) n).1 (bxn (cv (I, F) b) n).2.1 (bxn (cv (I, F) b) n).2.2.1 (bxn (cv (I, F) b) n).2.2.2) := by
  obtain ⟨a1, a2, a3, a4, a5, a6⟩ := bxn_good hw h2 (n := n) (by rw [cv_19]; exact hnn)
  have hm := mul_bd (a := I 1 4) (b := (bxn (cv (I, F) b) n).2.2.2 - (bxn (cv (I, F) b) n).2.2.1) (A := 8) (B := 144) t0 t1 (by omega) (by omega)
  have hb : bx4 (pnX (cv (I, F) b) n) (pnY (cv (I, F) b) n) (-1) (I (b + 21) n).toNat 0 bx0 = bxn (cv (I, F) b) n := rfl
  rw [c_91]
  simp (disch := first | assumption | omega) only [e_91_0, e_91_1, e_91_2, e_91_3, e_91_4, e_91_5, e_91_6, e_91_7, e_91_8, e_91_9, e_91_10, e_91_11, e_91_12, e_91_13, e_91_14, e_91_15, e_91_16, e_91_17, e_91_18, e_91_19, e_91_20, e_91_21, onI_s, onR_s, onL_s, gl_0, gl_n, gl_1, gl_2, gl_3, gl_4, gl_5, gl_6, gl_7, gl_8, gl_9, gl_10, gl_11, gl_12, gl_13, gl_14, gl_15, gl_16, gl_17, sk0i, sk0r, sk0n, sk1i, sk1r, sk1n, sk_2, sk_3, sk_4, sk_5, sk_6, sk_7, sk_8, sk_9, sk_10, sk_11, sk_12, sk_13, sk_14, sk_15, sk_16, sk_17, ls_0, ls_1, ls_2, ls_3, ls_4, ls_5, ls_6, ls_7, ls_8, ls_9, ls_10, ls_11, ls_12, ls_13, ls_14, ls_15, ls_16, ls_17, ct1_i, ct1_r, wd8_0, wd8_i1, wd8_r1, wd8_i2, wd8_r2, wd8_i3, wd8_r3, wd8_i4, wd8_r4, wd8_i5, wd8_r5, wd8_i6, wd8_r6, wd8_i7, wd8_r7, wd8_i8, wd8_r8, wd8_l2, wd8_l3, wd8_l4, wd8_l5, wd8_l6, wd8_l7, wd8_l8, tl_s, tl_n, inR_t, bd_t, true_and, and_true, true_or, or_true, if_true_x, if_false_x, if_pos, if_neg, Int.toNat_natCast, natL, bI_0, bI_1, bI_ft, eq_self, b_tf, b_ft, m_89 hp hc hw hnw hnn, hb, sb_1, sb_2, sb_3, sb_4, tn_4, hc.t1, hc.z1, hc.t14, hc.r14_0, hc.r14_5, hc.r14_7, hc.r14_8, hc.r14_9, hc.r14_10, hc.r14_11, hc.r14_12, hp.t0, hp.t1, hp.t2, hp.t3, hp.t4, hp.t5, hp.t6, hp.t7, hp.t8, hp.t9, hp.t10, hp.t11, hp.t12, hp.t13, hp.t14, hp.t15, hp.t16, hp.t17, hp.t18, hp.t19, hp.t20, hp.t21, hp.t22, hp.t23, hp.z2, hp.z3, hp.z4, hp.z5, hp.z7, hp.z8, hp.z9, hp.z10, hp.z12, hp.z13, hp.z14, hp.z15, hp.z16, hp.z17, hp.z18, hp.z20, hp.z21, hp.z22, hp.z23, hp.r0_2, hp.r0_3, hp.r0_4, hp.r0_5, hp.r1_1, hp.r1_2, hp.r1_3, hp.r1_4, hp.r6_1, hp.r6_2, hp.r6_3, hp.r6_4, hp.r11_1, hp.r11_2, hp.r11_3, hp.r11_4, hp.r11_5, hp.r11_6, hp.r11_7, hp.r19_1, hp.r19_2, hp.r19_3, hp.r19_4]
  exact Iff.rfl
theorem wbx_s {v : Nat → Nat → Int} {m : Nat} : sb (wbx F v m) (bxn v m).1 (bxn v m).2.1 (bxn v m).2.2.1 (bxn v m).2.2.2 = wbx F v (m + 1) := by
  cases m with
  | zero => rfl
  | succ m => exact sb_sb
theorem cv_wbx (hp : PL X b) (hc : CT X ns nb ln) {v : Nat → Nat → Int} {m : Nat} : cv (I, wbx F v m) b = cv (I, F) b := by
  cases m with
  | zero => rfl
  | succ m => exact cv_sb hp hc
set_option maxHeartbeats 2000000 in
theorem l_92 (hp : PL X b) (hc : CT X ns nb ln) (hw : RGv (cv (I, F) b)) (hnw : NWv (cv (I, F) b)) (h2 : N2v (cv (I, F) b)) (t0 : 0 ≤ I 1 4) (t1 : I 1 4 ≤ 8) {nn : Nat} (hs : F (b + 19) 0 = nn) (hnn : nn ≤ 16) : ∀ (m i : Nat) (a : Int), i + m = nn → 0 ≤ a → a ≤ i * 19584 → (Ev X 92 4 [some (vr 14), some (vr b), some (vi a), some (vi i)] [] (I, wbx F (cv (I, F) b) i) Q ↔ Q (some (vi (a + sumF (fun n => cv (I, F) b 20 n * spn (cv (I, F) b) (I 1 4) n) m i))) (I, wbx F (cv (I, F) b) (i + m))) := by
  have n14 : b + 19 ≠ 14 := fun e => by have := hp.t19; rw [e, hc.t14] at this; cases this
  have hF : ∀ i, wbx F (cv (I, F) b) i (b + 19) 0 = nn := fun i => by
    cases i with
    | zero => exact hs
    | succ i => rw [wbx, sb_o n14]; exact hs
  intro m
  induction m with
  | zero =>
    intro i a hm h0 h1
    rw [e_92_4]
    simp (disch := first | assumption | omega) only [e_92_5, e_92_6, e_92_7, e_92_8, e_92_24, e_92_25, onI_s, onR_s, onL_s, gl_0, gl_n, gl_1, gl_2, gl_3, gl_4, gl_5, gl_6, gl_7, gl_8, gl_9, gl_10, gl_11, gl_12, gl_13, gl_14, gl_15, gl_16, gl_17, sk0i, sk0r, sk0n, sk1i, sk1r, sk1n, sk_2, sk_3, sk_4, sk_5, sk_6, sk_7, sk_8, sk_9, sk_10, sk_11, sk_12, sk_13, sk_14, sk_15, sk_16, sk_17, ls_0, ls_1, ls_2, ls_3, ls_4, ls_5, ls_6, ls_7, ls_8, ls_9, ls_10, ls_11, ls_12, ls_13, ls_14, ls_15, ls_16, ls_17, ct1_i, ct1_r, wd8_0, wd8_i1, wd8_r1, wd8_i2, wd8_r2, wd8_i3, wd8_r3, wd8_i4, wd8_r4, wd8_i5, wd8_r5, wd8_i6, wd8_r6, wd8_i7, wd8_r7, wd8_i8, wd8_r8, wd8_l2, wd8_l3, wd8_l4, wd8_l5, wd8_l6, wd8_l7, wd8_l8, tl_s, tl_n, inR_t, bd_t, true_and, and_true, true_or, or_true, if_true_x, if_false_x, if_pos, if_neg, Int.toNat_natCast, natL, bI_0, bI_1, bI_ft, eq_self, b_tf, b_ft, hF i, hp.t0, hp.t1, hp.t2, hp.t3, hp.t4, hp.t5, hp.t6, hp.t7, hp.t8, hp.t9, hp.t10, hp.t11, hp.t12, hp.t13, hp.t14, hp.t15, hp.t16, hp.t17, hp.t18, hp.t19, hp.t20, hp.t21, hp.t22, hp.t23, hp.z2, hp.z3, hp.z4, hp.z5, hp.z7, hp.z8, hp.z9, hp.z10, hp.z12, hp.z13, hp.z14, hp.z15, hp.z16, hp.z17, hp.z18, hp.z20, hp.z21, hp.z22, hp.z23, hp.r0_2, hp.r0_3, hp.r0_4, hp.r0_5, hp.r1_1, hp.r1_2, hp.r1_3, hp.r1_4, hp.r6_1, hp.r6_2, hp.r6_3, hp.r6_4, hp.r11_1, hp.r11_2, hp.r11_3, hp.r11_4, hp.r11_5, hp.r11_6, hp.r11_7, hp.r19_1, hp.r19_2, hp.r19_3, hp.r19_4]
    rw [sumF, Int.add_zero, Nat.add_zero]
  | succ m ih =>
    intro i a hm h0 h1
    rw [e_92_4]
    have w1 := hw.wgt i
    rw [cv_20] at w1
    dsimp only at w1
    have w2 := spn_bd (t := I 1 4) hw h2 (n := i) (by rw [cv_19]; show (i : Int) < F (b + 19) 0; omega) t0 t1
    have w3 := mul_bd w1.1 w1.2 w2.1 w2.2
    have c1 : RGv (cv (I, wbx F (cv (I, F) b) i) b) := by rw [cv_wbx hp hc]; exact hw
    have c2 : NWv (cv (I, wbx F (cv (I, F) b) i) b) := by rw [cv_wbx hp hc]; exact hnw
    have c3 : N2v (cv (I, wbx F (cv (I, F) b) i) b) := by rw [cv_wbx hp hc]; exact h2
    have c4 : (i : Int) < wbx F (cv (I, F) b) i (b + 19) 0 := by rw [hF i]; omega
    have ea : a + I (b + 20) i * spn (cv (I, F) b) (I 1 4) i ≤ (i + 1 : Nat) * 19584 := by
      rw [Int.natCast_add, Int.add_mul]
      omega
    simp (disch := first | assumption | omega) only [e_92_5, e_92_6, e_92_7, e_92_8, e_92_9, e_92_10, e_92_11, e_92_12, e_92_13, e_92_14, e_92_15, e_92_16, e_92_17, e_92_18, e_92_19, e_92_20, e_92_21, e_92_22, e_92_23, onI_s, onR_s, onL_s, gl_0, gl_n, gl_1, gl_2, gl_3, gl_4, gl_5, gl_6, gl_7, gl_8, gl_9, gl_10, gl_11, gl_12, gl_13, gl_14, gl_15, gl_16, gl_17, sk0i, sk0r, sk0n, sk1i, sk1r, sk1n, sk_2, sk_3, sk_4, sk_5, sk_6, sk_7, sk_8, sk_9, sk_10, sk_11, sk_12, sk_13, sk_14, sk_15, sk_16, sk_17, ls_0, ls_1, ls_2, ls_3, ls_4, ls_5, ls_6, ls_7, ls_8, ls_9, ls_10, ls_11, ls_12, ls_13, ls_14, ls_15, ls_16, ls_17, ct1_i, ct1_r, wd8_0, wd8_i1, wd8_r1, wd8_i2, wd8_r2, wd8_i3, wd8_r3, wd8_i4, wd8_r4, wd8_i5, wd8_r5, wd8_i6, wd8_r6, wd8_i7, wd8_r7, wd8_i8, wd8_r8, wd8_l2, wd8_l3, wd8_l4, wd8_l5, wd8_l6, wd8_l7, wd8_l8, tl_s, tl_n, inR_t, bd_t, true_and, and_true, true_or, or_true, if_true_x, if_false_x, if_pos, if_neg, Int.toNat_natCast, natL, bI_0, bI_1, bI_ft, eq_self, b_tf, b_ft, m_91 hp hc c1 c2 c3 t0 t1 c4, cv_wbx hp hc, wbx_s, hF i, hc.t14, hc.r14_0, hc.r14_5, hc.r14_7, hc.r14_8, hc.r14_9, hc.r14_10, hc.r14_11, hc.r14_12, hp.t0, hp.t1, hp.t2, hp.t3, hp.t4, hp.t5, hp.t6, hp.t7, hp.t8, hp.t9, hp.t10, hp.t11, hp.t12, hp.t13, hp.t14, hp.t15, hp.t16, hp.t17, hp.t18, hp.t19, hp.t20, hp.t21, hp.t22, hp.t23, hp.z2, hp.z3, hp.z4, hp.z5, hp.z7, hp.z8, hp.z9, hp.z10, hp.z12, hp.z13, hp.z14, hp.z15, hp.z16, hp.z17, hp.z18, hp.z20, hp.z21, hp.z22, hp.z23, hp.r0_2, hp.r0_3, hp.r0_4, hp.r0_5, hp.r1_1, hp.r1_2, hp.r1_3, hp.r1_4, hp.r6_1, hp.r6_2, hp.r6_3, hp.r6_4, hp.r11_1, hp.r11_2, hp.r11_3, hp.r11_4, hp.r11_5, hp.r11_6, hp.r11_7, hp.r19_1, hp.r19_2, hp.r19_3, hp.r19_4]
    simp only [cast_s]
    rw [ih (i + 1) _ (by omega) (by omega) ea, sumF, cv_20, Int.add_assoc, show i + 1 + m = i + (m + 1) by omega]
set_option maxHeartbeats 2000000 in
theorem m_92 (hp : PL X b) (hc : CT X ns nb ln) (hw : RGv (cv (I, F) b)) (hnw : NWv (cv (I, F) b)) (h2 : N2v (cv (I, F) b)) (t0 : 0 ≤ I 1 4) (t1 : I 1 4 ≤ 8) : Cl X 92 [vr 14, vr b] (I, F) Q ↔ Q (some (vi (wir (cv (I, F) b) (I 1 4)))) (I, wbx F (cv (I, F) b) (F (b + 19) 0).toNat) := by
  have w1 := hw.nN
  rw [cv_19] at w1
  dsimp only at w1
  rw [c_92]
  simp (disch := first | assumption | omega) only [e_92_0, e_92_1, e_92_2, e_92_3, onI_s, onR_s, onL_s, gl_0, gl_n, gl_1, gl_2, gl_3, gl_4, gl_5, gl_6, gl_7, gl_8, gl_9, gl_10, gl_11, gl_12, gl_13, gl_14, gl_15, gl_16, gl_17, sk0i, sk0r, sk0n, sk1i, sk1r, sk1n, sk_2, sk_3, sk_4, sk_5, sk_6, sk_7, sk_8, sk_9, sk_10, sk_11, sk_12, sk_13, sk_14, sk_15, sk_16, sk_17, ls_0, ls_1, ls_2, ls_3, ls_4, ls_5, ls_6, ls_7, ls_8, ls_9, ls_10, ls_11, ls_12, ls_13, ls_14, ls_15, ls_16, ls_17, ct1_i, ct1_r, wd8_0, wd8_i1, wd8_r1, wd8_i2, wd8_r2, wd8_i3, wd8_r3, wd8_i4, wd8_r4, wd8_i5, wd8_r5, wd8_i6, wd8_r6, wd8_i7, wd8_r7, wd8_i8, wd8_r8, wd8_l2, wd8_l3, wd8_l4, wd8_l5, wd8_l6, wd8_l7, wd8_l8, tl_s, tl_n, inR_t, bd_t, true_and, and_true, true_or, or_true, if_true_x, if_false_x, if_pos, if_neg, Int.toNat_natCast, natL, bI_0, bI_1, bI_ft, eq_self, b_tf, b_ft, hp.t0, hp.t1, hp.t2, hp.t3, hp.t4, hp.t5, hp.t6, hp.t7, hp.t8, hp.t9, hp.t10, hp.t11, hp.t12, hp.t13, hp.t14, hp.t15, hp.t16, hp.t17, hp.t18, hp.t19, hp.t20, hp.t21, hp.t22, hp.t23, hp.z2, hp.z3, hp.z4, hp.z5, hp.z7, hp.z8, hp.z9, hp.z10, hp.z12, hp.z13, hp.z14, hp.z15, hp.z16, hp.z17, hp.z18, hp.z20, hp.z21, hp.z22, hp.z23, hp.r0_2, hp.r0_3, hp.r0_4, hp.r0_5, hp.r1_1, hp.r1_2, hp.r1_3, hp.r1_4, hp.r6_1, hp.r6_2, hp.r6_3, hp.r6_4, hp.r11_1, hp.r11_2, hp.r11_3, hp.r11_4, hp.r11_5, hp.r11_6, hp.r11_7, hp.r19_1, hp.r19_2, hp.r19_3, hp.r19_4]
  have := l_92 (Q := Q) hp hc hw hnw h2 t0 t1 (nn := (F (b + 19) 0).toNat) (by omega) (by omega) (F (b + 19) 0).toNat 0 0 (by omega) (by omega) (by omega)
  rw [Int.zero_add, Nat.zero_add] at this
  exact this
end WIR
