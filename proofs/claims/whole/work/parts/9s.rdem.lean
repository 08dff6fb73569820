/-! BINS of the reference: bin and measure -/
theorem amx_cr {D : Nat → Int} : ∀ (m i b : Nat), amx D m i b = amx D m i b := fun _ _ _ => rfl
section BIS
variable {X : xL} {Q : Option xV → xH → Prop} {ns nb ln : Nat} {h : xH}
set_option maxHeartbeats 4000000 in
theorem m_216 (hc : CT X ns nb ln) (hw : RGv (vm h)) (tm : TMb (h.1 72)) (ls : LSr h) {b : Nat} (hb : b < nbn (vm h)) : Cl X 216 [vr 70, vi b] h Q ↔ Q (some (vi (ovr (vm h) (h.1 72 1) (nbC (vm h)) b))) h := by
  have nn := nb_b hw
  have t1 := tm.tgt
  have a := ned_b hw (b / nbC (vm h)) (b % nbC (vm h))
  have s := sup_b hw (b / nbC (vm h)) (b % nbC (vm h))
  have es := ls b hb
  have mb := mul_bd (a := sup (vm h) (b / nbC (vm h)) (b % nbC (vm h))) (b := h.1 72 1) (A := 65536) (B := 100) (by omega) (by omega) (by omega) (by omega)
  have m0 := Int.mul_nonneg s.1 (show 0 ≤ h.1 72 1 by omega)
  have td : (sup (vm h) (b / nbC (vm h)) (b % nbC (vm h)) * h.1 72 1).tdiv 100 = sup (vm h) (b / nbC (vm h)) (b % nbC (vm h)) * h.1 72 1 / 100 := td_n m0
  have dd := Int.ediv_nonneg m0 (show (0 : Int) ≤ 100 by decide)
  have d2 := Int.ediv_le_self (100 : Int) m0
  rw [c_216]
  by_cases e : ned (vm h) (b / nbC (vm h)) (b % nbC (vm h)) - sup (vm h) (b / nbC (vm h)) (b % nbC (vm h)) * h.1 72 1 / 100 ≤ 0
  · rw [show ovr (vm h) (h.1 72 1) (nbC (vm h)) b = 0 by unfold ovr; omega]
    simp (disch := first | assumption | omega) only [e_216_0, e_216_1, e_216_2, e_216_3, e_216_4, e_216_5, e_216_6, e_216_7, e_216_8, e_216_9, e_216_10, e_216_11, e_216_12, e_216_13, e_216_14, e_216_15, e_216_16, e_216_17, e_216_20, e_216_21, onI_s, onR_s, onL_s, gl_0, gl_n, gl_1, gl_2, gl_3, gl_4, gl_5, gl_6, gl_7, gl_8, gl_9, gl_10, gl_11, gl_12, gl_13, gl_14, gl_15, gl_16, gl_17, sk0i, sk0r, sk0n, sk1i, sk1r, sk1n, sk_2, sk_3, sk_4, sk_5, sk_6, sk_7, sk_8, sk_9, sk_10, sk_11, sk_12, sk_13, sk_14, sk_15, sk_16, sk_17, ls_0, ls_1, ls_2, ls_3, ls_4, ls_5, ls_6, ls_7, ls_8, ls_9, ls_10, ls_11, ls_12, ls_13, ls_14, ls_15, ls_16, ls_17, ct1_i, ct1_r, wd8_0, wd8_i1, wd8_r1, wd8_i2, wd8_r2, wd8_i3, wd8_r3, wd8_i4, wd8_r4, wd8_i5, wd8_r5, wd8_i6, wd8_r6, wd8_i7, wd8_r7, wd8_i8, wd8_r8, wd8_l2, wd8_l3, wd8_l4, wd8_l5, wd8_l6, wd8_l7, wd8_l8, tl_s, tl_n, inR_t, bd_t, true_and, and_true, true_or, or_true, if_true_x, if_false_x, if_pos, if_neg, Int.toNat_natCast, natL, bI_0, bI_1, bI_ft, eq_self, b_tf, b_ft, not_true_eq_false, not_false_eq_true, m_215 hc hw, es, tn_1, Int.toNat_natCast, dvR, dvE, nz_100, td, e, hc.t70, hc.r70_4, hc.r70_5, hc.r70_6, hc.r70_7, hc.r70_8, hc.r70_10, hc.r70_11, hc.r70_12, hc.r70_14, hc.r70_15, hc.r70_16, hc.r70_17, hc.r70_19, hc.r70_21, hc.r70_23, hc.r70_24, hc.r70_26, hc.r70_27, hc.r70_28, hc.r70_29, hc.r70_30, hc.r70_31, hc.r70_32, hc.r70_33, hc.r70_36, hc.t72, hc.z72, hc.t95, hc.z95]
  · rw [show ovr (vm h) (h.1 72 1) (nbC (vm h)) b = ned (vm h) (b / nbC (vm h)) (b % nbC (vm h)) - sup (vm h) (b / nbC (vm h)) (b % nbC (vm h)) * h.1 72 1 / 100 by unfold ovr; omega]
    simp (disch := first | assumption | omega) only [e_216_0, e_216_1, e_216_2, e_216_3, e_216_4, e_216_5, e_216_6, e_216_7, e_216_8, e_216_9, e_216_10, e_216_11, e_216_12, e_216_13, e_216_14, e_216_15, e_216_16, e_216_17, e_216_18, e_216_19, e_216_21, onI_s, onR_s, onL_s, gl_0, gl_n, gl_1, gl_2, gl_3, gl_4, gl_5, gl_6, gl_7, gl_8, gl_9, gl_10, gl_11, gl_12, gl_13, gl_14, gl_15, gl_16, gl_17, sk0i, sk0r, sk0n, sk1i, sk1r, sk1n, sk_2, sk_3, sk_4, sk_5, sk_6, sk_7, sk_8, sk_9, sk_10, sk_11, sk_12, sk_13, sk_14, sk_15, sk_16, sk_17, ls_0, ls_1, ls_2, ls_3, ls_4, ls_5, ls_6, ls_7, ls_8, ls_9, ls_10, ls_11, ls_12, ls_13, ls_14, ls_15, ls_16, ls_17, ct1_i, ct1_r, wd8_0, wd8_i1, wd8_r1, wd8_i2, wd8_r2, wd8_i3, wd8_r3, wd8_i4, wd8_r4, wd8_i5, wd8_r5, wd8_i6, wd8_r6, wd8_i7, wd8_r7, wd8_i8, wd8_r8, wd8_l2, wd8_l3, wd8_l4, wd8_l5, wd8_l6, wd8_l7, wd8_l8, tl_s, tl_n, inR_t, bd_t, true_and, and_true, true_or, or_true, if_true_x, if_false_x, if_pos, if_neg, Int.toNat_natCast, natL, bI_0, bI_1, bI_ft, eq_self, b_tf, b_ft, not_true_eq_false, not_false_eq_true, m_215 hc hw, es, tn_1, Int.toNat_natCast, dvR, dvE, nz_100, td, e, hc.t70, hc.r70_4, hc.r70_5, hc.r70_6, hc.r70_7, hc.r70_8, hc.r70_10, hc.r70_11, hc.r70_12, hc.r70_14, hc.r70_15, hc.r70_16, hc.r70_17, hc.r70_19, hc.r70_21, hc.r70_23, hc.r70_24, hc.r70_26, hc.r70_27, hc.r70_28, hc.r70_29, hc.r70_30, hc.r70_31, hc.r70_32, hc.r70_33, hc.r70_36, hc.t72, hc.z72, hc.t95, hc.z95]
set_option maxHeartbeats 4000000 in
theorem m_217 (hc : CT X ns nb ln) (hw : RGv (vm h)) (tm : TMb (h.1 72)) (ls : LSr h) : Cl X 217 [vr 70] h Q ↔ Q (some (vi (ovf (vm h) (h.1 72 1) (nbC (vm h)) (nbn (vm h))))) h := by
  have nn := nb_b hw
  have t1 := tm.tgt
  have lp : ∀ (m i : Nat) (a : Int), i + m = nbn (vm h) → 0 ≤ a → a ≤ i * 30720 → (Ev X 217 4 [some (vr 70), some (vi a), some (vi i)] [] h Q ↔ Q (some (vi (a + sumF (ovr (vm h) (h.1 72 1) (nbC (vm h))) m i))) h) := by
    intro m
    induction m with
    | zero =>
      intro i a hm a0 a1
      rw [e_217_4]
      simp (disch := first | assumption | omega) only [e_217_5, e_217_6, e_217_7, e_217_16, e_217_17, onI_s, onR_s, onL_s, gl_0, gl_n, gl_1, gl_2, gl_3, gl_4, gl_5, gl_6, gl_7, gl_8, gl_9, gl_10, gl_11, gl_12, gl_13, gl_14, gl_15, gl_16, gl_17, sk0i, sk0r, sk0n, sk1i, sk1r, sk1n, sk_2, sk_3, sk_4, sk_5, sk_6, sk_7, sk_8, sk_9, sk_10, sk_11, sk_12, sk_13, sk_14, sk_15, sk_16, sk_17, ls_0, ls_1, ls_2, ls_3, ls_4, ls_5, ls_6, ls_7, ls_8, ls_9, ls_10, ls_11, ls_12, ls_13, ls_14, ls_15, ls_16, ls_17, ct1_i, ct1_r, wd8_0, wd8_i1, wd8_r1, wd8_i2, wd8_r2, wd8_i3, wd8_r3, wd8_i4, wd8_r4, wd8_i5, wd8_r5, wd8_i6, wd8_r6, wd8_i7, wd8_r7, wd8_i8, wd8_r8, wd8_l2, wd8_l3, wd8_l4, wd8_l5, wd8_l6, wd8_l7, wd8_l8, tl_s, tl_n, inR_t, bd_t, true_and, and_true, true_or, or_true, if_true_x, if_false_x, if_pos, if_neg, Int.toNat_natCast, natL, bI_0, bI_1, bI_ft, eq_self, b_tf, b_ft, not_true_eq_false, not_false_eq_true, m_212n hc hw, hc.t70, hc.r70_4, hc.r70_5, hc.r70_6, hc.r70_7, hc.r70_8, hc.r70_10, hc.r70_11, hc.r70_12, hc.r70_14, hc.r70_15, hc.r70_16, hc.r70_17, hc.r70_19, hc.r70_21, hc.r70_23, hc.r70_24, hc.r70_26, hc.r70_27, hc.r70_28, hc.r70_29, hc.r70_30, hc.r70_31, hc.r70_32, hc.r70_33, hc.r70_36]
      rw [sumF, Int.add_zero]
    | succ m ih =>
      intro i a hm a0 a1
      have ob := ovr_b hw (tg := h.1 72 1) (by omega) (nbC (vm h)) i
      rw [e_217_4]
      simp (disch := first | assumption | omega) only [e_217_5, e_217_6, e_217_7, e_217_8, e_217_9, e_217_10, e_217_11, e_217_12, e_217_13, e_217_14, e_217_15, onI_s, onR_s, onL_s, gl_0, gl_n, gl_1, gl_2, gl_3, gl_4, gl_5, gl_6, gl_7, gl_8, gl_9, gl_10, gl_11, gl_12, gl_13, gl_14, gl_15, gl_16, gl_17, sk0i, sk0r, sk0n, sk1i, sk1r, sk1n, sk_2, sk_3, sk_4, sk_5, sk_6, sk_7, sk_8, sk_9, sk_10, sk_11, sk_12, sk_13, sk_14, sk_15, sk_16, sk_17, ls_0, ls_1, ls_2, ls_3, ls_4, ls_5, ls_6, ls_7, ls_8, ls_9, ls_10, ls_11, ls_12, ls_13, ls_14, ls_15, ls_16, ls_17, ct1_i, ct1_r, wd8_0, wd8_i1, wd8_r1, wd8_i2, wd8_r2, wd8_i3, wd8_r3, wd8_i4, wd8_r4, wd8_i5, wd8_r5, wd8_i6, wd8_r6, wd8_i7, wd8_r7, wd8_i8, wd8_r8, wd8_l2, wd8_l3, wd8_l4, wd8_l5, wd8_l6, wd8_l7, wd8_l8, tl_s, tl_n, inR_t, bd_t, true_and, and_true, true_or, or_true, if_true_x, if_false_x, if_pos, if_neg, Int.toNat_natCast, natL, bI_0, bI_1, bI_ft, eq_self, b_tf, b_ft, not_true_eq_false, not_false_eq_true, m_212n hc hw, m_216 hc hw tm ls, cast_s, hc.t70, hc.r70_4, hc.r70_5, hc.r70_6, hc.r70_7, hc.r70_8, hc.r70_10, hc.r70_11, hc.r70_12, hc.r70_14, hc.r70_15, hc.r70_16, hc.r70_17, hc.r70_19, hc.r70_21, hc.r70_23, hc.r70_24, hc.r70_26, hc.r70_27, hc.r70_28, hc.r70_29, hc.r70_30, hc.r70_31, hc.r70_32, hc.r70_33, hc.r70_36]
      rw [ih (i + 1) _ (by omega) (by omega) (by rw [Int.natCast_add, Int.add_mul]; omega), sumF, Int.add_assoc]
  rw [c_217]
  simp (disch := first | assumption | omega) only [e_217_0, e_217_1, e_217_2, e_217_3, onI_s, onR_s, onL_s, gl_0, gl_n, gl_1, gl_2, gl_3, gl_4, gl_5, gl_6, gl_7, gl_8, gl_9, gl_10, gl_11, gl_12, gl_13, gl_14, gl_15, gl_16, gl_17, sk0i, sk0r, sk0n, sk1i, sk1r, sk1n, sk_2, sk_3, sk_4, sk_5, sk_6, sk_7, sk_8, sk_9, sk_10, sk_11, sk_12, sk_13, sk_14, sk_15, sk_16, sk_17, ls_0, ls_1, ls_2, ls_3, ls_4, ls_5, ls_6, ls_7, ls_8, ls_9, ls_10, ls_11, ls_12, ls_13, ls_14, ls_15, ls_16, ls_17, ct1_i, ct1_r, wd8_0, wd8_i1, wd8_r1, wd8_i2, wd8_r2, wd8_i3, wd8_r3, wd8_i4, wd8_r4, wd8_i5, wd8_r5, wd8_i6, wd8_r6, wd8_i7, wd8_r7, wd8_i8, wd8_r8, wd8_l2, wd8_l3, wd8_l4, wd8_l5, wd8_l6, wd8_l7, wd8_l8, tl_s, tl_n, inR_t, bd_t, true_and, and_true, true_or, or_true, if_true_x, if_false_x, if_pos, if_neg, Int.toNat_natCast, natL, bI_0, bI_1, bI_ft, eq_self, b_tf, b_ft, not_true_eq_false, not_false_eq_true]
  have := lp (nbn (vm h)) 0 0 (by omega) (by omega) (by omega)
  rw [Int.zero_add] at this
  exact this
set_option maxHeartbeats 4000000 in
theorem m_218 (hc : CT X ns nb ln) (g : WG (vm h)) (tm : TMb (h.1 72)) (ls : LSr h) : Cl X 218 [vr 70] h Q ↔ Q (some (vi (cst (vm h) (h.1 72) (nbC (vm h)) (nbn (vm h))))) h := by
  have tt := tm.tall
  have tg := tm.gam
  have t1 := tm.tgt
  have t2 := tm.prs
  have nn := nb_b g.1
  have sb := smO_bd g (t := h.1 72 4) (gm := h.1 72 0) (by omega) (by omega) (by omega)
  have ob := ovf_b g.1 (tg := h.1 72 1) (by omega) (nbC (vm h)) (nbn (vm h)) (by omega)
  have mb := mul_bd (a := h.1 72 2) (b := ovf (vm h) (h.1 72 1) (nbC (vm h)) (nbn (vm h))) (A := 99) (B := 491520) (by omega) (by omega) (by omega) (by omega)
  rw [c_218]
  simp (disch := first | assumption | omega) only [e_218_0, e_218_1, e_218_2, e_218_3, e_218_4, e_218_5, e_218_6, e_218_7, e_218_8, e_218_9, e_218_10, e_218_11, e_218_12, onI_s, onR_s, onL_s, gl_0, gl_n, gl_1, gl_2, gl_3, gl_4, gl_5, gl_6, gl_7, gl_8, gl_9, gl_10, gl_11, gl_12, gl_13, gl_14, gl_15, gl_16, gl_17, sk0i, sk0r, sk0n, sk1i, sk1r, sk1n, sk_2, sk_3, sk_4, sk_5, sk_6, sk_7, sk_8, sk_9, sk_10, sk_11, sk_12, sk_13, sk_14, sk_15, sk_16, sk_17, ls_0, ls_1, ls_2, ls_3, ls_4, ls_5, ls_6, ls_7, ls_8, ls_9, ls_10, ls_11, ls_12, ls_13, ls_14, ls_15, ls_16, ls_17, ct1_i, ct1_r, wd8_0, wd8_i1, wd8_r1, wd8_i2, wd8_r2, wd8_i3, wd8_r3, wd8_i4, wd8_r4, wd8_i5, wd8_r5, wd8_i6, wd8_r6, wd8_i7, wd8_r7, wd8_i8, wd8_r8, wd8_l2, wd8_l3, wd8_l4, wd8_l5, wd8_l6, wd8_l7, wd8_l8, tl_s, tl_n, inR_t, bd_t, true_and, and_true, true_or, or_true, if_true_x, if_false_x, if_pos, if_neg, Int.toNat_natCast, natL, bI_0, bI_1, bI_ft, eq_self, b_tf, b_ft, not_true_eq_false, not_false_eq_true, m_210 hc g tm, m_217 hc g.1 tm ls, tn_2, hc.t70, hc.r70_4, hc.r70_5, hc.r70_6, hc.r70_7, hc.r70_8, hc.r70_10, hc.r70_11, hc.r70_12, hc.r70_14, hc.r70_15, hc.r70_16, hc.r70_17, hc.r70_19, hc.r70_21, hc.r70_23, hc.r70_24, hc.r70_26, hc.r70_27, hc.r70_28, hc.r70_29, hc.r70_30, hc.r70_31, hc.r70_32, hc.r70_33, hc.r70_36, hc.t72, hc.z72]
  rfl
set_option maxHeartbeats 4000000 in
theorem m_219 (hc : CT X ns nb ln) (g : Gd (vm h)) {b : Nat} (b16 : b < 16) : Cl X 219 [vr 70, vi b] h Q ↔ Q (some (vi (dmB (vm h) b))) h := by
  have hw := g.rg
  have nn := nb_b hw
  have C0 : (0 : Int) < (nbC (vm h) : Nat) := by omega
  have bc := Nat.mod_le b (nbC (vm h))
  have bd := Nat.div_le_self b (nbC (vm h))
  have nN := hw.nN
  have ws := hw.sites
  have wr := hw.rows
  unfold dmB
  obtain ⟨br, hbr⟩ : ∃ br, br = b / nbC (vm h) := ⟨_, rfl⟩
  obtain ⟨bq, hbq⟩ : ∃ bq, bq = b % nbC (vm h) := ⟨_, rfl⟩
  have tq : (b : Int).tdiv ((nbC (vm h) : Nat) : Int) = br := by rw [td_nn, ← hbr]
  have tr : (b : Int).tmod ((nbC (vm h) : Nat) : Int) = bq := by rw [tm_nn, ← hbq]
  rw [← hbr] at bd ⊢
  rw [← hbq] at bc ⊢
  have lp : ∀ (m n : Nat) (a : Int) (x4 : Option xV), n + m = (vm h 19 0).toNat → 0 ≤ a → a ≤ n * 9 → (Ev X 219 4 [some (vr 70), some (vi b), some (vi a), some (vi n), x4] [] h Q ↔ Q (some (vi (a + sumF (dT (vm h) br bq) m n))) h) := by
    intro m
    induction m with
    | zero =>
      intro i a x4 hm a0 a1
      rw [e_219_4]
      simp (disch := first | assumption | omega) only [e_219_5, e_219_6, e_219_7, e_219_8, e_219_9, e_219_74, e_219_75, onI_s, onR_s, onL_s, gl_0, gl_n, gl_1, gl_2, gl_3, gl_4, gl_5, gl_6, gl_7, gl_8, gl_9, gl_10, gl_11, gl_12, gl_13, gl_14, gl_15, gl_16, gl_17, sk0i, sk0r, sk0n, sk1i, sk1r, sk1n, sk_2, sk_3, sk_4, sk_5, sk_6, sk_7, sk_8, sk_9, sk_10, sk_11, sk_12, sk_13, sk_14, sk_15, sk_16, sk_17, ls_0, ls_1, ls_2, ls_3, ls_4, ls_5, ls_6, ls_7, ls_8, ls_9, ls_10, ls_11, ls_12, ls_13, ls_14, ls_15, ls_16, ls_17, ct1_i, ct1_r, wd8_0, wd8_i1, wd8_r1, wd8_i2, wd8_r2, wd8_i3, wd8_r3, wd8_i4, wd8_r4, wd8_i5, wd8_r5, wd8_i6, wd8_r6, wd8_i7, wd8_r7, wd8_i8, wd8_r8, wd8_l2, wd8_l3, wd8_l4, wd8_l5, wd8_l6, wd8_l7, wd8_l8, tl_s, tl_n, inR_t, bd_t, true_and, and_true, true_or, or_true, if_true_x, if_false_x, if_pos, if_neg, Int.toNat_natCast, natL, bI_0, bI_1, bI_ft, eq_self, b_tf, b_ft, not_true_eq_false, not_false_eq_true, tn_3, vm_nN, hc.t70, hc.r70_4, hc.r70_5, hc.r70_6, hc.r70_7, hc.r70_8, hc.r70_10, hc.r70_11, hc.r70_12, hc.r70_14, hc.r70_15, hc.r70_16, hc.r70_17, hc.r70_19, hc.r70_21, hc.r70_23, hc.r70_24, hc.r70_26, hc.r70_27, hc.r70_28, hc.r70_29, hc.r70_30, hc.r70_31, hc.r70_32, hc.r70_33, hc.r70_36, hc.t73, hc.z73]
      rw [sumF, Int.add_zero]
    | succ m ih =>
      intro n a x4 hm a0 a1
      have n16 : n < 16 := by omega
      have hn : (n : Int) < vm h 19 0 := by omega
      have wg := hw.wgt n
      have bi := bxn_in g hn
      have hx := bxn_m hw g.n2 hn
      obtain ⟨b1, b2, b3, b4, b5, b6⟩ := bi
      have e1 : mnF (pq (vm h) 1 0 n) (vm h 21 n).toNat 0 100000000 = (bxn (vm h) n).1 := by rw [hx, pq_10]
      have e2 : mxF (pq (vm h) 1 0 n) (vm h 21 n).toNat 0 (-100000000) = (bxn (vm h) n).2.1 := by rw [hx, pq_10]
      have e3 : mnF (pq (vm h) 1 1 n) (vm h 21 n).toNat 0 100000000 = (bxn (vm h) n).2.2.1 := by rw [hx, pq_11]
      have e4 : mxF (pq (vm h) 1 1 n) (vm h 21 n).toNat 0 (-100000000) = (bxn (vm h) n).2.2.2 := by rw [hx, pq_11]
      have d1 : (bxn (vm h) n).1.tdiv 128 = (bxn (vm h) n).1 / 128 := td_n (by omega)
      have d2 : (bxn (vm h) n).2.1.tdiv 128 = (bxn (vm h) n).2.1 / 128 := td_n (by omega)
      have d3 : (bxn (vm h) n).2.2.1.tdiv 32 = (bxn (vm h) n).2.2.1 / 32 := td_n (by omega)
      have d4 : (bxn (vm h) n).2.2.2.tdiv 32 = (bxn (vm h) n).2.2.2 / 32 := td_n (by omega)
      rw [e_219_4, sumF, ← Int.add_assoc]
      unfold dT at ih ⊢
      by_cases cx : (bxn (vm h) n).1 / 128 ≤ (bq : Int) ∧ (bq : Int) ≤ (bxn (vm h) n).2.1 / 128
      · have dx := bT cx
        by_cases cy : (bxn (vm h) n).2.2.1 / 32 ≤ (br : Int) ∧ (br : Int) ≤ (bxn (vm h) n).2.2.2 / 32
        · have dy := bT cy
          rw [if_pos ⟨cx, cy⟩, ← ih (n + 1) (a + vm h 20 n) (some (vi 1)) (by omega) (by omega) (by rw [Int.natCast_add, Int.add_mul]; omega)]
          simp (disch := first | assumption | omega) only [e_219_5, e_219_6, e_219_7, e_219_8, e_219_9, e_219_10, e_219_11, e_219_12, e_219_13, e_219_14, e_219_15, e_219_16, e_219_17, e_219_18, e_219_19, e_219_20, e_219_21, e_219_22, e_219_23, e_219_24, e_219_25, e_219_26, e_219_27, e_219_28, e_219_29, e_219_30, e_219_31, e_219_32, e_219_33, e_219_34, e_219_35, e_219_36, e_219_37, e_219_38, e_219_39, e_219_40, e_219_41, e_219_42, e_219_43, e_219_44, e_219_45, e_219_46, e_219_47, e_219_48, e_219_49, e_219_50, e_219_51, e_219_52, e_219_53, e_219_54, e_219_55, e_219_56, e_219_57, e_219_59, e_219_60, e_219_61, e_219_62, e_219_63, e_219_64, e_219_65, e_219_66, e_219_67, e_219_68, e_219_70, e_219_71, e_219_72, e_219_73, onI_s, onR_s, onL_s, gl_0, gl_n, gl_1, gl_2, gl_3, gl_4, gl_5, gl_6, gl_7, gl_8, gl_9, gl_10, gl_11, gl_12, gl_13, gl_14, gl_15, gl_16, gl_17, sk0i, sk0r, sk0n, sk1i, sk1r, sk1n, sk_2, sk_3, sk_4, sk_5, sk_6, sk_7, sk_8, sk_9, sk_10, sk_11, sk_12, sk_13, sk_14, sk_15, sk_16, sk_17, ls_0, ls_1, ls_2, ls_3, ls_4, ls_5, ls_6, ls_7, ls_8, ls_9, ls_10, ls_11, ls_12, ls_13, ls_14, ls_15, ls_16, ls_17, ct1_i, ct1_r, wd8_0, wd8_i1, wd8_r1, wd8_i2, wd8_r2, wd8_i3, wd8_r3, wd8_i4, wd8_r4, wd8_i5, wd8_r5, wd8_i6, wd8_r6, wd8_i7, wd8_r7, wd8_i8, wd8_r8, wd8_l2, wd8_l3, wd8_l4, wd8_l5, wd8_l6, wd8_l7, wd8_l8, tl_s, tl_n, inR_t, bd_t, true_and, and_true, true_or, or_true, if_true_x, if_false_x, if_pos, if_neg, Int.toNat_natCast, natL, bI_0, bI_1, bI_ft, eq_self, b_tf, b_ft, not_true_eq_false, not_false_eq_true, tn_3, vm_nN, m_211n hc hw, m_203 hc hw g.nw n16 hn, m_204 hc hw g.nw n16 hn, m_149, m_159, inL_t, vm_20, e1, e2, e3, e4, d1, d2, d3, d4, dx, dy, nzp C0, dvR, dvE, nz_128, nz_32, tq, tr, cast_s, hc.t70, hc.r70_4, hc.r70_5, hc.r70_6, hc.r70_7, hc.r70_8, hc.r70_10, hc.r70_11, hc.r70_12, hc.r70_14, hc.r70_15, hc.r70_16, hc.r70_17, hc.r70_19, hc.r70_21, hc.r70_23, hc.r70_24, hc.r70_26, hc.r70_27, hc.r70_28, hc.r70_29, hc.r70_30, hc.r70_31, hc.r70_32, hc.r70_33, hc.r70_36, hc.t73, hc.z73]
        · have dy := bF cy
          rw [if_neg (fun q => cy q.2), Int.add_zero, ← ih (n + 1) a (some (vi 0)) (by omega) (by omega) (by rw [Int.natCast_add, Int.add_mul]; omega)]
          simp (disch := first | assumption | omega) only [e_219_5, e_219_6, e_219_7, e_219_8, e_219_9, e_219_10, e_219_11, e_219_12, e_219_13, e_219_14, e_219_15, e_219_16, e_219_17, e_219_18, e_219_19, e_219_20, e_219_21, e_219_22, e_219_23, e_219_24, e_219_25, e_219_26, e_219_27, e_219_28, e_219_29, e_219_30, e_219_31, e_219_32, e_219_33, e_219_34, e_219_35, e_219_36, e_219_37, e_219_38, e_219_39, e_219_40, e_219_41, e_219_42, e_219_43, e_219_44, e_219_45, e_219_46, e_219_47, e_219_48, e_219_49, e_219_50, e_219_51, e_219_52, e_219_53, e_219_54, e_219_55, e_219_58, e_219_59, e_219_60, e_219_61, e_219_62, e_219_69, e_219_70, e_219_71, e_219_72, e_219_73, onI_s, onR_s, onL_s, gl_0, gl_n, gl_1, gl_2, gl_3, gl_4, gl_5, gl_6, gl_7, gl_8, gl_9, gl_10, gl_11, gl_12, gl_13, gl_14, gl_15, gl_16, gl_17, sk0i, sk0r, sk0n, sk1i, sk1r, sk1n, sk_2, sk_3, sk_4, sk_5, sk_6, sk_7, sk_8, sk_9, sk_10, sk_11, sk_12, sk_13, sk_14, sk_15, sk_16, sk_17, ls_0, ls_1, ls_2, ls_3, ls_4, ls_5, ls_6, ls_7, ls_8, ls_9, ls_10, ls_11, ls_12, ls_13, ls_14, ls_15, ls_16, ls_17, ct1_i, ct1_r, wd8_0, wd8_i1, wd8_r1, wd8_i2, wd8_r2, wd8_i3, wd8_r3, wd8_i4, wd8_r4, wd8_i5, wd8_r5, wd8_i6, wd8_r6, wd8_i7, wd8_r7, wd8_i8, wd8_r8, wd8_l2, wd8_l3, wd8_l4, wd8_l5, wd8_l6, wd8_l7, wd8_l8, tl_s, tl_n, inR_t, bd_t, true_and, and_true, true_or, or_true, if_true_x, if_false_x, if_pos, if_neg, Int.toNat_natCast, natL, bI_0, bI_1, bI_ft, eq_self, b_tf, b_ft, not_true_eq_false, not_false_eq_true, tn_3, vm_nN, m_211n hc hw, m_203 hc hw g.nw n16 hn, m_204 hc hw g.nw n16 hn, m_149, inL_t, e1, e2, e3, e4, d1, d2, d3, d4, dx, dy, nzp C0, dvR, dvE, nz_128, nz_32, tq, tr, Int.add_zero, cast_s, hc.t70, hc.r70_4, hc.r70_5, hc.r70_6, hc.r70_7, hc.r70_8, hc.r70_10, hc.r70_11, hc.r70_12, hc.r70_14, hc.r70_15, hc.r70_16, hc.r70_17, hc.r70_19, hc.r70_21, hc.r70_23, hc.r70_24, hc.r70_26, hc.r70_27, hc.r70_28, hc.r70_29, hc.r70_30, hc.r70_31, hc.r70_32, hc.r70_33, hc.r70_36, hc.t73, hc.z73]
      · have dx := bF cx
        rw [if_neg (fun q => cx q.1), Int.add_zero, ← ih (n + 1) a (some (vi 0)) (by omega) (by omega) (by rw [Int.natCast_add, Int.add_mul]; omega)]
        simp (disch := first | assumption | omega) only [e_219_5, e_219_6, e_219_7, e_219_8, e_219_9, e_219_10, e_219_11, e_219_12, e_219_13, e_219_14, e_219_15, e_219_16, e_219_17, e_219_18, e_219_19, e_219_20, e_219_21, e_219_22, e_219_23, e_219_24, e_219_25, e_219_26, e_219_27, e_219_28, e_219_29, e_219_30, e_219_31, e_219_32, e_219_58, e_219_59, e_219_60, e_219_61, e_219_62, e_219_69, e_219_70, e_219_71, e_219_72, e_219_73, onI_s, onR_s, onL_s, gl_0, gl_n, gl_1, gl_2, gl_3, gl_4, gl_5, gl_6, gl_7, gl_8, gl_9, gl_10, gl_11, gl_12, gl_13, gl_14, gl_15, gl_16, gl_17, sk0i, sk0r, sk0n, sk1i, sk1r, sk1n, sk_2, sk_3, sk_4, sk_5, sk_6, sk_7, sk_8, sk_9, sk_10, sk_11, sk_12, sk_13, sk_14, sk_15, sk_16, sk_17, ls_0, ls_1, ls_2, ls_3, ls_4, ls_5, ls_6, ls_7, ls_8, ls_9, ls_10, ls_11, ls_12, ls_13, ls_14, ls_15, ls_16, ls_17, ct1_i, ct1_r, wd8_0, wd8_i1, wd8_r1, wd8_i2, wd8_r2, wd8_i3, wd8_r3, wd8_i4, wd8_r4, wd8_i5, wd8_r5, wd8_i6, wd8_r6, wd8_i7, wd8_r7, wd8_i8, wd8_r8, wd8_l2, wd8_l3, wd8_l4, wd8_l5, wd8_l6, wd8_l7, wd8_l8, tl_s, tl_n, inR_t, bd_t, true_and, and_true, true_or, or_true, if_true_x, if_false_x, if_pos, if_neg, Int.toNat_natCast, natL, bI_0, bI_1, bI_ft, eq_self, b_tf, b_ft, not_true_eq_false, not_false_eq_true, tn_3, vm_nN, m_211n hc hw, m_203 hc hw g.nw n16 hn, m_204 hc hw g.nw n16 hn, m_149, inL_t, e1, e2, d1, d2, dx, nzp C0, dvR, dvE, nz_128, tr, Int.add_zero, cast_s, hc.t70, hc.r70_4, hc.r70_5, hc.r70_6, hc.r70_7, hc.r70_8, hc.r70_10, hc.r70_11, hc.r70_12, hc.r70_14, hc.r70_15, hc.r70_16, hc.r70_17, hc.r70_19, hc.r70_21, hc.r70_23, hc.r70_24, hc.r70_26, hc.r70_27, hc.r70_28, hc.r70_29, hc.r70_30, hc.r70_31, hc.r70_32, hc.r70_33, hc.r70_36, hc.t73, hc.z73]
  rw [c_219]
  simp (disch := first | assumption | omega) only [e_219_0, e_219_1, e_219_2, e_219_3, onI_s, onR_s, onL_s, gl_0, gl_n, gl_1, gl_2, gl_3, gl_4, gl_5, gl_6, gl_7, gl_8, gl_9, gl_10, gl_11, gl_12, gl_13, gl_14, gl_15, gl_16, gl_17, sk0i, sk0r, sk0n, sk1i, sk1r, sk1n, sk_2, sk_3, sk_4, sk_5, sk_6, sk_7, sk_8, sk_9, sk_10, sk_11, sk_12, sk_13, sk_14, sk_15, sk_16, sk_17, ls_0, ls_1, ls_2, ls_3, ls_4, ls_5, ls_6, ls_7, ls_8, ls_9, ls_10, ls_11, ls_12, ls_13, ls_14, ls_15, ls_16, ls_17, ct1_i, ct1_r, wd8_0, wd8_i1, wd8_r1, wd8_i2, wd8_r2, wd8_i3, wd8_r3, wd8_i4, wd8_r4, wd8_i5, wd8_r5, wd8_i6, wd8_r6, wd8_i7, wd8_r7, wd8_i8, wd8_r8, wd8_l2, wd8_l3, wd8_l4, wd8_l5, wd8_l6, wd8_l7, wd8_l8, tl_s, tl_n, inR_t, bd_t, true_and, and_true, true_or, or_true, if_true_x, if_false_x, if_pos, if_neg, Int.toNat_natCast, natL, bI_0, bI_1, bI_ft, eq_self, b_tf, b_ft, not_true_eq_false, not_false_eq_true]
  have := lp (vm h 19 0).toNat 0 0 none (by omega) (by omega) (by omega)
  rw [Int.zero_add] at this
  exact this
end BIS
