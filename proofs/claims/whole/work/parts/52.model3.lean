theorem bx4_c {px py : Nat → Int} : ∀ (m i : Nat) (q : Int × Int × Int × Int), bx4 px py (-1) m i q = (mnF px m i q.1, mxF px m i q.2.1, mnF py m i q.2.2.1, mxF py m i q.2.2.2)
  | 0, _, _ => rfl
  | m + 1, i, q => by
    rw [bx4, if_neg (by omega), bx4_c m (i + 1)]
    rfl
theorem mnF_i {f : Nat → Int} {m i : Nat} {a c : Int} (h1 : f i ≤ a) (h2 : f i ≤ c) : mnF f (m + 1) i a = mnF f (m + 1) i c := by
  rw [mnF, mnF, show min a (f i) = f i by omega, show min c (f i) = f i by omega]
theorem mxF_i {f : Nat → Int} {m i : Nat} {a c : Int} (h1 : a ≤ f i) (h2 : c ≤ f i) : mxF f (m + 1) i a = mxF f (m + 1) i c := by
  rw [mxF, mxF, show max a (f i) = f i by omega, show max c (f i) = f i by omega]
section MOD
variable {X : xL} {ns nb ln : Nat} {h : xH} {Q : Option xV → xH → Prop}
theorem pq_10 {v : Nat → Nat → Int} {n : Nat} : pq v 1 0 n = pnX v n := by funext k; simp [pq]
theorem pq_11 {v : Nat → Nat → Int} {n : Nat} : pq v 1 1 n = pnY v n := by funext k; simp [pq]
theorem pq_00 {v : Nat → Nat → Int} {n : Nat} : pq v 0 0 n = pwX v n := by funext k; simp [pq]
theorem pq_01 {v : Nat → Nat → Int} {n : Nat} : pq v 0 1 n = pwY v n := by funext k; simp [pq]
theorem bxn_m {v : Nat → Nat → Int} (hw : RGv v) (h2 : N2v v) {n : Nat} (hn : (n : Int) < v 19 0) : bxn v n = (mnF (pnX v n) (v 21 n).toNat 0 100000000, mxF (pnX v n) (v 21 n).toNat 0 (-100000000), mnF (pnY v n) (v 21 n).toNat 0 100000000, mxF (pnY v n) (v 21 n).toNat 0 (-100000000)) := by
  have h3 := h2 n hn
  have h4 := pnX_bd hw n 0
  have h5 := pnY_bd hw n 0
  obtain ⟨m, hm⟩ : ∃ m, (v 21 n).toNat = m + 1 := ⟨(v 21 n).toNat - 1, by omega⟩
  unfold bxn
  rw [bx4_c, hm]
  unfold bx0
  dsimp only
  rw [mnF_i (c := 100000000) (by omega) (by omega), mxF_i (c := -100000000) (by omega) (by omega), mnF_i (f := pnY v n) (c := 100000000) (by omega) (by omega), mxF_i (f := pnY v n) (c := -100000000) (by omega) (by omega)]
set_option maxHeartbeats 2000000 in
theorem m_205 {n : Nat} (hc : CT X ns nb ln) (hw : RGv (vm h)) (hnw : NWv (vm h)) (h2 : N2v (vm h)) (t0 : 0 ≤ h.1 72 4) (t1 : h.1 72 4 ≤ 8) (h1 : n < 16) (hn : (n : Int) < vm h 19 0) : Cl X 205 [vr 70, vi n] h Q ↔ Q (some (vi (spn (vm h) (h.1 72 4) n))) h := by
  obtain ⟨a1, a2, a3, a4, a5, a6⟩ := bxn_good hw h2 hn
  have hm := mul_bd (a := h.1 72 4) (b := (bxn (vm h) n).2.2.2 - (bxn (vm h) n).2.2.1) (A := 8) (B := 144) t0 t1 (by omega) (by omega)
  have hb := bxn_m hw h2 hn
  unfold spn
  rw [hb] at a1 a2 a3 a4 a5 a6 hm ⊢
  dsimp only at a1 a2 a3 a4 a5 a6 hm ⊢
  rw [c_205]
  simp (disch := first | assumption | omega) only [e_205_0, e_205_1, e_205_2, e_205_3, e_205_4, e_205_5, e_205_6, e_205_7, e_205_8, e_205_9, e_205_10, e_205_11, e_205_12, e_205_13, e_205_14, e_205_15, e_205_16, e_205_17, e_205_18, e_205_19, e_205_20, e_205_21, e_205_22, e_205_23, e_205_24, e_205_25, e_205_26, e_205_27, e_205_28, onI_s, onR_s, onL_s, gl_0, gl_n, gl_1, gl_2, gl_3, gl_4, gl_5, gl_6, gl_7, gl_8, gl_9, gl_10, gl_11, gl_12, gl_13, gl_14, gl_15, gl_16, gl_17, sk0i, sk0r, sk0n, sk1i, sk1r, sk1n, sk_2, sk_3, sk_4, sk_5, sk_6, sk_7, sk_8, sk_9, sk_10, sk_11, sk_12, sk_13, sk_14, sk_15, sk_16, sk_17, ls_0, ls_1, ls_2, ls_3, ls_4, ls_5, ls_6, ls_7, ls_8, ls_9, ls_10, ls_11, ls_12, ls_13, ls_14, ls_15, ls_16, ls_17, ct1_i, ct1_r, wd8_0, wd8_i1, wd8_r1, wd8_i2, wd8_r2, wd8_i3, wd8_r3, wd8_i4, wd8_r4, wd8_i5, wd8_r5, wd8_i6, wd8_r6, wd8_i7, wd8_r7, wd8_i8, wd8_r8, wd8_l2, wd8_l3, wd8_l4, wd8_l5, wd8_l6, wd8_l7, wd8_l8, tl_s, tl_n, inR_t, bd_t, true_and, and_true, true_or, or_true, if_true_x, if_false_x, if_pos, if_neg, Int.toNat_natCast, natL, bI_0, bI_1, bI_ft, eq_self, b_tf, b_ft, m_203 hc hw hnw h1 hn, m_204 hc hw hnw h1 hn, pq_10, pq_11, tn_4, hc.t70, hc.r70_4, hc.r70_5, hc.r70_6, hc.r70_7, hc.r70_8, hc.r70_10, hc.r70_11, hc.r70_12, hc.r70_14, hc.r70_15, hc.r70_16, hc.r70_17, hc.r70_19, hc.r70_21, hc.r70_23, hc.r70_24, hc.r70_26, hc.r70_27, hc.r70_28, hc.r70_29, hc.r70_30, hc.r70_31, hc.r70_32, hc.r70_33, hc.r70_36, hc.t72, hc.z72]
set_option maxHeartbeats 2000000 in
theorem l_206 (hc : CT X ns nb ln) (hw : RGv (vm h)) (hnw : NWv (vm h)) (h2 : N2v (vm h)) (t0 : 0 ≤ h.1 72 4) (t1 : h.1 72 4 ≤ 8) {nn : Nat} (hs : vm h 19 0 = nn) (hnn : nn ≤ 16) : ∀ (m i : Nat) (a : Int), i + m = nn → 0 ≤ a → a ≤ i * 19584 → (Ev X 206 4 [some (vr 70), some (vi a), some (vi i)] [] h Q ↔ Q (some (vi (a + sumF (fun n => vm h 20 n * spn (vm h) (h.1 72 4) n) m i))) h) := by
  intro m
  induction m with
  | zero =>
    intro i a hm h0 h1
    rw [e_206_4]
    simp (disch := first | assumption | omega) only [e_206_5, e_206_6, e_206_7, e_206_8, e_206_9, e_206_24, e_206_25, onI_s, onR_s, onL_s, gl_0, gl_n, gl_1, gl_2, gl_3, gl_4, gl_5, gl_6, gl_7, gl_8, gl_9, gl_10, gl_11, gl_12, gl_13, gl_14, gl_15, gl_16, gl_17, sk0i, sk0r, sk0n, sk1i, sk1r, sk1n, sk_2, sk_3, sk_4, sk_5, sk_6, sk_7, sk_8, sk_9, sk_10, sk_11, sk_12, sk_13, sk_14, sk_15, sk_16, sk_17, ls_0, ls_1, ls_2, ls_3, ls_4, ls_5, ls_6, ls_7, ls_8, ls_9, ls_10, ls_11, ls_12, ls_13, ls_14, ls_15, ls_16, ls_17, ct1_i, ct1_r, wd8_0, wd8_i1, wd8_r1, wd8_i2, wd8_r2, wd8_i3, wd8_r3, wd8_i4, wd8_r4, wd8_i5, wd8_r5, wd8_i6, wd8_r6, wd8_i7, wd8_r7, wd8_i8, wd8_r8, wd8_l2, wd8_l3, wd8_l4, wd8_l5, wd8_l6, wd8_l7, wd8_l8, tl_s, tl_n, inR_t, bd_t, true_and, and_true, true_or, or_true, if_true_x, if_false_x, if_pos, if_neg, Int.toNat_natCast, natL, bI_0, bI_1, bI_ft, eq_self, b_tf, b_ft, tn_3, vm_nN, hs, hc.t70, hc.r70_4, hc.r70_5, hc.r70_6, hc.r70_7, hc.r70_8, hc.r70_10, hc.r70_11, hc.r70_12, hc.r70_14, hc.r70_15, hc.r70_16, hc.r70_17, hc.r70_19, hc.r70_21, hc.r70_23, hc.r70_24, hc.r70_26, hc.r70_27, hc.r70_28, hc.r70_29, hc.r70_30, hc.r70_31, hc.r70_32, hc.r70_33, hc.r70_36, hc.t73, hc.z73]
    rw [sumF, Int.add_zero]
  | succ m ih =>
    intro i a hm h0 h1
    rw [e_206_4]
    have w1 := hw.wgt i
    have hi : (i : Int) < vm h 19 0 := by omega
    have h16 : i < 16 := by omega
    have w2 := spn_bd (t := h.1 72 4) hw h2 (n := i) hi t0 t1
    have w3 := mul_bd w1.1 w1.2 w2.1 w2.2
    have ea : a + vm h 20 i * spn (vm h) (h.1 72 4) i ≤ (i + 1 : Nat) * 19584 := by
      rw [Int.natCast_add, Int.add_mul]
      omega
    simp (disch := first | assumption | omega) only [e_206_5, e_206_6, e_206_7, e_206_8, e_206_9, e_206_10, e_206_11, e_206_12, e_206_13, e_206_14, e_206_15, e_206_16, e_206_17, e_206_18, e_206_19, e_206_20, e_206_21, e_206_22, e_206_23, onI_s, onR_s, onL_s, gl_0, gl_n, gl_1, gl_2, gl_3, gl_4, gl_5, gl_6, gl_7, gl_8, gl_9, gl_10, gl_11, gl_12, gl_13, gl_14, gl_15, gl_16, gl_17, sk0i, sk0r, sk0n, sk1i, sk1r, sk1n, sk_2, sk_3, sk_4, sk_5, sk_6, sk_7, sk_8, sk_9, sk_10, sk_11, sk_12, sk_13, sk_14, sk_15, sk_16, sk_17, ls_0, ls_1, ls_2, ls_3, ls_4, ls_5, ls_6, ls_7, ls_8, ls_9, ls_10, ls_11, ls_12, ls_13, ls_14, ls_15, ls_16, ls_17, ct1_i, ct1_r, wd8_0, wd8_i1, wd8_r1, wd8_i2, wd8_r2, wd8_i3, wd8_r3, wd8_i4, wd8_r4, wd8_i5, wd8_r5, wd8_i6, wd8_r6, wd8_i7, wd8_r7, wd8_i8, wd8_r8, wd8_l2, wd8_l3, wd8_l4, wd8_l5, wd8_l6, wd8_l7, wd8_l8, tl_s, tl_n, inR_t, bd_t, true_and, and_true, true_or, or_true, if_true_x, if_false_x, if_pos, if_neg, Int.toNat_natCast, natL, bI_0, bI_1, bI_ft, eq_self, b_tf, b_ft, m_159, m_205 hc hw hnw h2 t0 t1 h16 hi, vm_20, tn_3, vm_nN, hs, hc.t70, hc.r70_4, hc.r70_5, hc.r70_6, hc.r70_7, hc.r70_8, hc.r70_10, hc.r70_11, hc.r70_12, hc.r70_14, hc.r70_15, hc.r70_16, hc.r70_17, hc.r70_19, hc.r70_21, hc.r70_23, hc.r70_24, hc.r70_26, hc.r70_27, hc.r70_28, hc.r70_29, hc.r70_30, hc.r70_31, hc.r70_32, hc.r70_33, hc.r70_36, hc.t73, hc.z73]
    simp only [cast_s]
    rw [ih (i + 1) _ (by omega) (by omega) ea, sumF, Int.add_assoc]
set_option maxHeartbeats 2000000 in
theorem m_206 (hc : CT X ns nb ln) (hw : RGv (vm h)) (hnw : NWv (vm h)) (h2 : N2v (vm h)) (t0 : 0 ≤ h.1 72 4) (t1 : h.1 72 4 ≤ 8) : Cl X 206 [vr 70] h Q ↔ Q (some (vi (wir (vm h) (h.1 72 4)))) h := by
  have w1 := hw.nN
  rw [c_206]
  simp (disch := first | assumption | omega) only [e_206_0, e_206_1, e_206_2, e_206_3, onI_s, onR_s, onL_s, gl_0, gl_n, gl_1, gl_2, gl_3, gl_4, gl_5, gl_6, gl_7, gl_8, gl_9, gl_10, gl_11, gl_12, gl_13, gl_14, gl_15, gl_16, gl_17, sk0i, sk0r, sk0n, sk1i, sk1r, sk1n, sk_2, sk_3, sk_4, sk_5, sk_6, sk_7, sk_8, sk_9, sk_10, sk_11, sk_12, sk_13, sk_14, sk_15, sk_16, sk_17, ls_0, ls_1, ls_2, ls_3, ls_4, ls_5, ls_6, ls_7, ls_8, ls_9, ls_10, ls_11, ls_12, ls_13, ls_14, ls_15, ls_16, ls_17, ct1_i, ct1_r, wd8_0, wd8_i1, wd8_r1, wd8_i2, wd8_r2, wd8_i3, wd8_r3, wd8_i4, wd8_r4, wd8_i5, wd8_r5, wd8_i6, wd8_r6, wd8_i7, wd8_r7, wd8_i8, wd8_r8, wd8_l2, wd8_l3, wd8_l4, wd8_l5, wd8_l6, wd8_l7, wd8_l8, tl_s, tl_n, inR_t, bd_t, true_and, and_true, true_or, or_true, if_true_x, if_false_x, if_pos, if_neg, Int.toNat_natCast, natL, bI_0, bI_1, bI_ft, eq_self, b_tf, b_ft, hc.t70, hc.r70_4, hc.r70_5, hc.r70_6, hc.r70_7, hc.r70_8, hc.r70_10, hc.r70_11, hc.r70_12, hc.r70_14, hc.r70_15, hc.r70_16, hc.r70_17, hc.r70_19, hc.r70_21, hc.r70_23, hc.r70_24, hc.r70_26, hc.r70_27, hc.r70_28, hc.r70_29, hc.r70_30, hc.r70_31, hc.r70_32, hc.r70_33, hc.r70_36]
  have := l_206 (Q := Q) hc hw hnw h2 t0 t1 (nn := (vm h 19 0).toNat) (by omega) (by omega) _ 0 0 (by rw [Nat.zero_add]) (by omega) (by omega)
  rw [Int.zero_add] at this
  exact this
end MOD
