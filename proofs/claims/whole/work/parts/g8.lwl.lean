/-! THE LAW'S LOOP -/
theorem and_63 (y : Int) : 0 ≤ (Int32.ofInt y &&& Int32.ofInt 63).toInt ∧ (Int32.ofInt y &&& Int32.ofInt 63).toInt ≤ 63 := by
  generalize Int32.ofInt y = z
  have b : (z.toBitVec &&& 63#32).toNat ≤ 63 := by
    rw [BitVec.toNat_and]
    exact Nat.and_le_right
  have e : (z &&& Int32.ofInt 63).toInt = ((z.toBitVec &&& 63#32).toNat : Int) := by
    have h1 : (z &&& Int32.ofInt 63).toInt = (z.toBitVec &&& 63#32).toInt := rfl
    rw [h1, BitVec.toInt_eq_toNat_of_lt]
    omega
  rw [e]
  omega
section LWL
variable {X : xL} {ns nb ln : Nat}
set_option maxHeartbeats 8000000 in
theorem law_loop (hc : CT X ns nb ln) (l1 : ln ≤ 3074) : ∀ (m i n : Nat) (h : xH), ln ≤ i + 6 * m → i ≤ 4000 → n + m ≤ 1000 → LW X n h → (∀ j, h.1 101 j ≤ 2147483647) → Ev X 287 22 [some (vr 101), some (vr 0), some (vr 70), some (vi i)] [] h (fun r _ => r = some (vi 1)) := by
  intro m
  induction m with
  | zero =>
    intro i n h hm i4 nm lw sr
    rw [e_287_22]
    have ex : (ln : Int) - 6 < (i : Int) := by omega
    simp (disch := first | assumption | omega) only [e_287_23, e_287_24, e_287_25, e_287_26, e_287_27, e_287_901, e_287_902, onI_s, onR_s, onL_s, gl_0, gl_n, gl_1, gl_2, gl_3, gl_4, gl_5, gl_6, gl_7, gl_8, gl_9, gl_10, gl_11, gl_12, gl_13, gl_14, gl_15, gl_16, gl_17, sk0i, sk0r, sk0n, sk1i, sk1r, sk1n, sk_2, sk_3, sk_4, sk_5, sk_6, sk_7, sk_8, sk_9, sk_10, sk_11, sk_12, sk_13, sk_14, sk_15, sk_16, sk_17, ls_0, ls_1, ls_2, ls_3, ls_4, ls_5, ls_6, ls_7, ls_8, ls_9, ls_10, ls_11, ls_12, ls_13, ls_14, ls_15, ls_16, ls_17, ct1_i, ct1_r, wd8_0, wd8_i1, wd8_r1, wd8_i2, wd8_r2, wd8_i3, wd8_r3, wd8_i4, wd8_r4, wd8_i5, wd8_r5, wd8_i6, wd8_r6, wd8_i7, wd8_r7, wd8_i8, wd8_r8, wd8_l2, wd8_l3, wd8_l4, wd8_l5, wd8_l6, wd8_l7, wd8_l8, tl_s, tl_n, inR_t, bd_t, true_and, and_true, true_or, or_true, if_true_x, if_false_x, if_pos, if_neg, Int.toNat_natCast, natL, bI_0, bI_1, bI_ft, eq_self, b_tf, b_ft, not_true_eq_false, not_false_eq_true, ex, hc.t101, hc.z101]
  | succ m ih =>
    intro i n h hm i4 nm lw sr
    rw [e_287_22]
    by_cases ex : (ln : Int) - 6 < (i : Int)
    · simp (disch := first | assumption | omega) only [e_287_23, e_287_24, e_287_25, e_287_26, e_287_27, e_287_901, e_287_902, onI_s, onR_s, onL_s, gl_0, gl_n, gl_1, gl_2, gl_3, gl_4, gl_5, gl_6, gl_7, gl_8, gl_9, gl_10, gl_11, gl_12, gl_13, gl_14, gl_15, gl_16, gl_17, sk0i, sk0r, sk0n, sk1i, sk1r, sk1n, sk_2, sk_3, sk_4, sk_5, sk_6, sk_7, sk_8, sk_9, sk_10, sk_11, sk_12, sk_13, sk_14, sk_15, sk_16, sk_17, ls_0, ls_1, ls_2, ls_3, ls_4, ls_5, ls_6, ls_7, ls_8, ls_9, ls_10, ls_11, ls_12, ls_13, ls_14, ls_15, ls_16, ls_17, ct1_i, ct1_r, wd8_0, wd8_i1, wd8_r1, wd8_i2, wd8_r2, wd8_i3, wd8_r3, wd8_i4, wd8_r4, wd8_i5, wd8_r5, wd8_i6, wd8_r6, wd8_i7, wd8_r7, wd8_i8, wd8_r8, wd8_l2, wd8_l3, wd8_l4, wd8_l5, wd8_l6, wd8_l7, wd8_l8, tl_s, tl_n, inR_t, bd_t, true_and, and_true, true_or, or_true, if_true_x, if_false_x, if_pos, if_neg, Int.toNat_natCast, natL, bI_0, bI_1, bI_ft, eq_self, b_tf, b_ft, not_true_eq_false, not_false_eq_true, ex, hc.t101, hc.z101]
    · have il : i + 6 ≤ ln := by omega
      have nx : ∀ h3, LW X (n + 1) h3 ∧ h3.1 101 = h.1 101 → Ev X 287 899 [some (vr 101), some (vr 0), some (vr 70), some (vi i)] [] h3 (fun r _ => r = some (vi 1)) := by
        intro h3 q
        have i6 : (i : Int) + 6 = ((i + 6 : Nat) : Int) := rfl
        rw [e_287_899]
        simp (disch := first | assumption | omega) only [e_287_900, onI_s, onR_s, onL_s, gl_0, gl_n, gl_1, gl_2, gl_3, gl_4, gl_5, gl_6, gl_7, gl_8, gl_9, gl_10, gl_11, gl_12, gl_13, gl_14, gl_15, gl_16, gl_17, sk0i, sk0r, sk0n, sk1i, sk1r, sk1n, sk_2, sk_3, sk_4, sk_5, sk_6, sk_7, sk_8, sk_9, sk_10, sk_11, sk_12, sk_13, sk_14, sk_15, sk_16, sk_17, ls_0, ls_1, ls_2, ls_3, ls_4, ls_5, ls_6, ls_7, ls_8, ls_9, ls_10, ls_11, ls_12, ls_13, ls_14, ls_15, ls_16, ls_17, ct1_i, ct1_r, wd8_0, wd8_i1, wd8_r1, wd8_i2, wd8_r2, wd8_i3, wd8_r3, wd8_i4, wd8_r4, wd8_i5, wd8_r5, wd8_i6, wd8_r6, wd8_i7, wd8_r7, wd8_i8, wd8_r8, wd8_l2, wd8_l3, wd8_l4, wd8_l5, wd8_l6, wd8_l7, wd8_l8, tl_s, tl_n, inR_t, bd_t, true_and, and_true, true_or, or_true, if_true_x, if_false_x, if_pos, if_neg, Int.toNat_natCast, natL, bI_0, bI_1, bI_ft, eq_self, b_tf, b_ft, not_true_eq_false, not_false_eq_true, i6]
        exact ih (i + 6) (n + 1) h3 (by omega) (by omega) (by omega) q.1 (by rw [q.2]; exact sr)
      simp (disch := first | assumption | omega) only [e_287_23, e_287_24, e_287_25, e_287_26, e_287_27, e_287_28, e_287_29, e_287_30, e_287_31, e_287_32, onI_s, onR_s, onL_s, gl_0, gl_n, gl_1, gl_2, gl_3, gl_4, gl_5, gl_6, gl_7, gl_8, gl_9, gl_10, gl_11, gl_12, gl_13, gl_14, gl_15, gl_16, gl_17, sk0i, sk0r, sk0n, sk1i, sk1r, sk1n, sk_2, sk_3, sk_4, sk_5, sk_6, sk_7, sk_8, sk_9, sk_10, sk_11, sk_12, sk_13, sk_14, sk_15, sk_16, sk_17, ls_0, ls_1, ls_2, ls_3, ls_4, ls_5, ls_6, ls_7, ls_8, ls_9, ls_10, ls_11, ls_12, ls_13, ls_14, ls_15, ls_16, ls_17, ct1_i, ct1_r, wd8_0, wd8_i1, wd8_r1, wd8_i2, wd8_r2, wd8_i3, wd8_r3, wd8_i4, wd8_r4, wd8_i5, wd8_r5, wd8_i6, wd8_r6, wd8_i7, wd8_r7, wd8_i8, wd8_r8, wd8_l2, wd8_l3, wd8_l4, wd8_l5, wd8_l6, wd8_l7, wd8_l8, tl_s, tl_n, inR_t, bd_t, true_and, and_true, true_or, or_true, if_true_x, if_false_x, if_pos, if_neg, Int.toNat_natCast, natL, bI_0, bI_1, bI_ft, eq_self, b_tf, b_ft, not_true_eq_false, not_false_eq_true, ex, hc.t101, hc.z101]
      rw [e_287_33]
      have b := and_63 (h.1 101 i)
      obtain ⟨k, hk⟩ : ∃ k : Nat, (Int32.ofInt (h.1 101 i) &&& Int32.ofInt 63).toInt = (k : Int) := ⟨(Int32.ofInt (h.1 101 i) &&& Int32.ofInt 63).toInt.toNat, by omega⟩
      rw [hk] at b ⊢
      by_cases k35 : k < 35
      · clear hk b
        rcases (show k = 0 ∨ k = 1 ∨ k = 2 ∨ k = 3 ∨ k = 4 ∨ k = 5 ∨ k = 6 ∨ k = 7 ∨ k = 8 ∨ k = 9 ∨ k = 10 ∨ k = 11 ∨ k = 12 ∨ k = 13 ∨ k = 14 ∨ k = 15 ∨ k = 16 ∨ k = 17 ∨ k = 18 ∨ k = 19 ∨ k = 20 ∨ k = 21 ∨ k = 22 ∨ k = 23 ∨ k = 24 ∨ k = 25 ∨ k = 26 ∨ k = 27 ∨ k = 28 ∨ k = 29 ∨ k = 30 ∨ k = 31 ∨ k = 32 ∨ k = 33 ∨ k = 34 by omega) with rfl | rfl | rfl | rfl | rfl | rfl | rfl | rfl | rfl | rfl | rfl | rfl | rfl | rfl | rfl | rfl | rfl | rfl | rfl | rfl | rfl | rfl | rfl | rfl | rfl | rfl | rfl | rfl | rfl | rfl | rfl | rfl | rfl | rfl | rfl
        · change Ev X 287 34 _ _ _ _
          exact ks_0 hc lw (by omega) il l1 sr nx
        · change Ev X 287 61 _ _ _ _
          exact ks_1 hc lw (by omega) il l1 sr nx
        · change Ev X 287 118 _ _ _ _
          exact ks_2 hc lw (by omega) il l1 sr nx
        · change Ev X 287 135 _ _ _ _
          exact ks_3 hc lw (by omega) il l1 sr nx
        · change Ev X 287 192 _ _ _ _
          exact ks_4 hc lw (by omega) il l1 sr nx
        · change Ev X 287 239 _ _ _ _
          exact ks_5 hc lw (by omega) il l1 sr nx
        · change Ev X 287 266 _ _ _ _
          exact ks_6 hc lw (by omega) il l1 sr nx
        · change Ev X 287 283 _ _ _ _
          exact ks_7 hc lw (by omega) il l1 sr nx
        · change Ev X 287 300 _ _ _ _
          exact ks_8 hc lw (by omega) il l1 sr nx
        · change Ev X 287 337 _ _ _ _
          exact ks_9 hc lw (by omega) il l1 sr nx
        · change Ev X 287 374 _ _ _ _
          exact ks_10 hc lw (by omega) il l1 sr nx
        · change Ev X 287 391 _ _ _ _
          exact ks_11 hc lw (by omega) il l1 sr nx
        · change Ev X 287 428 _ _ _ _
          exact ks_12 hc lw (by omega) il l1 sr nx
        · change Ev X 287 445 _ _ _ _
          exact ks_13 hc lw (by omega) il l1 sr nx
        · change Ev X 287 462 _ _ _ _
          exact ks_14 hc lw (by omega) il l1 sr nx
        · change Ev X 287 479 _ _ _ _
          exact ks_15 hc lw (by omega) il l1 sr nx
        · change Ev X 287 486 _ _ _ _
          exact ks_16 hc lw (by omega) il l1 sr nx
        · change Ev X 287 503 _ _ _ _
          exact ks_17 hc lw (by omega) il l1 sr nx
        · change Ev X 287 510 _ _ _ _
          exact ks_18 hc lw (by omega) il l1 sr nx
        · change Ev X 287 517 _ _ _ _
          exact ks_19 hc lw (by omega) il l1 sr nx
        · change Ev X 287 524 _ _ _ _
          exact ks_20 hc lw (by omega) il l1 sr nx
        · change Ev X 287 561 _ _ _ _
          exact ks_21 hc lw (by omega) il l1 sr nx
        · change Ev X 287 568 _ _ _ _
          exact ks_22 hc lw (by omega) il l1 sr nx
        · change Ev X 287 595 _ _ _ _
          exact ks_23 hc lw (by omega) il l1 sr nx
        · change Ev X 287 622 _ _ _ _
          exact ks_24 hc lw (by omega) il l1 sr nx
        · change Ev X 287 649 _ _ _ _
          exact ks_25 hc lw (by omega) il l1 sr nx
        · change Ev X 287 666 _ _ _ _
          exact ks_26 hc lw (by omega) il l1 sr nx
        · change Ev X 287 703 _ _ _ _
          exact ks_27 hc lw (by omega) il l1 sr nx
        · change Ev X 287 730 _ _ _ _
          exact ks_28 hc lw (by omega) il l1 sr nx
        · change Ev X 287 777 _ _ _ _
          exact ks_29 hc lw (by omega) il l1 sr nx
        · change Ev X 287 814 _ _ _ _
          exact ks_30 hc lw (by omega) il l1 sr nx
        · change Ev X 287 841 _ _ _ _
          exact ks_31 hc lw (by omega) il l1 sr nx
        · change Ev X 287 858 _ _ _ _
          exact ks_32 hc lw (by omega) il l1 sr nx
        · change Ev X 287 875 _ _ _ _
          exact ks_33 hc lw (by omega) il l1 sr nx
        · change Ev X 287 892 _ _ _ _
          exact ks_34 hc lw (by omega) il l1 sr nx
      · rw [show swt 0 [899, 34, 61, 118, 135, 192, 239, 266, 283, 300, 337, 374, 391, 428, 445, 462, 479, 486, 503, 510, 517, 524, 561, 568, 595, 622, 649, 666, 703, 730, 777, 814, 841, 858, 875, 892] (k : Int) = 899 from if_neg (by show ¬ (0 ≤ (k : Int) ∧ (k : Int) < 0 + (((36 : Nat) : Int) - 1)); omega)]
        exact nx h ⟨⟨lw.1, lw.2.1, lw.2.2.le⟩, rfl⟩
end LWL
