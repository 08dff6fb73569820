/-! terms, feed, end, status, count -/
def spTerms (s : AS) (w x : Int) : Int × AS := if (0 ≤ w ∧ w < 6) ∧ tlo w.toNat ≤ x ∧ x ≤ thi w.toNat then (s.2.1 w.toNat, s.1, up s.2.1 w.toNat x, s.2.2.1, s.2.2.2.1, s.2.2.2.2.1, 0, s.2.2.2.2.2.2) else refS s (-1)
def byR (x sh : Int) : Int := (Int32.ofInt ((Int32.ofInt x >>> (Int32.ofInt sh &&& 31)).toInt) &&& Int32.ofInt 255).toInt
def byC (x sh : Int) : Int := (Int32.ofInt (((Int32.ofInt x).toUInt32 >>> ((Int32.ofInt sh).toUInt32 &&& Int32.toUInt32 31)).toInt32.toInt) &&& Int32.ofInt 255).toInt
def fd4 (p : (Nat → Int) × Int) (x : Int) : (Nat → Int) × Int := (up (up (up (up p.1 p.2.toNat (byR x 24)) (p.2 + 1).toNat (byR x 16)) (p.2 + 1 + 1).toNat (byR x 8)) (p.2 + 1 + 1 + 1).toNat (byR x 0), p.2 + 1 + 1 + 1 + 1)
def fd20 (p : (Nat → Int) × Int) (a b c d e : Int) : (Nat → Int) × Int := fd4 (fd4 (fd4 (fd4 (fd4 p a) b) c) d) e
def spFeed (s : AS) (a b c d e : Int) : Int × AS := if 100 < s.2.2.2.1 + 20 then (-1, s) else ((fd20 (s.2.2.1, s.2.2.2.1) a b c d e).2, s.1, s.2.1, (fd20 (s.2.2.1, s.2.2.2.1) a b c d e).1, (fd20 (s.2.2.1, s.2.2.2.1) a b c d e).2, s.2.2.2.2)
def spEnd (s : AS) (n : Int) : Int × AS := if n < 0 ∨ s.2.2.2.1 < n then (-1, s) else (n, s.1, s.2.1, s.2.2.1, n, s.2.2.2.2)
def spCount (s : AS) (w : Int) : Int := if w = 0 then s.1 0 0 else if w = 1 then s.1 0 1 else if w = 2 then s.1 1 0 else if w = 3 then s.1 6 0 else if w = 4 then s.1 11 0 else if w = 5 then s.1 19 0 else if w = 6 then (s.1 0 1 + 7).tdiv 8 * (s.1 0 0 + 1).tdiv 2 else if w = 7 then s.2.2.2.2.2.2.1 else if w = 8 then s.2.2.2.1 else if w = 9 then s.2.2.2.2.1 1 else if w = 10 then s.2.2.2.2.1 2 else if w = 11 then s.2.2.2.2.1 4 else if w = 12 then s.2.2.2.2.1 5 else if w = 13 then s.2.2.2.2.1 6 else if 14 ≤ w ∧ w ≤ 19 then s.2.1 (w - 14).toNat else -1
theorem by_eq (x : Int) (sh : Int) (h : sh = 24 ∨ sh = 16 ∨ sh = 8 ∨ sh = 0) : byC x sh = byR x sh := by
  unfold byC byR
  rw [Int32.ofInt_toInt, Int32.ofInt_toInt]
  generalize Int32.ofInt x = w
  refine congrArg Int32.toInt (Int32.toBitVec_inj.mp ?_)
  rcases h with rfl | rfl | rfl | rfl
  all_goals
    apply BitVec.eq_of_getLsbD_eq
    intro i hi
    by_cases h8 : i < 8
    · simp [BitVec.getLsbD_sshiftRight]
      try (rw [if_pos (by omega)]; simp [hi, show ¬ 32 ≤ i by omega])
    · have h9 : (255#32).getLsbD i = false := by
        rw [BitVec.getLsbD_ofNat, Nat.testBit_lt_two_pow (Nat.lt_of_lt_of_le (show 255 < 2 ^ 8 by decide) (Nat.pow_le_pow_right (by decide) (by omega)))]
        simp
      simp [h9]
theorem and_255 (y : Int) : 0 ≤ (Int32.ofInt y &&& Int32.ofInt 255).toInt ∧ (Int32.ofInt y &&& Int32.ofInt 255).toInt ≤ 255 := by
  generalize Int32.ofInt y = w
  rw [← Int32.toInt_toBitVec, Int32.toBitVec_and, BitVec.toInt_eq_toNat_cond, BitVec.toNat_and]
  have : w.toBitVec.toNat &&& (Int32.ofInt 255).toBitVec.toNat ≤ 255 := Nat.and_le_right
  rw [if_pos (by omega)]
  omega
theorem fd4_o {p : (Nat → Int) × Int} {x : Int} {j : Nat} (h0 : 0 ≤ p.2) (h1 : p.2 + 4 ≤ j) : (fd4 p x).1 j = p.1 j := by
  unfold fd4 up
  dsimp only
  rw [if_neg (by omega), if_neg (by omega), if_neg (by omega), if_neg (by omega)]
theorem fd4_2 {p : (Nat → Int) × Int} {x : Int} : (fd4 p x).2 = p.2 + 4 := by
  unfold fd4
  dsimp only
  omega
theorem fd20_o {p : (Nat → Int) × Int} {a b c d e : Int} {j : Nat} (h0 : 0 ≤ p.2) (h1 : p.2 + 20 ≤ j) : (fd20 p a b c d e).1 j = p.1 j := by
  unfold fd20
  rw [fd4_o (by simp only [fd4_2]; omega) (by simp only [fd4_2]; omega), fd4_o (by simp only [fd4_2]; omega) (by simp only [fd4_2]; omega), fd4_o (by simp only [fd4_2]; omega) (by simp only [fd4_2]; omega), fd4_o (by simp only [fd4_2]; omega) (by simp only [fd4_2]; omega), fd4_o h0 (by omega)]
theorem nz_2 : ((2 : Int) ≠ 0) ↔ True := by decide
theorem nz_4 : ((4 : Int) ≠ 0) ↔ True := by decide
theorem nz_8 : ((8 : Int) ≠ 0) ↔ True := by decide
theorem nz_32 : ((32 : Int) ≠ 0) ↔ True := by decide
theorem nz_100 : ((100 : Int) ≠ 0) ↔ True := by decide
theorem nz_128 : ((128 : Int) ≠ 0) ↔ True := by decide
theorem byR_bd (x sh : Int) : 0 ≤ byR x sh ∧ byR x sh ≤ 255 := and_255 _
theorem up2_up2 {f : Nat → Nat → Int} {a k : Nat} {v w : Int} : up2 (up2 f a k v) a k w = up2 f a k w := by
  funext b j
  rw [up2_eq, up2_eq, up2_eq]
  by_cases e : b = a ∧ j = k
  · rw [if_pos e, if_pos e]
  · rw [if_neg e, if_neg e, if_neg e]
section PUB
variable {X : xL} {ns nb ln : Nat} {h : xH} {I F : Nat → Nat → Int} {Q : Option xV → xH → Prop}
theorem ty_u {I : Nat → Nat → Int} {a j : Nat} {f : Nat → Int} {v : Int} : up2 (up1 I a f) a j v = up1 I a (up f j v) := u21 (fun _ => rfl)
theorem ty_1 {I : Nat → Nat → Int} {a j : Nat} {v : Int} : up2 I a j v = up1 I a (up (I a) j v) := u2_1
set_option maxHeartbeats 1000000 in
theorem l_180 {x sh : Int} (hc : CT X ns nb ln) (h0 : 0 ≤ F 70 13) (h1 : F 70 13 < 100) (s0 : 0 ≤ sh) (s1 : sh ≤ 24) : Ev X 180 2 [some (vr 70), some (vi x), some (vi sh)] [] (I, F) Q ↔ Ev X 180 2 [some (vr 70), some (vi x), some (vi (sh + -8))] [] (up2 I 78 (F 70 13).toNat (byR x sh), up2 F 70 13 (F 70 13 + 1)) Q := by
  rw [e_180_2]
  simp (disch := first | assumption | omega) only [e_180_3, e_180_4, e_180_5, e_180_6, e_180_7, e_180_8, e_180_9, onI_s, onR_s, onL_s, gl_0, gl_n, gl_1, gl_2, gl_3, gl_4, gl_5, gl_6, gl_7, gl_8, gl_9, gl_10, gl_11, gl_12, gl_13, gl_14, gl_15, gl_16, gl_17, sk0i, sk0r, sk0n, sk1i, sk1r, sk1n, sk_2, sk_3, sk_4, sk_5, sk_6, sk_7, sk_8, sk_9, sk_10, sk_11, sk_12, sk_13, sk_14, sk_15, sk_16, sk_17, ls_0, ls_1, ls_2, ls_3, ls_4, ls_5, ls_6, ls_7, ls_8, ls_9, ls_10, ls_11, ls_12, ls_13, ls_14, ls_15, ls_16, ls_17, ct1_i, ct1_r, wd8_0, wd8_i1, wd8_r1, wd8_i2, wd8_r2, wd8_i3, wd8_r3, wd8_i4, wd8_r4, wd8_i5, wd8_r5, wd8_i6, wd8_r6, wd8_i7, wd8_r7, wd8_i8, wd8_r8, wd8_l2, wd8_l3, wd8_l4, wd8_l5, wd8_l6, wd8_l7, wd8_l8, tl_s, tl_n, inR_t, bd_t, true_and, and_true, true_or, or_true, if_true_x, if_false_x, if_pos, if_neg, Int.toNat_natCast, natL, bI_0, bI_1, bI_ft, eq_self, b_tf, b_ft, not_true_eq_false, not_false_eq_true, hc.t70, hc.r70_4, hc.r70_5, hc.r70_6, hc.r70_7, hc.r70_8, hc.r70_10, hc.r70_11, hc.r70_12, hc.r70_14, hc.r70_15, hc.r70_16, hc.r70_17, hc.r70_19, hc.r70_21, hc.r70_23, hc.r70_24, hc.r70_26, hc.r70_27, hc.r70_28, hc.r70_29, hc.r70_30, hc.r70_31, hc.r70_32, hc.r70_33, hc.r70_36, hc.t78, hc.z78]
  rw [e_180_10]
  simp (disch := first | assumption | omega) only [e_180_11, onI_s, onR_s, onL_s, gl_0, gl_n, gl_1, gl_2, gl_3, gl_4, gl_5, gl_6, gl_7, gl_8, gl_9, gl_10, gl_11, gl_12, gl_13, gl_14, gl_15, gl_16, gl_17, sk0i, sk0r, sk0n, sk1i, sk1r, sk1n, sk_2, sk_3, sk_4, sk_5, sk_6, sk_7, sk_8, sk_9, sk_10, sk_11, sk_12, sk_13, sk_14, sk_15, sk_16, sk_17, ls_0, ls_1, ls_2, ls_3, ls_4, ls_5, ls_6, ls_7, ls_8, ls_9, ls_10, ls_11, ls_12, ls_13, ls_14, ls_15, ls_16, ls_17, ct1_i, ct1_r, wd8_0, wd8_i1, wd8_r1, wd8_i2, wd8_r2, wd8_i3, wd8_r3, wd8_i4, wd8_r4, wd8_i5, wd8_r5, wd8_i6, wd8_r6, wd8_i7, wd8_r7, wd8_i8, wd8_r8, wd8_l2, wd8_l3, wd8_l4, wd8_l5, wd8_l6, wd8_l7, wd8_l8, tl_s, tl_n, inR_t, bd_t, true_and, and_true, true_or, or_true, if_true_x, if_false_x, if_pos, if_neg, Int.toNat_natCast, natL, bI_0, bI_1, bI_ft, eq_self, b_tf, b_ft, not_true_eq_false, not_false_eq_true]
  rw [e_180_12]
  simp (disch := first | assumption | omega) only [e_180_13, e_180_14, e_180_15, e_180_16, e_180_17, e_180_18, e_180_19, e_180_20, e_180_21, onI_s, onR_s, onL_s, gl_0, gl_n, gl_1, gl_2, gl_3, gl_4, gl_5, gl_6, gl_7, gl_8, gl_9, gl_10, gl_11, gl_12, gl_13, gl_14, gl_15, gl_16, gl_17, sk0i, sk0r, sk0n, sk1i, sk1r, sk1n, sk_2, sk_3, sk_4, sk_5, sk_6, sk_7, sk_8, sk_9, sk_10, sk_11, sk_12, sk_13, sk_14, sk_15, sk_16, sk_17, ls_0, ls_1, ls_2, ls_3, ls_4, ls_5, ls_6, ls_7, ls_8, ls_9, ls_10, ls_11, ls_12, ls_13, ls_14, ls_15, ls_16, ls_17, ct1_i, ct1_r, wd8_0, wd8_i1, wd8_r1, wd8_i2, wd8_r2, wd8_i3, wd8_r3, wd8_i4, wd8_r4, wd8_i5, wd8_r5, wd8_i6, wd8_r6, wd8_i7, wd8_r7, wd8_i8, wd8_r8, wd8_l2, wd8_l3, wd8_l4, wd8_l5, wd8_l6, wd8_l7, wd8_l8, tl_s, tl_n, inR_t, bd_t, true_and, and_true, true_or, or_true, if_true_x, if_false_x, if_pos, if_neg, Int.toNat_natCast, natL, bI_0, bI_1, bI_ft, eq_self, b_tf, b_ft, not_true_eq_false, not_false_eq_true, hc.t70, hc.r70_4, hc.r70_5, hc.r70_6, hc.r70_7, hc.r70_8, hc.r70_10, hc.r70_11, hc.r70_12, hc.r70_14, hc.r70_15, hc.r70_16, hc.r70_17, hc.r70_19, hc.r70_21, hc.r70_23, hc.r70_24, hc.r70_26, hc.r70_27, hc.r70_28, hc.r70_29, hc.r70_30, hc.r70_31, hc.r70_32, hc.r70_33, hc.r70_36, hc.t78, hc.z78]
  exact Iff.rfl
set_option maxHeartbeats 1000000 in
theorem l_140 {x sh : Int} (hc : CT X ns nb ln) (h0 : 0 ≤ F 0 2) (h1 : F 0 2 < 100) (s0 : 0 ≤ sh) (s1 : sh ≤ 24) : Ev X 140 2 [some (vr 0), some (vi x), some (vi sh)] [] (I, F) Q ↔ Ev X 140 2 [some (vr 0), some (vi x), some (vi (sh + -8))] [] (up2 I 2 (F 0 2).toNat (byC x sh), up2 F 0 2 (F 0 2 + 1)) Q := by
  rw [e_140_2]
  simp (disch := first | assumption | omega) only [e_140_3, e_140_4, e_140_5, e_140_6, e_140_7, e_140_8, e_140_9, onI_s, onR_s, onL_s, gl_0, gl_n, gl_1, gl_2, gl_3, gl_4, gl_5, gl_6, gl_7, gl_8, gl_9, gl_10, gl_11, gl_12, gl_13, gl_14, gl_15, gl_16, gl_17, sk0i, sk0r, sk0n, sk1i, sk1r, sk1n, sk_2, sk_3, sk_4, sk_5, sk_6, sk_7, sk_8, sk_9, sk_10, sk_11, sk_12, sk_13, sk_14, sk_15, sk_16, sk_17, ls_0, ls_1, ls_2, ls_3, ls_4, ls_5, ls_6, ls_7, ls_8, ls_9, ls_10, ls_11, ls_12, ls_13, ls_14, ls_15, ls_16, ls_17, ct1_i, ct1_r, wd8_0, wd8_i1, wd8_r1, wd8_i2, wd8_r2, wd8_i3, wd8_r3, wd8_i4, wd8_r4, wd8_i5, wd8_r5, wd8_i6, wd8_r6, wd8_i7, wd8_r7, wd8_i8, wd8_r8, wd8_l2, wd8_l3, wd8_l4, wd8_l5, wd8_l6, wd8_l7, wd8_l8, tl_s, tl_n, inR_t, bd_t, true_and, and_true, true_or, or_true, if_true_x, if_false_x, if_pos, if_neg, Int.toNat_natCast, natL, bI_0, bI_1, bI_ft, eq_self, b_tf, b_ft, not_true_eq_false, not_false_eq_true, hc.t0, hc.r0_0, hc.r0_1, hc.r0_3, hc.r0_5, hc.r0_6, hc.r0_7, hc.r0_8, hc.r0_9, hc.r0_10, hc.r0_11, hc.r0_12, hc.r0_13, hc.t2, hc.z2]
  rw [e_140_10]
  simp (disch := first | assumption | omega) only [e_140_11, onI_s, onR_s, onL_s, gl_0, gl_n, gl_1, gl_2, gl_3, gl_4, gl_5, gl_6, gl_7, gl_8, gl_9, gl_10, gl_11, gl_12, gl_13, gl_14, gl_15, gl_16, gl_17, sk0i, sk0r, sk0n, sk1i, sk1r, sk1n, sk_2, sk_3, sk_4, sk_5, sk_6, sk_7, sk_8, sk_9, sk_10, sk_11, sk_12, sk_13, sk_14, sk_15, sk_16, sk_17, ls_0, ls_1, ls_2, ls_3, ls_4, ls_5, ls_6, ls_7, ls_8, ls_9, ls_10, ls_11, ls_12, ls_13, ls_14, ls_15, ls_16, ls_17, ct1_i, ct1_r, wd8_0, wd8_i1, wd8_r1, wd8_i2, wd8_r2, wd8_i3, wd8_r3, wd8_i4, wd8_r4, wd8_i5, wd8_r5, wd8_i6, wd8_r6, wd8_i7, wd8_r7, wd8_i8, wd8_r8, wd8_l2, wd8_l3, wd8_l4, wd8_l5, wd8_l6, wd8_l7, wd8_l8, tl_s, tl_n, inR_t, bd_t, true_and, and_true, true_or, or_true, if_true_x, if_false_x, if_pos, if_neg, Int.toNat_natCast, natL, bI_0, bI_1, bI_ft, eq_self, b_tf, b_ft, not_true_eq_false, not_false_eq_true]
  rw [e_140_12]
  simp (disch := first | assumption | omega) only [e_140_13, e_140_14, e_140_15, e_140_16, e_140_17, e_140_18, e_140_19, e_140_20, e_140_21, onI_s, onR_s, onL_s, gl_0, gl_n, gl_1, gl_2, gl_3, gl_4, gl_5, gl_6, gl_7, gl_8, gl_9, gl_10, gl_11, gl_12, gl_13, gl_14, gl_15, gl_16, gl_17, sk0i, sk0r, sk0n, sk1i, sk1r, sk1n, sk_2, sk_3, sk_4, sk_5, sk_6, sk_7, sk_8, sk_9, sk_10, sk_11, sk_12, sk_13, sk_14, sk_15, sk_16, sk_17, ls_0, ls_1, ls_2, ls_3, ls_4, ls_5, ls_6, ls_7, ls_8, ls_9, ls_10, ls_11, ls_12, ls_13, ls_14, ls_15, ls_16, ls_17, ct1_i, ct1_r, wd8_0, wd8_i1, wd8_r1, wd8_i2, wd8_r2, wd8_i3, wd8_r3, wd8_i4, wd8_r4, wd8_i5, wd8_r5, wd8_i6, wd8_r6, wd8_i7, wd8_r7, wd8_i8, wd8_r8, wd8_l2, wd8_l3, wd8_l4, wd8_l5, wd8_l6, wd8_l7, wd8_l8, tl_s, tl_n, inR_t, bd_t, true_and, and_true, true_or, or_true, if_true_x, if_false_x, if_pos, if_neg, Int.toNat_natCast, natL, bI_0, bI_1, bI_ft, eq_self, b_tf, b_ft, not_true_eq_false, not_false_eq_true, hc.t0, hc.r0_0, hc.r0_1, hc.r0_3, hc.r0_5, hc.r0_6, hc.r0_7, hc.r0_8, hc.r0_9, hc.r0_10, hc.r0_11, hc.r0_12, hc.r0_13, hc.t2, hc.z2]
  exact Iff.rfl
theorem m_180 {x : Int} (hc : CT X ns nb ln) (h0 : 0 ≤ h.2 70 13) (h1 : h.2 70 13 ≤ 96) : Cl X 180 [vr 70, vi x] h Q ↔ Q none (up1 h.1 78 (fd4 (h.1 78, h.2 70 13) x).1, up2 h.2 70 13 (h.2 70 13 + 1 + 1 + 1 + 1)) := by
  obtain ⟨I, F⟩ := h
  dsimp only at h0 h1 ⊢
  rw [c_180]
  simp (disch := first | assumption | omega) only [e_180_0, e_180_1, onI_s, onR_s, onL_s, gl_0, gl_n, gl_1, gl_2, gl_3, gl_4, gl_5, gl_6, gl_7, gl_8, gl_9, gl_10, gl_11, gl_12, gl_13, gl_14, gl_15, gl_16, gl_17, sk0i, sk0r, sk0n, sk1i, sk1r, sk1n, sk_2, sk_3, sk_4, sk_5, sk_6, sk_7, sk_8, sk_9, sk_10, sk_11, sk_12, sk_13, sk_14, sk_15, sk_16, sk_17, ls_0, ls_1, ls_2, ls_3, ls_4, ls_5, ls_6, ls_7, ls_8, ls_9, ls_10, ls_11, ls_12, ls_13, ls_14, ls_15, ls_16, ls_17, ct1_i, ct1_r, wd8_0, wd8_i1, wd8_r1, wd8_i2, wd8_r2, wd8_i3, wd8_r3, wd8_i4, wd8_r4, wd8_i5, wd8_r5, wd8_i6, wd8_r6, wd8_i7, wd8_r7, wd8_i8, wd8_r8, wd8_l2, wd8_l3, wd8_l4, wd8_l5, wd8_l6, wd8_l7, wd8_l8, tl_s, tl_n, inR_t, bd_t, true_and, and_true, true_or, or_true, if_true_x, if_false_x, if_pos, if_neg, Int.toNat_natCast, natL, bI_0, bI_1, bI_ft, eq_self, b_tf, b_ft, not_true_eq_false, not_false_eq_true]
  rw [l_180 hc h0 (by omega) (by omega) (by omega), show (24 : Int) + -8 = 16 from rfl]
  rw [l_180 hc (by rw [up2_self]; omega) (by rw [up2_self]; omega) (by omega) (by omega), up2_self, up2_up2, show (16 : Int) + -8 = 8 from rfl]
  rw [l_180 hc (by rw [up2_self]; omega) (by rw [up2_self]; omega) (by omega) (by omega), up2_self, up2_up2, show (8 : Int) + -8 = 0 from rfl]
  rw [l_180 hc (by rw [up2_self]; omega) (by rw [up2_self]; omega) (by omega) (by omega), up2_self, up2_up2, show (0 : Int) + -8 = -8 from rfl]
  rw [ty_1 (I := I), ty_u, ty_u, ty_u, e_180_2]
  simp (disch := first | assumption | omega) only [e_180_3, e_180_22, onI_s, onR_s, onL_s, gl_0, gl_n, gl_1, gl_2, gl_3, gl_4, gl_5, gl_6, gl_7, gl_8, gl_9, gl_10, gl_11, gl_12, gl_13, gl_14, gl_15, gl_16, gl_17, sk0i, sk0r, sk0n, sk1i, sk1r, sk1n, sk_2, sk_3, sk_4, sk_5, sk_6, sk_7, sk_8, sk_9, sk_10, sk_11, sk_12, sk_13, sk_14, sk_15, sk_16, sk_17, ls_0, ls_1, ls_2, ls_3, ls_4, ls_5, ls_6, ls_7, ls_8, ls_9, ls_10, ls_11, ls_12, ls_13, ls_14, ls_15, ls_16, ls_17, ct1_i, ct1_r, wd8_0, wd8_i1, wd8_r1, wd8_i2, wd8_r2, wd8_i3, wd8_r3, wd8_i4, wd8_r4, wd8_i5, wd8_r5, wd8_i6, wd8_r6, wd8_i7, wd8_r7, wd8_i8, wd8_r8, wd8_l2, wd8_l3, wd8_l4, wd8_l5, wd8_l6, wd8_l7, wd8_l8, tl_s, tl_n, inR_t, bd_t, true_and, and_true, true_or, or_true, if_true_x, if_false_x, if_pos, if_neg, Int.toNat_natCast, natL, bI_0, bI_1, bI_ft, eq_self, b_tf, b_ft, not_true_eq_false, not_false_eq_true]
  exact Iff.rfl
theorem m_140 {x : Int} (hc : CT X ns nb ln) (h0 : 0 ≤ h.2 0 2) (h1 : h.2 0 2 ≤ 96) : Cl X 140 [vr 0, vi x] h Q ↔ Q none (up1 h.1 2 (fd4 (h.1 2, h.2 0 2) x).1, up2 h.2 0 2 (h.2 0 2 + 1 + 1 + 1 + 1)) := by
  obtain ⟨I, F⟩ := h
  dsimp only at h0 h1 ⊢
  rw [c_140]
  simp (disch := first | assumption | omega) only [e_140_0, e_140_1, onI_s, onR_s, onL_s, gl_0, gl_n, gl_1, gl_2, gl_3, gl_4, gl_5, gl_6, gl_7, gl_8, gl_9, gl_10, gl_11, gl_12, gl_13, gl_14, gl_15, gl_16, gl_17, sk0i, sk0r, sk0n, sk1i, sk1r, sk1n, sk_2, sk_3, sk_4, sk_5, sk_6, sk_7, sk_8, sk_9, sk_10, sk_11, sk_12, sk_13, sk_14, sk_15, sk_16, sk_17, ls_0, ls_1, ls_2, ls_3, ls_4, ls_5, ls_6, ls_7, ls_8, ls_9, ls_10, ls_11, ls_12, ls_13, ls_14, ls_15, ls_16, ls_17, ct1_i, ct1_r, wd8_0, wd8_i1, wd8_r1, wd8_i2, wd8_r2, wd8_i3, wd8_r3, wd8_i4, wd8_r4, wd8_i5, wd8_r5, wd8_i6, wd8_r6, wd8_i7, wd8_r7, wd8_i8, wd8_r8, wd8_l2, wd8_l3, wd8_l4, wd8_l5, wd8_l6, wd8_l7, wd8_l8, tl_s, tl_n, inR_t, bd_t, true_and, and_true, true_or, or_true, if_true_x, if_false_x, if_pos, if_neg, Int.toNat_natCast, natL, bI_0, bI_1, bI_ft, eq_self, b_tf, b_ft, not_true_eq_false, not_false_eq_true]
  rw [l_140 hc h0 (by omega) (by omega) (by omega), show (24 : Int) + -8 = 16 from rfl]
  rw [l_140 hc (by rw [up2_self]; omega) (by rw [up2_self]; omega) (by omega) (by omega), up2_self, up2_up2, show (16 : Int) + -8 = 8 from rfl]
  rw [l_140 hc (by rw [up2_self]; omega) (by rw [up2_self]; omega) (by omega) (by omega), up2_self, up2_up2, show (8 : Int) + -8 = 0 from rfl]
  rw [l_140 hc (by rw [up2_self]; omega) (by rw [up2_self]; omega) (by omega) (by omega), up2_self, up2_up2, show (0 : Int) + -8 = -8 from rfl]
  rw [ty_1 (I := I), ty_u, ty_u, ty_u, e_140_2]
  simp (disch := first | assumption | omega) only [e_140_3, e_140_22, onI_s, onR_s, onL_s, gl_0, gl_n, gl_1, gl_2, gl_3, gl_4, gl_5, gl_6, gl_7, gl_8, gl_9, gl_10, gl_11, gl_12, gl_13, gl_14, gl_15, gl_16, gl_17, sk0i, sk0r, sk0n, sk1i, sk1r, sk1n, sk_2, sk_3, sk_4, sk_5, sk_6, sk_7, sk_8, sk_9, sk_10, sk_11, sk_12, sk_13, sk_14, sk_15, sk_16, sk_17, ls_0, ls_1, ls_2, ls_3, ls_4, ls_5, ls_6, ls_7, ls_8, ls_9, ls_10, ls_11, ls_12, ls_13, ls_14, ls_15, ls_16, ls_17, ct1_i, ct1_r, wd8_0, wd8_i1, wd8_r1, wd8_i2, wd8_r2, wd8_i3, wd8_r3, wd8_i4, wd8_r4, wd8_i5, wd8_r5, wd8_i6, wd8_r6, wd8_i7, wd8_r7, wd8_i8, wd8_r8, wd8_l2, wd8_l3, wd8_l4, wd8_l5, wd8_l6, wd8_l7, wd8_l8, tl_s, tl_n, inR_t, bd_t, true_and, and_true, true_or, or_true, if_true_x, if_false_x, if_pos, if_neg, Int.toNat_natCast, natL, bI_0, bI_1, bI_ft, eq_self, b_tf, b_ft, not_true_eq_false, not_false_eq_true]
  rw [by_eq x 24 (by omega), by_eq x 16 (by omega), by_eq x 8 (by omega), by_eq x 0 (by omega)]
  exact Iff.rfl
set_option maxHeartbeats 4000000 in
theorem p_179 {w x : Int} (ok : Ok X h) (rf : RFb (h.1 71)) (hq : ∀ h2, Mst X h h2 → mS h2 = (spTerms (mS h) w x).2 → Q (some (vi (spTerms (mS h) w x).1)) h2) : Cl X 179 [vr 70, vi w, vi x] h Q := by
  have ok0 := ok
  obtain ⟨z, os, oc, om, ⟨nb, ln, hc, hnb⟩, lp⟩ := ok
  have fin : Ev X 179 35 [some (vr 70), some (vi w), some (vi x), some (vi (tlo w.toNat)), some (vi (thi w.toNat)), none] [] (h.1, up2 h.2 70 0 0) Q ∨ ¬ (0 ≤ w ∧ w < 6) := by
    by_cases e : 0 ≤ w ∧ w < 6
    · left
      rw [e_179_35]
      have d1 : (decide (0 ≤ w) && decide (w ≤ 5)) = true := by simp; omega
      by_cases e2 : tlo w.toNat ≤ x ∧ x ≤ thi w.toNat
      · have d2 : (decide (tlo w.toNat ≤ x) && decide (x ≤ thi w.toNat)) = true := by simp [e2]
        unfold spTerms at hq
        rw [if_pos ⟨e, e2⟩] at hq
        simp (disch := first | assumption | omega) only [e_179_36, e_179_37, e_179_38, e_179_39, e_179_40, e_179_41, e_179_42, e_179_43, e_179_44, e_179_45, e_179_46, e_179_47, e_179_48, e_179_53, e_179_54, e_179_55, e_179_56, e_179_57, e_179_58, e_179_59, e_179_60, e_179_61, e_179_62, e_179_63, e_179_64, e_179_65, e_179_66, onI_s, onR_s, onL_s, gl_0, gl_n, gl_1, gl_2, gl_3, gl_4, gl_5, gl_6, gl_7, gl_8, gl_9, gl_10, gl_11, gl_12, gl_13, gl_14, gl_15, gl_16, gl_17, sk0i, sk0r, sk0n, sk1i, sk1r, sk1n, sk_2, sk_3, sk_4, sk_5, sk_6, sk_7, sk_8, sk_9, sk_10, sk_11, sk_12, sk_13, sk_14, sk_15, sk_16, sk_17, ls_0, ls_1, ls_2, ls_3, ls_4, ls_5, ls_6, ls_7, ls_8, ls_9, ls_10, ls_11, ls_12, ls_13, ls_14, ls_15, ls_16, ls_17, ct1_i, ct1_r, wd8_0, wd8_i1, wd8_r1, wd8_i2, wd8_r2, wd8_i3, wd8_r3, wd8_i4, wd8_r4, wd8_i5, wd8_r5, wd8_i6, wd8_r6, wd8_i7, wd8_r7, wd8_i8, wd8_r8, wd8_l2, wd8_l3, wd8_l4, wd8_l5, wd8_l6, wd8_l7, wd8_l8, tl_s, tl_n, inR_t, bd_t, true_and, and_true, true_or, or_true, if_true_x, if_false_x, if_pos, if_neg, Int.toNat_natCast, natL, bI_0, bI_1, bI_ft, eq_self, b_tf, b_ft, not_true_eq_false, not_false_eq_true, m_149, d1, d2, m_153 hc, hc.t70, hc.r70_4, hc.r70_5, hc.r70_6, hc.r70_7, hc.r70_8, hc.r70_10, hc.r70_11, hc.r70_12, hc.r70_14, hc.r70_15, hc.r70_16, hc.r70_17, hc.r70_19, hc.r70_21, hc.r70_23, hc.r70_24, hc.r70_26, hc.r70_27, hc.r70_28, hc.r70_29, hc.r70_30, hc.r70_31, hc.r70_32, hc.r70_33, hc.r70_36, hc.t72, hc.z72]
        refine hq _ (Mst.few ok0 (nz_u z (by rw [hc.z72]; omega)) (fun a q => up2_of (by omega)) (up2_of (by decide)) (up2_of (by decide)) (fun a q => by rw [up2_of q, up2_of q]) ?_ ?_ ?_) ?_
        · simp [up2_same]
        · simp [up2_same]
        · simp [up2_same]
        · have a := mS_st (h := (up2 h.1 72 w.toNat x, up2 h.2 70 0 0)) (x := 0)
          have b := mS_th (h := (up2 h.1 72 w.toNat x, h.2)) (x := 0)
          rw [a, b]
          unfold mS hM vm uS
          dsimp only
          rw [up2_of (show 73 ≠ 72 by decide), up2_of (show 78 ≠ 72 by decide), up2_of (show 71 ≠ 72 by decide), up2_of (show 74 ≠ 72 by decide), up2_of (show 75 ≠ 72 by decide)]
          refine Prod.ext rfl (Prod.ext ?_ rfl)
          funext j; dsimp only; rw [up2_same]; rfl
      · have d2 : (decide (tlo w.toNat ≤ x) && decide (x ≤ thi w.toNat)) = false := by simp; omega
        unfold spTerms at hq
        rw [if_neg (fun q => e2 q.2)] at hq
        simp (disch := first | assumption | omega) only [e_179_36, e_179_37, e_179_38, e_179_39, e_179_40, e_179_41, e_179_42, e_179_43, e_179_44, e_179_45, e_179_46, e_179_47, e_179_48, e_179_49, e_179_50, onI_s, onR_s, onL_s, gl_0, gl_n, gl_1, gl_2, gl_3, gl_4, gl_5, gl_6, gl_7, gl_8, gl_9, gl_10, gl_11, gl_12, gl_13, gl_14, gl_15, gl_16, gl_17, sk0i, sk0r, sk0n, sk1i, sk1r, sk1n, sk_2, sk_3, sk_4, sk_5, sk_6, sk_7, sk_8, sk_9, sk_10, sk_11, sk_12, sk_13, sk_14, sk_15, sk_16, sk_17, ls_0, ls_1, ls_2, ls_3, ls_4, ls_5, ls_6, ls_7, ls_8, ls_9, ls_10, ls_11, ls_12, ls_13, ls_14, ls_15, ls_16, ls_17, ct1_i, ct1_r, wd8_0, wd8_i1, wd8_r1, wd8_i2, wd8_r2, wd8_i3, wd8_r3, wd8_i4, wd8_r4, wd8_i5, wd8_r5, wd8_i6, wd8_r6, wd8_i7, wd8_r7, wd8_i8, wd8_r8, wd8_l2, wd8_l3, wd8_l4, wd8_l5, wd8_l6, wd8_l7, wd8_l8, tl_s, tl_n, inR_t, bd_t, true_and, and_true, true_or, or_true, if_true_x, if_false_x, if_pos, if_neg, Int.toNat_natCast, natL, bI_0, bI_1, bI_ft, eq_self, b_tf, b_ft, not_true_eq_false, not_false_eq_true, m_149, d1, d2, m_153 hc, hc.t70, hc.r70_4, hc.r70_5, hc.r70_6, hc.r70_7, hc.r70_8, hc.r70_10, hc.r70_11, hc.r70_12, hc.r70_14, hc.r70_15, hc.r70_16, hc.r70_17, hc.r70_19, hc.r70_21, hc.r70_23, hc.r70_24, hc.r70_26, hc.r70_27, hc.r70_28, hc.r70_29, hc.r70_30, hc.r70_31, hc.r70_32, hc.r70_33, hc.r70_36, hc.t72, hc.z72]
        rw [e_179_51]
        refine ⟨⟨hc.t70, by decide⟩, p_154t ok0 rf (by omega) (by omega) (fun h2 a b => ?_)⟩
        simp (disch := first | assumption | omega) only [e_179_52, onI_s, onR_s, onL_s, gl_0, gl_n, gl_1, gl_2, gl_3, gl_4, gl_5, gl_6, gl_7, gl_8, gl_9, gl_10, gl_11, gl_12, gl_13, gl_14, gl_15, gl_16, gl_17, sk0i, sk0r, sk0n, sk1i, sk1r, sk1n, sk_2, sk_3, sk_4, sk_5, sk_6, sk_7, sk_8, sk_9, sk_10, sk_11, sk_12, sk_13, sk_14, sk_15, sk_16, sk_17, ls_0, ls_1, ls_2, ls_3, ls_4, ls_5, ls_6, ls_7, ls_8, ls_9, ls_10, ls_11, ls_12, ls_13, ls_14, ls_15, ls_16, ls_17, ct1_i, ct1_r, wd8_0, wd8_i1, wd8_r1, wd8_i2, wd8_r2, wd8_i3, wd8_r3, wd8_i4, wd8_r4, wd8_i5, wd8_r5, wd8_i6, wd8_r6, wd8_i7, wd8_r7, wd8_i8, wd8_r8, wd8_l2, wd8_l3, wd8_l4, wd8_l5, wd8_l6, wd8_l7, wd8_l8, tl_s, tl_n, inR_t, bd_t, true_and, and_true, true_or, or_true, if_true_x, if_false_x, if_pos, if_neg, Int.toNat_natCast, natL, bI_0, bI_1, bI_ft, eq_self, b_tf, b_ft, not_true_eq_false, not_false_eq_true]
        exact hq h2 a b
    · exact Or.inr e
  rw [c_179]
  by_cases e : 0 ≤ w ∧ w < 6
  · have f2 := fin.resolve_right (fun q => q e)
    rcases (show w = 0 ∨ w = 1 ∨ w = 2 ∨ w = 3 ∨ w = 4 ∨ w = 5 by omega) with rfl | rfl | rfl | rfl | rfl | rfl
    all_goals
      simp (disch := first | assumption | omega) only [e_179_0, e_179_1, e_179_2, e_179_3, e_179_4, e_179_5, e_179_6, e_179_7, e_179_8, e_179_9, e_179_10, e_179_11, e_179_12, e_179_13, e_179_14, e_179_15, e_179_16, e_179_17, e_179_18, e_179_19, e_179_20, e_179_21, e_179_22, e_179_23, e_179_24, e_179_25, e_179_26, e_179_27, e_179_28, e_179_29, e_179_30, e_179_31, e_179_32, e_179_33, e_179_34, onI_s, onR_s, onL_s, gl_0, gl_n, gl_1, gl_2, gl_3, gl_4, gl_5, gl_6, gl_7, gl_8, gl_9, gl_10, gl_11, gl_12, gl_13, gl_14, gl_15, gl_16, gl_17, sk0i, sk0r, sk0n, sk1i, sk1r, sk1n, sk_2, sk_3, sk_4, sk_5, sk_6, sk_7, sk_8, sk_9, sk_10, sk_11, sk_12, sk_13, sk_14, sk_15, sk_16, sk_17, ls_0, ls_1, ls_2, ls_3, ls_4, ls_5, ls_6, ls_7, ls_8, ls_9, ls_10, ls_11, ls_12, ls_13, ls_14, ls_15, ls_16, ls_17, ct1_i, ct1_r, wd8_0, wd8_i1, wd8_r1, wd8_i2, wd8_r2, wd8_i3, wd8_r3, wd8_i4, wd8_r4, wd8_i5, wd8_r5, wd8_i6, wd8_r6, wd8_i7, wd8_r7, wd8_i8, wd8_r8, wd8_l2, wd8_l3, wd8_l4, wd8_l5, wd8_l6, wd8_l7, wd8_l8, tl_s, tl_n, inR_t, bd_t, true_and, and_true, true_or, or_true, if_true_x, if_false_x, if_pos, if_neg, Int.toNat_natCast, natL, bI_0, bI_1, bI_ft, eq_self, b_tf, b_ft, not_true_eq_false, not_false_eq_true, hc.t70, hc.r70_4, hc.r70_5, hc.r70_6, hc.r70_7, hc.r70_8, hc.r70_10, hc.r70_11, hc.r70_12, hc.r70_14, hc.r70_15, hc.r70_16, hc.r70_17, hc.r70_19, hc.r70_21, hc.r70_23, hc.r70_24, hc.r70_26, hc.r70_27, hc.r70_28, hc.r70_29, hc.r70_30, hc.r70_31, hc.r70_32, hc.r70_33, hc.r70_36]
      exact f2
  · have d1 : (decide (0 ≤ w) && decide (w ≤ 5)) = false := by simp; omega
    unfold spTerms at hq
    rw [if_neg (fun q => e q.1)] at hq
    simp (disch := first | assumption | omega) only [e_179_0, e_179_1, e_179_2, e_179_3, e_179_4, e_179_5, e_179_6, e_179_7, e_179_8, e_179_9, e_179_10, e_179_11, e_179_12, e_179_13, e_179_14, e_179_15, e_179_16, e_179_17, e_179_18, e_179_19, e_179_20, e_179_21, e_179_22, e_179_23, e_179_24, e_179_25, e_179_26, e_179_27, e_179_28, e_179_29, e_179_30, e_179_31, e_179_32, e_179_33, e_179_34, onI_s, onR_s, onL_s, gl_0, gl_n, gl_1, gl_2, gl_3, gl_4, gl_5, gl_6, gl_7, gl_8, gl_9, gl_10, gl_11, gl_12, gl_13, gl_14, gl_15, gl_16, gl_17, sk0i, sk0r, sk0n, sk1i, sk1r, sk1n, sk_2, sk_3, sk_4, sk_5, sk_6, sk_7, sk_8, sk_9, sk_10, sk_11, sk_12, sk_13, sk_14, sk_15, sk_16, sk_17, ls_0, ls_1, ls_2, ls_3, ls_4, ls_5, ls_6, ls_7, ls_8, ls_9, ls_10, ls_11, ls_12, ls_13, ls_14, ls_15, ls_16, ls_17, ct1_i, ct1_r, wd8_0, wd8_i1, wd8_r1, wd8_i2, wd8_r2, wd8_i3, wd8_r3, wd8_i4, wd8_r4, wd8_i5, wd8_r5, wd8_i6, wd8_r6, wd8_i7, wd8_r7, wd8_i8, wd8_r8, wd8_l2, wd8_l3, wd8_l4, wd8_l5, wd8_l6, wd8_l7, wd8_l8, tl_s, tl_n, inR_t, bd_t, true_and, and_true, true_or, or_true, if_true_x, if_false_x, if_pos, if_neg, Int.toNat_natCast, natL, bI_0, bI_1, bI_ft, eq_self, b_tf, b_ft, not_true_eq_false, not_false_eq_true, hc.t70, hc.r70_4, hc.r70_5, hc.r70_6, hc.r70_7, hc.r70_8, hc.r70_10, hc.r70_11, hc.r70_12, hc.r70_14, hc.r70_15, hc.r70_16, hc.r70_17, hc.r70_19, hc.r70_21, hc.r70_23, hc.r70_24, hc.r70_26, hc.r70_27, hc.r70_28, hc.r70_29, hc.r70_30, hc.r70_31, hc.r70_32, hc.r70_33, hc.r70_36]
    simp (disch := first | assumption | omega) only [e_179_35, e_179_36, e_179_37, e_179_38, e_179_39, e_179_40, e_179_49, e_179_50, onI_s, onR_s, onL_s, gl_0, gl_n, gl_1, gl_2, gl_3, gl_4, gl_5, gl_6, gl_7, gl_8, gl_9, gl_10, gl_11, gl_12, gl_13, gl_14, gl_15, gl_16, gl_17, sk0i, sk0r, sk0n, sk1i, sk1r, sk1n, sk_2, sk_3, sk_4, sk_5, sk_6, sk_7, sk_8, sk_9, sk_10, sk_11, sk_12, sk_13, sk_14, sk_15, sk_16, sk_17, ls_0, ls_1, ls_2, ls_3, ls_4, ls_5, ls_6, ls_7, ls_8, ls_9, ls_10, ls_11, ls_12, ls_13, ls_14, ls_15, ls_16, ls_17, ct1_i, ct1_r, wd8_0, wd8_i1, wd8_r1, wd8_i2, wd8_r2, wd8_i3, wd8_r3, wd8_i4, wd8_r4, wd8_i5, wd8_r5, wd8_i6, wd8_r6, wd8_i7, wd8_r7, wd8_i8, wd8_r8, wd8_l2, wd8_l3, wd8_l4, wd8_l5, wd8_l6, wd8_l7, wd8_l8, tl_s, tl_n, inR_t, bd_t, true_and, and_true, true_or, or_true, if_true_x, if_false_x, if_pos, if_neg, Int.toNat_natCast, natL, bI_0, bI_1, bI_ft, eq_self, b_tf, b_ft, not_true_eq_false, not_false_eq_true, m_149, d1, hc.t70, hc.r70_4, hc.r70_5, hc.r70_6, hc.r70_7, hc.r70_8, hc.r70_10, hc.r70_11, hc.r70_12, hc.r70_14, hc.r70_15, hc.r70_16, hc.r70_17, hc.r70_19, hc.r70_21, hc.r70_23, hc.r70_24, hc.r70_26, hc.r70_27, hc.r70_28, hc.r70_29, hc.r70_30, hc.r70_31, hc.r70_32, hc.r70_33, hc.r70_36]
    rw [e_179_51]
    refine ⟨⟨hc.t70, by decide⟩, p_154t ok0 rf (by omega) (by omega) (fun h2 a b => ?_)⟩
    simp (disch := first | assumption | omega) only [e_179_52, onI_s, onR_s, onL_s, gl_0, gl_n, gl_1, gl_2, gl_3, gl_4, gl_5, gl_6, gl_7, gl_8, gl_9, gl_10, gl_11, gl_12, gl_13, gl_14, gl_15, gl_16, gl_17, sk0i, sk0r, sk0n, sk1i, sk1r, sk1n, sk_2, sk_3, sk_4, sk_5, sk_6, sk_7, sk_8, sk_9, sk_10, sk_11, sk_12, sk_13, sk_14, sk_15, sk_16, sk_17, ls_0, ls_1, ls_2, ls_3, ls_4, ls_5, ls_6, ls_7, ls_8, ls_9, ls_10, ls_11, ls_12, ls_13, ls_14, ls_15, ls_16, ls_17, ct1_i, ct1_r, wd8_0, wd8_i1, wd8_r1, wd8_i2, wd8_r2, wd8_i3, wd8_r3, wd8_i4, wd8_r4, wd8_i5, wd8_r5, wd8_i6, wd8_r6, wd8_i7, wd8_r7, wd8_i8, wd8_r8, wd8_l2, wd8_l3, wd8_l4, wd8_l5, wd8_l6, wd8_l7, wd8_l8, tl_s, tl_n, inR_t, bd_t, true_and, and_true, true_or, or_true, if_true_x, if_false_x, if_pos, if_neg, Int.toNat_natCast, natL, bI_0, bI_1, bI_ft, eq_self, b_tf, b_ft, not_true_eq_false, not_false_eq_true]
    exact hq h2 a b
set_option maxHeartbeats 4000000 in
theorem p_103 {w x : Int} (ok : Ok X h) (rf : RFb (h.1 3)) (hq : ∀ h2, Cst X h h2 → cS h2 = (spTerms (cS h) w x).2 → Q (some (vi (spTerms (cS h) w x).1)) h2) : Cl X 103 [vr 0, vi w, vi x] h Q := by
  have ok0 := ok
  obtain ⟨z, os, oc, om, ⟨nb, ln, hc, hnb⟩, lp⟩ := ok
  have s1 : X.2.2.2 1 = 97 := hc.2.2.2.2.2 1 (by decide)
  have s2 : X.2.2.2 2 = 98 := hc.2.2.2.2.2 2 (by decide)
  rw [c_103]
  unfold spTerms at hq
  have ref : Ev X 103 15 [some (vr 0), some (vi w), some (vi x), none] [] h Q ∨ ((0 ≤ w ∧ w < 6) ∧ tlo w.toNat ≤ x ∧ x ≤ thi w.toNat) := by
    by_cases e : (0 ≤ w ∧ w < 6) ∧ tlo w.toNat ≤ x ∧ x ≤ thi w.toNat
    · exact Or.inr e
    · left
      rw [if_neg e] at hq
      rw [e_103_15]
      simp (disch := first | assumption | omega) only [e_103_16, onI_s, onR_s, onL_s, gl_0, gl_n, gl_1, gl_2, gl_3, gl_4, gl_5, gl_6, gl_7, gl_8, gl_9, gl_10, gl_11, gl_12, gl_13, gl_14, gl_15, gl_16, gl_17, sk0i, sk0r, sk0n, sk1i, sk1r, sk1n, sk_2, sk_3, sk_4, sk_5, sk_6, sk_7, sk_8, sk_9, sk_10, sk_11, sk_12, sk_13, sk_14, sk_15, sk_16, sk_17, ls_0, ls_1, ls_2, ls_3, ls_4, ls_5, ls_6, ls_7, ls_8, ls_9, ls_10, ls_11, ls_12, ls_13, ls_14, ls_15, ls_16, ls_17, ct1_i, ct1_r, wd8_0, wd8_i1, wd8_r1, wd8_i2, wd8_r2, wd8_i3, wd8_r3, wd8_i4, wd8_r4, wd8_i5, wd8_r5, wd8_i6, wd8_r6, wd8_i7, wd8_r7, wd8_i8, wd8_r8, wd8_l2, wd8_l3, wd8_l4, wd8_l5, wd8_l6, wd8_l7, wd8_l8, tl_s, tl_n, inR_t, bd_t, true_and, and_true, true_or, or_true, if_true_x, if_false_x, if_pos, if_neg, Int.toNat_natCast, natL, bI_0, bI_1, bI_ft, eq_self, b_tf, b_ft, not_true_eq_false, not_false_eq_true]
      rw [e_103_17]
      refine ⟨⟨hc.t0, by decide⟩, p_138 ok0 rf (by omega) (by omega) (fun h2 a b => ?_)⟩
      simp (disch := first | assumption | omega) only [e_103_18, onI_s, onR_s, onL_s, gl_0, gl_n, gl_1, gl_2, gl_3, gl_4, gl_5, gl_6, gl_7, gl_8, gl_9, gl_10, gl_11, gl_12, gl_13, gl_14, gl_15, gl_16, gl_17, sk0i, sk0r, sk0n, sk1i, sk1r, sk1n, sk_2, sk_3, sk_4, sk_5, sk_6, sk_7, sk_8, sk_9, sk_10, sk_11, sk_12, sk_13, sk_14, sk_15, sk_16, sk_17, ls_0, ls_1, ls_2, ls_3, ls_4, ls_5, ls_6, ls_7, ls_8, ls_9, ls_10, ls_11, ls_12, ls_13, ls_14, ls_15, ls_16, ls_17, ct1_i, ct1_r, wd8_0, wd8_i1, wd8_r1, wd8_i2, wd8_r2, wd8_i3, wd8_r3, wd8_i4, wd8_r4, wd8_i5, wd8_r5, wd8_i6, wd8_r6, wd8_i7, wd8_r7, wd8_i8, wd8_r8, wd8_l2, wd8_l3, wd8_l4, wd8_l5, wd8_l6, wd8_l7, wd8_l8, tl_s, tl_n, inR_t, bd_t, true_and, and_true, true_or, or_true, if_true_x, if_false_x, if_pos, if_neg, Int.toNat_natCast, natL, bI_0, bI_1, bI_ft, eq_self, b_tf, b_ft, not_true_eq_false, not_false_eq_true]
      exact hq h2 a b
  by_cases e : 0 ≤ w ∧ w < 6
  · have o1 := os.1 w.toNat (by omega)
    by_cases e2 : tlo w.toNat ≤ x
    · by_cases e3 : x ≤ thi w.toNat
      · rw [if_pos ⟨e, e2, e3⟩] at hq
        simp (disch := first | assumption | omega) only [e_103_0, e_103_1, e_103_2, e_103_3, e_103_4, e_103_5, e_103_6, e_103_7, e_103_8, e_103_9, e_103_10, e_103_11, e_103_12, e_103_13, e_103_14, e_103_19, e_103_20, e_103_21, e_103_22, e_103_23, e_103_24, e_103_25, e_103_26, e_103_27, e_103_28, e_103_29, e_103_30, e_103_31, e_103_32, e_103_33, onI_s, onR_s, onL_s, gl_0, gl_n, gl_1, gl_2, gl_3, gl_4, gl_5, gl_6, gl_7, gl_8, gl_9, gl_10, gl_11, gl_12, gl_13, gl_14, gl_15, gl_16, gl_17, sk0i, sk0r, sk0n, sk1i, sk1r, sk1n, sk_2, sk_3, sk_4, sk_5, sk_6, sk_7, sk_8, sk_9, sk_10, sk_11, sk_12, sk_13, sk_14, sk_15, sk_16, sk_17, ls_0, ls_1, ls_2, ls_3, ls_4, ls_5, ls_6, ls_7, ls_8, ls_9, ls_10, ls_11, ls_12, ls_13, ls_14, ls_15, ls_16, ls_17, ct1_i, ct1_r, wd8_0, wd8_i1, wd8_r1, wd8_i2, wd8_r2, wd8_i3, wd8_r3, wd8_i4, wd8_r4, wd8_i5, wd8_r5, wd8_i6, wd8_r6, wd8_i7, wd8_r7, wd8_i8, wd8_r8, wd8_l2, wd8_l3, wd8_l4, wd8_l5, wd8_l6, wd8_l7, wd8_l8, tl_s, tl_n, inR_t, bd_t, true_and, and_true, true_or, or_true, if_true_x, if_false_x, if_pos, if_neg, Int.toNat_natCast, natL, bI_0, bI_1, bI_ft, eq_self, b_tf, b_ft, not_true_eq_false, not_false_eq_true, s1, s2, o1, hc.t0, hc.r0_0, hc.r0_1, hc.r0_3, hc.r0_5, hc.r0_6, hc.r0_7, hc.r0_8, hc.r0_9, hc.r0_10, hc.r0_11, hc.r0_12, hc.r0_13, hc.t1, hc.z1, hc.t97, hc.z97, hc.t98, hc.z98]
        refine hq _ (Cst.few ok0 (nz_u z (by rw [hc.z1]; omega)) (fun a q => up2_of (by omega)) (fun a q => up2_of q)) ?_
        unfold cS
        dsimp only
        refine Prod.ext (cv_congr (fun a q1 q2 => ⟨up2_of (by omega), up2_of (by omega)⟩)) (Prod.ext ?_ (Prod.ext ?_ (Prod.ext ?_ (Prod.ext ?_ (Prod.ext ?_ ?_)))))
        · funext j; dsimp only; rw [up2_same]; rfl
        · dsimp only; rw [up2_of (by decide)]
        · simp [up2_same]
        · dsimp only; rw [up2_of (by decide)]
        · simp [up2_same]
        · have e1 : up2 h.2 0 4 0 4 = h.2 4 := up2_of (by decide)
          have e2 : up2 h.1 1 w.toNat x 6 = h.1 6 := up2_of (by decide)
          exact hC_congr e1 e2 (fun a q1 q2 => ⟨up2_of (by omega), up2_of (by omega)⟩)
      · simp (disch := first | assumption | omega) only [e_103_0, e_103_1, e_103_2, e_103_3, e_103_4, e_103_5, e_103_6, e_103_7, e_103_8, e_103_9, e_103_10, e_103_11, e_103_12, e_103_13, e_103_14, onI_s, onR_s, onL_s, gl_0, gl_n, gl_1, gl_2, gl_3, gl_4, gl_5, gl_6, gl_7, gl_8, gl_9, gl_10, gl_11, gl_12, gl_13, gl_14, gl_15, gl_16, gl_17, sk0i, sk0r, sk0n, sk1i, sk1r, sk1n, sk_2, sk_3, sk_4, sk_5, sk_6, sk_7, sk_8, sk_9, sk_10, sk_11, sk_12, sk_13, sk_14, sk_15, sk_16, sk_17, ls_0, ls_1, ls_2, ls_3, ls_4, ls_5, ls_6, ls_7, ls_8, ls_9, ls_10, ls_11, ls_12, ls_13, ls_14, ls_15, ls_16, ls_17, ct1_i, ct1_r, wd8_0, wd8_i1, wd8_r1, wd8_i2, wd8_r2, wd8_i3, wd8_r3, wd8_i4, wd8_r4, wd8_i5, wd8_r5, wd8_i6, wd8_r6, wd8_i7, wd8_r7, wd8_i8, wd8_r8, wd8_l2, wd8_l3, wd8_l4, wd8_l5, wd8_l6, wd8_l7, wd8_l8, tl_s, tl_n, inR_t, bd_t, true_and, and_true, true_or, or_true, if_true_x, if_false_x, if_pos, if_neg, Int.toNat_natCast, natL, bI_0, bI_1, bI_ft, eq_self, b_tf, b_ft, not_true_eq_false, not_false_eq_true, s1, s2, o1, hc.t0, hc.r0_0, hc.r0_1, hc.r0_3, hc.r0_5, hc.r0_6, hc.r0_7, hc.r0_8, hc.r0_9, hc.r0_10, hc.r0_11, hc.r0_12, hc.r0_13, hc.t1, hc.z1, hc.t97, hc.z97, hc.t98, hc.z98]
        exact ref.resolve_right (fun q => e3 q.2.2)
    · simp (disch := first | assumption | omega) only [e_103_0, e_103_1, e_103_2, e_103_3, e_103_4, e_103_5, e_103_6, e_103_7, e_103_8, e_103_9, onI_s, onR_s, onL_s, gl_0, gl_n, gl_1, gl_2, gl_3, gl_4, gl_5, gl_6, gl_7, gl_8, gl_9, gl_10, gl_11, gl_12, gl_13, gl_14, gl_15, gl_16, gl_17, sk0i, sk0r, sk0n, sk1i, sk1r, sk1n, sk_2, sk_3, sk_4, sk_5, sk_6, sk_7, sk_8, sk_9, sk_10, sk_11, sk_12, sk_13, sk_14, sk_15, sk_16, sk_17, ls_0, ls_1, ls_2, ls_3, ls_4, ls_5, ls_6, ls_7, ls_8, ls_9, ls_10, ls_11, ls_12, ls_13, ls_14, ls_15, ls_16, ls_17, ct1_i, ct1_r, wd8_0, wd8_i1, wd8_r1, wd8_i2, wd8_r2, wd8_i3, wd8_r3, wd8_i4, wd8_r4, wd8_i5, wd8_r5, wd8_i6, wd8_r6, wd8_i7, wd8_r7, wd8_i8, wd8_r8, wd8_l2, wd8_l3, wd8_l4, wd8_l5, wd8_l6, wd8_l7, wd8_l8, tl_s, tl_n, inR_t, bd_t, true_and, and_true, true_or, or_true, if_true_x, if_false_x, if_pos, if_neg, Int.toNat_natCast, natL, bI_0, bI_1, bI_ft, eq_self, b_tf, b_ft, not_true_eq_false, not_false_eq_true, s1, s2, o1, hc.t0, hc.r0_0, hc.r0_1, hc.r0_3, hc.r0_5, hc.r0_6, hc.r0_7, hc.r0_8, hc.r0_9, hc.r0_10, hc.r0_11, hc.r0_12, hc.r0_13, hc.t1, hc.z1, hc.t97, hc.z97, hc.t98, hc.z98]
      exact ref.resolve_right (fun q => e2 q.2.1)
  · by_cases e4 : w < 0
    · simp (disch := first | assumption | omega) only [e_103_0, e_103_1, onI_s, onR_s, onL_s, gl_0, gl_n, gl_1, gl_2, gl_3, gl_4, gl_5, gl_6, gl_7, gl_8, gl_9, gl_10, gl_11, gl_12, gl_13, gl_14, gl_15, gl_16, gl_17, sk0i, sk0r, sk0n, sk1i, sk1r, sk1n, sk_2, sk_3, sk_4, sk_5, sk_6, sk_7, sk_8, sk_9, sk_10, sk_11, sk_12, sk_13, sk_14, sk_15, sk_16, sk_17, ls_0, ls_1, ls_2, ls_3, ls_4, ls_5, ls_6, ls_7, ls_8, ls_9, ls_10, ls_11, ls_12, ls_13, ls_14, ls_15, ls_16, ls_17, ct1_i, ct1_r, wd8_0, wd8_i1, wd8_r1, wd8_i2, wd8_r2, wd8_i3, wd8_r3, wd8_i4, wd8_r4, wd8_i5, wd8_r5, wd8_i6, wd8_r6, wd8_i7, wd8_r7, wd8_i8, wd8_r8, wd8_l2, wd8_l3, wd8_l4, wd8_l5, wd8_l6, wd8_l7, wd8_l8, tl_s, tl_n, inR_t, bd_t, true_and, and_true, true_or, or_true, if_true_x, if_false_x, if_pos, if_neg, Int.toNat_natCast, natL, bI_0, bI_1, bI_ft, eq_self, b_tf, b_ft, not_true_eq_false, not_false_eq_true, e4]
      exact ref.resolve_right (fun q => e q.1)
    · simp (disch := first | assumption | omega) only [e_103_0, e_103_1, e_103_2, e_103_3, e_103_4, onI_s, onR_s, onL_s, gl_0, gl_n, gl_1, gl_2, gl_3, gl_4, gl_5, gl_6, gl_7, gl_8, gl_9, gl_10, gl_11, gl_12, gl_13, gl_14, gl_15, gl_16, gl_17, sk0i, sk0r, sk0n, sk1i, sk1r, sk1n, sk_2, sk_3, sk_4, sk_5, sk_6, sk_7, sk_8, sk_9, sk_10, sk_11, sk_12, sk_13, sk_14, sk_15, sk_16, sk_17, ls_0, ls_1, ls_2, ls_3, ls_4, ls_5, ls_6, ls_7, ls_8, ls_9, ls_10, ls_11, ls_12, ls_13, ls_14, ls_15, ls_16, ls_17, ct1_i, ct1_r, wd8_0, wd8_i1, wd8_r1, wd8_i2, wd8_r2, wd8_i3, wd8_r3, wd8_i4, wd8_r4, wd8_i5, wd8_r5, wd8_i6, wd8_r6, wd8_i7, wd8_r7, wd8_i8, wd8_r8, wd8_l2, wd8_l3, wd8_l4, wd8_l5, wd8_l6, wd8_l7, wd8_l8, tl_s, tl_n, inR_t, bd_t, true_and, and_true, true_or, or_true, if_true_x, if_false_x, if_pos, if_neg, Int.toNat_natCast, natL, bI_0, bI_1, bI_ft, eq_self, b_tf, b_ft, not_true_eq_false, not_false_eq_true, e4]
      exact ref.resolve_right (fun q => e q.1)
theorem m_180b {x t : Int} {f : Nat → Int} (hc : CT X ns nb ln) (h0 : 0 ≤ t) (h1 : t ≤ 96) : Cl X 180 [vr 70, vi x] (up1 I 78 f, up2 F 70 13 t) Q ↔ Q none (up1 I 78 (fd4 (f, t) x).1, up2 F 70 13 (t + 1 + 1 + 1 + 1)) := by
  rw [m_180 hc (by dsimp only; rw [up2_self]; exact h0) (by dsimp only; rw [up2_self]; exact h1)]
  dsimp only
  rw [up2_self, up1_self, up1_up1, up2_up2]
theorem m_140b {x t : Int} {f : Nat → Int} (hc : CT X ns nb ln) (h0 : 0 ≤ t) (h1 : t ≤ 96) : Cl X 140 [vr 0, vi x] (up1 I 2 f, up2 F 0 2 t) Q ↔ Q none (up1 I 2 (fd4 (f, t) x).1, up2 F 0 2 (t + 1 + 1 + 1 + 1)) := by
  rw [m_140 hc (by dsimp only; rw [up2_self]; exact h0) (by dsimp only; rw [up2_self]; exact h1)]
  dsimp only
  rw [up2_self, up1_self, up1_up1, up2_up2]
theorem up2_id {f : Nat → Nat → Int} {a k : Nat} : up2 f a k (f a k) = f := by
  funext b j
  rw [up2_eq]
  by_cases e : b = a ∧ j = k
  · rw [if_pos e, e.1, e.2]
  · rw [if_neg e]
set_option maxHeartbeats 4000000 in
theorem p_181 {a b c d e : Int} (ok : Ok X h) (h0 : 0 ≤ h.2 70 13) (hq : ∀ h2, Mst X h h2 → mS h2 = (spFeed (mS h) a b c d e).2 → Q (some (vi (spFeed (mS h) a b c d e).1)) h2) (h1 : h.2 70 13 ≤ 100) : Cl X 181 [vr 70, vi a, vi b, vi c, vi d, vi e] h Q := by
  have ok0 := ok
  obtain ⟨z, os, oc, om, ⟨nb, ln, hc, hnb⟩, lp⟩ := ok
  rw [c_181]
  unfold spFeed at hq
  have et : (mS h).2.2.2.1 = h.2 70 13 := rfl
  rw [et] at hq
  by_cases g : 100 < h.2 70 13 + 20
  · rw [if_pos g] at hq
    simp (disch := first | assumption | omega) only [e_181_0, e_181_1, e_181_2, e_181_3, e_181_4, e_181_5, e_181_6, e_181_7, e_181_8, e_181_9, e_181_10, onI_s, onR_s, onL_s, gl_0, gl_n, gl_1, gl_2, gl_3, gl_4, gl_5, gl_6, gl_7, gl_8, gl_9, gl_10, gl_11, gl_12, gl_13, gl_14, gl_15, gl_16, gl_17, sk0i, sk0r, sk0n, sk1i, sk1r, sk1n, sk_2, sk_3, sk_4, sk_5, sk_6, sk_7, sk_8, sk_9, sk_10, sk_11, sk_12, sk_13, sk_14, sk_15, sk_16, sk_17, ls_0, ls_1, ls_2, ls_3, ls_4, ls_5, ls_6, ls_7, ls_8, ls_9, ls_10, ls_11, ls_12, ls_13, ls_14, ls_15, ls_16, ls_17, ct1_i, ct1_r, wd8_0, wd8_i1, wd8_r1, wd8_i2, wd8_r2, wd8_i3, wd8_r3, wd8_i4, wd8_r4, wd8_i5, wd8_r5, wd8_i6, wd8_r6, wd8_i7, wd8_r7, wd8_i8, wd8_r8, wd8_l2, wd8_l3, wd8_l4, wd8_l5, wd8_l6, wd8_l7, wd8_l8, tl_s, tl_n, inR_t, bd_t, true_and, and_true, true_or, or_true, if_true_x, if_false_x, if_pos, if_neg, Int.toNat_natCast, natL, bI_0, bI_1, bI_ft, eq_self, b_tf, b_ft, not_true_eq_false, not_false_eq_true, up2_same, show ¬ (13 : Nat) = 0 from (by decide), hc.t70, hc.r70_4, hc.r70_5, hc.r70_6, hc.r70_7, hc.r70_8, hc.r70_10, hc.r70_11, hc.r70_12, hc.r70_14, hc.r70_15, hc.r70_16, hc.r70_17, hc.r70_19, hc.r70_21, hc.r70_23, hc.r70_24, hc.r70_26, hc.r70_27, hc.r70_28, hc.r70_29, hc.r70_30, hc.r70_31, hc.r70_32, hc.r70_33, hc.r70_36]
    exact hq _ (ok_f ok0 (Or.inl rfl)) mS_th
  · rw [if_neg g] at hq
    simp (disch := first | assumption | omega) only [e_181_0, e_181_1, e_181_2, e_181_3, e_181_4, e_181_5, e_181_6, e_181_7, e_181_8, e_181_9, e_181_10, e_181_11, e_181_12, onI_s, onR_s, onL_s, gl_0, gl_n, gl_1, gl_2, gl_3, gl_4, gl_5, gl_6, gl_7, gl_8, gl_9, gl_10, gl_11, gl_12, gl_13, gl_14, gl_15, gl_16, gl_17, sk0i, sk0r, sk0n, sk1i, sk1r, sk1n, sk_2, sk_3, sk_4, sk_5, sk_6, sk_7, sk_8, sk_9, sk_10, sk_11, sk_12, sk_13, sk_14, sk_15, sk_16, sk_17, ls_0, ls_1, ls_2, ls_3, ls_4, ls_5, ls_6, ls_7, ls_8, ls_9, ls_10, ls_11, ls_12, ls_13, ls_14, ls_15, ls_16, ls_17, ct1_i, ct1_r, wd8_0, wd8_i1, wd8_r1, wd8_i2, wd8_r2, wd8_i3, wd8_r3, wd8_i4, wd8_r4, wd8_i5, wd8_r5, wd8_i6, wd8_r6, wd8_i7, wd8_r7, wd8_i8, wd8_r8, wd8_l2, wd8_l3, wd8_l4, wd8_l5, wd8_l6, wd8_l7, wd8_l8, tl_s, tl_n, inR_t, bd_t, true_and, and_true, true_or, or_true, if_true_x, if_false_x, if_pos, if_neg, Int.toNat_natCast, natL, bI_0, bI_1, bI_ft, eq_self, b_tf, b_ft, not_true_eq_false, not_false_eq_true, up2_same, show ¬ (13 : Nat) = 0 from (by decide), hc.t70, hc.r70_4, hc.r70_5, hc.r70_6, hc.r70_7, hc.r70_8, hc.r70_10, hc.r70_11, hc.r70_12, hc.r70_14, hc.r70_15, hc.r70_16, hc.r70_17, hc.r70_19, hc.r70_21, hc.r70_23, hc.r70_24, hc.r70_26, hc.r70_27, hc.r70_28, hc.r70_29, hc.r70_30, hc.r70_31, hc.r70_32, hc.r70_33, hc.r70_36]
    rw [show ((h.1, up2 h.2 70 0 0) : xH) = (up1 h.1 78 (h.1 78), up2 (up2 h.2 70 0 0) 70 13 (h.2 70 13)) from Prod.ext (up1_id (fun _ => rfl)).symm (by have := up2_id (f := up2 h.2 70 0 0) (a := 70) (k := 13); rw [up2_same, if_neg (by decide)] at this; exact this.symm)]
    simp (disch := first | assumption | omega) only [e_181_13, e_181_14, e_181_15, e_181_16, e_181_17, e_181_18, e_181_19, e_181_20, e_181_21, e_181_22, e_181_23, e_181_24, e_181_25, e_181_26, e_181_27, e_181_28, onI_s, onR_s, onL_s, gl_0, gl_n, gl_1, gl_2, gl_3, gl_4, gl_5, gl_6, gl_7, gl_8, gl_9, gl_10, gl_11, gl_12, gl_13, gl_14, gl_15, gl_16, gl_17, sk0i, sk0r, sk0n, sk1i, sk1r, sk1n, sk_2, sk_3, sk_4, sk_5, sk_6, sk_7, sk_8, sk_9, sk_10, sk_11, sk_12, sk_13, sk_14, sk_15, sk_16, sk_17, ls_0, ls_1, ls_2, ls_3, ls_4, ls_5, ls_6, ls_7, ls_8, ls_9, ls_10, ls_11, ls_12, ls_13, ls_14, ls_15, ls_16, ls_17, ct1_i, ct1_r, wd8_0, wd8_i1, wd8_r1, wd8_i2, wd8_r2, wd8_i3, wd8_r3, wd8_i4, wd8_r4, wd8_i5, wd8_r5, wd8_i6, wd8_r6, wd8_i7, wd8_r7, wd8_i8, wd8_r8, wd8_l2, wd8_l3, wd8_l4, wd8_l5, wd8_l6, wd8_l7, wd8_l8, tl_s, tl_n, inR_t, bd_t, true_and, and_true, true_or, or_true, if_true_x, if_false_x, if_pos, if_neg, Int.toNat_natCast, natL, bI_0, bI_1, bI_ft, eq_self, b_tf, b_ft, not_true_eq_false, not_false_eq_true, m_180b hc, up2_self, hc.t70, hc.r70_4, hc.r70_5, hc.r70_6, hc.r70_7, hc.r70_8, hc.r70_10, hc.r70_11, hc.r70_12, hc.r70_14, hc.r70_15, hc.r70_16, hc.r70_17, hc.r70_19, hc.r70_21, hc.r70_23, hc.r70_24, hc.r70_26, hc.r70_27, hc.r70_28, hc.r70_29, hc.r70_30, hc.r70_31, hc.r70_32, hc.r70_33, hc.r70_36]
    have hn : h.2 70 13 + 1 + 1 + 1 + 1 + 1 + 1 + 1 + 1 + 1 + 1 + 1 + 1 + 1 + 1 + 1 + 1 + 1 + 1 + 1 + 1 = (fd20 (h.1 78, h.2 70 13) a b c d e).2 := rfl
    rw [hn]
    refine hq _ (Mst.few ok0 (NZ.cg (I := h.1) (F := h.2) z ?_) (fun a q => up1_o (by omega)) (up1_o (by decide)) (up1_o (by decide)) (fun a q => by rw [up2_of q, up2_of q]) ?_ ?_ ?_) ?_
    · intro j hj
      rw [hc.z78] at hj
      have z78 := z 78 j (Or.inl hc.t78) (by rw [hc.z78]; exact hj)
      exact (fd20_o (p := (h.1 78, h.2 70 13)) h0 (by show h.2 70 13 + 20 ≤ j; omega)).trans z78
    · simp [up2_same]
    · simp [up2_same]
    · simp [up2_same]
    · unfold mS hM vm uS
      dsimp only
      rw [up1_self, up1_o (show 73 ≠ 78 by decide), up1_o (show 72 ≠ 78 by decide), up1_o (show 71 ≠ 78 by decide), up1_o (show 74 ≠ 78 by decide), up1_o (show 75 ≠ 78 by decide)]
      simp [up2_same, fd20]
      rfl
set_option maxHeartbeats 4000000 in
theorem p_104 {a b c d e : Int} (ok : Ok X h) (h0 : 0 ≤ h.2 0 2) (hq : ∀ h2, Cst X h h2 → cS h2 = (spFeed (cS h) a b c d e).2 → Q (some (vi (spFeed (cS h) a b c d e).1)) h2) (h1 : h.2 0 2 ≤ 100) : Cl X 104 [vr 0, vi a, vi b, vi c, vi d, vi e] h Q := by
  have ok0 := ok
  obtain ⟨z, os, oc, om, ⟨nb, ln, hc, hnb⟩, lp⟩ := ok
  rw [c_104]
  unfold spFeed at hq
  have et : (cS h).2.2.2.1 = h.2 0 2 := rfl
  rw [et] at hq
  by_cases g : 100 < h.2 0 2 + 20
  · rw [if_pos g] at hq
    simp (disch := first | assumption | omega) only [e_104_0, e_104_1, e_104_2, e_104_3, e_104_4, e_104_5, e_104_6, e_104_7, onI_s, onR_s, onL_s, gl_0, gl_n, gl_1, gl_2, gl_3, gl_4, gl_5, gl_6, gl_7, gl_8, gl_9, gl_10, gl_11, gl_12, gl_13, gl_14, gl_15, gl_16, gl_17, sk0i, sk0r, sk0n, sk1i, sk1r, sk1n, sk_2, sk_3, sk_4, sk_5, sk_6, sk_7, sk_8, sk_9, sk_10, sk_11, sk_12, sk_13, sk_14, sk_15, sk_16, sk_17, ls_0, ls_1, ls_2, ls_3, ls_4, ls_5, ls_6, ls_7, ls_8, ls_9, ls_10, ls_11, ls_12, ls_13, ls_14, ls_15, ls_16, ls_17, ct1_i, ct1_r, wd8_0, wd8_i1, wd8_r1, wd8_i2, wd8_r2, wd8_i3, wd8_r3, wd8_i4, wd8_r4, wd8_i5, wd8_r5, wd8_i6, wd8_r6, wd8_i7, wd8_r7, wd8_i8, wd8_r8, wd8_l2, wd8_l3, wd8_l4, wd8_l5, wd8_l6, wd8_l7, wd8_l8, tl_s, tl_n, inR_t, bd_t, true_and, and_true, true_or, or_true, if_true_x, if_false_x, if_pos, if_neg, Int.toNat_natCast, natL, bI_0, bI_1, bI_ft, eq_self, b_tf, b_ft, not_true_eq_false, not_false_eq_true, hc.t0, hc.r0_0, hc.r0_1, hc.r0_3, hc.r0_5, hc.r0_6, hc.r0_7, hc.r0_8, hc.r0_9, hc.r0_10, hc.r0_11, hc.r0_12, hc.r0_13]
    exact hq _ (Cst.few (I2 := h.1) (F2 := h.2) ok0 z (fun _ _ => rfl) (fun _ _ => rfl)) rfl
  · rw [if_neg g] at hq
    simp (disch := first | assumption | omega) only [e_104_0, e_104_1, e_104_2, e_104_3, e_104_4, e_104_5, e_104_6, e_104_7, e_104_8, e_104_9, onI_s, onR_s, onL_s, gl_0, gl_n, gl_1, gl_2, gl_3, gl_4, gl_5, gl_6, gl_7, gl_8, gl_9, gl_10, gl_11, gl_12, gl_13, gl_14, gl_15, gl_16, gl_17, sk0i, sk0r, sk0n, sk1i, sk1r, sk1n, sk_2, sk_3, sk_4, sk_5, sk_6, sk_7, sk_8, sk_9, sk_10, sk_11, sk_12, sk_13, sk_14, sk_15, sk_16, sk_17, ls_0, ls_1, ls_2, ls_3, ls_4, ls_5, ls_6, ls_7, ls_8, ls_9, ls_10, ls_11, ls_12, ls_13, ls_14, ls_15, ls_16, ls_17, ct1_i, ct1_r, wd8_0, wd8_i1, wd8_r1, wd8_i2, wd8_r2, wd8_i3, wd8_r3, wd8_i4, wd8_r4, wd8_i5, wd8_r5, wd8_i6, wd8_r6, wd8_i7, wd8_r7, wd8_i8, wd8_r8, wd8_l2, wd8_l3, wd8_l4, wd8_l5, wd8_l6, wd8_l7, wd8_l8, tl_s, tl_n, inR_t, bd_t, true_and, and_true, true_or, or_true, if_true_x, if_false_x, if_pos, if_neg, Int.toNat_natCast, natL, bI_0, bI_1, bI_ft, eq_self, b_tf, b_ft, not_true_eq_false, not_false_eq_true, hc.t0, hc.r0_0, hc.r0_1, hc.r0_3, hc.r0_5, hc.r0_6, hc.r0_7, hc.r0_8, hc.r0_9, hc.r0_10, hc.r0_11, hc.r0_12, hc.r0_13]
    rw [show h = (up1 h.1 2 (h.1 2), up2 h.2 0 2 (h.2 0 2)) from Prod.ext (up1_id (fun _ => rfl)).symm up2_id.symm]
    simp (disch := first | assumption | omega) only [e_104_10, e_104_11, e_104_12, e_104_13, e_104_14, e_104_15, e_104_16, e_104_17, e_104_18, e_104_19, e_104_20, e_104_21, e_104_22, e_104_23, e_104_24, e_104_25, onI_s, onR_s, onL_s, gl_0, gl_n, gl_1, gl_2, gl_3, gl_4, gl_5, gl_6, gl_7, gl_8, gl_9, gl_10, gl_11, gl_12, gl_13, gl_14, gl_15, gl_16, gl_17, sk0i, sk0r, sk0n, sk1i, sk1r, sk1n, sk_2, sk_3, sk_4, sk_5, sk_6, sk_7, sk_8, sk_9, sk_10, sk_11, sk_12, sk_13, sk_14, sk_15, sk_16, sk_17, ls_0, ls_1, ls_2, ls_3, ls_4, ls_5, ls_6, ls_7, ls_8, ls_9, ls_10, ls_11, ls_12, ls_13, ls_14, ls_15, ls_16, ls_17, ct1_i, ct1_r, wd8_0, wd8_i1, wd8_r1, wd8_i2, wd8_r2, wd8_i3, wd8_r3, wd8_i4, wd8_r4, wd8_i5, wd8_r5, wd8_i6, wd8_r6, wd8_i7, wd8_r7, wd8_i8, wd8_r8, wd8_l2, wd8_l3, wd8_l4, wd8_l5, wd8_l6, wd8_l7, wd8_l8, tl_s, tl_n, inR_t, bd_t, true_and, and_true, true_or, or_true, if_true_x, if_false_x, if_pos, if_neg, Int.toNat_natCast, natL, bI_0, bI_1, bI_ft, eq_self, b_tf, b_ft, not_true_eq_false, not_false_eq_true, m_140b hc, up2_self, hc.t0, hc.r0_0, hc.r0_1, hc.r0_3, hc.r0_5, hc.r0_6, hc.r0_7, hc.r0_8, hc.r0_9, hc.r0_10, hc.r0_11, hc.r0_12, hc.r0_13]
    have hn : h.2 0 2 + 1 + 1 + 1 + 1 + 1 + 1 + 1 + 1 + 1 + 1 + 1 + 1 + 1 + 1 + 1 + 1 + 1 + 1 + 1 + 1 = (fd20 (h.1 2, h.2 0 2) a b c d e).2 := rfl
    rw [hn]
    refine hq _ (Cst.few ok0 (NZ.cg (I := h.1) (F := h.2) z ?_) (fun a q => up1_o (by omega)) (fun a q => up2_of q)) ?_
    · intro j hj
      rw [hc.z2] at hj
      have z2 := z 2 j (Or.inl hc.t2) (by rw [hc.z2]; exact hj)
      exact (fd20_o (p := (h.1 2, h.2 0 2)) h0 (by show h.2 0 2 + 20 ≤ j; omega)).trans z2
    · unfold cS
      dsimp only
      refine Prod.ext (cv_congr (fun a q1 q2 => ⟨up1_o (by omega), up2_of (by omega)⟩)) (Prod.ext ?_ (Prod.ext ?_ (Prod.ext ?_ (Prod.ext ?_ (Prod.ext ?_ ?_)))))
      · dsimp only; rw [up1_o (by decide)]
      · dsimp only; rw [up1_self]; rfl
      · dsimp only; rw [up2_self]
      · dsimp only; rw [up1_o (by decide)]
      · simp [up2_same]
      · have e1 : up2 h.2 0 2 (fd20 (h.1 2, h.2 0 2) a b c d e).2 4 = h.2 4 := up2_of (by decide)
        have e2 : up1 h.1 2 (fd20 (h.1 2, h.2 0 2) a b c d e).1 6 = h.1 6 := up1_o (by decide)
        exact hC_congr e1 e2 (fun a q1 q2 => ⟨up1_o (by omega), up2_of (by omega)⟩)
end PUB
