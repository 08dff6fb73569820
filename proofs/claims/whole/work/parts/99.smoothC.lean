theorem dvE {x y : Int} (h : (0 ≤ x ∧ x ≤ 2147483647) ∧ 0 < y) : inR (x / y) ↔ True := by
  have h1 := Int.ediv_nonneg h.1.1 (Int.le_of_lt h.2)
  have h2 := Int.ediv_le_self y h.1.1
  exact ⟨fun _ => trivial, fun _ => by constructor <;> omega⟩
theorem nzp {y : Int} (h : 0 < y) : (y ≠ 0) ↔ True := ⟨fun _ => trivial, fun _ => by omega⟩
def fil (f R : Nat → Int) (i : Nat) : Nat → Int := fun k => if k < i then f k else R k
theorem fil_s {f R : Nat → Int} {i : Nat} : ∀ k, fil f R (i + 1) k = if k = i then f i else fil f R i k := by
  intro k
  unfold fil
  by_cases e : k = i
  · rw [if_pos e, if_pos (by omega), e]
  · rw [if_neg e]
    by_cases e2 : k < i
    · rw [if_pos e2, if_pos (by omega)]
    · rw [if_neg e2, if_neg (by omega)]
theorem fil_0 {f R : Nat → Int} : fil f R 0 = R := by
  funext k
  unfold fil
  rw [if_neg (by omega)]
section SMC
variable {X : xL} {Q : Option xV → xH → Prop} {ns nb ln b : Nat} {h : xH} {f : Nat → Int}
theorem TMb.gam {f : Nat → Int} (t : TMb f) : 1 ≤ f 0 ∧ f 0 ≤ 64 := by
  have := t 0 (by decide)
  have e1 : tlo 0 = 1 := rfl
  have e2 : thi 0 = 64 := rfl
  omega
set_option maxHeartbeats 4000000 in
theorem l_102 (hc : CT X ns nb ln) {p : Nat} {pl gm : Int} (hg : 0 < gm) (hg2 : gm ≤ 64) (p6 : p ≤ 6) (h15 : ∀ k, k < p → h.1 15 k = f k) (hf : pR f p) (l0 : -8 ≤ pl) (l1 : pl ≤ 1016) : ∀ (m i : Nat) (a c : Int) (x7 x8 x9 : Option xV), i + m = p → 0 ≤ a → a ≤ i * 4194304 → 0 ≤ c → c ≤ i * 4096 → (∀ x7 x8 x9, Ev X 102 49 [some (vr 14), some (vi pl), some (vi p), some (vi gm), some (vi (a + sumF (faS f pl gm) m i)), some (vi (c + sumF (shS2 f pl gm) m i)), some (vi p), x7, x8, x9] [] h Q) → Ev X 102 13 [some (vr 14), some (vi pl), some (vi p), some (vi gm), some (vi a), some (vi c), some (vi i), x7, x8, x9] [] h Q := by
  intro m
  induction m with
  | zero =>
    intro i a c x7 x8 x9 hm a0 a1 c0 c1 hq
    rw [sumF, sumF, Int.add_zero, Int.add_zero] at hq
    rw [e_102_13]
    simp (disch := first | assumption | omega) only [e_102_14, e_102_15, onI_s, onR_s, onL_s, gl_0, gl_n, gl_1, gl_2, gl_3, gl_4, gl_5, gl_6, gl_7, gl_8, gl_9, gl_10, gl_11, gl_12, gl_13, gl_14, gl_15, gl_16, gl_17, sk0i, sk0r, sk0n, sk1i, sk1r, sk1n, sk_2, sk_3, sk_4, sk_5, sk_6, sk_7, sk_8, sk_9, sk_10, sk_11, sk_12, sk_13, sk_14, sk_15, sk_16, sk_17, ls_0, ls_1, ls_2, ls_3, ls_4, ls_5, ls_6, ls_7, ls_8, ls_9, ls_10, ls_11, ls_12, ls_13, ls_14, ls_15, ls_16, ls_17, ct1_i, ct1_r, wd8_0, wd8_i1, wd8_r1, wd8_i2, wd8_r2, wd8_i3, wd8_r3, wd8_i4, wd8_r4, wd8_i5, wd8_r5, wd8_i6, wd8_r6, wd8_i7, wd8_r7, wd8_i8, wd8_r8, wd8_l2, wd8_l3, wd8_l4, wd8_l5, wd8_l6, wd8_l7, wd8_l8, tl_s, tl_n, inR_t, bd_t, true_and, and_true, true_or, or_true, if_true_x, if_false_x, if_pos, if_neg, Int.toNat_natCast, natL, bI_0, bI_1, bI_ft, eq_self, b_tf, b_ft, not_true_eq_false, not_false_eq_true]
    rw [show i = p by omega]
    exact hq _ _ _
  | succ m ih =>
    intro i a c x7 x8 x9 hm a0 a1 c0 c1 hq
    have r := hf i (by omega)
    have e15 := h15 i (by omega)
    have sb := shA_bd (d := ((pl - f i).natAbs : Int)) hg (by omega)
    have mb := mul_bd (a := ((pl - f i).natAbs : Int)) (b := shA gm ((pl - f i).natAbs : Int)) (A := 1024) (B := 4096) (by omega) (by omega) sb.1 sb.2
    have dn := Int.ediv_nonneg (show (0 : Int) ≤ ((pl - f i).natAbs : Int) by omega) (Int.le_of_lt hg)
    have td : (((pl - f i).natAbs : Int)).tdiv gm = ((pl - f i).natAbs : Int) / gm := td_n (by omega)
    rw [sumF, sumF, ← Int.add_assoc, ← Int.add_assoc] at hq
    have key := fun x7 x8 x9 => ih (i + 1) (a + faS f pl gm i) (c + shS2 f pl gm i) x7 x8 x9 (by omega) (by unfold faS; omega) (by unfold faS; rw [Int.natCast_add, Int.add_mul]; omega) (by unfold shS2; omega) (by unfold shS2; rw [Int.natCast_add, Int.add_mul]; omega) hq
    rw [e_102_13]
    by_cases e : 12 < ((pl - f i).natAbs : Int) / gm
    · have es : shA gm ((pl - f i).natAbs : Int) = 0 := by unfold shA; rw [if_pos e]
      have k2 := key (some (vi ((pl - f i).natAbs : Int))) (some (vi (((pl - f i).natAbs : Int) / gm))) (some (vi 0))
      unfold faS shS2 at k2
      rw [es] at k2
      simp (disch := first | assumption | omega) only [e_102_14, e_102_15, e_102_16, e_102_17, e_102_18, e_102_19, e_102_20, e_102_21, e_102_22, e_102_23, e_102_24, e_102_25, e_102_26, e_102_27, e_102_28, e_102_29, e_102_30, e_102_31, e_102_32, e_102_36, e_102_37, e_102_38, e_102_39, e_102_40, e_102_41, e_102_42, e_102_43, e_102_44, e_102_45, e_102_46, e_102_47, e_102_48, onI_s, onR_s, onL_s, gl_0, gl_n, gl_1, gl_2, gl_3, gl_4, gl_5, gl_6, gl_7, gl_8, gl_9, gl_10, gl_11, gl_12, gl_13, gl_14, gl_15, gl_16, gl_17, sk0i, sk0r, sk0n, sk1i, sk1r, sk1n, sk_2, sk_3, sk_4, sk_5, sk_6, sk_7, sk_8, sk_9, sk_10, sk_11, sk_12, sk_13, sk_14, sk_15, sk_16, sk_17, ls_0, ls_1, ls_2, ls_3, ls_4, ls_5, ls_6, ls_7, ls_8, ls_9, ls_10, ls_11, ls_12, ls_13, ls_14, ls_15, ls_16, ls_17, ct1_i, ct1_r, wd8_0, wd8_i1, wd8_r1, wd8_i2, wd8_r2, wd8_i3, wd8_r3, wd8_i4, wd8_r4, wd8_i5, wd8_r5, wd8_i6, wd8_r6, wd8_i7, wd8_r7, wd8_i8, wd8_r8, wd8_l2, wd8_l3, wd8_l4, wd8_l5, wd8_l6, wd8_l7, wd8_l8, tl_s, tl_n, inR_t, bd_t, true_and, and_true, true_or, or_true, if_true_x, if_false_x, if_pos, if_neg, Int.toNat_natCast, natL, bI_0, bI_1, bI_ft, eq_self, b_tf, b_ft, not_true_eq_false, not_false_eq_true, m_283, dv_t, dvR, dvE, nzp, td, e15, Int.mul_zero, Int.add_zero, cast_s, hc.t14, hc.r14_0, hc.r14_5, hc.r14_7, hc.r14_8, hc.r14_9, hc.r14_10, hc.r14_11, hc.r14_12, hc.t15, hc.z15]
      rw [Int.mul_zero, Int.add_zero, Int.add_zero] at k2
      exact k2
    · have es : shA gm ((pl - f i).natAbs : Int) = shr (((pl - f i).natAbs : Int) / gm) := by unfold shA; rw [if_neg e]
      have k2 := key (some (vi ((pl - f i).natAbs : Int))) (some (vi (((pl - f i).natAbs : Int) / gm))) (some (vi (shA gm ((pl - f i).natAbs : Int))))
      unfold faS shS2 at k2
      have er : (Int32.ofInt 4096 >>> (Int32.ofInt (((pl - f i).natAbs : Int) / gm) &&& 31)).toInt = shA gm ((pl - f i).natAbs : Int) := es.symm
      simp (disch := first | assumption | omega) only [e_102_14, e_102_15, e_102_16, e_102_17, e_102_18, e_102_19, e_102_20, e_102_21, e_102_22, e_102_23, e_102_24, e_102_25, e_102_26, e_102_27, e_102_28, e_102_29, e_102_30, e_102_33, e_102_34, e_102_35, e_102_36, e_102_37, e_102_38, e_102_39, e_102_40, e_102_41, e_102_42, e_102_43, e_102_44, e_102_45, e_102_46, e_102_47, e_102_48, onI_s, onR_s, onL_s, gl_0, gl_n, gl_1, gl_2, gl_3, gl_4, gl_5, gl_6, gl_7, gl_8, gl_9, gl_10, gl_11, gl_12, gl_13, gl_14, gl_15, gl_16, gl_17, sk0i, sk0r, sk0n, sk1i, sk1r, sk1n, sk_2, sk_3, sk_4, sk_5, sk_6, sk_7, sk_8, sk_9, sk_10, sk_11, sk_12, sk_13, sk_14, sk_15, sk_16, sk_17, ls_0, ls_1, ls_2, ls_3, ls_4, ls_5, ls_6, ls_7, ls_8, ls_9, ls_10, ls_11, ls_12, ls_13, ls_14, ls_15, ls_16, ls_17, ct1_i, ct1_r, wd8_0, wd8_i1, wd8_r1, wd8_i2, wd8_r2, wd8_i3, wd8_r3, wd8_i4, wd8_r4, wd8_i5, wd8_r5, wd8_i6, wd8_r6, wd8_i7, wd8_r7, wd8_i8, wd8_r8, wd8_l2, wd8_l3, wd8_l4, wd8_l5, wd8_l6, wd8_l7, wd8_l8, tl_s, tl_n, inR_t, bd_t, true_and, and_true, true_or, or_true, if_true_x, if_false_x, if_pos, if_neg, Int.toNat_natCast, natL, bI_0, bI_1, bI_ft, eq_self, b_tf, b_ft, not_true_eq_false, not_false_eq_true, m_283, dv_t, dvR, dvE, nzp, td, e15, er, cast_s, hc.t14, hc.r14_0, hc.r14_5, hc.r14_7, hc.r14_8, hc.r14_9, hc.r14_10, hc.r14_11, hc.r14_12, hc.t15, hc.z15]
      exact k2
/-- a run has one end -/
theorem cl_det {k : Nat} {as : List xV} {r0 : Option xV} {h0 : xH} (key : Cl X k as h (fun r h2 => r = r0 ∧ h2 = h0)) : Cl X k as h Q ↔ Q r0 h0 := by
  constructor
  · intro hq
    obtain ⟨n, r, h2, e1, e2⟩ := hq
    obtain ⟨n3, r3, h3, e3, e4, e5⟩ := key
    have u := run_mono X _ _ _ _ _ _ _ e1 n3
    have u3 := run_mono X _ _ _ _ _ _ _ e3 n
    rw [Nat.add_comm, u3] at u
    cases u
    rw [e4, e5] at e2
    exact e2
  · intro hq
    exact Ev.mono key (fun r h2 q => by rw [q.1, q.2]; exact hq)
set_option maxHeartbeats 4000000 in
theorem m_102 (hc : CT X ns nb ln) {p : Nat} {pl : Int} (tm : TMb (h.1 1)) (p6 : p ≤ 6) (h15 : ∀ k, k < p → h.1 15 k = f k) (hf : pR f p) (l0 : -8 ≤ pl) (l1 : pl ≤ 1016) : Cl X 102 [vr 14, vi pl, vi p] h Q ↔ Q (some (vi (mea f p pl (h.1 1 0)))) h := by
  have tg := tm.gam
  have bd := mea_bd (pl := pl) (gm := h.1 1 0) (by omega) hf l0 l1 p6
  refine cl_det ?_
  rw [c_102]
  simp (disch := first | assumption | omega) only [e_102_0, e_102_1, e_102_2, e_102_3, e_102_4, e_102_5, e_102_6, e_102_7, e_102_8, e_102_9, e_102_10, e_102_11, e_102_12, onI_s, onR_s, onL_s, gl_0, gl_n, gl_1, gl_2, gl_3, gl_4, gl_5, gl_6, gl_7, gl_8, gl_9, gl_10, gl_11, gl_12, gl_13, gl_14, gl_15, gl_16, gl_17, sk0i, sk0r, sk0n, sk1i, sk1r, sk1n, sk_2, sk_3, sk_4, sk_5, sk_6, sk_7, sk_8, sk_9, sk_10, sk_11, sk_12, sk_13, sk_14, sk_15, sk_16, sk_17, ls_0, ls_1, ls_2, ls_3, ls_4, ls_5, ls_6, ls_7, ls_8, ls_9, ls_10, ls_11, ls_12, ls_13, ls_14, ls_15, ls_16, ls_17, ct1_i, ct1_r, wd8_0, wd8_i1, wd8_r1, wd8_i2, wd8_r2, wd8_i3, wd8_r3, wd8_i4, wd8_r4, wd8_i5, wd8_r5, wd8_i6, wd8_r6, wd8_i7, wd8_r7, wd8_i8, wd8_r8, wd8_l2, wd8_l3, wd8_l4, wd8_l5, wd8_l6, wd8_l7, wd8_l8, tl_s, tl_n, inR_t, bd_t, true_and, and_true, true_or, or_true, if_true_x, if_false_x, if_pos, if_neg, Int.toNat_natCast, natL, bI_0, bI_1, bI_ft, eq_self, b_tf, b_ft, not_true_eq_false, not_false_eq_true, m_284, tn_0, show max 1 (h.1 1 0) = h.1 1 0 by omega, hc.t1, hc.z1, hc.t14, hc.r14_0, hc.r14_5, hc.r14_7, hc.r14_8, hc.r14_9, hc.r14_10, hc.r14_11, hc.r14_12]
  refine l_102 hc (gm := h.1 1 0) (by omega) (by omega) p6 h15 hf l0 l1 p 0 0 0 none none none (by omega) (by omega) (by omega) (by omega) (by omega) (fun x7 x8 x9 => ?_)
  rw [Int.zero_add, Int.zero_add, e_102_49]
  unfold mea
  by_cases e : sumF (shS2 f pl (h.1 1 0)) p 0 = 0
  · rw [if_pos e]
    simp (disch := first | assumption | omega) only [e_102_50, e_102_51, e_102_52, e_102_56, onI_s, onR_s, onL_s, gl_0, gl_n, gl_1, gl_2, gl_3, gl_4, gl_5, gl_6, gl_7, gl_8, gl_9, gl_10, gl_11, gl_12, gl_13, gl_14, gl_15, gl_16, gl_17, sk0i, sk0r, sk0n, sk1i, sk1r, sk1n, sk_2, sk_3, sk_4, sk_5, sk_6, sk_7, sk_8, sk_9, sk_10, sk_11, sk_12, sk_13, sk_14, sk_15, sk_16, sk_17, ls_0, ls_1, ls_2, ls_3, ls_4, ls_5, ls_6, ls_7, ls_8, ls_9, ls_10, ls_11, ls_12, ls_13, ls_14, ls_15, ls_16, ls_17, ct1_i, ct1_r, wd8_0, wd8_i1, wd8_r1, wd8_i2, wd8_r2, wd8_i3, wd8_r3, wd8_i4, wd8_r4, wd8_i5, wd8_r5, wd8_i6, wd8_r6, wd8_i7, wd8_r7, wd8_i8, wd8_r8, wd8_l2, wd8_l3, wd8_l4, wd8_l5, wd8_l6, wd8_l7, wd8_l8, tl_s, tl_n, inR_t, bd_t, true_and, and_true, true_or, or_true, if_true_x, if_false_x, if_pos, if_neg, Int.toNat_natCast, natL, bI_0, bI_1, bI_ft, eq_self, b_tf, b_ft, not_true_eq_false, not_false_eq_true, e]
  · rw [if_neg e]
    have td : (sumF (faS f pl (h.1 1 0)) p 0).tdiv (sumF (shS2 f pl (h.1 1 0)) p 0) = sumF (faS f pl (h.1 1 0)) p 0 / sumF (shS2 f pl (h.1 1 0)) p 0 := td_n bd.2.1.1
    simp (disch := first | assumption | omega) only [e_102_50, e_102_53, e_102_54, e_102_55, e_102_56, onI_s, onR_s, onL_s, gl_0, gl_n, gl_1, gl_2, gl_3, gl_4, gl_5, gl_6, gl_7, gl_8, gl_9, gl_10, gl_11, gl_12, gl_13, gl_14, gl_15, gl_16, gl_17, sk0i, sk0r, sk0n, sk1i, sk1r, sk1n, sk_2, sk_3, sk_4, sk_5, sk_6, sk_7, sk_8, sk_9, sk_10, sk_11, sk_12, sk_13, sk_14, sk_15, sk_16, sk_17, ls_0, ls_1, ls_2, ls_3, ls_4, ls_5, ls_6, ls_7, ls_8, ls_9, ls_10, ls_11, ls_12, ls_13, ls_14, ls_15, ls_16, ls_17, ct1_i, ct1_r, wd8_0, wd8_i1, wd8_r1, wd8_i2, wd8_r2, wd8_i3, wd8_r3, wd8_i4, wd8_r4, wd8_i5, wd8_r5, wd8_i6, wd8_r6, wd8_i7, wd8_r7, wd8_i8, wd8_r8, wd8_l2, wd8_l3, wd8_l4, wd8_l5, wd8_l6, wd8_l7, wd8_l8, tl_s, tl_n, inR_t, bd_t, true_and, and_true, true_or, or_true, if_true_x, if_false_x, if_pos, if_neg, Int.toNat_natCast, natL, bI_0, bI_1, bI_ft, eq_self, b_tf, b_ft, not_true_eq_false, not_false_eq_true, e, dv_t, dvR, dvE, nzp, td]
set_option maxHeartbeats 4000000 in
theorem l_101 (hc : CT X ns nb ln) {p : Nat} (p6 : p ≤ 6) (h15 : ∀ k, k < p → h.1 15 k = f k) : ∀ (m i : Nat) (a c : Int), i + m = p → (Ev X 101 6 [some (vr 14), some (vi p), some (vi a), some (vi c), some (vi i)] [] h Q ↔ Ev X 101 25 [some (vr 14), some (vi p), some (vi (mnF f m i a)), some (vi (mxF f m i c)), some (vi p)] [] h Q) := by
  intro m
  induction m with
  | zero =>
    intro i a c hm
    rw [e_101_6]
    simp (disch := first | assumption | omega) only [e_101_7, e_101_8, onI_s, onR_s, onL_s, gl_0, gl_n, gl_1, gl_2, gl_3, gl_4, gl_5, gl_6, gl_7, gl_8, gl_9, gl_10, gl_11, gl_12, gl_13, gl_14, gl_15, gl_16, gl_17, sk0i, sk0r, sk0n, sk1i, sk1r, sk1n, sk_2, sk_3, sk_4, sk_5, sk_6, sk_7, sk_8, sk_9, sk_10, sk_11, sk_12, sk_13, sk_14, sk_15, sk_16, sk_17, ls_0, ls_1, ls_2, ls_3, ls_4, ls_5, ls_6, ls_7, ls_8, ls_9, ls_10, ls_11, ls_12, ls_13, ls_14, ls_15, ls_16, ls_17, ct1_i, ct1_r, wd8_0, wd8_i1, wd8_r1, wd8_i2, wd8_r2, wd8_i3, wd8_r3, wd8_i4, wd8_r4, wd8_i5, wd8_r5, wd8_i6, wd8_r6, wd8_i7, wd8_r7, wd8_i8, wd8_r8, wd8_l2, wd8_l3, wd8_l4, wd8_l5, wd8_l6, wd8_l7, wd8_l8, tl_s, tl_n, inR_t, bd_t, true_and, and_true, true_or, or_true, if_true_x, if_false_x, if_pos, if_neg, Int.toNat_natCast, natL, bI_0, bI_1, bI_ft, eq_self, b_tf, b_ft, not_true_eq_false, not_false_eq_true]
    rw [show i = p by omega]
    exact Iff.rfl
  | succ m ih =>
    intro i a c hm
    have e15 := h15 i (by omega)
    rw [e_101_6]
    simp (disch := first | assumption | omega) only [e_101_7, e_101_8, e_101_9, e_101_10, e_101_11, e_101_12, e_101_13, e_101_14, e_101_15, e_101_16, e_101_17, e_101_18, e_101_19, e_101_20, e_101_21, e_101_22, e_101_23, e_101_24, onI_s, onR_s, onL_s, gl_0, gl_n, gl_1, gl_2, gl_3, gl_4, gl_5, gl_6, gl_7, gl_8, gl_9, gl_10, gl_11, gl_12, gl_13, gl_14, gl_15, gl_16, gl_17, sk0i, sk0r, sk0n, sk1i, sk1r, sk1n, sk_2, sk_3, sk_4, sk_5, sk_6, sk_7, sk_8, sk_9, sk_10, sk_11, sk_12, sk_13, sk_14, sk_15, sk_16, sk_17, ls_0, ls_1, ls_2, ls_3, ls_4, ls_5, ls_6, ls_7, ls_8, ls_9, ls_10, ls_11, ls_12, ls_13, ls_14, ls_15, ls_16, ls_17, ct1_i, ct1_r, wd8_0, wd8_i1, wd8_r1, wd8_i2, wd8_r2, wd8_i3, wd8_r3, wd8_i4, wd8_r4, wd8_i5, wd8_r5, wd8_i6, wd8_r6, wd8_i7, wd8_r7, wd8_i8, wd8_r8, wd8_l2, wd8_l3, wd8_l4, wd8_l5, wd8_l6, wd8_l7, wd8_l8, tl_s, tl_n, inR_t, bd_t, true_and, and_true, true_or, or_true, if_true_x, if_false_x, if_pos, if_neg, Int.toNat_natCast, natL, bI_0, bI_1, bI_ft, eq_self, b_tf, b_ft, not_true_eq_false, not_false_eq_true, m_284, m_285, e15, cast_s, hc.t14, hc.r14_0, hc.r14_5, hc.r14_7, hc.r14_8, hc.r14_9, hc.r14_10, hc.r14_11, hc.r14_12, hc.t15, hc.z15]
    rw [ih (i + 1) _ _ (by omega), mnF, mxF]
set_option maxHeartbeats 4000000 in
theorem m_101 (hc : CT X ns nb ln) {p : Nat} (tm : TMb (h.1 1)) (p1 : 1 ≤ p) (p6 : p ≤ 6) (h15 : ∀ k, k < p → h.1 15 k = f k) (hf : pR f p) : Cl X 101 [vr 14, vi p] h Q ↔ Q (some (vi (smF f p (h.1 1 0)))) h := by
  have tg := tm.gam
  obtain ⟨⟨k1, q1, e1⟩, ⟨k2, q2, e2⟩, _⟩ := mn_pR hf p1
  have r1 := hf k1 q1
  have r2 := hf k2 q2
  have m1 := (mea_bd (pl := mnF f p 0 100000000) (gm := h.1 1 0) (by omega) hf (by omega) (by omega) p6).2.2
  have m2 := (mea_bd (pl := mxF f p 0 (-100000000)) (gm := h.1 1 0) (by omega) hf (by omega) (by omega) p6).2.2
  obtain ⟨m, hm⟩ : ∃ m, p = m + 1 := ⟨p - 1, by omega⟩
  have f0 := hf 0 (by omega)
  have c1 : mnF f p 0 268435456 = mnF f p 0 100000000 := by rw [hm]; exact mnF_i (by omega) (by omega)
  have c2 : mxF f p 0 (-268435456) = mxF f p 0 (-100000000) := by rw [hm]; exact mxF_i (by omega) (by omega)
  rw [c_101]
  simp (disch := first | assumption | omega) only [e_101_0, e_101_1, e_101_2, e_101_3, e_101_4, e_101_5, onI_s, onR_s, onL_s, gl_0, gl_n, gl_1, gl_2, gl_3, gl_4, gl_5, gl_6, gl_7, gl_8, gl_9, gl_10, gl_11, gl_12, gl_13, gl_14, gl_15, gl_16, gl_17, sk0i, sk0r, sk0n, sk1i, sk1r, sk1n, sk_2, sk_3, sk_4, sk_5, sk_6, sk_7, sk_8, sk_9, sk_10, sk_11, sk_12, sk_13, sk_14, sk_15, sk_16, sk_17, ls_0, ls_1, ls_2, ls_3, ls_4, ls_5, ls_6, ls_7, ls_8, ls_9, ls_10, ls_11, ls_12, ls_13, ls_14, ls_15, ls_16, ls_17, ct1_i, ct1_r, wd8_0, wd8_i1, wd8_r1, wd8_i2, wd8_r2, wd8_i3, wd8_r3, wd8_i4, wd8_r4, wd8_i5, wd8_r5, wd8_i6, wd8_r6, wd8_i7, wd8_r7, wd8_i8, wd8_r8, wd8_l2, wd8_l3, wd8_l4, wd8_l5, wd8_l6, wd8_l7, wd8_l8, tl_s, tl_n, inR_t, bd_t, true_and, and_true, true_or, or_true, if_true_x, if_false_x, if_pos, if_neg, Int.toNat_natCast, natL, bI_0, bI_1, bI_ft, eq_self, b_tf, b_ft, not_true_eq_false, not_false_eq_true]
  refine (l_101 (Q := Q) hc p6 h15 p 0 268435456 (-268435456) (by omega)).trans ?_
  rw [c1, c2, e_101_25]
  unfold smF
  simp (disch := first | assumption | omega) only [e_101_26, e_101_27, e_101_28, e_101_29, e_101_30, e_101_31, e_101_32, e_101_33, e_101_34, e_101_35, e_101_36, e_101_37, e_101_38, onI_s, onR_s, onL_s, gl_0, gl_n, gl_1, gl_2, gl_3, gl_4, gl_5, gl_6, gl_7, gl_8, gl_9, gl_10, gl_11, gl_12, gl_13, gl_14, gl_15, gl_16, gl_17, sk0i, sk0r, sk0n, sk1i, sk1r, sk1n, sk_2, sk_3, sk_4, sk_5, sk_6, sk_7, sk_8, sk_9, sk_10, sk_11, sk_12, sk_13, sk_14, sk_15, sk_16, sk_17, ls_0, ls_1, ls_2, ls_3, ls_4, ls_5, ls_6, ls_7, ls_8, ls_9, ls_10, ls_11, ls_12, ls_13, ls_14, ls_15, ls_16, ls_17, ct1_i, ct1_r, wd8_0, wd8_i1, wd8_r1, wd8_i2, wd8_r2, wd8_i3, wd8_r3, wd8_i4, wd8_r4, wd8_i5, wd8_r5, wd8_i6, wd8_r6, wd8_i7, wd8_r7, wd8_i8, wd8_r8, wd8_l2, wd8_l3, wd8_l4, wd8_l5, wd8_l6, wd8_l7, wd8_l8, tl_s, tl_n, inR_t, bd_t, true_and, and_true, true_or, or_true, if_true_x, if_false_x, if_pos, if_neg, Int.toNat_natCast, natL, bI_0, bI_1, bI_ft, eq_self, b_tf, b_ft, not_true_eq_false, not_false_eq_true, m_102 hc tm p6 h15 hf, hc.t14, hc.r14_0, hc.r14_5, hc.r14_7, hc.r14_8, hc.r14_9, hc.r14_10, hc.r14_11, hc.r14_12]
set_option maxHeartbeats 2000000 in
theorem m_99 (hp : PL X b) (hw : RGv (cv h b)) {a t : Int} (h1 : 0 ≤ a) (h2 : a < 20 ∨ 200 ≤ a) (t0 : 0 ≤ t) (t1 : t ≤ 31) : Cl X 99 [vr (b + 11), vi a, vi t] h Q ↔ Q (some (vi ((if 200 ≤ a then 0 else cv h b 15 a.toNat) + 16 * t + 8))) h := by
  have wx := hw.wx a.toNat
  rw [cv_15] at wx ⊢
  rw [c_99]
  by_cases e : 200 ≤ a
  · rw [if_pos e]
    simp (disch := first | assumption | omega) only [e_99_0, e_99_1, e_99_2, e_99_3, e_99_4, e_99_9, e_99_10, e_99_11, e_99_12, e_99_13, e_99_14, e_99_15, onI_s, onR_s, onL_s, gl_0, gl_n, gl_1, gl_2, gl_3, gl_4, gl_5, gl_6, gl_7, gl_8, gl_9, gl_10, gl_11, gl_12, gl_13, gl_14, gl_15, gl_16, gl_17, sk0i, sk0r, sk0n, sk1i, sk1r, sk1n, sk_2, sk_3, sk_4, sk_5, sk_6, sk_7, sk_8, sk_9, sk_10, sk_11, sk_12, sk_13, sk_14, sk_15, sk_16, sk_17, ls_0, ls_1, ls_2, ls_3, ls_4, ls_5, ls_6, ls_7, ls_8, ls_9, ls_10, ls_11, ls_12, ls_13, ls_14, ls_15, ls_16, ls_17, ct1_i, ct1_r, wd8_0, wd8_i1, wd8_r1, wd8_i2, wd8_r2, wd8_i3, wd8_r3, wd8_i4, wd8_r4, wd8_i5, wd8_r5, wd8_i6, wd8_r6, wd8_i7, wd8_r7, wd8_i8, wd8_r8, wd8_l2, wd8_l3, wd8_l4, wd8_l5, wd8_l6, wd8_l7, wd8_l8, tl_s, tl_n, inR_t, bd_t, true_and, and_true, true_or, or_true, if_true_x, if_false_x, if_pos, if_neg, Int.toNat_natCast, natL, bI_0, bI_1, bI_ft, eq_self, b_tf, b_ft, not_true_eq_false, not_false_eq_true, hp.t0, hp.t1, hp.t2, hp.t3, hp.t4, hp.t5, hp.t6, hp.t7, hp.t8, hp.t9, hp.t10, hp.t11, hp.t12, hp.t13, hp.t14, hp.t15, hp.t16, hp.t17, hp.t18, hp.t19, hp.t20, hp.t21, hp.t22, hp.t23, hp.z2, hp.z3, hp.z4, hp.z5, hp.z7, hp.z8, hp.z9, hp.z10, hp.z12, hp.z13, hp.z14, hp.z15, hp.z16, hp.z17, hp.z18, hp.z20, hp.z21, hp.z22, hp.z23, hp.r0_2, hp.r0_3, hp.r0_4, hp.r0_5, hp.r1_1, hp.r1_2, hp.r1_3, hp.r1_4, hp.r6_1, hp.r6_2, hp.r6_3, hp.r6_4, hp.r11_1, hp.r11_2, hp.r11_3, hp.r11_4, hp.r11_5, hp.r11_6, hp.r11_7, hp.r19_1, hp.r19_2, hp.r19_3, hp.r19_4]
  · rw [if_neg e]
    simp (disch := first | assumption | omega) only [e_99_0, e_99_1, e_99_2, e_99_5, e_99_6, e_99_7, e_99_8, e_99_9, e_99_10, e_99_11, e_99_12, e_99_13, e_99_14, e_99_15, onI_s, onR_s, onL_s, gl_0, gl_n, gl_1, gl_2, gl_3, gl_4, gl_5, gl_6, gl_7, gl_8, gl_9, gl_10, gl_11, gl_12, gl_13, gl_14, gl_15, gl_16, gl_17, sk0i, sk0r, sk0n, sk1i, sk1r, sk1n, sk_2, sk_3, sk_4, sk_5, sk_6, sk_7, sk_8, sk_9, sk_10, sk_11, sk_12, sk_13, sk_14, sk_15, sk_16, sk_17, ls_0, ls_1, ls_2, ls_3, ls_4, ls_5, ls_6, ls_7, ls_8, ls_9, ls_10, ls_11, ls_12, ls_13, ls_14, ls_15, ls_16, ls_17, ct1_i, ct1_r, wd8_0, wd8_i1, wd8_r1, wd8_i2, wd8_r2, wd8_i3, wd8_r3, wd8_i4, wd8_r4, wd8_i5, wd8_r5, wd8_i6, wd8_r6, wd8_i7, wd8_r7, wd8_i8, wd8_r8, wd8_l2, wd8_l3, wd8_l4, wd8_l5, wd8_l6, wd8_l7, wd8_l8, tl_s, tl_n, inR_t, bd_t, true_and, and_true, true_or, or_true, if_true_x, if_false_x, if_pos, if_neg, Int.toNat_natCast, natL, bI_0, bI_1, bI_ft, eq_self, b_tf, b_ft, not_true_eq_false, not_false_eq_true, hp.t0, hp.t1, hp.t2, hp.t3, hp.t4, hp.t5, hp.t6, hp.t7, hp.t8, hp.t9, hp.t10, hp.t11, hp.t12, hp.t13, hp.t14, hp.t15, hp.t16, hp.t17, hp.t18, hp.t19, hp.t20, hp.t21, hp.t22, hp.t23, hp.z2, hp.z3, hp.z4, hp.z5, hp.z7, hp.z8, hp.z9, hp.z10, hp.z12, hp.z13, hp.z14, hp.z15, hp.z16, hp.z17, hp.z18, hp.z20, hp.z21, hp.z22, hp.z23, hp.r0_2, hp.r0_3, hp.r0_4, hp.r0_5, hp.r1_1, hp.r1_2, hp.r1_3, hp.r1_4, hp.r6_1, hp.r6_2, hp.r6_3, hp.r6_4, hp.r11_1, hp.r11_2, hp.r11_3, hp.r11_4, hp.r11_5, hp.r11_6, hp.r11_7, hp.r19_1, hp.r19_2, hp.r19_3, hp.r19_4]
set_option maxHeartbeats 2000000 in
theorem m_100 (hp : PL X b) (hw : RGv (cv h b)) {a : Int} (h1 : 0 ≤ a) (h2 : a < 20 ∨ 200 ≤ a) (h3 : a ≤ 207) : Cl X 100 [vr (b + 11), vi a] h Q ↔ Q (some (vi ((if 200 ≤ a then 16 * (a - 200) else cv h b 16 a.toNat) + 8))) h := by
  have wy := hw.wy a.toNat
  rw [cv_16] at wy ⊢
  rw [c_100]
  by_cases e : 200 ≤ a
  · rw [if_pos e]
    simp (disch := first | assumption | omega) only [e_100_0, e_100_1, e_100_2, e_100_3, e_100_4, e_100_5, e_100_6, e_100_7, e_100_8, e_100_13, e_100_14, e_100_15, onI_s, onR_s, onL_s, gl_0, gl_n, gl_1, gl_2, gl_3, gl_4, gl_5, gl_6, gl_7, gl_8, gl_9, gl_10, gl_11, gl_12, gl_13, gl_14, gl_15, gl_16, gl_17, sk0i, sk0r, sk0n, sk1i, sk1r, sk1n, sk_2, sk_3, sk_4, sk_5, sk_6, sk_7, sk_8, sk_9, sk_10, sk_11, sk_12, sk_13, sk_14, sk_15, sk_16, sk_17, ls_0, ls_1, ls_2, ls_3, ls_4, ls_5, ls_6, ls_7, ls_8, ls_9, ls_10, ls_11, ls_12, ls_13, ls_14, ls_15, ls_16, ls_17, ct1_i, ct1_r, wd8_0, wd8_i1, wd8_r1, wd8_i2, wd8_r2, wd8_i3, wd8_r3, wd8_i4, wd8_r4, wd8_i5, wd8_r5, wd8_i6, wd8_r6, wd8_i7, wd8_r7, wd8_i8, wd8_r8, wd8_l2, wd8_l3, wd8_l4, wd8_l5, wd8_l6, wd8_l7, wd8_l8, tl_s, tl_n, inR_t, bd_t, true_and, and_true, true_or, or_true, if_true_x, if_false_x, if_pos, if_neg, Int.toNat_natCast, natL, bI_0, bI_1, bI_ft, eq_self, b_tf, b_ft, not_true_eq_false, not_false_eq_true, hp.t0, hp.t1, hp.t2, hp.t3, hp.t4, hp.t5, hp.t6, hp.t7, hp.t8, hp.t9, hp.t10, hp.t11, hp.t12, hp.t13, hp.t14, hp.t15, hp.t16, hp.t17, hp.t18, hp.t19, hp.t20, hp.t21, hp.t22, hp.t23, hp.z2, hp.z3, hp.z4, hp.z5, hp.z7, hp.z8, hp.z9, hp.z10, hp.z12, hp.z13, hp.z14, hp.z15, hp.z16, hp.z17, hp.z18, hp.z20, hp.z21, hp.z22, hp.z23, hp.r0_2, hp.r0_3, hp.r0_4, hp.r0_5, hp.r1_1, hp.r1_2, hp.r1_3, hp.r1_4, hp.r6_1, hp.r6_2, hp.r6_3, hp.r6_4, hp.r11_1, hp.r11_2, hp.r11_3, hp.r11_4, hp.r11_5, hp.r11_6, hp.r11_7, hp.r19_1, hp.r19_2, hp.r19_3, hp.r19_4]
  · rw [if_neg e]
    simp (disch := first | assumption | omega) only [e_100_0, e_100_1, e_100_2, e_100_9, e_100_10, e_100_11, e_100_12, e_100_13, e_100_14, e_100_15, onI_s, onR_s, onL_s, gl_0, gl_n, gl_1, gl_2, gl_3, gl_4, gl_5, gl_6, gl_7, gl_8, gl_9, gl_10, gl_11, gl_12, gl_13, gl_14, gl_15, gl_16, gl_17, sk0i, sk0r, sk0n, sk1i, sk1r, sk1n, sk_2, sk_3, sk_4, sk_5, sk_6, sk_7, sk_8, sk_9, sk_10, sk_11, sk_12, sk_13, sk_14, sk_15, sk_16, sk_17, ls_0, ls_1, ls_2, ls_3, ls_4, ls_5, ls_6, ls_7, ls_8, ls_9, ls_10, ls_11, ls_12, ls_13, ls_14, ls_15, ls_16, ls_17, ct1_i, ct1_r, wd8_0, wd8_i1, wd8_r1, wd8_i2, wd8_r2, wd8_i3, wd8_r3, wd8_i4, wd8_r4, wd8_i5, wd8_r5, wd8_i6, wd8_r6, wd8_i7, wd8_r7, wd8_i8, wd8_r8, wd8_l2, wd8_l3, wd8_l4, wd8_l5, wd8_l6, wd8_l7, wd8_l8, tl_s, tl_n, inR_t, bd_t, true_and, and_true, true_or, or_true, if_true_x, if_false_x, if_pos, if_neg, Int.toNat_natCast, natL, bI_0, bI_1, bI_ft, eq_self, b_tf, b_ft, not_true_eq_false, not_false_eq_true, hp.t0, hp.t1, hp.t2, hp.t3, hp.t4, hp.t5, hp.t6, hp.t7, hp.t8, hp.t9, hp.t10, hp.t11, hp.t12, hp.t13, hp.t14, hp.t15, hp.t16, hp.t17, hp.t18, hp.t19, hp.t20, hp.t21, hp.t22, hp.t23, hp.z2, hp.z3, hp.z4, hp.z5, hp.z7, hp.z8, hp.z9, hp.z10, hp.z12, hp.z13, hp.z14, hp.z15, hp.z16, hp.z17, hp.z18, hp.z20, hp.z21, hp.z22, hp.z23, hp.r0_2, hp.r0_3, hp.r0_4, hp.r0_5, hp.r1_1, hp.r1_2, hp.r1_3, hp.r1_4, hp.r6_1, hp.r6_2, hp.r6_3, hp.r6_4, hp.r11_1, hp.r11_2, hp.r11_3, hp.r11_4, hp.r11_5, hp.r11_6, hp.r11_7, hp.r19_1, hp.r19_2, hp.r19_3, hp.r19_4]
end SMC
