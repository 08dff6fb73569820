/-! RUNS: the call runs of the reference -/
theorem rnL_len {v : Nat → Nat → Int} (w : RGv v) : (rnL v).length ≤ 256 := by
  have ws := w.sites
  have wr := w.rows
  have a := rnA_len (v := v) (S := (v 0 1).toNat) (by omega) (v 0 0).toNat
  have b : (v 0 0).toNat * (v 0 1).toNat ≤ 8 * 32 := Nat.mul_le_mul (by omega) (by omega)
  unfold rnL
  omega
section RPM
variable {X : xL} {Q : Option xV → xH → Prop} {ns nb ln : Nat} {h : xH}
theorem GR.fm {h2 : xH} (g : GR h h2) (ok : Ok X h) (z : NZ X h2) : Fm X h h2 := ⟨z, fun a q => ⟨g.1 a (by omega), funext fun k => g.2 a k (by omega)⟩, fun a q => g.1 a (by omega), fun k q => g.2 70 k (by omega), by rw [g.1 73 (by omega)]; exact ok.2.2.2.1.2.1⟩
set_option maxHeartbeats 4000000 in
theorem q_274 {r f : Int} (ok : Ok X h) (g : Gd (vm h)) (hq : ∀ h2, Mst X h h2 → mS h2 = mS h → Q (some (vi (spRuns (mS h) r f))) h2) : Ev X 274 3 [some (vr 70), some (vi r), some (vi f), none] [] h Q := by
  have ok0 := ok
  obtain ⟨z, os, oc, om, ⟨nb, ln, hc, hnb⟩, lp⟩ := ok
  have hw := g.rg
  have fin3 : ∀ h3, GR h h3 → NZ X h3 → Mst X h h3 ∧ mS h3 = mS h := fun h3 f z3 => ⟨(f.fm ok0 z3).mst ok0, by rw [(f.fm ok0 z3).ms, f.vm]; rfl⟩
  unfold spRuns at hq
  rw [show (mS h).1 = vm h from rfl] at hq
  by_cases b : rkB (vm h) r f = true
  · rw [if_pos b] at hq
    have qb := of_decide_eq_true b
    obtain ⟨rr, rfl⟩ : ∃ rr : Nat, r = rr := ⟨r.toNat, by omega⟩
    rw [Int.toNat_natCast] at hq
    obtain ⟨A, P, e, hA, hP⟩ := rn_dec b
    have l256 := rnL_len hw
    have lm : (rnR (vm h) rr f).length ≤ 256 := by
      have := congrArg List.length e
      simp at this
      omega
    simp (disch := first | assumption | omega) only [e_274_3, e_274_4, e_274_5, e_274_6, e_274_7, e_274_10, onI_s, onR_s, onL_s, gl_0, gl_n, gl_1, gl_2, gl_3, gl_4, gl_5, gl_6, gl_7, gl_8, gl_9, gl_10, gl_11, gl_12, gl_13, gl_14, gl_15, gl_16, gl_17, sk0i, sk0r, sk0n, sk1i, sk1r, sk1n, sk_2, sk_3, sk_4, sk_5, sk_6, sk_7, sk_8, sk_9, sk_10, sk_11, sk_12, sk_13, sk_14, sk_15, sk_16, sk_17, ls_0, ls_1, ls_2, ls_3, ls_4, ls_5, ls_6, ls_7, ls_8, ls_9, ls_10, ls_11, ls_12, ls_13, ls_14, ls_15, ls_16, ls_17, ct1_i, ct1_r, wd8_0, wd8_i1, wd8_r1, wd8_i2, wd8_r2, wd8_i3, wd8_r3, wd8_i4, wd8_r4, wd8_i5, wd8_r5, wd8_i6, wd8_r6, wd8_i7, wd8_r7, wd8_i8, wd8_r8, wd8_l2, wd8_l3, wd8_l4, wd8_l5, wd8_l6, wd8_l7, wd8_l8, tl_s, tl_n, inR_t, bd_t, true_and, and_true, true_or, or_true, if_true_x, if_false_x, if_pos, if_neg, Int.toNat_natCast, natL, bI_0, bI_1, bI_ft, eq_self, b_tf, b_ft, not_true_eq_false, not_false_eq_true, m_273 hc hw, b, hc.t70, hc.r70_4, hc.r70_5, hc.r70_6, hc.r70_7, hc.r70_8, hc.r70_10, hc.r70_11, hc.r70_12, hc.r70_14, hc.r70_15, hc.r70_16, hc.r70_17, hc.r70_19, hc.r70_21, hc.r70_23, hc.r70_24, hc.r70_26, hc.r70_27, hc.r70_28, hc.r70_29, hc.r70_30, hc.r70_31, hc.r70_32, hc.r70_33, hc.r70_36]
    (rw [e_274_11]; refine ⟨⟨hc.t70, by simp [wd_i, wd_r, wd_l, wd_0]⟩, ?_⟩)
    refine m_231 hc rfl hw om.2.1 z (fun h2 s2 => ?_)
    have q := fin3 h2 s2.2.1 s2.1
    have fn : ∀ i : Int, fnL rr f i (rnL (vm h)) 0 0 (-1) = if 0 ≤ i ∧ i < (rnR (vm h) rr f).length then (A.length : Int) + i else -1 := fun i => fnL_rn e hA hP
    have lp : ∀ (m n : Nat), n + m = (rnR (vm h) rr f).length → Ev X 274 14 [some (vr 70), some (vi rr), some (vi f), some (vi n)] [] h2 Q := by
      intro m
      induction m with
      | zero =>
        intro n hm
        have d : fnL rr f n (rnL (vm h)) 0 0 (-1) = -1 := by rw [fn, if_neg (by omega)]
        have := hq h2 q.1 q.2
        rw [e_274_14]
        simp (disch := first | assumption | omega) only [e_274_15, e_274_16, e_274_17, e_274_18, e_274_19, e_274_20, e_274_23, e_274_24, onI_s, onR_s, onL_s, gl_0, gl_n, gl_1, gl_2, gl_3, gl_4, gl_5, gl_6, gl_7, gl_8, gl_9, gl_10, gl_11, gl_12, gl_13, gl_14, gl_15, gl_16, gl_17, sk0i, sk0r, sk0n, sk1i, sk1r, sk1n, sk_2, sk_3, sk_4, sk_5, sk_6, sk_7, sk_8, sk_9, sk_10, sk_11, sk_12, sk_13, sk_14, sk_15, sk_16, sk_17, ls_0, ls_1, ls_2, ls_3, ls_4, ls_5, ls_6, ls_7, ls_8, ls_9, ls_10, ls_11, ls_12, ls_13, ls_14, ls_15, ls_16, ls_17, ct1_i, ct1_r, wd8_0, wd8_i1, wd8_r1, wd8_i2, wd8_r2, wd8_i3, wd8_r3, wd8_i4, wd8_r4, wd8_i5, wd8_r5, wd8_i6, wd8_r6, wd8_i7, wd8_r7, wd8_i8, wd8_r8, wd8_l2, wd8_l3, wd8_l4, wd8_l5, wd8_l6, wd8_l7, wd8_l8, tl_s, tl_n, inR_t, bd_t, true_and, and_true, true_or, or_true, if_true_x, if_false_x, if_pos, if_neg, Int.toNat_natCast, natL, bI_0, bI_1, bI_ft, eq_self, b_tf, b_ft, not_true_eq_false, not_false_eq_true, m_232 hc s2.2.2.1 l256 s2.2.2.2, d, hc.t70, hc.r70_4, hc.r70_5, hc.r70_6, hc.r70_7, hc.r70_8, hc.r70_10, hc.r70_11, hc.r70_12, hc.r70_14, hc.r70_15, hc.r70_16, hc.r70_17, hc.r70_19, hc.r70_21, hc.r70_23, hc.r70_24, hc.r70_26, hc.r70_27, hc.r70_28, hc.r70_29, hc.r70_30, hc.r70_31, hc.r70_32, hc.r70_33, hc.r70_36]
        rw [show (rnR (vm h) rr f).length = n by omega] at this
        exact this
      | succ m ih =>
        intro n hm
        have d : fnL rr f n (rnL (vm h)) 0 0 (-1) = (A.length : Int) + n := by rw [fn, if_pos (by omega)]
        have d2 : ¬ (A.length : Int) + n = -1 := by omega
        rw [e_274_14]
        simp (disch := first | assumption | omega) only [e_274_15, e_274_16, e_274_17, e_274_18, e_274_19, e_274_20, e_274_21, e_274_22, onI_s, onR_s, onL_s, gl_0, gl_n, gl_1, gl_2, gl_3, gl_4, gl_5, gl_6, gl_7, gl_8, gl_9, gl_10, gl_11, gl_12, gl_13, gl_14, gl_15, gl_16, gl_17, sk0i, sk0r, sk0n, sk1i, sk1r, sk1n, sk_2, sk_3, sk_4, sk_5, sk_6, sk_7, sk_8, sk_9, sk_10, sk_11, sk_12, sk_13, sk_14, sk_15, sk_16, sk_17, ls_0, ls_1, ls_2, ls_3, ls_4, ls_5, ls_6, ls_7, ls_8, ls_9, ls_10, ls_11, ls_12, ls_13, ls_14, ls_15, ls_16, ls_17, ct1_i, ct1_r, wd8_0, wd8_i1, wd8_r1, wd8_i2, wd8_r2, wd8_i3, wd8_r3, wd8_i4, wd8_r4, wd8_i5, wd8_r5, wd8_i6, wd8_r6, wd8_i7, wd8_r7, wd8_i8, wd8_r8, wd8_l2, wd8_l3, wd8_l4, wd8_l5, wd8_l6, wd8_l7, wd8_l8, tl_s, tl_n, inR_t, bd_t, true_and, and_true, true_or, or_true, if_true_x, if_false_x, if_pos, if_neg, Int.toNat_natCast, natL, bI_0, bI_1, bI_ft, eq_self, b_tf, b_ft, not_true_eq_false, not_false_eq_true, m_232 hc s2.2.2.1 l256 s2.2.2.2, d, d2, cast_s, hc.t70, hc.r70_4, hc.r70_5, hc.r70_6, hc.r70_7, hc.r70_8, hc.r70_10, hc.r70_11, hc.r70_12, hc.r70_14, hc.r70_15, hc.r70_16, hc.r70_17, hc.r70_19, hc.r70_21, hc.r70_23, hc.r70_24, hc.r70_26, hc.r70_27, hc.r70_28, hc.r70_29, hc.r70_30, hc.r70_31, hc.r70_32, hc.r70_33, hc.r70_36]
        exact ih (n + 1) (by omega)
    simp (disch := first | assumption | omega) only [e_274_12, e_274_13, onI_s, onR_s, onL_s, gl_0, gl_n, gl_1, gl_2, gl_3, gl_4, gl_5, gl_6, gl_7, gl_8, gl_9, gl_10, gl_11, gl_12, gl_13, gl_14, gl_15, gl_16, gl_17, sk0i, sk0r, sk0n, sk1i, sk1r, sk1n, sk_2, sk_3, sk_4, sk_5, sk_6, sk_7, sk_8, sk_9, sk_10, sk_11, sk_12, sk_13, sk_14, sk_15, sk_16, sk_17, ls_0, ls_1, ls_2, ls_3, ls_4, ls_5, ls_6, ls_7, ls_8, ls_9, ls_10, ls_11, ls_12, ls_13, ls_14, ls_15, ls_16, ls_17, ct1_i, ct1_r, wd8_0, wd8_i1, wd8_r1, wd8_i2, wd8_r2, wd8_i3, wd8_r3, wd8_i4, wd8_r4, wd8_i5, wd8_r5, wd8_i6, wd8_r6, wd8_i7, wd8_r7, wd8_i8, wd8_r8, wd8_l2, wd8_l3, wd8_l4, wd8_l5, wd8_l6, wd8_l7, wd8_l8, tl_s, tl_n, inR_t, bd_t, true_and, and_true, true_or, or_true, if_true_x, if_false_x, if_pos, if_neg, Int.toNat_natCast, natL, bI_0, bI_1, bI_ft, eq_self, b_tf, b_ft, not_true_eq_false, not_false_eq_true]
    exact lp (rnR (vm h) rr f).length 0 (by omega)
  · have b' : rkB (vm h) r f = false := by simpa using b
    rw [if_neg b] at hq
    simp (disch := first | assumption | omega) only [e_274_3, e_274_4, e_274_5, e_274_6, e_274_7, e_274_8, e_274_9, onI_s, onR_s, onL_s, gl_0, gl_n, gl_1, gl_2, gl_3, gl_4, gl_5, gl_6, gl_7, gl_8, gl_9, gl_10, gl_11, gl_12, gl_13, gl_14, gl_15, gl_16, gl_17, sk0i, sk0r, sk0n, sk1i, sk1r, sk1n, sk_2, sk_3, sk_4, sk_5, sk_6, sk_7, sk_8, sk_9, sk_10, sk_11, sk_12, sk_13, sk_14, sk_15, sk_16, sk_17, ls_0, ls_1, ls_2, ls_3, ls_4, ls_5, ls_6, ls_7, ls_8, ls_9, ls_10, ls_11, ls_12, ls_13, ls_14, ls_15, ls_16, ls_17, ct1_i, ct1_r, wd8_0, wd8_i1, wd8_r1, wd8_i2, wd8_r2, wd8_i3, wd8_r3, wd8_i4, wd8_r4, wd8_i5, wd8_r5, wd8_i6, wd8_r6, wd8_i7, wd8_r7, wd8_i8, wd8_r8, wd8_l2, wd8_l3, wd8_l4, wd8_l5, wd8_l6, wd8_l7, wd8_l8, tl_s, tl_n, inR_t, bd_t, true_and, and_true, true_or, or_true, if_true_x, if_false_x, if_pos, if_neg, Int.toNat_natCast, natL, bI_0, bI_1, bI_ft, eq_self, b_tf, b_ft, not_true_eq_false, not_false_eq_true, m_273 hc hw, b', hc.t70, hc.r70_4, hc.r70_5, hc.r70_6, hc.r70_7, hc.r70_8, hc.r70_10, hc.r70_11, hc.r70_12, hc.r70_14, hc.r70_15, hc.r70_16, hc.r70_17, hc.r70_19, hc.r70_21, hc.r70_23, hc.r70_24, hc.r70_26, hc.r70_27, hc.r70_28, hc.r70_29, hc.r70_30, hc.r70_31, hc.r70_32, hc.r70_33, hc.r70_36]
    have q := fin3 h GR.refl z
    exact hq h q.1 q.2
theorem p_274 {r f : Int} (ok : Ok X h) (g : Gd (vm h)) (hq : ∀ h2, Mst X h h2 → mS h2 = mS h → Q (some (vi (spRuns (mS h) r f))) h2) : Cl X 274 [vr 70, vi r, vi f] h Q := by
  obtain ⟨nb, ln, hc, hnb⟩ := ok.2.2.2.2.1
  rw [c_274]
  simp (disch := first | assumption | omega) only [e_274_0, e_274_1, e_274_2, onI_s, onR_s, onL_s, gl_0, gl_n, gl_1, gl_2, gl_3, gl_4, gl_5, gl_6, gl_7, gl_8, gl_9, gl_10, gl_11, gl_12, gl_13, gl_14, gl_15, gl_16, gl_17, sk0i, sk0r, sk0n, sk1i, sk1r, sk1n, sk_2, sk_3, sk_4, sk_5, sk_6, sk_7, sk_8, sk_9, sk_10, sk_11, sk_12, sk_13, sk_14, sk_15, sk_16, sk_17, ls_0, ls_1, ls_2, ls_3, ls_4, ls_5, ls_6, ls_7, ls_8, ls_9, ls_10, ls_11, ls_12, ls_13, ls_14, ls_15, ls_16, ls_17, ct1_i, ct1_r, wd8_0, wd8_i1, wd8_r1, wd8_i2, wd8_r2, wd8_i3, wd8_r3, wd8_i4, wd8_r4, wd8_i5, wd8_r5, wd8_i6, wd8_r6, wd8_i7, wd8_r7, wd8_i8, wd8_r8, wd8_l2, wd8_l3, wd8_l4, wd8_l5, wd8_l6, wd8_l7, wd8_l8, tl_s, tl_n, inR_t, bd_t, true_and, and_true, true_or, or_true, if_true_x, if_false_x, if_pos, if_neg, Int.toNat_natCast, natL, bI_0, bI_1, bI_ft, eq_self, b_tf, b_ft, not_true_eq_false, not_false_eq_true, hc.t70, hc.r70_4, hc.r70_5, hc.r70_6, hc.r70_7, hc.r70_8, hc.r70_10, hc.r70_11, hc.r70_12, hc.r70_14, hc.r70_15, hc.r70_16, hc.r70_17, hc.r70_19, hc.r70_21, hc.r70_23, hc.r70_24, hc.r70_26, hc.r70_27, hc.r70_28, hc.r70_29, hc.r70_30, hc.r70_31, hc.r70_32, hc.r70_33, hc.r70_36]
  exact q_274 (thr_ok ok) (by rw [thr_v]; exact g) (thq (a := fun s => spRuns s r f) ok hq)
end RPM
