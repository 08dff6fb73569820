/-! RUNS of the reference: a site of a run -/
section RSI
variable {X : xL} {Q : Option xV → xH → Prop} {ns nb ln : Nat} {h : xH}
def rsB (v : Nat → Nat → Int) (f : Int) (r s : Nat) : Bool := decide ((r : Int) < v 0 0 ∧ (s : Int) < v 0 1 ∧ own v r s = f)
theorem own_f {v : Nat → Nat → Int} {r s : Nat} (h : ¬ own v r s = -2) : own v r s = lst (ovV v 7 r r s s) (v 6 0).toNat 0 (-1) := by
  unfold own at h ⊢
  by_cases c : anyB (ovV v 2 r r s s) (v 1 0).toNat = true ∨ anyB (fxB v r s) (v 11 0).toNat = true
  · rw [if_pos c] at h
    exact absurd rfl h
  · rw [if_neg c]
set_option maxHeartbeats 4000000 in
theorem m_230 (hc : CT X ns nb ln) (hw : RGv (vm h)) (hb : RBm h) {r s : Nat} {f : Int} (f1 : -1 ≤ f) : Cl X 230 [vr 70, vi r, vi s, vi f] h Q ↔ Q (some (vi (bI (rsB (vm h) f r s)))) h := by
  have ox := own_x hw (r := r) (s := s)
  rw [c_230]
  by_cases i : (r : Int) < vm h 0 0 ∧ (s : Int) < vm h 0 1
  · have d : (decide (0 ≤ (r : Int)) && decide ((r : Int) < vm h 0 0) && decide (0 ≤ (s : Int)) && decide ((s : Int) < vm h 0 1)) = true := by simp [i.1, i.2]
    by_cases e1 : anyB (ovV (vm h) 2 r r s s) (vm h 1 0).toNat = true
    · have o := ox.mpr (Or.inl e1)
      have b : rsB (vm h) f r s = false := decide_eq_false (fun q => by rw [o] at q; omega)
      rw [b]
      simp (disch := first | assumption | omega) only [e_230_0, e_230_1, e_230_2, e_230_3, e_230_4, e_230_5, e_230_6, e_230_7, e_230_8, e_230_9, e_230_26, e_230_27, onI_s, onR_s, onL_s, gl_0, gl_n, gl_1, gl_2, gl_3, gl_4, gl_5, gl_6, gl_7, gl_8, gl_9, gl_10, gl_11, gl_12, gl_13, gl_14, gl_15, gl_16, gl_17, sk0i, sk0r, sk0n, sk1i, sk1r, sk1n, sk_2, sk_3, sk_4, sk_5, sk_6, sk_7, sk_8, sk_9, sk_10, sk_11, sk_12, sk_13, sk_14, sk_15, sk_16, sk_17, ls_0, ls_1, ls_2, ls_3, ls_4, ls_5, ls_6, ls_7, ls_8, ls_9, ls_10, ls_11, ls_12, ls_13, ls_14, ls_15, ls_16, ls_17, ct1_i, ct1_r, wd8_0, wd8_i1, wd8_r1, wd8_i2, wd8_r2, wd8_i3, wd8_r3, wd8_i4, wd8_r4, wd8_i5, wd8_r5, wd8_i6, wd8_r6, wd8_i7, wd8_r7, wd8_i8, wd8_r8, wd8_l2, wd8_l3, wd8_l4, wd8_l5, wd8_l6, wd8_l7, wd8_l8, tl_s, tl_n, inR_t, bd_t, true_and, and_true, true_or, or_true, if_true_x, if_false_x, if_pos, if_neg, Int.toNat_natCast, natL, bI_0, bI_1, bI_ft, eq_self, b_tf, b_ft, not_true_eq_false, not_false_eq_true, m_170 hc hw, m_171 hc hw hb (by omega) i.2, d, e1, hc.t70, hc.r70_4, hc.r70_5, hc.r70_6, hc.r70_7, hc.r70_8, hc.r70_10, hc.r70_11, hc.r70_12, hc.r70_14, hc.r70_15, hc.r70_16, hc.r70_17, hc.r70_19, hc.r70_21, hc.r70_23, hc.r70_24, hc.r70_26, hc.r70_27, hc.r70_28, hc.r70_29, hc.r70_30, hc.r70_31, hc.r70_32, hc.r70_33, hc.r70_36]
      rfl
    · have e1' : anyB (ovV (vm h) 2 r r s s) (vm h 1 0).toNat = false := by simpa using e1
      by_cases e2 : lst (ctB (vm h) r s (-1) 1) (vm h 11 0).toNat 0 (-1) = -1
      · have o : ¬ own (vm h) r s = -2 := fun q => (ox.mp q).elim e1 (fun z => z e2)
        have of := own_f o
        by_cases e3 : lst (ovV (vm h) 7 r r s s) (vm h 6 0).toNat 0 (-1) = f
        · have b : rsB (vm h) f r s = true := decide_eq_true ⟨i.1, i.2, of.trans e3⟩
          rw [b]
          simp (disch := first | assumption | omega) only [e_230_0, e_230_1, e_230_2, e_230_3, e_230_4, e_230_5, e_230_6, e_230_7, e_230_8, e_230_9, e_230_10, e_230_11, e_230_12, e_230_13, e_230_14, e_230_15, e_230_16, e_230_17, e_230_18, e_230_19, e_230_20, e_230_21, e_230_22, e_230_23, e_230_24, e_230_25, e_230_27, onI_s, onR_s, onL_s, gl_0, gl_n, gl_1, gl_2, gl_3, gl_4, gl_5, gl_6, gl_7, gl_8, gl_9, gl_10, gl_11, gl_12, gl_13, gl_14, gl_15, gl_16, gl_17, sk0i, sk0r, sk0n, sk1i, sk1r, sk1n, sk_2, sk_3, sk_4, sk_5, sk_6, sk_7, sk_8, sk_9, sk_10, sk_11, sk_12, sk_13, sk_14, sk_15, sk_16, sk_17, ls_0, ls_1, ls_2, ls_3, ls_4, ls_5, ls_6, ls_7, ls_8, ls_9, ls_10, ls_11, ls_12, ls_13, ls_14, ls_15, ls_16, ls_17, ct1_i, ct1_r, wd8_0, wd8_i1, wd8_r1, wd8_i2, wd8_r2, wd8_i3, wd8_r3, wd8_i4, wd8_r4, wd8_i5, wd8_r5, wd8_i6, wd8_r6, wd8_i7, wd8_r7, wd8_i8, wd8_r8, wd8_l2, wd8_l3, wd8_l4, wd8_l5, wd8_l6, wd8_l7, wd8_l8, tl_s, tl_n, inR_t, bd_t, true_and, and_true, true_or, or_true, if_true_x, if_false_x, if_pos, if_neg, Int.toNat_natCast, natL, bI_0, bI_1, bI_ft, eq_self, b_tf, b_ft, not_true_eq_false, not_false_eq_true, m_170 hc hw, m_171 hc hw hb (by omega) i.2, m_175 hc hw, m_173 hc hw, d, e1', e2, e3, hc.t70, hc.r70_4, hc.r70_5, hc.r70_6, hc.r70_7, hc.r70_8, hc.r70_10, hc.r70_11, hc.r70_12, hc.r70_14, hc.r70_15, hc.r70_16, hc.r70_17, hc.r70_19, hc.r70_21, hc.r70_23, hc.r70_24, hc.r70_26, hc.r70_27, hc.r70_28, hc.r70_29, hc.r70_30, hc.r70_31, hc.r70_32, hc.r70_33, hc.r70_36]
          rfl
        · have b : rsB (vm h) f r s = false := decide_eq_false (fun q => e3 (of.symm.trans q.2.2))
          rw [b]
          simp (disch := first | assumption | omega) only [e_230_0, e_230_1, e_230_2, e_230_3, e_230_4, e_230_5, e_230_6, e_230_7, e_230_8, e_230_9, e_230_10, e_230_11, e_230_12, e_230_13, e_230_14, e_230_15, e_230_16, e_230_17, e_230_18, e_230_19, e_230_20, e_230_21, e_230_22, e_230_23, e_230_26, e_230_27, onI_s, onR_s, onL_s, gl_0, gl_n, gl_1, gl_2, gl_3, gl_4, gl_5, gl_6, gl_7, gl_8, gl_9, gl_10, gl_11, gl_12, gl_13, gl_14, gl_15, gl_16, gl_17, sk0i, sk0r, sk0n, sk1i, sk1r, sk1n, sk_2, sk_3, sk_4, sk_5, sk_6, sk_7, sk_8, sk_9, sk_10, sk_11, sk_12, sk_13, sk_14, sk_15, sk_16, sk_17, ls_0, ls_1, ls_2, ls_3, ls_4, ls_5, ls_6, ls_7, ls_8, ls_9, ls_10, ls_11, ls_12, ls_13, ls_14, ls_15, ls_16, ls_17, ct1_i, ct1_r, wd8_0, wd8_i1, wd8_r1, wd8_i2, wd8_r2, wd8_i3, wd8_r3, wd8_i4, wd8_r4, wd8_i5, wd8_r5, wd8_i6, wd8_r6, wd8_i7, wd8_r7, wd8_i8, wd8_r8, wd8_l2, wd8_l3, wd8_l4, wd8_l5, wd8_l6, wd8_l7, wd8_l8, tl_s, tl_n, inR_t, bd_t, true_and, and_true, true_or, or_true, if_true_x, if_false_x, if_pos, if_neg, Int.toNat_natCast, natL, bI_0, bI_1, bI_ft, eq_self, b_tf, b_ft, not_true_eq_false, not_false_eq_true, m_170 hc hw, m_171 hc hw hb (by omega) i.2, m_175 hc hw, m_173 hc hw, d, e1', e2, e3, hc.t70, hc.r70_4, hc.r70_5, hc.r70_6, hc.r70_7, hc.r70_8, hc.r70_10, hc.r70_11, hc.r70_12, hc.r70_14, hc.r70_15, hc.r70_16, hc.r70_17, hc.r70_19, hc.r70_21, hc.r70_23, hc.r70_24, hc.r70_26, hc.r70_27, hc.r70_28, hc.r70_29, hc.r70_30, hc.r70_31, hc.r70_32, hc.r70_33, hc.r70_36]
          rfl
      · have o := ox.mpr (Or.inr e2)
        have b : rsB (vm h) f r s = false := decide_eq_false (fun q => by rw [o] at q; omega)
        rw [b]
        simp (disch := first | assumption | omega) only [e_230_0, e_230_1, e_230_2, e_230_3, e_230_4, e_230_5, e_230_6, e_230_7, e_230_8, e_230_9, e_230_10, e_230_11, e_230_12, e_230_13, e_230_14, e_230_15, e_230_16, e_230_17, e_230_26, e_230_27, onI_s, onR_s, onL_s, gl_0, gl_n, gl_1, gl_2, gl_3, gl_4, gl_5, gl_6, gl_7, gl_8, gl_9, gl_10, gl_11, gl_12, gl_13, gl_14, gl_15, gl_16, gl_17, sk0i, sk0r, sk0n, sk1i, sk1r, sk1n, sk_2, sk_3, sk_4, sk_5, sk_6, sk_7, sk_8, sk_9, sk_10, sk_11, sk_12, sk_13, sk_14, sk_15, sk_16, sk_17, ls_0, ls_1, ls_2, ls_3, ls_4, ls_5, ls_6, ls_7, ls_8, ls_9, ls_10, ls_11, ls_12, ls_13, ls_14, ls_15, ls_16, ls_17, ct1_i, ct1_r, wd8_0, wd8_i1, wd8_r1, wd8_i2, wd8_r2, wd8_i3, wd8_r3, wd8_i4, wd8_r4, wd8_i5, wd8_r5, wd8_i6, wd8_r6, wd8_i7, wd8_r7, wd8_i8, wd8_r8, wd8_l2, wd8_l3, wd8_l4, wd8_l5, wd8_l6, wd8_l7, wd8_l8, tl_s, tl_n, inR_t, bd_t, true_and, and_true, true_or, or_true, if_true_x, if_false_x, if_pos, if_neg, Int.toNat_natCast, natL, bI_0, bI_1, bI_ft, eq_self, b_tf, b_ft, not_true_eq_false, not_false_eq_true, m_170 hc hw, m_171 hc hw hb (by omega) i.2, m_175 hc hw, d, e1', e2, hc.t70, hc.r70_4, hc.r70_5, hc.r70_6, hc.r70_7, hc.r70_8, hc.r70_10, hc.r70_11, hc.r70_12, hc.r70_14, hc.r70_15, hc.r70_16, hc.r70_17, hc.r70_19, hc.r70_21, hc.r70_23, hc.r70_24, hc.r70_26, hc.r70_27, hc.r70_28, hc.r70_29, hc.r70_30, hc.r70_31, hc.r70_32, hc.r70_33, hc.r70_36]
        rfl
  · have d : (decide (0 ≤ (r : Int)) && decide ((r : Int) < vm h 0 0) && decide (0 ≤ (s : Int)) && decide ((s : Int) < vm h 0 1)) = false := by
      rw [Bool.eq_false_iff]
      intro q
      simp at q
      exact i ⟨q.1, q.2⟩
    have b : rsB (vm h) f r s = false := decide_eq_false (fun q => i ⟨q.1, q.2.1⟩)
    rw [b]
    simp (disch := first | assumption | omega) only [e_230_0, e_230_1, e_230_2, e_230_3, e_230_4, e_230_26, e_230_27, onI_s, onR_s, onL_s, gl_0, gl_n, gl_1, gl_2, gl_3, gl_4, gl_5, gl_6, gl_7, gl_8, gl_9, gl_10, gl_11, gl_12, gl_13, gl_14, gl_15, gl_16, gl_17, sk0i, sk0r, sk0n, sk1i, sk1r, sk1n, sk_2, sk_3, sk_4, sk_5, sk_6, sk_7, sk_8, sk_9, sk_10, sk_11, sk_12, sk_13, sk_14, sk_15, sk_16, sk_17, ls_0, ls_1, ls_2, ls_3, ls_4, ls_5, ls_6, ls_7, ls_8, ls_9, ls_10, ls_11, ls_12, ls_13, ls_14, ls_15, ls_16, ls_17, ct1_i, ct1_r, wd8_0, wd8_i1, wd8_r1, wd8_i2, wd8_r2, wd8_i3, wd8_r3, wd8_i4, wd8_r4, wd8_i5, wd8_r5, wd8_i6, wd8_r6, wd8_i7, wd8_r7, wd8_i8, wd8_r8, wd8_l2, wd8_l3, wd8_l4, wd8_l5, wd8_l6, wd8_l7, wd8_l8, tl_s, tl_n, inR_t, bd_t, true_and, and_true, true_or, or_true, if_true_x, if_false_x, if_pos, if_neg, Int.toNat_natCast, natL, bI_0, bI_1, bI_ft, eq_self, b_tf, b_ft, not_true_eq_false, not_false_eq_true, m_170 hc hw, d, hc.t70, hc.r70_4, hc.r70_5, hc.r70_6, hc.r70_7, hc.r70_8, hc.r70_10, hc.r70_11, hc.r70_12, hc.r70_14, hc.r70_15, hc.r70_16, hc.r70_17, hc.r70_19, hc.r70_21, hc.r70_23, hc.r70_24, hc.r70_26, hc.r70_27, hc.r70_28, hc.r70_29, hc.r70_30, hc.r70_31, hc.r70_32, hc.r70_33, hc.r70_36]
    rfl
end RSI
