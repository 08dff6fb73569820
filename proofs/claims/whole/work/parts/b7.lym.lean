/-! LYING in the reference -/
def GL (h h2 : xH) : Prop := (∀ a, a ≠ 83 → h2.1 a = h.1 a) ∧ (∀ a k, ¬ (a = 70 ∧ k = 20) → h2.2 a k = h.2 a k)
theorem GL.refl {h : xH} : GL h h := ⟨fun _ _ => rfl, fun _ _ _ => rfl⟩
theorem GL.tr {h h2 h3 : xH} (g : GL h h2) (k : GL h2 h3) : GL h h3 := ⟨fun a q => (k.1 a q).trans (g.1 a q), fun a j q => (k.2 a j q).trans (g.2 a j q)⟩
theorem GL.vm {h h2 : xH} (g : GL h h2) : vm h2 = vm h := by
  show rv (h2.1 73) (h2.2 70 2) (h2.2 70 3) = rv (h.1 73) (h.2 70 2) (h.2 70 3)
  rw [g.1 73 (by omega), g.2 70 2 (by decide), g.2 70 3 (by decide)]
def LM (X : xL) (h0 h : xH) (L : List Nat) : Prop := NZ X h ∧ GL h0 h ∧ h.2 70 20 = L.length ∧ R1 (h.1 83) L
section LYM
variable {X : xL} {Q : Option xV → xH → Prop} {ns nb ln : Nat}
theorem LM.snoc (hc : CT X ns nb ln) {h0 h : xH} {L : List Nat} (s : LM X h0 h L) (hn : L.length < 20) {x : Nat} : LM X h0 (up2 h.1 83 L.length x, up2 h.2 70 20 ((L.length : Int) + 1)) (L ++ [x]) := by
  refine ⟨NZ.up (F := h.2) s.1 (by rw [hc.z83]; exact hn), ⟨fun b q => ?_, fun b k q => ?_⟩, ?_, ?_⟩
  · dsimp only
    rw [up2_of q]
    exact s.2.1.1 b q
  · dsimp only
    rw [up2_eq, if_neg q]
    exact s.2.1.2 b k q
  · dsimp only
    rw [up2_self]
    simp
  · exact R1.snoc s.2.2.2 (fun k => by dsimp only; rw [up2_same])
set_option maxHeartbeats 8000000 in
theorem m_233 (hc : CT X ns nb ln) {h0 : xH} {v : Nat → Nat → Int} (ev : vm h0 = v) (w : RGv v) (z : NZ X h0) {k r a n : Nat} (hk : k < 256) (h79 : h0.1 79 k = r) (h81 : h0.1 81 k = a) (h82 : h0.1 82 k = n) (a32 : a + n ≤ 32) (hT : (lyL v r n a).length ≤ 20) (hq : ∀ h2, LM X h0 h2 (lyL v r n a) → Q none h2) : Cl X 233 [vr 70, vi k] h0 Q := by
  have nC := w.nC
  have lp : ∀ (m s : Nat) (L : List Nat) (h : xH) (x3 : Option xV), s + m = a + n → LM X h0 h L → L ++ lyL v r m s = lyL v r n a → Ev X 233 8 [some (vr 70), some (vi k), some (vi s), x3] [] h Q := by
    intro m
    induction m with
    | zero =>
      intro s L h x3 hm l eL
      have e81 : h.1 81 k = a := by rw [l.2.1.1 81 (by decide)]; exact h81
      have e82 : h.1 82 k = n := by rw [l.2.1.1 82 (by decide)]; exact h82
      rw [e_233_8]
      simp (disch := first | assumption | omega) only [e_233_9, e_233_10, e_233_11, e_233_12, e_233_13, e_233_14, e_233_15, e_233_16, e_233_17, e_233_18, e_233_55, onI_s, onR_s, onL_s, gl_0, gl_n, gl_1, gl_2, gl_3, gl_4, gl_5, gl_6, gl_7, gl_8, gl_9, gl_10, gl_11, gl_12, gl_13, gl_14, gl_15, gl_16, gl_17, sk0i, sk0r, sk0n, sk1i, sk1r, sk1n, sk_2, sk_3, sk_4, sk_5, sk_6, sk_7, sk_8, sk_9, sk_10, sk_11, sk_12, sk_13, sk_14, sk_15, sk_16, sk_17, ls_0, ls_1, ls_2, ls_3, ls_4, ls_5, ls_6, ls_7, ls_8, ls_9, ls_10, ls_11, ls_12, ls_13, ls_14, ls_15, ls_16, ls_17, ct1_i, ct1_r, wd8_0, wd8_i1, wd8_r1, wd8_i2, wd8_r2, wd8_i3, wd8_r3, wd8_i4, wd8_r4, wd8_i5, wd8_r5, wd8_i6, wd8_r6, wd8_i7, wd8_r7, wd8_i8, wd8_r8, wd8_l2, wd8_l3, wd8_l4, wd8_l5, wd8_l6, wd8_l7, wd8_l8, tl_s, tl_n, inR_t, bd_t, true_and, and_true, true_or, or_true, if_true_x, if_false_x, if_pos, if_neg, Int.toNat_natCast, natL, bI_0, bI_1, bI_ft, eq_self, b_tf, b_ft, not_true_eq_false, not_false_eq_true, e81, e82, hc.t70, hc.r70_4, hc.r70_5, hc.r70_6, hc.r70_7, hc.r70_8, hc.r70_10, hc.r70_11, hc.r70_12, hc.r70_14, hc.r70_15, hc.r70_16, hc.r70_17, hc.r70_19, hc.r70_21, hc.r70_23, hc.r70_24, hc.r70_26, hc.r70_27, hc.r70_28, hc.r70_29, hc.r70_30, hc.r70_31, hc.r70_32, hc.r70_33, hc.r70_36, hc.t81, hc.z81, hc.t82, hc.z82]
      rw [lyL, List.append_nil] at eL
      exact hq h (by rw [← eL]; exact l)
    | succ m ih =>
      intro s L h x3 hm l eL
      have evh : vm h = v := l.2.1.vm.trans ev
      have wh : RGv (vm h) := by rw [evh]; exact w
      have e79 : h.1 79 k = r := by rw [l.2.1.1 79 (by decide)]; exact h79
      have e81 : h.1 81 k = a := by rw [l.2.1.1 81 (by decide)]; exact h81
      have e82 : h.1 82 k = n := by rw [l.2.1.1 82 (by decide)]; exact h82
      rw [e_233_8]
      rw [lyL] at eL
      by_cases e1 : lst (ctB v r s (-1) 0) (v 11 0).toNat 0 (-1) = -1
      · rw [if_neg (fun q => q.1 e1)] at eL
        simp (disch := first | assumption | omega) only [e_233_9, e_233_10, e_233_11, e_233_12, e_233_13, e_233_14, e_233_15, e_233_16, e_233_17, e_233_18, e_233_19, e_233_20, e_233_21, e_233_22, e_233_23, e_233_24, e_233_25, e_233_26, e_233_27, e_233_28, e_233_29, e_233_30, e_233_31, e_233_53, e_233_54, onI_s, onR_s, onL_s, gl_0, gl_n, gl_1, gl_2, gl_3, gl_4, gl_5, gl_6, gl_7, gl_8, gl_9, gl_10, gl_11, gl_12, gl_13, gl_14, gl_15, gl_16, gl_17, sk0i, sk0r, sk0n, sk1i, sk1r, sk1n, sk_2, sk_3, sk_4, sk_5, sk_6, sk_7, sk_8, sk_9, sk_10, sk_11, sk_12, sk_13, sk_14, sk_15, sk_16, sk_17, ls_0, ls_1, ls_2, ls_3, ls_4, ls_5, ls_6, ls_7, ls_8, ls_9, ls_10, ls_11, ls_12, ls_13, ls_14, ls_15, ls_16, ls_17, ct1_i, ct1_r, wd8_0, wd8_i1, wd8_r1, wd8_i2, wd8_r2, wd8_i3, wd8_r3, wd8_i4, wd8_r4, wd8_i5, wd8_r5, wd8_i6, wd8_r6, wd8_i7, wd8_r7, wd8_i8, wd8_r8, wd8_l2, wd8_l3, wd8_l4, wd8_l5, wd8_l6, wd8_l7, wd8_l8, tl_s, tl_n, inR_t, bd_t, true_and, and_true, true_or, or_true, if_true_x, if_false_x, if_pos, if_neg, Int.toNat_natCast, natL, bI_0, bI_1, bI_ft, eq_self, b_tf, b_ft, not_true_eq_false, not_false_eq_true, e79, e81, e82, m_175 hc wh, evh, e1, cast_s, hc.t70, hc.r70_4, hc.r70_5, hc.r70_6, hc.r70_7, hc.r70_8, hc.r70_10, hc.r70_11, hc.r70_12, hc.r70_14, hc.r70_15, hc.r70_16, hc.r70_17, hc.r70_19, hc.r70_21, hc.r70_23, hc.r70_24, hc.r70_26, hc.r70_27, hc.r70_28, hc.r70_29, hc.r70_30, hc.r70_31, hc.r70_32, hc.r70_33, hc.r70_36, hc.t79, hc.z79, hc.t81, hc.z81, hc.t82, hc.z82]
        exact ih (s + 1) L h _ (by omega) l eL
      · obtain ⟨c, c1, c2, c3, c4, c5⟩ := ct_at e1
        have c20 : c < 20 := by omega
        rw [c1] at e1 eL
        rw [Int.toNat_natCast] at eL
        by_cases e2 : v 18 c = s
        · rw [if_pos ⟨e1, e2⟩] at eL
          have hn : L.length < 20 := by
            have := congrArg List.length eL
            simp at this
            omega
          have ln0 := l.2.2.1
          simp (disch := first | assumption | omega) only [e_233_9, e_233_10, e_233_11, e_233_12, e_233_13, e_233_14, e_233_15, e_233_16, e_233_17, e_233_18, e_233_19, e_233_20, e_233_21, e_233_22, e_233_23, e_233_24, e_233_25, e_233_26, e_233_27, e_233_28, e_233_29, e_233_30, e_233_31, e_233_32, e_233_33, e_233_34, e_233_35, e_233_36, e_233_37, e_233_38, e_233_39, e_233_40, e_233_41, e_233_42, e_233_43, e_233_44, e_233_45, e_233_46, e_233_47, e_233_48, e_233_49, e_233_50, e_233_51, e_233_52, onI_s, onR_s, onL_s, gl_0, gl_n, gl_1, gl_2, gl_3, gl_4, gl_5, gl_6, gl_7, gl_8, gl_9, gl_10, gl_11, gl_12, gl_13, gl_14, gl_15, gl_16, gl_17, sk0i, sk0r, sk0n, sk1i, sk1r, sk1n, sk_2, sk_3, sk_4, sk_5, sk_6, sk_7, sk_8, sk_9, sk_10, sk_11, sk_12, sk_13, sk_14, sk_15, sk_16, sk_17, ls_0, ls_1, ls_2, ls_3, ls_4, ls_5, ls_6, ls_7, ls_8, ls_9, ls_10, ls_11, ls_12, ls_13, ls_14, ls_15, ls_16, ls_17, ct1_i, ct1_r, wd8_0, wd8_i1, wd8_r1, wd8_i2, wd8_r2, wd8_i3, wd8_r3, wd8_i4, wd8_r4, wd8_i5, wd8_r5, wd8_i6, wd8_r6, wd8_i7, wd8_r7, wd8_i8, wd8_r8, wd8_l2, wd8_l3, wd8_l4, wd8_l5, wd8_l6, wd8_l7, wd8_l8, tl_s, tl_n, inR_t, bd_t, true_and, and_true, true_or, or_true, if_true_x, if_false_x, if_pos, if_neg, Int.toNat_natCast, natL, bI_0, bI_1, bI_ft, eq_self, b_tf, b_ft, not_true_eq_false, not_false_eq_true, e79, e81, e82, m_175 hc wh, evh, c1, e1, m_158, vm_18, e2, ln0, hc.t70, hc.r70_4, hc.r70_5, hc.r70_6, hc.r70_7, hc.r70_8, hc.r70_10, hc.r70_11, hc.r70_12, hc.r70_14, hc.r70_15, hc.r70_16, hc.r70_17, hc.r70_19, hc.r70_21, hc.r70_23, hc.r70_24, hc.r70_26, hc.r70_27, hc.r70_28, hc.r70_29, hc.r70_30, hc.r70_31, hc.r70_32, hc.r70_33, hc.r70_36, hc.t73, hc.z73, hc.t79, hc.z79, hc.t81, hc.z81, hc.t82, hc.z82, hc.t83, hc.z83]
          rw [e_233_53]
          simp (disch := first | assumption | omega) only [e_233_54, onI_s, onR_s, onL_s, gl_0, gl_n, gl_1, gl_2, gl_3, gl_4, gl_5, gl_6, gl_7, gl_8, gl_9, gl_10, gl_11, gl_12, gl_13, gl_14, gl_15, gl_16, gl_17, sk0i, sk0r, sk0n, sk1i, sk1r, sk1n, sk_2, sk_3, sk_4, sk_5, sk_6, sk_7, sk_8, sk_9, sk_10, sk_11, sk_12, sk_13, sk_14, sk_15, sk_16, sk_17, ls_0, ls_1, ls_2, ls_3, ls_4, ls_5, ls_6, ls_7, ls_8, ls_9, ls_10, ls_11, ls_12, ls_13, ls_14, ls_15, ls_16, ls_17, ct1_i, ct1_r, wd8_0, wd8_i1, wd8_r1, wd8_i2, wd8_r2, wd8_i3, wd8_r3, wd8_i4, wd8_r4, wd8_i5, wd8_r5, wd8_i6, wd8_r6, wd8_i7, wd8_r7, wd8_i8, wd8_r8, wd8_l2, wd8_l3, wd8_l4, wd8_l5, wd8_l6, wd8_l7, wd8_l8, tl_s, tl_n, inR_t, bd_t, true_and, and_true, true_or, or_true, if_true_x, if_false_x, if_pos, if_neg, Int.toNat_natCast, natL, bI_0, bI_1, bI_ft, eq_self, b_tf, b_ft, not_true_eq_false, not_false_eq_true, cast_s]
          refine ih (s + 1) (L ++ [c]) _ _ (by omega) (LM.snoc hc l hn) ?_
          rw [← eL, List.append_assoc]
          rfl
        · rw [if_neg (fun q => e2 q.2)] at eL
          simp (disch := first | assumption | omega) only [e_233_9, e_233_10, e_233_11, e_233_12, e_233_13, e_233_14, e_233_15, e_233_16, e_233_17, e_233_18, e_233_19, e_233_20, e_233_21, e_233_22, e_233_23, e_233_24, e_233_25, e_233_26, e_233_27, e_233_28, e_233_29, e_233_30, e_233_31, e_233_32, e_233_33, e_233_34, e_233_35, e_233_36, e_233_37, e_233_38, e_233_39, e_233_40, e_233_53, e_233_54, onI_s, onR_s, onL_s, gl_0, gl_n, gl_1, gl_2, gl_3, gl_4, gl_5, gl_6, gl_7, gl_8, gl_9, gl_10, gl_11, gl_12, gl_13, gl_14, gl_15, gl_16, gl_17, sk0i, sk0r, sk0n, sk1i, sk1r, sk1n, sk_2, sk_3, sk_4, sk_5, sk_6, sk_7, sk_8, sk_9, sk_10, sk_11, sk_12, sk_13, sk_14, sk_15, sk_16, sk_17, ls_0, ls_1, ls_2, ls_3, ls_4, ls_5, ls_6, ls_7, ls_8, ls_9, ls_10, ls_11, ls_12, ls_13, ls_14, ls_15, ls_16, ls_17, ct1_i, ct1_r, wd8_0, wd8_i1, wd8_r1, wd8_i2, wd8_r2, wd8_i3, wd8_r3, wd8_i4, wd8_r4, wd8_i5, wd8_r5, wd8_i6, wd8_r6, wd8_i7, wd8_r7, wd8_i8, wd8_r8, wd8_l2, wd8_l3, wd8_l4, wd8_l5, wd8_l6, wd8_l7, wd8_l8, tl_s, tl_n, inR_t, bd_t, true_and, and_true, true_or, or_true, if_true_x, if_false_x, if_pos, if_neg, Int.toNat_natCast, natL, bI_0, bI_1, bI_ft, eq_self, b_tf, b_ft, not_true_eq_false, not_false_eq_true, e79, e81, e82, m_175 hc wh, evh, c1, e1, m_158, vm_18, e2, cast_s, hc.t70, hc.r70_4, hc.r70_5, hc.r70_6, hc.r70_7, hc.r70_8, hc.r70_10, hc.r70_11, hc.r70_12, hc.r70_14, hc.r70_15, hc.r70_16, hc.r70_17, hc.r70_19, hc.r70_21, hc.r70_23, hc.r70_24, hc.r70_26, hc.r70_27, hc.r70_28, hc.r70_29, hc.r70_30, hc.r70_31, hc.r70_32, hc.r70_33, hc.r70_36, hc.t73, hc.z73, hc.t79, hc.z79, hc.t81, hc.z81, hc.t82, hc.z82, hc.t83, hc.z83]
          exact ih (s + 1) L h _ (by omega) l eL
  rw [c_233]
  simp (disch := first | assumption | omega) only [e_233_0, e_233_1, e_233_2, e_233_3, e_233_4, e_233_5, e_233_6, e_233_7, onI_s, onR_s, onL_s, gl_0, gl_n, gl_1, gl_2, gl_3, gl_4, gl_5, gl_6, gl_7, gl_8, gl_9, gl_10, gl_11, gl_12, gl_13, gl_14, gl_15, gl_16, gl_17, sk0i, sk0r, sk0n, sk1i, sk1r, sk1n, sk_2, sk_3, sk_4, sk_5, sk_6, sk_7, sk_8, sk_9, sk_10, sk_11, sk_12, sk_13, sk_14, sk_15, sk_16, sk_17, ls_0, ls_1, ls_2, ls_3, ls_4, ls_5, ls_6, ls_7, ls_8, ls_9, ls_10, ls_11, ls_12, ls_13, ls_14, ls_15, ls_16, ls_17, ct1_i, ct1_r, wd8_0, wd8_i1, wd8_r1, wd8_i2, wd8_r2, wd8_i3, wd8_r3, wd8_i4, wd8_r4, wd8_i5, wd8_r5, wd8_i6, wd8_r6, wd8_i7, wd8_r7, wd8_i8, wd8_r8, wd8_l2, wd8_l3, wd8_l4, wd8_l5, wd8_l6, wd8_l7, wd8_l8, tl_s, tl_n, inR_t, bd_t, true_and, and_true, true_or, or_true, if_true_x, if_false_x, if_pos, if_neg, Int.toNat_natCast, natL, bI_0, bI_1, bI_ft, eq_self, b_tf, b_ft, not_true_eq_false, not_false_eq_true, h81, hc.t70, hc.r70_4, hc.r70_5, hc.r70_6, hc.r70_7, hc.r70_8, hc.r70_10, hc.r70_11, hc.r70_12, hc.r70_14, hc.r70_15, hc.r70_16, hc.r70_17, hc.r70_19, hc.r70_21, hc.r70_23, hc.r70_24, hc.r70_26, hc.r70_27, hc.r70_28, hc.r70_29, hc.r70_30, hc.r70_31, hc.r70_32, hc.r70_33, hc.r70_36, hc.t81, hc.z81]
  refine lp n a [] _ none (by omega) ⟨z, ⟨fun _ _ => rfl, fun b k q => ?_⟩, ?_, R1.nil⟩ rfl
  · dsimp only
    rw [up2_eq, if_neg q]
  · dsimp only
    rw [up2_self]
    rfl
end LYM
