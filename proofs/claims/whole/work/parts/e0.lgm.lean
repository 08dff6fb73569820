/-! LEGAL, LAWFULLY of the reference -/
section LGM
variable {X : xL} {Q : Option xV → xH → Prop} {ns nb ln b : Nat} {h : xH}
theorem cp_eq {f g : Nat → Int} (hf : ∀ i, 400 ≤ i → f i = 0) (hg : ∀ i, 400 ≤ i → g i = 0) : cpS f g 0 0 400 = f := by
  funext i
  by_cases e : i < 400
  · exact cpS_i e
  · unfold cpS
    rw [if_neg (by omega), hg i (by omega), hf i (by omega)]
theorem NZ.r73 (hc : CT X ns nb ln) (z : NZ X h) : ∀ i, 400 ≤ i → h.1 73 i = 0 := fun i hi => z 73 i (Or.inl hc.t73) (by rw [hc.z73]; exact hi)
theorem NZ.r76 (hc : CT X ns nb ln) (z : NZ X h) : ∀ i, 400 ≤ i → h.1 76 i = 0 := fun i hi => z 76 i (Or.inl hc.t76) (by rw [hc.z76]; exact hi)
theorem NZ.r77 (hc : CT X ns nb ln) (z : NZ X h) : ∀ i, 400 ≤ i → h.1 77 i = 0 := fun i hi => z 77 i (Or.inl hc.t77) (by rw [hc.z77]; exact hi)
theorem vm_r {I I2 F : Nat → Nat → Int} (e : I 73 = I2 73) : vm (I, F) = vm (I2, F) := by
  show rv (I 73) (F 70 2) (F 70 3) = rv (I2 73) (F 70 2) (F 70 3)
  rw [e]
set_option maxHeartbeats 8000000 in
theorem q_244 (ok : Ok X h) (g : Gd (vm h)) (tm : TMb (h.1 72)) (rf : RFb (h.1 71)) (hq : ∀ h2, Mst X h h2 → mS h2 = (spLegal (mS h)).2 → Q (some (vi (spLegal (mS h)).1)) h2) : Ev X 244 3 [some (vr 70), none] [] h Q := by
  have ok0 := ok
  obtain ⟨z, os, oc, om, ⟨nb, ln, hc, hnb⟩, lp⟩ := ok
  have hw := g.rg
  unfold spLegal at hq
  rw [show (mS h).1 = vm h from rfl, show (mS h).2.1 = h.1 72 from rfl] at hq
  simp (disch := first | assumption | omega) only [e_244_3, e_244_4, e_244_5, e_244_6, e_244_7, e_244_8, e_244_9, onI_s, onR_s, onL_s, gl_0, gl_n, gl_1, gl_2, gl_3, gl_4, gl_5, gl_6, gl_7, gl_8, gl_9, gl_10, gl_11, gl_12, gl_13, gl_14, gl_15, gl_16, gl_17, sk0i, sk0r, sk0n, sk1i, sk1r, sk1n, sk_2, sk_3, sk_4, sk_5, sk_6, sk_7, sk_8, sk_9, sk_10, sk_11, sk_12, sk_13, sk_14, sk_15, sk_16, sk_17, ls_0, ls_1, ls_2, ls_3, ls_4, ls_5, ls_6, ls_7, ls_8, ls_9, ls_10, ls_11, ls_12, ls_13, ls_14, ls_15, ls_16, ls_17, ct1_i, ct1_r, wd8_0, wd8_i1, wd8_r1, wd8_i2, wd8_r2, wd8_i3, wd8_r3, wd8_i4, wd8_r4, wd8_i5, wd8_r5, wd8_i6, wd8_r6, wd8_i7, wd8_r7, wd8_i8, wd8_r8, wd8_l2, wd8_l3, wd8_l4, wd8_l5, wd8_l6, wd8_l7, wd8_l8, tl_s, tl_n, inR_t, bd_t, true_and, and_true, true_or, or_true, if_true_x, if_false_x, if_pos, if_neg, Int.toNat_natCast, natL, bI_0, bI_1, bI_ft, eq_self, b_tf, b_ft, not_true_eq_false, not_false_eq_true, m_155_73_76 hc, tn_0, hc.t70, hc.r70_4, hc.r70_5, hc.r70_6, hc.r70_7, hc.r70_8, hc.r70_10, hc.r70_11, hc.r70_12, hc.r70_14, hc.r70_15, hc.r70_16, hc.r70_17, hc.r70_19, hc.r70_21, hc.r70_23, hc.r70_24, hc.r70_26, hc.r70_27, hc.r70_28, hc.r70_29, hc.r70_30, hc.r70_31, hc.r70_32, hc.r70_33, hc.r70_36]
  have c1 := cp_eq (z.r73 hc) (z.r76 hc)
  rw [c1]
  obtain ⟨h1, e1⟩ : ∃ h1 : xH, h1 = (up1 h.1 76 (h.1 73), h.2) := ⟨_, rfl⟩
  rw [← e1]
  have f1 : Fm X h h1 := by rw [e1]; exact Fm.I1 (I := h.1) (F := h.2) (Fm.refl ok0) (by omega) (fun j hj => z.r73 hc j (by rw [hc.z76] at hj; exact hj))
  have r1 : h1.1 73 = h.1 73 := by rw [e1]; dsimp only; rw [up1_o (by omega)]
  have k1 : h1.1 76 = h.1 73 := by rw [e1]; dsimp only; rw [up1_self]
  have ev1 : vm h1 = vm h := by rw [e1]; exact vm_o1 (by omega)
  have t1 : h1.1 72 = h.1 72 := f1.t
  simp (disch := first | assumption | omega) only [e_244_10, onI_s, onR_s, onL_s, gl_0, gl_n, gl_1, gl_2, gl_3, gl_4, gl_5, gl_6, gl_7, gl_8, gl_9, gl_10, gl_11, gl_12, gl_13, gl_14, gl_15, gl_16, gl_17, sk0i, sk0r, sk0n, sk1i, sk1r, sk1n, sk_2, sk_3, sk_4, sk_5, sk_6, sk_7, sk_8, sk_9, sk_10, sk_11, sk_12, sk_13, sk_14, sk_15, sk_16, sk_17, ls_0, ls_1, ls_2, ls_3, ls_4, ls_5, ls_6, ls_7, ls_8, ls_9, ls_10, ls_11, ls_12, ls_13, ls_14, ls_15, ls_16, ls_17, ct1_i, ct1_r, wd8_0, wd8_i1, wd8_r1, wd8_i2, wd8_r2, wd8_i3, wd8_r3, wd8_i4, wd8_r4, wd8_i5, wd8_r5, wd8_i6, wd8_r6, wd8_i7, wd8_r7, wd8_i8, wd8_r8, wd8_l2, wd8_l3, wd8_l4, wd8_l5, wd8_l6, wd8_l7, wd8_l8, tl_s, tl_n, inR_t, bd_t, true_and, and_true, true_or, or_true, if_true_x, if_false_x, if_pos, if_neg, Int.toNat_natCast, natL, bI_0, bI_1, bI_ft, eq_self, b_tf, b_ft, not_true_eq_false, not_false_eq_true]
  (rw [e_244_11]; refine ⟨⟨hc.t70, by simp [wd_i, wd_r, wd_l, wd_0]⟩, ?_⟩)
  refine m_242 hc ev1 g (by rw [r1]; exact om.2.1) f1.1 (by rw [t1]; exact tm) (fun e h2 u s2 => ?_) (fun u e h2 s2 sj wu => ?_)
  · rw [t1] at e
    rw [e] at hq
    have k2 : h2.1 76 = h.1 73 := by rw [s2.2.1.1 76 (by omega) (by omega)]; exact k1
    have f2 : Fm X h h2 := f1.tr (s2.2.1.fm s2.1 s2.2.2.2)
    have c2 := cp_eq (s2.1.r76 hc) (s2.1.r73 hc)
    rw [k2] at c2
    simp (disch := first | assumption | omega) only [e_244_12, e_244_13, e_244_14, e_244_15, e_244_16, e_244_17, e_244_18, e_244_19, onI_s, onR_s, onL_s, gl_0, gl_n, gl_1, gl_2, gl_3, gl_4, gl_5, gl_6, gl_7, gl_8, gl_9, gl_10, gl_11, gl_12, gl_13, gl_14, gl_15, gl_16, gl_17, sk0i, sk0r, sk0n, sk1i, sk1r, sk1n, sk_2, sk_3, sk_4, sk_5, sk_6, sk_7, sk_8, sk_9, sk_10, sk_11, sk_12, sk_13, sk_14, sk_15, sk_16, sk_17, ls_0, ls_1, ls_2, ls_3, ls_4, ls_5, ls_6, ls_7, ls_8, ls_9, ls_10, ls_11, ls_12, ls_13, ls_14, ls_15, ls_16, ls_17, ct1_i, ct1_r, wd8_0, wd8_i1, wd8_r1, wd8_i2, wd8_r2, wd8_i3, wd8_r3, wd8_i4, wd8_r4, wd8_i5, wd8_r5, wd8_i6, wd8_r6, wd8_i7, wd8_r7, wd8_i8, wd8_r8, wd8_l2, wd8_l3, wd8_l4, wd8_l5, wd8_l6, wd8_l7, wd8_l8, tl_s, tl_n, inR_t, bd_t, true_and, and_true, true_or, or_true, if_true_x, if_false_x, if_pos, if_neg, Int.toNat_natCast, natL, bI_0, bI_1, bI_ft, eq_self, b_tf, b_ft, not_true_eq_false, not_false_eq_true, m_155_76_73 hc, tn_0, k2, c2, hc.t70, hc.r70_4, hc.r70_5, hc.r70_6, hc.r70_7, hc.r70_8, hc.r70_10, hc.r70_11, hc.r70_12, hc.r70_14, hc.r70_15, hc.r70_16, hc.r70_17, hc.r70_19, hc.r70_21, hc.r70_23, hc.r70_24, hc.r70_26, hc.r70_27, hc.r70_28, hc.r70_29, hc.r70_30, hc.r70_31, hc.r70_32, hc.r70_33, hc.r70_36]
    obtain ⟨h3, e3⟩ : ∃ h3 : xH, h3 = (up1 h2.1 73 (h.1 73), h2.2) := ⟨_, rfl⟩
    rw [← e3]
    have f3 : Fm X h h3 := by rw [e3]; exact Fm.R73 (I := h2.1) (F := h2.2) f2 (fun j hj => z.r73 hc j (by rw [hc.z73] at hj; exact hj)) om.2.1
    have ev3 : vm h3 = vm h := by
      show rv (h3.1 73) (h3.2 70 2) (h3.2 70 3) = rv (h.1 73) (h.2 70 2) (h.2 70 3)
      rw [f3.2.2.2.1 2 (by omega), f3.2.2.2.1 3 (by omega), e3]
      dsimp only
      rw [up1_self]
    have ok3 : Ok X h3 := f3.ok ok0
    have ms3 : mS h3 = mS h := by rw [f3.ms, ev3]; rfl
    have rf3 : RFb (h3.1 71) := by rw [f3.2.2.1 71 (by omega)]; exact rf
    have st := rM_st ok3 rf3 (x := -5) (by omega) (by omega)
    simp (disch := first | assumption | omega) only [e_244_20, e_244_21, e_244_22, e_244_23, onI_s, onR_s, onL_s, gl_0, gl_n, gl_1, gl_2, gl_3, gl_4, gl_5, gl_6, gl_7, gl_8, gl_9, gl_10, gl_11, gl_12, gl_13, gl_14, gl_15, gl_16, gl_17, sk0i, sk0r, sk0n, sk1i, sk1r, sk1n, sk_2, sk_3, sk_4, sk_5, sk_6, sk_7, sk_8, sk_9, sk_10, sk_11, sk_12, sk_13, sk_14, sk_15, sk_16, sk_17, ls_0, ls_1, ls_2, ls_3, ls_4, ls_5, ls_6, ls_7, ls_8, ls_9, ls_10, ls_11, ls_12, ls_13, ls_14, ls_15, ls_16, ls_17, ct1_i, ct1_r, wd8_0, wd8_i1, wd8_r1, wd8_i2, wd8_r2, wd8_i3, wd8_r3, wd8_i4, wd8_r4, wd8_i5, wd8_r5, wd8_i6, wd8_r6, wd8_i7, wd8_r7, wd8_i8, wd8_r8, wd8_l2, wd8_l3, wd8_l4, wd8_l5, wd8_l6, wd8_l7, wd8_l8, tl_s, tl_n, inR_t, bd_t, true_and, and_true, true_or, or_true, if_true_x, if_false_x, if_pos, if_neg, Int.toNat_natCast, natL, bI_0, bI_1, bI_ft, eq_self, b_tf, b_ft, not_true_eq_false, not_false_eq_true, rfM ok3 rf3, hc.t70, hc.r70_4, hc.r70_5, hc.r70_6, hc.r70_7, hc.r70_8, hc.r70_10, hc.r70_11, hc.r70_12, hc.r70_14, hc.r70_15, hc.r70_16, hc.r70_17, hc.r70_19, hc.r70_21, hc.r70_23, hc.r70_24, hc.r70_26, hc.r70_27, hc.r70_28, hc.r70_29, hc.r70_30, hc.r70_31, hc.r70_32, hc.r70_33, hc.r70_36]
    refine hq _ ((f3.mst ok0).tr st.1) ?_
    rw [st.2, ms3]
  · rw [t1] at e
    have fx := mkV_fx g.geo sj e
    rw [e] at hq
    dsimp only at hq
    have k2 : h2.1 76 = h.1 73 := by rw [s2.2.1.1 76 (by omega) (by omega)]; exact k1
    have f2 : Fm X h h2 := f1.tr (s2.2.1.fm s2.1 s2.2.2.2)
    have t2 : h2.1 72 = h.1 72 := f2.t
    have c2 := cp_eq (s2.1.r73 hc) (s2.1.r77 hc)
    simp (disch := first | assumption | omega) only [e_244_12, e_244_24, e_244_25, e_244_26, e_244_27, e_244_28, e_244_29, e_244_30, e_244_31, e_244_32, e_244_33, onI_s, onR_s, onL_s, gl_0, gl_n, gl_1, gl_2, gl_3, gl_4, gl_5, gl_6, gl_7, gl_8, gl_9, gl_10, gl_11, gl_12, gl_13, gl_14, gl_15, gl_16, gl_17, sk0i, sk0r, sk0n, sk1i, sk1r, sk1n, sk_2, sk_3, sk_4, sk_5, sk_6, sk_7, sk_8, sk_9, sk_10, sk_11, sk_12, sk_13, sk_14, sk_15, sk_16, sk_17, ls_0, ls_1, ls_2, ls_3, ls_4, ls_5, ls_6, ls_7, ls_8, ls_9, ls_10, ls_11, ls_12, ls_13, ls_14, ls_15, ls_16, ls_17, ct1_i, ct1_r, wd8_0, wd8_i1, wd8_r1, wd8_i2, wd8_r2, wd8_i3, wd8_r3, wd8_i4, wd8_r4, wd8_i5, wd8_r5, wd8_i6, wd8_r6, wd8_i7, wd8_r7, wd8_i8, wd8_r8, wd8_l2, wd8_l3, wd8_l4, wd8_l5, wd8_l6, wd8_l7, wd8_l8, tl_s, tl_n, inR_t, bd_t, true_and, and_true, true_or, or_true, if_true_x, if_false_x, if_pos, if_neg, Int.toNat_natCast, natL, bI_0, bI_1, bI_ft, eq_self, b_tf, b_ft, not_true_eq_false, not_false_eq_true, m_243u hc s2.2.2.1 wu fx (show TMb (h2.1 72) by rw [t2]; exact tm), t2, m_155_73_77 hc, tn_0, c2, hc.t70, hc.r70_4, hc.r70_5, hc.r70_6, hc.r70_7, hc.r70_8, hc.r70_10, hc.r70_11, hc.r70_12, hc.r70_14, hc.r70_15, hc.r70_16, hc.r70_17, hc.r70_19, hc.r70_21, hc.r70_23, hc.r70_24, hc.r70_26, hc.r70_27, hc.r70_28, hc.r70_29, hc.r70_30, hc.r70_31, hc.r70_32, hc.r70_33, hc.r70_36]
    obtain ⟨h3, e3⟩ : ∃ h3 : xH, h3 = (up1 h2.1 77 (h2.1 73), h2.2) := ⟨_, rfl⟩
    rw [← e3]
    have f3 : Fm X h h3 := by rw [e3]; exact Fm.I1 (I := h2.1) (F := h2.2) f2 (by omega) (fun j hj => s2.1.r73 hc j (by rw [hc.z77] at hj; exact hj))
    have k3 : h3.1 76 = h.1 73 := by rw [e3]; dsimp only; rw [up1_o (by omega)]; exact k2
    have l3 : h3.1 77 = h2.1 73 := by rw [e3]; dsimp only; rw [up1_self]
    have c3 := cp_eq (f3.1.r76 hc) (f3.1.r73 hc)
    rw [k3] at c3
    simp (disch := first | assumption | omega) only [e_244_34, e_244_35, e_244_36, e_244_37, e_244_38, e_244_39, e_244_40, onI_s, onR_s, onL_s, gl_0, gl_n, gl_1, gl_2, gl_3, gl_4, gl_5, gl_6, gl_7, gl_8, gl_9, gl_10, gl_11, gl_12, gl_13, gl_14, gl_15, gl_16, gl_17, sk0i, sk0r, sk0n, sk1i, sk1r, sk1n, sk_2, sk_3, sk_4, sk_5, sk_6, sk_7, sk_8, sk_9, sk_10, sk_11, sk_12, sk_13, sk_14, sk_15, sk_16, sk_17, ls_0, ls_1, ls_2, ls_3, ls_4, ls_5, ls_6, ls_7, ls_8, ls_9, ls_10, ls_11, ls_12, ls_13, ls_14, ls_15, ls_16, ls_17, ct1_i, ct1_r, wd8_0, wd8_i1, wd8_r1, wd8_i2, wd8_r2, wd8_i3, wd8_r3, wd8_i4, wd8_r4, wd8_i5, wd8_r5, wd8_i6, wd8_r6, wd8_i7, wd8_r7, wd8_i8, wd8_r8, wd8_l2, wd8_l3, wd8_l4, wd8_l5, wd8_l6, wd8_l7, wd8_l8, tl_s, tl_n, inR_t, bd_t, true_and, and_true, true_or, or_true, if_true_x, if_false_x, if_pos, if_neg, Int.toNat_natCast, natL, bI_0, bI_1, bI_ft, eq_self, b_tf, b_ft, not_true_eq_false, not_false_eq_true, m_155_76_73 hc, tn_0, k3, c3, hc.t70, hc.r70_4, hc.r70_5, hc.r70_6, hc.r70_7, hc.r70_8, hc.r70_10, hc.r70_11, hc.r70_12, hc.r70_14, hc.r70_15, hc.r70_16, hc.r70_17, hc.r70_19, hc.r70_21, hc.r70_23, hc.r70_24, hc.r70_26, hc.r70_27, hc.r70_28, hc.r70_29, hc.r70_30, hc.r70_31, hc.r70_32, hc.r70_33, hc.r70_36]
    obtain ⟨h5, e5⟩ : ∃ h5 : xH, h5 = (up1 h3.1 73 (h.1 73), h3.2) := ⟨_, rfl⟩
    rw [← e5]
    have f5 : Fm X h h5 := by rw [e5]; exact Fm.R73 (I := h3.1) (F := h3.2) f3 (fun j hj => z.r73 hc j (by rw [hc.z73] at hj; exact hj)) om.2.1
    have ev5 : vm h5 = vm h := by
      show rv (h5.1 73) (h5.2 70 2) (h5.2 70 3) = rv (h.1 73) (h.2 70 2) (h.2 70 3)
      rw [f5.2.2.2.1 2 (by omega), f5.2.2.2.1 3 (by omega), e5]
      dsimp only
      rw [up1_self]
    have l5 : h5.1 77 = h2.1 73 := by rw [e5]; dsimp only; rw [up1_o (by omega)]; exact l3
    have ok5 : Ok X h5 := f5.ok ok0
    have ms5 : mS h5 = mS h := by rw [f5.ms, ev5]; rfl
    simp (disch := first | assumption | omega) only [e_244_41, e_244_42, onI_s, onR_s, onL_s, gl_0, gl_n, gl_1, gl_2, gl_3, gl_4, gl_5, gl_6, gl_7, gl_8, gl_9, gl_10, gl_11, gl_12, gl_13, gl_14, gl_15, gl_16, gl_17, sk0i, sk0r, sk0n, sk1i, sk1r, sk1n, sk_2, sk_3, sk_4, sk_5, sk_6, sk_7, sk_8, sk_9, sk_10, sk_11, sk_12, sk_13, sk_14, sk_15, sk_16, sk_17, ls_0, ls_1, ls_2, ls_3, ls_4, ls_5, ls_6, ls_7, ls_8, ls_9, ls_10, ls_11, ls_12, ls_13, ls_14, ls_15, ls_16, ls_17, ct1_i, ct1_r, wd8_0, wd8_i1, wd8_r1, wd8_i2, wd8_r2, wd8_i3, wd8_r3, wd8_i4, wd8_r4, wd8_i5, wd8_r5, wd8_i6, wd8_r6, wd8_i7, wd8_r7, wd8_i8, wd8_r8, wd8_l2, wd8_l3, wd8_l4, wd8_l5, wd8_l6, wd8_l7, wd8_l8, tl_s, tl_n, inR_t, bd_t, true_and, and_true, true_or, or_true, if_true_x, if_false_x, if_pos, if_neg, Int.toNat_natCast, natL, bI_0, bI_1, bI_ft, eq_self, b_tf, b_ft, not_true_eq_false, not_false_eq_true]
    (rw [e_244_43]; refine ⟨⟨hc.t70, by simp [wd_i, wd_r, wd_l, wd_0]⟩, ?_⟩)
    refine kpM ok5 (fun h6 k => ?_)
    have l6 : h6.1 77 = h2.1 73 := by rw [(k.2.2.2.1 77 (by omega) (by omega) (by omega)).1]; exact l5
    have c6 := cp_eq (k.1.1.r77 hc) (k.1.1.r73 hc)
    rw [l6] at c6
    simp (disch := first | assumption | omega) only [e_244_44, e_244_45, e_244_46, e_244_47, e_244_48, e_244_49, e_244_50, onI_s, onR_s, onL_s, gl_0, gl_n, gl_1, gl_2, gl_3, gl_4, gl_5, gl_6, gl_7, gl_8, gl_9, gl_10, gl_11, gl_12, gl_13, gl_14, gl_15, gl_16, gl_17, sk0i, sk0r, sk0n, sk1i, sk1r, sk1n, sk_2, sk_3, sk_4, sk_5, sk_6, sk_7, sk_8, sk_9, sk_10, sk_11, sk_12, sk_13, sk_14, sk_15, sk_16, sk_17, ls_0, ls_1, ls_2, ls_3, ls_4, ls_5, ls_6, ls_7, ls_8, ls_9, ls_10, ls_11, ls_12, ls_13, ls_14, ls_15, ls_16, ls_17, ct1_i, ct1_r, wd8_0, wd8_i1, wd8_r1, wd8_i2, wd8_r2, wd8_i3, wd8_r3, wd8_i4, wd8_r4, wd8_i5, wd8_r5, wd8_i6, wd8_r6, wd8_i7, wd8_r7, wd8_i8, wd8_r8, wd8_l2, wd8_l3, wd8_l4, wd8_l5, wd8_l6, wd8_l7, wd8_l8, tl_s, tl_n, inR_t, bd_t, true_and, and_true, true_or, or_true, if_true_x, if_false_x, if_pos, if_neg, Int.toNat_natCast, natL, bI_0, bI_1, bI_ft, eq_self, b_tf, b_ft, not_true_eq_false, not_false_eq_true, m_155_77_73 hc, tn_0, l6, c6, hc.t70, hc.r70_4, hc.r70_5, hc.r70_6, hc.r70_7, hc.r70_8, hc.r70_10, hc.r70_11, hc.r70_12, hc.r70_14, hc.r70_15, hc.r70_16, hc.r70_17, hc.r70_19, hc.r70_21, hc.r70_23, hc.r70_24, hc.r70_26, hc.r70_27, hc.r70_28, hc.r70_29, hc.r70_30, hc.r70_31, hc.r70_32, hc.r70_33, hc.r70_36]
    obtain ⟨h7, e7⟩ : ∃ h7 : xH, h7 = (up1 h6.1 73 (h2.1 73), h6.2) := ⟨_, rfl⟩
    rw [← e7]
    have f7 : Fm X h6 h7 := by rw [e7]; exact Fm.R73 (I := h6.1) (F := h6.2) (Fm.refl k.1) (fun j hj => s2.1.r73 hc j (by rw [hc.z73] at hj; exact hj)) s2.2.2.2
    have ev7 : vm h7 = u := by
      rw [← s2.2.2.1]
      show rv (h7.1 73) (h7.2 70 2) (h7.2 70 3) = rv (h2.1 73) (h2.2 70 2) (h2.2 70 3)
      rw [f7.2.2.2.1 2 (by omega), f7.2.2.2.1 3 (by omega), k.2.2.2.2 2 (by omega), k.2.2.2.2 3 (by omega), f5.2.2.2.1 2 (by omega), f5.2.2.2.1 3 (by omega), f2.2.2.2.1 2 (by omega), f2.2.2.2.1 3 (by omega), e7]
      dsimp only
      rw [up1_self]
    have ac := act_m (r := mvs u (h.1 72 4)) k f7 ev7
    rw [ms5] at ac
    simp (disch := first | assumption | omega) only [e_244_51, e_244_52, e_244_53, e_244_54, onI_s, onR_s, onL_s, gl_0, gl_n, gl_1, gl_2, gl_3, gl_4, gl_5, gl_6, gl_7, gl_8, gl_9, gl_10, gl_11, gl_12, gl_13, gl_14, gl_15, gl_16, gl_17, sk0i, sk0r, sk0n, sk1i, sk1r, sk1n, sk_2, sk_3, sk_4, sk_5, sk_6, sk_7, sk_8, sk_9, sk_10, sk_11, sk_12, sk_13, sk_14, sk_15, sk_16, sk_17, ls_0, ls_1, ls_2, ls_3, ls_4, ls_5, ls_6, ls_7, ls_8, ls_9, ls_10, ls_11, ls_12, ls_13, ls_14, ls_15, ls_16, ls_17, ct1_i, ct1_r, wd8_0, wd8_i1, wd8_r1, wd8_i2, wd8_r2, wd8_i3, wd8_r3, wd8_i4, wd8_r4, wd8_i5, wd8_r5, wd8_i6, wd8_r6, wd8_i7, wd8_r7, wd8_i8, wd8_r8, wd8_l2, wd8_l3, wd8_l4, wd8_l5, wd8_l6, wd8_l7, wd8_l8, tl_s, tl_n, inR_t, bd_t, true_and, and_true, true_or, or_true, if_true_x, if_false_x, if_pos, if_neg, Int.toNat_natCast, natL, bI_0, bI_1, bI_ft, eq_self, b_tf, b_ft, not_true_eq_false, not_false_eq_true, m_153 hc, hc.t70, hc.r70_4, hc.r70_5, hc.r70_6, hc.r70_7, hc.r70_8, hc.r70_10, hc.r70_11, hc.r70_12, hc.r70_14, hc.r70_15, hc.r70_16, hc.r70_17, hc.r70_19, hc.r70_21, hc.r70_23, hc.r70_24, hc.r70_26, hc.r70_27, hc.r70_28, hc.r70_29, hc.r70_30, hc.r70_31, hc.r70_32, hc.r70_33, hc.r70_36]
    exact hq _ ((f5.mst ok0).tr ac.1) ac.2
theorem p_244 (ok : Ok X h) (g : Gd (vm h)) (tm : TMb (h.1 72)) (rf : RFb (h.1 71)) (hq : ∀ h2, Mst X h h2 → mS h2 = (spLegal (mS h)).2 → Q (some (vi (spLegal (mS h)).1)) h2) : Cl X 244 [vr 70] h Q := by
  obtain ⟨nb, ln, hc, hnb⟩ := ok.2.2.2.2.1
  rw [c_244]
  simp (disch := first | assumption | omega) only [e_244_0, e_244_1, e_244_2, onI_s, onR_s, onL_s, gl_0, gl_n, gl_1, gl_2, gl_3, gl_4, gl_5, gl_6, gl_7, gl_8, gl_9, gl_10, gl_11, gl_12, gl_13, gl_14, gl_15, gl_16, gl_17, sk0i, sk0r, sk0n, sk1i, sk1r, sk1n, sk_2, sk_3, sk_4, sk_5, sk_6, sk_7, sk_8, sk_9, sk_10, sk_11, sk_12, sk_13, sk_14, sk_15, sk_16, sk_17, ls_0, ls_1, ls_2, ls_3, ls_4, ls_5, ls_6, ls_7, ls_8, ls_9, ls_10, ls_11, ls_12, ls_13, ls_14, ls_15, ls_16, ls_17, ct1_i, ct1_r, wd8_0, wd8_i1, wd8_r1, wd8_i2, wd8_r2, wd8_i3, wd8_r3, wd8_i4, wd8_r4, wd8_i5, wd8_r5, wd8_i6, wd8_r6, wd8_i7, wd8_r7, wd8_i8, wd8_r8, wd8_l2, wd8_l3, wd8_l4, wd8_l5, wd8_l6, wd8_l7, wd8_l8, tl_s, tl_n, inR_t, bd_t, true_and, and_true, true_or, or_true, if_true_x, if_false_x, if_pos, if_neg, Int.toNat_natCast, natL, bI_0, bI_1, bI_ft, eq_self, b_tf, b_ft, not_true_eq_false, not_false_eq_true, hc.t70]
  exact q_244 (thr_ok ok) (by rw [thr_v]; exact g) tm rf (thr (sp := fun s => spLegal s) ok hq)
set_option maxHeartbeats 8000000 in
theorem q_245 {w : Int} (ok : Ok X h) (g : Gd (vm h)) (tm : TMb (h.1 72)) (hq : ∀ h2, Mst X h h2 → mS h2 = mS h → Q (some (vi (spLfy (mS h) w))) h2) : Ev X 245 3 [some (vr 70), some (vi w), none, none] [] h Q := by
  have ok0 := ok
  obtain ⟨z, os, oc, om, ⟨nb, ln, hc, hnb⟩, lp⟩ := ok
  have hw := g.rg
  unfold spLfy at hq
  rw [show (mS h).1 = vm h from rfl, show (mS h).2.1 = h.1 72 from rfl] at hq
  by_cases c : w = 0 ∨ w = 1
  · have d := bT (show 0 ≤ w ∧ w ≤ 1 by omega)
    simp (disch := first | assumption | omega) only [e_245_3, e_245_4, e_245_5, e_245_6, e_245_7, e_245_8, e_245_11, e_245_12, e_245_13, e_245_14, e_245_15, e_245_16, e_245_17, onI_s, onR_s, onL_s, gl_0, gl_n, gl_1, gl_2, gl_3, gl_4, gl_5, gl_6, gl_7, gl_8, gl_9, gl_10, gl_11, gl_12, gl_13, gl_14, gl_15, gl_16, gl_17, sk0i, sk0r, sk0n, sk1i, sk1r, sk1n, sk_2, sk_3, sk_4, sk_5, sk_6, sk_7, sk_8, sk_9, sk_10, sk_11, sk_12, sk_13, sk_14, sk_15, sk_16, sk_17, ls_0, ls_1, ls_2, ls_3, ls_4, ls_5, ls_6, ls_7, ls_8, ls_9, ls_10, ls_11, ls_12, ls_13, ls_14, ls_15, ls_16, ls_17, ct1_i, ct1_r, wd8_0, wd8_i1, wd8_r1, wd8_i2, wd8_r2, wd8_i3, wd8_r3, wd8_i4, wd8_r4, wd8_i5, wd8_r5, wd8_i6, wd8_r6, wd8_i7, wd8_r7, wd8_i8, wd8_r8, wd8_l2, wd8_l3, wd8_l4, wd8_l5, wd8_l6, wd8_l7, wd8_l8, tl_s, tl_n, inR_t, bd_t, true_and, and_true, true_or, or_true, if_true_x, if_false_x, if_pos, if_neg, Int.toNat_natCast, natL, bI_0, bI_1, bI_ft, eq_self, b_tf, b_ft, not_true_eq_false, not_false_eq_true, m_149, inL_t, d, m_155_73_76 hc, tn_0, hc.t70, hc.r70_4, hc.r70_5, hc.r70_6, hc.r70_7, hc.r70_8, hc.r70_10, hc.r70_11, hc.r70_12, hc.r70_14, hc.r70_15, hc.r70_16, hc.r70_17, hc.r70_19, hc.r70_21, hc.r70_23, hc.r70_24, hc.r70_26, hc.r70_27, hc.r70_28, hc.r70_29, hc.r70_30, hc.r70_31, hc.r70_32, hc.r70_33, hc.r70_36]
    have c1 := cp_eq (z.r73 hc) (z.r76 hc)
    rw [c1]
    obtain ⟨h1, e1⟩ : ∃ h1 : xH, h1 = (up1 h.1 76 (h.1 73), h.2) := ⟨_, rfl⟩
    rw [← e1]
    have f1 : Fm X h h1 := by rw [e1]; exact Fm.I1 (I := h.1) (F := h.2) (Fm.refl ok0) (by omega) (fun j hj => z.r73 hc j (by rw [hc.z76] at hj; exact hj))
    have r1 : h1.1 73 = h.1 73 := by rw [e1]; dsimp only; rw [up1_o (by omega)]
    have k1 : h1.1 76 = h.1 73 := by rw [e1]; dsimp only; rw [up1_self]
    have ev1 : vm h1 = vm h := by rw [e1]; exact vm_o1 (by omega)
    have t1 : h1.1 72 = h.1 72 := f1.t
    have bk : ∀ (h2 : xH) (u : Nat → Nat → Int) (a x2 : Int), SX X h1 h2 u → (∀ h3, Mst X h h3 → mS h3 = mS h → Q (some (vi a)) h3) → Ev X 245 37 [some (vr 70), some (vi w), some (vi x2), none] [vi a] h2 Q := by
      intro h2 u a x2 s2 q
      have k2 : h2.1 76 = h.1 73 := by rw [s2.2.1.1 76 (by omega) (by omega)]; exact k1
      have f2 : Fm X h h2 := f1.tr (s2.2.1.fm s2.1 s2.2.2.2)
      have c2 := cp_eq (s2.1.r76 hc) (s2.1.r73 hc)
      rw [k2] at c2
      simp (disch := first | assumption | omega) only [e_245_37, e_245_38, e_245_39, e_245_40, e_245_41, e_245_42, e_245_43, e_245_44, onI_s, onR_s, onL_s, gl_0, gl_n, gl_1, gl_2, gl_3, gl_4, gl_5, gl_6, gl_7, gl_8, gl_9, gl_10, gl_11, gl_12, gl_13, gl_14, gl_15, gl_16, gl_17, sk0i, sk0r, sk0n, sk1i, sk1r, sk1n, sk_2, sk_3, sk_4, sk_5, sk_6, sk_7, sk_8, sk_9, sk_10, sk_11, sk_12, sk_13, sk_14, sk_15, sk_16, sk_17, ls_0, ls_1, ls_2, ls_3, ls_4, ls_5, ls_6, ls_7, ls_8, ls_9, ls_10, ls_11, ls_12, ls_13, ls_14, ls_15, ls_16, ls_17, ct1_i, ct1_r, wd8_0, wd8_i1, wd8_r1, wd8_i2, wd8_r2, wd8_i3, wd8_r3, wd8_i4, wd8_r4, wd8_i5, wd8_r5, wd8_i6, wd8_r6, wd8_i7, wd8_r7, wd8_i8, wd8_r8, wd8_l2, wd8_l3, wd8_l4, wd8_l5, wd8_l6, wd8_l7, wd8_l8, tl_s, tl_n, inR_t, bd_t, true_and, and_true, true_or, or_true, if_true_x, if_false_x, if_pos, if_neg, Int.toNat_natCast, natL, bI_0, bI_1, bI_ft, eq_self, b_tf, b_ft, not_true_eq_false, not_false_eq_true, m_155_76_73 hc, tn_0, k2, c2, hc.t70, hc.r70_4, hc.r70_5, hc.r70_6, hc.r70_7, hc.r70_8, hc.r70_10, hc.r70_11, hc.r70_12, hc.r70_14, hc.r70_15, hc.r70_16, hc.r70_17, hc.r70_19, hc.r70_21, hc.r70_23, hc.r70_24, hc.r70_26, hc.r70_27, hc.r70_28, hc.r70_29, hc.r70_30, hc.r70_31, hc.r70_32, hc.r70_33, hc.r70_36]
      obtain ⟨h3, e3⟩ : ∃ h3 : xH, h3 = (up1 h2.1 73 (h.1 73), h2.2) := ⟨_, rfl⟩
      rw [← e3]
      have f3 : Fm X h h3 := by rw [e3]; exact Fm.R73 (I := h2.1) (F := h2.2) f2 (fun j hj => z.r73 hc j (by rw [hc.z73] at hj; exact hj)) om.2.1
      have ev3 : vm h3 = vm h := by
        show rv (h3.1 73) (h3.2 70 2) (h3.2 70 3) = rv (h.1 73) (h.2 70 2) (h.2 70 3)
        rw [f3.2.2.2.1 2 (by omega), f3.2.2.2.1 3 (by omega), e3]
        dsimp only
        rw [up1_self]
      simp (disch := first | assumption | omega) only [e_245_45, e_245_46, onI_s, onR_s, onL_s, gl_0, gl_n, gl_1, gl_2, gl_3, gl_4, gl_5, gl_6, gl_7, gl_8, gl_9, gl_10, gl_11, gl_12, gl_13, gl_14, gl_15, gl_16, gl_17, sk0i, sk0r, sk0n, sk1i, sk1r, sk1n, sk_2, sk_3, sk_4, sk_5, sk_6, sk_7, sk_8, sk_9, sk_10, sk_11, sk_12, sk_13, sk_14, sk_15, sk_16, sk_17, ls_0, ls_1, ls_2, ls_3, ls_4, ls_5, ls_6, ls_7, ls_8, ls_9, ls_10, ls_11, ls_12, ls_13, ls_14, ls_15, ls_16, ls_17, ct1_i, ct1_r, wd8_0, wd8_i1, wd8_r1, wd8_i2, wd8_r2, wd8_i3, wd8_r3, wd8_i4, wd8_r4, wd8_i5, wd8_r5, wd8_i6, wd8_r6, wd8_i7, wd8_r7, wd8_i8, wd8_r8, wd8_l2, wd8_l3, wd8_l4, wd8_l5, wd8_l6, wd8_l7, wd8_l8, tl_s, tl_n, inR_t, bd_t, true_and, and_true, true_or, or_true, if_true_x, if_false_x, if_pos, if_neg, Int.toNat_natCast, natL, bI_0, bI_1, bI_ft, eq_self, b_tf, b_ft, not_true_eq_false, not_false_eq_true]
      exact q h3 (f3.mst ok0) (by rw [f3.ms, ev3]; rfl)
    simp (disch := first | assumption | omega) only [e_245_18, onI_s, onR_s, onL_s, gl_0, gl_n, gl_1, gl_2, gl_3, gl_4, gl_5, gl_6, gl_7, gl_8, gl_9, gl_10, gl_11, gl_12, gl_13, gl_14, gl_15, gl_16, gl_17, sk0i, sk0r, sk0n, sk1i, sk1r, sk1n, sk_2, sk_3, sk_4, sk_5, sk_6, sk_7, sk_8, sk_9, sk_10, sk_11, sk_12, sk_13, sk_14, sk_15, sk_16, sk_17, ls_0, ls_1, ls_2, ls_3, ls_4, ls_5, ls_6, ls_7, ls_8, ls_9, ls_10, ls_11, ls_12, ls_13, ls_14, ls_15, ls_16, ls_17, ct1_i, ct1_r, wd8_0, wd8_i1, wd8_r1, wd8_i2, wd8_r2, wd8_i3, wd8_r3, wd8_i4, wd8_r4, wd8_i5, wd8_r5, wd8_i6, wd8_r6, wd8_i7, wd8_r7, wd8_i8, wd8_r8, wd8_l2, wd8_l3, wd8_l4, wd8_l5, wd8_l6, wd8_l7, wd8_l8, tl_s, tl_n, inR_t, bd_t, true_and, and_true, true_or, or_true, if_true_x, if_false_x, if_pos, if_neg, Int.toNat_natCast, natL, bI_0, bI_1, bI_ft, eq_self, b_tf, b_ft, not_true_eq_false, not_false_eq_true]
    (rw [e_245_19]; refine ⟨⟨hc.t70, by simp [wd_i, wd_r, wd_l, wd_0]⟩, ?_⟩)
    refine m_242 hc ev1 g (by rw [r1]; exact om.2.1) f1.1 (by rw [t1]; exact tm) (fun e h2 u s2 => ?_) (fun u e h2 s2 sj wu => ?_)
    · rw [t1] at e
      rw [e] at hq
      rcases c with rfl | rfl
      · simp (disch := first | assumption | omega) only [e_245_20, e_245_21, e_245_22, e_245_23, e_245_31, e_245_32, e_245_36, onI_s, onR_s, onL_s, gl_0, gl_n, gl_1, gl_2, gl_3, gl_4, gl_5, gl_6, gl_7, gl_8, gl_9, gl_10, gl_11, gl_12, gl_13, gl_14, gl_15, gl_16, gl_17, sk0i, sk0r, sk0n, sk1i, sk1r, sk1n, sk_2, sk_3, sk_4, sk_5, sk_6, sk_7, sk_8, sk_9, sk_10, sk_11, sk_12, sk_13, sk_14, sk_15, sk_16, sk_17, ls_0, ls_1, ls_2, ls_3, ls_4, ls_5, ls_6, ls_7, ls_8, ls_9, ls_10, ls_11, ls_12, ls_13, ls_14, ls_15, ls_16, ls_17, ct1_i, ct1_r, wd8_0, wd8_i1, wd8_r1, wd8_i2, wd8_r2, wd8_i3, wd8_r3, wd8_i4, wd8_r4, wd8_i5, wd8_r5, wd8_i6, wd8_r6, wd8_i7, wd8_r7, wd8_i8, wd8_r8, wd8_l2, wd8_l3, wd8_l4, wd8_l5, wd8_l6, wd8_l7, wd8_l8, tl_s, tl_n, inR_t, bd_t, true_and, and_true, true_or, or_true, if_true_x, if_false_x, if_pos, if_neg, Int.toNat_natCast, natL, bI_0, bI_1, bI_ft, eq_self, b_tf, b_ft, not_true_eq_false, not_false_eq_true, show ¬ (0 : Int) = 1 by decide]
        exact bk h2 u _ _ s2 hq
      · simp (disch := first | assumption | omega) only [e_245_20, e_245_21, e_245_22, e_245_23, e_245_24, e_245_25, e_245_29, e_245_30, onI_s, onR_s, onL_s, gl_0, gl_n, gl_1, gl_2, gl_3, gl_4, gl_5, gl_6, gl_7, gl_8, gl_9, gl_10, gl_11, gl_12, gl_13, gl_14, gl_15, gl_16, gl_17, sk0i, sk0r, sk0n, sk1i, sk1r, sk1n, sk_2, sk_3, sk_4, sk_5, sk_6, sk_7, sk_8, sk_9, sk_10, sk_11, sk_12, sk_13, sk_14, sk_15, sk_16, sk_17, ls_0, ls_1, ls_2, ls_3, ls_4, ls_5, ls_6, ls_7, ls_8, ls_9, ls_10, ls_11, ls_12, ls_13, ls_14, ls_15, ls_16, ls_17, ct1_i, ct1_r, wd8_0, wd8_i1, wd8_r1, wd8_i2, wd8_r2, wd8_i3, wd8_r3, wd8_i4, wd8_r4, wd8_i5, wd8_r5, wd8_i6, wd8_r6, wd8_i7, wd8_r7, wd8_i8, wd8_r8, wd8_l2, wd8_l3, wd8_l4, wd8_l5, wd8_l6, wd8_l7, wd8_l8, tl_s, tl_n, inR_t, bd_t, true_and, and_true, true_or, or_true, if_true_x, if_false_x, if_pos, if_neg, Int.toNat_natCast, natL, bI_0, bI_1, bI_ft, eq_self, b_tf, b_ft, not_true_eq_false, not_false_eq_true]
        exact bk h2 u _ _ s2 hq
    · rw [t1] at e
      have fx := mkV_fx g.geo sj e
      rw [e] at hq
      dsimp only at hq
      have f2 : Fm X h h2 := f1.tr (s2.2.1.fm s2.1 s2.2.2.2)
      have t2 : h2.1 72 = h.1 72 := f2.t
      have ev2 := s2.2.2.1
      rcases c with rfl | rfl
      · simp (disch := first | assumption | omega) only [e_245_20, e_245_21, e_245_22, e_245_23, e_245_31, e_245_32, e_245_33, e_245_34, e_245_35, onI_s, onR_s, onL_s, gl_0, gl_n, gl_1, gl_2, gl_3, gl_4, gl_5, gl_6, gl_7, gl_8, gl_9, gl_10, gl_11, gl_12, gl_13, gl_14, gl_15, gl_16, gl_17, sk0i, sk0r, sk0n, sk1i, sk1r, sk1n, sk_2, sk_3, sk_4, sk_5, sk_6, sk_7, sk_8, sk_9, sk_10, sk_11, sk_12, sk_13, sk_14, sk_15, sk_16, sk_17, ls_0, ls_1, ls_2, ls_3, ls_4, ls_5, ls_6, ls_7, ls_8, ls_9, ls_10, ls_11, ls_12, ls_13, ls_14, ls_15, ls_16, ls_17, ct1_i, ct1_r, wd8_0, wd8_i1, wd8_r1, wd8_i2, wd8_r2, wd8_i3, wd8_r3, wd8_i4, wd8_r4, wd8_i5, wd8_r5, wd8_i6, wd8_r6, wd8_i7, wd8_r7, wd8_i8, wd8_r8, wd8_l2, wd8_l3, wd8_l4, wd8_l5, wd8_l6, wd8_l7, wd8_l8, tl_s, tl_n, inR_t, bd_t, true_and, and_true, true_or, or_true, if_true_x, if_false_x, if_pos, if_neg, Int.toNat_natCast, natL, bI_0, bI_1, bI_ft, eq_self, b_tf, b_ft, not_true_eq_false, not_false_eq_true, show ¬ (0 : Int) = 1 by decide, show ¬ (1 : Int) = 0 by decide, m_243u hc s2.2.2.1 wu fx (show TMb (h2.1 72) by rw [t2]; exact tm), t2, hc.t70, hc.r70_4, hc.r70_5, hc.r70_6, hc.r70_7, hc.r70_8, hc.r70_10, hc.r70_11, hc.r70_12, hc.r70_14, hc.r70_15, hc.r70_16, hc.r70_17, hc.r70_19, hc.r70_21, hc.r70_23, hc.r70_24, hc.r70_26, hc.r70_27, hc.r70_28, hc.r70_29, hc.r70_30, hc.r70_31, hc.r70_32, hc.r70_33, hc.r70_36]
        exact bk h2 u _ _ s2 hq
      · simp (disch := first | assumption | omega) only [e_245_20, e_245_21, e_245_22, e_245_23, e_245_24, e_245_25, e_245_26, e_245_27, e_245_28, onI_s, onR_s, onL_s, gl_0, gl_n, gl_1, gl_2, gl_3, gl_4, gl_5, gl_6, gl_7, gl_8, gl_9, gl_10, gl_11, gl_12, gl_13, gl_14, gl_15, gl_16, gl_17, sk0i, sk0r, sk0n, sk1i, sk1r, sk1n, sk_2, sk_3, sk_4, sk_5, sk_6, sk_7, sk_8, sk_9, sk_10, sk_11, sk_12, sk_13, sk_14, sk_15, sk_16, sk_17, ls_0, ls_1, ls_2, ls_3, ls_4, ls_5, ls_6, ls_7, ls_8, ls_9, ls_10, ls_11, ls_12, ls_13, ls_14, ls_15, ls_16, ls_17, ct1_i, ct1_r, wd8_0, wd8_i1, wd8_r1, wd8_i2, wd8_r2, wd8_i3, wd8_r3, wd8_i4, wd8_r4, wd8_i5, wd8_r5, wd8_i6, wd8_r6, wd8_i7, wd8_r7, wd8_i8, wd8_r8, wd8_l2, wd8_l3, wd8_l4, wd8_l5, wd8_l6, wd8_l7, wd8_l8, tl_s, tl_n, inR_t, bd_t, true_and, and_true, true_or, or_true, if_true_x, if_false_x, if_pos, if_neg, Int.toNat_natCast, natL, bI_0, bI_1, bI_ft, eq_self, b_tf, b_ft, not_true_eq_false, not_false_eq_true, show ¬ (1 : Int) = 0 by decide, wirM hc (show WG (vm h2) by rw [ev2]; exact sj.wg wu g) (show TMb (h2.1 72) by rw [t2]; exact tm), ev2, t2, hc.t70, hc.r70_4, hc.r70_5, hc.r70_6, hc.r70_7, hc.r70_8, hc.r70_10, hc.r70_11, hc.r70_12, hc.r70_14, hc.r70_15, hc.r70_16, hc.r70_17, hc.r70_19, hc.r70_21, hc.r70_23, hc.r70_24, hc.r70_26, hc.r70_27, hc.r70_28, hc.r70_29, hc.r70_30, hc.r70_31, hc.r70_32, hc.r70_33, hc.r70_36]
        exact bk h2 u _ _ s2 hq
  · have c0 : ¬ w = 0 := fun q => c (Or.inl q)
    have c1 : ¬ w = 1 := fun q => c (Or.inr q)
    rw [if_neg c0, if_neg c1] at hq
    have d := bF (show ¬ (0 ≤ w ∧ w ≤ 1) by omega)
    simp (disch := first | assumption | omega) only [e_245_3, e_245_4, e_245_5, e_245_6, e_245_7, e_245_8, e_245_9, e_245_10, onI_s, onR_s, onL_s, gl_0, gl_n, gl_1, gl_2, gl_3, gl_4, gl_5, gl_6, gl_7, gl_8, gl_9, gl_10, gl_11, gl_12, gl_13, gl_14, gl_15, gl_16, gl_17, sk0i, sk0r, sk0n, sk1i, sk1r, sk1n, sk_2, sk_3, sk_4, sk_5, sk_6, sk_7, sk_8, sk_9, sk_10, sk_11, sk_12, sk_13, sk_14, sk_15, sk_16, sk_17, ls_0, ls_1, ls_2, ls_3, ls_4, ls_5, ls_6, ls_7, ls_8, ls_9, ls_10, ls_11, ls_12, ls_13, ls_14, ls_15, ls_16, ls_17, ct1_i, ct1_r, wd8_0, wd8_i1, wd8_r1, wd8_i2, wd8_r2, wd8_i3, wd8_r3, wd8_i4, wd8_r4, wd8_i5, wd8_r5, wd8_i6, wd8_r6, wd8_i7, wd8_r7, wd8_i8, wd8_r8, wd8_l2, wd8_l3, wd8_l4, wd8_l5, wd8_l6, wd8_l7, wd8_l8, tl_s, tl_n, inR_t, bd_t, true_and, and_true, true_or, or_true, if_true_x, if_false_x, if_pos, if_neg, Int.toNat_natCast, natL, bI_0, bI_1, bI_ft, eq_self, b_tf, b_ft, not_true_eq_false, not_false_eq_true, m_149, inL_t, d, hc.t70, hc.r70_4, hc.r70_5, hc.r70_6, hc.r70_7, hc.r70_8, hc.r70_10, hc.r70_11, hc.r70_12, hc.r70_14, hc.r70_15, hc.r70_16, hc.r70_17, hc.r70_19, hc.r70_21, hc.r70_23, hc.r70_24, hc.r70_26, hc.r70_27, hc.r70_28, hc.r70_29, hc.r70_30, hc.r70_31, hc.r70_32, hc.r70_33, hc.r70_36]
    exact hq h ((Fm.refl ok0).mst ok0) rfl
theorem p_245 {w : Int} (ok : Ok X h) (g : Gd (vm h)) (tm : TMb (h.1 72)) (hq : ∀ h2, Mst X h h2 → mS h2 = mS h → Q (some (vi (spLfy (mS h) w))) h2) : Cl X 245 [vr 70, vi w] h Q := by
  obtain ⟨nb, ln, hc, hnb⟩ := ok.2.2.2.2.1
  rw [c_245]
  simp (disch := first | assumption | omega) only [e_245_0, e_245_1, e_245_2, onI_s, onR_s, onL_s, gl_0, gl_n, gl_1, gl_2, gl_3, gl_4, gl_5, gl_6, gl_7, gl_8, gl_9, gl_10, gl_11, gl_12, gl_13, gl_14, gl_15, gl_16, gl_17, sk0i, sk0r, sk0n, sk1i, sk1r, sk1n, sk_2, sk_3, sk_4, sk_5, sk_6, sk_7, sk_8, sk_9, sk_10, sk_11, sk_12, sk_13, sk_14, sk_15, sk_16, sk_17, ls_0, ls_1, ls_2, ls_3, ls_4, ls_5, ls_6, ls_7, ls_8, ls_9, ls_10, ls_11, ls_12, ls_13, ls_14, ls_15, ls_16, ls_17, ct1_i, ct1_r, wd8_0, wd8_i1, wd8_r1, wd8_i2, wd8_r2, wd8_i3, wd8_r3, wd8_i4, wd8_r4, wd8_i5, wd8_r5, wd8_i6, wd8_r6, wd8_i7, wd8_r7, wd8_i8, wd8_r8, wd8_l2, wd8_l3, wd8_l4, wd8_l5, wd8_l6, wd8_l7, wd8_l8, tl_s, tl_n, inR_t, bd_t, true_and, and_true, true_or, or_true, if_true_x, if_false_x, if_pos, if_neg, Int.toNat_natCast, natL, bI_0, bI_1, bI_ft, eq_self, b_tf, b_ft, not_true_eq_false, not_false_eq_true, hc.t70, hc.r70_4, hc.r70_5, hc.r70_6, hc.r70_7, hc.r70_8, hc.r70_10, hc.r70_11, hc.r70_12, hc.r70_14, hc.r70_15, hc.r70_16, hc.r70_17, hc.r70_19, hc.r70_21, hc.r70_23, hc.r70_24, hc.r70_26, hc.r70_27, hc.r70_28, hc.r70_29, hc.r70_30, hc.r70_31, hc.r70_32, hc.r70_33, hc.r70_36]
  exact q_245 (thr_ok ok) (by rw [thr_v]; exact g) tm (thq (a := fun s => spLfy s w) ok hq)
end LGM
