section UND
variable {X : xL} {ns nb ln : Nat} {h : xH} {I F : Nat → Nat → Int} {Q : Option xV → xH → Prop}
set_option maxHeartbeats 2000000 in
theorem p_124 (ok : Ok X h) (rf : RFb (h.1 3)) (gk : ∀ j, j < (cS h).2.2.2.2.2.2.1 → RGv ((cS h).2.2.2.2.2.2.2.1 j)) (hq : ∀ h2, Cst X h h2 → cS h2 = (spUndo (cS h)).2 → Q (some (vi (spUndo (cS h)).1)) h2) : Cl X 124 [vr 0] h Q := by
  have ok0 := ok
  obtain ⟨z, os, ⟨n0, n1, gr, bn, jk⟩, om, ⟨nb, ln, hc, hnb⟩, lp⟩ := ok
  have en : (cS h).2.2.2.2.2.2.1 = (h.2 4 0).toNat := rfl
  rw [c_124]
  unfold spUndo at hq
  rw [en] at hq
  by_cases e : h.2 4 0 = 0
  · rw [if_pos (by omega)] at hq
    simp (disch := first | assumption | omega) only [e_124_0, e_124_1, e_124_2, e_124_3, e_124_4, e_124_5, onI_s, onR_s, onL_s, gl_0, gl_n, gl_1, gl_2, gl_3, gl_4, gl_5, gl_6, gl_7, gl_8, gl_9, gl_10, gl_11, gl_12, gl_13, gl_14, gl_15, gl_16, gl_17, sk0i, sk0r, sk0n, sk1i, sk1r, sk1n, sk_2, sk_3, sk_4, sk_5, sk_6, sk_7, sk_8, sk_9, sk_10, sk_11, sk_12, sk_13, sk_14, sk_15, sk_16, sk_17, ls_0, ls_1, ls_2, ls_3, ls_4, ls_5, ls_6, ls_7, ls_8, ls_9, ls_10, ls_11, ls_12, ls_13, ls_14, ls_15, ls_16, ls_17, ct1_i, ct1_r, wd8_0, wd8_i1, wd8_r1, wd8_i2, wd8_r2, wd8_i3, wd8_r3, wd8_i4, wd8_r4, wd8_i5, wd8_r5, wd8_i6, wd8_r6, wd8_i7, wd8_r7, wd8_i8, wd8_r8, wd8_l2, wd8_l3, wd8_l4, wd8_l5, wd8_l6, wd8_l7, wd8_l8, tl_s, tl_n, inR_t, bd_t, true_and, and_true, true_or, or_true, if_true_x, if_false_x, if_pos, if_neg, Int.toNat_natCast, natL, bI_0, bI_1, bI_ft, eq_self, b_tf, b_ft, not_true_eq_false, not_false_eq_true, e, hc.t0, hc.r0_0, hc.r0_1, hc.r0_3, hc.r0_5, hc.r0_6, hc.r0_7, hc.r0_8, hc.r0_9, hc.r0_10, hc.r0_11, hc.r0_12, hc.r0_13, hc.t4, hc.r4_2, hc.r4_3]
    rw [e_124_6]
    refine ⟨⟨hc.t0, by decide⟩, ?_⟩
    refine p_138 ok0 rf (by omega) (by omega) (fun h2 a b => ?_)
    simp (disch := first | assumption | omega) only [e_124_7, onI_s, onR_s, onL_s, gl_0, gl_n, gl_1, gl_2, gl_3, gl_4, gl_5, gl_6, gl_7, gl_8, gl_9, gl_10, gl_11, gl_12, gl_13, gl_14, gl_15, gl_16, gl_17, sk0i, sk0r, sk0n, sk1i, sk1r, sk1n, sk_2, sk_3, sk_4, sk_5, sk_6, sk_7, sk_8, sk_9, sk_10, sk_11, sk_12, sk_13, sk_14, sk_15, sk_16, sk_17, ls_0, ls_1, ls_2, ls_3, ls_4, ls_5, ls_6, ls_7, ls_8, ls_9, ls_10, ls_11, ls_12, ls_13, ls_14, ls_15, ls_16, ls_17, ct1_i, ct1_r, wd8_0, wd8_i1, wd8_r1, wd8_i2, wd8_r2, wd8_i3, wd8_r3, wd8_i4, wd8_r4, wd8_i5, wd8_r5, wd8_i6, wd8_r6, wd8_i7, wd8_r7, wd8_i8, wd8_r8, wd8_l2, wd8_l3, wd8_l4, wd8_l5, wd8_l6, wd8_l7, wd8_l8, tl_s, tl_n, inR_t, bd_t, true_and, and_true, true_or, or_true, if_true_x, if_false_x, if_pos, if_neg, Int.toNat_natCast, natL, bI_0, bI_1, bI_ft, eq_self, b_tf, b_ft, not_true_eq_false, not_false_eq_true]
    exact hq h2 a b
  · rw [if_neg (by omega)] at hq
    simp (disch := first | assumption | omega) only [e_124_0, e_124_1, e_124_2, e_124_3, e_124_8, e_124_9, e_124_10, e_124_11, e_124_12, e_124_13, e_124_14, onI_s, onR_s, onL_s, gl_0, gl_n, gl_1, gl_2, gl_3, gl_4, gl_5, gl_6, gl_7, gl_8, gl_9, gl_10, gl_11, gl_12, gl_13, gl_14, gl_15, gl_16, gl_17, sk0i, sk0r, sk0n, sk1i, sk1r, sk1n, sk_2, sk_3, sk_4, sk_5, sk_6, sk_7, sk_8, sk_9, sk_10, sk_11, sk_12, sk_13, sk_14, sk_15, sk_16, sk_17, ls_0, ls_1, ls_2, ls_3, ls_4, ls_5, ls_6, ls_7, ls_8, ls_9, ls_10, ls_11, ls_12, ls_13, ls_14, ls_15, ls_16, ls_17, ct1_i, ct1_r, wd8_0, wd8_i1, wd8_r1, wd8_i2, wd8_r2, wd8_i3, wd8_r3, wd8_i4, wd8_r4, wd8_i5, wd8_r5, wd8_i6, wd8_r6, wd8_i7, wd8_r7, wd8_i8, wd8_r8, wd8_l2, wd8_l3, wd8_l4, wd8_l5, wd8_l6, wd8_l7, wd8_l8, tl_s, tl_n, inR_t, bd_t, true_and, and_true, true_or, or_true, if_true_x, if_false_x, if_pos, if_neg, Int.toNat_natCast, natL, bI_0, bI_1, bI_ft, eq_self, b_tf, b_ft, not_true_eq_false, not_false_eq_true, e, hc.t0, hc.r0_0, hc.r0_1, hc.r0_3, hc.r0_5, hc.r0_6, hc.r0_7, hc.r0_8, hc.r0_9, hc.r0_10, hc.r0_11, hc.r0_12, hc.r0_13, hc.t4, hc.r4_2, hc.r4_3]
    rw [e_124_15]
    refine ⟨⟨hc.t4, by decide⟩, ?_⟩
    rw [c_41]
    simp (disch := first | assumption | omega) only [e_41_0, e_41_1, e_41_2, e_41_3, e_41_4, e_41_5, e_41_6, e_41_7, e_41_8, e_41_9, e_41_10, e_41_11, e_41_12, e_41_13, e_41_14, e_41_15, e_41_16, e_41_17, e_41_18, e_41_19, e_41_20, onI_s, onR_s, onL_s, gl_0, gl_n, gl_1, gl_2, gl_3, gl_4, gl_5, gl_6, gl_7, gl_8, gl_9, gl_10, gl_11, gl_12, gl_13, gl_14, gl_15, gl_16, gl_17, sk0i, sk0r, sk0n, sk1i, sk1r, sk1n, sk_2, sk_3, sk_4, sk_5, sk_6, sk_7, sk_8, sk_9, sk_10, sk_11, sk_12, sk_13, sk_14, sk_15, sk_16, sk_17, ls_0, ls_1, ls_2, ls_3, ls_4, ls_5, ls_6, ls_7, ls_8, ls_9, ls_10, ls_11, ls_12, ls_13, ls_14, ls_15, ls_16, ls_17, ct1_i, ct1_r, wd8_0, wd8_i1, wd8_r1, wd8_i2, wd8_r2, wd8_i3, wd8_r3, wd8_i4, wd8_r4, wd8_i5, wd8_r5, wd8_i6, wd8_r6, wd8_i7, wd8_r7, wd8_i8, wd8_r8, wd8_l2, wd8_l3, wd8_l4, wd8_l5, wd8_l6, wd8_l7, wd8_l8, tl_s, tl_n, inR_t, bd_t, true_and, and_true, true_or, or_true, if_true_x, if_false_x, if_pos, if_neg, Int.toNat_natCast, natL, bI_0, bI_1, bI_ft, eq_self, b_tf, b_ft, not_true_eq_false, not_false_eq_true, up2_same, up2_oth, dv_t, tm_n, show ¬ (0 : Nat) = 1 from (by decide), hc.t0, hc.r0_0, hc.r0_1, hc.r0_3, hc.r0_5, hc.r0_6, hc.r0_7, hc.r0_8, hc.r0_9, hc.r0_10, hc.r0_11, hc.r0_12, hc.r0_13, hc.t4, hc.r4_2, hc.r4_3, hc.t5, hc.z5, hc.t6, hc.z6]
    obtain ⟨nx, hnx⟩ : ∃ nx : Nat, (h.2 4 1 + 12 - 1) % 12 = nx := ⟨((h.2 4 1 + 12 - 1) % 12).toNat, by omega⟩
    rw [hnx]
    have hr : X.2.2.1 5 nx = 248 + 24 * nx := hc.2.2.2.1 nx (by omega)
    simp (disch := first | assumption | omega) only [e_41_20, e_41_21, onI_s, onR_s, onL_s, gl_0, gl_n, gl_1, gl_2, gl_3, gl_4, gl_5, gl_6, gl_7, gl_8, gl_9, gl_10, gl_11, gl_12, gl_13, gl_14, gl_15, gl_16, gl_17, sk0i, sk0r, sk0n, sk1i, sk1r, sk1n, sk_2, sk_3, sk_4, sk_5, sk_6, sk_7, sk_8, sk_9, sk_10, sk_11, sk_12, sk_13, sk_14, sk_15, sk_16, sk_17, ls_0, ls_1, ls_2, ls_3, ls_4, ls_5, ls_6, ls_7, ls_8, ls_9, ls_10, ls_11, ls_12, ls_13, ls_14, ls_15, ls_16, ls_17, ct1_i, ct1_r, wd8_0, wd8_i1, wd8_r1, wd8_i2, wd8_r2, wd8_i3, wd8_r3, wd8_i4, wd8_r4, wd8_i5, wd8_r5, wd8_i6, wd8_r6, wd8_i7, wd8_r7, wd8_i8, wd8_r8, wd8_l2, wd8_l3, wd8_l4, wd8_l5, wd8_l6, wd8_l7, wd8_l8, tl_s, tl_n, inR_t, bd_t, true_and, and_true, true_or, or_true, if_true_x, if_false_x, if_pos, if_neg, Int.toNat_natCast, natL, bI_0, bI_1, bI_ft, eq_self, b_tf, b_ft, not_true_eq_false, not_false_eq_true, up2_same, up2_oth, hr, show ¬ (1 : Nat) = 0 from (by decide), hc.t0, hc.r0_0, hc.r0_1, hc.r0_3, hc.r0_5, hc.r0_6, hc.r0_7, hc.r0_8, hc.r0_9, hc.r0_10, hc.r0_11, hc.r0_12, hc.r0_13, hc.t4, hc.r4_2, hc.r4_3, hc.t5, hc.z5, hc.t6, hc.z6]
    rw [e_41_22]
    have hp : PL X 200 := lp 0 (by decide)
    refine ⟨⟨hp.t0, by decide⟩, ?_⟩
    have hs := lp (2 + nx) (by omega)
    have j2 := jk (2 + nx) (by omega)
    rw [show 200 + 24 * (2 + nx) = 248 + 24 * nx by omega] at hs j2
    have g2 : ∀ a i, a ≠ 0 → a ≠ 4 → up2 (up2 (up2 h.2 0 4 0) 4 1 nx) 4 0 (h.2 4 0 - 1) a i = h.2 a i := fun a i q1 q2 => by rw [up2_oth q2, up2_oth q2, up2_oth q1]
    have hpos : ((h.2 4 1).toNat + 12 - (h.2 4 0).toNat + ((h.2 4 0).toNat - 1)) % 12 = nx := by omega
    have ha : (cS h).2.2.2.2.2.2.2.2 ((h.2 4 0).toNat - 1) = h.1 6 nx := by
      show (if (h.2 4 0).toNat - 1 < (h.2 4 0).toNat then h.1 6 (((h.2 4 1).toNat + 12 - (h.2 4 0).toNat + ((h.2 4 0).toNat - 1)) % 12) else 0) = _
      rw [if_pos (by omega), hpos]
    have hv : (cS h).2.2.2.2.2.2.2.1 ((h.2 4 0).toNat - 1) = cv h (248 + 24 * nx) := by
      show (if (h.2 4 0).toNat - 1 < (h.2 4 0).toNat then cv h (248 + 24 * (((h.2 4 1).toNat + 12 - (h.2 4 0).toNat + ((h.2 4 0).toNat - 1)) % 12)) else fun _ _ => 0) = _
      rw [if_pos (by omega), hpos]
    have c0 : cv ((h.1, up2 (up2 (up2 h.2 0 4 0) 4 1 nx) 4 0 (h.2 4 0 - 1)) : xH) (248 + 24 * nx) = cv h (248 + 24 * nx) := cv_congr (fun a q1 q2 => ⟨rfl, funext fun i => g2 a i (by omega) (by omega)⟩)
    have gv := gk ((h.2 4 0).toNat - 1) (by rw [en]; omega)
    rw [hv] at gv
    refine m_74 hp hs z (by omega) ⟨fun i => ?_, fun j hj i hi => ?_⟩ (by rw [c0]; exact gv.fix) (fun h2 e1 e2 e3 => ?_)
    · dsimp only
      rw [g2 _ _ (by omega) (by omega), g2 _ _ (by omega) (by omega)]
      exact (j2.1 i).symm
    · dsimp only
      rw [g2 _ _ (by omega) (by omega), g2 _ _ (by omega) (by omega)]
      exact (j2.2 j hj i hi).symm
    have hb : ∀ a, ¬ (200 ≤ a ∧ a < 224) → h2.1 a = h.1 a ∧ h2.2 a = up2 (up2 (up2 h.2 0 4 0) 4 1 nx) 4 0 (h.2 4 0 - 1) a := e2.1
    have hbi : ∀ a i, i ≠ 0 → h2.2 a i = up2 (up2 (up2 h.2 0 4 0) 4 1 nx) 4 0 (h.2 4 0 - 1) a i := e2.2.1
    have h4 := (hb 4 (by omega)).2
    have h41 : h2.2 4 1 = nx := by rw [h4, up2_same, if_neg (by decide), up2_self]
    have h40 : h2.2 4 0 = h.2 4 0 - 1 := by rw [h4, up2_self]
    simp (disch := first | assumption | omega) only [e_41_23, e_41_24, e_41_25, e_41_26, e_41_27, e_41_28, e_124_16, onI_s, onR_s, onL_s, gl_0, gl_n, gl_1, gl_2, gl_3, gl_4, gl_5, gl_6, gl_7, gl_8, gl_9, gl_10, gl_11, gl_12, gl_13, gl_14, gl_15, gl_16, gl_17, sk0i, sk0r, sk0n, sk1i, sk1r, sk1n, sk_2, sk_3, sk_4, sk_5, sk_6, sk_7, sk_8, sk_9, sk_10, sk_11, sk_12, sk_13, sk_14, sk_15, sk_16, sk_17, ls_0, ls_1, ls_2, ls_3, ls_4, ls_5, ls_6, ls_7, ls_8, ls_9, ls_10, ls_11, ls_12, ls_13, ls_14, ls_15, ls_16, ls_17, ct1_i, ct1_r, wd8_0, wd8_i1, wd8_r1, wd8_i2, wd8_r2, wd8_i3, wd8_r3, wd8_i4, wd8_r4, wd8_i5, wd8_r5, wd8_i6, wd8_r6, wd8_i7, wd8_r7, wd8_i8, wd8_r8, wd8_l2, wd8_l3, wd8_l4, wd8_l5, wd8_l6, wd8_l7, wd8_l8, tl_s, tl_n, inR_t, bd_t, true_and, and_true, true_or, or_true, if_true_x, if_false_x, if_pos, if_neg, Int.toNat_natCast, natL, bI_0, bI_1, bI_ft, eq_self, b_tf, b_ft, not_true_eq_false, not_false_eq_true, h41, hc.t0, hc.r0_0, hc.r0_1, hc.r0_3, hc.r0_5, hc.r0_6, hc.r0_7, hc.r0_8, hc.r0_9, hc.r0_10, hc.r0_11, hc.r0_12, hc.r0_13, hc.t4, hc.r4_2, hc.r4_3, hc.t5, hc.z5, hc.t6, hc.z6]
    rw [(hb 6 (by omega)).1]
    rw [ha, hv] at hq
    have g5 : ∀ a, ¬ (200 ≤ a ∧ a < 224) → a ≠ 0 → a ≠ 4 → h2.1 a = h.1 a ∧ h2.2 a = h.2 a := fun a q1 q2 q3 => ⟨(hb a q1).1, (hb a q1).2.trans (funext fun i => g2 a i q2 q3)⟩
    refine hq h2 ⟨e3, fun a q1 q2 => g5 a (by omega) (by omega) (by omega), ⟨by omega, by omega⟩, ?_, fun p hp => ⟨fun i => ?_, fun j hj i hi => ?_⟩⟩ ?_
    · rw [(g5 7 (by omega) (by omega) (by omega)).2, (g5 22 (by omega) (by omega) (by omega)).2]
      exact ⟨rfl, rfl, rfl, rfl⟩
    · by_cases q : p = 0
      · subst q
        have := congrFun e2.2.2 i
        exact this.trans (g2 200 i (by omega) (by omega))
      · rw [(g5 (200 + 24 * p) (by omega) (by omega) (by omega)).2]
    · rw [hbi _ i hi, g2 _ i (by omega) (by omega)]
    · have c1 : cv ((h.1, up2 (up2 (up2 h.2 0 4 0) 4 1 nx) 4 0 (h.2 4 0 - 1)) : xH) (248 + 24 * nx) = cv h (248 + 24 * nx) := cv_congr (fun a q1 q2 => ⟨rfl, funext fun i => g2 a i (by omega) (by omega)⟩)
      have f0 : h2.2 0 = up2 h.2 0 4 0 0 := (hb 0 (by omega)).2.trans (funext fun i => by rw [up2_oth (by decide), up2_oth (by decide)])
      have ch : hC h2 = poH (hC h) := by
        unfold hC poH
        dsimp only
        rw [h40, h41, show (h.2 4 0 - 1).toNat = (h.2 4 0).toNat - 1 by omega, Int.toNat_natCast, (hb 6 (by omega)).1]
        refine Prod.ext rfl (Prod.ext ?_ ?_)
        · funext j
          dsimp only
          by_cases q : j < (h.2 4 0).toNat - 1
          · rw [if_pos q, if_pos q, if_pos (by omega), show (nx + 12 - ((h.2 4 0).toNat - 1) + j) % 12 = ((h.2 4 1).toNat + 12 - (h.2 4 0).toNat + j) % 12 by omega]
            exact cv_congr (fun a a1 a2 => g5 a (by omega) (by omega) (by omega))
          · rw [if_neg q, if_neg q]
        · funext j
          dsimp only
          by_cases q : j < (h.2 4 0).toNat - 1
          · rw [if_pos q, if_pos q, if_pos (by omega), show (nx + 12 - ((h.2 4 0).toNat - 1) + j) % 12 = ((h.2 4 1).toNat + 12 - (h.2 4 0).toNat + j) % 12 by omega]
          · rw [if_neg q, if_neg q]
      unfold cS
      rw [ch, e1, c1, (g5 1 (by omega) (by omega) (by omega)).1, (g5 2 (by omega) (by omega) (by omega)).1, (g5 3 (by omega) (by omega) (by omega)).1, f0]
      rfl
end UND
