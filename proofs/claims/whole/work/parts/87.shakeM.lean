section SHM
variable {X : xL} {Q : Option xV → xH → Prop} {ns nb ln : Nat}
set_option maxHeartbeats 8000000 in
theorem l_264 (hc : CT X ns nb ln) {n tries : Nat} {sd he0 bef t : Int} (hn : 0 < n) (hn2 : n ≤ 20) (t0 : 0 ≤ t) (t1 : t ≤ 8) (b0 : 0 ≤ bef) (b1 : bef ≤ 313344) (ht60 : tries ≤ 60) : ∀ (m i : Nat) (h : xH) (l he s : Int) (best : Nat → Nat → Int) (x8 x9 x10 : Option xV), Ok X h → WG (vm h) → TMb (h.1 72) → h.1 72 4 = t → vm h 11 0 = n → h.2 70 35 = s → 0 ≤ s → s ≤ 1000002 → 0 ≤ he → he ≤ 9999 → 0 ≤ l → l ≤ 313344 → rv (h.1 77) (h.2 70 2) (h.2 70 3) = best → RBr (h.1 77) → i + m = tries → (∀ h2, Fm X h h2 → vm h2 = (shk t n m (vm h) l best he s).2 → 0 ≤ (shk t n m (vm h) l best he s).1 → (shk t n m (vm h) l best he s).1 ≤ 313344 → ∀ x4 x7 x8 x9 x10, Ev X 264 128 [some (vr 70), some (vi sd), some (vi tries), some (vi he0), x4, some (vi bef), some (vi (shk t n m (vm h) l best he s).1), x7, x8, x9, x10] [] h2 Q) → Ev X 264 57 [some (vr 70), some (vi sd), some (vi tries), some (vi he0), some (vi he), some (vi bef), some (vi l), some (vi i), x8, x9, x10] [] h Q := by
  intro m
  induction m with
  | zero =>
    intro i h l he s best x8 x9 x10 ok g tm ht hs hds s0 s1 e0 e1 l0 l1 hb hrb hm hq
    rw [e_264_57]
    simp (disch := first | assumption | omega) only [e_264_58, e_264_59, e_264_121, e_264_122, e_264_123, e_264_124, e_264_125, e_264_126, e_264_127, onI_s, onR_s, onL_s, gl_0, gl_n, gl_1, gl_2, gl_3, gl_4, gl_5, gl_6, gl_7, gl_8, gl_9, gl_10, gl_11, gl_12, gl_13, gl_14, gl_15, gl_16, gl_17, sk0i, sk0r, sk0n, sk1i, sk1r, sk1n, sk_2, sk_3, sk_4, sk_5, sk_6, sk_7, sk_8, sk_9, sk_10, sk_11, sk_12, sk_13, sk_14, sk_15, sk_16, sk_17, ls_0, ls_1, ls_2, ls_3, ls_4, ls_5, ls_6, ls_7, ls_8, ls_9, ls_10, ls_11, ls_12, ls_13, ls_14, ls_15, ls_16, ls_17, ct1_i, ct1_r, wd8_0, wd8_i1, wd8_r1, wd8_i2, wd8_r2, wd8_i3, wd8_r3, wd8_i4, wd8_r4, wd8_i5, wd8_r5, wd8_i6, wd8_r6, wd8_i7, wd8_r7, wd8_i8, wd8_r8, wd8_l2, wd8_l3, wd8_l4, wd8_l5, wd8_l6, wd8_l7, wd8_l8, tl_s, tl_n, inR_t, bd_t, true_and, and_true, true_or, or_true, if_true_x, if_false_x, if_pos, if_neg, Int.toNat_natCast, natL, bI_0, bI_1, bI_ft, eq_self, b_tf, b_ft, not_true_eq_false, not_false_eq_true, m_155_77_73 hc, tn_0, hc.t70, hc.r70_4, hc.r70_5, hc.r70_6, hc.r70_7, hc.r70_8, hc.r70_10, hc.r70_11, hc.r70_12, hc.r70_14, hc.r70_15, hc.r70_16, hc.r70_17, hc.r70_19, hc.r70_21, hc.r70_23, hc.r70_24, hc.r70_26, hc.r70_27, hc.r70_28, hc.r70_29, hc.r70_30, hc.r70_31, hc.r70_32, hc.r70_33, hc.r70_36, hc.t77, hc.z77]
    rw [shk] at hq
    have f := Fm.R73 (X := X) (h := h) (I := h.1) (F := h.2) (g := cpS (h.1 77) (h.1 73) 0 0 400) (Fm.refl ok) (fun j hj => by
      rw [hc.z73] at hj
      unfold cpS
      rw [if_neg (by omega)]
      exact ok.1 73 j (Or.inl hc.t73) (by rw [hc.z73]; exact hj)) (RBr_congr (fun i hi => cpS_i hi) hrb)
    refine hq _ f ?_ l0 l1 _ _ _ _ _
    unfold vm
    dsimp only
    rw [up1_self, ← hb]
    exact rv_congr (fun i hi => cpS_i hi)
  | succ m ih =>
    intro i h l he s best x8 x9 x10 ok g tm ht hs hds s0 s1 e0 e1 l0 l1 hb hrb hm hq
    have d1 := drw_bd s
    have d2 := drw_bd (drw s)
    obtain ⟨an, ha⟩ : ∃ an : Nat, drw s % n = an := ⟨(drw s % n).toNat, by have := Int.emod_nonneg (drw s) (show (n : Int) ≠ 0 by omega); omega⟩
    obtain ⟨bn, hbn⟩ : ∃ bn : Nat, drw (drw s) % n = bn := ⟨(drw (drw s) % n).toNat, by have := Int.emod_nonneg (drw (drw s)) (show (n : Int) ≠ 0 by omega); omega⟩
    have a20 : an < 20 := by have := Int.emod_lt_of_pos (drw s) (show (0 : Int) < n by omega); omega
    have b20 : bn < 20 := by have := Int.emod_lt_of_pos (drw (drw s)) (show (0 : Int) < n by omega); omega
    have wb := wir_bd g t0 t1
    have hs9 : h.1 73 2 = n := hs
    rw [shk] at hq
    rw [e_264_57]
    simp (disch := first | assumption | omega) only [e_264_58, e_264_59, e_264_60, e_264_61, e_264_62, e_264_63, e_264_64, onI_s, onR_s, onL_s, gl_0, gl_n, gl_1, gl_2, gl_3, gl_4, gl_5, gl_6, gl_7, gl_8, gl_9, gl_10, gl_11, gl_12, gl_13, gl_14, gl_15, gl_16, gl_17, sk0i, sk0r, sk0n, sk1i, sk1r, sk1n, sk_2, sk_3, sk_4, sk_5, sk_6, sk_7, sk_8, sk_9, sk_10, sk_11, sk_12, sk_13, sk_14, sk_15, sk_16, sk_17, ls_0, ls_1, ls_2, ls_3, ls_4, ls_5, ls_6, ls_7, ls_8, ls_9, ls_10, ls_11, ls_12, ls_13, ls_14, ls_15, ls_16, ls_17, ct1_i, ct1_r, wd8_0, wd8_i1, wd8_r1, wd8_i2, wd8_r2, wd8_i3, wd8_r3, wd8_i4, wd8_r4, wd8_i5, wd8_r5, wd8_i6, wd8_r6, wd8_i7, wd8_r7, wd8_i8, wd8_r8, wd8_l2, wd8_l3, wd8_l4, wd8_l5, wd8_l6, wd8_l7, wd8_l8, tl_s, tl_n, inR_t, bd_t, true_and, and_true, true_or, or_true, if_true_x, if_false_x, if_pos, if_neg, Int.toNat_natCast, natL, bI_0, bI_1, bI_ft, eq_self, b_tf, b_ft, not_true_eq_false, not_false_eq_true, tn_2, hs9, hc.t70, hc.r70_4, hc.r70_5, hc.r70_6, hc.r70_7, hc.r70_8, hc.r70_10, hc.r70_11, hc.r70_12, hc.r70_14, hc.r70_15, hc.r70_16, hc.r70_17, hc.r70_19, hc.r70_21, hc.r70_23, hc.r70_24, hc.r70_26, hc.r70_27, hc.r70_28, hc.r70_29, hc.r70_30, hc.r70_31, hc.r70_32, hc.r70_33, hc.r70_36, hc.t73, hc.z73]
    (rw [e_264_65]; refine ⟨⟨hc.t70, by decide⟩, ?_⟩)
    rw [m_263 hc (by omega) (by omega) (by rw [hds]; exact s0) (by rw [hds]; exact s1), hds, ha]
    simp (disch := first | assumption | omega) only [e_264_66, e_264_67, e_264_68, e_264_69, e_264_70, e_264_71, onI_s, onR_s, onL_s, gl_0, gl_n, gl_1, gl_2, gl_3, gl_4, gl_5, gl_6, gl_7, gl_8, gl_9, gl_10, gl_11, gl_12, gl_13, gl_14, gl_15, gl_16, gl_17, sk0i, sk0r, sk0n, sk1i, sk1r, sk1n, sk_2, sk_3, sk_4, sk_5, sk_6, sk_7, sk_8, sk_9, sk_10, sk_11, sk_12, sk_13, sk_14, sk_15, sk_16, sk_17, ls_0, ls_1, ls_2, ls_3, ls_4, ls_5, ls_6, ls_7, ls_8, ls_9, ls_10, ls_11, ls_12, ls_13, ls_14, ls_15, ls_16, ls_17, ct1_i, ct1_r, wd8_0, wd8_i1, wd8_r1, wd8_i2, wd8_r2, wd8_i3, wd8_r3, wd8_i4, wd8_r4, wd8_i5, wd8_r5, wd8_i6, wd8_r6, wd8_i7, wd8_r7, wd8_i8, wd8_r8, wd8_l2, wd8_l3, wd8_l4, wd8_l5, wd8_l6, wd8_l7, wd8_l8, tl_s, tl_n, inR_t, bd_t, true_and, and_true, true_or, or_true, if_true_x, if_false_x, if_pos, if_neg, Int.toNat_natCast, natL, bI_0, bI_1, bI_ft, eq_self, b_tf, b_ft, not_true_eq_false, not_false_eq_true, tn_2, hs9, hc.t70, hc.r70_4, hc.r70_5, hc.r70_6, hc.r70_7, hc.r70_8, hc.r70_10, hc.r70_11, hc.r70_12, hc.r70_14, hc.r70_15, hc.r70_16, hc.r70_17, hc.r70_19, hc.r70_21, hc.r70_23, hc.r70_24, hc.r70_26, hc.r70_27, hc.r70_28, hc.r70_29, hc.r70_30, hc.r70_31, hc.r70_32, hc.r70_33, hc.r70_36, hc.t73, hc.z73]
    (rw [e_264_72]; refine ⟨⟨hc.t70, by decide⟩, ?_⟩)
    rw [m_263 hc (by omega) (by omega) (by dsimp only; rw [up2_self]; omega) (by dsimp only; rw [up2_self]; omega)]
    dsimp only
    rw [up2_self, up2_up2, hbn]
    have ev1 : vm (h.1, up2 h.2 70 35 (drw (drw s))) = vm h := vm_oF (I := h.1) (F := h.2) (by omega)
    have fz1 : Fm X h (h.1, up2 h.2 70 35 (drw (drw s))) := Fm.uF (I := h.1) (F := h.2) (Fm.refl ok) (by omega)
    have f1s : (up2 h.2 70 35 (drw (drw s))) 70 35 = drw (drw s) := up2_self
    have f12 : (up2 h.2 70 35 (drw (drw s))) 70 2 = h.2 70 2 := by rw [up2_same, if_neg (by decide)]
    have f13 : (up2 h.2 70 35 (drw (drw s))) 70 3 = h.2 70 3 := by rw [up2_same, if_neg (by decide)]
    generalize hh1 : ((h.1, up2 h.2 70 35 (drw (drw s))) : xH) = h1 at *
    have r1 : h1.1 = h.1 := by rw [← hh1]
    have s2 : h1.2 70 35 = drw (drw s) := by rw [← hh1]; exact f1s
    have r2 : h1.2 70 2 = h.2 70 2 := by rw [← hh1]; exact f12
    have r3 : h1.2 70 3 = h.2 70 3 := by rw [← hh1]; exact f13
    have ok1 := fz1.ok ok
    have g1 : WG (vm h1) := by rw [ev1]; exact g
    have tm1 : TMb (h1.1 72) := by rw [r1]; exact tm
    have ht1 : h1.1 72 4 = t := by rw [r1]; exact ht
    have t8 : (7 * he).tdiv 8 = 7 * he / 8 := td_n (by omega)
    have tail : ∀ h2 x10, Fm X h1 h2 → M73 h1 h2 → vm h2 = shv (vm h) t n he s → Ev X 264 99 [some (vr 70), some (vi sd), some (vi tries), some (vi he0), some (vi he), some (vi bef), some (vi l), some (vi i), some (vi an), some (vi bn), x10] [] h2 Q := by
      intro h2 x10 fm2 p2 e2
      have g2 : WG (vm h2) := by
        rw [e2]
        unfold shv
        split
        · exact exW_wg g
        · exact g
      have wb2 := wir_bd g2 t0 t1
      have t2 : h2.1 72 = h.1 72 := by rw [p2.1 72 (by omega), r1]
      have tm2 : TMb (h2.1 72) := by rw [t2]; exact tm
      have ht2 : h2.1 72 4 = t := by rw [t2]; exact ht
      have n2 : vm h2 11 0 = n := by
        rw [e2]
        unfold shv
        split
        · rw [exW_o (by omega)]; exact hs
        · exact hs
      have q2 : h2.2 70 35 = drw (drw s) := by rw [p2.2]; exact s2
      have fz2 := fz1.tr fm2
      have ok2 := fz2.ok ok
      have r77 : h2.1 77 = h.1 77 := by rw [p2.1 77 (by omega), r1]
      have r70 : h2.2 70 2 = h.2 70 2 ∧ h2.2 70 3 = h.2 70 3 := by rw [p2.2]; exact ⟨r2, r3⟩
      rw [← e2] at hq
      rw [e_264_99]
      by_cases y : wir (vm h2) t < l
      · rw [if_pos y, if_pos y] at hq
        simp (disch := first | assumption | omega) only [e_264_100, e_264_101, e_264_102, e_264_103, e_264_104, e_264_105, e_264_106, e_264_107, e_264_108, e_264_109, e_264_110, e_264_111, e_264_112, e_264_113, e_264_114, e_264_115, e_264_116, e_264_117, e_264_118, e_264_119, e_264_120, onI_s, onR_s, onL_s, gl_0, gl_n, gl_1, gl_2, gl_3, gl_4, gl_5, gl_6, gl_7, gl_8, gl_9, gl_10, gl_11, gl_12, gl_13, gl_14, gl_15, gl_16, gl_17, sk0i, sk0r, sk0n, sk1i, sk1r, sk1n, sk_2, sk_3, sk_4, sk_5, sk_6, sk_7, sk_8, sk_9, sk_10, sk_11, sk_12, sk_13, sk_14, sk_15, sk_16, sk_17, ls_0, ls_1, ls_2, ls_3, ls_4, ls_5, ls_6, ls_7, ls_8, ls_9, ls_10, ls_11, ls_12, ls_13, ls_14, ls_15, ls_16, ls_17, ct1_i, ct1_r, wd8_0, wd8_i1, wd8_r1, wd8_i2, wd8_r2, wd8_i3, wd8_r3, wd8_i4, wd8_r4, wd8_i5, wd8_r5, wd8_i6, wd8_r6, wd8_i7, wd8_r7, wd8_i8, wd8_r8, wd8_l2, wd8_l3, wd8_l4, wd8_l5, wd8_l6, wd8_l7, wd8_l8, tl_s, tl_n, inR_t, bd_t, true_and, and_true, true_or, or_true, if_true_x, if_false_x, if_pos, if_neg, Int.toNat_natCast, natL, bI_0, bI_1, bI_ft, eq_self, b_tf, b_ft, not_true_eq_false, not_false_eq_true, wirM hc g2 tm2, ht2, m_155_73_77 hc, tn_0, dv_t, dvR, t8, nz_8, cast_s, hc.t70, hc.r70_4, hc.r70_5, hc.r70_6, hc.r70_7, hc.r70_8, hc.r70_10, hc.r70_11, hc.r70_12, hc.r70_14, hc.r70_15, hc.r70_16, hc.r70_17, hc.r70_19, hc.r70_21, hc.r70_23, hc.r70_24, hc.r70_26, hc.r70_27, hc.r70_28, hc.r70_29, hc.r70_30, hc.r70_31, hc.r70_32, hc.r70_33, hc.r70_36, hc.t77, hc.z77]
        have f3 := Fm.I1 (X := X) (h := h2) (I := h2.1) (F := h2.2) (a := 77) (g := cpS (h2.1 73) (h2.1 77) 0 0 400) (Fm.refl ok2) (by omega) (fun j hj => by
          rw [hc.z77] at hj
          unfold cpS
          rw [if_neg (by omega)]
          exact ok2.1 77 j (Or.inl hc.t77) (by rw [hc.z77]; exact hj))
        have ev3 : vm (up1 h2.1 77 (cpS (h2.1 73) (h2.1 77) 0 0 400), h2.2) = vm h2 := vm_o1 (by omega)
        refine ih (i + 1) _ (wir (vm h2) t) (7 * he / 8) (drw (drw s)) (vm h2) _ _ _ (f3.ok ok2) (by rw [ev3]; exact g2) (by dsimp only; rw [up1_o (by omega)]; exact tm2) (by dsimp only; rw [up1_o (by omega)]; exact ht2) (by rw [ev3]; exact n2) q2 d2.1 d2.2 (by omega) (by omega) wb2.1 wb2.2 ?_ ?_ (by omega) (fun h4 f4 e4 => ?_)
        · dsimp only
          rw [up1_self]
          exact rv_congr (fun i hi => cpS_i hi)
        · dsimp only
          rw [up1_self]
          exact RBr_congr (fun i hi => cpS_i hi) ok2.2.2.2.1.2.1
        · rw [ev3] at e4 ⊢
          exact hq h4 ((fz2.tr f3).tr f4) e4
      · rw [if_neg y, if_neg y] at hq
        simp (disch := first | assumption | omega) only [e_264_100, e_264_101, e_264_102, e_264_103, e_264_104, e_264_105, e_264_106, e_264_107, e_264_108, e_264_119, e_264_120, onI_s, onR_s, onL_s, gl_0, gl_n, gl_1, gl_2, gl_3, gl_4, gl_5, gl_6, gl_7, gl_8, gl_9, gl_10, gl_11, gl_12, gl_13, gl_14, gl_15, gl_16, gl_17, sk0i, sk0r, sk0n, sk1i, sk1r, sk1n, sk_2, sk_3, sk_4, sk_5, sk_6, sk_7, sk_8, sk_9, sk_10, sk_11, sk_12, sk_13, sk_14, sk_15, sk_16, sk_17, ls_0, ls_1, ls_2, ls_3, ls_4, ls_5, ls_6, ls_7, ls_8, ls_9, ls_10, ls_11, ls_12, ls_13, ls_14, ls_15, ls_16, ls_17, ct1_i, ct1_r, wd8_0, wd8_i1, wd8_r1, wd8_i2, wd8_r2, wd8_i3, wd8_r3, wd8_i4, wd8_r4, wd8_i5, wd8_r5, wd8_i6, wd8_r6, wd8_i7, wd8_r7, wd8_i8, wd8_r8, wd8_l2, wd8_l3, wd8_l4, wd8_l5, wd8_l6, wd8_l7, wd8_l8, tl_s, tl_n, inR_t, bd_t, true_and, and_true, true_or, or_true, if_true_x, if_false_x, if_pos, if_neg, Int.toNat_natCast, natL, bI_0, bI_1, bI_ft, eq_self, b_tf, b_ft, not_true_eq_false, not_false_eq_true, wirM hc g2 tm2, ht2, dv_t, dvR, t8, nz_8, cast_s, hc.t70, hc.r70_4, hc.r70_5, hc.r70_6, hc.r70_7, hc.r70_8, hc.r70_10, hc.r70_11, hc.r70_12, hc.r70_14, hc.r70_15, hc.r70_16, hc.r70_17, hc.r70_19, hc.r70_21, hc.r70_23, hc.r70_24, hc.r70_26, hc.r70_27, hc.r70_28, hc.r70_29, hc.r70_30, hc.r70_31, hc.r70_32, hc.r70_33, hc.r70_36]
        refine ih (i + 1) h2 l (7 * he / 8) (drw (drw s)) best _ _ _ ok2 g2 tm2 ht2 n2 q2 d2.1 d2.2 (by omega) (by omega) l0 l1 (by rw [r77, r70.1, r70.2]; exact hb) (by rw [r77]; exact hrb) (by omega) (fun h4 f4 e4 => hq h4 (fz2.tr f4) e4)
    have sv : shv (vm h) t n he s = if ¬ (an : Int) = bn ∧ likB (vm h) an bn = true then exW (vm h) t an bn (wir (vm h) t + he) else vm h := by
      unfold shv
      rw [ha, hbn, Int.toNat_natCast, Int.toNat_natCast]
    by_cases y0 : (an : Int) = bn
    · rw [if_neg (fun q => q.1 y0)] at sv
      simp (disch := first | assumption | omega) only [e_264_73, e_264_74, e_264_75, e_264_76, onI_s, onR_s, onL_s, gl_0, gl_n, gl_1, gl_2, gl_3, gl_4, gl_5, gl_6, gl_7, gl_8, gl_9, gl_10, gl_11, gl_12, gl_13, gl_14, gl_15, gl_16, gl_17, sk0i, sk0r, sk0n, sk1i, sk1r, sk1n, sk_2, sk_3, sk_4, sk_5, sk_6, sk_7, sk_8, sk_9, sk_10, sk_11, sk_12, sk_13, sk_14, sk_15, sk_16, sk_17, ls_0, ls_1, ls_2, ls_3, ls_4, ls_5, ls_6, ls_7, ls_8, ls_9, ls_10, ls_11, ls_12, ls_13, ls_14, ls_15, ls_16, ls_17, ct1_i, ct1_r, wd8_0, wd8_i1, wd8_r1, wd8_i2, wd8_r2, wd8_i3, wd8_r3, wd8_i4, wd8_r4, wd8_i5, wd8_r5, wd8_i6, wd8_r6, wd8_i7, wd8_r7, wd8_i8, wd8_r8, wd8_l2, wd8_l3, wd8_l4, wd8_l5, wd8_l6, wd8_l7, wd8_l8, tl_s, tl_n, inR_t, bd_t, true_and, and_true, true_or, or_true, if_true_x, if_false_x, if_pos, if_neg, Int.toNat_natCast, natL, bI_0, bI_1, bI_ft, eq_self, b_tf, b_ft, not_true_eq_false, not_false_eq_true]
      exact tail h1 _ (Fm.refl ok1) M73.refl (by rw [ev1, sv])
    · cases y : likB (vm h) an bn
      · rw [if_neg (fun q => by rw [y] at q; cases q.2)] at sv
        simp (disch := first | assumption | omega) only [e_264_73, e_264_74, e_264_75, e_264_76, e_264_77, e_264_78, e_264_79, e_264_80, e_264_81, onI_s, onR_s, onL_s, gl_0, gl_n, gl_1, gl_2, gl_3, gl_4, gl_5, gl_6, gl_7, gl_8, gl_9, gl_10, gl_11, gl_12, gl_13, gl_14, gl_15, gl_16, gl_17, sk0i, sk0r, sk0n, sk1i, sk1r, sk1n, sk_2, sk_3, sk_4, sk_5, sk_6, sk_7, sk_8, sk_9, sk_10, sk_11, sk_12, sk_13, sk_14, sk_15, sk_16, sk_17, ls_0, ls_1, ls_2, ls_3, ls_4, ls_5, ls_6, ls_7, ls_8, ls_9, ls_10, ls_11, ls_12, ls_13, ls_14, ls_15, ls_16, ls_17, ct1_i, ct1_r, wd8_0, wd8_i1, wd8_r1, wd8_i2, wd8_r2, wd8_i3, wd8_r3, wd8_i4, wd8_r4, wd8_i5, wd8_r5, wd8_i6, wd8_r6, wd8_i7, wd8_r7, wd8_i8, wd8_r8, wd8_l2, wd8_l3, wd8_l4, wd8_l5, wd8_l6, wd8_l7, wd8_l8, tl_s, tl_n, inR_t, bd_t, true_and, and_true, true_or, or_true, if_true_x, if_false_x, if_pos, if_neg, Int.toNat_natCast, natL, bI_0, bI_1, bI_ft, eq_self, b_tf, b_ft, not_true_eq_false, not_false_eq_true, m_253 hc g1.1, ev1, y, hc.t70, hc.r70_4, hc.r70_5, hc.r70_6, hc.r70_7, hc.r70_8, hc.r70_10, hc.r70_11, hc.r70_12, hc.r70_14, hc.r70_15, hc.r70_16, hc.r70_17, hc.r70_19, hc.r70_21, hc.r70_23, hc.r70_24, hc.r70_26, hc.r70_27, hc.r70_28, hc.r70_29, hc.r70_30, hc.r70_31, hc.r70_32, hc.r70_33, hc.r70_36]
        exact tail h1 _ (Fm.refl ok1) M73.refl (by rw [ev1, sv])
      · rw [if_pos ⟨y0, y⟩] at sv
        simp (disch := first | assumption | omega) only [e_264_73, e_264_74, e_264_75, e_264_76, e_264_77, e_264_78, e_264_79, e_264_80, e_264_81, e_264_82, e_264_83, e_264_84, e_264_85, e_264_86, e_264_87, onI_s, onR_s, onL_s, gl_0, gl_n, gl_1, gl_2, gl_3, gl_4, gl_5, gl_6, gl_7, gl_8, gl_9, gl_10, gl_11, gl_12, gl_13, gl_14, gl_15, gl_16, gl_17, sk0i, sk0r, sk0n, sk1i, sk1r, sk1n, sk_2, sk_3, sk_4, sk_5, sk_6, sk_7, sk_8, sk_9, sk_10, sk_11, sk_12, sk_13, sk_14, sk_15, sk_16, sk_17, ls_0, ls_1, ls_2, ls_3, ls_4, ls_5, ls_6, ls_7, ls_8, ls_9, ls_10, ls_11, ls_12, ls_13, ls_14, ls_15, ls_16, ls_17, ct1_i, ct1_r, wd8_0, wd8_i1, wd8_r1, wd8_i2, wd8_r2, wd8_i3, wd8_r3, wd8_i4, wd8_r4, wd8_i5, wd8_r5, wd8_i6, wd8_r6, wd8_i7, wd8_r7, wd8_i8, wd8_r8, wd8_l2, wd8_l3, wd8_l4, wd8_l5, wd8_l6, wd8_l7, wd8_l8, tl_s, tl_n, inR_t, bd_t, true_and, and_true, true_or, or_true, if_true_x, if_false_x, if_pos, if_neg, Int.toNat_natCast, natL, bI_0, bI_1, bI_ft, eq_self, b_tf, b_ft, not_true_eq_false, not_false_eq_true, m_253 hc g1.1, wirM hc g1 tm1, ht1, ev1, y, hc.t70, hc.r70_4, hc.r70_5, hc.r70_6, hc.r70_7, hc.r70_8, hc.r70_10, hc.r70_11, hc.r70_12, hc.r70_14, hc.r70_15, hc.r70_16, hc.r70_17, hc.r70_19, hc.r70_21, hc.r70_23, hc.r70_24, hc.r70_26, hc.r70_27, hc.r70_28, hc.r70_29, hc.r70_30, hc.r70_31, hc.r70_32, hc.r70_33, hc.r70_36]
        (rw [e_264_88]; refine ⟨⟨hc.t70, by decide⟩, ?_⟩)
        refine m_254p hc ok1 a20 b20 (fun h2 f2 p2 e2 => ?_)
        rw [ev1] at e2
        have g2 : WG (vm h2) := by rw [e2]; exact exV_wg g
        have t2 : h2.1 72 = h.1 72 := by rw [p2.1 72 (by omega), r1]
        have tm2 : TMb (h2.1 72) := by rw [t2]; exact tm
        have ht2 : h2.1 72 4 = t := by rw [t2]; exact ht
        unfold exW at sv
        rw [← e2] at sv
        by_cases y3 : wir (vm h2) t ≤ wir (vm h) t + he
        · rw [if_pos y3] at sv
          simp (disch := first | assumption | omega) only [e_264_89, e_264_90, e_264_91, e_264_92, e_264_93, e_264_94, onI_s, onR_s, onL_s, gl_0, gl_n, gl_1, gl_2, gl_3, gl_4, gl_5, gl_6, gl_7, gl_8, gl_9, gl_10, gl_11, gl_12, gl_13, gl_14, gl_15, gl_16, gl_17, sk0i, sk0r, sk0n, sk1i, sk1r, sk1n, sk_2, sk_3, sk_4, sk_5, sk_6, sk_7, sk_8, sk_9, sk_10, sk_11, sk_12, sk_13, sk_14, sk_15, sk_16, sk_17, ls_0, ls_1, ls_2, ls_3, ls_4, ls_5, ls_6, ls_7, ls_8, ls_9, ls_10, ls_11, ls_12, ls_13, ls_14, ls_15, ls_16, ls_17, ct1_i, ct1_r, wd8_0, wd8_i1, wd8_r1, wd8_i2, wd8_r2, wd8_i3, wd8_r3, wd8_i4, wd8_r4, wd8_i5, wd8_r5, wd8_i6, wd8_r6, wd8_i7, wd8_r7, wd8_i8, wd8_r8, wd8_l2, wd8_l3, wd8_l4, wd8_l5, wd8_l6, wd8_l7, wd8_l8, tl_s, tl_n, inR_t, bd_t, true_and, and_true, true_or, or_true, if_true_x, if_false_x, if_pos, if_neg, Int.toNat_natCast, natL, bI_0, bI_1, bI_ft, eq_self, b_tf, b_ft, not_true_eq_false, not_false_eq_true, wirM hc g2 tm2, ht2, hc.t70, hc.r70_4, hc.r70_5, hc.r70_6, hc.r70_7, hc.r70_8, hc.r70_10, hc.r70_11, hc.r70_12, hc.r70_14, hc.r70_15, hc.r70_16, hc.r70_17, hc.r70_19, hc.r70_21, hc.r70_23, hc.r70_24, hc.r70_26, hc.r70_27, hc.r70_28, hc.r70_29, hc.r70_30, hc.r70_31, hc.r70_32, hc.r70_33, hc.r70_36]
          exact tail h2 _ f2 p2 sv.symm
        · rw [if_neg y3] at sv
          simp (disch := first | assumption | omega) only [e_264_89, e_264_90, e_264_91, e_264_92, e_264_93, e_264_94, e_264_95, e_264_96, e_264_97, onI_s, onR_s, onL_s, gl_0, gl_n, gl_1, gl_2, gl_3, gl_4, gl_5, gl_6, gl_7, gl_8, gl_9, gl_10, gl_11, gl_12, gl_13, gl_14, gl_15, gl_16, gl_17, sk0i, sk0r, sk0n, sk1i, sk1r, sk1n, sk_2, sk_3, sk_4, sk_5, sk_6, sk_7, sk_8, sk_9, sk_10, sk_11, sk_12, sk_13, sk_14, sk_15, sk_16, sk_17, ls_0, ls_1, ls_2, ls_3, ls_4, ls_5, ls_6, ls_7, ls_8, ls_9, ls_10, ls_11, ls_12, ls_13, ls_14, ls_15, ls_16, ls_17, ct1_i, ct1_r, wd8_0, wd8_i1, wd8_r1, wd8_i2, wd8_r2, wd8_i3, wd8_r3, wd8_i4, wd8_r4, wd8_i5, wd8_r5, wd8_i6, wd8_r6, wd8_i7, wd8_r7, wd8_i8, wd8_r8, wd8_l2, wd8_l3, wd8_l4, wd8_l5, wd8_l6, wd8_l7, wd8_l8, tl_s, tl_n, inR_t, bd_t, true_and, and_true, true_or, or_true, if_true_x, if_false_x, if_pos, if_neg, Int.toNat_natCast, natL, bI_0, bI_1, bI_ft, eq_self, b_tf, b_ft, not_true_eq_false, not_false_eq_true, wirM hc g2 tm2, ht2, hc.t70, hc.r70_4, hc.r70_5, hc.r70_6, hc.r70_7, hc.r70_8, hc.r70_10, hc.r70_11, hc.r70_12, hc.r70_14, hc.r70_15, hc.r70_16, hc.r70_17, hc.r70_19, hc.r70_21, hc.r70_23, hc.r70_24, hc.r70_26, hc.r70_27, hc.r70_28, hc.r70_29, hc.r70_30, hc.r70_31, hc.r70_32, hc.r70_33, hc.r70_36]
          (rw [e_264_98]; refine ⟨⟨hc.t70, by decide⟩, ?_⟩)
          refine m_254p hc (f2.ok ok1) a20 b20 (fun h3 f3 p3 e3 => ?_)
          rw [e2, exV_2] at e3
          exact tail h3 _ (f2.tr f3) (p2.tr p3) (by rw [e3, sv])
set_option maxHeartbeats 4000000 in
theorem q_264 {h : xH} {sd n he : Int} (ok : Ok X h) (rf : RFb (h.1 71)) (g : Gd (vm h)) (tm : TMb (h.1 72)) (hq : ∀ h2, Mst X h h2 → mS h2 = (spShake (mS h) sd n he).2 → Q (some (vi (spShake (mS h) sd n he).1)) h2) : Ev X 264 3 [some (vr 70), some (vi sd), some (vi n), some (vi he), none, none, none, none, none, none, none] [] h Q := by
  have ok0 := ok
  obtain ⟨z, os, oc, om, ⟨nb, ln, hc, hnb⟩, lp⟩ := ok
  have hw := g.rg
  have nC := hw.nC
  have tt := tm.tall
  have wb := wir_bd g.wg tt.1 tt.2
  unfold spShake at hq
  rw [show (mS h).1 = vm h from rfl, show (mS h).2.1 = h.1 72 from rfl] at hq
  by_cases g1 : (0 ≤ sd ∧ sd ≤ 1000000) ∧ (1 ≤ n ∧ n ≤ 60) ∧ (0 ≤ he ∧ he ≤ 9999)
  · rw [if_neg (not_not_intro g1)] at hq
    have d1 := bT g1.1
    have d2 := bT g1.2.1
    have d3 := bT g1.2.2
    by_cases g2 : vm h 11 0 = 0
    · rw [if_pos g2] at hq
      simp (disch := first | assumption | omega) only [e_264_3, e_264_4, e_264_5, e_264_6, e_264_7, e_264_8, e_264_9, e_264_10, e_264_11, e_264_12, e_264_13, e_264_14, e_264_15, e_264_16, e_264_17, e_264_18, e_264_19, e_264_20, e_264_25, e_264_26, e_264_27, e_264_28, e_264_29, e_264_30, e_264_31, e_264_32, e_264_33, onI_s, onR_s, onL_s, gl_0, gl_n, gl_1, gl_2, gl_3, gl_4, gl_5, gl_6, gl_7, gl_8, gl_9, gl_10, gl_11, gl_12, gl_13, gl_14, gl_15, gl_16, gl_17, sk0i, sk0r, sk0n, sk1i, sk1r, sk1n, sk_2, sk_3, sk_4, sk_5, sk_6, sk_7, sk_8, sk_9, sk_10, sk_11, sk_12, sk_13, sk_14, sk_15, sk_16, sk_17, ls_0, ls_1, ls_2, ls_3, ls_4, ls_5, ls_6, ls_7, ls_8, ls_9, ls_10, ls_11, ls_12, ls_13, ls_14, ls_15, ls_16, ls_17, ct1_i, ct1_r, wd8_0, wd8_i1, wd8_r1, wd8_i2, wd8_r2, wd8_i3, wd8_r3, wd8_i4, wd8_r4, wd8_i5, wd8_r5, wd8_i6, wd8_r6, wd8_i7, wd8_r7, wd8_i8, wd8_r8, wd8_l2, wd8_l3, wd8_l4, wd8_l5, wd8_l6, wd8_l7, wd8_l8, tl_s, tl_n, inR_t, bd_t, true_and, and_true, true_or, or_true, if_true_x, if_false_x, if_pos, if_neg, Int.toNat_natCast, natL, bI_0, bI_1, bI_ft, eq_self, b_tf, b_ft, not_true_eq_false, not_false_eq_true, m_149, d1, d2, d3, tn_2, vm_nC, g2, rfM ok0 rf, hc.t70, hc.r70_4, hc.r70_5, hc.r70_6, hc.r70_7, hc.r70_8, hc.r70_10, hc.r70_11, hc.r70_12, hc.r70_14, hc.r70_15, hc.r70_16, hc.r70_17, hc.r70_19, hc.r70_21, hc.r70_23, hc.r70_24, hc.r70_26, hc.r70_27, hc.r70_28, hc.r70_29, hc.r70_30, hc.r70_31, hc.r70_32, hc.r70_33, hc.r70_36, hc.t73, hc.z73]
      exact hq _ (rM_st ok0 rf (by omega) (by omega)).1 (rM_st ok0 rf (by omega) (by omega)).2
    · rw [if_neg g2] at hq
      simp (disch := first | assumption | omega) only [e_264_3, e_264_4, e_264_5, e_264_6, e_264_7, e_264_8, e_264_9, e_264_10, e_264_11, e_264_12, e_264_13, e_264_14, e_264_15, e_264_16, e_264_17, e_264_18, e_264_19, e_264_20, e_264_25, e_264_26, e_264_27, e_264_28, e_264_29, e_264_34, e_264_35, onI_s, onR_s, onL_s, gl_0, gl_n, gl_1, gl_2, gl_3, gl_4, gl_5, gl_6, gl_7, gl_8, gl_9, gl_10, gl_11, gl_12, gl_13, gl_14, gl_15, gl_16, gl_17, sk0i, sk0r, sk0n, sk1i, sk1r, sk1n, sk_2, sk_3, sk_4, sk_5, sk_6, sk_7, sk_8, sk_9, sk_10, sk_11, sk_12, sk_13, sk_14, sk_15, sk_16, sk_17, ls_0, ls_1, ls_2, ls_3, ls_4, ls_5, ls_6, ls_7, ls_8, ls_9, ls_10, ls_11, ls_12, ls_13, ls_14, ls_15, ls_16, ls_17, ct1_i, ct1_r, wd8_0, wd8_i1, wd8_r1, wd8_i2, wd8_r2, wd8_i3, wd8_r3, wd8_i4, wd8_r4, wd8_i5, wd8_r5, wd8_i6, wd8_r6, wd8_i7, wd8_r7, wd8_i8, wd8_r8, wd8_l2, wd8_l3, wd8_l4, wd8_l5, wd8_l6, wd8_l7, wd8_l8, tl_s, tl_n, inR_t, bd_t, true_and, and_true, true_or, or_true, if_true_x, if_false_x, if_pos, if_neg, Int.toNat_natCast, natL, bI_0, bI_1, bI_ft, eq_self, b_tf, b_ft, not_true_eq_false, not_false_eq_true, m_149, d1, d2, d3, tn_2, vm_nC, g2, hc.t70, hc.r70_4, hc.r70_5, hc.r70_6, hc.r70_7, hc.r70_8, hc.r70_10, hc.r70_11, hc.r70_12, hc.r70_14, hc.r70_15, hc.r70_16, hc.r70_17, hc.r70_19, hc.r70_21, hc.r70_23, hc.r70_24, hc.r70_26, hc.r70_27, hc.r70_28, hc.r70_29, hc.r70_30, hc.r70_31, hc.r70_32, hc.r70_33, hc.r70_36, hc.t73, hc.z73]
      (rw [e_264_36]; refine ⟨⟨hc.t70, by decide⟩, ?_⟩)
      refine kpM ok0 (fun h2 k => ?_)
      have ev : vm (h2.1, up2 h2.2 70 35 sd) = vm h := (vm_oF (I := h2.1) (F := h2.2) (by omega)).trans k.pv
      have g2 : WG (vm (h2.1, up2 h2.2 70 35 sd)) := by rw [ev]; exact g.wg
      have tm2 : TMb (((h2.1, up2 h2.2 70 35 sd) : xH).1 72) := by dsimp only; rw [k.t]; exact tm
      simp (disch := first | assumption | omega) only [e_264_37, e_264_38, e_264_39, e_264_40, e_264_41, e_264_42, e_264_43, e_264_44, e_264_45, e_264_46, e_264_47, e_264_48, e_264_49, e_264_50, e_264_51, e_264_52, e_264_53, e_264_54, e_264_55, e_264_56, onI_s, onR_s, onL_s, gl_0, gl_n, gl_1, gl_2, gl_3, gl_4, gl_5, gl_6, gl_7, gl_8, gl_9, gl_10, gl_11, gl_12, gl_13, gl_14, gl_15, gl_16, gl_17, sk0i, sk0r, sk0n, sk1i, sk1r, sk1n, sk_2, sk_3, sk_4, sk_5, sk_6, sk_7, sk_8, sk_9, sk_10, sk_11, sk_12, sk_13, sk_14, sk_15, sk_16, sk_17, ls_0, ls_1, ls_2, ls_3, ls_4, ls_5, ls_6, ls_7, ls_8, ls_9, ls_10, ls_11, ls_12, ls_13, ls_14, ls_15, ls_16, ls_17, ct1_i, ct1_r, wd8_0, wd8_i1, wd8_r1, wd8_i2, wd8_r2, wd8_i3, wd8_r3, wd8_i4, wd8_r4, wd8_i5, wd8_r5, wd8_i6, wd8_r6, wd8_i7, wd8_r7, wd8_i8, wd8_r8, wd8_l2, wd8_l3, wd8_l4, wd8_l5, wd8_l6, wd8_l7, wd8_l8, tl_s, tl_n, inR_t, bd_t, true_and, and_true, true_or, or_true, if_true_x, if_false_x, if_pos, if_neg, Int.toNat_natCast, natL, bI_0, bI_1, bI_ft, eq_self, b_tf, b_ft, not_true_eq_false, not_false_eq_true, wirM hc g2 tm2, ev, k.t, m_155_73_77 hc, tn_0, hc.t70, hc.r70_4, hc.r70_5, hc.r70_6, hc.r70_7, hc.r70_8, hc.r70_10, hc.r70_11, hc.r70_12, hc.r70_14, hc.r70_15, hc.r70_16, hc.r70_17, hc.r70_19, hc.r70_21, hc.r70_23, hc.r70_24, hc.r70_26, hc.r70_27, hc.r70_28, hc.r70_29, hc.r70_30, hc.r70_31, hc.r70_32, hc.r70_33, hc.r70_36, hc.t77, hc.z77]
      have f1 := Fm.uF (X := X) (h := h2) (I := h2.1) (F := h2.2) (k := 35) (x := sd) (Fm.refl k.1) (by omega)
      have f2 := Fm.I1 (a := 77) (g := cpS (h2.1 73) (h2.1 77) 0 0 400) f1 (by omega) (fun j hj => by
        rw [hc.z77] at hj
        unfold cpS
        rw [if_neg (by omega)]
        exact k.1.1 77 j (Or.inl hc.t77) (by rw [hc.z77]; exact hj))
      have ev2 : vm (up1 h2.1 77 (cpS (h2.1 73) (h2.1 77) 0 0 400), up2 h2.2 70 35 sd) = vm h := (vm_o1 (by omega)).trans ev
      obtain ⟨nn, hnn⟩ : ∃ nn : Nat, n = nn := ⟨n.toNat, by omega⟩
      obtain ⟨N, hN⟩ : ∃ N : Nat, vm h 11 0 = N := ⟨(vm h 11 0).toNat, by omega⟩
      subst hnn
      have er : shR (vm h) (h.1 72 4) sd nn he = shk (h.1 72 4) N nn (vm h) (wir (vm h) (h.1 72 4)) (vm h) he sd := by
        unfold shR
        rw [hN, Int.toNat_natCast]
      rw [er] at hq
      refine l_264 hc (n := N) (tries := nn) (sd := sd) (he0 := he) (bef := wir (vm h) (h.1 72 4)) (t := h.1 72 4) (by omega) (by omega) tt.1 tt.2 wb.1 wb.2 (by omega) nn 0 _ (wir (vm h) (h.1 72 4)) he sd (vm h) none none none (f2.ok k.1) (by rw [ev2]; exact g.wg) (by dsimp only; rw [up1_o (by omega), k.t]; exact tm) (by dsimp only; rw [up1_o (by omega), k.t]) (by rw [ev2]; exact hN) (by dsimp only; rw [up2_self]) (by omega) (by omega) (by omega) (by omega) wb.1 wb.2 ?_ ?_ (by omega) (fun h3 f3 e3 l0 l1 x4 x7 x8 x9 x10 => ?_)
      · dsimp only
        rw [up1_self, ← ev]
        exact rv_congr (fun i hi => cpS_i hi)
      · dsimp only
        rw [up1_self]
        exact RBr_congr (fun i hi => cpS_i hi) k.1.2.2.2.1.2.1
      · rw [ev2] at e3 l0 l1 ⊢
        rw [e_264_128]
        simp (disch := first | assumption | omega) only [e_264_129, e_264_130, e_264_131, e_264_132, e_264_133, onI_s, onR_s, onL_s, gl_0, gl_n, gl_1, gl_2, gl_3, gl_4, gl_5, gl_6, gl_7, gl_8, gl_9, gl_10, gl_11, gl_12, gl_13, gl_14, gl_15, gl_16, gl_17, sk0i, sk0r, sk0n, sk1i, sk1r, sk1n, sk_2, sk_3, sk_4, sk_5, sk_6, sk_7, sk_8, sk_9, sk_10, sk_11, sk_12, sk_13, sk_14, sk_15, sk_16, sk_17, ls_0, ls_1, ls_2, ls_3, ls_4, ls_5, ls_6, ls_7, ls_8, ls_9, ls_10, ls_11, ls_12, ls_13, ls_14, ls_15, ls_16, ls_17, ct1_i, ct1_r, wd8_0, wd8_i1, wd8_r1, wd8_i2, wd8_r2, wd8_i3, wd8_r3, wd8_i4, wd8_r4, wd8_i5, wd8_r5, wd8_i6, wd8_r6, wd8_i7, wd8_r7, wd8_i8, wd8_r8, wd8_l2, wd8_l3, wd8_l4, wd8_l5, wd8_l6, wd8_l7, wd8_l8, tl_s, tl_n, inR_t, bd_t, true_and, and_true, true_or, or_true, if_true_x, if_false_x, if_pos, if_neg, Int.toNat_natCast, natL, bI_0, bI_1, bI_ft, eq_self, b_tf, b_ft, not_true_eq_false, not_false_eq_true, m_153 hc, hc.t70, hc.r70_4, hc.r70_5, hc.r70_6, hc.r70_7, hc.r70_8, hc.r70_10, hc.r70_11, hc.r70_12, hc.r70_14, hc.r70_15, hc.r70_16, hc.r70_17, hc.r70_19, hc.r70_21, hc.r70_23, hc.r70_24, hc.r70_26, hc.r70_27, hc.r70_28, hc.r70_29, hc.r70_30, hc.r70_31, hc.r70_32, hc.r70_33, hc.r70_36]
        exact hq _ (act_m (r := 0) k (f2.tr f3) e3).1 (act_m (r := 0) k (f2.tr f3) e3).2
  · rw [if_pos g1] at hq
    by_cases y1 : 0 ≤ sd ∧ sd ≤ 1000000
    · by_cases y2 : 1 ≤ n ∧ n ≤ 60
      · have d1 := bT y1
        have d2 := bT y2
        have d3 := bF (show ¬ (0 ≤ he ∧ he ≤ 9999) from fun q => g1 ⟨y1, y2, q⟩)
        simp (disch := first | assumption | omega) only [e_264_3, e_264_4, e_264_5, e_264_6, e_264_7, e_264_8, e_264_9, e_264_10, e_264_11, e_264_12, e_264_13, e_264_14, e_264_15, e_264_16, e_264_17, e_264_18, e_264_19, e_264_20, e_264_21, e_264_22, e_264_23, e_264_24, onI_s, onR_s, onL_s, gl_0, gl_n, gl_1, gl_2, gl_3, gl_4, gl_5, gl_6, gl_7, gl_8, gl_9, gl_10, gl_11, gl_12, gl_13, gl_14, gl_15, gl_16, gl_17, sk0i, sk0r, sk0n, sk1i, sk1r, sk1n, sk_2, sk_3, sk_4, sk_5, sk_6, sk_7, sk_8, sk_9, sk_10, sk_11, sk_12, sk_13, sk_14, sk_15, sk_16, sk_17, ls_0, ls_1, ls_2, ls_3, ls_4, ls_5, ls_6, ls_7, ls_8, ls_9, ls_10, ls_11, ls_12, ls_13, ls_14, ls_15, ls_16, ls_17, ct1_i, ct1_r, wd8_0, wd8_i1, wd8_r1, wd8_i2, wd8_r2, wd8_i3, wd8_r3, wd8_i4, wd8_r4, wd8_i5, wd8_r5, wd8_i6, wd8_r6, wd8_i7, wd8_r7, wd8_i8, wd8_r8, wd8_l2, wd8_l3, wd8_l4, wd8_l5, wd8_l6, wd8_l7, wd8_l8, tl_s, tl_n, inR_t, bd_t, true_and, and_true, true_or, or_true, if_true_x, if_false_x, if_pos, if_neg, Int.toNat_natCast, natL, bI_0, bI_1, bI_ft, eq_self, b_tf, b_ft, not_true_eq_false, not_false_eq_true, m_149, d1, d2, d3, rfM ok0 rf, hc.t70, hc.r70_4, hc.r70_5, hc.r70_6, hc.r70_7, hc.r70_8, hc.r70_10, hc.r70_11, hc.r70_12, hc.r70_14, hc.r70_15, hc.r70_16, hc.r70_17, hc.r70_19, hc.r70_21, hc.r70_23, hc.r70_24, hc.r70_26, hc.r70_27, hc.r70_28, hc.r70_29, hc.r70_30, hc.r70_31, hc.r70_32, hc.r70_33, hc.r70_36]
        exact hq _ (rM_st ok0 rf (by omega) (by omega)).1 (rM_st ok0 rf (by omega) (by omega)).2
      · have d1 := bT y1
        have d2 := bF y2
        simp (disch := first | assumption | omega) only [e_264_3, e_264_4, e_264_5, e_264_6, e_264_7, e_264_8, e_264_9, e_264_10, e_264_11, e_264_12, e_264_13, e_264_14, e_264_21, e_264_22, e_264_23, e_264_24, onI_s, onR_s, onL_s, gl_0, gl_n, gl_1, gl_2, gl_3, gl_4, gl_5, gl_6, gl_7, gl_8, gl_9, gl_10, gl_11, gl_12, gl_13, gl_14, gl_15, gl_16, gl_17, sk0i, sk0r, sk0n, sk1i, sk1r, sk1n, sk_2, sk_3, sk_4, sk_5, sk_6, sk_7, sk_8, sk_9, sk_10, sk_11, sk_12, sk_13, sk_14, sk_15, sk_16, sk_17, ls_0, ls_1, ls_2, ls_3, ls_4, ls_5, ls_6, ls_7, ls_8, ls_9, ls_10, ls_11, ls_12, ls_13, ls_14, ls_15, ls_16, ls_17, ct1_i, ct1_r, wd8_0, wd8_i1, wd8_r1, wd8_i2, wd8_r2, wd8_i3, wd8_r3, wd8_i4, wd8_r4, wd8_i5, wd8_r5, wd8_i6, wd8_r6, wd8_i7, wd8_r7, wd8_i8, wd8_r8, wd8_l2, wd8_l3, wd8_l4, wd8_l5, wd8_l6, wd8_l7, wd8_l8, tl_s, tl_n, inR_t, bd_t, true_and, and_true, true_or, or_true, if_true_x, if_false_x, if_pos, if_neg, Int.toNat_natCast, natL, bI_0, bI_1, bI_ft, eq_self, b_tf, b_ft, not_true_eq_false, not_false_eq_true, m_149, d1, d2, rfM ok0 rf, hc.t70, hc.r70_4, hc.r70_5, hc.r70_6, hc.r70_7, hc.r70_8, hc.r70_10, hc.r70_11, hc.r70_12, hc.r70_14, hc.r70_15, hc.r70_16, hc.r70_17, hc.r70_19, hc.r70_21, hc.r70_23, hc.r70_24, hc.r70_26, hc.r70_27, hc.r70_28, hc.r70_29, hc.r70_30, hc.r70_31, hc.r70_32, hc.r70_33, hc.r70_36]
        exact hq _ (rM_st ok0 rf (by omega) (by omega)).1 (rM_st ok0 rf (by omega) (by omega)).2
    · have d1 := bF y1
      simp (disch := first | assumption | omega) only [e_264_3, e_264_4, e_264_5, e_264_6, e_264_7, e_264_8, e_264_21, e_264_22, e_264_23, e_264_24, onI_s, onR_s, onL_s, gl_0, gl_n, gl_1, gl_2, gl_3, gl_4, gl_5, gl_6, gl_7, gl_8, gl_9, gl_10, gl_11, gl_12, gl_13, gl_14, gl_15, gl_16, gl_17, sk0i, sk0r, sk0n, sk1i, sk1r, sk1n, sk_2, sk_3, sk_4, sk_5, sk_6, sk_7, sk_8, sk_9, sk_10, sk_11, sk_12, sk_13, sk_14, sk_15, sk_16, sk_17, ls_0, ls_1, ls_2, ls_3, ls_4, ls_5, ls_6, ls_7, ls_8, ls_9, ls_10, ls_11, ls_12, ls_13, ls_14, ls_15, ls_16, ls_17, ct1_i, ct1_r, wd8_0, wd8_i1, wd8_r1, wd8_i2, wd8_r2, wd8_i3, wd8_r3, wd8_i4, wd8_r4, wd8_i5, wd8_r5, wd8_i6, wd8_r6, wd8_i7, wd8_r7, wd8_i8, wd8_r8, wd8_l2, wd8_l3, wd8_l4, wd8_l5, wd8_l6, wd8_l7, wd8_l8, tl_s, tl_n, inR_t, bd_t, true_and, and_true, true_or, or_true, if_true_x, if_false_x, if_pos, if_neg, Int.toNat_natCast, natL, bI_0, bI_1, bI_ft, eq_self, b_tf, b_ft, not_true_eq_false, not_false_eq_true, m_149, d1, rfM ok0 rf, hc.t70, hc.r70_4, hc.r70_5, hc.r70_6, hc.r70_7, hc.r70_8, hc.r70_10, hc.r70_11, hc.r70_12, hc.r70_14, hc.r70_15, hc.r70_16, hc.r70_17, hc.r70_19, hc.r70_21, hc.r70_23, hc.r70_24, hc.r70_26, hc.r70_27, hc.r70_28, hc.r70_29, hc.r70_30, hc.r70_31, hc.r70_32, hc.r70_33, hc.r70_36]
      exact hq _ (rM_st ok0 rf (by omega) (by omega)).1 (rM_st ok0 rf (by omega) (by omega)).2
theorem p_264 {h : xH} {sd n he : Int} (ok : Ok X h) (rf : RFb (h.1 71)) (g : Gd (vm h)) (tm : TMb (h.1 72)) (hq : ∀ h2, Mst X h h2 → mS h2 = (spShake (mS h) sd n he).2 → Q (some (vi (spShake (mS h) sd n he).1)) h2) : Cl X 264 [vr 70, vi sd, vi n, vi he] h Q := by
  obtain ⟨nb, ln, hc, hnb⟩ := ok.2.2.2.2.1
  rw [c_264]
  simp (disch := first | assumption | omega) only [e_264_0, e_264_1, e_264_2, onI_s, onR_s, onL_s, gl_0, gl_n, gl_1, gl_2, gl_3, gl_4, gl_5, gl_6, gl_7, gl_8, gl_9, gl_10, gl_11, gl_12, gl_13, gl_14, gl_15, gl_16, gl_17, sk0i, sk0r, sk0n, sk1i, sk1r, sk1n, sk_2, sk_3, sk_4, sk_5, sk_6, sk_7, sk_8, sk_9, sk_10, sk_11, sk_12, sk_13, sk_14, sk_15, sk_16, sk_17, ls_0, ls_1, ls_2, ls_3, ls_4, ls_5, ls_6, ls_7, ls_8, ls_9, ls_10, ls_11, ls_12, ls_13, ls_14, ls_15, ls_16, ls_17, ct1_i, ct1_r, wd8_0, wd8_i1, wd8_r1, wd8_i2, wd8_r2, wd8_i3, wd8_r3, wd8_i4, wd8_r4, wd8_i5, wd8_r5, wd8_i6, wd8_r6, wd8_i7, wd8_r7, wd8_i8, wd8_r8, wd8_l2, wd8_l3, wd8_l4, wd8_l5, wd8_l6, wd8_l7, wd8_l8, tl_s, tl_n, inR_t, bd_t, true_and, and_true, true_or, or_true, if_true_x, if_false_x, if_pos, if_neg, Int.toNat_natCast, natL, bI_0, bI_1, bI_ft, eq_self, b_tf, b_ft, not_true_eq_false, not_false_eq_true, hc.t70]
  exact q_264 (thr_ok ok) rf (by rw [thr_v]; exact g) tm (thr (sp := fun s => spShake s sd n he) ok hq)
end SHM
