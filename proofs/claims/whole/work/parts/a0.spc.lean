/-! SPREAD of the class: the call -/
section PS6
variable {X : xL} {Q : Option xV → xH → Prop} {ns nb ln : Nat} {h : xH}
set_option maxHeartbeats 4000000 in
theorem m_3 (hp : PL X 200) (hc : CT X ns nb ln) (os : OkS h) {v : Nat → Nat → Int} (ev : cv h 200 = v) (z : NZ X h) (g : Gd v) (tm : TMb (h.1 1)) (bn : BNv X h v (nbC v) (nbT v) nb) (en : nb = nbn v) (ps : PTo (h.1 23) (nbT v) (nbC v) (sup v)) (pn : PTo (h.1 24) (nbT v) (nbC v) (ned v)) {n : Nat} (n10 : n ≤ 10) (hq : ∀ h2, NZ X h2 → PF h h2 → cv h2 200 = sdN (h.1 1) (v 11 0).toNat n v → Q (some (vi (csN v (h.1 1) - csN (sdN (h.1 1) (v 11 0).toNat n v) (h.1 1)))) h2) : Cl X 3 [vr 26, vr 200, vi n] h Q := by
  have nC := g.rg.nC
  have nn := nb_b g.rg
  rw [c_3]
  simp (disch := first | assumption | omega) only [e_3_0, e_3_1, onI_s, onR_s, onL_s, gl_0, gl_n, gl_1, gl_2, gl_3, gl_4, gl_5, gl_6, gl_7, gl_8, gl_9, gl_10, gl_11, gl_12, gl_13, gl_14, gl_15, gl_16, gl_17, sk0i, sk0r, sk0n, sk1i, sk1r, sk1n, sk_2, sk_3, sk_4, sk_5, sk_6, sk_7, sk_8, sk_9, sk_10, sk_11, sk_12, sk_13, sk_14, sk_15, sk_16, sk_17, ls_0, ls_1, ls_2, ls_3, ls_4, ls_5, ls_6, ls_7, ls_8, ls_9, ls_10, ls_11, ls_12, ls_13, ls_14, ls_15, ls_16, ls_17, ct1_i, ct1_r, wd8_0, wd8_i1, wd8_r1, wd8_i2, wd8_r2, wd8_i3, wd8_r3, wd8_i4, wd8_r4, wd8_i5, wd8_r5, wd8_i6, wd8_r6, wd8_i7, wd8_r7, wd8_i8, wd8_r8, wd8_l2, wd8_l3, wd8_l4, wd8_l5, wd8_l6, wd8_l7, wd8_l8, tl_s, tl_n, inR_t, bd_t, true_and, and_true, true_or, or_true, if_true_x, if_false_x, if_pos, if_neg, Int.toNat_natCast, natL, bI_0, bI_1, bI_ft, eq_self, b_tf, b_ft, not_true_eq_false, not_false_eq_true]
  (rw [e_3_2]; refine ⟨⟨hc.t26, by simp [wd_i, wd_r, wd_l, wd_0]⟩, ?_⟩)
  refine m_2 hp hc (C := nbC v) (T := nbT v) z (by rw [ev]; exact g.wg) tm bn.1.2.2 (by omega) bn.1.2.1 (by rw [ev]; exact pn) (by rw [ev]; exact ps) (fun h2 z2 s2 => ?_)
  have e2 := s2.cv.trans ev
  have t2 := s2.1 1 (by omega)
  rw [ev, show cst v (h.1 1) (nbC v) nb = csN v (h.1 1) by unfold csN; rw [en]]
  simp (disch := first | assumption | omega) only [e_3_3, e_3_4, e_3_5, onI_s, onR_s, onL_s, gl_0, gl_n, gl_1, gl_2, gl_3, gl_4, gl_5, gl_6, gl_7, gl_8, gl_9, gl_10, gl_11, gl_12, gl_13, gl_14, gl_15, gl_16, gl_17, sk0i, sk0r, sk0n, sk1i, sk1r, sk1n, sk_2, sk_3, sk_4, sk_5, sk_6, sk_7, sk_8, sk_9, sk_10, sk_11, sk_12, sk_13, sk_14, sk_15, sk_16, sk_17, ls_0, ls_1, ls_2, ls_3, ls_4, ls_5, ls_6, ls_7, ls_8, ls_9, ls_10, ls_11, ls_12, ls_13, ls_14, ls_15, ls_16, ls_17, ct1_i, ct1_r, wd8_0, wd8_i1, wd8_r1, wd8_i2, wd8_r2, wd8_i3, wd8_r3, wd8_i4, wd8_r4, wd8_i5, wd8_r5, wd8_i6, wd8_r6, wd8_i7, wd8_r7, wd8_i8, wd8_r8, wd8_l2, wd8_l3, wd8_l4, wd8_l5, wd8_l6, wd8_l7, wd8_l8, tl_s, tl_n, inR_t, bd_t, true_and, and_true, true_or, or_true, if_true_x, if_false_x, if_pos, if_neg, Int.toNat_natCast, natL, bI_0, bI_1, bI_ft, eq_self, b_tf, b_ft, not_true_eq_false, not_false_eq_true]
  have b1 := csN_bd g.wg tm
  have key := l_3 (Q := Q) (h0 := h2) (v := v) hp hc (by unfold OkS; rw [s2.1 97 (by omega), s2.1 98 (by omega), s2.1 99 (by omega), s2.1 100 (by omega)]; exact os) (by rw [t2]; exact tm) (by unfold BNv; rw [s2.2]; exact bn) en (by rw [s2.1 23 (by omega)]; exact ps) (N := (v 11 0).toNat) (n := n) (by omega) (by omega) n10 (c0 := csN v (h.1 1)) n 0 h2 v none (by omega) ⟨z2, PF.refl, e2, fun _ _ _ => rfl, g, by rw [s2.1 24 (by omega)]; exact pn, rfl⟩
  rw [t2] at key
  refine key (fun h3 x5 s3 => ?_)
  have s30 := s3
  obtain ⟨z3, pf3, e3, o3, g3, p3, u3⟩ := s3
  obtain ⟨nC1, nT1, nn1⟩ := s30.nbs
  have t3 : h3.1 1 = h.1 1 := (pf3.1 1 (by omega) (by omega) (by omega) (by omega)).trans t2
  have b2 := csN_bd g3.wg tm
  rw [e_3_30]
  simp (disch := first | assumption | omega) only [e_3_31, e_3_32, onI_s, onR_s, onL_s, gl_0, gl_n, gl_1, gl_2, gl_3, gl_4, gl_5, gl_6, gl_7, gl_8, gl_9, gl_10, gl_11, gl_12, gl_13, gl_14, gl_15, gl_16, gl_17, sk0i, sk0r, sk0n, sk1i, sk1r, sk1n, sk_2, sk_3, sk_4, sk_5, sk_6, sk_7, sk_8, sk_9, sk_10, sk_11, sk_12, sk_13, sk_14, sk_15, sk_16, sk_17, ls_0, ls_1, ls_2, ls_3, ls_4, ls_5, ls_6, ls_7, ls_8, ls_9, ls_10, ls_11, ls_12, ls_13, ls_14, ls_15, ls_16, ls_17, ct1_i, ct1_r, wd8_0, wd8_i1, wd8_r1, wd8_i2, wd8_r2, wd8_i3, wd8_r3, wd8_i4, wd8_r4, wd8_i5, wd8_r5, wd8_i6, wd8_r6, wd8_i7, wd8_r7, wd8_i8, wd8_r8, wd8_l2, wd8_l3, wd8_l4, wd8_l5, wd8_l6, wd8_l7, wd8_l8, tl_s, tl_n, inR_t, bd_t, true_and, and_true, true_or, or_true, if_true_x, if_false_x, if_pos, if_neg, Int.toNat_natCast, natL, bI_0, bI_1, bI_ft, eq_self, b_tf, b_ft, not_true_eq_false, not_false_eq_true]
  (rw [e_3_33]; refine ⟨⟨hc.t26, by simp [wd_i, wd_r, wd_l, wd_0]⟩, ?_⟩)
  refine m_2 hp hc (C := nbC v) (T := nbT v) z3 (by rw [e3]; exact g3.wg) (by rw [t3]; exact tm) bn.1.2.2 (by omega) (by rw [pf3.2, s2.2]; exact bn.1.2.1) (by rw [e3]; exact p3) (by rw [e3, u3, pf3.1 23 (by omega) (by omega) (by omega) (by omega), s2.1 23 (by omega)]; exact ps) (fun h4 z4 s4 => ?_)
  rw [e3, t3, show cst (sdN (h.1 1) (v 11 0).toNat n v) (h.1 1) (nbC v) nb = csN (sdN (h.1 1) (v 11 0).toNat n v) (h.1 1) by unfold csN; rw [nC1, nn1, en]]
  simp (disch := first | assumption | omega) only [e_3_34, e_3_35, onI_s, onR_s, onL_s, gl_0, gl_n, gl_1, gl_2, gl_3, gl_4, gl_5, gl_6, gl_7, gl_8, gl_9, gl_10, gl_11, gl_12, gl_13, gl_14, gl_15, gl_16, gl_17, sk0i, sk0r, sk0n, sk1i, sk1r, sk1n, sk_2, sk_3, sk_4, sk_5, sk_6, sk_7, sk_8, sk_9, sk_10, sk_11, sk_12, sk_13, sk_14, sk_15, sk_16, sk_17, ls_0, ls_1, ls_2, ls_3, ls_4, ls_5, ls_6, ls_7, ls_8, ls_9, ls_10, ls_11, ls_12, ls_13, ls_14, ls_15, ls_16, ls_17, ct1_i, ct1_r, wd8_0, wd8_i1, wd8_r1, wd8_i2, wd8_r2, wd8_i3, wd8_r3, wd8_i4, wd8_r4, wd8_i5, wd8_r5, wd8_i6, wd8_r6, wd8_i7, wd8_r7, wd8_i8, wd8_r8, wd8_l2, wd8_l3, wd8_l4, wd8_l5, wd8_l6, wd8_l7, wd8_l8, tl_s, tl_n, inR_t, bd_t, true_and, and_true, true_or, or_true, if_true_x, if_false_x, if_pos, if_neg, Int.toNat_natCast, natL, bI_0, bI_1, bI_ft, eq_self, b_tf, b_ft, not_true_eq_false, not_false_eq_true]
  exact hq h4 z4 (s2.pf.tr (pf3.tr s4.pf)) (s4.cv.trans e3)
set_option maxHeartbeats 4000000 in
theorem p_117 {n : Int} (ok : Ok X h) (rf : RFb (h.1 3)) (g : Gd (cv h 200)) (tm : TMb (h.1 1)) (hq : ∀ h2, Cst X h h2 → cS h2 = (spSpread (cS h) n).2 → Q (some (vi (spSpread (cS h) n).1)) h2) : Cl X 117 [vr 0, vi n] h Q := by
  have ok0 := ok
  obtain ⟨z, os, oc, om, ⟨nb, ln, hc, hnb⟩, lp⟩ := ok
  have hp : PL X 200 := lp 0 (by decide)
  have hw := g.rg
  unfold spSpread at hq
  rw [show (cS h).1 = cv h 200 from rfl, show (cS h).2.1 = h.1 1 from rfl] at hq
  rw [c_117]
  by_cases g1 : 1 ≤ n ∧ n ≤ 10
  · rw [if_neg (not_not_intro g1)] at hq
    obtain ⟨m, rfl⟩ : ∃ m : Nat, n = m := ⟨n.toNat, by omega⟩
    rw [Int.toNat_natCast] at hq
    simp (disch := first | assumption | omega) only [e_117_0, e_117_1, e_117_2, e_117_3, e_117_4, e_117_5, e_117_10, e_117_11, onI_s, onR_s, onL_s, gl_0, gl_n, gl_1, gl_2, gl_3, gl_4, gl_5, gl_6, gl_7, gl_8, gl_9, gl_10, gl_11, gl_12, gl_13, gl_14, gl_15, gl_16, gl_17, sk0i, sk0r, sk0n, sk1i, sk1r, sk1n, sk_2, sk_3, sk_4, sk_5, sk_6, sk_7, sk_8, sk_9, sk_10, sk_11, sk_12, sk_13, sk_14, sk_15, sk_16, sk_17, ls_0, ls_1, ls_2, ls_3, ls_4, ls_5, ls_6, ls_7, ls_8, ls_9, ls_10, ls_11, ls_12, ls_13, ls_14, ls_15, ls_16, ls_17, ct1_i, ct1_r, wd8_0, wd8_i1, wd8_r1, wd8_i2, wd8_r2, wd8_i3, wd8_r3, wd8_i4, wd8_r4, wd8_i5, wd8_r5, wd8_i6, wd8_r6, wd8_i7, wd8_r7, wd8_i8, wd8_r8, wd8_l2, wd8_l3, wd8_l4, wd8_l5, wd8_l6, wd8_l7, wd8_l8, tl_s, tl_n, inR_t, bd_t, true_and, and_true, true_or, or_true, if_true_x, if_false_x, if_pos, if_neg, Int.toNat_natCast, natL, bI_0, bI_1, bI_ft, eq_self, b_tf, b_ft, not_true_eq_false, not_false_eq_true]
    (rw [e_117_12]; refine ⟨⟨hc.t0, by simp [wd_i, wd_r, wd_l, wd_0]⟩, ?_⟩)
    refine kpC ok0 g (fun h2 k => ?_)
    have gk : Gd (cv h2 200) := by rw [k.pv]; exact g
    obtain ⟨nb2, ln2, hc2, hnb2⟩ := k.1.2.2.2.2.1
    obtain ⟨bn, en⟩ := BNv.c k.1 rfl gk.rg hnb2
    have nn := nb_b gk.rg
    simp (disch := first | assumption | omega) only [e_117_13, onI_s, onR_s, onL_s, gl_0, gl_n, gl_1, gl_2, gl_3, gl_4, gl_5, gl_6, gl_7, gl_8, gl_9, gl_10, gl_11, gl_12, gl_13, gl_14, gl_15, gl_16, gl_17, sk0i, sk0r, sk0n, sk1i, sk1r, sk1n, sk_2, sk_3, sk_4, sk_5, sk_6, sk_7, sk_8, sk_9, sk_10, sk_11, sk_12, sk_13, sk_14, sk_15, sk_16, sk_17, ls_0, ls_1, ls_2, ls_3, ls_4, ls_5, ls_6, ls_7, ls_8, ls_9, ls_10, ls_11, ls_12, ls_13, ls_14, ls_15, ls_16, ls_17, ct1_i, ct1_r, wd8_0, wd8_i1, wd8_r1, wd8_i2, wd8_r2, wd8_i3, wd8_r3, wd8_i4, wd8_r4, wd8_i5, wd8_r5, wd8_i6, wd8_r6, wd8_i7, wd8_r7, wd8_i8, wd8_r8, wd8_l2, wd8_l3, wd8_l4, wd8_l5, wd8_l6, wd8_l7, wd8_l8, tl_s, tl_n, inR_t, bd_t, true_and, and_true, true_or, or_true, if_true_x, if_false_x, if_pos, if_neg, Int.toNat_natCast, natL, bI_0, bI_1, bI_ft, eq_self, b_tf, b_ft, not_true_eq_false, not_false_eq_true]
    (rw [e_117_14]; refine ⟨⟨hc.t0, by simp [wd_i, wd_r, wd_l, wd_0]⟩, ?_⟩)
    refine m_145 k.1 gk hc2 bn (by omega) (by omega) (fun h3 z3 g3 p8 p3 p4 => ?_)
    have e3 := g3.cv (b := 200) (by omega)
    have t3 := g3.1 1 (by omega) (by omega) (by omega) (by omega) (by omega)
    simp (disch := first | assumption | omega) only [e_117_15, e_117_16, e_117_17, e_117_18, e_117_19, onI_s, onR_s, onL_s, gl_0, gl_n, gl_1, gl_2, gl_3, gl_4, gl_5, gl_6, gl_7, gl_8, gl_9, gl_10, gl_11, gl_12, gl_13, gl_14, gl_15, gl_16, gl_17, sk0i, sk0r, sk0n, sk1i, sk1r, sk1n, sk_2, sk_3, sk_4, sk_5, sk_6, sk_7, sk_8, sk_9, sk_10, sk_11, sk_12, sk_13, sk_14, sk_15, sk_16, sk_17, ls_0, ls_1, ls_2, ls_3, ls_4, ls_5, ls_6, ls_7, ls_8, ls_9, ls_10, ls_11, ls_12, ls_13, ls_14, ls_15, ls_16, ls_17, ct1_i, ct1_r, wd8_0, wd8_i1, wd8_r1, wd8_i2, wd8_r2, wd8_i3, wd8_r3, wd8_i4, wd8_r4, wd8_i5, wd8_r5, wd8_i6, wd8_r6, wd8_i7, wd8_r7, wd8_i8, wd8_r8, wd8_l2, wd8_l3, wd8_l4, wd8_l5, wd8_l6, wd8_l7, wd8_l8, tl_s, tl_n, inR_t, bd_t, true_and, and_true, true_or, or_true, if_true_x, if_false_x, if_pos, if_neg, Int.toNat_natCast, natL, bI_0, bI_1, bI_ft, eq_self, b_tf, b_ft, not_true_eq_false, not_false_eq_true, hc.t0, hc.r0_0, hc.r0_1, hc.r0_3, hc.r0_5, hc.r0_6, hc.r0_7, hc.r0_8, hc.r0_9, hc.r0_10, hc.r0_11, hc.r0_12, hc.r0_13]
    (rw [e_117_20]; refine ⟨⟨hc.t26, by simp [wd_i, wd_r, wd_l, wd_0]⟩, ?_⟩)
    refine m_3 hp hc2 (v := cv h2 200) ?_ e3 z3 gk (by rw [t3, k.t]; exact tm) (by unfold BNv; rw [g3.2]; exact bn) en p3 p4 (n := m) (by omega) (fun h4 z4 f4 e4 => ?_)
    · unfold OkS
      rw [g3.1 97 (by omega) (by omega) (by omega) (by omega) (by omega), g3.1 98 (by omega) (by omega) (by omega) (by omega) (by omega), g3.1 99 (by omega) (by omega) (by omega) (by omega) (by omega), g3.1 100 (by omega) (by omega) (by omega) (by omega) (by omega)]
      exact k.1.2.1
    · rw [t3, k.t, k.pv] at e4 ⊢
      simp (disch := first | assumption | omega) only [e_117_21, onI_s, onR_s, onL_s, gl_0, gl_n, gl_1, gl_2, gl_3, gl_4, gl_5, gl_6, gl_7, gl_8, gl_9, gl_10, gl_11, gl_12, gl_13, gl_14, gl_15, gl_16, gl_17, sk0i, sk0r, sk0n, sk1i, sk1r, sk1n, sk_2, sk_3, sk_4, sk_5, sk_6, sk_7, sk_8, sk_9, sk_10, sk_11, sk_12, sk_13, sk_14, sk_15, sk_16, sk_17, ls_0, ls_1, ls_2, ls_3, ls_4, ls_5, ls_6, ls_7, ls_8, ls_9, ls_10, ls_11, ls_12, ls_13, ls_14, ls_15, ls_16, ls_17, ct1_i, ct1_r, wd8_0, wd8_i1, wd8_r1, wd8_i2, wd8_r2, wd8_i3, wd8_r3, wd8_i4, wd8_r4, wd8_i5, wd8_r5, wd8_i6, wd8_r6, wd8_i7, wd8_r7, wd8_i8, wd8_r8, wd8_l2, wd8_l3, wd8_l4, wd8_l5, wd8_l6, wd8_l7, wd8_l8, tl_s, tl_n, inR_t, bd_t, true_and, and_true, true_or, or_true, if_true_x, if_false_x, if_pos, if_neg, Int.toNat_natCast, natL, bI_0, bI_1, bI_ft, eq_self, b_tf, b_ft, not_true_eq_false, not_false_eq_true]
      have f5 := (g3.fz z3).tr (f4.fz z4)
      exact hq h4 (act_c (r := 0) k f5 e4).1 (act_c (r := 0) k f5 e4).2
  · rw [if_pos g1] at hq
    by_cases e : n < 1
    · simp (disch := first | assumption | omega) only [e_117_0, e_117_1, e_117_2, e_117_6, e_117_7, e_117_8, e_117_9, onI_s, onR_s, onL_s, gl_0, gl_n, gl_1, gl_2, gl_3, gl_4, gl_5, gl_6, gl_7, gl_8, gl_9, gl_10, gl_11, gl_12, gl_13, gl_14, gl_15, gl_16, gl_17, sk0i, sk0r, sk0n, sk1i, sk1r, sk1n, sk_2, sk_3, sk_4, sk_5, sk_6, sk_7, sk_8, sk_9, sk_10, sk_11, sk_12, sk_13, sk_14, sk_15, sk_16, sk_17, ls_0, ls_1, ls_2, ls_3, ls_4, ls_5, ls_6, ls_7, ls_8, ls_9, ls_10, ls_11, ls_12, ls_13, ls_14, ls_15, ls_16, ls_17, ct1_i, ct1_r, wd8_0, wd8_i1, wd8_r1, wd8_i2, wd8_r2, wd8_i3, wd8_r3, wd8_i4, wd8_r4, wd8_i5, wd8_r5, wd8_i6, wd8_r6, wd8_i7, wd8_r7, wd8_i8, wd8_r8, wd8_l2, wd8_l3, wd8_l4, wd8_l5, wd8_l6, wd8_l7, wd8_l8, tl_s, tl_n, inR_t, bd_t, true_and, and_true, true_or, or_true, if_true_x, if_false_x, if_pos, if_neg, Int.toNat_natCast, natL, bI_0, bI_1, bI_ft, eq_self, b_tf, b_ft, not_true_eq_false, not_false_eq_true, rfC ok0 rf, hc.t0, hc.r0_0, hc.r0_1, hc.r0_3, hc.r0_5, hc.r0_6, hc.r0_7, hc.r0_8, hc.r0_9, hc.r0_10, hc.r0_11, hc.r0_12, hc.r0_13]
      exact hq _ (rH_st ok0 rf (by omega) (by omega)).1 (rH_st ok0 rf (by omega) (by omega)).2
    · simp (disch := first | assumption | omega) only [e_117_0, e_117_1, e_117_2, e_117_3, e_117_4, e_117_5, e_117_6, e_117_7, e_117_8, e_117_9, onI_s, onR_s, onL_s, gl_0, gl_n, gl_1, gl_2, gl_3, gl_4, gl_5, gl_6, gl_7, gl_8, gl_9, gl_10, gl_11, gl_12, gl_13, gl_14, gl_15, gl_16, gl_17, sk0i, sk0r, sk0n, sk1i, sk1r, sk1n, sk_2, sk_3, sk_4, sk_5, sk_6, sk_7, sk_8, sk_9, sk_10, sk_11, sk_12, sk_13, sk_14, sk_15, sk_16, sk_17, ls_0, ls_1, ls_2, ls_3, ls_4, ls_5, ls_6, ls_7, ls_8, ls_9, ls_10, ls_11, ls_12, ls_13, ls_14, ls_15, ls_16, ls_17, ct1_i, ct1_r, wd8_0, wd8_i1, wd8_r1, wd8_i2, wd8_r2, wd8_i3, wd8_r3, wd8_i4, wd8_r4, wd8_i5, wd8_r5, wd8_i6, wd8_r6, wd8_i7, wd8_r7, wd8_i8, wd8_r8, wd8_l2, wd8_l3, wd8_l4, wd8_l5, wd8_l6, wd8_l7, wd8_l8, tl_s, tl_n, inR_t, bd_t, true_and, and_true, true_or, or_true, if_true_x, if_false_x, if_pos, if_neg, Int.toNat_natCast, natL, bI_0, bI_1, bI_ft, eq_self, b_tf, b_ft, not_true_eq_false, not_false_eq_true, rfC ok0 rf, hc.t0, hc.r0_0, hc.r0_1, hc.r0_3, hc.r0_5, hc.r0_6, hc.r0_7, hc.r0_8, hc.r0_9, hc.r0_10, hc.r0_11, hc.r0_12, hc.r0_13]
      exact hq _ (rH_st ok0 rf (by omega) (by omega)).1 (rH_st ok0 rf (by omega) (by omega)).2
end PS6
