/-! LEGAL, LAWFULLY of the class -/
def spLegal (s : AS) : Int × AS := match mkV s.1 (s.2.1 4) with
  | none => refS s (-5)
  | some u => actS s 12 (mvs u (s.2.1 4)) u
def spLfy (s : AS) (w : Int) : Int := if w = 0 then (match mkV s.1 (s.2.1 4) with
    | none => -5
    | some u => mvs u (s.2.1 4)) else if w = 1 then (match mkV s.1 (s.2.1 4) with
    | none => -1
    | some u => wir u (s.2.1 4)) else -1
theorem SJ.wg {u v : Nat → Nat → Int} (s : SJ u v) (w : RGv u) (g : Gd v) : WG u := by
  have e11 := s 11 (by decide) (by decide)
  have e19 := s 19 (by decide) (by decide)
  have e21 := s 21 (by decide) (by decide)
  have e22 := s 22 (by decide) (by decide)
  refine ⟨w, ?_, ?_⟩
  · have := g.nw
    unfold NWv at this ⊢
    rw [e11, e19, e21, e22]
    exact this
  · have := g.n2
    unfold N2v at this ⊢
    rw [e19, e21]
    exact this
section LGC
variable {X : xL} {Q : Option xV → xH → Prop} {ns nb ln b : Nat} {h : xH}
theorem PW.fz1 {h2 : xH} (g : PW 224 h h2) (z : NZ X h2) : Fz X h h2 := by
  refine ⟨z, fun a q => g.1 a (by omega), ⟨by rw [(g.1 7 (by omega)).2], by rw [(g.1 7 (by omega)).2], by rw [(g.1 22 (by omega)).2], by rw [(g.1 22 (by omega)).2]⟩, fun p hp => ⟨fun i => ?_, fun j hj i hi => g.2.1 _ i hi⟩⟩
  rcases (show p = 0 ∨ p = 1 by omega) with rfl | rfl
  · rw [(g.1 _ (by omega)).2]
  · rw [show 200 + 24 * 1 = 224 from rfl, g.2.2]
theorem PW.fz0 {h2 : xH} (g : PW 200 h h2) (z : NZ X h2) : Fz X h h2 := by
  refine ⟨z, fun a q => g.1 a (by omega), ⟨by rw [(g.1 7 (by omega)).2], by rw [(g.1 7 (by omega)).2], by rw [(g.1 22 (by omega)).2], by rw [(g.1 22 (by omega)).2]⟩, fun p hp => ⟨fun i => ?_, fun j hj i hi => g.2.1 _ i hi⟩⟩
  rcases (show p = 0 ∨ p = 1 by omega) with rfl | rfl
  · rw [show 200 + 24 * 0 = 200 from rfl, g.2.2]
  · rw [(g.1 _ (by omega)).2]
theorem GH.fz {h2 : xH} (g : GH 224 h h2) (z : NZ X h2) : Fz X h h2 := ⟨z, fun a q => ⟨g.1 a (by omega) (by omega) (by omega), funext fun k => g.2 a k (by omega)⟩, ⟨g.2 7 0 (by decide), g.2 7 1 (by decide), g.2 22 0 (by decide), g.2 22 1 (by decide)⟩, fun p hp => ⟨fun i => g.2 _ _ (by omega), fun j hj i hi => g.2 _ _ (by omega)⟩⟩
theorem GH.cv0 {h2 : xH} (g : GH 224 h h2) : cv h2 200 = cv h 200 := cv_congr (fun a q1 q2 => ⟨g.1 a (by omega) (by omega) (by omega), funext fun k => g.2 a k (by omega)⟩)
theorem PW.cv0 {h2 : xH} (g : PW 224 h h2) : cv h2 200 = cv h 200 := cv_congr (fun a q1 q2 => g.1 a (by omega))
set_option maxHeartbeats 8000000 in
/-- the paper made lawful -/
theorem paper (ok : Ok X h) (g : Gd (cv h 200)) (tm : TMb (h.1 1)) {Q1 : Option xV → xH → Prop} (hN : mkV (cv h 200) (h.1 1 4) = none → ∀ h2, Fz X h h2 → cv h2 200 = cv h 200 → Q (some (vi 0)) h2) (hS : ∀ u, mkV (cv h 200) (h.1 1 4) = some u → ∀ h2, Fz X h h2 → cv h2 200 = cv h 200 → cv h2 224 = u → SJ u (cv h 200) → RGv u → Q (some (vi 1)) h2) (hc : ∀ h1, cv h1 224 = cv h 200 → PW 224 h h1 → NZ X h1 → Cl X 50 [vr 29, vr 224] h1 Q → Q1 none h1) : Cl X 74 [vr 224, vr 200] h Q1 := by
  have ok0 := ok
  obtain ⟨z, os, ⟨o0, o1, o7, o22, oj⟩, om, ⟨nb, ln, hct, hnb⟩, lp⟩ := ok
  have hp0 : PL X 200 := lp 0 (by decide)
  have hp1 : PL X 224 := lp 1 (by decide)
  refine m_74 hp1 hp0 z (by omega) (oj 1 (by decide)) g.rg.fix (fun h1 cv1 pw z1 => hc h1 cv1 pw z1 ?_)
  have t1 : h1.1 1 = h.1 1 := (pw.1 1 (by omega)).1
  refine m_50 hp1 (by omega) hct cv1 g z1 (by rw [t1]; exact tm) ⟨?_, ?_⟩ rfl ?_ ?_
  · rw [(pw.1 7 (by omega)).2, o7.1]; rfl
  · rw [(pw.1 7 (by omega)).2, o7.2]; rfl
  · intro e h2 z2 g2
    rw [t1] at e
    exact hN e h2 ((pw.fz1 z1).tr (g2.fz z2)) (g2.cv0.trans pw.cv0)
  · intro u e h2 z2 g2 e2 sj w
    rw [t1] at e
    exact hS u e h2 ((pw.fz1 z1).tr (g2.fz z2)) (g2.cv0.trans pw.cv0) e2 sj w
set_option maxHeartbeats 8000000 in
theorem p_118 (ok : Ok X h) (g : Gd (cv h 200)) (tm : TMb (h.1 1)) (rf : RFb (h.1 3)) (hq : ∀ h2, Cst X h h2 → cS h2 = (spLegal (cS h)).2 → Q (some (vi (spLegal (cS h)).1)) h2) : Cl X 118 [vr 0] h Q := by
  have ok0 := ok
  obtain ⟨z, os, oc, om, ⟨nb, ln, hc, hnb⟩, lp⟩ := ok
  have hp : PL X 200 := lp 0 (by decide)
  have hw := g.rg
  have hp1 : PL X 224 := lp 1 (by decide)
  unfold spLegal at hq
  rw [show (cS h).1 = cv h 200 from rfl, show (cS h).2.1 = h.1 1 from rfl] at hq
  rw [c_118]
  simp (disch := first | assumption | omega) only [e_118_0, e_118_1, e_118_2, e_118_3, onI_s, onR_s, onL_s, gl_0, gl_n, gl_1, gl_2, gl_3, gl_4, gl_5, gl_6, gl_7, gl_8, gl_9, gl_10, gl_11, gl_12, gl_13, gl_14, gl_15, gl_16, gl_17, sk0i, sk0r, sk0n, sk1i, sk1r, sk1n, sk_2, sk_3, sk_4, sk_5, sk_6, sk_7, sk_8, sk_9, sk_10, sk_11, sk_12, sk_13, sk_14, sk_15, sk_16, sk_17, ls_0, ls_1, ls_2, ls_3, ls_4, ls_5, ls_6, ls_7, ls_8, ls_9, ls_10, ls_11, ls_12, ls_13, ls_14, ls_15, ls_16, ls_17, ct1_i, ct1_r, wd8_0, wd8_i1, wd8_r1, wd8_i2, wd8_r2, wd8_i3, wd8_r3, wd8_i4, wd8_r4, wd8_i5, wd8_r5, wd8_i6, wd8_r6, wd8_i7, wd8_r7, wd8_i8, wd8_r8, wd8_l2, wd8_l3, wd8_l4, wd8_l5, wd8_l6, wd8_l7, wd8_l8, tl_s, tl_n, inR_t, bd_t, true_and, and_true, true_or, or_true, if_true_x, if_false_x, if_pos, if_neg, Int.toNat_natCast, natL, bI_0, bI_1, bI_ft, eq_self, b_tf, b_ft, not_true_eq_false, not_false_eq_true, hc.t0, hc.r0_0, hc.r0_1, hc.r0_3, hc.r0_5, hc.r0_6, hc.r0_7, hc.r0_8, hc.r0_9, hc.r0_10, hc.r0_11, hc.r0_12, hc.r0_13]
  (rw [e_118_4]; refine ⟨⟨hp1.t0, by decide⟩, ?_⟩)
  refine paper (Q := fun r h2 => Ev X 118 10 [some (vr 0)] (r.toList ++ []) h2 Q) ok0 g tm (fun e h2 f2 e2 => ?_) (fun u e h2 f2 e2 eu sj wu => ?_) (fun h1 cv1 pw z1 q => ?_)
  · rw [e] at hq
    have ok2 : Ok X h2 := Cst.ok ok0 (f2.cst ok0)
    have cs2 : cS h2 = cS h := by rw [f2.cs, e2]; rfl
    have r3 : h2.1 3 = h.1 3 := (f2.2.1 3 (by omega)).1
    simp (disch := first | assumption | omega) only [e_118_10, e_118_11, e_118_12, onI_s, onR_s, onL_s, gl_0, gl_n, gl_1, gl_2, gl_3, gl_4, gl_5, gl_6, gl_7, gl_8, gl_9, gl_10, gl_11, gl_12, gl_13, gl_14, gl_15, gl_16, gl_17, sk0i, sk0r, sk0n, sk1i, sk1r, sk1n, sk_2, sk_3, sk_4, sk_5, sk_6, sk_7, sk_8, sk_9, sk_10, sk_11, sk_12, sk_13, sk_14, sk_15, sk_16, sk_17, ls_0, ls_1, ls_2, ls_3, ls_4, ls_5, ls_6, ls_7, ls_8, ls_9, ls_10, ls_11, ls_12, ls_13, ls_14, ls_15, ls_16, ls_17, ct1_i, ct1_r, wd8_0, wd8_i1, wd8_r1, wd8_i2, wd8_r2, wd8_i3, wd8_r3, wd8_i4, wd8_r4, wd8_i5, wd8_r5, wd8_i6, wd8_r6, wd8_i7, wd8_r7, wd8_i8, wd8_r8, wd8_l2, wd8_l3, wd8_l4, wd8_l5, wd8_l6, wd8_l7, wd8_l8, tl_s, tl_n, inR_t, bd_t, true_and, and_true, true_or, or_true, if_true_x, if_false_x, if_pos, if_neg, Int.toNat_natCast, natL, bI_0, bI_1, bI_ft, eq_self, b_tf, b_ft, not_true_eq_false, not_false_eq_true]
    (rw [e_118_13]; refine ⟨⟨hc.t0, by simp [wd_i, wd_r, wd_l, wd_0]⟩, ?_⟩)
    rw [rfC ok2 (by rw [r3]; exact rf) (by omega) (by omega)]
    have := rH_st ok2 (by rw [r3]; exact rf) (x := -5) (by omega) (by omega)
    simp (disch := first | assumption | omega) only [e_118_14, onI_s, onR_s, onL_s, gl_0, gl_n, gl_1, gl_2, gl_3, gl_4, gl_5, gl_6, gl_7, gl_8, gl_9, gl_10, gl_11, gl_12, gl_13, gl_14, gl_15, gl_16, gl_17, sk0i, sk0r, sk0n, sk1i, sk1r, sk1n, sk_2, sk_3, sk_4, sk_5, sk_6, sk_7, sk_8, sk_9, sk_10, sk_11, sk_12, sk_13, sk_14, sk_15, sk_16, sk_17, ls_0, ls_1, ls_2, ls_3, ls_4, ls_5, ls_6, ls_7, ls_8, ls_9, ls_10, ls_11, ls_12, ls_13, ls_14, ls_15, ls_16, ls_17, ct1_i, ct1_r, wd8_0, wd8_i1, wd8_r1, wd8_i2, wd8_r2, wd8_i3, wd8_r3, wd8_i4, wd8_r4, wd8_i5, wd8_r5, wd8_i6, wd8_r6, wd8_i7, wd8_r7, wd8_i8, wd8_r8, wd8_l2, wd8_l3, wd8_l4, wd8_l5, wd8_l6, wd8_l7, wd8_l8, tl_s, tl_n, inR_t, bd_t, true_and, and_true, true_or, or_true, if_true_x, if_false_x, if_pos, if_neg, Int.toNat_natCast, natL, bI_0, bI_1, bI_ft, eq_self, b_tf, b_ft, not_true_eq_false, not_false_eq_true]
    refine hq _ ((f2.cst ok0).tr this.1) ?_
    rw [this.2, cs2]
  · rw [e] at hq
    dsimp only at hq
    have ok2 : Ok X h2 := Cst.ok ok0 (f2.cst ok0)
    have cs2 : cS h2 = cS h := by rw [f2.cs, e2]; rfl
    simp (disch := first | assumption | omega) only [e_118_10, e_118_15, e_118_16, onI_s, onR_s, onL_s, gl_0, gl_n, gl_1, gl_2, gl_3, gl_4, gl_5, gl_6, gl_7, gl_8, gl_9, gl_10, gl_11, gl_12, gl_13, gl_14, gl_15, gl_16, gl_17, sk0i, sk0r, sk0n, sk1i, sk1r, sk1n, sk_2, sk_3, sk_4, sk_5, sk_6, sk_7, sk_8, sk_9, sk_10, sk_11, sk_12, sk_13, sk_14, sk_15, sk_16, sk_17, ls_0, ls_1, ls_2, ls_3, ls_4, ls_5, ls_6, ls_7, ls_8, ls_9, ls_10, ls_11, ls_12, ls_13, ls_14, ls_15, ls_16, ls_17, ct1_i, ct1_r, wd8_0, wd8_i1, wd8_r1, wd8_i2, wd8_r2, wd8_i3, wd8_r3, wd8_i4, wd8_r4, wd8_i5, wd8_r5, wd8_i6, wd8_r6, wd8_i7, wd8_r7, wd8_i8, wd8_r8, wd8_l2, wd8_l3, wd8_l4, wd8_l5, wd8_l6, wd8_l7, wd8_l8, tl_s, tl_n, inR_t, bd_t, true_and, and_true, true_or, or_true, if_true_x, if_false_x, if_pos, if_neg, Int.toNat_natCast, natL, bI_0, bI_1, bI_ft, eq_self, b_tf, b_ft, not_true_eq_false, not_false_eq_true]
    (rw [e_118_17]; refine ⟨⟨hc.t0, by simp [wd_i, wd_r, wd_l, wd_0]⟩, ?_⟩)
    refine kpC ok2 (by rw [e2]; exact g) (fun h3 k => ?_)
    have cv3 : cv h3 224 = u := (cv_congr (fun a q1 q2 => k.2.2.2 a (by omega) (by omega) (by omega) (by omega))).trans eu
    have oj3 := k.1.2.2.1.2.2.2.2 1 (by decide)
    have jk : JK h3 200 224 := ⟨fun i => (oj3.1 i).symm, fun j hj i hi => (oj3.2 j hj i hi).symm⟩
    simp (disch := first | assumption | omega) only [e_118_18, e_118_19, e_118_20, e_118_21, onI_s, onR_s, onL_s, gl_0, gl_n, gl_1, gl_2, gl_3, gl_4, gl_5, gl_6, gl_7, gl_8, gl_9, gl_10, gl_11, gl_12, gl_13, gl_14, gl_15, gl_16, gl_17, sk0i, sk0r, sk0n, sk1i, sk1r, sk1n, sk_2, sk_3, sk_4, sk_5, sk_6, sk_7, sk_8, sk_9, sk_10, sk_11, sk_12, sk_13, sk_14, sk_15, sk_16, sk_17, ls_0, ls_1, ls_2, ls_3, ls_4, ls_5, ls_6, ls_7, ls_8, ls_9, ls_10, ls_11, ls_12, ls_13, ls_14, ls_15, ls_16, ls_17, ct1_i, ct1_r, wd8_0, wd8_i1, wd8_r1, wd8_i2, wd8_r2, wd8_i3, wd8_r3, wd8_i4, wd8_r4, wd8_i5, wd8_r5, wd8_i6, wd8_r6, wd8_i7, wd8_r7, wd8_i8, wd8_r8, wd8_l2, wd8_l3, wd8_l4, wd8_l5, wd8_l6, wd8_l7, wd8_l8, tl_s, tl_n, inR_t, bd_t, true_and, and_true, true_or, or_true, if_true_x, if_false_x, if_pos, if_neg, Int.toNat_natCast, natL, bI_0, bI_1, bI_ft, eq_self, b_tf, b_ft, not_true_eq_false, not_false_eq_true, hc.t0, hc.r0_0, hc.r0_1, hc.r0_3, hc.r0_5, hc.r0_6, hc.r0_7, hc.r0_8, hc.r0_9, hc.r0_10, hc.r0_11, hc.r0_12, hc.r0_13]
    (rw [e_118_22]; refine ⟨⟨hp.t0, by decide⟩, ?_⟩)
    refine m_74 hp hp1 k.1.1 (by omega) jk (by rw [cv3]; exact wu.fix) (fun h4 cv4 pw4 z4 => ?_)
    rw [cv3] at cv4
    have t4 : h4.1 1 = h.1 1 := by rw [(pw4.1 1 (by omega)).1, k.t]; exact (f2.2.1 1 (by omega)).1
    have ac := act_c (r := mvs u (h.1 1 4)) k (pw4.fz0 z4) cv4
    rw [cs2] at ac
    simp (disch := first | assumption | omega) only [e_118_23, e_118_24, e_118_25, e_118_26, e_118_27, e_118_28, onI_s, onR_s, onL_s, gl_0, gl_n, gl_1, gl_2, gl_3, gl_4, gl_5, gl_6, gl_7, gl_8, gl_9, gl_10, gl_11, gl_12, gl_13, gl_14, gl_15, gl_16, gl_17, sk0i, sk0r, sk0n, sk1i, sk1r, sk1n, sk_2, sk_3, sk_4, sk_5, sk_6, sk_7, sk_8, sk_9, sk_10, sk_11, sk_12, sk_13, sk_14, sk_15, sk_16, sk_17, ls_0, ls_1, ls_2, ls_3, ls_4, ls_5, ls_6, ls_7, ls_8, ls_9, ls_10, ls_11, ls_12, ls_13, ls_14, ls_15, ls_16, ls_17, ct1_i, ct1_r, wd8_0, wd8_i1, wd8_r1, wd8_i2, wd8_r2, wd8_i3, wd8_r3, wd8_i4, wd8_r4, wd8_i5, wd8_r5, wd8_i6, wd8_r6, wd8_i7, wd8_r7, wd8_i8, wd8_r8, wd8_l2, wd8_l3, wd8_l4, wd8_l5, wd8_l6, wd8_l7, wd8_l8, tl_s, tl_n, inR_t, bd_t, true_and, and_true, true_or, or_true, if_true_x, if_false_x, if_pos, if_neg, Int.toNat_natCast, natL, bI_0, bI_1, bI_ft, eq_self, b_tf, b_ft, not_true_eq_false, not_false_eq_true, m_147 hp hc (show RGv (cv h4 200) by rw [cv4]; exact wu) (show TMb (h4.1 1) by rw [t4]; exact tm), cv4, t4, hc.t0, hc.r0_0, hc.r0_1, hc.r0_3, hc.r0_5, hc.r0_6, hc.r0_7, hc.r0_8, hc.r0_9, hc.r0_10, hc.r0_11, hc.r0_12, hc.r0_13, hp.t0, hp.t1, hp.t2, hp.t3, hp.t4, hp.t5, hp.t6, hp.t7, hp.t8, hp.t9, hp.t10, hp.t11, hp.t12, hp.t13, hp.t14, hp.t15, hp.t16, hp.t17, hp.t18, hp.t19, hp.t20, hp.t21, hp.t22, hp.t23, hp.z2, hp.z3, hp.z4, hp.z5, hp.z7, hp.z8, hp.z9, hp.z10, hp.z12, hp.z13, hp.z14, hp.z15, hp.z16, hp.z17, hp.z18, hp.z20, hp.z21, hp.z22, hp.z23, hp.r0_2, hp.r0_3, hp.r0_4, hp.r0_5, hp.r1_1, hp.r1_2, hp.r1_3, hp.r1_4, hp.r6_1, hp.r6_2, hp.r6_3, hp.r6_4, hp.r11_1, hp.r11_2, hp.r11_3, hp.r11_4, hp.r11_5, hp.r11_6, hp.r11_7, hp.r19_1, hp.r19_2, hp.r19_3, hp.r19_4]
    exact hq h4 ((f2.cst ok0).tr ac.1) ac.2
  · simp (disch := first | assumption | omega) only [e_118_5, e_118_6, e_118_7, e_118_8, onI_s, onR_s, onL_s, gl_0, gl_n, gl_1, gl_2, gl_3, gl_4, gl_5, gl_6, gl_7, gl_8, gl_9, gl_10, gl_11, gl_12, gl_13, gl_14, gl_15, gl_16, gl_17, sk0i, sk0r, sk0n, sk1i, sk1r, sk1n, sk_2, sk_3, sk_4, sk_5, sk_6, sk_7, sk_8, sk_9, sk_10, sk_11, sk_12, sk_13, sk_14, sk_15, sk_16, sk_17, ls_0, ls_1, ls_2, ls_3, ls_4, ls_5, ls_6, ls_7, ls_8, ls_9, ls_10, ls_11, ls_12, ls_13, ls_14, ls_15, ls_16, ls_17, ct1_i, ct1_r, wd8_0, wd8_i1, wd8_r1, wd8_i2, wd8_r2, wd8_i3, wd8_r3, wd8_i4, wd8_r4, wd8_i5, wd8_r5, wd8_i6, wd8_r6, wd8_i7, wd8_r7, wd8_i8, wd8_r8, wd8_l2, wd8_l3, wd8_l4, wd8_l5, wd8_l6, wd8_l7, wd8_l8, tl_s, tl_n, inR_t, bd_t, true_and, and_true, true_or, or_true, if_true_x, if_false_x, if_pos, if_neg, Int.toNat_natCast, natL, bI_0, bI_1, bI_ft, eq_self, b_tf, b_ft, not_true_eq_false, not_false_eq_true, hc.t0, hc.r0_0, hc.r0_1, hc.r0_3, hc.r0_5, hc.r0_6, hc.r0_7, hc.r0_8, hc.r0_9, hc.r0_10, hc.r0_11, hc.r0_12, hc.r0_13]
    (rw [e_118_9]; refine ⟨⟨hc.t29, by decide⟩, ?_⟩)
    exact q
set_option maxHeartbeats 8000000 in
theorem p_134 {w : Int} (ok : Ok X h) (g : Gd (cv h 200)) (tm : TMb (h.1 1)) (hq : ∀ h2, Cst X h h2 → cS h2 = cS h → Q (some (vi (spLfy (cS h) w))) h2) : Cl X 134 [vr 0, vi w] h Q := by
  have ok0 := ok
  obtain ⟨z, os, oc, om, ⟨nb, ln, hc, hnb⟩, lp⟩ := ok
  have hp : PL X 200 := lp 0 (by decide)
  have hw := g.rg
  have hp1 : PL X 224 := lp 1 (by decide)
  have fin3 : ∀ h3, Fz X h h3 → cv h3 200 = cv h 200 → Cst X h h3 ∧ cS h3 = cS h := fun h3 f e => ⟨f.cst ok0, by rw [f.cs, e]; rfl⟩
  unfold spLfy at hq
  rw [show (cS h).1 = cv h 200 from rfl, show (cS h).2.1 = h.1 1 from rfl] at hq
  rw [c_134]
  by_cases c : w = 0 ∨ w = 1
  · have st : Ev X 134 7 [some (vr 0), some (vi w)] [] h Q := by
      simp (disch := first | assumption | omega) only [e_134_7, e_134_8, e_134_9, e_134_10, onI_s, onR_s, onL_s, gl_0, gl_n, gl_1, gl_2, gl_3, gl_4, gl_5, gl_6, gl_7, gl_8, gl_9, gl_10, gl_11, gl_12, gl_13, gl_14, gl_15, gl_16, gl_17, sk0i, sk0r, sk0n, sk1i, sk1r, sk1n, sk_2, sk_3, sk_4, sk_5, sk_6, sk_7, sk_8, sk_9, sk_10, sk_11, sk_12, sk_13, sk_14, sk_15, sk_16, sk_17, ls_0, ls_1, ls_2, ls_3, ls_4, ls_5, ls_6, ls_7, ls_8, ls_9, ls_10, ls_11, ls_12, ls_13, ls_14, ls_15, ls_16, ls_17, ct1_i, ct1_r, wd8_0, wd8_i1, wd8_r1, wd8_i2, wd8_r2, wd8_i3, wd8_r3, wd8_i4, wd8_r4, wd8_i5, wd8_r5, wd8_i6, wd8_r6, wd8_i7, wd8_r7, wd8_i8, wd8_r8, wd8_l2, wd8_l3, wd8_l4, wd8_l5, wd8_l6, wd8_l7, wd8_l8, tl_s, tl_n, inR_t, bd_t, true_and, and_true, true_or, or_true, if_true_x, if_false_x, if_pos, if_neg, Int.toNat_natCast, natL, bI_0, bI_1, bI_ft, eq_self, b_tf, b_ft, not_true_eq_false, not_false_eq_true, hc.t0, hc.r0_0, hc.r0_1, hc.r0_3, hc.r0_5, hc.r0_6, hc.r0_7, hc.r0_8, hc.r0_9, hc.r0_10, hc.r0_11, hc.r0_12, hc.r0_13]
      (rw [e_134_11]; refine ⟨⟨hp1.t0, by simp [wd_i, wd_r, wd_l, wd_0]⟩, ?_⟩)
      refine paper (Q := fun r h2 => Ev X 134 17 [some (vr 0), some (vi w)] (r.toList ++ []) h2 Q) ok0 g tm (fun e h2 f2 e2 => ?_) (fun u e h2 f2 e2 eu sj wu => ?_) (fun h1 cv1 pw z1 q => ?_)
      · rw [e] at hq
        have q := fin3 h2 f2 e2
        rcases c with rfl | rfl
        · simp (disch := first | assumption | omega) only [e_134_17, e_134_18, e_134_19, e_134_20, e_134_21, e_134_23, onI_s, onR_s, onL_s, gl_0, gl_n, gl_1, gl_2, gl_3, gl_4, gl_5, gl_6, gl_7, gl_8, gl_9, gl_10, gl_11, gl_12, gl_13, gl_14, gl_15, gl_16, gl_17, sk0i, sk0r, sk0n, sk1i, sk1r, sk1n, sk_2, sk_3, sk_4, sk_5, sk_6, sk_7, sk_8, sk_9, sk_10, sk_11, sk_12, sk_13, sk_14, sk_15, sk_16, sk_17, ls_0, ls_1, ls_2, ls_3, ls_4, ls_5, ls_6, ls_7, ls_8, ls_9, ls_10, ls_11, ls_12, ls_13, ls_14, ls_15, ls_16, ls_17, ct1_i, ct1_r, wd8_0, wd8_i1, wd8_r1, wd8_i2, wd8_r2, wd8_i3, wd8_r3, wd8_i4, wd8_r4, wd8_i5, wd8_r5, wd8_i6, wd8_r6, wd8_i7, wd8_r7, wd8_i8, wd8_r8, wd8_l2, wd8_l3, wd8_l4, wd8_l5, wd8_l6, wd8_l7, wd8_l8, tl_s, tl_n, inR_t, bd_t, true_and, and_true, true_or, or_true, if_true_x, if_false_x, if_pos, if_neg, Int.toNat_natCast, natL, bI_0, bI_1, bI_ft, eq_self, b_tf, b_ft, not_true_eq_false, not_false_eq_true]
          exact hq h2 q.1 q.2
        · simp (disch := first | assumption | omega) only [e_134_17, e_134_18, e_134_19, e_134_22, e_134_23, onI_s, onR_s, onL_s, gl_0, gl_n, gl_1, gl_2, gl_3, gl_4, gl_5, gl_6, gl_7, gl_8, gl_9, gl_10, gl_11, gl_12, gl_13, gl_14, gl_15, gl_16, gl_17, sk0i, sk0r, sk0n, sk1i, sk1r, sk1n, sk_2, sk_3, sk_4, sk_5, sk_6, sk_7, sk_8, sk_9, sk_10, sk_11, sk_12, sk_13, sk_14, sk_15, sk_16, sk_17, ls_0, ls_1, ls_2, ls_3, ls_4, ls_5, ls_6, ls_7, ls_8, ls_9, ls_10, ls_11, ls_12, ls_13, ls_14, ls_15, ls_16, ls_17, ct1_i, ct1_r, wd8_0, wd8_i1, wd8_r1, wd8_i2, wd8_r2, wd8_i3, wd8_r3, wd8_i4, wd8_r4, wd8_i5, wd8_r5, wd8_i6, wd8_r6, wd8_i7, wd8_r7, wd8_i8, wd8_r8, wd8_l2, wd8_l3, wd8_l4, wd8_l5, wd8_l6, wd8_l7, wd8_l8, tl_s, tl_n, inR_t, bd_t, true_and, and_true, true_or, or_true, if_true_x, if_false_x, if_pos, if_neg, Int.toNat_natCast, natL, bI_0, bI_1, bI_ft, eq_self, b_tf, b_ft, not_true_eq_false, not_false_eq_true, show ¬ (1 : Int) = 0 by decide]
          exact hq h2 q.1 q.2
      · rw [e] at hq
        dsimp only at hq
        have t2 : h2.1 1 = h.1 1 := (f2.2.1 1 (by omega)).1
        rcases c with rfl | rfl
        · have q := fin3 h2 f2 e2
          simp (disch := first | assumption | omega) only [e_134_17, e_134_24, e_134_25, e_134_26, e_134_27, e_134_28, e_134_29, e_134_30, e_134_31, e_134_37, onI_s, onR_s, onL_s, gl_0, gl_n, gl_1, gl_2, gl_3, gl_4, gl_5, gl_6, gl_7, gl_8, gl_9, gl_10, gl_11, gl_12, gl_13, gl_14, gl_15, gl_16, gl_17, sk0i, sk0r, sk0n, sk1i, sk1r, sk1n, sk_2, sk_3, sk_4, sk_5, sk_6, sk_7, sk_8, sk_9, sk_10, sk_11, sk_12, sk_13, sk_14, sk_15, sk_16, sk_17, ls_0, ls_1, ls_2, ls_3, ls_4, ls_5, ls_6, ls_7, ls_8, ls_9, ls_10, ls_11, ls_12, ls_13, ls_14, ls_15, ls_16, ls_17, ct1_i, ct1_r, wd8_0, wd8_i1, wd8_r1, wd8_i2, wd8_r2, wd8_i3, wd8_r3, wd8_i4, wd8_r4, wd8_i5, wd8_r5, wd8_i6, wd8_r6, wd8_i7, wd8_r7, wd8_i8, wd8_r8, wd8_l2, wd8_l3, wd8_l4, wd8_l5, wd8_l6, wd8_l7, wd8_l8, tl_s, tl_n, inR_t, bd_t, true_and, and_true, true_or, or_true, if_true_x, if_false_x, if_pos, if_neg, Int.toNat_natCast, natL, bI_0, bI_1, bI_ft, eq_self, b_tf, b_ft, not_true_eq_false, not_false_eq_true, m_147 hp1 hc (show RGv (cv h2 224) by rw [eu]; exact wu) (show TMb (h2.1 1) by rw [t2]; exact tm), eu, t2, hc.t0, hc.r0_0, hc.r0_1, hc.r0_3, hc.r0_5, hc.r0_6, hc.r0_7, hc.r0_8, hc.r0_9, hc.r0_10, hc.r0_11, hc.r0_12, hc.r0_13, hp1.t0, hp1.t1, hp1.t2, hp1.t3, hp1.t4, hp1.t5, hp1.t6, hp1.t7, hp1.t8, hp1.t9, hp1.t10, hp1.t11, hp1.t12, hp1.t13, hp1.t14, hp1.t15, hp1.t16, hp1.t17, hp1.t18, hp1.t19, hp1.t20, hp1.t21, hp1.t22, hp1.t23, hp1.z2, hp1.z3, hp1.z4, hp1.z5, hp1.z7, hp1.z8, hp1.z9, hp1.z10, hp1.z12, hp1.z13, hp1.z14, hp1.z15, hp1.z16, hp1.z17, hp1.z18, hp1.z20, hp1.z21, hp1.z22, hp1.z23, hp1.r0_2, hp1.r0_3, hp1.r0_4, hp1.r0_5, hp1.r1_1, hp1.r1_2, hp1.r1_3, hp1.r1_4, hp1.r6_1, hp1.r6_2, hp1.r6_3, hp1.r6_4, hp1.r11_1, hp1.r11_2, hp1.r11_3, hp1.r11_4, hp1.r11_5, hp1.r11_6, hp1.r11_7, hp1.r19_1, hp1.r19_2, hp1.r19_3, hp1.r19_4]
          exact hq h2 q.1 q.2
        · simp (disch := first | assumption | omega) only [e_134_17, e_134_24, e_134_25, e_134_32, e_134_33, e_134_34, e_134_35, onI_s, onR_s, onL_s, gl_0, gl_n, gl_1, gl_2, gl_3, gl_4, gl_5, gl_6, gl_7, gl_8, gl_9, gl_10, gl_11, gl_12, gl_13, gl_14, gl_15, gl_16, gl_17, sk0i, sk0r, sk0n, sk1i, sk1r, sk1n, sk_2, sk_3, sk_4, sk_5, sk_6, sk_7, sk_8, sk_9, sk_10, sk_11, sk_12, sk_13, sk_14, sk_15, sk_16, sk_17, ls_0, ls_1, ls_2, ls_3, ls_4, ls_5, ls_6, ls_7, ls_8, ls_9, ls_10, ls_11, ls_12, ls_13, ls_14, ls_15, ls_16, ls_17, ct1_i, ct1_r, wd8_0, wd8_i1, wd8_r1, wd8_i2, wd8_r2, wd8_i3, wd8_r3, wd8_i4, wd8_r4, wd8_i5, wd8_r5, wd8_i6, wd8_r6, wd8_i7, wd8_r7, wd8_i8, wd8_r8, wd8_l2, wd8_l3, wd8_l4, wd8_l5, wd8_l6, wd8_l7, wd8_l8, tl_s, tl_n, inR_t, bd_t, true_and, and_true, true_or, or_true, if_true_x, if_false_x, if_pos, if_neg, Int.toNat_natCast, natL, bI_0, bI_1, bI_ft, eq_self, b_tf, b_ft, not_true_eq_false, not_false_eq_true, show ¬ (1 : Int) = 0 by decide, hc.t0, hc.r0_0, hc.r0_1, hc.r0_3, hc.r0_5, hc.r0_6, hc.r0_7, hc.r0_8, hc.r0_9, hc.r0_10, hc.r0_11, hc.r0_12, hc.r0_13]
          (rw [e_134_36]; refine ⟨⟨hc.t14, by simp [wd_i, wd_r, wd_l, wd_0]⟩, ?_⟩)
          refine wirC hp1 hc (by rw [eu]; exact sj.wg wu g) (by rw [t2]; exact tm) (fun h3 q3 => ?_)
          rw [eu, t2]
          have q := fin3 h3 (f2.tr (q3.fz f2.1)) ((q3.cv (b := 200) (by omega)).trans e2)
          simp (disch := first | assumption | omega) only [e_134_37, onI_s, onR_s, onL_s, gl_0, gl_n, gl_1, gl_2, gl_3, gl_4, gl_5, gl_6, gl_7, gl_8, gl_9, gl_10, gl_11, gl_12, gl_13, gl_14, gl_15, gl_16, gl_17, sk0i, sk0r, sk0n, sk1i, sk1r, sk1n, sk_2, sk_3, sk_4, sk_5, sk_6, sk_7, sk_8, sk_9, sk_10, sk_11, sk_12, sk_13, sk_14, sk_15, sk_16, sk_17, ls_0, ls_1, ls_2, ls_3, ls_4, ls_5, ls_6, ls_7, ls_8, ls_9, ls_10, ls_11, ls_12, ls_13, ls_14, ls_15, ls_16, ls_17, ct1_i, ct1_r, wd8_0, wd8_i1, wd8_r1, wd8_i2, wd8_r2, wd8_i3, wd8_r3, wd8_i4, wd8_r4, wd8_i5, wd8_r5, wd8_i6, wd8_r6, wd8_i7, wd8_r7, wd8_i8, wd8_r8, wd8_l2, wd8_l3, wd8_l4, wd8_l5, wd8_l6, wd8_l7, wd8_l8, tl_s, tl_n, inR_t, bd_t, true_and, and_true, true_or, or_true, if_true_x, if_false_x, if_pos, if_neg, Int.toNat_natCast, natL, bI_0, bI_1, bI_ft, eq_self, b_tf, b_ft, not_true_eq_false, not_false_eq_true]
          exact hq h3 q.1 q.2
      · simp (disch := first | assumption | omega) only [e_134_12, e_134_13, e_134_14, e_134_15, onI_s, onR_s, onL_s, gl_0, gl_n, gl_1, gl_2, gl_3, gl_4, gl_5, gl_6, gl_7, gl_8, gl_9, gl_10, gl_11, gl_12, gl_13, gl_14, gl_15, gl_16, gl_17, sk0i, sk0r, sk0n, sk1i, sk1r, sk1n, sk_2, sk_3, sk_4, sk_5, sk_6, sk_7, sk_8, sk_9, sk_10, sk_11, sk_12, sk_13, sk_14, sk_15, sk_16, sk_17, ls_0, ls_1, ls_2, ls_3, ls_4, ls_5, ls_6, ls_7, ls_8, ls_9, ls_10, ls_11, ls_12, ls_13, ls_14, ls_15, ls_16, ls_17, ct1_i, ct1_r, wd8_0, wd8_i1, wd8_r1, wd8_i2, wd8_r2, wd8_i3, wd8_r3, wd8_i4, wd8_r4, wd8_i5, wd8_r5, wd8_i6, wd8_r6, wd8_i7, wd8_r7, wd8_i8, wd8_r8, wd8_l2, wd8_l3, wd8_l4, wd8_l5, wd8_l6, wd8_l7, wd8_l8, tl_s, tl_n, inR_t, bd_t, true_and, and_true, true_or, or_true, if_true_x, if_false_x, if_pos, if_neg, Int.toNat_natCast, natL, bI_0, bI_1, bI_ft, eq_self, b_tf, b_ft, not_true_eq_false, not_false_eq_true, hc.t0, hc.r0_0, hc.r0_1, hc.r0_3, hc.r0_5, hc.r0_6, hc.r0_7, hc.r0_8, hc.r0_9, hc.r0_10, hc.r0_11, hc.r0_12, hc.r0_13]
        (rw [e_134_16]; refine ⟨⟨hc.t29, by simp [wd_i, wd_r, wd_l, wd_0]⟩, ?_⟩)
        exact q
    rcases c with rfl | rfl
    · simp (disch := first | assumption | omega) only [e_134_0, e_134_1, onI_s, onR_s, onL_s, gl_0, gl_n, gl_1, gl_2, gl_3, gl_4, gl_5, gl_6, gl_7, gl_8, gl_9, gl_10, gl_11, gl_12, gl_13, gl_14, gl_15, gl_16, gl_17, sk0i, sk0r, sk0n, sk1i, sk1r, sk1n, sk_2, sk_3, sk_4, sk_5, sk_6, sk_7, sk_8, sk_9, sk_10, sk_11, sk_12, sk_13, sk_14, sk_15, sk_16, sk_17, ls_0, ls_1, ls_2, ls_3, ls_4, ls_5, ls_6, ls_7, ls_8, ls_9, ls_10, ls_11, ls_12, ls_13, ls_14, ls_15, ls_16, ls_17, ct1_i, ct1_r, wd8_0, wd8_i1, wd8_r1, wd8_i2, wd8_r2, wd8_i3, wd8_r3, wd8_i4, wd8_r4, wd8_i5, wd8_r5, wd8_i6, wd8_r6, wd8_i7, wd8_r7, wd8_i8, wd8_r8, wd8_l2, wd8_l3, wd8_l4, wd8_l5, wd8_l6, wd8_l7, wd8_l8, tl_s, tl_n, inR_t, bd_t, true_and, and_true, true_or, or_true, if_true_x, if_false_x, if_pos, if_neg, Int.toNat_natCast, natL, bI_0, bI_1, bI_ft, eq_self, b_tf, b_ft, not_true_eq_false, not_false_eq_true]
      exact st
    · simp (disch := first | assumption | omega) only [e_134_0, e_134_1, e_134_2, e_134_3, e_134_4, onI_s, onR_s, onL_s, gl_0, gl_n, gl_1, gl_2, gl_3, gl_4, gl_5, gl_6, gl_7, gl_8, gl_9, gl_10, gl_11, gl_12, gl_13, gl_14, gl_15, gl_16, gl_17, sk0i, sk0r, sk0n, sk1i, sk1r, sk1n, sk_2, sk_3, sk_4, sk_5, sk_6, sk_7, sk_8, sk_9, sk_10, sk_11, sk_12, sk_13, sk_14, sk_15, sk_16, sk_17, ls_0, ls_1, ls_2, ls_3, ls_4, ls_5, ls_6, ls_7, ls_8, ls_9, ls_10, ls_11, ls_12, ls_13, ls_14, ls_15, ls_16, ls_17, ct1_i, ct1_r, wd8_0, wd8_i1, wd8_r1, wd8_i2, wd8_r2, wd8_i3, wd8_r3, wd8_i4, wd8_r4, wd8_i5, wd8_r5, wd8_i6, wd8_r6, wd8_i7, wd8_r7, wd8_i8, wd8_r8, wd8_l2, wd8_l3, wd8_l4, wd8_l5, wd8_l6, wd8_l7, wd8_l8, tl_s, tl_n, inR_t, bd_t, true_and, and_true, true_or, or_true, if_true_x, if_false_x, if_pos, if_neg, Int.toNat_natCast, natL, bI_0, bI_1, bI_ft, eq_self, b_tf, b_ft, not_true_eq_false, not_false_eq_true, show ¬ (1 : Int) = 0 by decide]
      exact st
  · have c0 : ¬ w = 0 := fun q => c (Or.inl q)
    have c1 : ¬ w = 1 := fun q => c (Or.inr q)
    rw [if_neg c0, if_neg c1] at hq
    simp (disch := first | assumption | omega) only [e_134_0, e_134_1, e_134_2, e_134_3, e_134_4, e_134_5, e_134_6, onI_s, onR_s, onL_s, gl_0, gl_n, gl_1, gl_2, gl_3, gl_4, gl_5, gl_6, gl_7, gl_8, gl_9, gl_10, gl_11, gl_12, gl_13, gl_14, gl_15, gl_16, gl_17, sk0i, sk0r, sk0n, sk1i, sk1r, sk1n, sk_2, sk_3, sk_4, sk_5, sk_6, sk_7, sk_8, sk_9, sk_10, sk_11, sk_12, sk_13, sk_14, sk_15, sk_16, sk_17, ls_0, ls_1, ls_2, ls_3, ls_4, ls_5, ls_6, ls_7, ls_8, ls_9, ls_10, ls_11, ls_12, ls_13, ls_14, ls_15, ls_16, ls_17, ct1_i, ct1_r, wd8_0, wd8_i1, wd8_r1, wd8_i2, wd8_r2, wd8_i3, wd8_r3, wd8_i4, wd8_r4, wd8_i5, wd8_r5, wd8_i6, wd8_r6, wd8_i7, wd8_r7, wd8_i8, wd8_r8, wd8_l2, wd8_l3, wd8_l4, wd8_l5, wd8_l6, wd8_l7, wd8_l8, tl_s, tl_n, inR_t, bd_t, true_and, and_true, true_or, or_true, if_true_x, if_false_x, if_pos, if_neg, Int.toNat_natCast, natL, bI_0, bI_1, bI_ft, eq_self, b_tf, b_ft, not_true_eq_false, not_false_eq_true, c0, c1]
    have q := fin3 h (Fz.refl z) rfl
    exact hq h q.1 q.2
end LGC
