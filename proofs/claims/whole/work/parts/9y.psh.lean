/-! SPREAD of the class: pushCell -/
section PS4
variable {X : xL} {Q : Option xV → xH → Prop} {ns nb ln : Nat} {h0 : xH} {v : Nat → Nat → Int} {c : Nat}
set_option maxHeartbeats 4000000 in
theorem l_4 (hp : PL X 200) (hc : CT X ns nb ln) (os : OkS h0) (g : Gd v) (hl : v 14 c = 0) (hcN : (c : Int) < v 11 0) (tm : TMb (h0.1 1)) (bn : BNv X h0 v (nbC v) (nbT v) nb) (en : nb = nbn v) (ps : PTo (h0.1 23) (nbT v) (nbC v) (sup v)) : ∀ (m k b : Nat) (h : xH) (w : Nat → Nat → Int) (x10 : Option xV), k + m = 5 → 1 ≤ k → SV X h0 h v c w → (∀ h2 w2 best x10, SV X h0 h2 v c w2 → Ev X 4 106 [some (vr 26), some (vr 200), some (vi c), some (vr (200 + 11)), some (vi (v 15 c)), some (vi (v 16 c)), some (vi (cnd v (h0.1 1) c (amn (fun k => csC (cnd v (h0.1 1) c k) (h0.1 1) c) m k b) 15 c)), some (vi (cnd v (h0.1 1) c (amn (fun k => csC (cnd v (h0.1 1) c k) (h0.1 1) c) m k b) 16 c)), some (vi best), some (vi 5), x10] [] h2 Q) → Ev X 4 21 [some (vr 26), some (vr 200), some (vi c), some (vr (200 + 11)), some (vi (v 15 c)), some (vi (v 16 c)), some (vi (cnd v (h0.1 1) c b 15 c)), some (vi (cnd v (h0.1 1) c b 16 c)), some (vi (csC (cnd v (h0.1 1) c b) (h0.1 1) c)), some (vi k), x10] [] h Q := by
  intro m
  induction m with
  | zero =>
    intro k b h w x10 hm k1 s hq
    rw [show k = 5 by omega]
    rw [e_4_21]
    simp (disch := first | assumption | omega) only [e_4_22, e_4_23, onI_s, onR_s, onL_s, gl_0, gl_n, gl_1, gl_2, gl_3, gl_4, gl_5, gl_6, gl_7, gl_8, gl_9, gl_10, gl_11, gl_12, gl_13, gl_14, gl_15, gl_16, gl_17, sk0i, sk0r, sk0n, sk1i, sk1r, sk1n, sk_2, sk_3, sk_4, sk_5, sk_6, sk_7, sk_8, sk_9, sk_10, sk_11, sk_12, sk_13, sk_14, sk_15, sk_16, sk_17, ls_0, ls_1, ls_2, ls_3, ls_4, ls_5, ls_6, ls_7, ls_8, ls_9, ls_10, ls_11, ls_12, ls_13, ls_14, ls_15, ls_16, ls_17, ct1_i, ct1_r, wd8_0, wd8_i1, wd8_r1, wd8_i2, wd8_r2, wd8_i3, wd8_r3, wd8_i4, wd8_r4, wd8_i5, wd8_r5, wd8_i6, wd8_r6, wd8_i7, wd8_r7, wd8_i8, wd8_r8, wd8_l2, wd8_l3, wd8_l4, wd8_l5, wd8_l6, wd8_l7, wd8_l8, tl_s, tl_n, inR_t, bd_t, true_and, and_true, true_or, or_true, if_true_x, if_false_x, if_pos, if_neg, Int.toNat_natCast, natL, bI_0, bI_1, bI_ft, eq_self, b_tf, b_ft, not_true_eq_false, not_false_eq_true]
    exact hq h w _ x10 s
  | succ m ih =>
    intro k b h w x10 hm k1 s hq
    refine it_4 hp hc os g hl hcN tm bn en ps k1 (by omega) s (fun h2 s2 => ?_)
    rw [show ((k : Int) + 1) = ((k + 1 : Nat) : Int) by omega]
    rw [amn] at hq
    by_cases e : csC (cnd v (h0.1 1) c k) (h0.1 1) c < csC (cnd v (h0.1 1) c b) (h0.1 1) c
    · rw [if_pos e] at hq
      rw [if_pos e, if_pos e, if_pos e]
      exact ih (k + 1) k h2 _ _ (by omega) (by omega) s2 hq
    · rw [if_neg e] at hq
      rw [if_neg e, if_neg e, if_neg e]
      exact ih (k + 1) b h2 _ _ (by omega) (by omega) s2 hq
set_option maxHeartbeats 8000000 in
theorem m_4 (hp : PL X 200) (hc : CT X ns nb ln) (os : OkS h0) (ev : cv h0 200 = v) (z : NZ X h0) (g : Gd v) (hl : v 14 c = 0) (hcN : (c : Int) < v 11 0) (tm : TMb (h0.1 1)) (bn : BNv X h0 v (nbC v) (nbT v) nb) (en : nb = nbn v) (ps : PTo (h0.1 23) (nbT v) (nbC v) (sup v)) (pn : PTo (h0.1 24) (nbT v) (nbC v) (ned v)) (hq : ∀ h2, SV X h0 h2 v c (sdC v (h0.1 1) c) → Q none h2) : Cl X 4 [vr 26, vr 200, vi c] h0 Q := by
  have nC := g.rg.nC
  have nn := nb_b g.rg
  have c20 : c < 20 := by omega
  have e15 : h0.1 (200 + 15) c = v 15 c := by rw [← ev]; rfl
  have e16 : h0.1 (200 + 16) c = v 16 c := by rw [← ev]; rfl
  rw [c_4]
  simp (disch := first | assumption | omega) only [e_4_0, e_4_1, e_4_2, e_4_3, e_4_4, e_4_5, e_4_6, e_4_7, e_4_8, e_4_9, e_4_10, e_4_11, e_4_12, e_4_13, e_4_14, e_4_15, e_4_16, e_4_17, e_4_18, e_4_19, e_4_20, onI_s, onR_s, onL_s, gl_0, gl_n, gl_1, gl_2, gl_3, gl_4, gl_5, gl_6, gl_7, gl_8, gl_9, gl_10, gl_11, gl_12, gl_13, gl_14, gl_15, gl_16, gl_17, sk0i, sk0r, sk0n, sk1i, sk1r, sk1n, sk_2, sk_3, sk_4, sk_5, sk_6, sk_7, sk_8, sk_9, sk_10, sk_11, sk_12, sk_13, sk_14, sk_15, sk_16, sk_17, ls_0, ls_1, ls_2, ls_3, ls_4, ls_5, ls_6, ls_7, ls_8, ls_9, ls_10, ls_11, ls_12, ls_13, ls_14, ls_15, ls_16, ls_17, ct1_i, ct1_r, wd8_0, wd8_i1, wd8_r1, wd8_i2, wd8_r2, wd8_i3, wd8_r3, wd8_i4, wd8_r4, wd8_i5, wd8_r5, wd8_i6, wd8_r6, wd8_i7, wd8_r7, wd8_i8, wd8_r8, wd8_l2, wd8_l3, wd8_l4, wd8_l5, wd8_l6, wd8_l7, wd8_l8, tl_s, tl_n, inR_t, bd_t, true_and, and_true, true_or, or_true, if_true_x, if_false_x, if_pos, if_neg, Int.toNat_natCast, natL, bI_0, bI_1, bI_ft, eq_self, b_tf, b_ft, not_true_eq_false, not_false_eq_true, e15, e16, hp.t0, hp.t1, hp.t2, hp.t3, hp.t4, hp.t5, hp.t6, hp.t7, hp.t8, hp.t9, hp.t10, hp.t11, hp.t12, hp.t13, hp.t14, hp.t15, hp.t16, hp.t17, hp.t18, hp.t19, hp.t20, hp.t21, hp.t22, hp.t23, hp.z2, hp.z3, hp.z4, hp.z5, hp.z7, hp.z8, hp.z9, hp.z10, hp.z12, hp.z13, hp.z14, hp.z15, hp.z16, hp.z17, hp.z18, hp.z20, hp.z21, hp.z22, hp.z23, hp.r0_2, hp.r0_3, hp.r0_4, hp.r0_5, hp.r1_1, hp.r1_2, hp.r1_3, hp.r1_4, hp.r6_1, hp.r6_2, hp.r6_3, hp.r6_4, hp.r11_1, hp.r11_2, hp.r11_3, hp.r11_4, hp.r11_5, hp.r11_6, hp.r11_7, hp.r19_1, hp.r19_2, hp.r19_3, hp.r19_4]
  refine b0_4 hp hc (w := v) ev z g.rg (cW_gd g hcN) bn c20 pn (fun h2 z2 p2 e2 q2 => ?_)
  have t2 : h2.1 1 = h0.1 1 := p2.1 1 (by omega) (by omega) (by omega) (by omega)
  refine a_4 hp hc (w := v) e2 z2 g.wg (cW_gd g hcN) (by rw [t2]; exact tm) (by unfold BNv; rw [p2.2]; exact bn) en c20 (by rw [p2.1 23 (by omega) (by omega) (by omega) (by omega)]; exact ps) q2 (by omega) (fun h3 z3 p3 e3 q3 => ?_)
  have cb := csC_bd g.wg tm c
  rw [t2, if_pos (by omega), if_pos (by omega), if_pos (by omega)]
  have c0 : cnd v (h0.1 1) c 0 = v := by unfold cnd; rw [if_pos rfl]
  have key := l_4 (Q := Q) hp hc os g hl hcN tm bn en ps 4 1 0 h3 v (some (vi (csC v (h0.1 1) c))) (by omega) (by omega) ⟨z3, p2.tr p3, e3, ⟨v 15 c, v 16 c, mvV_id.symm⟩, g, q3⟩
  rw [c0, ← sdC_cls g.rg] at key
  refine key (fun h4 w4 best x10 s4 => ?_)
  obtain ⟨bw, ew⟩ := s4.bn bn en
  have pnw := s4.pn
  have g4 := s4.2.2.2.2.1
  have nw := nb_b g4.rg
  have hl4 : w4 14 c = 0 := by rw [s4.eqo (by omega) (by omega)]; exact hl
  have hN4 : (c : Int) < w4 11 0 := by rw [s4.eqo (by omega) (by omega)]; exact hcN
  have e4 := s4.2.2.1
  rw [e_4_106]
  simp (disch := first | assumption | omega) only [e_4_107, e_4_108, e_4_109, e_4_110, onI_s, onR_s, onL_s, gl_0, gl_n, gl_1, gl_2, gl_3, gl_4, gl_5, gl_6, gl_7, gl_8, gl_9, gl_10, gl_11, gl_12, gl_13, gl_14, gl_15, gl_16, gl_17, sk0i, sk0r, sk0n, sk1i, sk1r, sk1n, sk_2, sk_3, sk_4, sk_5, sk_6, sk_7, sk_8, sk_9, sk_10, sk_11, sk_12, sk_13, sk_14, sk_15, sk_16, sk_17, ls_0, ls_1, ls_2, ls_3, ls_4, ls_5, ls_6, ls_7, ls_8, ls_9, ls_10, ls_11, ls_12, ls_13, ls_14, ls_15, ls_16, ls_17, ct1_i, ct1_r, wd8_0, wd8_i1, wd8_r1, wd8_i2, wd8_r2, wd8_i3, wd8_r3, wd8_i4, wd8_r4, wd8_i5, wd8_r5, wd8_i6, wd8_r6, wd8_i7, wd8_r7, wd8_i8, wd8_r8, wd8_l2, wd8_l3, wd8_l4, wd8_l5, wd8_l6, wd8_l7, wd8_l8, tl_s, tl_n, inR_t, bd_t, true_and, and_true, true_or, or_true, if_true_x, if_false_x, if_pos, if_neg, Int.toNat_natCast, natL, bI_0, bI_1, bI_ft, eq_self, b_tf, b_ft, not_true_eq_false, not_false_eq_true, hc.t26, hc.r26_0, hc.r26_1, hc.r26_2, hc.r26_3, hc.r26_4]
  (rw [e_4_111]; refine ⟨⟨hc.t22, by simp [wd_i, wd_r, wd_l, wd_0]⟩, ?_⟩)
  refine m_8 hp hc (sg := -1) s4.1 (by rw [e4]; exact g4.rg) (by rw [e4]; exact cW_gd g4 hN4) (by rw [e4]; exact bw) (by omega) (by omega) c20 (Or.inr rfl) pnw (fun br bc => ?_) (fun h5 z5 g5 p5 => ?_)
  · have a := ned_b g4.rg br bc
    omega
  rw [e4] at p5
  replace p5 := p5.cg (B := fun br bc => ned w4 br bc - ndC w4 c br bc) (fun br bc _ _ => by omega)
  have e5 := (g5.cv (b := 200) (by omega) (by omega)).trans e4
  simp (disch := first | assumption | omega) only [e_4_112, e_4_113, e_4_114, e_4_115, e_4_116, e_4_117, e_4_118, e_4_119, e_4_120, e_4_121, onI_s, onR_s, onL_s, gl_0, gl_n, gl_1, gl_2, gl_3, gl_4, gl_5, gl_6, gl_7, gl_8, gl_9, gl_10, gl_11, gl_12, gl_13, gl_14, gl_15, gl_16, gl_17, sk0i, sk0r, sk0n, sk1i, sk1r, sk1n, sk_2, sk_3, sk_4, sk_5, sk_6, sk_7, sk_8, sk_9, sk_10, sk_11, sk_12, sk_13, sk_14, sk_15, sk_16, sk_17, ls_0, ls_1, ls_2, ls_3, ls_4, ls_5, ls_6, ls_7, ls_8, ls_9, ls_10, ls_11, ls_12, ls_13, ls_14, ls_15, ls_16, ls_17, ct1_i, ct1_r, wd8_0, wd8_i1, wd8_r1, wd8_i2, wd8_r2, wd8_i3, wd8_r3, wd8_i4, wd8_r4, wd8_i5, wd8_r5, wd8_i6, wd8_r6, wd8_i7, wd8_r7, wd8_i8, wd8_r8, wd8_l2, wd8_l3, wd8_l4, wd8_l5, wd8_l6, wd8_l7, wd8_l8, tl_s, tl_n, inR_t, bd_t, true_and, and_true, true_or, or_true, if_true_x, if_false_x, if_pos, if_neg, Int.toNat_natCast, natL, bI_0, bI_1, bI_ft, eq_self, b_tf, b_ft, not_true_eq_false, not_false_eq_true, hp.t0, hp.t1, hp.t2, hp.t3, hp.t4, hp.t5, hp.t6, hp.t7, hp.t8, hp.t9, hp.t10, hp.t11, hp.t12, hp.t13, hp.t14, hp.t15, hp.t16, hp.t17, hp.t18, hp.t19, hp.t20, hp.t21, hp.t22, hp.t23, hp.z2, hp.z3, hp.z4, hp.z5, hp.z7, hp.z8, hp.z9, hp.z10, hp.z12, hp.z13, hp.z14, hp.z15, hp.z16, hp.z17, hp.z18, hp.z20, hp.z21, hp.z22, hp.z23, hp.r0_2, hp.r0_3, hp.r0_4, hp.r0_5, hp.r1_1, hp.r1_2, hp.r1_3, hp.r1_4, hp.r6_1, hp.r6_2, hp.r6_3, hp.r6_4, hp.r11_1, hp.r11_2, hp.r11_3, hp.r11_4, hp.r11_5, hp.r11_6, hp.r11_7, hp.r19_1, hp.r19_2, hp.r19_3, hp.r19_4]
  have sm : mvV w4 c (sdC v (h0.1 1) c 15 c) (sdC v (h0.1 1) c 16 c) = sdC v (h0.1 1) c := by
    obtain ⟨_, _, _, ⟨x, y, rfl⟩, _⟩ := s4
    rw [mvV_mv]
    unfold sdC
    exact cnd_mv.symm
  have gs : Gd (sdC v (h0.1 1) c) := cnd_gd g hl (h0.1 1) _
  have so : ∀ j, j ≠ 15 → j ≠ 16 → sdC v (h0.1 1) c j = v j := fun j h1 h2 => cnd_o h1 h2
  obtain ⟨h6, e6⟩ : ∃ h6 : xH, h6 = (up2 (up2 h5.1 (200 + 15) c (sdC v (h0.1 1) c 15 c)) (200 + 16) c (sdC v (h0.1 1) c 16 c), h5.2) := ⟨_, rfl⟩
  rw [← e6]
  have v6 : cv h6 200 = sdC v (h0.1 1) c := by
    rw [e6, cv_u (I := up2 h5.1 (200 + 15) c (sdC v (h0.1 1) c 15 c)) (F := h5.2) (b := 200) (j := 16) (by omega) (by omega), cv_u (I := h5.1) (F := h5.2) (b := 200) (j := 15) (by omega) (by omega)]
    rw [show cv (h5.1, h5.2) 200 = cv h5 200 from rfl, e5]
    exact sm
  have z6 : NZ X h6 := by
    rw [e6]
    exact NZ.up (I := up2 h5.1 (200 + 15) c (sdC v (h0.1 1) c 15 c)) (F := h5.2) (NZ.up (I := h5.1) (F := h5.2) z5 (by rw [hp.z15]; exact c20)) (by rw [hp.z16]; exact c20)
  have pf6 : PF h4 h6 := by
    refine ⟨fun a q1 q2 q3 q4 => ?_, ?_⟩
    · rw [e6]
      dsimp only
      rw [up2_of q4, up2_of q3, g5.1 a q2]
    · rw [e6]
      exact g5.2
  have pf0 := s4.2.1.tr pf6
  have nC2 : nbC (sdC v (h0.1 1) c) = nbC v := by unfold nbC; rw [so 0 (by omega) (by omega)]
  have nT2 : nbT (sdC v (h0.1 1) c) = nbT v := by unfold nbT; rw [so 0 (by omega) (by omega)]
  have nC4 : nbC w4 = nbC v := by unfold nbC; rw [s4.eqo (j := 0) (by omega) (by omega)]
  have nT4 : nbT w4 = nbT v := by unfold nbT; rw [s4.eqo (j := 0) (by omega) (by omega)]
  have qn := ned_mv (v := w4) (c := c) (x := sdC v (h0.1 1) c 15 c) (y := sdC v (h0.1 1) c 16 c) hl4 hN4
  rw [sm] at qn
  rw [nC4, nT4] at p5
  have p6 : PTo (h6.1 24) (nbT v) (nbC v) (fun br bc => ned (sdC v (h0.1 1) c) br bc - ndC (sdC v (h0.1 1) c) c br bc) := by
    rw [e6]
    dsimp only
    rw [up2_of (by omega), up2_of (by omega)]
    exact p5.cg (fun br bc _ _ => by rw [qn br bc]; omega)
  rw [e_4_122]
  simp (disch := first | assumption | omega) only [e_4_123, e_4_124, e_4_125, e_4_126, onI_s, onR_s, onL_s, gl_0, gl_n, gl_1, gl_2, gl_3, gl_4, gl_5, gl_6, gl_7, gl_8, gl_9, gl_10, gl_11, gl_12, gl_13, gl_14, gl_15, gl_16, gl_17, sk0i, sk0r, sk0n, sk1i, sk1r, sk1n, sk_2, sk_3, sk_4, sk_5, sk_6, sk_7, sk_8, sk_9, sk_10, sk_11, sk_12, sk_13, sk_14, sk_15, sk_16, sk_17, ls_0, ls_1, ls_2, ls_3, ls_4, ls_5, ls_6, ls_7, ls_8, ls_9, ls_10, ls_11, ls_12, ls_13, ls_14, ls_15, ls_16, ls_17, ct1_i, ct1_r, wd8_0, wd8_i1, wd8_r1, wd8_i2, wd8_r2, wd8_i3, wd8_r3, wd8_i4, wd8_r4, wd8_i5, wd8_r5, wd8_i6, wd8_r6, wd8_i7, wd8_r7, wd8_i8, wd8_r8, wd8_l2, wd8_l3, wd8_l4, wd8_l5, wd8_l6, wd8_l7, wd8_l8, tl_s, tl_n, inR_t, bd_t, true_and, and_true, true_or, or_true, if_true_x, if_false_x, if_pos, if_neg, Int.toNat_natCast, natL, bI_0, bI_1, bI_ft, eq_self, b_tf, b_ft, not_true_eq_false, not_false_eq_true, hc.t26, hc.r26_0, hc.r26_1, hc.r26_2, hc.r26_3, hc.r26_4]
  (rw [e_4_127]; refine ⟨⟨hc.t22, by simp [wd_i, wd_r, wd_l, wd_0]⟩, ?_⟩)
  refine m_8 hp hc (C := nbC v) (T := nbT v) (sg := 1) z6 (by rw [v6]; exact gs.rg) (by rw [v6]; exact cW_gd gs (by rw [so 11 (by omega) (by omega)]; exact hcN)) (by rw [v6]; unfold BNv; rw [pf0.2, so 0 (by omega) (by omega)]; exact bn) (by omega) (by omega) c20 (Or.inl rfl) p6 (fun br bc => ?_) (fun h7 z7 g7 p7 => ?_)
  · have a := ned_b gs.rg br bc
    have b := ndC_bd gs.rg c br bc
    omega
  · rw [v6] at p7
    simp (disch := first | assumption | omega) only [e_4_128, onI_s, onR_s, onL_s, gl_0, gl_n, gl_1, gl_2, gl_3, gl_4, gl_5, gl_6, gl_7, gl_8, gl_9, gl_10, gl_11, gl_12, gl_13, gl_14, gl_15, gl_16, gl_17, sk0i, sk0r, sk0n, sk1i, sk1r, sk1n, sk_2, sk_3, sk_4, sk_5, sk_6, sk_7, sk_8, sk_9, sk_10, sk_11, sk_12, sk_13, sk_14, sk_15, sk_16, sk_17, ls_0, ls_1, ls_2, ls_3, ls_4, ls_5, ls_6, ls_7, ls_8, ls_9, ls_10, ls_11, ls_12, ls_13, ls_14, ls_15, ls_16, ls_17, ct1_i, ct1_r, wd8_0, wd8_i1, wd8_r1, wd8_i2, wd8_r2, wd8_i3, wd8_r3, wd8_i4, wd8_r4, wd8_i5, wd8_r5, wd8_i6, wd8_r6, wd8_i7, wd8_r7, wd8_i8, wd8_r8, wd8_l2, wd8_l3, wd8_l4, wd8_l5, wd8_l6, wd8_l7, wd8_l8, tl_s, tl_n, inR_t, bd_t, true_and, and_true, true_or, or_true, if_true_x, if_false_x, if_pos, if_neg, Int.toNat_natCast, natL, bI_0, bI_1, bI_ft, eq_self, b_tf, b_ft, not_true_eq_false, not_false_eq_true]
    exact hq h7 ⟨z7, pf0.tr g7.pf, (g7.cv (b := 200) (by omega) (by omega)).trans v6, ⟨_, _, by unfold sdC; exact cnd_mv⟩, gs, p7.cg (fun br bc _ _ => by omega)⟩
end PS4
