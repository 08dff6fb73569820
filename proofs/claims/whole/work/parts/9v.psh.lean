/-! SPREAD of the class: one try for one cell -/
def PF (h h2 : xH) : Prop := (∀ a, a ≠ 15 → a ≠ 24 → a ≠ 215 → a ≠ 216 → h2.1 a = h.1 a) ∧ h2.2 = h.2
def cW (v : Nat → Nat → Int) (c : Nat) : Prop := 1 ≤ v 12 c ∧ v 15 c ≤ 16 * (v 0 1 - v 12 c) ∧ v 16 c ≤ 16 * (v 0 0 - 1)
theorem smW_bd {v : Nat → Nat → Int} {t gm : Int} (g : WG v) (t0 : 0 ≤ t) (t1 : t ≤ 8) (hg : 0 < gm) (c : Nat) : -4017600 ≤ sumF (smW v t gm c) (v 19 0).toNat 0 ∧ sumF (smW v t gm c) (v 19 0).toNat 0 ≤ 4017600 := by
  have nN := g.1.nN
  have := sumF_bs (f := smW v t gm c) (B := 251100) (v 19 0).toNat 0 (fun j h1 h2 => by
    have := smT_bd g (n := j) (by omega) t0 t1 hg
    unfold smW
    split <;> omega)
  omega
theorem csC_bd {v : Nat → Nat → Int} {f : Nat → Int} (g : WG v) (tm : TMb f) (c : Nat) : -200000000 ≤ csC v f c ∧ csC v f c ≤ 200000000 := by
  have tt := tm.tall
  have tg := tm.gam
  have t1 := tm.tgt
  have t2 := tm.prs
  have nn := nb_b g.1
  have sb := smW_bd g (t := f 4) (gm := f 0) (by omega) (by omega) (by omega) c
  have ob := ovf_b g.1 (tg := f 1) (by omega) (nbC v) (nbn v) (by omega)
  have mb := mul_bd (a := f 2) (b := ovf v (f 1) (nbC v) (nbn v)) (A := 99) (B := 491520) (by omega) (by omega) (by omega) (by omega)
  unfold csC
  omega
section PSH
variable {X : xL} {Q : Option xV → xH → Prop} {ns nb ln : Nat} {h : xH}
theorem PF.refl : PF h h := ⟨fun _ _ _ _ _ => rfl, rfl⟩
theorem PF.tr {h2 h3 : xH} (a : PF h h2) (b : PF h2 h3) : PF h h3 := ⟨fun j q1 q2 q3 q4 => (b.1 j q1 q2 q3 q4).trans (a.1 j q1 q2 q3 q4), b.2.trans a.2⟩
theorem G1.pf {h2 : xH} (a : G1 24 h h2) : PF h h2 := ⟨fun j _ q _ _ => a.1 j q, a.2⟩
theorem S15.pf {h2 : xH} (a : S15 h h2) : PF h h2 := ⟨fun j q _ _ _ => a.1 j q, a.2⟩
set_option maxHeartbeats 8000000 in
theorem a_4 (hp : PL X 200) (hc : CT X ns nb ln) {w : Nat → Nat → Int} {c : Nat} {x y bx bY best k : Int} {x10 : Option xV} (ev : cv h 200 = w) (z : NZ X h) (g : WG w) (cw : cW w c) (tm : TMb (h.1 1)) (bn : BNv X h w (nbC w) (nbT w) nb) (en : nb = nbn w) (hcc : c < 20) (ps : PTo (h.1 23) (nbT w) (nbC w) (sup w)) (pt : PTo (h.1 24) (nbT w) (nbC w) (fun br bc => ned w br bc - ndC w c br bc)) (hk : 0 ≤ k ∧ k ≤ 10)
    (hq : ∀ h2, NZ X h2 → PF h h2 → cv h2 200 = w → PTo (h2.1 24) (nbT w) (nbC w) (ned w) → Ev X 4 21 [some (vr 26), some (vr 200), some (vi c), some (vr (200 + 11)), some (vi x), some (vi y), some (vi (if csC w (h.1 1) c < best then w 15 c else bx)), some (vi (if csC w (h.1 1) c < best then w 16 c else bY)), some (vi (if csC w (h.1 1) c < best then csC w (h.1 1) c else best)), some (vi (k + 1)), some (vi (csC w (h.1 1) c))] [] h2 Q) : Ev X 4 66 [some (vr 26), some (vr 200), some (vi c), some (vr (200 + 11)), some (vi x), some (vi y), some (vi bx), some (vi bY), some (vi best), some (vi k), x10] [] h Q := by
  have nn := nb_b g.1
  have tt := tm.tall
  have tg := tm.gam
  have t1 := tm.tgt
  have t2 := tm.prs
  rw [e_4_66]
  simp (disch := first | assumption | omega) only [e_4_67, e_4_68, e_4_69, e_4_70, onI_s, onR_s, onL_s, gl_0, gl_n, gl_1, gl_2, gl_3, gl_4, gl_5, gl_6, gl_7, gl_8, gl_9, gl_10, gl_11, gl_12, gl_13, gl_14, gl_15, gl_16, gl_17, sk0i, sk0r, sk0n, sk1i, sk1r, sk1n, sk_2, sk_3, sk_4, sk_5, sk_6, sk_7, sk_8, sk_9, sk_10, sk_11, sk_12, sk_13, sk_14, sk_15, sk_16, sk_17, ls_0, ls_1, ls_2, ls_3, ls_4, ls_5, ls_6, ls_7, ls_8, ls_9, ls_10, ls_11, ls_12, ls_13, ls_14, ls_15, ls_16, ls_17, ct1_i, ct1_r, wd8_0, wd8_i1, wd8_r1, wd8_i2, wd8_r2, wd8_i3, wd8_r3, wd8_i4, wd8_r4, wd8_i5, wd8_r5, wd8_i6, wd8_r6, wd8_i7, wd8_r7, wd8_i8, wd8_r8, wd8_l2, wd8_l3, wd8_l4, wd8_l5, wd8_l6, wd8_l7, wd8_l8, tl_s, tl_n, inR_t, bd_t, true_and, and_true, true_or, or_true, if_true_x, if_false_x, if_pos, if_neg, Int.toNat_natCast, natL, bI_0, bI_1, bI_ft, eq_self, b_tf, b_ft, not_true_eq_false, not_false_eq_true, hc.t26, hc.r26_0, hc.r26_1, hc.r26_2, hc.r26_3, hc.r26_4]
  (rw [e_4_71]; refine ⟨⟨hc.t22, by simp [wd_i, wd_r, wd_l, wd_0]⟩, ?_⟩)
  refine m_8 hp hc (sg := 1) z (by rw [ev]; exact g.1) (by rw [ev]; exact cw) (by rw [ev]; exact bn) (by omega) (by omega) hcc (Or.inl rfl) pt (fun br bc => ?_) (fun h2 z2 g2 p2 => ?_)
  · have a := ned_b g.1 br bc
    have b := ndC_bd g.1 c br bc
    omega
  · rw [ev] at p2
    replace p2 := p2.cg (B := ned w) (fun br bc _ _ => by omega)
    have e2 := (g2.cv (b := 200) (by omega) (by omega)).trans ev
    have e1 := g2.1 1 (by omega)
    simp (disch := first | assumption | omega) only [e_4_72, e_4_73, e_4_74, e_4_75, e_4_76, onI_s, onR_s, onL_s, gl_0, gl_n, gl_1, gl_2, gl_3, gl_4, gl_5, gl_6, gl_7, gl_8, gl_9, gl_10, gl_11, gl_12, gl_13, gl_14, gl_15, gl_16, gl_17, sk0i, sk0r, sk0n, sk1i, sk1r, sk1n, sk_2, sk_3, sk_4, sk_5, sk_6, sk_7, sk_8, sk_9, sk_10, sk_11, sk_12, sk_13, sk_14, sk_15, sk_16, sk_17, ls_0, ls_1, ls_2, ls_3, ls_4, ls_5, ls_6, ls_7, ls_8, ls_9, ls_10, ls_11, ls_12, ls_13, ls_14, ls_15, ls_16, ls_17, ct1_i, ct1_r, wd8_0, wd8_i1, wd8_r1, wd8_i2, wd8_r2, wd8_i3, wd8_r3, wd8_i4, wd8_r4, wd8_i5, wd8_r5, wd8_i6, wd8_r6, wd8_i7, wd8_r7, wd8_i8, wd8_r8, wd8_l2, wd8_l3, wd8_l4, wd8_l5, wd8_l6, wd8_l7, wd8_l8, tl_s, tl_n, inR_t, bd_t, true_and, and_true, true_or, or_true, if_true_x, if_false_x, if_pos, if_neg, Int.toNat_natCast, natL, bI_0, bI_1, bI_ft, eq_self, b_tf, b_ft, not_true_eq_false, not_false_eq_true, hc.t26, hc.r26_0, hc.r26_1, hc.r26_2, hc.r26_3, hc.r26_4]
    (rw [e_4_77]; refine ⟨⟨hc.t14, by simp [wd_i, wd_r, wd_l, wd_0]⟩, ?_⟩)
    refine m_97 hp hc z2 (by rw [e2]; exact g) (by rw [e1]; exact tm) (fun h3 z3 g3 => ?_)
    have e3 := g3.cv.trans e2
    have e13 := (g3.1 1 (by omega)).trans e1
    have e15 : h3.1 (200 + 15) c = w 15 c := by rw [← e3]; rfl
    have e16 : h3.1 (200 + 16) c = w 16 c := by rw [← e3]; rfl
    have cb := csC_bd g tm c
    have sb := smW_bd g (t := h.1 1 4) (gm := h.1 1 0) (by omega) (by omega) (by omega) c
    have ob := ovf_b g.1 (tg := h.1 1 1) (by omega) (nbC w) (nbn w) (by omega)
    have mb := mul_bd (a := h.1 1 2) (b := ovf w (h.1 1 1) (nbC w) (nbn w)) (A := 99) (B := 491520) (by omega) (by omega) (by omega) (by omega)
    have ec : 16 * sumF (smW w (h.1 1 4) (h.1 1 0) c) (w 19 0).toNat 0 + h.1 1 2 * ovf w (h.1 1 1) (nbC w) (nbn w) = csC w (h.1 1) c := rfl
    have eo : ∀ Q2 : Option xV → xH → Prop, Cl X 10 [vr 22] h3 Q2 ↔ Q2 (some (vi (ovf w (h.1 1 1) (nbC w) nb))) h3 := fun Q2 => m_10 (h := h3) hc g.1 (tg := h.1 1 1) (C := nbC w) (T := nbT w) bn.1.2.2 (by omega) (by rw [g3.2, g2.2]; exact bn.1.2.1) (by rw [g3.1 24 (by omega)]; exact p2) (by rw [g3.1 23 (by omega), g2.1 23 (by omega)]; exact ps) (by rw [e13]) t1.1 t1.2
    rw [e2, e1]
    have key := hq h3 z3 (g2.pf.tr g3.pf) e3 (by rw [g3.1 24 (by omega)]; exact p2)
    by_cases e : csC w (h.1 1) c < best
    · rw [if_pos e, if_pos e, if_pos e] at key
      simp (disch := first | assumption | omega) only [e_4_78, e_4_79, e_4_80, e_4_81, e_4_82, e_4_83, e_4_84, e_4_85, e_4_86, e_4_87, e_4_88, e_4_89, e_4_90, e_4_91, e_4_92, e_4_93, e_4_94, e_4_95, e_4_96, e_4_97, e_4_98, e_4_99, e_4_100, e_4_101, e_4_102, e_4_103, e_4_104, e_4_105, onI_s, onR_s, onL_s, gl_0, gl_n, gl_1, gl_2, gl_3, gl_4, gl_5, gl_6, gl_7, gl_8, gl_9, gl_10, gl_11, gl_12, gl_13, gl_14, gl_15, gl_16, gl_17, sk0i, sk0r, sk0n, sk1i, sk1r, sk1n, sk_2, sk_3, sk_4, sk_5, sk_6, sk_7, sk_8, sk_9, sk_10, sk_11, sk_12, sk_13, sk_14, sk_15, sk_16, sk_17, ls_0, ls_1, ls_2, ls_3, ls_4, ls_5, ls_6, ls_7, ls_8, ls_9, ls_10, ls_11, ls_12, ls_13, ls_14, ls_15, ls_16, ls_17, ct1_i, ct1_r, wd8_0, wd8_i1, wd8_r1, wd8_i2, wd8_r2, wd8_i3, wd8_r3, wd8_i4, wd8_r4, wd8_i5, wd8_r5, wd8_i6, wd8_r6, wd8_i7, wd8_r7, wd8_i8, wd8_r8, wd8_l2, wd8_l3, wd8_l4, wd8_l5, wd8_l6, wd8_l7, wd8_l8, tl_s, tl_n, inR_t, bd_t, true_and, and_true, true_or, or_true, if_true_x, if_false_x, if_pos, if_neg, Int.toNat_natCast, natL, bI_0, bI_1, bI_ft, eq_self, b_tf, b_ft, not_true_eq_false, not_false_eq_true, eo, en, e13, tn_2, ec, e15, e16, e, hc.t1, hc.z1, hc.t26, hc.r26_0, hc.r26_1, hc.r26_2, hc.r26_3, hc.r26_4, hc.t22, hc.r22_2, hc.r22_3, hc.r22_4, hc.r22_5, hp.t0, hp.t1, hp.t2, hp.t3, hp.t4, hp.t5, hp.t6, hp.t7, hp.t8, hp.t9, hp.t10, hp.t11, hp.t12, hp.t13, hp.t14, hp.t15, hp.t16, hp.t17, hp.t18, hp.t19, hp.t20, hp.t21, hp.t22, hp.t23, hp.z2, hp.z3, hp.z4, hp.z5, hp.z7, hp.z8, hp.z9, hp.z10, hp.z12, hp.z13, hp.z14, hp.z15, hp.z16, hp.z17, hp.z18, hp.z20, hp.z21, hp.z22, hp.z23, hp.r0_2, hp.r0_3, hp.r0_4, hp.r0_5, hp.r1_1, hp.r1_2, hp.r1_3, hp.r1_4, hp.r6_1, hp.r6_2, hp.r6_3, hp.r6_4, hp.r11_1, hp.r11_2, hp.r11_3, hp.r11_4, hp.r11_5, hp.r11_6, hp.r11_7, hp.r19_1, hp.r19_2, hp.r19_3, hp.r19_4]
      exact key
    · rw [if_neg e, if_neg e, if_neg e] at key
      simp (disch := first | assumption | omega) only [e_4_78, e_4_79, e_4_80, e_4_81, e_4_82, e_4_83, e_4_84, e_4_85, e_4_86, e_4_87, e_4_88, e_4_89, e_4_90, e_4_91, e_4_104, e_4_105, onI_s, onR_s, onL_s, gl_0, gl_n, gl_1, gl_2, gl_3, gl_4, gl_5, gl_6, gl_7, gl_8, gl_9, gl_10, gl_11, gl_12, gl_13, gl_14, gl_15, gl_16, gl_17, sk0i, sk0r, sk0n, sk1i, sk1r, sk1n, sk_2, sk_3, sk_4, sk_5, sk_6, sk_7, sk_8, sk_9, sk_10, sk_11, sk_12, sk_13, sk_14, sk_15, sk_16, sk_17, ls_0, ls_1, ls_2, ls_3, ls_4, ls_5, ls_6, ls_7, ls_8, ls_9, ls_10, ls_11, ls_12, ls_13, ls_14, ls_15, ls_16, ls_17, ct1_i, ct1_r, wd8_0, wd8_i1, wd8_r1, wd8_i2, wd8_r2, wd8_i3, wd8_r3, wd8_i4, wd8_r4, wd8_i5, wd8_r5, wd8_i6, wd8_r6, wd8_i7, wd8_r7, wd8_i8, wd8_r8, wd8_l2, wd8_l3, wd8_l4, wd8_l5, wd8_l6, wd8_l7, wd8_l8, tl_s, tl_n, inR_t, bd_t, true_and, and_true, true_or, or_true, if_true_x, if_false_x, if_pos, if_neg, Int.toNat_natCast, natL, bI_0, bI_1, bI_ft, eq_self, b_tf, b_ft, not_true_eq_false, not_false_eq_true, eo, en, e13, tn_2, ec, e, hc.t1, hc.z1, hc.t26, hc.r26_0, hc.r26_1, hc.r26_2, hc.r26_3, hc.r26_4, hc.t22, hc.r22_2, hc.r22_3, hc.r22_4, hc.r22_5, hp.t0, hp.t1, hp.t2, hp.t3, hp.t4, hp.t5, hp.t6, hp.t7, hp.t8, hp.t9, hp.t10, hp.t11, hp.t12, hp.t13, hp.t14, hp.t15, hp.t16, hp.t17, hp.t18, hp.t19, hp.t20, hp.t21, hp.t22, hp.t23, hp.z2, hp.z3, hp.z4, hp.z5, hp.z7, hp.z8, hp.z9, hp.z10, hp.z12, hp.z13, hp.z14, hp.z15, hp.z16, hp.z17, hp.z18, hp.z20, hp.z21, hp.z22, hp.z23, hp.r0_2, hp.r0_3, hp.r0_4, hp.r0_5, hp.r1_1, hp.r1_2, hp.r1_3, hp.r1_4, hp.r6_1, hp.r6_2, hp.r6_3, hp.r6_4, hp.r11_1, hp.r11_2, hp.r11_3, hp.r11_4, hp.r11_5, hp.r11_6, hp.r11_7, hp.r19_1, hp.r19_2, hp.r19_3, hp.r19_4]
      exact key
end PSH
