section HPC
variable {X : xL} {Q : Option xV → xH → Prop} {ns nb ln : Nat} {h : xH}
theorem wirC6 {b : Nat} (hp : PL X b) (hc : CT X ns nb ln) (g : WG (cv h b)) (tm : TMb (h.1 1)) (hq : ∀ h2, W14 h h2 → h2.2 14 6 = h.2 14 6 → Q (some (vi (wir (cv h b) (h.1 1 4)))) h2) : Cl X 92 [vr 14, vr b] h Q := by
  have t := tm.tall
  obtain ⟨I, F⟩ := h
  refine (m_92 hp hc g.1 g.2.1 g.2.2 t.1 t.2).mpr (hq _ ⟨rfl, fun a ha => wbx_o ha⟩ ?_)
  dsimp only
  generalize (F (b + 19) 0).toNat = m
  cases m with
  | zero => rfl
  | succ m => rfl
/-- after looking around: what the two measures say -/
theorem wt_eq {v : Nat → Nat → Int} {c : Nat} {t x y : Int} (hw : RGv v) : sumF (waT v t c x y) (v 19 0).toNat 0 = wat v t c x y := rfl
set_option maxHeartbeats 4000000 in
theorem p_132 {c r st : Int} (ok : Ok X h) (g : Gd (cv h 200)) (tm : TMb (h.1 1)) (hq : ∀ h2, Cst X h h2 → cS h2 = cS h → Q (some (vi (spWould (cS h) c r st))) h2) : Cl X 132 [vr 0, vi c, vi r, vi st] h Q := by
  have ok0 := ok
  obtain ⟨z, os, oc, om, ⟨nb, ln, hc, hnb⟩, lp⟩ := ok
  have hp : PL X 200 := lp 0 (by decide)
  have hw := g.rg
  have nC := hw.nC
  have nN := hw.nN
  have tt := tm.tall
  have q0 : Cst X h h ∧ cS h = cS h := ⟨(Fz.refl z).cst ok0, rfl⟩
  unfold spWould at hq
  rw [show (cS h).1 = cv h 200 from rfl, show (cS h).2.1 = h.1 1 from rfl] at hq
  rw [c_132]
  by_cases g2 : 0 ≤ c ∧ c < cv h 200 11 0
  · have d := bT (show 0 ≤ c ∧ c < h.2 (200 + 11) 0 from g2)
    obtain ⟨cn, rfl⟩ : ∃ cn : Nat, c = cn := ⟨c.toNat, by omega⟩
    have hcn : cn < 20 := by omega
    rw [Int.toNat_natCast] at hq
    cases e : icB (cv h 200) cn r st
    · rw [if_neg (fun q => by rw [e] at q; cases q.2)] at hq
      simp (disch := first | assumption | omega) only [e_132_0, e_132_1, e_132_2, e_132_3, e_132_4, e_132_5, e_132_6, e_132_7, e_132_8, e_132_9, e_132_10, e_132_11, e_132_12, e_132_13, onI_s, onR_s, onL_s, gl_0, gl_n, gl_1, gl_2, gl_3, gl_4, gl_5, gl_6, gl_7, gl_8, gl_9, gl_10, gl_11, gl_12, gl_13, gl_14, gl_15, gl_16, gl_17, sk0i, sk0r, sk0n, sk1i, sk1r, sk1n, sk_2, sk_3, sk_4, sk_5, sk_6, sk_7, sk_8, sk_9, sk_10, sk_11, sk_12, sk_13, sk_14, sk_15, sk_16, sk_17, ls_0, ls_1, ls_2, ls_3, ls_4, ls_5, ls_6, ls_7, ls_8, ls_9, ls_10, ls_11, ls_12, ls_13, ls_14, ls_15, ls_16, ls_17, ct1_i, ct1_r, wd8_0, wd8_i1, wd8_r1, wd8_i2, wd8_r2, wd8_i3, wd8_r3, wd8_i4, wd8_r4, wd8_i5, wd8_r5, wd8_i6, wd8_r6, wd8_i7, wd8_r7, wd8_i8, wd8_r8, wd8_l2, wd8_l3, wd8_l4, wd8_l5, wd8_l6, wd8_l7, wd8_l8, tl_s, tl_n, inR_t, bd_t, true_and, and_true, true_or, or_true, if_true_x, if_false_x, if_pos, if_neg, Int.toNat_natCast, natL, bI_0, bI_1, bI_ft, eq_self, b_tf, b_ft, not_true_eq_false, not_false_eq_true, m_79 hp, m_81 hp hw, d, e, hc.t0, hc.r0_0, hc.r0_1, hc.r0_3, hc.r0_5, hc.r0_6, hc.r0_7, hc.r0_8, hc.r0_9, hc.r0_10, hc.r0_11, hc.r0_12, hc.r0_13, hp.t0, hp.t1, hp.t2, hp.t3, hp.t4, hp.t5, hp.t6, hp.t7, hp.t8, hp.t9, hp.t10, hp.t11, hp.t12, hp.t13, hp.t14, hp.t15, hp.t16, hp.t17, hp.t18, hp.t19, hp.t20, hp.t21, hp.t22, hp.t23, hp.z2, hp.z3, hp.z4, hp.z5, hp.z7, hp.z8, hp.z9, hp.z10, hp.z12, hp.z13, hp.z14, hp.z15, hp.z16, hp.z17, hp.z18, hp.z20, hp.z21, hp.z22, hp.z23, hp.r0_2, hp.r0_3, hp.r0_4, hp.r0_5, hp.r1_1, hp.r1_2, hp.r1_3, hp.r1_4, hp.r6_1, hp.r6_2, hp.r6_3, hp.r6_4, hp.r11_1, hp.r11_2, hp.r11_3, hp.r11_4, hp.r11_5, hp.r11_6, hp.r11_7, hp.r19_1, hp.r19_2, hp.r19_3, hp.r19_4]
      exact hq h q0.1 q0.2
    · rw [if_pos ⟨g2, e⟩] at hq
      have e2 := e
      unfold icB at e2
      simp only [Bool.and_eq_true, decide_eq_true_eq] at e2
      have ws := hw.sites
      have wr := hw.rows
      have wc := hw.wid cn
      simp (disch := first | assumption | omega) only [e_132_0, e_132_1, e_132_2, e_132_3, e_132_4, e_132_5, e_132_6, e_132_7, e_132_8, e_132_9, e_132_10, e_132_11, e_132_14, e_132_15, e_132_16, e_132_17, e_132_18, onI_s, onR_s, onL_s, gl_0, gl_n, gl_1, gl_2, gl_3, gl_4, gl_5, gl_6, gl_7, gl_8, gl_9, gl_10, gl_11, gl_12, gl_13, gl_14, gl_15, gl_16, gl_17, sk0i, sk0r, sk0n, sk1i, sk1r, sk1n, sk_2, sk_3, sk_4, sk_5, sk_6, sk_7, sk_8, sk_9, sk_10, sk_11, sk_12, sk_13, sk_14, sk_15, sk_16, sk_17, ls_0, ls_1, ls_2, ls_3, ls_4, ls_5, ls_6, ls_7, ls_8, ls_9, ls_10, ls_11, ls_12, ls_13, ls_14, ls_15, ls_16, ls_17, ct1_i, ct1_r, wd8_0, wd8_i1, wd8_r1, wd8_i2, wd8_r2, wd8_i3, wd8_r3, wd8_i4, wd8_r4, wd8_i5, wd8_r5, wd8_i6, wd8_r6, wd8_i7, wd8_r7, wd8_i8, wd8_r8, wd8_l2, wd8_l3, wd8_l4, wd8_l5, wd8_l6, wd8_l7, wd8_l8, tl_s, tl_n, inR_t, bd_t, true_and, and_true, true_or, or_true, if_true_x, if_false_x, if_pos, if_neg, Int.toNat_natCast, natL, bI_0, bI_1, bI_ft, eq_self, b_tf, b_ft, not_true_eq_false, not_false_eq_true, m_79 hp, m_81 hp hw, d, e, hc.t0, hc.r0_0, hc.r0_1, hc.r0_3, hc.r0_5, hc.r0_6, hc.r0_7, hc.r0_8, hc.r0_9, hc.r0_10, hc.r0_11, hc.r0_12, hc.r0_13, hp.t0, hp.t1, hp.t2, hp.t3, hp.t4, hp.t5, hp.t6, hp.t7, hp.t8, hp.t9, hp.t10, hp.t11, hp.t12, hp.t13, hp.t14, hp.t15, hp.t16, hp.t17, hp.t18, hp.t19, hp.t20, hp.t21, hp.t22, hp.t23, hp.z2, hp.z3, hp.z4, hp.z5, hp.z7, hp.z8, hp.z9, hp.z10, hp.z12, hp.z13, hp.z14, hp.z15, hp.z16, hp.z17, hp.z18, hp.z20, hp.z21, hp.z22, hp.z23, hp.r0_2, hp.r0_3, hp.r0_4, hp.r0_5, hp.r1_1, hp.r1_2, hp.r1_3, hp.r1_4, hp.r6_1, hp.r6_2, hp.r6_3, hp.r6_4, hp.r11_1, hp.r11_2, hp.r11_3, hp.r11_4, hp.r11_5, hp.r11_6, hp.r11_7, hp.r19_1, hp.r19_2, hp.r19_3, hp.r19_4]
      (rw [e_132_19]; refine ⟨⟨hc.t14, by decide⟩, ?_⟩)
      refine m_93 hp hc g.wg z (fun h2 z2 f2 la => ?_)
      have t2 : h2.1 1 = h.1 1 := f2.1 1 (by omega)
      have ev2 := f2.cv
      simp (disch := first | assumption | omega) only [e_132_20, e_132_21, e_132_22, e_132_23, onI_s, onR_s, onL_s, gl_0, gl_n, gl_1, gl_2, gl_3, gl_4, gl_5, gl_6, gl_7, gl_8, gl_9, gl_10, gl_11, gl_12, gl_13, gl_14, gl_15, gl_16, gl_17, sk0i, sk0r, sk0n, sk1i, sk1r, sk1n, sk_2, sk_3, sk_4, sk_5, sk_6, sk_7, sk_8, sk_9, sk_10, sk_11, sk_12, sk_13, sk_14, sk_15, sk_16, sk_17, ls_0, ls_1, ls_2, ls_3, ls_4, ls_5, ls_6, ls_7, ls_8, ls_9, ls_10, ls_11, ls_12, ls_13, ls_14, ls_15, ls_16, ls_17, ct1_i, ct1_r, wd8_0, wd8_i1, wd8_r1, wd8_i2, wd8_r2, wd8_i3, wd8_r3, wd8_i4, wd8_r4, wd8_i5, wd8_r5, wd8_i6, wd8_r6, wd8_i7, wd8_r7, wd8_i8, wd8_r8, wd8_l2, wd8_l3, wd8_l4, wd8_l5, wd8_l6, wd8_l7, wd8_l8, tl_s, tl_n, inR_t, bd_t, true_and, and_true, true_or, or_true, if_true_x, if_false_x, if_pos, if_neg, Int.toNat_natCast, natL, bI_0, bI_1, bI_ft, eq_self, b_tf, b_ft, not_true_eq_false, not_false_eq_true, hc.t0, hc.r0_0, hc.r0_1, hc.r0_3, hc.r0_5, hc.r0_6, hc.r0_7, hc.r0_8, hc.r0_9, hc.r0_10, hc.r0_11, hc.r0_12, hc.r0_13]
      (rw [e_132_24]; refine ⟨⟨hc.t14, by decide⟩, ?_⟩)
      refine wirC6 hp hc (by rw [ev2]; exact g.wg) (by rw [t2]; exact tm) (fun h3 q3 q6 => ?_)
      rw [ev2, t2]
      have t3 : h3.1 1 = h.1 1 := by rw [q3.1]; exact t2
      have ev3 : cv h3 200 = cv h 200 := (q3.cv (b := 200) (by omega)).trans ev2
      have hw3 : RGv (cv h3 200) := by rw [ev3]; exact hw
      have la3 : LA h3 (cv h 200) cn (cv h 200 19 0).toNat := la.cg (fun a _ _ => by rw [q3.1]) q6
      have b1 := coX_bd hw cn
      have b2 := coY_bd hw cn
      have wb := wir_bd g.wg tt.1 tt.2
      have cw := (g.geo.cel g2.2).1
      have wb1 := wat_bd (c := cn) g.wg tt.1 tt.2 (x := coX (cv h 200) cn) (y := coY (cv h 200) cn) b1.1 b1.2 b2.1 b2.2
      have wb2 := wat_bd (c := cn) g.wg tt.1 tt.2 (x := 16 * st) (y := 16 * r) (by omega) (by omega) (by omega) (by omega)
      have wg := wir_gv (t := h.1 1 4) hw g.nd (c := cn) (by omega) (r := r) (s := st) (by omega)
      have gw : WG (gvP (cv h 200) cn r st) := (g.wg.u (by unfold rgP; omega) (by omega)).u (by unfold rgP; omega) (by omega)
      have wb3 := wir_bd gw tt.1 tt.2
      have tt3 : 0 ≤ h3.1 1 4 ∧ h3.1 1 4 ≤ 8 := by rw [t3]; exact tt
      have m95 : ∀ {Q2 : Option xV → xH → Prop}, Cl X 95 [vr 14, vr 200, vi (cn : Int)] h3 Q2 ↔ Q2 (some (vi (wat (cv h 200) (h.1 1 4) cn (coX (cv h 200) cn) (coY (cv h 200) cn)))) h3 := by
        intro Q2
        rw [m_95 hp hc hw3 hcn la3 (by omega) tt3.1 tt3.2, ev3, t3]
        exact Iff.rfl
      have m94 : ∀ {Q2 : Option xV → xH → Prop}, Cl X 94 [vr 14, vi (16 * st), vi (16 * r)] h3 Q2 ↔ Q2 (some (vi (wat (cv h 200) (h.1 1 4) cn (16 * st) (16 * r)))) h3 := by
        intro Q2
        rw [m_94 hc la3 (by omega) tt3.1 tt3.2 (by omega) (by omega) (by omega) (by omega), t3]
        exact Iff.rfl
      simp (disch := first | assumption | omega) only [e_132_25, e_132_26, e_132_27, e_132_28, e_132_29, e_132_30, e_132_31, e_132_32, e_132_33, e_132_34, e_132_35, e_132_36, e_132_37, e_132_38, e_132_39, e_132_40, e_132_41, e_132_42, onI_s, onR_s, onL_s, gl_0, gl_n, gl_1, gl_2, gl_3, gl_4, gl_5, gl_6, gl_7, gl_8, gl_9, gl_10, gl_11, gl_12, gl_13, gl_14, gl_15, gl_16, gl_17, sk0i, sk0r, sk0n, sk1i, sk1r, sk1n, sk_2, sk_3, sk_4, sk_5, sk_6, sk_7, sk_8, sk_9, sk_10, sk_11, sk_12, sk_13, sk_14, sk_15, sk_16, sk_17, ls_0, ls_1, ls_2, ls_3, ls_4, ls_5, ls_6, ls_7, ls_8, ls_9, ls_10, ls_11, ls_12, ls_13, ls_14, ls_15, ls_16, ls_17, ct1_i, ct1_r, wd8_0, wd8_i1, wd8_r1, wd8_i2, wd8_r2, wd8_i3, wd8_r3, wd8_i4, wd8_r4, wd8_i5, wd8_r5, wd8_i6, wd8_r6, wd8_i7, wd8_r7, wd8_i8, wd8_r8, wd8_l2, wd8_l3, wd8_l4, wd8_l5, wd8_l6, wd8_l7, wd8_l8, tl_s, tl_n, inR_t, bd_t, true_and, and_true, true_or, or_true, if_true_x, if_false_x, if_pos, if_neg, Int.toNat_natCast, natL, bI_0, bI_1, bI_ft, eq_self, b_tf, b_ft, not_true_eq_false, not_false_eq_true, m95, m94, hc.t0, hc.r0_0, hc.r0_1, hc.r0_3, hc.r0_5, hc.r0_6, hc.r0_7, hc.r0_8, hc.r0_9, hc.r0_10, hc.r0_11, hc.r0_12, hc.r0_13, hc.t14, hc.r14_0, hc.r14_5, hc.r14_7, hc.r14_8, hc.r14_9, hc.r14_10, hc.r14_11, hc.r14_12]
      rw [← wg]
      have f3 := (f2.fz z2).tr (q3.fz z2)
      refine hq h3 (f3.cst ok0) ?_
      rw [f3.cs, ev3]
      rfl
  · rw [if_neg (fun q => g2 q.1)] at hq
    have d := bF (show ¬ (0 ≤ c ∧ c < h.2 (200 + 11) 0) from g2)
    simp (disch := first | assumption | omega) only [e_132_0, e_132_1, e_132_2, e_132_3, e_132_4, e_132_12, e_132_13, onI_s, onR_s, onL_s, gl_0, gl_n, gl_1, gl_2, gl_3, gl_4, gl_5, gl_6, gl_7, gl_8, gl_9, gl_10, gl_11, gl_12, gl_13, gl_14, gl_15, gl_16, gl_17, sk0i, sk0r, sk0n, sk1i, sk1r, sk1n, sk_2, sk_3, sk_4, sk_5, sk_6, sk_7, sk_8, sk_9, sk_10, sk_11, sk_12, sk_13, sk_14, sk_15, sk_16, sk_17, ls_0, ls_1, ls_2, ls_3, ls_4, ls_5, ls_6, ls_7, ls_8, ls_9, ls_10, ls_11, ls_12, ls_13, ls_14, ls_15, ls_16, ls_17, ct1_i, ct1_r, wd8_0, wd8_i1, wd8_r1, wd8_i2, wd8_r2, wd8_i3, wd8_r3, wd8_i4, wd8_r4, wd8_i5, wd8_r5, wd8_i6, wd8_r6, wd8_i7, wd8_r7, wd8_i8, wd8_r8, wd8_l2, wd8_l3, wd8_l4, wd8_l5, wd8_l6, wd8_l7, wd8_l8, tl_s, tl_n, inR_t, bd_t, true_and, and_true, true_or, or_true, if_true_x, if_false_x, if_pos, if_neg, Int.toNat_natCast, natL, bI_0, bI_1, bI_ft, eq_self, b_tf, b_ft, not_true_eq_false, not_false_eq_true, m_79 hp, d, hc.t0, hc.r0_0, hc.r0_1, hc.r0_3, hc.r0_5, hc.r0_6, hc.r0_7, hc.r0_8, hc.r0_9, hc.r0_10, hc.r0_11, hc.r0_12, hc.r0_13, hp.t0, hp.t1, hp.t2, hp.t3, hp.t4, hp.t5, hp.t6, hp.t7, hp.t8, hp.t9, hp.t10, hp.t11, hp.t12, hp.t13, hp.t14, hp.t15, hp.t16, hp.t17, hp.t18, hp.t19, hp.t20, hp.t21, hp.t22, hp.t23, hp.z2, hp.z3, hp.z4, hp.z5, hp.z7, hp.z8, hp.z9, hp.z10, hp.z12, hp.z13, hp.z14, hp.z15, hp.z16, hp.z17, hp.z18, hp.z20, hp.z21, hp.z22, hp.z23, hp.r0_2, hp.r0_3, hp.r0_4, hp.r0_5, hp.r1_1, hp.r1_2, hp.r1_3, hp.r1_4, hp.r6_1, hp.r6_2, hp.r6_3, hp.r6_4, hp.r11_1, hp.r11_2, hp.r11_3, hp.r11_4, hp.r11_5, hp.r11_6, hp.r11_7, hp.r19_1, hp.r19_2, hp.r19_3, hp.r19_4]
    exact hq h q0.1 q0.2
end HPC
