section BSC
variable {X : xL} {Q : Option xV → xH → Prop} {ns nb ln : Nat} {h : xH}
theorem m94w {v : Nat → Nat → Int} {c : Nat} (hc : CT X ns nb ln) (la : LA h v c (v 19 0).toNat) (g : WG v) (tm : TMb (h.1 1)) {x y : Int} (x0 : -16 ≤ x) (x1 : x ≤ 512) (y0 : -16 ≤ y) (y1 : y ≤ 128) : Cl X 94 [vr 14, vi x, vi y] h Q ↔ Q (some (vi (wat v (h.1 1 4) c x y))) h := by
  have nN := g.1.nN
  exact m_94 hc la (by omega) tm.tall.1 tm.tall.2 x0 x1 y0 y1
theorem m95w {c : Nat} (hp : PL X 200) (hc : CT X ns nb ln) (la : LA h (cv h 200) c (cv h 200 19 0).toNat) (g : WG (cv h 200)) (tm : TMb (h.1 1)) (hcc : c < 20) : Cl X 95 [vr 14, vr 200, vi c] h Q ↔ Q (some (vi (wat (cv h 200) (h.1 1 4) c (coX (cv h 200) c) (coY (cv h 200) c)))) h := by
  have nN := g.1.nN
  exact m_95 hp hc g.1 hcc la (by omega) tm.tall.1 tm.tall.2
set_option maxHeartbeats 4000000 in
theorem l_133 (hp : PL X 200) (hc : CT X ns nb ln) {c M : Nat} {w y t : Int} (hcc : c < 20) (hM : h.2 200 1 - h.1 (200 + 12) c = (M : Int) - 1) (M33 : M ≤ 33) (m94 : ∀ (s : Nat), s < M → ∀ {Q2 : Option xV → xH → Prop}, Cl X 94 [vr 14, vi (16 * (s : Int)), vi y] h Q2 ↔ Q2 (some (vi (wat (cv h 200) t c (16 * (s : Int)) y))) h) : ∀ (m s : Nat) (fi la le : Int) (x9 : Option xV), s + m = M → (∀ x9, Ev X 133 75 [some (vr 0), some (vi c), some (vi w), some (vr (200 + 11)), some (vi y), some (vi (bst (fun s => wat (cv h 200) t c (16 * (s : Int)) y) m s (fi, la, le)).2.2), some (vi (bst (fun s => wat (cv h 200) t c (16 * (s : Int)) y) m s (fi, la, le)).1), some (vi (bst (fun s => wat (cv h 200) t c (16 * (s : Int)) y) m s (fi, la, le)).2.1), some (vi M), x9] [] h Q) → Ev X 133 43 [some (vr 0), some (vi c), some (vi w), some (vr (200 + 11)), some (vi y), some (vi le), some (vi fi), some (vi la), some (vi s), x9] [] h Q := by
  intro m
  induction m with
  | zero =>
    intro s fi la le x9 hm hq
    rw [e_133_43]
    simp (disch := first | assumption | omega) only [e_133_44, e_133_45, e_133_46, e_133_47, e_133_48, e_133_49, e_133_50, e_133_51, e_133_52, onI_s, onR_s, onL_s, gl_0, gl_n, gl_1, gl_2, gl_3, gl_4, gl_5, gl_6, gl_7, gl_8, gl_9, gl_10, gl_11, gl_12, gl_13, gl_14, gl_15, gl_16, gl_17, sk0i, sk0r, sk0n, sk1i, sk1r, sk1n, sk_2, sk_3, sk_4, sk_5, sk_6, sk_7, sk_8, sk_9, sk_10, sk_11, sk_12, sk_13, sk_14, sk_15, sk_16, sk_17, ls_0, ls_1, ls_2, ls_3, ls_4, ls_5, ls_6, ls_7, ls_8, ls_9, ls_10, ls_11, ls_12, ls_13, ls_14, ls_15, ls_16, ls_17, ct1_i, ct1_r, wd8_0, wd8_i1, wd8_r1, wd8_i2, wd8_r2, wd8_i3, wd8_r3, wd8_i4, wd8_r4, wd8_i5, wd8_r5, wd8_i6, wd8_r6, wd8_i7, wd8_r7, wd8_i8, wd8_r8, wd8_l2, wd8_l3, wd8_l4, wd8_l5, wd8_l6, wd8_l7, wd8_l8, tl_s, tl_n, inR_t, bd_t, true_and, and_true, true_or, or_true, if_true_x, if_false_x, if_pos, if_neg, Int.toNat_natCast, natL, bI_0, bI_1, bI_ft, eq_self, b_tf, b_ft, not_true_eq_false, not_false_eq_true, hM, hc.t0, hc.r0_0, hc.r0_1, hc.r0_3, hc.r0_5, hc.r0_6, hc.r0_7, hc.r0_8, hc.r0_9, hc.r0_10, hc.r0_11, hc.r0_12, hc.r0_13, hp.t0, hp.t1, hp.t2, hp.t3, hp.t4, hp.t5, hp.t6, hp.t7, hp.t8, hp.t9, hp.t10, hp.t11, hp.t12, hp.t13, hp.t14, hp.t15, hp.t16, hp.t17, hp.t18, hp.t19, hp.t20, hp.t21, hp.t22, hp.t23, hp.z2, hp.z3, hp.z4, hp.z5, hp.z7, hp.z8, hp.z9, hp.z10, hp.z12, hp.z13, hp.z14, hp.z15, hp.z16, hp.z17, hp.z18, hp.z20, hp.z21, hp.z22, hp.z23, hp.r0_2, hp.r0_3, hp.r0_4, hp.r0_5, hp.r1_1, hp.r1_2, hp.r1_3, hp.r1_4, hp.r6_1, hp.r6_2, hp.r6_3, hp.r6_4, hp.r11_1, hp.r11_2, hp.r11_3, hp.r11_4, hp.r11_5, hp.r11_6, hp.r11_7, hp.r19_1, hp.r19_2, hp.r19_3, hp.r19_4]
    rw [show s = M by omega]
    exact hq x9
  | succ m ih =>
    intro s fi la le x9 hm hq
    have m94s := @m94 s (by omega)
    rw [bst] at hq
    dsimp only at hq
    rw [e_133_43]
    by_cases e1 : wat (cv h 200) t c (16 * (s : Int)) y < le
    · rw [if_pos e1, if_pos (by omega), if_pos e1] at hq
      simp (disch := first | assumption | omega) only [e_133_44, e_133_45, e_133_46, e_133_47, e_133_48, e_133_49, e_133_50, e_133_51, e_133_52, e_133_53, e_133_54, e_133_55, e_133_56, e_133_57, e_133_58, e_133_59, e_133_60, e_133_61, e_133_62, e_133_63, e_133_64, e_133_65, e_133_66, e_133_67, e_133_68, e_133_69, e_133_70, e_133_71, e_133_72, e_133_73, e_133_74, onI_s, onR_s, onL_s, gl_0, gl_n, gl_1, gl_2, gl_3, gl_4, gl_5, gl_6, gl_7, gl_8, gl_9, gl_10, gl_11, gl_12, gl_13, gl_14, gl_15, gl_16, gl_17, sk0i, sk0r, sk0n, sk1i, sk1r, sk1n, sk_2, sk_3, sk_4, sk_5, sk_6, sk_7, sk_8, sk_9, sk_10, sk_11, sk_12, sk_13, sk_14, sk_15, sk_16, sk_17, ls_0, ls_1, ls_2, ls_3, ls_4, ls_5, ls_6, ls_7, ls_8, ls_9, ls_10, ls_11, ls_12, ls_13, ls_14, ls_15, ls_16, ls_17, ct1_i, ct1_r, wd8_0, wd8_i1, wd8_r1, wd8_i2, wd8_r2, wd8_i3, wd8_r3, wd8_i4, wd8_r4, wd8_i5, wd8_r5, wd8_i6, wd8_r6, wd8_i7, wd8_r7, wd8_i8, wd8_r8, wd8_l2, wd8_l3, wd8_l4, wd8_l5, wd8_l6, wd8_l7, wd8_l8, tl_s, tl_n, inR_t, bd_t, true_and, and_true, true_or, or_true, if_true_x, if_false_x, if_pos, if_neg, Int.toNat_natCast, natL, bI_0, bI_1, bI_ft, eq_self, b_tf, b_ft, not_true_eq_false, not_false_eq_true, hM, m94s, cast_s, hc.t0, hc.r0_0, hc.r0_1, hc.r0_3, hc.r0_5, hc.r0_6, hc.r0_7, hc.r0_8, hc.r0_9, hc.r0_10, hc.r0_11, hc.r0_12, hc.r0_13, hc.t14, hc.r14_0, hc.r14_5, hc.r14_7, hc.r14_8, hc.r14_9, hc.r14_10, hc.r14_11, hc.r14_12, hp.t0, hp.t1, hp.t2, hp.t3, hp.t4, hp.t5, hp.t6, hp.t7, hp.t8, hp.t9, hp.t10, hp.t11, hp.t12, hp.t13, hp.t14, hp.t15, hp.t16, hp.t17, hp.t18, hp.t19, hp.t20, hp.t21, hp.t22, hp.t23, hp.z2, hp.z3, hp.z4, hp.z5, hp.z7, hp.z8, hp.z9, hp.z10, hp.z12, hp.z13, hp.z14, hp.z15, hp.z16, hp.z17, hp.z18, hp.z20, hp.z21, hp.z22, hp.z23, hp.r0_2, hp.r0_3, hp.r0_4, hp.r0_5, hp.r1_1, hp.r1_2, hp.r1_3, hp.r1_4, hp.r6_1, hp.r6_2, hp.r6_3, hp.r6_4, hp.r11_1, hp.r11_2, hp.r11_3, hp.r11_4, hp.r11_5, hp.r11_6, hp.r11_7, hp.r19_1, hp.r19_2, hp.r19_3, hp.r19_4]
      exact ih (s + 1) _ _ _ _ (by omega) hq
    · rw [if_neg e1, if_neg e1] at hq
      by_cases e2 : wat (cv h 200) t c (16 * (s : Int)) y = le
      · rw [if_pos (by omega)] at hq
        simp (disch := first | assumption | omega) only [e_133_44, e_133_45, e_133_46, e_133_47, e_133_48, e_133_49, e_133_50, e_133_51, e_133_52, e_133_53, e_133_54, e_133_55, e_133_56, e_133_57, e_133_58, e_133_59, e_133_60, e_133_61, e_133_62, e_133_63, e_133_68, e_133_69, e_133_70, e_133_71, e_133_72, e_133_73, e_133_74, onI_s, onR_s, onL_s, gl_0, gl_n, gl_1, gl_2, gl_3, gl_4, gl_5, gl_6, gl_7, gl_8, gl_9, gl_10, gl_11, gl_12, gl_13, gl_14, gl_15, gl_16, gl_17, sk0i, sk0r, sk0n, sk1i, sk1r, sk1n, sk_2, sk_3, sk_4, sk_5, sk_6, sk_7, sk_8, sk_9, sk_10, sk_11, sk_12, sk_13, sk_14, sk_15, sk_16, sk_17, ls_0, ls_1, ls_2, ls_3, ls_4, ls_5, ls_6, ls_7, ls_8, ls_9, ls_10, ls_11, ls_12, ls_13, ls_14, ls_15, ls_16, ls_17, ct1_i, ct1_r, wd8_0, wd8_i1, wd8_r1, wd8_i2, wd8_r2, wd8_i3, wd8_r3, wd8_i4, wd8_r4, wd8_i5, wd8_r5, wd8_i6, wd8_r6, wd8_i7, wd8_r7, wd8_i8, wd8_r8, wd8_l2, wd8_l3, wd8_l4, wd8_l5, wd8_l6, wd8_l7, wd8_l8, tl_s, tl_n, inR_t, bd_t, true_and, and_true, true_or, or_true, if_true_x, if_false_x, if_pos, if_neg, Int.toNat_natCast, natL, bI_0, bI_1, bI_ft, eq_self, b_tf, b_ft, not_true_eq_false, not_false_eq_true, hM, m94s, e2, cast_s, hc.t0, hc.r0_0, hc.r0_1, hc.r0_3, hc.r0_5, hc.r0_6, hc.r0_7, hc.r0_8, hc.r0_9, hc.r0_10, hc.r0_11, hc.r0_12, hc.r0_13, hc.t14, hc.r14_0, hc.r14_5, hc.r14_7, hc.r14_8, hc.r14_9, hc.r14_10, hc.r14_11, hc.r14_12, hp.t0, hp.t1, hp.t2, hp.t3, hp.t4, hp.t5, hp.t6, hp.t7, hp.t8, hp.t9, hp.t10, hp.t11, hp.t12, hp.t13, hp.t14, hp.t15, hp.t16, hp.t17, hp.t18, hp.t19, hp.t20, hp.t21, hp.t22, hp.t23, hp.z2, hp.z3, hp.z4, hp.z5, hp.z7, hp.z8, hp.z9, hp.z10, hp.z12, hp.z13, hp.z14, hp.z15, hp.z16, hp.z17, hp.z18, hp.z20, hp.z21, hp.z22, hp.z23, hp.r0_2, hp.r0_3, hp.r0_4, hp.r0_5, hp.r1_1, hp.r1_2, hp.r1_3, hp.r1_4, hp.r6_1, hp.r6_2, hp.r6_3, hp.r6_4, hp.r11_1, hp.r11_2, hp.r11_3, hp.r11_4, hp.r11_5, hp.r11_6, hp.r11_7, hp.r19_1, hp.r19_2, hp.r19_3, hp.r19_4]
        exact ih (s + 1) _ _ _ _ (by omega) hq
      · rw [if_neg (by omega)] at hq
        simp (disch := first | assumption | omega) only [e_133_44, e_133_45, e_133_46, e_133_47, e_133_48, e_133_49, e_133_50, e_133_51, e_133_52, e_133_53, e_133_54, e_133_55, e_133_56, e_133_57, e_133_58, e_133_59, e_133_60, e_133_61, e_133_62, e_133_63, e_133_68, e_133_69, e_133_70, e_133_73, e_133_74, onI_s, onR_s, onL_s, gl_0, gl_n, gl_1, gl_2, gl_3, gl_4, gl_5, gl_6, gl_7, gl_8, gl_9, gl_10, gl_11, gl_12, gl_13, gl_14, gl_15, gl_16, gl_17, sk0i, sk0r, sk0n, sk1i, sk1r, sk1n, sk_2, sk_3, sk_4, sk_5, sk_6, sk_7, sk_8, sk_9, sk_10, sk_11, sk_12, sk_13, sk_14, sk_15, sk_16, sk_17, ls_0, ls_1, ls_2, ls_3, ls_4, ls_5, ls_6, ls_7, ls_8, ls_9, ls_10, ls_11, ls_12, ls_13, ls_14, ls_15, ls_16, ls_17, ct1_i, ct1_r, wd8_0, wd8_i1, wd8_r1, wd8_i2, wd8_r2, wd8_i3, wd8_r3, wd8_i4, wd8_r4, wd8_i5, wd8_r5, wd8_i6, wd8_r6, wd8_i7, wd8_r7, wd8_i8, wd8_r8, wd8_l2, wd8_l3, wd8_l4, wd8_l5, wd8_l6, wd8_l7, wd8_l8, tl_s, tl_n, inR_t, bd_t, true_and, and_true, true_or, or_true, if_true_x, if_false_x, if_pos, if_neg, Int.toNat_natCast, natL, bI_0, bI_1, bI_ft, eq_self, b_tf, b_ft, not_true_eq_false, not_false_eq_true, hM, m94s, e2, cast_s, hc.t0, hc.r0_0, hc.r0_1, hc.r0_3, hc.r0_5, hc.r0_6, hc.r0_7, hc.r0_8, hc.r0_9, hc.r0_10, hc.r0_11, hc.r0_12, hc.r0_13, hc.t14, hc.r14_0, hc.r14_5, hc.r14_7, hc.r14_8, hc.r14_9, hc.r14_10, hc.r14_11, hc.r14_12, hp.t0, hp.t1, hp.t2, hp.t3, hp.t4, hp.t5, hp.t6, hp.t7, hp.t8, hp.t9, hp.t10, hp.t11, hp.t12, hp.t13, hp.t14, hp.t15, hp.t16, hp.t17, hp.t18, hp.t19, hp.t20, hp.t21, hp.t22, hp.t23, hp.z2, hp.z3, hp.z4, hp.z5, hp.z7, hp.z8, hp.z9, hp.z10, hp.z12, hp.z13, hp.z14, hp.z15, hp.z16, hp.z17, hp.z18, hp.z20, hp.z21, hp.z22, hp.z23, hp.r0_2, hp.r0_3, hp.r0_4, hp.r0_5, hp.r1_1, hp.r1_2, hp.r1_3, hp.r1_4, hp.r6_1, hp.r6_2, hp.r6_3, hp.r6_4, hp.r11_1, hp.r11_2, hp.r11_3, hp.r11_4, hp.r11_5, hp.r11_6, hp.r11_7, hp.r19_1, hp.r19_2, hp.r19_3, hp.r19_4]
        exact ih (s + 1) _ _ _ _ (by omega) hq
theorem bsW_eq {v : Nat → Nat → Int} {t : Int} {c : Nat} (g : Gd v) (hcc : c < 200) (t0 : 0 ≤ t) (t1 : t ≤ 8) (hr : v 17 c ≠ -1) (hn : (c : Int) < v 11 0) : bsW v t c = ((bst (fun s => wat v t c (16 * (s : Int)) (16 * v 17 c)) (v 0 1 - v 12 c + 1).toNat 0 (-1, -1, 268435456)).1, (bst (fun s => wat v t c (16 * (s : Int)) (16 * v 17 c)) (v 0 1 - v 12 c + 1).toNat 0 (-1, -1, 268435456)).2.1, (wir v t - wat v t c (coX v c) (coY v c)) + (bst (fun s => wat v t c (16 * (s : Int)) (16 * v 17 c)) (v 0 1 - v 12 c + 1).toNat 0 (-1, -1, 268435456)).2.2) := by
  have hw := g.rg
  have ws := hw.sites
  have wc := hw.wid c
  have wr := hw.row c
  have b1 := coX_bd hw c
  have b2 := coY_bd hw c
  have wb := wir_bd g.wg t0 t1
  have wb1 := wat_bd (c := c) g.wg t0 t1 (x := coX v c) (y := coY v c) b1.1 b1.2 b2.1 b2.2
  have wb0 := wat_bd (c := c) g.wg t0 t1 (x := 16 * ((0 : Nat) : Int)) (y := 16 * v 17 c) (by omega) (by omega) (by omega) (by omega)
  rw [← bst_sh]
  unfold bsW
  have e : ∀ s : Nat, wir (gvP v c (v 17 c) s) t = wir v t - wat v t c (coX v c) (coY v c) + wat v t c (16 * (s : Int)) (16 * v 17 c) := fun s => wir_gv hw g.nd hcc hr
  rw [funext e]
  obtain ⟨m, hm⟩ : ∃ m, (v 0 1 - v 12 c + 1).toNat = m + 1 := ⟨(v 0 1 - v 12 c).toNat, by omega⟩
  rw [hm]
  exact bst_far (by omega) (by omega)
set_option maxHeartbeats 4000000 in
theorem p_133 {c w : Int} (ok : Ok X h) (g : Gd (cv h 200)) (tm : TMb (h.1 1)) (hq : ∀ h2, Cst X h h2 → cS h2 = cS h → Q (some (vi (spBest (cS h) c w))) h2) : Cl X 133 [vr 0, vi c, vi w] h Q := by
  have ok0 := ok
  obtain ⟨z, os, oc, om, ⟨nb, ln, hc, hnb⟩, lp⟩ := ok
  have hp : PL X 200 := lp 0 (by decide)
  have hw := g.rg
  have nC := hw.nC
  have nN := hw.nN
  have tt := tm.tall
  have q0 : Cst X h h ∧ cS h = cS h := ⟨(Fz.refl z).cst ok0, rfl⟩
  unfold spBest at hq
  rw [show (cS h).1 = cv h 200 from rfl, show (cS h).2.1 = h.1 1 from rfl] at hq
  rw [c_133]
  by_cases g2 : 0 ≤ c ∧ c < cv h 200 11 0
  · have d := bT (show 0 ≤ c ∧ c < h.2 (200 + 11) 0 from g2)
    obtain ⟨cn, rfl⟩ : ∃ cn : Nat, c = cn := ⟨c.toNat, by omega⟩
    have hcn : cn < 20 := by omega
    rw [Int.toNat_natCast] at hq
    by_cases g3 : h.1 (200 + 17) cn = -1
    · have d3 : (!decide (h.1 (200 + 17) cn = -1)) = false := by simp [g3]
      rw [if_neg (fun q => q.2.1 g3)] at hq
      simp (disch := first | assumption | omega) only [e_133_0, e_133_1, e_133_2, e_133_3, e_133_4, e_133_5, e_133_6, e_133_7, e_133_8, e_133_9, e_133_10, e_133_16, e_133_17, onI_s, onR_s, onL_s, gl_0, gl_n, gl_1, gl_2, gl_3, gl_4, gl_5, gl_6, gl_7, gl_8, gl_9, gl_10, gl_11, gl_12, gl_13, gl_14, gl_15, gl_16, gl_17, sk0i, sk0r, sk0n, sk1i, sk1r, sk1n, sk_2, sk_3, sk_4, sk_5, sk_6, sk_7, sk_8, sk_9, sk_10, sk_11, sk_12, sk_13, sk_14, sk_15, sk_16, sk_17, ls_0, ls_1, ls_2, ls_3, ls_4, ls_5, ls_6, ls_7, ls_8, ls_9, ls_10, ls_11, ls_12, ls_13, ls_14, ls_15, ls_16, ls_17, ct1_i, ct1_r, wd8_0, wd8_i1, wd8_r1, wd8_i2, wd8_r2, wd8_i3, wd8_r3, wd8_i4, wd8_r4, wd8_i5, wd8_r5, wd8_i6, wd8_r6, wd8_i7, wd8_r7, wd8_i8, wd8_r8, wd8_l2, wd8_l3, wd8_l4, wd8_l5, wd8_l6, wd8_l7, wd8_l8, tl_s, tl_n, inR_t, bd_t, true_and, and_true, true_or, or_true, if_true_x, if_false_x, if_pos, if_neg, Int.toNat_natCast, natL, bI_0, bI_1, bI_ft, eq_self, b_tf, b_ft, not_true_eq_false, not_false_eq_true, m_79 hp, m_22 hp, d, d3, hc.t0, hc.r0_0, hc.r0_1, hc.r0_3, hc.r0_5, hc.r0_6, hc.r0_7, hc.r0_8, hc.r0_9, hc.r0_10, hc.r0_11, hc.r0_12, hc.r0_13, hp.t0, hp.t1, hp.t2, hp.t3, hp.t4, hp.t5, hp.t6, hp.t7, hp.t8, hp.t9, hp.t10, hp.t11, hp.t12, hp.t13, hp.t14, hp.t15, hp.t16, hp.t17, hp.t18, hp.t19, hp.t20, hp.t21, hp.t22, hp.t23, hp.z2, hp.z3, hp.z4, hp.z5, hp.z7, hp.z8, hp.z9, hp.z10, hp.z12, hp.z13, hp.z14, hp.z15, hp.z16, hp.z17, hp.z18, hp.z20, hp.z21, hp.z22, hp.z23, hp.r0_2, hp.r0_3, hp.r0_4, hp.r0_5, hp.r1_1, hp.r1_2, hp.r1_3, hp.r1_4, hp.r6_1, hp.r6_2, hp.r6_3, hp.r6_4, hp.r11_1, hp.r11_2, hp.r11_3, hp.r11_4, hp.r11_5, hp.r11_6, hp.r11_7, hp.r19_1, hp.r19_2, hp.r19_3, hp.r19_4]
      exact hq h q0.1 q0.2
    · have d3 : (!decide (h.1 (200 + 17) cn = -1)) = true := by simp [g3]
      by_cases g4 : 0 ≤ w ∧ w ≤ 2
      · rw [if_pos ⟨g2, g3, g4⟩] at hq
        have ws := hw.sites
        have wr := hw.row cn
        have wc := hw.wid cn
        have cw := (g.geo.cel g2.2).1
        have b1 := coX_bd hw cn
        have b2 := coY_bd hw cn
        have wb := wir_bd g.wg tt.1 tt.2
        have wb1 := wat_bd (c := cn) g.wg tt.1 tt.2 (x := coX (cv h 200) cn) (y := coY (cv h 200) cn) b1.1 b1.2 b2.1 b2.2
        simp (disch := first | assumption | omega) only [e_133_0, e_133_1, e_133_2, e_133_3, e_133_4, e_133_5, e_133_6, e_133_7, e_133_8, e_133_9, e_133_10, e_133_11, e_133_12, e_133_13, e_133_14, e_133_15, e_133_18, e_133_19, e_133_20, e_133_21, e_133_22, e_133_23, e_133_24, e_133_25, e_133_26, onI_s, onR_s, onL_s, gl_0, gl_n, gl_1, gl_2, gl_3, gl_4, gl_5, gl_6, gl_7, gl_8, gl_9, gl_10, gl_11, gl_12, gl_13, gl_14, gl_15, gl_16, gl_17, sk0i, sk0r, sk0n, sk1i, sk1r, sk1n, sk_2, sk_3, sk_4, sk_5, sk_6, sk_7, sk_8, sk_9, sk_10, sk_11, sk_12, sk_13, sk_14, sk_15, sk_16, sk_17, ls_0, ls_1, ls_2, ls_3, ls_4, ls_5, ls_6, ls_7, ls_8, ls_9, ls_10, ls_11, ls_12, ls_13, ls_14, ls_15, ls_16, ls_17, ct1_i, ct1_r, wd8_0, wd8_i1, wd8_r1, wd8_i2, wd8_r2, wd8_i3, wd8_r3, wd8_i4, wd8_r4, wd8_i5, wd8_r5, wd8_i6, wd8_r6, wd8_i7, wd8_r7, wd8_i8, wd8_r8, wd8_l2, wd8_l3, wd8_l4, wd8_l5, wd8_l6, wd8_l7, wd8_l8, tl_s, tl_n, inR_t, bd_t, true_and, and_true, true_or, or_true, if_true_x, if_false_x, if_pos, if_neg, Int.toNat_natCast, natL, bI_0, bI_1, bI_ft, eq_self, b_tf, b_ft, not_true_eq_false, not_false_eq_true, m_79 hp, m_22 hp, d, d3, hc.t0, hc.r0_0, hc.r0_1, hc.r0_3, hc.r0_5, hc.r0_6, hc.r0_7, hc.r0_8, hc.r0_9, hc.r0_10, hc.r0_11, hc.r0_12, hc.r0_13, hp.t0, hp.t1, hp.t2, hp.t3, hp.t4, hp.t5, hp.t6, hp.t7, hp.t8, hp.t9, hp.t10, hp.t11, hp.t12, hp.t13, hp.t14, hp.t15, hp.t16, hp.t17, hp.t18, hp.t19, hp.t20, hp.t21, hp.t22, hp.t23, hp.z2, hp.z3, hp.z4, hp.z5, hp.z7, hp.z8, hp.z9, hp.z10, hp.z12, hp.z13, hp.z14, hp.z15, hp.z16, hp.z17, hp.z18, hp.z20, hp.z21, hp.z22, hp.z23, hp.r0_2, hp.r0_3, hp.r0_4, hp.r0_5, hp.r1_1, hp.r1_2, hp.r1_3, hp.r1_4, hp.r6_1, hp.r6_2, hp.r6_3, hp.r6_4, hp.r11_1, hp.r11_2, hp.r11_3, hp.r11_4, hp.r11_5, hp.r11_6, hp.r11_7, hp.r19_1, hp.r19_2, hp.r19_3, hp.r19_4]
        (rw [e_133_27]; refine ⟨⟨hc.t14, by decide⟩, ?_⟩)
        refine m_93 hp hc g.wg z (fun h2 z2 f2 la => ?_)
        have t2 : h2.1 1 = h.1 1 := f2.1 1 (by omega)
        have ev2 := f2.cv
        have e17 : h2.1 (200 + 17) cn = cv h 200 17 cn := by rw [f2.1 _ (by omega)]; rfl
        have e12 : h2.1 (200 + 12) cn = cv h 200 12 cn := by rw [f2.1 _ (by omega)]; rfl
        have e01 : h2.2 200 1 = cv h 200 0 1 := by rw [f2.2 _ (by omega)]; rfl
        have g2w : WG (cv h2 200) := by rw [ev2]; exact g.wg
        have tm2 : TMb (h2.1 1) := by rw [t2]; exact tm
        have la2 : LA h2 (cv h2 200) cn (cv h2 200 19 0).toNat := by rw [ev2]; exact la
        simp (disch := first | assumption | omega) only [e_133_28, e_133_29, e_133_30, e_133_31, e_133_32, e_133_33, e_133_34, e_133_35, e_133_36, e_133_37, e_133_38, e_133_39, e_133_40, e_133_41, e_133_42, onI_s, onR_s, onL_s, gl_0, gl_n, gl_1, gl_2, gl_3, gl_4, gl_5, gl_6, gl_7, gl_8, gl_9, gl_10, gl_11, gl_12, gl_13, gl_14, gl_15, gl_16, gl_17, sk0i, sk0r, sk0n, sk1i, sk1r, sk1n, sk_2, sk_3, sk_4, sk_5, sk_6, sk_7, sk_8, sk_9, sk_10, sk_11, sk_12, sk_13, sk_14, sk_15, sk_16, sk_17, ls_0, ls_1, ls_2, ls_3, ls_4, ls_5, ls_6, ls_7, ls_8, ls_9, ls_10, ls_11, ls_12, ls_13, ls_14, ls_15, ls_16, ls_17, ct1_i, ct1_r, wd8_0, wd8_i1, wd8_r1, wd8_i2, wd8_r2, wd8_i3, wd8_r3, wd8_i4, wd8_r4, wd8_i5, wd8_r5, wd8_i6, wd8_r6, wd8_i7, wd8_r7, wd8_i8, wd8_r8, wd8_l2, wd8_l3, wd8_l4, wd8_l5, wd8_l6, wd8_l7, wd8_l8, tl_s, tl_n, inR_t, bd_t, true_and, and_true, true_or, or_true, if_true_x, if_false_x, if_pos, if_neg, Int.toNat_natCast, natL, bI_0, bI_1, bI_ft, eq_self, b_tf, b_ft, not_true_eq_false, not_false_eq_true, e17, hp.t0, hp.t1, hp.t2, hp.t3, hp.t4, hp.t5, hp.t6, hp.t7, hp.t8, hp.t9, hp.t10, hp.t11, hp.t12, hp.t13, hp.t14, hp.t15, hp.t16, hp.t17, hp.t18, hp.t19, hp.t20, hp.t21, hp.t22, hp.t23, hp.z2, hp.z3, hp.z4, hp.z5, hp.z7, hp.z8, hp.z9, hp.z10, hp.z12, hp.z13, hp.z14, hp.z15, hp.z16, hp.z17, hp.z18, hp.z20, hp.z21, hp.z22, hp.z23, hp.r0_2, hp.r0_3, hp.r0_4, hp.r0_5, hp.r1_1, hp.r1_2, hp.r1_3, hp.r1_4, hp.r6_1, hp.r6_2, hp.r6_3, hp.r6_4, hp.r11_1, hp.r11_2, hp.r11_3, hp.r11_4, hp.r11_5, hp.r11_6, hp.r11_7, hp.r19_1, hp.r19_2, hp.r19_3, hp.r19_4]
        have be := bsW_eq g (c := cn) (by omega) tt.1 tt.2 g3 g2.2
        have eM : (((cv h 200 0 1 - cv h 200 12 cn + 1).toNat : Nat) : Int) - 1 = cv h 200 0 1 - cv h 200 12 cn := by omega
        refine l_133 hp hc (c := cn) (M := (cv h 200 0 1 - cv h 200 12 cn + 1).toNat) (t := h.1 1 4) hcn (by rw [e01, e12, eM]) (by omega) (fun s hs Q2 => ?_) (cv h 200 0 1 - cv h 200 12 cn + 1).toNat 0 (-1) (-1) 268435456 none (by omega) (fun x9 => ?_)
        · rw [m94w hc la2 g2w tm2 (by omega) (by omega) (by omega) (by omega), t2]
        · rw [ev2]
          have bb := bst_bd (f := fun s => wat (cv h 200) (h.1 1 4) cn (16 * (s : Int)) (16 * cv h 200 17 cn)) (B := 268435456) (cv h 200 0 1 - cv h 200 12 cn + 1).toNat 0 (-1, -1, 268435456) (fun k h1 h2 => by
            have := wat_bd (c := cn) g.wg tt.1 tt.2 (x := 16 * (k : Int)) (y := 16 * cv h 200 17 cn) (by omega) (by omega) (by omega) (by omega)
            omega) (by dsimp only; omega) (by dsimp only; omega)
          have wl : (bsW (cv h 200) (h.1 1 4) cn).2.2 ≤ 100000000 ∧ 0 ≤ (bsW (cv h 200) (h.1 1 4) cn).2.2 := by
            have hm := bst_bd (f := fun s => wir (gvP (cv h 200) cn (cv h 200 17 cn) s) (h.1 1 4)) (B := 100000000) (cv h 200 0 1 - cv h 200 12 cn + 1).toNat 0 (-1, -1, 100000000) (fun k h1 h2 => by
              have gw : WG (gvP (cv h 200) cn (cv h 200 17 cn) k) := (g.wg.u (by unfold rgP; omega) (by omega)).u (by unfold rgP; omega) (by omega)
              have := wir_bd gw tt.1 tt.2
              omega) (by dsimp only; omega) (by dsimp only; omega)
            exact ⟨hm.2, hm.1⟩
          rw [be] at hq wl
          dsimp only at hq wl
          generalize bst (fun s => wat (cv h 200) (h.1 1 4) cn (16 * (s : Int)) (16 * cv h 200 17 cn)) (cv h 200 0 1 - cv h 200 12 cn + 1).toNat 0 (-1, -1, 268435456) = B at *
          have f3 := f2.fz z2
          have fin3 : ∀ h3, Fz X h h3 → cv h3 200 = cv h 200 → Cst X h h3 ∧ cS h3 = cS h := fun h3 f e => ⟨f.cst ok0, by rw [f.cs, e]; rfl⟩
          rw [e_133_75]
          by_cases w0 : w = 0
          · rw [if_pos w0] at hq
            simp (disch := first | assumption | omega) only [e_133_76, e_133_77, e_133_78, onI_s, onR_s, onL_s, gl_0, gl_n, gl_1, gl_2, gl_3, gl_4, gl_5, gl_6, gl_7, gl_8, gl_9, gl_10, gl_11, gl_12, gl_13, gl_14, gl_15, gl_16, gl_17, sk0i, sk0r, sk0n, sk1i, sk1r, sk1n, sk_2, sk_3, sk_4, sk_5, sk_6, sk_7, sk_8, sk_9, sk_10, sk_11, sk_12, sk_13, sk_14, sk_15, sk_16, sk_17, ls_0, ls_1, ls_2, ls_3, ls_4, ls_5, ls_6, ls_7, ls_8, ls_9, ls_10, ls_11, ls_12, ls_13, ls_14, ls_15, ls_16, ls_17, ct1_i, ct1_r, wd8_0, wd8_i1, wd8_r1, wd8_i2, wd8_r2, wd8_i3, wd8_r3, wd8_i4, wd8_r4, wd8_i5, wd8_r5, wd8_i6, wd8_r6, wd8_i7, wd8_r7, wd8_i8, wd8_r8, wd8_l2, wd8_l3, wd8_l4, wd8_l5, wd8_l6, wd8_l7, wd8_l8, tl_s, tl_n, inR_t, bd_t, true_and, and_true, true_or, or_true, if_true_x, if_false_x, if_pos, if_neg, Int.toNat_natCast, natL, bI_0, bI_1, bI_ft, eq_self, b_tf, b_ft, not_true_eq_false, not_false_eq_true, w0]
            exact hq h2 (fin3 h2 f3 ev2).1 (fin3 h2 f3 ev2).2
          · rw [if_neg w0] at hq
            by_cases w1 : w = 1
            · rw [if_pos w1] at hq
              simp (disch := first | assumption | omega) only [e_133_76, e_133_79, e_133_80, e_133_81, e_133_82, e_133_83, e_133_98, onI_s, onR_s, onL_s, gl_0, gl_n, gl_1, gl_2, gl_3, gl_4, gl_5, gl_6, gl_7, gl_8, gl_9, gl_10, gl_11, gl_12, gl_13, gl_14, gl_15, gl_16, gl_17, sk0i, sk0r, sk0n, sk1i, sk1r, sk1n, sk_2, sk_3, sk_4, sk_5, sk_6, sk_7, sk_8, sk_9, sk_10, sk_11, sk_12, sk_13, sk_14, sk_15, sk_16, sk_17, ls_0, ls_1, ls_2, ls_3, ls_4, ls_5, ls_6, ls_7, ls_8, ls_9, ls_10, ls_11, ls_12, ls_13, ls_14, ls_15, ls_16, ls_17, ct1_i, ct1_r, wd8_0, wd8_i1, wd8_r1, wd8_i2, wd8_r2, wd8_i3, wd8_r3, wd8_i4, wd8_r4, wd8_i5, wd8_r5, wd8_i6, wd8_r6, wd8_i7, wd8_r7, wd8_i8, wd8_r8, wd8_l2, wd8_l3, wd8_l4, wd8_l5, wd8_l6, wd8_l7, wd8_l8, tl_s, tl_n, inR_t, bd_t, true_and, and_true, true_or, or_true, if_true_x, if_false_x, if_pos, if_neg, Int.toNat_natCast, natL, bI_0, bI_1, bI_ft, eq_self, b_tf, b_ft, not_true_eq_false, not_false_eq_true, w0, w1]
              exact hq h2 (fin3 h2 f3 ev2).1 (fin3 h2 f3 ev2).2
            · rw [if_neg w1] at hq
              simp (disch := first | assumption | omega) only [e_133_76, e_133_79, e_133_80, e_133_81, e_133_84, e_133_85, e_133_86, e_133_87, onI_s, onR_s, onL_s, gl_0, gl_n, gl_1, gl_2, gl_3, gl_4, gl_5, gl_6, gl_7, gl_8, gl_9, gl_10, gl_11, gl_12, gl_13, gl_14, gl_15, gl_16, gl_17, sk0i, sk0r, sk0n, sk1i, sk1r, sk1n, sk_2, sk_3, sk_4, sk_5, sk_6, sk_7, sk_8, sk_9, sk_10, sk_11, sk_12, sk_13, sk_14, sk_15, sk_16, sk_17, ls_0, ls_1, ls_2, ls_3, ls_4, ls_5, ls_6, ls_7, ls_8, ls_9, ls_10, ls_11, ls_12, ls_13, ls_14, ls_15, ls_16, ls_17, ct1_i, ct1_r, wd8_0, wd8_i1, wd8_r1, wd8_i2, wd8_r2, wd8_i3, wd8_r3, wd8_i4, wd8_r4, wd8_i5, wd8_r5, wd8_i6, wd8_r6, wd8_i7, wd8_r7, wd8_i8, wd8_r8, wd8_l2, wd8_l3, wd8_l4, wd8_l5, wd8_l6, wd8_l7, wd8_l8, tl_s, tl_n, inR_t, bd_t, true_and, and_true, true_or, or_true, if_true_x, if_false_x, if_pos, if_neg, Int.toNat_natCast, natL, bI_0, bI_1, bI_ft, eq_self, b_tf, b_ft, not_true_eq_false, not_false_eq_true, w0, w1, hc.t0, hc.r0_0, hc.r0_1, hc.r0_3, hc.r0_5, hc.r0_6, hc.r0_7, hc.r0_8, hc.r0_9, hc.r0_10, hc.r0_11, hc.r0_12, hc.r0_13]
              (rw [e_133_88]; refine ⟨⟨hc.t14, by decide⟩, ?_⟩)
              refine wirC6 hp hc g2w tm2 (fun h4 q4 q6 => ?_)
              have ev4 : cv h4 200 = cv h 200 := (q4.cv (b := 200) (by omega)).trans ev2
              have t4 : h4.1 1 = h.1 1 := by rw [q4.1]; exact t2
              have m95 := fun (Q2 : Option xV → xH → Prop) => m95w (Q := Q2) (h := h4) (c := cn) hp hc (by rw [ev4]; exact la.cg (fun a _ _ => by rw [q4.1]) q6) (by rw [ev4]; exact g.wg) (by rw [t4]; exact tm) hcn
              rw [ev4, t4] at m95
              rw [ev2, t2]
              simp (disch := first | assumption | omega) only [e_133_89, e_133_90, e_133_91, e_133_92, e_133_93, e_133_94, e_133_95, e_133_96, e_133_97, e_133_98, onI_s, onR_s, onL_s, gl_0, gl_n, gl_1, gl_2, gl_3, gl_4, gl_5, gl_6, gl_7, gl_8, gl_9, gl_10, gl_11, gl_12, gl_13, gl_14, gl_15, gl_16, gl_17, sk0i, sk0r, sk0n, sk1i, sk1r, sk1n, sk_2, sk_3, sk_4, sk_5, sk_6, sk_7, sk_8, sk_9, sk_10, sk_11, sk_12, sk_13, sk_14, sk_15, sk_16, sk_17, ls_0, ls_1, ls_2, ls_3, ls_4, ls_5, ls_6, ls_7, ls_8, ls_9, ls_10, ls_11, ls_12, ls_13, ls_14, ls_15, ls_16, ls_17, ct1_i, ct1_r, wd8_0, wd8_i1, wd8_r1, wd8_i2, wd8_r2, wd8_i3, wd8_r3, wd8_i4, wd8_r4, wd8_i5, wd8_r5, wd8_i6, wd8_r6, wd8_i7, wd8_r7, wd8_i8, wd8_r8, wd8_l2, wd8_l3, wd8_l4, wd8_l5, wd8_l6, wd8_l7, wd8_l8, tl_s, tl_n, inR_t, bd_t, true_and, and_true, true_or, or_true, if_true_x, if_false_x, if_pos, if_neg, Int.toNat_natCast, natL, bI_0, bI_1, bI_ft, eq_self, b_tf, b_ft, not_true_eq_false, not_false_eq_true, m95, hc.t0, hc.r0_0, hc.r0_1, hc.r0_3, hc.r0_5, hc.r0_6, hc.r0_7, hc.r0_8, hc.r0_9, hc.r0_10, hc.r0_11, hc.r0_12, hc.r0_13, hc.t14, hc.r14_0, hc.r14_5, hc.r14_7, hc.r14_8, hc.r14_9, hc.r14_10, hc.r14_11, hc.r14_12]
              have f4 := f3.tr (q4.fz z2)
              exact hq h4 (fin3 h4 f4 ev4).1 (fin3 h4 f4 ev4).2
      · rw [if_neg (fun q => g4 q.2.2)] at hq
        (repeat' (first | (simp (disch := first | assumption | omega) only [e_133_0, e_133_1, e_133_2, e_133_3, e_133_4, e_133_5, e_133_6, e_133_7, e_133_8, e_133_9, e_133_10, e_133_11, e_133_12, e_133_13, e_133_14, e_133_15, e_133_16, e_133_17, onI_s, onR_s, onL_s, gl_0, gl_n, gl_1, gl_2, gl_3, gl_4, gl_5, gl_6, gl_7, gl_8, gl_9, gl_10, gl_11, gl_12, gl_13, gl_14, gl_15, gl_16, gl_17, sk0i, sk0r, sk0n, sk1i, sk1r, sk1n, sk_2, sk_3, sk_4, sk_5, sk_6, sk_7, sk_8, sk_9, sk_10, sk_11, sk_12, sk_13, sk_14, sk_15, sk_16, sk_17, ls_0, ls_1, ls_2, ls_3, ls_4, ls_5, ls_6, ls_7, ls_8, ls_9, ls_10, ls_11, ls_12, ls_13, ls_14, ls_15, ls_16, ls_17, ct1_i, ct1_r, wd8_0, wd8_i1, wd8_r1, wd8_i2, wd8_r2, wd8_i3, wd8_r3, wd8_i4, wd8_r4, wd8_i5, wd8_r5, wd8_i6, wd8_r6, wd8_i7, wd8_r7, wd8_i8, wd8_r8, wd8_l2, wd8_l3, wd8_l4, wd8_l5, wd8_l6, wd8_l7, wd8_l8, tl_s, tl_n, inR_t, bd_t, true_and, and_true, true_or, or_true, if_true_x, if_false_x, if_pos, if_neg, Int.toNat_natCast, natL, bI_0, bI_1, bI_ft, eq_self, b_tf, b_ft, not_true_eq_false, not_false_eq_true, m_79 hp, m_22 hp, d, d3, hc.t0, hc.r0_0, hc.r0_1, hc.r0_3, hc.r0_5, hc.r0_6, hc.r0_7, hc.r0_8, hc.r0_9, hc.r0_10, hc.r0_11, hc.r0_12, hc.r0_13, hp.t0, hp.t1, hp.t2, hp.t3, hp.t4, hp.t5, hp.t6, hp.t7, hp.t8, hp.t9, hp.t10, hp.t11, hp.t12, hp.t13, hp.t14, hp.t15, hp.t16, hp.t17, hp.t18, hp.t19, hp.t20, hp.t21, hp.t22, hp.t23, hp.z2, hp.z3, hp.z4, hp.z5, hp.z7, hp.z8, hp.z9, hp.z10, hp.z12, hp.z13, hp.z14, hp.z15, hp.z16, hp.z17, hp.z18, hp.z20, hp.z21, hp.z22, hp.z23, hp.r0_2, hp.r0_3, hp.r0_4, hp.r0_5, hp.r1_1, hp.r1_2, hp.r1_3, hp.r1_4, hp.r6_1, hp.r6_2, hp.r6_3, hp.r6_4, hp.r11_1, hp.r11_2, hp.r11_3, hp.r11_4, hp.r11_5, hp.r11_6, hp.r11_7, hp.r19_1, hp.r19_2, hp.r19_3, hp.r19_4]) | split))
        all_goals first | exact hq h q0.1 q0.2 | (exfalso; omega)
  · rw [if_neg (fun q => g2 q.1)] at hq
    have d := bF (show ¬ (0 ≤ c ∧ c < h.2 (200 + 11) 0) from g2)
    simp (disch := first | assumption | omega) only [e_133_0, e_133_1, e_133_2, e_133_3, e_133_4, e_133_16, e_133_17, onI_s, onR_s, onL_s, gl_0, gl_n, gl_1, gl_2, gl_3, gl_4, gl_5, gl_6, gl_7, gl_8, gl_9, gl_10, gl_11, gl_12, gl_13, gl_14, gl_15, gl_16, gl_17, sk0i, sk0r, sk0n, sk1i, sk1r, sk1n, sk_2, sk_3, sk_4, sk_5, sk_6, sk_7, sk_8, sk_9, sk_10, sk_11, sk_12, sk_13, sk_14, sk_15, sk_16, sk_17, ls_0, ls_1, ls_2, ls_3, ls_4, ls_5, ls_6, ls_7, ls_8, ls_9, ls_10, ls_11, ls_12, ls_13, ls_14, ls_15, ls_16, ls_17, ct1_i, ct1_r, wd8_0, wd8_i1, wd8_r1, wd8_i2, wd8_r2, wd8_i3, wd8_r3, wd8_i4, wd8_r4, wd8_i5, wd8_r5, wd8_i6, wd8_r6, wd8_i7, wd8_r7, wd8_i8, wd8_r8, wd8_l2, wd8_l3, wd8_l4, wd8_l5, wd8_l6, wd8_l7, wd8_l8, tl_s, tl_n, inR_t, bd_t, true_and, and_true, true_or, or_true, if_true_x, if_false_x, if_pos, if_neg, Int.toNat_natCast, natL, bI_0, bI_1, bI_ft, eq_self, b_tf, b_ft, not_true_eq_false, not_false_eq_true, m_79 hp, d, hc.t0, hc.r0_0, hc.r0_1, hc.r0_3, hc.r0_5, hc.r0_6, hc.r0_7, hc.r0_8, hc.r0_9, hc.r0_10, hc.r0_11, hc.r0_12, hc.r0_13, hp.t0, hp.t1, hp.t2, hp.t3, hp.t4, hp.t5, hp.t6, hp.t7, hp.t8, hp.t9, hp.t10, hp.t11, hp.t12, hp.t13, hp.t14, hp.t15, hp.t16, hp.t17, hp.t18, hp.t19, hp.t20, hp.t21, hp.t22, hp.t23, hp.z2, hp.z3, hp.z4, hp.z5, hp.z7, hp.z8, hp.z9, hp.z10, hp.z12, hp.z13, hp.z14, hp.z15, hp.z16, hp.z17, hp.z18, hp.z20, hp.z21, hp.z22, hp.z23, hp.r0_2, hp.r0_3, hp.r0_4, hp.r0_5, hp.r1_1, hp.r1_2, hp.r1_3, hp.r1_4, hp.r6_1, hp.r6_2, hp.r6_3, hp.r6_4, hp.r11_1, hp.r11_2, hp.r11_3, hp.r11_4, hp.r11_5, hp.r11_6, hp.r11_7, hp.r19_1, hp.r19_2, hp.r19_3, hp.r19_4]
    exact hq h q0.1 q0.2
end BSC
