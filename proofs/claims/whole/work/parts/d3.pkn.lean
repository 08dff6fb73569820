/-! PACKING in the class: all of it -/
section PKN
variable {X : xL} {Q : Option xV → xH → Prop} {ns nb ln b : Nat} {h : xH}
set_option maxHeartbeats 8000000 in
theorem p_50l (hp : PL X b) (b200 : 200 ≤ b) (hc : CT X ns nb ln) {v : Nat → Nat → Int} (wv : RGv v) (ns256 : ns ≤ 256) (lns : (rnL v).length ≤ ns) {go : List (Nat × Nat)} (g20 : go.length ≤ 20) (ft : FT v go) (gN : ∀ x, x ∈ go → 1 ≤ v 12 x.1) {h0 : xH} (ps : PS h0 v go) (n3 : h0.2 29 3 = go.length) : ∀ (M : List Rn) (k : Nat) (u : Nat → Nat → Int) (h : xH) (x4 : Option xV), (rnL v).drop k = M → k + M.length = (rnL v).length → NZ X h → GV b h0 h → cv h b = u → SJ u v → RGv u → (∀ h2, NZ X h2 → GV b h0 h2 → cv h2 b = plA v go M k u → SJ (plA v go M k u) v → RGv (plA v go M k u) → Q (some (vi 1)) h2) → Ev X 50 93 [some (vr 29), some (vr b), some (vr (b + 11)), some (vi k), x4] [] h Q := by
  intro M
  induction M with
  | nil =>
    intro k u h x4 hd hk z g ev sj w hq
    simp at hk
    have p := ps.gv b200 g
    have n7 := p.1
    rw [e_50_93]
    simp (disch := first | assumption | omega) only [e_50_94, e_50_95, e_50_96, e_50_97, e_50_109, e_50_110, onI_s, onR_s, onL_s, gl_0, gl_n, gl_1, gl_2, gl_3, gl_4, gl_5, gl_6, gl_7, gl_8, gl_9, gl_10, gl_11, gl_12, gl_13, gl_14, gl_15, gl_16, gl_17, sk0i, sk0r, sk0n, sk1i, sk1r, sk1n, sk_2, sk_3, sk_4, sk_5, sk_6, sk_7, sk_8, sk_9, sk_10, sk_11, sk_12, sk_13, sk_14, sk_15, sk_16, sk_17, ls_0, ls_1, ls_2, ls_3, ls_4, ls_5, ls_6, ls_7, ls_8, ls_9, ls_10, ls_11, ls_12, ls_13, ls_14, ls_15, ls_16, ls_17, ct1_i, ct1_r, wd8_0, wd8_i1, wd8_r1, wd8_i2, wd8_r2, wd8_i3, wd8_r3, wd8_i4, wd8_r4, wd8_i5, wd8_r5, wd8_i6, wd8_r6, wd8_i7, wd8_r7, wd8_i8, wd8_r8, wd8_l2, wd8_l3, wd8_l4, wd8_l5, wd8_l6, wd8_l7, wd8_l8, tl_s, tl_n, inR_t, bd_t, true_and, and_true, true_or, or_true, if_true_x, if_false_x, if_pos, if_neg, Int.toNat_natCast, natL, bI_0, bI_1, bI_ft, eq_self, b_tf, b_ft, not_true_eq_false, not_false_eq_true, n7, hc.t29, hc.r29_0, hc.r29_1, hc.r29_2, hc.r29_4, hc.r29_5, hc.r29_6, hc.r29_7, hc.r29_8, hc.t7, hc.r7_2, hc.r7_4, hc.r7_5, hc.r7_6, hc.r7_7, hc.r7_8]
    exact hq h z g ev sj w
  | cons x M ih =>
    intro k u h x4 hd hk z g ev sj w hq
    rw [List.length_cons] at hk
    have hx : (rnL v)[k]? = some x := by
      have := List.getElem?_drop (xs := rnL v) (i := k) (j := 0)
      rw [hd] at this
      simpa using this.symm
    have hd2 : (rnL v).drop (k + 1) = M := by
      rw [← List.drop_drop, hd]
      rfl
    have p := ps.gv b200 g
    have n7 := p.1
    have u1 := (p.2.2.2 k x hx).1
    have kns : k < ns := by omega
    rw [plA] at hq
    rw [e_50_93]
    by_cases e : sW v (smK go k) ≤ 0
    · have en : smK go k = [] := sW_pos _ (fun c hc => gN _ (smK_mem hc)) e
      rw [en, plR] at hq
      simp (disch := first | assumption | omega) only [e_50_94, e_50_95, e_50_96, e_50_97, e_50_98, e_50_99, e_50_100, e_50_101, e_50_102, e_50_107, e_50_108, onI_s, onR_s, onL_s, gl_0, gl_n, gl_1, gl_2, gl_3, gl_4, gl_5, gl_6, gl_7, gl_8, gl_9, gl_10, gl_11, gl_12, gl_13, gl_14, gl_15, gl_16, gl_17, sk0i, sk0r, sk0n, sk1i, sk1r, sk1n, sk_2, sk_3, sk_4, sk_5, sk_6, sk_7, sk_8, sk_9, sk_10, sk_11, sk_12, sk_13, sk_14, sk_15, sk_16, sk_17, ls_0, ls_1, ls_2, ls_3, ls_4, ls_5, ls_6, ls_7, ls_8, ls_9, ls_10, ls_11, ls_12, ls_13, ls_14, ls_15, ls_16, ls_17, ct1_i, ct1_r, wd8_0, wd8_i1, wd8_r1, wd8_i2, wd8_r2, wd8_i3, wd8_r3, wd8_i4, wd8_r4, wd8_i5, wd8_r5, wd8_i6, wd8_r6, wd8_i7, wd8_r7, wd8_i8, wd8_r8, wd8_l2, wd8_l3, wd8_l4, wd8_l5, wd8_l6, wd8_l7, wd8_l8, tl_s, tl_n, inR_t, bd_t, true_and, and_true, true_or, or_true, if_true_x, if_false_x, if_pos, if_neg, Int.toNat_natCast, natL, bI_0, bI_1, bI_ft, eq_self, b_tf, b_ft, not_true_eq_false, not_false_eq_true, n7, u1, e, cast_s, hc.t29, hc.r29_0, hc.r29_1, hc.r29_2, hc.r29_4, hc.r29_5, hc.r29_6, hc.r29_7, hc.r29_8, hc.t7, hc.r7_2, hc.r7_4, hc.r7_5, hc.r7_6, hc.r7_7, hc.r7_8, hc.t33, hc.z33]
      exact ih (k + 1) u h _ hd2 (by omega) z g ev sj w hq
    · simp (disch := first | assumption | omega) only [e_50_94, e_50_95, e_50_96, e_50_97, e_50_98, e_50_99, e_50_100, e_50_101, e_50_102, e_50_103, e_50_104, e_50_105, onI_s, onR_s, onL_s, gl_0, gl_n, gl_1, gl_2, gl_3, gl_4, gl_5, gl_6, gl_7, gl_8, gl_9, gl_10, gl_11, gl_12, gl_13, gl_14, gl_15, gl_16, gl_17, sk0i, sk0r, sk0n, sk1i, sk1r, sk1n, sk_2, sk_3, sk_4, sk_5, sk_6, sk_7, sk_8, sk_9, sk_10, sk_11, sk_12, sk_13, sk_14, sk_15, sk_16, sk_17, ls_0, ls_1, ls_2, ls_3, ls_4, ls_5, ls_6, ls_7, ls_8, ls_9, ls_10, ls_11, ls_12, ls_13, ls_14, ls_15, ls_16, ls_17, ct1_i, ct1_r, wd8_0, wd8_i1, wd8_r1, wd8_i2, wd8_r2, wd8_i3, wd8_r3, wd8_i4, wd8_r4, wd8_i5, wd8_r5, wd8_i6, wd8_r6, wd8_i7, wd8_r7, wd8_i8, wd8_r8, wd8_l2, wd8_l3, wd8_l4, wd8_l5, wd8_l6, wd8_l7, wd8_l8, tl_s, tl_n, inR_t, bd_t, true_and, and_true, true_or, or_true, if_true_x, if_false_x, if_pos, if_neg, Int.toNat_natCast, natL, bI_0, bI_1, bI_ft, eq_self, b_tf, b_ft, not_true_eq_false, not_false_eq_true, n7, u1, e, hc.t29, hc.r29_0, hc.r29_1, hc.r29_2, hc.r29_4, hc.r29_5, hc.r29_6, hc.r29_7, hc.r29_8, hc.t7, hc.r7_2, hc.r7_4, hc.r7_5, hc.r7_6, hc.r7_7, hc.r7_8, hc.t33, hc.z33]
      (rw [e_50_106]; refine ⟨⟨hc.t29, by simp [wd_i, wd_r, wd_l, wd_0]⟩, ?_⟩)
      refine m_54 hp b200 hc wv g20 ft gN hx kns ns256 p (by rw [g.2]; exact n3) z ev sj w (fun h2 z2 ev2 g2 sj2 w2 => ?_)
      simp (disch := first | assumption | omega) only [e_50_107, e_50_108, onI_s, onR_s, onL_s, gl_0, gl_n, gl_1, gl_2, gl_3, gl_4, gl_5, gl_6, gl_7, gl_8, gl_9, gl_10, gl_11, gl_12, gl_13, gl_14, gl_15, gl_16, gl_17, sk0i, sk0r, sk0n, sk1i, sk1r, sk1n, sk_2, sk_3, sk_4, sk_5, sk_6, sk_7, sk_8, sk_9, sk_10, sk_11, sk_12, sk_13, sk_14, sk_15, sk_16, sk_17, ls_0, ls_1, ls_2, ls_3, ls_4, ls_5, ls_6, ls_7, ls_8, ls_9, ls_10, ls_11, ls_12, ls_13, ls_14, ls_15, ls_16, ls_17, ct1_i, ct1_r, wd8_0, wd8_i1, wd8_r1, wd8_i2, wd8_r2, wd8_i3, wd8_r3, wd8_i4, wd8_r4, wd8_i5, wd8_r5, wd8_i6, wd8_r6, wd8_i7, wd8_r7, wd8_i8, wd8_r8, wd8_l2, wd8_l3, wd8_l4, wd8_l5, wd8_l6, wd8_l7, wd8_l8, tl_s, tl_n, inR_t, bd_t, true_and, and_true, true_or, or_true, if_true_x, if_false_x, if_pos, if_neg, Int.toNat_natCast, natL, bI_0, bI_1, bI_ft, eq_self, b_tf, b_ft, not_true_eq_false, not_false_eq_true, cast_s]
      exact ih (k + 1) _ h2 _ hd2 (by omega) z2 (g.tr g2) ev2 sj2 w2 hq
set_option maxHeartbeats 8000000 in
theorem m_50 (hp : PL X b) (b200 : 200 ≤ b) (hc : CT X ns nb ln) {h0 : xH} {v : Nat → Nat → Int} (ev : cv h0 b = v) (g : Gd v) (z : NZ X h0) (tm : TMb (h0.1 1)) (o7 : h0.2 7 0 = v 0 0 ∧ h0.2 7 1 = v 0 1) (ens : ns = (v 0 0 * v 0 1).toNat) (hN : mkV v (h0.1 1 4) = none → ∀ h2, NZ X h2 → GH b h0 h2 → Q (some (vi 0)) h2) (hS : ∀ u, mkV v (h0.1 1 4) = some u → ∀ h2, NZ X h2 → GH b h0 h2 → cv h2 b = u → SJ u v → RGv u → Q (some (vi 1)) h2) : Cl X 50 [vr 29, vr b] h0 Q := by
  have hw := g.rg
  have ws := hw.sites
  have wr := hw.rows
  have nF := hw.nF
  have nC := hw.nC
  have tt := tm.tall
  obtain ⟨R, hR⟩ : ∃ R : Nat, v 0 0 = R := ⟨(v 0 0).toNat, by omega⟩
  obtain ⟨S, hS2⟩ : ∃ S : Nat, v 0 1 = S := ⟨(v 0 1).toNat, by omega⟩
  obtain ⟨N, hN2⟩ : ∃ N : Nat, v 6 0 = N := ⟨(v 6 0).toNat, by omega⟩
  have hns : ns = R * S := by rw [ens, hR, hS2, ← Int.natCast_mul, Int.toNat_natCast]
  have ns256 : ns ≤ 256 := by rw [hns]; exact Nat.mul_le_mul (by omega : R ≤ 8) (by omega : S ≤ 32)
  have lns : (rnL v).length ≤ ns := by
    rw [hns]
    have := rnA_len (v := v) hS2 R
    unfold rnL
    rw [hR, Int.toNat_natCast]
    exact this
  rw [c_50]
  simp (disch := first | assumption | omega) only [e_50_0, e_50_1, e_50_2, e_50_3, e_50_4, e_50_5, onI_s, onR_s, onL_s, gl_0, gl_n, gl_1, gl_2, gl_3, gl_4, gl_5, gl_6, gl_7, gl_8, gl_9, gl_10, gl_11, gl_12, gl_13, gl_14, gl_15, gl_16, gl_17, sk0i, sk0r, sk0n, sk1i, sk1r, sk1n, sk_2, sk_3, sk_4, sk_5, sk_6, sk_7, sk_8, sk_9, sk_10, sk_11, sk_12, sk_13, sk_14, sk_15, sk_16, sk_17, ls_0, ls_1, ls_2, ls_3, ls_4, ls_5, ls_6, ls_7, ls_8, ls_9, ls_10, ls_11, ls_12, ls_13, ls_14, ls_15, ls_16, ls_17, ct1_i, ct1_r, wd8_0, wd8_i1, wd8_r1, wd8_i2, wd8_r2, wd8_i3, wd8_r3, wd8_i4, wd8_r4, wd8_i5, wd8_r5, wd8_i6, wd8_r6, wd8_i7, wd8_r7, wd8_i8, wd8_r8, wd8_l2, wd8_l3, wd8_l4, wd8_l5, wd8_l6, wd8_l7, wd8_l8, tl_s, tl_n, inR_t, bd_t, true_and, and_true, true_or, or_true, if_true_x, if_false_x, if_pos, if_neg, Int.toNat_natCast, natL, bI_0, bI_1, bI_ft, eq_self, b_tf, b_ft, not_true_eq_false, not_false_eq_true, hc.t29, hc.r29_0, hc.r29_1, hc.r29_2, hc.r29_4, hc.r29_5, hc.r29_6, hc.r29_7, hc.r29_8, hp.t0, hp.t1, hp.t2, hp.t3, hp.t4, hp.t5, hp.t6, hp.t7, hp.t8, hp.t9, hp.t10, hp.t11, hp.t12, hp.t13, hp.t14, hp.t15, hp.t16, hp.t17, hp.t18, hp.t19, hp.t20, hp.t21, hp.t22, hp.t23, hp.z2, hp.z3, hp.z4, hp.z5, hp.z7, hp.z8, hp.z9, hp.z10, hp.z12, hp.z13, hp.z14, hp.z15, hp.z16, hp.z17, hp.z18, hp.z20, hp.z21, hp.z22, hp.z23, hp.r0_2, hp.r0_3, hp.r0_4, hp.r0_5, hp.r1_1, hp.r1_2, hp.r1_3, hp.r1_4, hp.r6_1, hp.r6_2, hp.r6_3, hp.r6_4, hp.r11_1, hp.r11_2, hp.r11_3, hp.r11_4, hp.r11_5, hp.r11_6, hp.r11_7, hp.r19_1, hp.r19_2, hp.r19_3, hp.r19_4]
  (rw [e_50_6]; refine ⟨⟨hc.t7, by simp [wd_i, wd_r, wd_l, wd_0]⟩, ?_⟩)
  refine m_32 hp b200 hc (R := R) (S := S) (by rw [ev]; exact hR) (by rw [ev]; exact hS2) (by rw [o7.2]; exact hS2) hns z (by rw [ev]; exact g.geo) (by rw [ev]; exact hw) (fun h1 z1 g1 p1 => ?_)
  rw [ev] at p1
  have e6 : h1.2 (b + 6) 0 = N := by rw [g1.2, ← hN2, ← ev]; rfl
  simp (disch := first | assumption | omega) only [e_50_7, e_50_8, e_50_9, e_50_10, e_50_11, onI_s, onR_s, onL_s, gl_0, gl_n, gl_1, gl_2, gl_3, gl_4, gl_5, gl_6, gl_7, gl_8, gl_9, gl_10, gl_11, gl_12, gl_13, gl_14, gl_15, gl_16, gl_17, sk0i, sk0r, sk0n, sk1i, sk1r, sk1n, sk_2, sk_3, sk_4, sk_5, sk_6, sk_7, sk_8, sk_9, sk_10, sk_11, sk_12, sk_13, sk_14, sk_15, sk_16, sk_17, ls_0, ls_1, ls_2, ls_3, ls_4, ls_5, ls_6, ls_7, ls_8, ls_9, ls_10, ls_11, ls_12, ls_13, ls_14, ls_15, ls_16, ls_17, ct1_i, ct1_r, wd8_0, wd8_i1, wd8_r1, wd8_i2, wd8_r2, wd8_i3, wd8_r3, wd8_i4, wd8_r4, wd8_i5, wd8_r5, wd8_i6, wd8_r6, wd8_i7, wd8_r7, wd8_i8, wd8_r8, wd8_l2, wd8_l3, wd8_l4, wd8_l5, wd8_l6, wd8_l7, wd8_l8, tl_s, tl_n, inR_t, bd_t, true_and, and_true, true_or, or_true, if_true_x, if_false_x, if_pos, if_neg, Int.toNat_natCast, natL, bI_0, bI_1, bI_ft, eq_self, b_tf, b_ft, not_true_eq_false, not_false_eq_true, e6, hc.t29, hc.r29_0, hc.r29_1, hc.r29_2, hc.r29_4, hc.r29_5, hc.r29_6, hc.r29_7, hc.r29_8, hp.t0, hp.t1, hp.t2, hp.t3, hp.t4, hp.t5, hp.t6, hp.t7, hp.t8, hp.t9, hp.t10, hp.t11, hp.t12, hp.t13, hp.t14, hp.t15, hp.t16, hp.t17, hp.t18, hp.t19, hp.t20, hp.t21, hp.t22, hp.t23, hp.z2, hp.z3, hp.z4, hp.z5, hp.z7, hp.z8, hp.z9, hp.z10, hp.z12, hp.z13, hp.z14, hp.z15, hp.z16, hp.z17, hp.z18, hp.z20, hp.z21, hp.z22, hp.z23, hp.r0_2, hp.r0_3, hp.r0_4, hp.r0_5, hp.r1_1, hp.r1_2, hp.r1_3, hp.r1_4, hp.r6_1, hp.r6_2, hp.r6_3, hp.r6_4, hp.r11_1, hp.r11_2, hp.r11_3, hp.r11_4, hp.r11_5, hp.r11_6, hp.r11_7, hp.r19_1, hp.r19_2, hp.r19_3, hp.r19_4]
  (rw [e_50_12]; refine ⟨⟨hc.t7, by simp [wd_i, wd_r, wd_l, wd_0]⟩, ?_⟩)
  refine m_37 (v := v) hc hns (by omega) (by omega) (by omega) (by rw [g1.2, o7.2]; exact hS2) (by rw [g1.2, o7.1]; exact hR) hR hS2 hN2 p1 z1 (fun h2 s2 => ?_)
  have s3 := s2.sa g1
  simp (disch := first | assumption | omega) only [e_50_13, e_50_14, onI_s, onR_s, onL_s, gl_0, gl_n, gl_1, gl_2, gl_3, gl_4, gl_5, gl_6, gl_7, gl_8, gl_9, gl_10, gl_11, gl_12, gl_13, gl_14, gl_15, gl_16, gl_17, sk0i, sk0r, sk0n, sk1i, sk1r, sk1n, sk_2, sk_3, sk_4, sk_5, sk_6, sk_7, sk_8, sk_9, sk_10, sk_11, sk_12, sk_13, sk_14, sk_15, sk_16, sk_17, ls_0, ls_1, ls_2, ls_3, ls_4, ls_5, ls_6, ls_7, ls_8, ls_9, ls_10, ls_11, ls_12, ls_13, ls_14, ls_15, ls_16, ls_17, ct1_i, ct1_r, wd8_0, wd8_i1, wd8_r1, wd8_i2, wd8_r2, wd8_i3, wd8_r3, wd8_i4, wd8_r4, wd8_i5, wd8_r5, wd8_i6, wd8_r6, wd8_i7, wd8_r7, wd8_i8, wd8_r8, wd8_l2, wd8_l3, wd8_l4, wd8_l5, wd8_l6, wd8_l7, wd8_l8, tl_s, tl_n, inR_t, bd_t, true_and, and_true, true_or, or_true, if_true_x, if_false_x, if_pos, if_neg, Int.toNat_natCast, natL, bI_0, bI_1, bI_ft, eq_self, b_tf, b_ft, not_true_eq_false, not_false_eq_true]
  refine z_50 (b := b) hc s3.2.2.1 lns ns256 (rnL v).length 0 h2 none (by omega) s3.1 (fun _ _ _ => rfl) rfl (fun j hj => by omega) (fun h3 x3 x4 z3 o3 f3 p3 => ?_)
  have g3 : GZ h0 h3 := ⟨fun a q => by rw [o3 a (by omega) (by omega)]; exact s3.2.1.1 a (by omega), fun a k q => by rw [f3]; exact s3.2.1.2 a k q.1⟩
  have cv3 : cv h3 b = v := (g3.cv b200).trans ev
  rw [e_50_32]
  simp (disch := first | assumption | omega) only [e_50_33, onI_s, onR_s, onL_s, gl_0, gl_n, gl_1, gl_2, gl_3, gl_4, gl_5, gl_6, gl_7, gl_8, gl_9, gl_10, gl_11, gl_12, gl_13, gl_14, gl_15, gl_16, gl_17, sk0i, sk0r, sk0n, sk1i, sk1r, sk1n, sk_2, sk_3, sk_4, sk_5, sk_6, sk_7, sk_8, sk_9, sk_10, sk_11, sk_12, sk_13, sk_14, sk_15, sk_16, sk_17, ls_0, ls_1, ls_2, ls_3, ls_4, ls_5, ls_6, ls_7, ls_8, ls_9, ls_10, ls_11, ls_12, ls_13, ls_14, ls_15, ls_16, ls_17, ct1_i, ct1_r, wd8_0, wd8_i1, wd8_r1, wd8_i2, wd8_r2, wd8_i3, wd8_r3, wd8_i4, wd8_r4, wd8_i5, wd8_r5, wd8_i6, wd8_r6, wd8_i7, wd8_r7, wd8_i8, wd8_r8, wd8_l2, wd8_l3, wd8_l4, wd8_l5, wd8_l6, wd8_l7, wd8_l8, tl_s, tl_n, inR_t, bd_t, true_and, and_true, true_or, or_true, if_true_x, if_false_x, if_pos, if_neg, Int.toNat_natCast, natL, bI_0, bI_1, bI_ft, eq_self, b_tf, b_ft, not_true_eq_false, not_false_eq_true]
  (rw [e_50_34]; refine ⟨⟨hc.t29, by simp [wd_i, wd_r, wd_l, wd_0]⟩, ?_⟩)
  refine m_51 hp b200 hc cv3 hw z3 (fun h4 oc => ?_)
  obtain ⟨z4, g4, n4, r4⟩ := oc
  have cv4 : cv h4 b = v := (g4.cv b200).trans cv3
  have g04 : GZ h0 h4 := g3.tr g4.gz
  obtain ⟨q, eq⟩ : ∃ q, q = ordQ v (v 11 0).toNat := ⟨_, rfl⟩
  rw [← eq] at n4 r4
  have qm : ∀ c, c ∈ q → c < (v 11 0).toNat ∧ v 14 c = 0 := fun c hc => by rw [eq] at hc; exact (ordQ_mem _).mp hc
  have ql : q.length ≤ 20 := by have := ordQ_len (v := v) (v 11 0).toNat; rw [eq]; omega
  have qn : q.Nodup := by rw [eq]; exact ordQ_nd _
  have e14 : h4.1 1 4 = h0.1 1 4 := by rw [g04.1 1 (by omega)]
  unfold mkV at hN hS
  rw [← eq] at hN hS
  have p4 : PS h4 v [] := by
    refine ⟨?_, ?_, fun i x hx => by simp at hx, fun k x hx => ?_⟩
    · rw [g4.2 7 3 (by omega), f3]
      exact s3.2.2.1
    · rw [g4.1 9 (by omega), g4.1 10 (by omega), g4.1 11 (by omega), g4.1 12 (by omega), o3 9 (by omega) (by omega), o3 10 (by omega) (by omega), o3 11 (by omega) (by omega), o3 12 (by omega) (by omega)]
      exact s3.2.2.2
    · have kl : k < (rnL v).length := by
        rcases Nat.lt_or_ge k (rnL v).length with d | d
        · exact d
        · rw [List.getElem?_eq_none d] at hx
          cases hx
      rw [g4.1 33 (by omega), g4.1 32 (by omega)]
      exact ⟨(p3 k kl).2, (p3 k kl).1⟩
  simp (disch := first | assumption | omega) only [e_50_35, e_50_36, onI_s, onR_s, onL_s, gl_0, gl_n, gl_1, gl_2, gl_3, gl_4, gl_5, gl_6, gl_7, gl_8, gl_9, gl_10, gl_11, gl_12, gl_13, gl_14, gl_15, gl_16, gl_17, sk0i, sk0r, sk0n, sk1i, sk1r, sk1n, sk_2, sk_3, sk_4, sk_5, sk_6, sk_7, sk_8, sk_9, sk_10, sk_11, sk_12, sk_13, sk_14, sk_15, sk_16, sk_17, ls_0, ls_1, ls_2, ls_3, ls_4, ls_5, ls_6, ls_7, ls_8, ls_9, ls_10, ls_11, ls_12, ls_13, ls_14, ls_15, ls_16, ls_17, ct1_i, ct1_r, wd8_0, wd8_i1, wd8_r1, wd8_i2, wd8_r2, wd8_i3, wd8_r3, wd8_i4, wd8_r4, wd8_i5, wd8_r5, wd8_i6, wd8_r6, wd8_i7, wd8_r7, wd8_i8, wd8_r8, wd8_l2, wd8_l3, wd8_l4, wd8_l5, wd8_l6, wd8_l7, wd8_l8, tl_s, tl_n, inR_t, bd_t, true_and, and_true, true_or, or_true, if_true_x, if_false_x, if_pos, if_neg, Int.toNat_natCast, natL, bI_0, bI_1, bI_ft, eq_self, b_tf, b_ft, not_true_eq_false, not_false_eq_true]
  refine l_50 (go := []) (rest := q) hp b200 hc hw tt.1 tt.2 ns256 lns cv4 e14 ql (fun c hc => by have := qm c hc; omega) qn r4 n4 h4 x4 rfl p4 (fun k x hx => by show (0 : Int) ≤ _; omega) z4 GI.refl (fun a h5 z5 g5 => ?_) (fun go2 a e2 ft2 h5 x3 x4 z5 g5 p5 => ?_)
  · rw [a] at hN
    exact hN rfl h5 z5 (g04.tr g5.gz).gh
  · rw [a] at hS
    dsimp only at hS
    have gl : go2.length = q.length := by rw [← e2, List.length_map]
    have cv5 : cv h5 b = v := (g5.cv b200).trans cv4
    rw [e_50_91]
    simp (disch := first | assumption | omega) only [e_50_92, onI_s, onR_s, onL_s, gl_0, gl_n, gl_1, gl_2, gl_3, gl_4, gl_5, gl_6, gl_7, gl_8, gl_9, gl_10, gl_11, gl_12, gl_13, gl_14, gl_15, gl_16, gl_17, sk0i, sk0r, sk0n, sk1i, sk1r, sk1n, sk_2, sk_3, sk_4, sk_5, sk_6, sk_7, sk_8, sk_9, sk_10, sk_11, sk_12, sk_13, sk_14, sk_15, sk_16, sk_17, ls_0, ls_1, ls_2, ls_3, ls_4, ls_5, ls_6, ls_7, ls_8, ls_9, ls_10, ls_11, ls_12, ls_13, ls_14, ls_15, ls_16, ls_17, ct1_i, ct1_r, wd8_0, wd8_i1, wd8_r1, wd8_i2, wd8_r2, wd8_i3, wd8_r3, wd8_i4, wd8_r4, wd8_i5, wd8_r5, wd8_i6, wd8_r6, wd8_i7, wd8_r7, wd8_i8, wd8_r8, wd8_l2, wd8_l3, wd8_l4, wd8_l5, wd8_l6, wd8_l7, wd8_l8, tl_s, tl_n, inR_t, bd_t, true_and, and_true, true_or, or_true, if_true_x, if_false_x, if_pos, if_neg, Int.toNat_natCast, natL, bI_0, bI_1, bI_ft, eq_self, b_tf, b_ft, not_true_eq_false, not_false_eq_true]
    refine p_50l hp b200 hc hw ns256 lns (by omega) ft2 (fun x hx => by
      have := qm x.1 (by rw [← e2]; exact List.mem_map.mpr ⟨x, hx, rfl⟩)
      exact (g.geo.cel (by omega)).1) p5 (by rw [g5.2, n4, gl]) (rnL v) 0 v h5 _ (by simp) (by omega) z5 GV.refl cv5 SJ.refl hw (fun h6 z6 g6 cv6 sj6 w6 => ?_)
    exact hS _ rfl h6 z6 ((g04.tr g5.gz).gh.tr g6.gh) cv6 sj6 w6
end PKN
