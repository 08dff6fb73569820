def BNv (X : xL) (h : xH) (v : Nat → Nat → Int) (C T nb : Nat) : Prop := (h.2 22 1 = C ∧ h.2 22 0 = nb ∧ nb = T * C) ∧ ((C : Int) = (v 0 1 + 7) / 8 ∧ (T : Int) = (v 0 0 + 1) / 2)
theorem PTo.lin {O : Nat → Int} {T C : Nat} {A : Nat → Nat → Int} (p : PTo O T C A) {b : Nat} (hb : b < T * C) : O b = A (b / C) (b % C) := by
  have hC : 0 < C := by
    rcases Nat.eq_zero_or_pos C with e | e
    · rw [e, Nat.mul_zero] at hb; omega
    · exact e
  have h1 : b / C < T := Nat.div_lt_of_lt_mul (by rw [Nat.mul_comm]; exact hb)
  have := p (b / C) (b % C) h1 (Nat.mod_lt b hC)
  rw [Nat.div_add_mod'] at this
  exact this
section NE2
variable {X : xL} {Q : Option xV → xH → Prop} {ns nb ln : Nat}
theorem BNv.mk2 {h : xH} {v : Nat → Nat → Int} (ok : Ok X h) (ev : cv h 200 = v) (w : RGv v) (hnb : (nb : Int) = h.2 22 0) : ∃ C T : Nat, BNv X h v C T nb ∧ C ≤ 4 ∧ T ≤ 4 ∧ 1 ≤ C ∧ 1 ≤ T := by
  have ws := w.sites
  have wr := w.rows
  obtain ⟨_, _, ⟨_, _, _, bn, _⟩, _⟩ := ok
  have e1 : h.2 200 1 = v 0 1 := by rw [← ev]; rfl
  have e0 : h.2 200 0 = v 0 0 := by rw [← ev]; rfl
  rw [e1, e0, td_n (by omega), td_n (by omega)] at bn
  refine ⟨((v 0 1 + 7) / 8).toNat, ((v 0 0 + 1) / 2).toNat, ⟨⟨?_, hnb.symm, ?_⟩, by omega, by omega⟩, by omega, by omega, by omega, by omega⟩
  · rw [bn.1]; omega
  · have : (nb : Int) = ((((v 0 0 + 1) / 2).toNat * ((v 0 1 + 7) / 8).toNat : Nat) : Int) := by
      rw [Int.natCast_mul, hnb, bn.2, Int.mul_comm]
      rw [show ((((v 0 0 + 1) / 2).toNat : Nat) : Int) = (v 0 0 + 1) / 2 by omega, show ((((v 0 1 + 7) / 8).toNat : Nat) : Int) = (v 0 1 + 7) / 8 by omega]
    omega
set_option maxHeartbeats 8000000 in
theorem m_8 {h : xH} (hp : PL X 200) (hc : CT X ns nb ln) {C T c : Nat} {sg : Int} {A : Nat → Nat → Int} (z : NZ X h) (w : RGv (cv h 200)) (cw : 1 ≤ cv h 200 12 c ∧ cv h 200 15 c ≤ 16 * (cv h 200 0 1 - cv h 200 12 c) ∧ cv h 200 16 c ≤ 16 * (cv h 200 0 0 - 1)) (bn : BNv X h (cv h 200) C T nb) (C4 : C ≤ 4) (T4 : T ≤ 4) (hcc : c < 20) (s1 : sg = 1 ∨ sg = -1) (pt : PTo (h.1 24) T C A) (ab : ∀ br bc, -1000000 ≤ A br bc ∧ A br bc ≤ 1000000) (hq : ∀ h2, NZ X h2 → G1 24 h h2 → PTo (h2.1 24) T C (fun br bc => A br bc + sg * ndC (cv h 200) c br bc) → Q none h2) : Cl X 8 [vr 22, vr (200 + 11), vi c, vi sg] h Q := by
  have wx := w.wx c
  have wy := w.wy c
  have wc := w.wid c
  have ws := w.sites
  have wr := w.rows
  obtain ⟨⟨b1, b2, b3⟩, b4, b5⟩ := bn
  have e15 : h.1 (200 + 15) c = cv h 200 15 c := rfl
  have e16 : h.1 (200 + 16) c = cv h 200 16 c := rfl
  have e12 : h.1 (200 + 12) c = cv h 200 12 c := rfl
  have ty : (cv h 200 16 c).tdiv 32 = (((cv h 200 16 c) / 32).toNat : Int) := by rw [td_n (by omega)]; omega
  rw [c_8]
  simp (disch := first | assumption | omega) only [e_8_0, e_8_1, e_8_2, e_8_3, e_8_4, e_8_5, e_8_6, e_8_7, e_8_8, e_8_9, e_8_10, e_8_11, e_8_12, e_8_13, e_8_14, e_8_15, e_8_16, e_8_17, e_8_18, e_8_19, e_8_20, e_8_21, e_8_22, e_8_23, e_8_24, e_8_25, e_8_26, onI_s, onR_s, onL_s, gl_0, gl_n, gl_1, gl_2, gl_3, gl_4, gl_5, gl_6, gl_7, gl_8, gl_9, gl_10, gl_11, gl_12, gl_13, gl_14, gl_15, gl_16, gl_17, sk0i, sk0r, sk0n, sk1i, sk1r, sk1n, sk_2, sk_3, sk_4, sk_5, sk_6, sk_7, sk_8, sk_9, sk_10, sk_11, sk_12, sk_13, sk_14, sk_15, sk_16, sk_17, ls_0, ls_1, ls_2, ls_3, ls_4, ls_5, ls_6, ls_7, ls_8, ls_9, ls_10, ls_11, ls_12, ls_13, ls_14, ls_15, ls_16, ls_17, ct1_i, ct1_r, wd8_0, wd8_i1, wd8_r1, wd8_i2, wd8_r2, wd8_i3, wd8_r3, wd8_i4, wd8_r4, wd8_i5, wd8_r5, wd8_i6, wd8_r6, wd8_i7, wd8_r7, wd8_i8, wd8_r8, wd8_l2, wd8_l3, wd8_l4, wd8_l5, wd8_l6, wd8_l7, wd8_l8, tl_s, tl_n, inR_t, bd_t, true_and, and_true, true_or, or_true, if_true_x, if_false_x, if_pos, if_neg, Int.toNat_natCast, natL, bI_0, bI_1, bI_ft, eq_self, b_tf, b_ft, not_true_eq_false, not_false_eq_true, e15, e16, e12, dv_t, dvR, nz_32, ty, hp.t0, hp.t1, hp.t2, hp.t3, hp.t4, hp.t5, hp.t6, hp.t7, hp.t8, hp.t9, hp.t10, hp.t11, hp.t12, hp.t13, hp.t14, hp.t15, hp.t16, hp.t17, hp.t18, hp.t19, hp.t20, hp.t21, hp.t22, hp.t23, hp.z2, hp.z3, hp.z4, hp.z5, hp.z7, hp.z8, hp.z9, hp.z10, hp.z12, hp.z13, hp.z14, hp.z15, hp.z16, hp.z17, hp.z18, hp.z20, hp.z21, hp.z22, hp.z23, hp.r0_2, hp.r0_3, hp.r0_4, hp.r0_5, hp.r1_1, hp.r1_2, hp.r1_3, hp.r1_4, hp.r6_1, hp.r6_2, hp.r6_3, hp.r6_4, hp.r11_1, hp.r11_2, hp.r11_3, hp.r11_4, hp.r11_5, hp.r11_6, hp.r11_7, hp.r19_1, hp.r19_2, hp.r19_3, hp.r19_4]
  refine l_8 hc (C := C) (T := T) (c0 := ((cv h 200 15 c) / 128).toNat) (c1 := ((cv h 200 15 c + 16 * cv h 200 12 c - 1) / 128).toNat) (t1 := ((cv h 200 16 c + 15) / 32).toNat) (x := cv h 200 15 c) (y := cv h 200 16 c) (ex := cv h 200 15 c + 16 * cv h 200 12 c) b3 C4 T4 (by omega) (by omega) (by omega) (by omega) (by omega) (by omega) (by omega) (by omega) (by omega) (by omega) s1 (200 + 11) c (((cv h 200 16 c + 15) / 32).toNat + 1 - ((cv h 200 16 c) / 32).toNat) ((cv h 200 16 c) / 32).toNat h A none none none z b1 pt (fun br bc _ => ab br bc) (by omega) (by omega) (fun h2 z2 g2 p2 => hq h2 z2 g2 (p2.cg (fun br bc h1 h2 => ?_)))
  unfold ndC
  rw [show cv h 200 15 c + 16 * cv h 200 12 c - cv h 200 15 c = 16 * cv h 200 12 c by omega]
  by_cases e : ((cv h 200 16 c) / 32).toNat ≤ br
  · rw [if_pos e, Int.mul_assoc]
  · rw [if_neg e, show com (cv h 200 16 c) 16 (32 * (br : Int)) 32 = 0 by unfold com; omega]
    simp
theorem ndS_bd {v : Nat → Nat → Int} (w : RGv v) (br bc m i : Nat) : 0 ≤ ndS v br bc m i ∧ ndS v br bc m i ≤ m * 1536 := by
  unfold ndS
  refine sumF_bd (by decide) m i (fun j _ _ => ?_)
  have := ndC_bd w j br bc
  split <;> omega
set_option maxHeartbeats 8000000 in
theorem l_7 (hp : PL X 200) (hc : CT X ns nb ln) {C T N : Nat} {v : Nat → Nat → Int} (g : GEO v) (w : RGv v) (C4 : C ≤ 4) (T4 : T ≤ 4) (hN : v 11 0 = N) : ∀ (m i : Nat) (h : xH), NZ X h → cv h 200 = v → BNv X h v C T nb → PTo (h.1 24) T C (fun br bc => ndS v br bc i 0) → i + m = N → (∀ h2, NZ X h2 → G1 24 h h2 → PTo (h2.1 24) T C (ned v) → Q none h2) → Ev X 7 5 [some (vr 22), some (vr (200 + 11)), some (vi i)] [] h Q := by
  have nC := w.nC
  intro m
  induction m with
  | zero =>
    intro i h z ev bn pt hm hq
    have hs : h.2 (200 + 11) 0 = N := by rw [← hN, ← ev]; rfl
    rw [e_7_5]
    simp (disch := first | assumption | omega) only [e_7_6, e_7_7, e_7_8, e_7_21, onI_s, onR_s, onL_s, gl_0, gl_n, gl_1, gl_2, gl_3, gl_4, gl_5, gl_6, gl_7, gl_8, gl_9, gl_10, gl_11, gl_12, gl_13, gl_14, gl_15, gl_16, gl_17, sk0i, sk0r, sk0n, sk1i, sk1r, sk1n, sk_2, sk_3, sk_4, sk_5, sk_6, sk_7, sk_8, sk_9, sk_10, sk_11, sk_12, sk_13, sk_14, sk_15, sk_16, sk_17, ls_0, ls_1, ls_2, ls_3, ls_4, ls_5, ls_6, ls_7, ls_8, ls_9, ls_10, ls_11, ls_12, ls_13, ls_14, ls_15, ls_16, ls_17, ct1_i, ct1_r, wd8_0, wd8_i1, wd8_r1, wd8_i2, wd8_r2, wd8_i3, wd8_r3, wd8_i4, wd8_r4, wd8_i5, wd8_r5, wd8_i6, wd8_r6, wd8_i7, wd8_r7, wd8_i8, wd8_r8, wd8_l2, wd8_l3, wd8_l4, wd8_l5, wd8_l6, wd8_l7, wd8_l8, tl_s, tl_n, inR_t, bd_t, true_and, and_true, true_or, or_true, if_true_x, if_false_x, if_pos, if_neg, Int.toNat_natCast, natL, bI_0, bI_1, bI_ft, eq_self, b_tf, b_ft, not_true_eq_false, not_false_eq_true, hs, hp.t0, hp.t1, hp.t2, hp.t3, hp.t4, hp.t5, hp.t6, hp.t7, hp.t8, hp.t9, hp.t10, hp.t11, hp.t12, hp.t13, hp.t14, hp.t15, hp.t16, hp.t17, hp.t18, hp.t19, hp.t20, hp.t21, hp.t22, hp.t23, hp.z2, hp.z3, hp.z4, hp.z5, hp.z7, hp.z8, hp.z9, hp.z10, hp.z12, hp.z13, hp.z14, hp.z15, hp.z16, hp.z17, hp.z18, hp.z20, hp.z21, hp.z22, hp.z23, hp.r0_2, hp.r0_3, hp.r0_4, hp.r0_5, hp.r1_1, hp.r1_2, hp.r1_3, hp.r1_4, hp.r6_1, hp.r6_2, hp.r6_3, hp.r6_4, hp.r11_1, hp.r11_2, hp.r11_3, hp.r11_4, hp.r11_5, hp.r11_6, hp.r11_7, hp.r19_1, hp.r19_2, hp.r19_3, hp.r19_4]
    refine hq h z G1.refl (pt.cg (fun br bc _ _ => ?_))
    unfold ned
    rw [hN, Int.toNat_natCast, show i = N by omega]
  | succ m ih =>
    intro i h z ev bn pt hm hq
    have hs : h.2 (200 + 11) 0 = N := by rw [← hN, ← ev]; rfl
    have e14 : h.1 (200 + 14) i = v 14 i := by rw [← ev]; rfl
    have cl := g.cel (c := i) (by omega)
    rw [e_7_5]
    by_cases e : v 14 i = 0
    · simp (disch := first | assumption | omega) only [e_7_6, e_7_7, e_7_8, e_7_9, e_7_10, e_7_11, e_7_12, e_7_13, e_7_14, e_7_15, e_7_16, e_7_17, onI_s, onR_s, onL_s, gl_0, gl_n, gl_1, gl_2, gl_3, gl_4, gl_5, gl_6, gl_7, gl_8, gl_9, gl_10, gl_11, gl_12, gl_13, gl_14, gl_15, gl_16, gl_17, sk0i, sk0r, sk0n, sk1i, sk1r, sk1n, sk_2, sk_3, sk_4, sk_5, sk_6, sk_7, sk_8, sk_9, sk_10, sk_11, sk_12, sk_13, sk_14, sk_15, sk_16, sk_17, ls_0, ls_1, ls_2, ls_3, ls_4, ls_5, ls_6, ls_7, ls_8, ls_9, ls_10, ls_11, ls_12, ls_13, ls_14, ls_15, ls_16, ls_17, ct1_i, ct1_r, wd8_0, wd8_i1, wd8_r1, wd8_i2, wd8_r2, wd8_i3, wd8_r3, wd8_i4, wd8_r4, wd8_i5, wd8_r5, wd8_i6, wd8_r6, wd8_i7, wd8_r7, wd8_i8, wd8_r8, wd8_l2, wd8_l3, wd8_l4, wd8_l5, wd8_l6, wd8_l7, wd8_l8, tl_s, tl_n, inR_t, bd_t, true_and, and_true, true_or, or_true, if_true_x, if_false_x, if_pos, if_neg, Int.toNat_natCast, natL, bI_0, bI_1, bI_ft, eq_self, b_tf, b_ft, not_true_eq_false, not_false_eq_true, hs, e14, e, hp.t0, hp.t1, hp.t2, hp.t3, hp.t4, hp.t5, hp.t6, hp.t7, hp.t8, hp.t9, hp.t10, hp.t11, hp.t12, hp.t13, hp.t14, hp.t15, hp.t16, hp.t17, hp.t18, hp.t19, hp.t20, hp.t21, hp.t22, hp.t23, hp.z2, hp.z3, hp.z4, hp.z5, hp.z7, hp.z8, hp.z9, hp.z10, hp.z12, hp.z13, hp.z14, hp.z15, hp.z16, hp.z17, hp.z18, hp.z20, hp.z21, hp.z22, hp.z23, hp.r0_2, hp.r0_3, hp.r0_4, hp.r0_5, hp.r1_1, hp.r1_2, hp.r1_3, hp.r1_4, hp.r6_1, hp.r6_2, hp.r6_3, hp.r6_4, hp.r11_1, hp.r11_2, hp.r11_3, hp.r11_4, hp.r11_5, hp.r11_6, hp.r11_7, hp.r19_1, hp.r19_2, hp.r19_3, hp.r19_4]
      (rw [e_7_18]; refine ⟨⟨hc.t22, by decide⟩, ?_⟩)
      refine m_8 hp hc (c := i) z (by rw [ev]; exact w) (by rw [ev]; exact ⟨cl.1, cl.2.2.1, cl.2.2.2⟩) (by rw [ev]; exact bn) C4 T4 (by omega) (Or.inl rfl) pt (fun br bc => by have := ndS_bd w br bc i 0; omega) (fun h2 z2 g2 p2 => ?_)
      rw [ev] at p2
      simp (disch := first | assumption | omega) only [e_7_19, e_7_20, onI_s, onR_s, onL_s, gl_0, gl_n, gl_1, gl_2, gl_3, gl_4, gl_5, gl_6, gl_7, gl_8, gl_9, gl_10, gl_11, gl_12, gl_13, gl_14, gl_15, gl_16, gl_17, sk0i, sk0r, sk0n, sk1i, sk1r, sk1n, sk_2, sk_3, sk_4, sk_5, sk_6, sk_7, sk_8, sk_9, sk_10, sk_11, sk_12, sk_13, sk_14, sk_15, sk_16, sk_17, ls_0, ls_1, ls_2, ls_3, ls_4, ls_5, ls_6, ls_7, ls_8, ls_9, ls_10, ls_11, ls_12, ls_13, ls_14, ls_15, ls_16, ls_17, ct1_i, ct1_r, wd8_0, wd8_i1, wd8_r1, wd8_i2, wd8_r2, wd8_i3, wd8_r3, wd8_i4, wd8_r4, wd8_i5, wd8_r5, wd8_i6, wd8_r6, wd8_i7, wd8_r7, wd8_i8, wd8_r8, wd8_l2, wd8_l3, wd8_l4, wd8_l5, wd8_l6, wd8_l7, wd8_l8, tl_s, tl_n, inR_t, bd_t, true_and, and_true, true_or, or_true, if_true_x, if_false_x, if_pos, if_neg, Int.toNat_natCast, natL, bI_0, bI_1, bI_ft, eq_self, b_tf, b_ft, not_true_eq_false, not_false_eq_true, cast_s]
      refine ih (i + 1) h2 z2 ((g2.cv (by omega) (by omega)).trans ev) (by unfold BNv; rw [g2.2]; exact bn) (p2.cg (fun br bc _ _ => ?_)) (by omega) (fun h3 z3 g3 p3 => hq h3 z3 (g2.tr g3) p3)
      unfold ndS
      rw [sumF_sn, Nat.zero_add, if_pos e, Int.one_mul]
    · simp (disch := first | assumption | omega) only [e_7_6, e_7_7, e_7_8, e_7_9, e_7_10, e_7_11, e_7_12, e_7_13, e_7_19, e_7_20, onI_s, onR_s, onL_s, gl_0, gl_n, gl_1, gl_2, gl_3, gl_4, gl_5, gl_6, gl_7, gl_8, gl_9, gl_10, gl_11, gl_12, gl_13, gl_14, gl_15, gl_16, gl_17, sk0i, sk0r, sk0n, sk1i, sk1r, sk1n, sk_2, sk_3, sk_4, sk_5, sk_6, sk_7, sk_8, sk_9, sk_10, sk_11, sk_12, sk_13, sk_14, sk_15, sk_16, sk_17, ls_0, ls_1, ls_2, ls_3, ls_4, ls_5, ls_6, ls_7, ls_8, ls_9, ls_10, ls_11, ls_12, ls_13, ls_14, ls_15, ls_16, ls_17, ct1_i, ct1_r, wd8_0, wd8_i1, wd8_r1, wd8_i2, wd8_r2, wd8_i3, wd8_r3, wd8_i4, wd8_r4, wd8_i5, wd8_r5, wd8_i6, wd8_r6, wd8_i7, wd8_r7, wd8_i8, wd8_r8, wd8_l2, wd8_l3, wd8_l4, wd8_l5, wd8_l6, wd8_l7, wd8_l8, tl_s, tl_n, inR_t, bd_t, true_and, and_true, true_or, or_true, if_true_x, if_false_x, if_pos, if_neg, Int.toNat_natCast, natL, bI_0, bI_1, bI_ft, eq_self, b_tf, b_ft, not_true_eq_false, not_false_eq_true, hs, e14, e, cast_s, hp.t0, hp.t1, hp.t2, hp.t3, hp.t4, hp.t5, hp.t6, hp.t7, hp.t8, hp.t9, hp.t10, hp.t11, hp.t12, hp.t13, hp.t14, hp.t15, hp.t16, hp.t17, hp.t18, hp.t19, hp.t20, hp.t21, hp.t22, hp.t23, hp.z2, hp.z3, hp.z4, hp.z5, hp.z7, hp.z8, hp.z9, hp.z10, hp.z12, hp.z13, hp.z14, hp.z15, hp.z16, hp.z17, hp.z18, hp.z20, hp.z21, hp.z22, hp.z23, hp.r0_2, hp.r0_3, hp.r0_4, hp.r0_5, hp.r1_1, hp.r1_2, hp.r1_3, hp.r1_4, hp.r6_1, hp.r6_2, hp.r6_3, hp.r6_4, hp.r11_1, hp.r11_2, hp.r11_3, hp.r11_4, hp.r11_5, hp.r11_6, hp.r11_7, hp.r19_1, hp.r19_2, hp.r19_3, hp.r19_4]
      refine ih (i + 1) h z ev bn (pt.cg (fun br bc _ _ => ?_)) (by omega) hq
      unfold ndS
      rw [sumF_sn, Nat.zero_add, if_neg e, Int.add_zero]
set_option maxHeartbeats 8000000 in
theorem m_7 {h : xH} (hp : PL X 200) (hc : CT X ns nb ln) {C T : Nat} (z : NZ X h) (g : GEO (cv h 200)) (w : RGv (cv h 200)) (bn : BNv X h (cv h 200) C T nb) (C4 : C ≤ 4) (T4 : T ≤ 4) (hq : ∀ h2, NZ X h2 → G1 24 h h2 → PTo (h2.1 24) T C (ned (cv h 200)) → Q none h2) : Cl X 7 [vr 22, vr (200 + 11)] h Q := by
  have nC := w.nC
  have nb16 : nb ≤ 300 := by
    rw [bn.1.2.2]
    have := Nat.mul_le_mul T4 C4
    omega
  rw [c_7]
  simp (disch := first | assumption | omega) only [e_7_0, e_7_1, onI_s, onR_s, onL_s, gl_0, gl_n, gl_1, gl_2, gl_3, gl_4, gl_5, gl_6, gl_7, gl_8, gl_9, gl_10, gl_11, gl_12, gl_13, gl_14, gl_15, gl_16, gl_17, sk0i, sk0r, sk0n, sk1i, sk1r, sk1n, sk_2, sk_3, sk_4, sk_5, sk_6, sk_7, sk_8, sk_9, sk_10, sk_11, sk_12, sk_13, sk_14, sk_15, sk_16, sk_17, ls_0, ls_1, ls_2, ls_3, ls_4, ls_5, ls_6, ls_7, ls_8, ls_9, ls_10, ls_11, ls_12, ls_13, ls_14, ls_15, ls_16, ls_17, ct1_i, ct1_r, wd8_0, wd8_i1, wd8_r1, wd8_i2, wd8_r2, wd8_i3, wd8_r3, wd8_i4, wd8_r4, wd8_i5, wd8_r5, wd8_i6, wd8_r6, wd8_i7, wd8_r7, wd8_i8, wd8_r8, wd8_l2, wd8_l3, wd8_l4, wd8_l5, wd8_l6, wd8_l7, wd8_l8, tl_s, tl_n, inR_t, bd_t, true_and, and_true, true_or, or_true, if_true_x, if_false_x, if_pos, if_neg, Int.toNat_natCast, natL, bI_0, bI_1, bI_ft, eq_self, b_tf, b_ft, not_true_eq_false, not_false_eq_true, hc.t22, hc.r22_2, hc.r22_3, hc.r22_4, hc.r22_5]
  (rw [e_7_2]; refine ⟨by decide, ?_⟩)
  rw [m_5 z hc.t24 hc.z24 nb16]
  simp (disch := first | assumption | omega) only [e_7_3, e_7_4, onI_s, onR_s, onL_s, gl_0, gl_n, gl_1, gl_2, gl_3, gl_4, gl_5, gl_6, gl_7, gl_8, gl_9, gl_10, gl_11, gl_12, gl_13, gl_14, gl_15, gl_16, gl_17, sk0i, sk0r, sk0n, sk1i, sk1r, sk1n, sk_2, sk_3, sk_4, sk_5, sk_6, sk_7, sk_8, sk_9, sk_10, sk_11, sk_12, sk_13, sk_14, sk_15, sk_16, sk_17, ls_0, ls_1, ls_2, ls_3, ls_4, ls_5, ls_6, ls_7, ls_8, ls_9, ls_10, ls_11, ls_12, ls_13, ls_14, ls_15, ls_16, ls_17, ct1_i, ct1_r, wd8_0, wd8_i1, wd8_r1, wd8_i2, wd8_r2, wd8_i3, wd8_r3, wd8_i4, wd8_r4, wd8_i5, wd8_r5, wd8_i6, wd8_r6, wd8_i7, wd8_r7, wd8_i8, wd8_r8, wd8_l2, wd8_l3, wd8_l4, wd8_l5, wd8_l6, wd8_l7, wd8_l8, tl_s, tl_n, inR_t, bd_t, true_and, and_true, true_or, or_true, if_true_x, if_false_x, if_pos, if_neg, Int.toNat_natCast, natL, bI_0, bI_1, bI_ft, eq_self, b_tf, b_ft, not_true_eq_false, not_false_eq_true]
  have g2 : G1 24 h (up1 h.1 24 (fun _ => 0), h.2) := ⟨fun a q => up1_o q, rfl⟩
  refine l_7 hp hc (v := cv h 200) (N := (cv h 200 11 0).toNat) g w C4 T4 (by omega) (cv h 200 11 0).toNat 0 _ (NZ.cg (I := h.1) (F := h.2) z (fun _ _ => rfl)) (g2.cv (by omega) (by omega)) bn (fun br bc _ _ => ?_) (by omega) (fun h3 z3 g3 p3 => hq h3 z3 (g2.tr g3) p3)
  dsimp only
  rw [up1_self]
  rfl
end NE2
