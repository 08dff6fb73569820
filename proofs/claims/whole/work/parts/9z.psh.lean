/-! SPREAD of the class: pushApart, the call -/
def SW (X : xL) (h0 h : xH) (v w : Nat → Nat → Int) : Prop := NZ X h ∧ PF h0 h ∧ cv h 200 = w ∧ (∀ j, j ≠ 15 → j ≠ 16 → w j = v j) ∧ Gd w ∧ PTo (h.1 24) (nbT v) (nbC v) (ned w) ∧ sup w = sup v
theorem csN_bd {v : Nat → Nat → Int} {f : Nat → Int} (g : WG v) (tm : TMb f) : -200000000 ≤ csN v f ∧ csN v f ≤ 200000000 := by
  have tt := tm.tall
  have tg := tm.gam
  have t1 := tm.tgt
  have t2 := tm.prs
  have nn := nb_b g.1
  have sb := smO_bd g (t := f 4) (gm := f 0) (by omega) (by omega) (by omega)
  have ob := ovf_b g.1 (tg := f 1) (by omega) (nbC v) (nbn v) (by omega)
  have mb := mul_bd (a := f 2) (b := ovf v (f 1) (nbC v) (nbn v)) (A := 99) (B := 491520) (by omega) (by omega) (by omega) (by omega)
  unfold csN cst
  omega
section PS5
variable {X : xL} {Q : Option xV → xH → Prop} {ns nb ln : Nat} {h0 h : xH} {v : Nat → Nat → Int}
theorem PF.fz {h2 : xH} (a : PF h h2) (z : NZ X h2) : Fz X h h2 := by
  refine ⟨z, fun j q => ⟨a.1 j (by omega) (by omega) (by omega) (by omega), by rw [a.2]⟩, ?_, fun p hp => ?_⟩
  · rw [a.2]; exact ⟨rfl, rfl, rfl, rfl⟩
  · rw [a.2]; exact ⟨fun _ => rfl, fun _ _ _ _ => rfl⟩
theorem SW.nbs {w : Nat → Nat → Int} (s : SW X h0 h v w) : nbC w = nbC v ∧ nbT w = nbT v ∧ nbn w = nbn v := by
  have e := s.2.2.2.1 0 (by omega) (by omega)
  have a : nbC w = nbC v := by unfold nbC; rw [e]
  have b : nbT w = nbT v := by unfold nbT; rw [e]
  exact ⟨a, b, by unfold nbn; rw [a, b]⟩
set_option maxHeartbeats 4000000 in
theorem l_3i (hp : PL X 200) (hc : CT X ns nb ln) (os : OkS h0) (tm : TMb (h0.1 1)) (bn : BNv X h0 v (nbC v) (nbT v) nb) (en : nb = nbn v) (ps : PTo (h0.1 23) (nbT v) (nbC v) (sup v)) {N : Nat} (hN : v 11 0 = N) (n20 : N ≤ 20) {n c0 r : Int} : ∀ (m i : Nat) (h : xH) (w : Nat → Nat → Int), i + m = N → SW X h0 h v w → (∀ h2, SW X h0 h2 v (sdR (h0.1 1) m i w) → Ev X 3 28 [some (vr 26), some (vr 200), some (vi n), some (vi c0), some (vi r), some (vi N)] [] h2 Q) → Ev X 3 11 [some (vr 26), some (vr 200), some (vi n), some (vi c0), some (vi r), some (vi i)] [] h Q := by
  intro m
  induction m with
  | zero =>
    intro i h w hm s hq
    have hs : h.2 (200 + 11) 0 = N := by rw [← hN, ← s.2.2.2.1 11 (by omega) (by omega), ← s.2.2.1]; rfl
    rw [e_3_11]
    simp (disch := first | assumption | omega) only [e_3_12, e_3_13, e_3_14, e_3_15, onI_s, onR_s, onL_s, gl_0, gl_n, gl_1, gl_2, gl_3, gl_4, gl_5, gl_6, gl_7, gl_8, gl_9, gl_10, gl_11, gl_12, gl_13, gl_14, gl_15, gl_16, gl_17, sk0i, sk0r, sk0n, sk1i, sk1r, sk1n, sk_2, sk_3, sk_4, sk_5, sk_6, sk_7, sk_8, sk_9, sk_10, sk_11, sk_12, sk_13, sk_14, sk_15, sk_16, sk_17, ls_0, ls_1, ls_2, ls_3, ls_4, ls_5, ls_6, ls_7, ls_8, ls_9, ls_10, ls_11, ls_12, ls_13, ls_14, ls_15, ls_16, ls_17, ct1_i, ct1_r, wd8_0, wd8_i1, wd8_r1, wd8_i2, wd8_r2, wd8_i3, wd8_r3, wd8_i4, wd8_r4, wd8_i5, wd8_r5, wd8_i6, wd8_r6, wd8_i7, wd8_r7, wd8_i8, wd8_r8, wd8_l2, wd8_l3, wd8_l4, wd8_l5, wd8_l6, wd8_l7, wd8_l8, tl_s, tl_n, inR_t, bd_t, true_and, and_true, true_or, or_true, if_true_x, if_false_x, if_pos, if_neg, Int.toNat_natCast, natL, bI_0, bI_1, bI_ft, eq_self, b_tf, b_ft, not_true_eq_false, not_false_eq_true, hs, hp.t0, hp.t1, hp.t2, hp.t3, hp.t4, hp.t5, hp.t6, hp.t7, hp.t8, hp.t9, hp.t10, hp.t11, hp.t12, hp.t13, hp.t14, hp.t15, hp.t16, hp.t17, hp.t18, hp.t19, hp.t20, hp.t21, hp.t22, hp.t23, hp.z2, hp.z3, hp.z4, hp.z5, hp.z7, hp.z8, hp.z9, hp.z10, hp.z12, hp.z13, hp.z14, hp.z15, hp.z16, hp.z17, hp.z18, hp.z20, hp.z21, hp.z22, hp.z23, hp.r0_2, hp.r0_3, hp.r0_4, hp.r0_5, hp.r1_1, hp.r1_2, hp.r1_3, hp.r1_4, hp.r6_1, hp.r6_2, hp.r6_3, hp.r6_4, hp.r11_1, hp.r11_2, hp.r11_3, hp.r11_4, hp.r11_5, hp.r11_6, hp.r11_7, hp.r19_1, hp.r19_2, hp.r19_3, hp.r19_4]
    rw [show i = N by omega]
    exact hq h s
  | succ m ih =>
    intro i h w hm s hq
    have s0 := s
    obtain ⟨z, pf, ev, eo, g, pn, su⟩ := s
    obtain ⟨nC1, nT1, nn1⟩ := s0.nbs
    have hs : h.2 (200 + 11) 0 = N := by rw [← hN, ← eo 11 (by omega) (by omega), ← ev]; rfl
    have e14 : h.1 (200 + 14) i = w 14 i := by rw [← ev]; rfl
    rw [e_3_11]
    rw [sdR] at hq
    by_cases e : w 14 i = 0
    · rw [if_pos e] at hq
      have t1 : h.1 1 = h0.1 1 := pf.1 1 (by omega) (by omega) (by omega) (by omega)
      simp (disch := first | assumption | omega) only [e_3_12, e_3_13, e_3_14, e_3_15, e_3_16, e_3_17, e_3_18, e_3_19, e_3_20, e_3_21, e_3_22, e_3_23, e_3_24, onI_s, onR_s, onL_s, gl_0, gl_n, gl_1, gl_2, gl_3, gl_4, gl_5, gl_6, gl_7, gl_8, gl_9, gl_10, gl_11, gl_12, gl_13, gl_14, gl_15, gl_16, gl_17, sk0i, sk0r, sk0n, sk1i, sk1r, sk1n, sk_2, sk_3, sk_4, sk_5, sk_6, sk_7, sk_8, sk_9, sk_10, sk_11, sk_12, sk_13, sk_14, sk_15, sk_16, sk_17, ls_0, ls_1, ls_2, ls_3, ls_4, ls_5, ls_6, ls_7, ls_8, ls_9, ls_10, ls_11, ls_12, ls_13, ls_14, ls_15, ls_16, ls_17, ct1_i, ct1_r, wd8_0, wd8_i1, wd8_r1, wd8_i2, wd8_r2, wd8_i3, wd8_r3, wd8_i4, wd8_r4, wd8_i5, wd8_r5, wd8_i6, wd8_r6, wd8_i7, wd8_r7, wd8_i8, wd8_r8, wd8_l2, wd8_l3, wd8_l4, wd8_l5, wd8_l6, wd8_l7, wd8_l8, tl_s, tl_n, inR_t, bd_t, true_and, and_true, true_or, or_true, if_true_x, if_false_x, if_pos, if_neg, Int.toNat_natCast, natL, bI_0, bI_1, bI_ft, eq_self, b_tf, b_ft, not_true_eq_false, not_false_eq_true, hs, e14, e, hp.t0, hp.t1, hp.t2, hp.t3, hp.t4, hp.t5, hp.t6, hp.t7, hp.t8, hp.t9, hp.t10, hp.t11, hp.t12, hp.t13, hp.t14, hp.t15, hp.t16, hp.t17, hp.t18, hp.t19, hp.t20, hp.t21, hp.t22, hp.t23, hp.z2, hp.z3, hp.z4, hp.z5, hp.z7, hp.z8, hp.z9, hp.z10, hp.z12, hp.z13, hp.z14, hp.z15, hp.z16, hp.z17, hp.z18, hp.z20, hp.z21, hp.z22, hp.z23, hp.r0_2, hp.r0_3, hp.r0_4, hp.r0_5, hp.r1_1, hp.r1_2, hp.r1_3, hp.r1_4, hp.r6_1, hp.r6_2, hp.r6_3, hp.r6_4, hp.r11_1, hp.r11_2, hp.r11_3, hp.r11_4, hp.r11_5, hp.r11_6, hp.r11_7, hp.r19_1, hp.r19_2, hp.r19_3, hp.r19_4]
      (rw [e_3_25]; refine ⟨⟨hc.t26, by simp [wd_i, wd_r, wd_l, wd_0]⟩, ?_⟩)
      refine m_4 hp hc ?_ ev z g e (by rw [eo 11 (by omega) (by omega)]; omega) (by rw [t1]; exact tm) ?_ (by rw [nn1]; exact en) ?_ (by rw [nC1, nT1]; exact pn) (fun h2 s2 => ?_)
      · unfold OkS
        rw [pf.1 97 (by omega) (by omega) (by omega) (by omega), pf.1 98 (by omega) (by omega) (by omega) (by omega), pf.1 99 (by omega) (by omega) (by omega) (by omega), pf.1 100 (by omega) (by omega) (by omega) (by omega)]
        exact os
      · rw [nC1, nT1]
        unfold BNv
        rw [pf.2, eo 0 (by omega) (by omega)]
        exact bn
      · rw [nC1, nT1, su, pf.1 23 (by omega) (by omega) (by omega) (by omega)]
        exact ps
      · rw [t1] at s2
        have o2 := fun j (h1 : j ≠ 15) (h2 : j ≠ 16) => (s2.eqo h1 h2).trans (eo j h1 h2)
        have u2 : sup (sdC w (h0.1 1) i) = sup v := by
          obtain ⟨_, _, _, ⟨x, y, exy⟩, _⟩ := s2
          rw [exy, sup_mv, su]
        have p2 := s2.2.2.2.2.2
        rw [nC1, nT1] at p2
        simp (disch := first | assumption | omega) only [e_3_26, e_3_27, onI_s, onR_s, onL_s, gl_0, gl_n, gl_1, gl_2, gl_3, gl_4, gl_5, gl_6, gl_7, gl_8, gl_9, gl_10, gl_11, gl_12, gl_13, gl_14, gl_15, gl_16, gl_17, sk0i, sk0r, sk0n, sk1i, sk1r, sk1n, sk_2, sk_3, sk_4, sk_5, sk_6, sk_7, sk_8, sk_9, sk_10, sk_11, sk_12, sk_13, sk_14, sk_15, sk_16, sk_17, ls_0, ls_1, ls_2, ls_3, ls_4, ls_5, ls_6, ls_7, ls_8, ls_9, ls_10, ls_11, ls_12, ls_13, ls_14, ls_15, ls_16, ls_17, ct1_i, ct1_r, wd8_0, wd8_i1, wd8_r1, wd8_i2, wd8_r2, wd8_i3, wd8_r3, wd8_i4, wd8_r4, wd8_i5, wd8_r5, wd8_i6, wd8_r6, wd8_i7, wd8_r7, wd8_i8, wd8_r8, wd8_l2, wd8_l3, wd8_l4, wd8_l5, wd8_l6, wd8_l7, wd8_l8, tl_s, tl_n, inR_t, bd_t, true_and, and_true, true_or, or_true, if_true_x, if_false_x, if_pos, if_neg, Int.toNat_natCast, natL, bI_0, bI_1, bI_ft, eq_self, b_tf, b_ft, not_true_eq_false, not_false_eq_true, cast_s]
        exact ih (i + 1) h2 _ (by omega) ⟨s2.1, pf.tr s2.2.1, s2.2.2.1, o2, s2.2.2.2.2.1, p2, u2⟩ hq
    · rw [if_neg e] at hq
      simp (disch := first | assumption | omega) only [e_3_12, e_3_13, e_3_14, e_3_15, e_3_16, e_3_17, e_3_18, e_3_19, e_3_20, e_3_21, e_3_26, e_3_27, onI_s, onR_s, onL_s, gl_0, gl_n, gl_1, gl_2, gl_3, gl_4, gl_5, gl_6, gl_7, gl_8, gl_9, gl_10, gl_11, gl_12, gl_13, gl_14, gl_15, gl_16, gl_17, sk0i, sk0r, sk0n, sk1i, sk1r, sk1n, sk_2, sk_3, sk_4, sk_5, sk_6, sk_7, sk_8, sk_9, sk_10, sk_11, sk_12, sk_13, sk_14, sk_15, sk_16, sk_17, ls_0, ls_1, ls_2, ls_3, ls_4, ls_5, ls_6, ls_7, ls_8, ls_9, ls_10, ls_11, ls_12, ls_13, ls_14, ls_15, ls_16, ls_17, ct1_i, ct1_r, wd8_0, wd8_i1, wd8_r1, wd8_i2, wd8_r2, wd8_i3, wd8_r3, wd8_i4, wd8_r4, wd8_i5, wd8_r5, wd8_i6, wd8_r6, wd8_i7, wd8_r7, wd8_i8, wd8_r8, wd8_l2, wd8_l3, wd8_l4, wd8_l5, wd8_l6, wd8_l7, wd8_l8, tl_s, tl_n, inR_t, bd_t, true_and, and_true, true_or, or_true, if_true_x, if_false_x, if_pos, if_neg, Int.toNat_natCast, natL, bI_0, bI_1, bI_ft, eq_self, b_tf, b_ft, not_true_eq_false, not_false_eq_true, hs, e14, e, cast_s, hp.t0, hp.t1, hp.t2, hp.t3, hp.t4, hp.t5, hp.t6, hp.t7, hp.t8, hp.t9, hp.t10, hp.t11, hp.t12, hp.t13, hp.t14, hp.t15, hp.t16, hp.t17, hp.t18, hp.t19, hp.t20, hp.t21, hp.t22, hp.t23, hp.z2, hp.z3, hp.z4, hp.z5, hp.z7, hp.z8, hp.z9, hp.z10, hp.z12, hp.z13, hp.z14, hp.z15, hp.z16, hp.z17, hp.z18, hp.z20, hp.z21, hp.z22, hp.z23, hp.r0_2, hp.r0_3, hp.r0_4, hp.r0_5, hp.r1_1, hp.r1_2, hp.r1_3, hp.r1_4, hp.r6_1, hp.r6_2, hp.r6_3, hp.r6_4, hp.r11_1, hp.r11_2, hp.r11_3, hp.r11_4, hp.r11_5, hp.r11_6, hp.r11_7, hp.r19_1, hp.r19_2, hp.r19_3, hp.r19_4]
      exact ih (i + 1) h w (by omega) s0 hq
set_option maxHeartbeats 4000000 in
theorem l_3 (hp : PL X 200) (hc : CT X ns nb ln) (os : OkS h0) (tm : TMb (h0.1 1)) (bn : BNv X h0 v (nbC v) (nbT v) nb) (en : nb = nbn v) (ps : PTo (h0.1 23) (nbT v) (nbC v) (sup v)) {N n : Nat} (hN : v 11 0 = N) (n20 : N ≤ 20) (n10 : n ≤ 10) {c0 : Int} : ∀ (m r : Nat) (h : xH) (w : Nat → Nat → Int) (x5 : Option xV), r + m = n → SW X h0 h v w → (∀ h2 x5, SW X h0 h2 v (sdN (h0.1 1) N m w) → Ev X 3 30 [some (vr 26), some (vr 200), some (vi n), some (vi c0), some (vi n), x5] [] h2 Q) → Ev X 3 6 [some (vr 26), some (vr 200), some (vi n), some (vi c0), some (vi r), x5] [] h Q := by
  intro m
  induction m with
  | zero =>
    intro r h w x5 hm s hq
    rw [e_3_6]
    simp (disch := first | assumption | omega) only [e_3_7, e_3_8, onI_s, onR_s, onL_s, gl_0, gl_n, gl_1, gl_2, gl_3, gl_4, gl_5, gl_6, gl_7, gl_8, gl_9, gl_10, gl_11, gl_12, gl_13, gl_14, gl_15, gl_16, gl_17, sk0i, sk0r, sk0n, sk1i, sk1r, sk1n, sk_2, sk_3, sk_4, sk_5, sk_6, sk_7, sk_8, sk_9, sk_10, sk_11, sk_12, sk_13, sk_14, sk_15, sk_16, sk_17, ls_0, ls_1, ls_2, ls_3, ls_4, ls_5, ls_6, ls_7, ls_8, ls_9, ls_10, ls_11, ls_12, ls_13, ls_14, ls_15, ls_16, ls_17, ct1_i, ct1_r, wd8_0, wd8_i1, wd8_r1, wd8_i2, wd8_r2, wd8_i3, wd8_r3, wd8_i4, wd8_r4, wd8_i5, wd8_r5, wd8_i6, wd8_r6, wd8_i7, wd8_r7, wd8_i8, wd8_r8, wd8_l2, wd8_l3, wd8_l4, wd8_l5, wd8_l6, wd8_l7, wd8_l8, tl_s, tl_n, inR_t, bd_t, true_and, and_true, true_or, or_true, if_true_x, if_false_x, if_pos, if_neg, Int.toNat_natCast, natL, bI_0, bI_1, bI_ft, eq_self, b_tf, b_ft, not_true_eq_false, not_false_eq_true]
    rw [show r = n by omega]
    exact hq h x5 s
  | succ m ih =>
    intro r h w x5 hm s hq
    rw [e_3_6]
    rw [sdN] at hq
    simp (disch := first | assumption | omega) only [e_3_7, e_3_8, e_3_9, e_3_10, onI_s, onR_s, onL_s, gl_0, gl_n, gl_1, gl_2, gl_3, gl_4, gl_5, gl_6, gl_7, gl_8, gl_9, gl_10, gl_11, gl_12, gl_13, gl_14, gl_15, gl_16, gl_17, sk0i, sk0r, sk0n, sk1i, sk1r, sk1n, sk_2, sk_3, sk_4, sk_5, sk_6, sk_7, sk_8, sk_9, sk_10, sk_11, sk_12, sk_13, sk_14, sk_15, sk_16, sk_17, ls_0, ls_1, ls_2, ls_3, ls_4, ls_5, ls_6, ls_7, ls_8, ls_9, ls_10, ls_11, ls_12, ls_13, ls_14, ls_15, ls_16, ls_17, ct1_i, ct1_r, wd8_0, wd8_i1, wd8_r1, wd8_i2, wd8_r2, wd8_i3, wd8_r3, wd8_i4, wd8_r4, wd8_i5, wd8_r5, wd8_i6, wd8_r6, wd8_i7, wd8_r7, wd8_i8, wd8_r8, wd8_l2, wd8_l3, wd8_l4, wd8_l5, wd8_l6, wd8_l7, wd8_l8, tl_s, tl_n, inR_t, bd_t, true_and, and_true, true_or, or_true, if_true_x, if_false_x, if_pos, if_neg, Int.toNat_natCast, natL, bI_0, bI_1, bI_ft, eq_self, b_tf, b_ft, not_true_eq_false, not_false_eq_true]
    refine l_3i hp hc os tm bn en ps hN n20 N 0 h w (by omega) s (fun h2 s2 => ?_)
    rw [e_3_28]
    simp (disch := first | assumption | omega) only [e_3_29, onI_s, onR_s, onL_s, gl_0, gl_n, gl_1, gl_2, gl_3, gl_4, gl_5, gl_6, gl_7, gl_8, gl_9, gl_10, gl_11, gl_12, gl_13, gl_14, gl_15, gl_16, gl_17, sk0i, sk0r, sk0n, sk1i, sk1r, sk1n, sk_2, sk_3, sk_4, sk_5, sk_6, sk_7, sk_8, sk_9, sk_10, sk_11, sk_12, sk_13, sk_14, sk_15, sk_16, sk_17, ls_0, ls_1, ls_2, ls_3, ls_4, ls_5, ls_6, ls_7, ls_8, ls_9, ls_10, ls_11, ls_12, ls_13, ls_14, ls_15, ls_16, ls_17, ct1_i, ct1_r, wd8_0, wd8_i1, wd8_r1, wd8_i2, wd8_r2, wd8_i3, wd8_r3, wd8_i4, wd8_r4, wd8_i5, wd8_r5, wd8_i6, wd8_r6, wd8_i7, wd8_r7, wd8_i8, wd8_r8, wd8_l2, wd8_l3, wd8_l4, wd8_l5, wd8_l6, wd8_l7, wd8_l8, tl_s, tl_n, inR_t, bd_t, true_and, and_true, true_or, or_true, if_true_x, if_false_x, if_pos, if_neg, Int.toNat_natCast, natL, bI_0, bI_1, bI_ft, eq_self, b_tf, b_ft, not_true_eq_false, not_false_eq_true, cast_s]
    exact ih (r + 1) h2 _ _ (by omega) s2 hq
end PS5
