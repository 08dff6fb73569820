/-! SPREAD of the class: the steps of a cell -/
theorem hdX_mv {v : Nat → Nat → Int} {c d : Nat} {x y q : Int} : hdX (mvV v c x y) d q = hdX v d q := by
  unfold hdX
  rw [mvV_o (j := 0) (by omega) (by omega), mvV_o (j := 12) (by omega) (by omega), mvV_o (j := 13) (by omega) (by omega), mvV_o (j := 9) (by omega) (by omega), mvV_o (j := 10) (by omega) (by omega)]
theorem hdY_mv {v : Nat → Nat → Int} {c d : Nat} {x y q : Int} : hdY (mvV v c x y) d q = hdY v d q := by
  unfold hdY
  rw [mvV_o (j := 0) (by omega) (by omega), mvV_o (j := 13) (by omega) (by omega), mvV_o (j := 7) (by omega) (by omega), mvV_o (j := 8) (by omega) (by omega)]
theorem hdY_15 {v : Nat → Nat → Int} {c d : Nat} {x q : Int} : hdY (up2 v 15 c x) d q = hdY v d q := by
  unfold hdY
  rw [up2_of (show 0 ≠ 15 by omega), up2_of (show 13 ≠ 15 by omega), up2_of (show 7 ≠ 15 by omega), up2_of (show 8 ≠ 15 by omega)]
theorem mvV_mv {v : Nat → Nat → Int} {c : Nat} {x y p q : Int} : mvV (mvV v c x y) c p q = mvV v c p q := by
  funext j i
  unfold mvV
  by_cases e1 : j = 16
  · subst e1
    rw [up2_same, up2_same]
    by_cases e : i = c
    · rw [if_pos e, if_pos e]
    · rw [if_neg e, if_neg e, up2_of (by omega), up2_same, if_neg e, up2_of (by omega), up2_of (by omega)]
  · rw [up2_of e1, up2_of e1]
    by_cases e2 : j = 15
    · subst e2
      rw [up2_same, up2_same]
      by_cases e : i = c
      · rw [if_pos e, if_pos e]
      · rw [if_neg e, if_neg e, up2_of (by omega), up2_same, if_neg e]
    · rw [up2_of e2, up2_of e2, up2_of e1, up2_of e2]
theorem mvV_id {v : Nat → Nat → Int} {c : Nat} : mvV v c (v 15 c) (v 16 c) = v := by
  funext j i
  by_cases e1 : j = 16
  · subst e1
    by_cases e : i = c
    · subst e; unfold mvV; rw [up2_same, if_pos rfl]
    · rw [mvV_16 e]
  · by_cases e2 : j = 15
    · subst e2
      by_cases e : i = c
      · subst e; unfold mvV; rw [up2_of (by omega), up2_same, if_pos rfl]
      · rw [mvV_15 e]
    · rw [mvV_o e2 e1]
theorem tr_bd {k : Nat} {f : Int} (h0 : 0 ≤ f) (h1 : f ≤ 64) : (-64 ≤ trX k * f ∧ trX k * f ≤ 64) ∧ (-64 ≤ trY k * f ∧ trY k * f ≤ 64) := by
  unfold trX trY
  refine ⟨?_, ?_⟩ <;> (repeat' split) <;> omega
section PS2
variable {X : xL} {Q : Option xV → xH → Prop} {ns nb ln : Nat} {h : xH}
set_option maxHeartbeats 8000000 in
theorem b_4 (hp : PL X 200) (hc : CT X ns nb ln) (os : OkS h) {w : Nat → Nat → Int} {c k : Nat} {x y bx bY best : Int} {x10 : Option xV} (ev : cv h 200 = w) (z : NZ X h) (g : RGv w) (cw : cW w c) (tm : TMb (h.1 1)) (bn : BNv X h w (nbC w) (nbT w) nb) (hcc : c < 20) (pt : PTo (h.1 24) (nbT w) (nbC w) (ned w)) (k1 : 1 ≤ k) (k4 : k ≤ 4) (x0 : 0 ≤ x ∧ x ≤ 1000) (y0 : 0 ≤ y ∧ y ≤ 1000)
    (hq : ∀ h2, NZ X h2 → PF h h2 → cv h2 200 = mvV w c (hdX w c (x + trX k * h.1 1 3)) (hdY w c (y + trY k * h.1 1 3)) → PTo (h2.1 24) (nbT w) (nbC w) (fun br bc => ned w br bc - ndC w c br bc) → Ev X 4 66 [some (vr 26), some (vr 200), some (vi c), some (vr (200 + 11)), some (vi x), some (vi y), some (vi bx), some (vi bY), some (vi best), some (vi k), x10] [] h2 Q) : Ev X 4 21 [some (vr 26), some (vr 200), some (vi c), some (vr (200 + 11)), some (vi x), some (vi y), some (vi bx), some (vi bY), some (vi best), some (vi k), x10] [] h Q := by
  have nn := nb_b g
  have t3 : 1 ≤ h.1 1 3 ∧ h.1 1 3 ≤ 64 := tm 3 (by decide)
  have tb := tr_bd (k := k) (f := h.1 1 3) (by omega) (by omega)
  have s3 : X.2.2.2 3 = 99 := hc.2.2.2.2.2 3 (by decide)
  have s4 : X.2.2.2 4 = 100 := hc.2.2.2.2.2 4 (by decide)
  have hx := hdX_bd (c := c) g (x + trX k * h.1 1 3)
  have hy := hdY_bd (c := c) g (y + trY k * h.1 1 3)
  rw [e_4_21]
  simp (disch := first | assumption | omega) only [e_4_22, e_4_23, e_4_24, e_4_25, e_4_26, e_4_27, e_4_28, onI_s, onR_s, onL_s, gl_0, gl_n, gl_1, gl_2, gl_3, gl_4, gl_5, gl_6, gl_7, gl_8, gl_9, gl_10, gl_11, gl_12, gl_13, gl_14, gl_15, gl_16, gl_17, sk0i, sk0r, sk0n, sk1i, sk1r, sk1n, sk_2, sk_3, sk_4, sk_5, sk_6, sk_7, sk_8, sk_9, sk_10, sk_11, sk_12, sk_13, sk_14, sk_15, sk_16, sk_17, ls_0, ls_1, ls_2, ls_3, ls_4, ls_5, ls_6, ls_7, ls_8, ls_9, ls_10, ls_11, ls_12, ls_13, ls_14, ls_15, ls_16, ls_17, ct1_i, ct1_r, wd8_0, wd8_i1, wd8_r1, wd8_i2, wd8_r2, wd8_i3, wd8_r3, wd8_i4, wd8_r4, wd8_i5, wd8_r5, wd8_i6, wd8_r6, wd8_i7, wd8_r7, wd8_i8, wd8_r8, wd8_l2, wd8_l3, wd8_l4, wd8_l5, wd8_l6, wd8_l7, wd8_l8, tl_s, tl_n, inR_t, bd_t, true_and, and_true, true_or, or_true, if_true_x, if_false_x, if_pos, if_neg, Int.toNat_natCast, natL, bI_0, bI_1, bI_ft, eq_self, b_tf, b_ft, not_true_eq_false, not_false_eq_true, hc.t26, hc.r26_0, hc.r26_1, hc.r26_2, hc.r26_3, hc.r26_4]
  (rw [e_4_29]; refine ⟨⟨hc.t22, by simp [wd_i, wd_r, wd_l, wd_0]⟩, ?_⟩)
  refine m_8 hp hc (sg := -1) z (by rw [ev]; exact g) (by rw [ev]; exact cw) (by rw [ev]; exact bn) (by omega) (by omega) hcc (Or.inr rfl) pt (fun br bc => ?_) (fun h2 z2 g2 p2 => ?_)
  · have a := ned_b g br bc
    omega
  · rw [ev] at p2
    replace p2 := p2.cg (B := fun br bc => ned w br bc - ndC w c br bc) (fun br bc _ _ => by omega)
    have e2 := (g2.cv (b := 200) (by omega) (by omega)).trans ev
    have e1 := g2.1 1 (by omega)
    have e99 : h2.1 99 k = trX k := by rw [g2.1 99 (by omega)]; exact (os.2 k (by omega)).1
    have e100 : h2.1 100 k = trY k := by rw [g2.1 100 (by omega)]; exact (os.2 k (by omega)).2
    simp (disch := first | assumption | omega) only [e_4_30, e_4_31, e_4_32, e_4_33, e_4_34, e_4_35, e_4_36, e_4_37, e_4_38, e_4_39, e_4_40, e_4_41, e_4_42, e_4_43, e_4_44, e_4_45, e_4_46, e_4_47, e_4_48, onI_s, onR_s, onL_s, gl_0, gl_n, gl_1, gl_2, gl_3, gl_4, gl_5, gl_6, gl_7, gl_8, gl_9, gl_10, gl_11, gl_12, gl_13, gl_14, gl_15, gl_16, gl_17, sk0i, sk0r, sk0n, sk1i, sk1r, sk1n, sk_2, sk_3, sk_4, sk_5, sk_6, sk_7, sk_8, sk_9, sk_10, sk_11, sk_12, sk_13, sk_14, sk_15, sk_16, sk_17, ls_0, ls_1, ls_2, ls_3, ls_4, ls_5, ls_6, ls_7, ls_8, ls_9, ls_10, ls_11, ls_12, ls_13, ls_14, ls_15, ls_16, ls_17, ct1_i, ct1_r, wd8_0, wd8_i1, wd8_r1, wd8_i2, wd8_r2, wd8_i3, wd8_r3, wd8_i4, wd8_r4, wd8_i5, wd8_r5, wd8_i6, wd8_r6, wd8_i7, wd8_r7, wd8_i8, wd8_r8, wd8_l2, wd8_l3, wd8_l4, wd8_l5, wd8_l6, wd8_l7, wd8_l8, tl_s, tl_n, inR_t, bd_t, true_and, and_true, true_or, or_true, if_true_x, if_false_x, if_pos, if_neg, Int.toNat_natCast, natL, bI_0, bI_1, bI_ft, eq_self, b_tf, b_ft, not_true_eq_false, not_false_eq_true, m_87 hp (show RGv (cv h2 200) by rw [e2]; exact g), e2, e1, e99, s3, tn_3, Int.toNat_natCast, hc.t1, hc.z1, hc.t26, hc.r26_0, hc.r26_1, hc.r26_2, hc.r26_3, hc.r26_4, hc.t99, hc.z99, hp.t0, hp.t1, hp.t2, hp.t3, hp.t4, hp.t5, hp.t6, hp.t7, hp.t8, hp.t9, hp.t10, hp.t11, hp.t12, hp.t13, hp.t14, hp.t15, hp.t16, hp.t17, hp.t18, hp.t19, hp.t20, hp.t21, hp.t22, hp.t23, hp.z2, hp.z3, hp.z4, hp.z5, hp.z7, hp.z8, hp.z9, hp.z10, hp.z12, hp.z13, hp.z14, hp.z15, hp.z16, hp.z17, hp.z18, hp.z20, hp.z21, hp.z22, hp.z23, hp.r0_2, hp.r0_3, hp.r0_4, hp.r0_5, hp.r1_1, hp.r1_2, hp.r1_3, hp.r1_4, hp.r6_1, hp.r6_2, hp.r6_3, hp.r6_4, hp.r11_1, hp.r11_2, hp.r11_3, hp.r11_4, hp.r11_5, hp.r11_6, hp.r11_7, hp.r19_1, hp.r19_2, hp.r19_3, hp.r19_4]
    obtain ⟨h3, e3⟩ : ∃ h3 : xH, h3 = (up2 h2.1 (200 + 15) c (hdX w c (x + trX k * h.1 1 3)), h2.2) := ⟨_, rfl⟩
    rw [← e3]
    have v3 : cv h3 200 = up2 w 15 c (hdX w c (x + trX k * h.1 1 3)) := by
      rw [e3, cv_u (I := h2.1) (F := h2.2) (b := 200) (j := 15) (by omega) (by omega)]
      rw [show cv (h2.1, h2.2) 200 = cv h2 200 from rfl, e2]
    have r3 : RGv (cv h3 200) := by
      rw [v3]
      exact g.u (by unfold rgP; omega)
    have f1 : h3.1 1 = h.1 1 := by rw [e3]; dsimp only; rw [up2_of (by omega)]; exact e1
    have f100 : h3.1 100 k = trY k := by rw [e3]; dsimp only; rw [up2_of (by omega)]; exact e100
    have z3 : NZ X h3 := by rw [e3]; exact NZ.up (I := h2.1) (F := h2.2) z2 (by rw [hp.z15]; exact hcc)
    have eh : hdY (cv h3 200) c (y + trY k * h.1 1 3) = hdY w c (y + trY k * h.1 1 3) := by rw [v3, hdY_15]
    simp (disch := first | assumption | omega) only [e_4_49, e_4_50, e_4_51, e_4_52, e_4_53, e_4_54, e_4_55, e_4_56, e_4_57, e_4_58, e_4_59, e_4_60, e_4_61, e_4_62, e_4_63, e_4_64, e_4_65, onI_s, onR_s, onL_s, gl_0, gl_n, gl_1, gl_2, gl_3, gl_4, gl_5, gl_6, gl_7, gl_8, gl_9, gl_10, gl_11, gl_12, gl_13, gl_14, gl_15, gl_16, gl_17, sk0i, sk0r, sk0n, sk1i, sk1r, sk1n, sk_2, sk_3, sk_4, sk_5, sk_6, sk_7, sk_8, sk_9, sk_10, sk_11, sk_12, sk_13, sk_14, sk_15, sk_16, sk_17, ls_0, ls_1, ls_2, ls_3, ls_4, ls_5, ls_6, ls_7, ls_8, ls_9, ls_10, ls_11, ls_12, ls_13, ls_14, ls_15, ls_16, ls_17, ct1_i, ct1_r, wd8_0, wd8_i1, wd8_r1, wd8_i2, wd8_r2, wd8_i3, wd8_r3, wd8_i4, wd8_r4, wd8_i5, wd8_r5, wd8_i6, wd8_r6, wd8_i7, wd8_r7, wd8_i8, wd8_r8, wd8_l2, wd8_l3, wd8_l4, wd8_l5, wd8_l6, wd8_l7, wd8_l8, tl_s, tl_n, inR_t, bd_t, true_and, and_true, true_or, or_true, if_true_x, if_false_x, if_pos, if_neg, Int.toNat_natCast, natL, bI_0, bI_1, bI_ft, eq_self, b_tf, b_ft, not_true_eq_false, not_false_eq_true, m_88 hp r3, f1, f100, s4, tn_3, eh, Int.toNat_natCast, hc.t1, hc.z1, hc.t26, hc.r26_0, hc.r26_1, hc.r26_2, hc.r26_3, hc.r26_4, hc.t100, hc.z100, hp.t0, hp.t1, hp.t2, hp.t3, hp.t4, hp.t5, hp.t6, hp.t7, hp.t8, hp.t9, hp.t10, hp.t11, hp.t12, hp.t13, hp.t14, hp.t15, hp.t16, hp.t17, hp.t18, hp.t19, hp.t20, hp.t21, hp.t22, hp.t23, hp.z2, hp.z3, hp.z4, hp.z5, hp.z7, hp.z8, hp.z9, hp.z10, hp.z12, hp.z13, hp.z14, hp.z15, hp.z16, hp.z17, hp.z18, hp.z20, hp.z21, hp.z22, hp.z23, hp.r0_2, hp.r0_3, hp.r0_4, hp.r0_5, hp.r1_1, hp.r1_2, hp.r1_3, hp.r1_4, hp.r6_1, hp.r6_2, hp.r6_3, hp.r6_4, hp.r11_1, hp.r11_2, hp.r11_3, hp.r11_4, hp.r11_5, hp.r11_6, hp.r11_7, hp.r19_1, hp.r19_2, hp.r19_3, hp.r19_4]
    refine hq _ (NZ.up (I := h3.1) (F := h3.2) z3 (by rw [hp.z16]; exact hcc)) ⟨fun a q1 q2 q3 q4 => ?_, ?_⟩ ?_ ?_
    · dsimp only
      rw [up2_of q4, e3]
      dsimp only
      rw [up2_of q3, g2.1 a q2]
    · dsimp only
      rw [e3]
      exact g2.2
    · rw [cv_u (I := h3.1) (F := h3.2) (b := 200) (j := 16) (by omega) (by omega)]
      rw [show cv (h3.1, h3.2) 200 = cv h3 200 from rfl, v3]
      rfl
    · dsimp only
      rw [up2_of (by omega), e3]
      dsimp only
      rw [up2_of (by omega)]
      exact p2
set_option maxHeartbeats 8000000 in
theorem b0_4 (hp : PL X 200) (hc : CT X ns nb ln) {w : Nat → Nat → Int} {c : Nat} {x y bx bY best : Int} {x10 : Option xV} (ev : cv h 200 = w) (z : NZ X h) (g : RGv w) (cw : cW w c) (bn : BNv X h w (nbC w) (nbT w) nb) (hcc : c < 20) (pt : PTo (h.1 24) (nbT w) (nbC w) (ned w))
    (hq : ∀ h2, NZ X h2 → PF h h2 → cv h2 200 = w → PTo (h2.1 24) (nbT w) (nbC w) (fun br bc => ned w br bc - ndC w c br bc) → Ev X 4 66 [some (vr 26), some (vr 200), some (vi c), some (vr (200 + 11)), some (vi x), some (vi y), some (vi bx), some (vi bY), some (vi best), some (vi 0), x10] [] h2 Q) : Ev X 4 21 [some (vr 26), some (vr 200), some (vi c), some (vr (200 + 11)), some (vi x), some (vi y), some (vi bx), some (vi bY), some (vi best), some (vi 0), x10] [] h Q := by
  have nn := nb_b g
  rw [e_4_21]
  simp (disch := first | assumption | omega) only [e_4_22, e_4_23, e_4_24, e_4_25, e_4_26, e_4_27, e_4_28, onI_s, onR_s, onL_s, gl_0, gl_n, gl_1, gl_2, gl_3, gl_4, gl_5, gl_6, gl_7, gl_8, gl_9, gl_10, gl_11, gl_12, gl_13, gl_14, gl_15, gl_16, gl_17, sk0i, sk0r, sk0n, sk1i, sk1r, sk1n, sk_2, sk_3, sk_4, sk_5, sk_6, sk_7, sk_8, sk_9, sk_10, sk_11, sk_12, sk_13, sk_14, sk_15, sk_16, sk_17, ls_0, ls_1, ls_2, ls_3, ls_4, ls_5, ls_6, ls_7, ls_8, ls_9, ls_10, ls_11, ls_12, ls_13, ls_14, ls_15, ls_16, ls_17, ct1_i, ct1_r, wd8_0, wd8_i1, wd8_r1, wd8_i2, wd8_r2, wd8_i3, wd8_r3, wd8_i4, wd8_r4, wd8_i5, wd8_r5, wd8_i6, wd8_r6, wd8_i7, wd8_r7, wd8_i8, wd8_r8, wd8_l2, wd8_l3, wd8_l4, wd8_l5, wd8_l6, wd8_l7, wd8_l8, tl_s, tl_n, inR_t, bd_t, true_and, and_true, true_or, or_true, if_true_x, if_false_x, if_pos, if_neg, Int.toNat_natCast, natL, bI_0, bI_1, bI_ft, eq_self, b_tf, b_ft, not_true_eq_false, not_false_eq_true, hc.t26, hc.r26_0, hc.r26_1, hc.r26_2, hc.r26_3, hc.r26_4]
  (rw [e_4_29]; refine ⟨⟨hc.t22, by simp [wd_i, wd_r, wd_l, wd_0]⟩, ?_⟩)
  refine m_8 hp hc (sg := -1) z (by rw [ev]; exact g) (by rw [ev]; exact cw) (by rw [ev]; exact bn) (by omega) (by omega) hcc (Or.inr rfl) pt (fun br bc => ?_) (fun h2 z2 g2 p2 => ?_)
  · have a := ned_b g br bc
    omega
  · rw [ev] at p2
    replace p2 := p2.cg (B := fun br bc => ned w br bc - ndC w c br bc) (fun br bc _ _ => by omega)
    have e2 := (g2.cv (b := 200) (by omega) (by omega)).trans ev
    simp (disch := first | assumption | omega) only [e_4_30, e_4_31, onI_s, onR_s, onL_s, gl_0, gl_n, gl_1, gl_2, gl_3, gl_4, gl_5, gl_6, gl_7, gl_8, gl_9, gl_10, gl_11, gl_12, gl_13, gl_14, gl_15, gl_16, gl_17, sk0i, sk0r, sk0n, sk1i, sk1r, sk1n, sk_2, sk_3, sk_4, sk_5, sk_6, sk_7, sk_8, sk_9, sk_10, sk_11, sk_12, sk_13, sk_14, sk_15, sk_16, sk_17, ls_0, ls_1, ls_2, ls_3, ls_4, ls_5, ls_6, ls_7, ls_8, ls_9, ls_10, ls_11, ls_12, ls_13, ls_14, ls_15, ls_16, ls_17, ct1_i, ct1_r, wd8_0, wd8_i1, wd8_r1, wd8_i2, wd8_r2, wd8_i3, wd8_r3, wd8_i4, wd8_r4, wd8_i5, wd8_r5, wd8_i6, wd8_r6, wd8_i7, wd8_r7, wd8_i8, wd8_r8, wd8_l2, wd8_l3, wd8_l4, wd8_l5, wd8_l6, wd8_l7, wd8_l8, tl_s, tl_n, inR_t, bd_t, true_and, and_true, true_or, or_true, if_true_x, if_false_x, if_pos, if_neg, Int.toNat_natCast, natL, bI_0, bI_1, bI_ft, eq_self, b_tf, b_ft, not_true_eq_false, not_false_eq_true]
    exact hq h2 z2 g2.pf e2 p2
end PS2
