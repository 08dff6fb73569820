/-! PACKING in the class: the order, a list of some -/
def GO (h h2 : xH) : Prop := (∀ a, a ≠ 30 → h2.1 a = h.1 a) ∧ (∀ a k, ¬ (a = 29 ∧ k = 3) → h2.2 a k = h.2 a k)
theorem GO.refl {h : xH} : GO h h := ⟨fun _ _ => rfl, fun _ _ _ => rfl⟩
theorem GO.tr {h h2 h3 : xH} (g : GO h h2) (k : GO h2 h3) : GO h h3 := ⟨fun a q => (k.1 a q).trans (g.1 a q), fun a j q => (k.2 a j q).trans (g.2 a j q)⟩
theorem GO.cv {h h2 : xH} {b : Nat} (g : GO h h2) (hb : 200 ≤ b) : cv h2 b = cv h b := cv_congr (fun j q1 q2 => ⟨g.1 j (by omega), funext fun k => g.2 j k (by omega)⟩)
theorem GO.gz {h h2 : xH} (g : GO h h2) : GZ h h2 := ⟨fun a q => g.1 a (by omega), fun a k q => g.2 a k q.2⟩
def OC (X : xL) (h0 h : xH) (q : List Nat) : Prop := NZ X h ∧ GO h0 h ∧ h.2 29 3 = q.length ∧ R1 (h.1 30) q
section PKC
variable {X : xL} {Q : Option xV → xH → Prop} {ns nb ln b : Nat} {h : xH}
set_option maxHeartbeats 8000000 in
theorem i_51 (hp : PL X b) (b200 : 200 ≤ b) (hc : CT X ns nb ln) {h0 : xH} {v : Nat → Nat → Int} (ev : cv h0 b = v) {c : Nat} (hcN : c < 20) : ∀ (A B : List Nat) (h : xH), NZ X h → G1 30 h0 h → HB (h.1 30) A B → (∀ x, x ∈ A → x < 20) → A.length + B.length < 20 → (∀ h2, NZ X h2 → G1 30 h0 h2 → R1 (h2.1 30) (insR (v 15) c A B) → ∀ x3, Ev X 51 50 [some (vr 29), some (vr (b + 11)), some (vi c), x3] [] h2 Q) → Ev X 51 17 [some (vr 29), some (vr (b + 11)), some (vi c), some (vi A.length)] [] h Q := by
  intro A
  induction A with
  | nil =>
    intro B h z g hb hA hl hq
    rw [e_51_17]
    simp (disch := first | assumption | omega) only [e_51_18, e_51_45, e_51_46, e_51_47, e_51_48, e_51_49, onI_s, onR_s, onL_s, gl_0, gl_n, gl_1, gl_2, gl_3, gl_4, gl_5, gl_6, gl_7, gl_8, gl_9, gl_10, gl_11, gl_12, gl_13, gl_14, gl_15, gl_16, gl_17, sk0i, sk0r, sk0n, sk1i, sk1r, sk1n, sk_2, sk_3, sk_4, sk_5, sk_6, sk_7, sk_8, sk_9, sk_10, sk_11, sk_12, sk_13, sk_14, sk_15, sk_16, sk_17, ls_0, ls_1, ls_2, ls_3, ls_4, ls_5, ls_6, ls_7, ls_8, ls_9, ls_10, ls_11, ls_12, ls_13, ls_14, ls_15, ls_16, ls_17, ct1_i, ct1_r, wd8_0, wd8_i1, wd8_r1, wd8_i2, wd8_r2, wd8_i3, wd8_r3, wd8_i4, wd8_r4, wd8_i5, wd8_r5, wd8_i6, wd8_r6, wd8_i7, wd8_r7, wd8_i8, wd8_r8, wd8_l2, wd8_l3, wd8_l4, wd8_l5, wd8_l6, wd8_l7, wd8_l8, tl_s, tl_n, inR_t, bd_t, true_and, and_true, true_or, or_true, if_true_x, if_false_x, if_pos, if_neg, Int.toNat_natCast, natL, bI_0, bI_1, bI_ft, eq_self, b_tf, b_ft, not_true_eq_false, not_false_eq_true, List.length_nil, tn_0, hc.t29, hc.r29_0, hc.r29_1, hc.r29_2, hc.r29_4, hc.r29_5, hc.r29_6, hc.r29_7, hc.r29_8, hc.t30, hc.z30]
    refine hq (up2 h.1 30 0 c, h.2) (NZ.up (I := h.1) (F := h.2) z (by rw [hc.z30]; omega)) (G1.tr g ⟨fun a q => up2_of q, rfl⟩) ?_ _
    rw [insR]
    exact HB.fin hb (fun k => by dsimp only; rw [up2_same]; rfl)
  | cons y A ih =>
    intro B h z g hb hA hl hq
    have y20 := hA y (by simp)
    have ty := hb.top
    have cvh : cv h b = v := (g.cv (by omega) b200).trans ev
    have ey : h.1 (b + 15) y = v 15 y := by rw [← cvh]; rfl
    have ec : h.1 (b + 15) c = v 15 c := by rw [← cvh]; rfl
    rw [List.length_cons] at hl
    have t1 : (((A.length + 1 : Nat) : Int) - 1).toNat = A.length := by omega
    have t2 : (((A.length + 1 : Nat) : Int) + -1) = (A.length : Int) := by omega
    rw [e_51_17, List.length_cons]
    by_cases e : v 15 c < v 15 y
    · simp (disch := first | assumption | omega) only [e_51_18, e_51_19, e_51_20, e_51_21, e_51_22, e_51_23, e_51_24, e_51_25, e_51_26, e_51_27, e_51_28, e_51_29, e_51_30, e_51_31, e_51_32, e_51_33, e_51_34, e_51_35, e_51_36, e_51_37, e_51_38, e_51_39, e_51_40, e_51_41, e_51_42, e_51_43, e_51_44, onI_s, onR_s, onL_s, gl_0, gl_n, gl_1, gl_2, gl_3, gl_4, gl_5, gl_6, gl_7, gl_8, gl_9, gl_10, gl_11, gl_12, gl_13, gl_14, gl_15, gl_16, gl_17, sk0i, sk0r, sk0n, sk1i, sk1r, sk1n, sk_2, sk_3, sk_4, sk_5, sk_6, sk_7, sk_8, sk_9, sk_10, sk_11, sk_12, sk_13, sk_14, sk_15, sk_16, sk_17, ls_0, ls_1, ls_2, ls_3, ls_4, ls_5, ls_6, ls_7, ls_8, ls_9, ls_10, ls_11, ls_12, ls_13, ls_14, ls_15, ls_16, ls_17, ct1_i, ct1_r, wd8_0, wd8_i1, wd8_r1, wd8_i2, wd8_r2, wd8_i3, wd8_r3, wd8_i4, wd8_r4, wd8_i5, wd8_r5, wd8_i6, wd8_r6, wd8_i7, wd8_r7, wd8_i8, wd8_r8, wd8_l2, wd8_l3, wd8_l4, wd8_l5, wd8_l6, wd8_l7, wd8_l8, tl_s, tl_n, inR_t, bd_t, true_and, and_true, true_or, or_true, if_true_x, if_false_x, if_pos, if_neg, Int.toNat_natCast, natL, bI_0, bI_1, bI_ft, eq_self, b_tf, b_ft, not_true_eq_false, not_false_eq_true, t1, t2, ty, ey, ec, e, hc.t29, hc.r29_0, hc.r29_1, hc.r29_2, hc.r29_4, hc.r29_5, hc.r29_6, hc.r29_7, hc.r29_8, hc.t30, hc.z30, hp.t0, hp.t1, hp.t2, hp.t3, hp.t4, hp.t5, hp.t6, hp.t7, hp.t8, hp.t9, hp.t10, hp.t11, hp.t12, hp.t13, hp.t14, hp.t15, hp.t16, hp.t17, hp.t18, hp.t19, hp.t20, hp.t21, hp.t22, hp.t23, hp.z2, hp.z3, hp.z4, hp.z5, hp.z7, hp.z8, hp.z9, hp.z10, hp.z12, hp.z13, hp.z14, hp.z15, hp.z16, hp.z17, hp.z18, hp.z20, hp.z21, hp.z22, hp.z23, hp.r0_2, hp.r0_3, hp.r0_4, hp.r0_5, hp.r1_1, hp.r1_2, hp.r1_3, hp.r1_4, hp.r6_1, hp.r6_2, hp.r6_3, hp.r6_4, hp.r11_1, hp.r11_2, hp.r11_3, hp.r11_4, hp.r11_5, hp.r11_6, hp.r11_7, hp.r19_1, hp.r19_2, hp.r19_3, hp.r19_4]
      refine ih (y :: B) (up2 h.1 30 (A.length + 1) y, h.2) (NZ.up (I := h.1) (F := h.2) z (by rw [hc.z30]; omega)) (G1.tr g ⟨fun a q => up2_of q, rfl⟩) (HB.step hb (fun k => by dsimp only; rw [up2_same])) (fun x hx => hA x (by simp [hx])) (by rw [List.length_cons]; omega) (fun h2 z2 g2 s2 => hq h2 z2 g2 (by rw [insR, if_pos e]; exact s2))
    · simp (disch := first | assumption | omega) only [e_51_18, e_51_19, e_51_20, e_51_21, e_51_22, e_51_23, e_51_24, e_51_25, e_51_26, e_51_27, e_51_28, e_51_29, e_51_30, e_51_31, e_51_32, e_51_45, e_51_46, e_51_47, e_51_48, e_51_49, onI_s, onR_s, onL_s, gl_0, gl_n, gl_1, gl_2, gl_3, gl_4, gl_5, gl_6, gl_7, gl_8, gl_9, gl_10, gl_11, gl_12, gl_13, gl_14, gl_15, gl_16, gl_17, sk0i, sk0r, sk0n, sk1i, sk1r, sk1n, sk_2, sk_3, sk_4, sk_5, sk_6, sk_7, sk_8, sk_9, sk_10, sk_11, sk_12, sk_13, sk_14, sk_15, sk_16, sk_17, ls_0, ls_1, ls_2, ls_3, ls_4, ls_5, ls_6, ls_7, ls_8, ls_9, ls_10, ls_11, ls_12, ls_13, ls_14, ls_15, ls_16, ls_17, ct1_i, ct1_r, wd8_0, wd8_i1, wd8_r1, wd8_i2, wd8_r2, wd8_i3, wd8_r3, wd8_i4, wd8_r4, wd8_i5, wd8_r5, wd8_i6, wd8_r6, wd8_i7, wd8_r7, wd8_i8, wd8_r8, wd8_l2, wd8_l3, wd8_l4, wd8_l5, wd8_l6, wd8_l7, wd8_l8, tl_s, tl_n, inR_t, bd_t, true_and, and_true, true_or, or_true, if_true_x, if_false_x, if_pos, if_neg, Int.toNat_natCast, natL, bI_0, bI_1, bI_ft, eq_self, b_tf, b_ft, not_true_eq_false, not_false_eq_true, t1, t2, ty, ey, ec, e, hc.t29, hc.r29_0, hc.r29_1, hc.r29_2, hc.r29_4, hc.r29_5, hc.r29_6, hc.r29_7, hc.r29_8, hc.t30, hc.z30, hp.t0, hp.t1, hp.t2, hp.t3, hp.t4, hp.t5, hp.t6, hp.t7, hp.t8, hp.t9, hp.t10, hp.t11, hp.t12, hp.t13, hp.t14, hp.t15, hp.t16, hp.t17, hp.t18, hp.t19, hp.t20, hp.t21, hp.t22, hp.t23, hp.z2, hp.z3, hp.z4, hp.z5, hp.z7, hp.z8, hp.z9, hp.z10, hp.z12, hp.z13, hp.z14, hp.z15, hp.z16, hp.z17, hp.z18, hp.z20, hp.z21, hp.z22, hp.z23, hp.r0_2, hp.r0_3, hp.r0_4, hp.r0_5, hp.r1_1, hp.r1_2, hp.r1_3, hp.r1_4, hp.r6_1, hp.r6_2, hp.r6_3, hp.r6_4, hp.r11_1, hp.r11_2, hp.r11_3, hp.r11_4, hp.r11_5, hp.r11_6, hp.r11_7, hp.r19_1, hp.r19_2, hp.r19_3, hp.r19_4]
      refine hq (up2 h.1 30 (A.length + 1) c, h.2) (NZ.up (I := h.1) (F := h.2) z (by rw [hc.z30]; omega)) (G1.tr g ⟨fun a q => up2_of q, rfl⟩) ?_ _
      rw [insR, if_neg e]
      exact HB.fin hb (fun k => by dsimp only; rw [up2_same]; rfl)
set_option maxHeartbeats 8000000 in
theorem m_51 (hp : PL X b) (b200 : 200 ≤ b) (hc : CT X ns nb ln) {h0 : xH} {v : Nat → Nat → Int} (ev : cv h0 b = v) (w : RGv v) (z : NZ X h0) (hq : ∀ h2, OC X h0 h2 (ordQ v (v 11 0).toNat) → Q none h2) : Cl X 51 [vr 29, vr (b + 11)] h0 Q := by
  have nC := w.nC
  obtain ⟨N, hN⟩ : ∃ N : Nat, v 11 0 = N := ⟨(v 11 0).toNat, by omega⟩
  rw [hN, Int.toNat_natCast] at hq
  have lp : ∀ (m c : Nat) (h : xH) (x3 : Option xV), c + m = N → OC X h0 h (ordQ v c) → Ev X 51 5 [some (vr 29), some (vr (b + 11)), some (vi c), x3] [] h Q := by
    intro m
    induction m with
    | zero =>
      intro c h x3 hm s
      have cvh : cv h b = v := (s.2.1.cv b200).trans ev
      have eN : h.2 (b + 11) 0 = N := by rw [← hN, ← cvh]; rfl
      rw [e_51_5]
      simp (disch := first | assumption | omega) only [e_51_6, e_51_7, e_51_8, e_51_58, onI_s, onR_s, onL_s, gl_0, gl_n, gl_1, gl_2, gl_3, gl_4, gl_5, gl_6, gl_7, gl_8, gl_9, gl_10, gl_11, gl_12, gl_13, gl_14, gl_15, gl_16, gl_17, sk0i, sk0r, sk0n, sk1i, sk1r, sk1n, sk_2, sk_3, sk_4, sk_5, sk_6, sk_7, sk_8, sk_9, sk_10, sk_11, sk_12, sk_13, sk_14, sk_15, sk_16, sk_17, ls_0, ls_1, ls_2, ls_3, ls_4, ls_5, ls_6, ls_7, ls_8, ls_9, ls_10, ls_11, ls_12, ls_13, ls_14, ls_15, ls_16, ls_17, ct1_i, ct1_r, wd8_0, wd8_i1, wd8_r1, wd8_i2, wd8_r2, wd8_i3, wd8_r3, wd8_i4, wd8_r4, wd8_i5, wd8_r5, wd8_i6, wd8_r6, wd8_i7, wd8_r7, wd8_i8, wd8_r8, wd8_l2, wd8_l3, wd8_l4, wd8_l5, wd8_l6, wd8_l7, wd8_l8, tl_s, tl_n, inR_t, bd_t, true_and, and_true, true_or, or_true, if_true_x, if_false_x, if_pos, if_neg, Int.toNat_natCast, natL, bI_0, bI_1, bI_ft, eq_self, b_tf, b_ft, not_true_eq_false, not_false_eq_true, eN, hp.t0, hp.t1, hp.t2, hp.t3, hp.t4, hp.t5, hp.t6, hp.t7, hp.t8, hp.t9, hp.t10, hp.t11, hp.t12, hp.t13, hp.t14, hp.t15, hp.t16, hp.t17, hp.t18, hp.t19, hp.t20, hp.t21, hp.t22, hp.t23, hp.z2, hp.z3, hp.z4, hp.z5, hp.z7, hp.z8, hp.z9, hp.z10, hp.z12, hp.z13, hp.z14, hp.z15, hp.z16, hp.z17, hp.z18, hp.z20, hp.z21, hp.z22, hp.z23, hp.r0_2, hp.r0_3, hp.r0_4, hp.r0_5, hp.r1_1, hp.r1_2, hp.r1_3, hp.r1_4, hp.r6_1, hp.r6_2, hp.r6_3, hp.r6_4, hp.r11_1, hp.r11_2, hp.r11_3, hp.r11_4, hp.r11_5, hp.r11_6, hp.r11_7, hp.r19_1, hp.r19_2, hp.r19_3, hp.r19_4]
      rw [show N = c by omega] at hq
      exact hq h s
    | succ m ih =>
      intro c h x3 hm s
      have cvh : cv h b = v := (s.2.1.cv b200).trans ev
      have eN : h.2 (b + 11) 0 = N := by rw [← hN, ← cvh]; rfl
      have e14 : h.1 (b + 14) c = v 14 c := by rw [← cvh]; rfl
      have c20 : c < 20 := by omega
      have ll := ordQ_len (v := v) c
      have n3 := s.2.2.1
      rw [e_51_5]
      by_cases e : v 14 c = 0
      · have eL : ordQ v (c + 1) = insL (v 15) c (ordQ v c) := by rw [ordQ, if_pos e]
        simp (disch := first | assumption | omega) only [e_51_6, e_51_7, e_51_8, e_51_9, e_51_10, e_51_11, e_51_12, e_51_13, e_51_14, e_51_15, e_51_16, onI_s, onR_s, onL_s, gl_0, gl_n, gl_1, gl_2, gl_3, gl_4, gl_5, gl_6, gl_7, gl_8, gl_9, gl_10, gl_11, gl_12, gl_13, gl_14, gl_15, gl_16, gl_17, sk0i, sk0r, sk0n, sk1i, sk1r, sk1n, sk_2, sk_3, sk_4, sk_5, sk_6, sk_7, sk_8, sk_9, sk_10, sk_11, sk_12, sk_13, sk_14, sk_15, sk_16, sk_17, ls_0, ls_1, ls_2, ls_3, ls_4, ls_5, ls_6, ls_7, ls_8, ls_9, ls_10, ls_11, ls_12, ls_13, ls_14, ls_15, ls_16, ls_17, ct1_i, ct1_r, wd8_0, wd8_i1, wd8_r1, wd8_i2, wd8_r2, wd8_i3, wd8_r3, wd8_i4, wd8_r4, wd8_i5, wd8_r5, wd8_i6, wd8_r6, wd8_i7, wd8_r7, wd8_i8, wd8_r8, wd8_l2, wd8_l3, wd8_l4, wd8_l5, wd8_l6, wd8_l7, wd8_l8, tl_s, tl_n, inR_t, bd_t, true_and, and_true, true_or, or_true, if_true_x, if_false_x, if_pos, if_neg, Int.toNat_natCast, natL, bI_0, bI_1, bI_ft, eq_self, b_tf, b_ft, not_true_eq_false, not_false_eq_true, eN, e14, e, n3, hc.t29, hc.r29_0, hc.r29_1, hc.r29_2, hc.r29_4, hc.r29_5, hc.r29_6, hc.r29_7, hc.r29_8, hp.t0, hp.t1, hp.t2, hp.t3, hp.t4, hp.t5, hp.t6, hp.t7, hp.t8, hp.t9, hp.t10, hp.t11, hp.t12, hp.t13, hp.t14, hp.t15, hp.t16, hp.t17, hp.t18, hp.t19, hp.t20, hp.t21, hp.t22, hp.t23, hp.z2, hp.z3, hp.z4, hp.z5, hp.z7, hp.z8, hp.z9, hp.z10, hp.z12, hp.z13, hp.z14, hp.z15, hp.z16, hp.z17, hp.z18, hp.z20, hp.z21, hp.z22, hp.z23, hp.r0_2, hp.r0_3, hp.r0_4, hp.r0_5, hp.r1_1, hp.r1_2, hp.r1_3, hp.r1_4, hp.r6_1, hp.r6_2, hp.r6_3, hp.r6_4, hp.r11_1, hp.r11_2, hp.r11_3, hp.r11_4, hp.r11_5, hp.r11_6, hp.r11_7, hp.r19_1, hp.r19_2, hp.r19_3, hp.r19_4]
        have q := i_51 (Q := Q) hp b200 hc (h0 := h) cvh c20 (ordQ v c).reverse [] h s.1 G1.refl ⟨by rw [List.reverse_reverse]; exact s.2.2.2, fun k x q => by simp at q⟩ (fun x hx => by
          have := (ordQ_mem c).mp (List.mem_reverse.mp hx)
          omega) (by simp; omega) (fun h2 z2 g2 s2 x3 => by
            have n2 : h2.2 29 3 = (ordQ v c).length := by rw [g2.2]; exact n3
            rw [e_51_50]
            simp (disch := first | assumption | omega) only [e_51_51, e_51_52, e_51_53, e_51_54, e_51_55, e_51_56, e_51_57, onI_s, onR_s, onL_s, gl_0, gl_n, gl_1, gl_2, gl_3, gl_4, gl_5, gl_6, gl_7, gl_8, gl_9, gl_10, gl_11, gl_12, gl_13, gl_14, gl_15, gl_16, gl_17, sk0i, sk0r, sk0n, sk1i, sk1r, sk1n, sk_2, sk_3, sk_4, sk_5, sk_6, sk_7, sk_8, sk_9, sk_10, sk_11, sk_12, sk_13, sk_14, sk_15, sk_16, sk_17, ls_0, ls_1, ls_2, ls_3, ls_4, ls_5, ls_6, ls_7, ls_8, ls_9, ls_10, ls_11, ls_12, ls_13, ls_14, ls_15, ls_16, ls_17, ct1_i, ct1_r, wd8_0, wd8_i1, wd8_r1, wd8_i2, wd8_r2, wd8_i3, wd8_r3, wd8_i4, wd8_r4, wd8_i5, wd8_r5, wd8_i6, wd8_r6, wd8_i7, wd8_r7, wd8_i8, wd8_r8, wd8_l2, wd8_l3, wd8_l4, wd8_l5, wd8_l6, wd8_l7, wd8_l8, tl_s, tl_n, inR_t, bd_t, true_and, and_true, true_or, or_true, if_true_x, if_false_x, if_pos, if_neg, Int.toNat_natCast, natL, bI_0, bI_1, bI_ft, eq_self, b_tf, b_ft, not_true_eq_false, not_false_eq_true, n2, cast_s, hc.t29, hc.r29_0, hc.r29_1, hc.r29_2, hc.r29_4, hc.r29_5, hc.r29_6, hc.r29_7, hc.r29_8]
            refine ih (c + 1) (h2.1, up2 h2.2 29 3 (((ordQ v c).length + 1 : Nat) : Int)) x3 (by omega) ⟨z2, GO.tr s.2.1 ⟨fun a q => g2.1 a q, fun a k q => by dsimp only; rw [up2_eq, if_neg q, g2.2]⟩, ?_, by rw [eL]; exact s2⟩
            dsimp only
            rw [up2_self, eL, insL_len])
        rw [List.length_reverse] at q
        exact q
      · have eL : ordQ v (c + 1) = ordQ v c := by rw [ordQ, if_neg e]
        simp (disch := first | assumption | omega) only [e_51_6, e_51_7, e_51_8, e_51_9, e_51_10, e_51_11, e_51_12, e_51_13, e_51_56, e_51_57, onI_s, onR_s, onL_s, gl_0, gl_n, gl_1, gl_2, gl_3, gl_4, gl_5, gl_6, gl_7, gl_8, gl_9, gl_10, gl_11, gl_12, gl_13, gl_14, gl_15, gl_16, gl_17, sk0i, sk0r, sk0n, sk1i, sk1r, sk1n, sk_2, sk_3, sk_4, sk_5, sk_6, sk_7, sk_8, sk_9, sk_10, sk_11, sk_12, sk_13, sk_14, sk_15, sk_16, sk_17, ls_0, ls_1, ls_2, ls_3, ls_4, ls_5, ls_6, ls_7, ls_8, ls_9, ls_10, ls_11, ls_12, ls_13, ls_14, ls_15, ls_16, ls_17, ct1_i, ct1_r, wd8_0, wd8_i1, wd8_r1, wd8_i2, wd8_r2, wd8_i3, wd8_r3, wd8_i4, wd8_r4, wd8_i5, wd8_r5, wd8_i6, wd8_r6, wd8_i7, wd8_r7, wd8_i8, wd8_r8, wd8_l2, wd8_l3, wd8_l4, wd8_l5, wd8_l6, wd8_l7, wd8_l8, tl_s, tl_n, inR_t, bd_t, true_and, and_true, true_or, or_true, if_true_x, if_false_x, if_pos, if_neg, Int.toNat_natCast, natL, bI_0, bI_1, bI_ft, eq_self, b_tf, b_ft, not_true_eq_false, not_false_eq_true, eN, e14, e, cast_s, hc.t29, hc.r29_0, hc.r29_1, hc.r29_2, hc.r29_4, hc.r29_5, hc.r29_6, hc.r29_7, hc.r29_8, hp.t0, hp.t1, hp.t2, hp.t3, hp.t4, hp.t5, hp.t6, hp.t7, hp.t8, hp.t9, hp.t10, hp.t11, hp.t12, hp.t13, hp.t14, hp.t15, hp.t16, hp.t17, hp.t18, hp.t19, hp.t20, hp.t21, hp.t22, hp.t23, hp.z2, hp.z3, hp.z4, hp.z5, hp.z7, hp.z8, hp.z9, hp.z10, hp.z12, hp.z13, hp.z14, hp.z15, hp.z16, hp.z17, hp.z18, hp.z20, hp.z21, hp.z22, hp.z23, hp.r0_2, hp.r0_3, hp.r0_4, hp.r0_5, hp.r1_1, hp.r1_2, hp.r1_3, hp.r1_4, hp.r6_1, hp.r6_2, hp.r6_3, hp.r6_4, hp.r11_1, hp.r11_2, hp.r11_3, hp.r11_4, hp.r11_5, hp.r11_6, hp.r11_7, hp.r19_1, hp.r19_2, hp.r19_3, hp.r19_4]
        exact ih (c + 1) h x3 (by omega) (by rw [eL]; exact s)
  rw [c_51]
  simp (disch := first | assumption | omega) only [e_51_0, e_51_1, e_51_2, e_51_3, e_51_4, onI_s, onR_s, onL_s, gl_0, gl_n, gl_1, gl_2, gl_3, gl_4, gl_5, gl_6, gl_7, gl_8, gl_9, gl_10, gl_11, gl_12, gl_13, gl_14, gl_15, gl_16, gl_17, sk0i, sk0r, sk0n, sk1i, sk1r, sk1n, sk_2, sk_3, sk_4, sk_5, sk_6, sk_7, sk_8, sk_9, sk_10, sk_11, sk_12, sk_13, sk_14, sk_15, sk_16, sk_17, ls_0, ls_1, ls_2, ls_3, ls_4, ls_5, ls_6, ls_7, ls_8, ls_9, ls_10, ls_11, ls_12, ls_13, ls_14, ls_15, ls_16, ls_17, ct1_i, ct1_r, wd8_0, wd8_i1, wd8_r1, wd8_i2, wd8_r2, wd8_i3, wd8_r3, wd8_i4, wd8_r4, wd8_i5, wd8_r5, wd8_i6, wd8_r6, wd8_i7, wd8_r7, wd8_i8, wd8_r8, wd8_l2, wd8_l3, wd8_l4, wd8_l5, wd8_l6, wd8_l7, wd8_l8, tl_s, tl_n, inR_t, bd_t, true_and, and_true, true_or, or_true, if_true_x, if_false_x, if_pos, if_neg, Int.toNat_natCast, natL, bI_0, bI_1, bI_ft, eq_self, b_tf, b_ft, not_true_eq_false, not_false_eq_true, hc.t29, hc.r29_0, hc.r29_1, hc.r29_2, hc.r29_4, hc.r29_5, hc.r29_6, hc.r29_7, hc.r29_8]
  refine lp N 0 (h0.1, up2 h0.2 29 3 0) none (by omega) ⟨z, ⟨fun _ _ => rfl, fun a k q => by dsimp only; rw [up2_eq, if_neg q]⟩, ?_, R1.nil⟩
  dsimp only
  rw [up2_self]
  rfl
/-- the cells that go to a run, as rows: order and run of each -/
def GW (A B : Nat → Int) (go : List (Nat × Nat)) : Prop := ∀ (i : Nat) (x : Nat × Nat), go[i]? = some x → A i = x.1 ∧ B x.1 = x.2 ∧ x.1 < 20
set_option maxHeartbeats 8000000 in
theorem m_52 (hc : CT X ns nb ln) {h0 : xH} {run : Nat} {go : List (Nat × Nat)} (g20 : go.length ≤ 20) (gw : GW (h0.1 30) (h0.1 31) go) (z : NZ X h0) (hq : ∀ h2, NZ X h2 → G1 34 h0 h2 → R1 (h2.1 34) (smK go run) → Q (some (vi ((smK go run).length : Int))) h2) : Cl X 52 [vr 29, vi run, vi (go.length : Int)] h0 Q := by
  have lp : ∀ (M : List (Nat × Nat)) (i : Nat) (A : List (Nat × Nat)) (h : xH), A ++ M = go → i = A.length → NZ X h → G1 34 h0 h → R1 (h.1 34) (smK A run) → Ev X 52 4 [some (vr 29), some (vi run), some (vi (go.length : Int)), some (vi ((smK A run).length : Int)), some (vi i)] [] h Q := by
    intro M
    induction M with
    | nil =>
      intro i A h eA ei z g r
      rw [List.append_nil] at eA
      rw [e_52_4]
      rw [eA] at ei r ⊢
      simp (disch := first | assumption | omega) only [e_52_5, e_52_6, e_52_27, e_52_28, onI_s, onR_s, onL_s, gl_0, gl_n, gl_1, gl_2, gl_3, gl_4, gl_5, gl_6, gl_7, gl_8, gl_9, gl_10, gl_11, gl_12, gl_13, gl_14, gl_15, gl_16, gl_17, sk0i, sk0r, sk0n, sk1i, sk1r, sk1n, sk_2, sk_3, sk_4, sk_5, sk_6, sk_7, sk_8, sk_9, sk_10, sk_11, sk_12, sk_13, sk_14, sk_15, sk_16, sk_17, ls_0, ls_1, ls_2, ls_3, ls_4, ls_5, ls_6, ls_7, ls_8, ls_9, ls_10, ls_11, ls_12, ls_13, ls_14, ls_15, ls_16, ls_17, ct1_i, ct1_r, wd8_0, wd8_i1, wd8_r1, wd8_i2, wd8_r2, wd8_i3, wd8_r3, wd8_i4, wd8_r4, wd8_i5, wd8_r5, wd8_i6, wd8_r6, wd8_i7, wd8_r7, wd8_i8, wd8_r8, wd8_l2, wd8_l3, wd8_l4, wd8_l5, wd8_l6, wd8_l7, wd8_l8, tl_s, tl_n, inR_t, bd_t, true_and, and_true, true_or, or_true, if_true_x, if_false_x, if_pos, if_neg, Int.toNat_natCast, natL, bI_0, bI_1, bI_ft, eq_self, b_tf, b_ft, not_true_eq_false, not_false_eq_true]
      exact hq h z g r
    | cons x M ih =>
      intro i A h eA ei z g r
      have le : A.length + (M.length + 1) = go.length := by rw [← eA]; simp
      have hx : go[i]? = some x := by rw [← eA, ei]; simp
      obtain ⟨q1, q2, q3⟩ := gw i x hx
      have e30 : h.1 30 i = x.1 := by rw [g.1 30 (by omega)]; exact q1
      have e31 : h.1 31 x.1 = x.2 := by rw [g.1 31 (by omega)]; exact q2
      have sl := smK_len (go := A) (k := run)
      have sA := smK_app (go := A) (c := x.1) (k := x.2) (j := run)
      rw [e_52_4]
      by_cases e : x.2 = run
      · rw [if_pos e] at sA
        have e31' : h.1 31 x.1 = run := by rw [e31, e]
        have iE : i < go.length := by omega
        simp (disch := first | assumption | omega) only [e_52_5, e_52_6, e_52_7, e_52_8, e_52_9, e_52_10, e_52_11, e_52_12, e_52_13, e_52_14, e_52_15, e_52_16, e_52_17, e_52_18, e_52_19, e_52_20, e_52_21, e_52_22, e_52_23, e_52_24, e_52_25, e_52_26, onI_s, onR_s, onL_s, gl_0, gl_n, gl_1, gl_2, gl_3, gl_4, gl_5, gl_6, gl_7, gl_8, gl_9, gl_10, gl_11, gl_12, gl_13, gl_14, gl_15, gl_16, gl_17, sk0i, sk0r, sk0n, sk1i, sk1r, sk1n, sk_2, sk_3, sk_4, sk_5, sk_6, sk_7, sk_8, sk_9, sk_10, sk_11, sk_12, sk_13, sk_14, sk_15, sk_16, sk_17, ls_0, ls_1, ls_2, ls_3, ls_4, ls_5, ls_6, ls_7, ls_8, ls_9, ls_10, ls_11, ls_12, ls_13, ls_14, ls_15, ls_16, ls_17, ct1_i, ct1_r, wd8_0, wd8_i1, wd8_r1, wd8_i2, wd8_r2, wd8_i3, wd8_r3, wd8_i4, wd8_r4, wd8_i5, wd8_r5, wd8_i6, wd8_r6, wd8_i7, wd8_r7, wd8_i8, wd8_r8, wd8_l2, wd8_l3, wd8_l4, wd8_l5, wd8_l6, wd8_l7, wd8_l8, tl_s, tl_n, inR_t, bd_t, true_and, and_true, true_or, or_true, if_true_x, if_false_x, if_pos, if_neg, Int.toNat_natCast, natL, bI_0, bI_1, bI_ft, eq_self, b_tf, b_ft, not_true_eq_false, not_false_eq_true, e30, e31', cast_s, hc.t29, hc.r29_0, hc.r29_1, hc.r29_2, hc.r29_4, hc.r29_5, hc.r29_6, hc.r29_7, hc.r29_8, hc.t30, hc.z30, hc.t31, hc.z31, hc.t34, hc.z34]
        have := ih (i + 1) (A ++ [x]) (up2 h.1 34 (smK A run).length x.1, h.2) (by rw [← eA]; simp) (by simp [ei]) (NZ.up (I := h.1) (F := h.2) z (by rw [hc.z34]; omega)) (G1.tr g ⟨fun a q => up2_of q, rfl⟩) (by
          rw [show A ++ [x] = A ++ [(x.1, x.2)] from rfl, sA]
          exact R1.snoc r (fun k => by dsimp only; rw [up2_same]))
        rw [show A ++ [x] = A ++ [(x.1, x.2)] from rfl, sA, List.length_append, List.length_singleton] at this
        exact this
      · rw [if_neg e] at sA
        have e' : ¬ ((x.2 : Nat) : Int) = run := by omega
        have iE : i < go.length := by omega
        simp (disch := first | assumption | omega) only [e_52_5, e_52_6, e_52_7, e_52_8, e_52_9, e_52_10, e_52_11, e_52_12, e_52_13, e_52_14, e_52_15, e_52_25, e_52_26, onI_s, onR_s, onL_s, gl_0, gl_n, gl_1, gl_2, gl_3, gl_4, gl_5, gl_6, gl_7, gl_8, gl_9, gl_10, gl_11, gl_12, gl_13, gl_14, gl_15, gl_16, gl_17, sk0i, sk0r, sk0n, sk1i, sk1r, sk1n, sk_2, sk_3, sk_4, sk_5, sk_6, sk_7, sk_8, sk_9, sk_10, sk_11, sk_12, sk_13, sk_14, sk_15, sk_16, sk_17, ls_0, ls_1, ls_2, ls_3, ls_4, ls_5, ls_6, ls_7, ls_8, ls_9, ls_10, ls_11, ls_12, ls_13, ls_14, ls_15, ls_16, ls_17, ct1_i, ct1_r, wd8_0, wd8_i1, wd8_r1, wd8_i2, wd8_r2, wd8_i3, wd8_r3, wd8_i4, wd8_r4, wd8_i5, wd8_r5, wd8_i6, wd8_r6, wd8_i7, wd8_r7, wd8_i8, wd8_r8, wd8_l2, wd8_l3, wd8_l4, wd8_l5, wd8_l6, wd8_l7, wd8_l8, tl_s, tl_n, inR_t, bd_t, true_and, and_true, true_or, or_true, if_true_x, if_false_x, if_pos, if_neg, Int.toNat_natCast, natL, bI_0, bI_1, bI_ft, eq_self, b_tf, b_ft, not_true_eq_false, not_false_eq_true, e30, e31, e', cast_s, hc.t29, hc.r29_0, hc.r29_1, hc.r29_2, hc.r29_4, hc.r29_5, hc.r29_6, hc.r29_7, hc.r29_8, hc.t30, hc.z30, hc.t31, hc.z31]
        have := ih (i + 1) (A ++ [x]) h (by rw [← eA]; simp) (by simp [ei]) z g (by rw [show A ++ [x] = A ++ [(x.1, x.2)] from rfl, sA]; exact r)
        rw [show A ++ [x] = A ++ [(x.1, x.2)] from rfl, sA] at this
        exact this
  rw [c_52]
  simp (disch := first | assumption | omega) only [e_52_0, e_52_1, e_52_2, e_52_3, onI_s, onR_s, onL_s, gl_0, gl_n, gl_1, gl_2, gl_3, gl_4, gl_5, gl_6, gl_7, gl_8, gl_9, gl_10, gl_11, gl_12, gl_13, gl_14, gl_15, gl_16, gl_17, sk0i, sk0r, sk0n, sk1i, sk1r, sk1n, sk_2, sk_3, sk_4, sk_5, sk_6, sk_7, sk_8, sk_9, sk_10, sk_11, sk_12, sk_13, sk_14, sk_15, sk_16, sk_17, ls_0, ls_1, ls_2, ls_3, ls_4, ls_5, ls_6, ls_7, ls_8, ls_9, ls_10, ls_11, ls_12, ls_13, ls_14, ls_15, ls_16, ls_17, ct1_i, ct1_r, wd8_0, wd8_i1, wd8_r1, wd8_i2, wd8_r2, wd8_i3, wd8_r3, wd8_i4, wd8_r4, wd8_i5, wd8_r5, wd8_i6, wd8_r6, wd8_i7, wd8_r7, wd8_i8, wd8_r8, wd8_l2, wd8_l3, wd8_l4, wd8_l5, wd8_l6, wd8_l7, wd8_l8, tl_s, tl_n, inR_t, bd_t, true_and, and_true, true_or, or_true, if_true_x, if_false_x, if_pos, if_neg, Int.toNat_natCast, natL, bI_0, bI_1, bI_ft, eq_self, b_tf, b_ft, not_true_eq_false, not_false_eq_true]
  exact lp go 0 [] h0 rfl rfl z G1.refl R1.nil
end PKC
