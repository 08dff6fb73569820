section SHL
variable {X : xL} {Q : Option xV → xH → Prop} {ns nb ln : Nat}
theorem cv_2r {h : xH} {v : Nat → Nat → Int} {f g : Nat → Int} {F2 : Nat → Nat → Int} (hF : ∀ a, 200 ≤ a → a < 224 → F2 a = h.2 a) (e17 : f = v 17) (e18 : g = v 18) (ho : ∀ j, j ≠ 17 → j ≠ 18 → v j = cv h 200 j) : cv (up1 (up1 h.1 (200 + 17) f) (200 + 18) g, F2) 200 = v := by
  funext j i
  by_cases h1 : j = 17
  · subst h1
    show up1 (up1 h.1 (200 + 17) f) (200 + 18) g (200 + 17) i = _
    rw [up1_o (by omega), up1_self, e17]
  · by_cases h2 : j = 18
    · subst h2
      show up1 (up1 h.1 (200 + 17) f) (200 + 18) g (200 + 18) i = _
      rw [up1_self, e18]
    · rw [ho j h1 h2, cv_out (by omega), cv_out (by omega)]
      unfold cv
      dsimp only
      by_cases e : j = 0 ∨ j = 1 ∨ j = 6 ∨ j = 11 ∨ j = 19
      · rw [if_pos e, if_pos e, hF _ (by omega) (by omega)]
      · rw [if_neg e, if_neg e]
set_option maxHeartbeats 8000000 in
theorem l_71 (hp : PL X 200) (hc : CT X ns nb ln) {n tries : Nat} {sd he0 bef t : Int} (hn : 0 < n) (hn2 : n ≤ 20) (t0 : 0 ≤ t) (t1 : t ≤ 8) (b0 : 0 ≤ bef) (b1 : bef ≤ 313344) (ht60 : tries ≤ 60) : ∀ (m i : Nat) (h : xH) (l he s : Int) (best : Nat → Nat → Int) (x11 x12 : Option xV), NZ X h → WG (cv h 200) → TMb (h.1 1) → h.1 1 4 = t → cv h 200 11 0 = n → h.2 57 11 = s → 0 ≤ s → s ≤ 1000002 → 0 ≤ he → he ≤ 9999 → 0 ≤ l → l ≤ 313344 → h.1 65 = best 17 → h.1 66 = best 18 → (∀ j, j ≠ 17 → j ≠ 18 → best j = cv h 200 j) → i + m = tries → (∀ h2, Fz X h h2 → cv h2 200 = (shk t n m (cv h 200) l best he s).2 → Q (some (vi (bef - (shk t n m (cv h 200) l best he s).1))) h2) → Ev X 71 22 [some (vr 57), some (vr 200), some (vi sd), some (vi tries), some (vi he0), some (vr (200 + 11)), some (vi bef), some (vi (wir (cv h 200) t)), some (vi l), some (vi he), some (vi i), x11, x12] [] h Q := by
  intro m
  induction m with
  | zero =>
    intro i h l he s best x11 x12 z g tm ht hs hds s0 s1 e0 e1 l0 l1 h65 h66 hb hm hq
    have c1 : va_cpy (h.1 65) (h.1 (200 + 17)) 0 0 20 = h.1 65 := cpy_full (fun j hj => z _ j (Or.inl hc.t65) (by rw [hc.z65]; exact hj)) (fun j hj => z _ j (Or.inl hp.t17) (by rw [hp.z17]; exact hj))
    have c2 : va_cpy (h.1 66) (h.1 (200 + 18)) 0 0 20 = h.1 66 := cpy_full (fun j hj => z _ j (Or.inl hc.t66) (by rw [hc.z66]; exact hj)) (fun j hj => z _ j (Or.inl hp.t18) (by rw [hp.z18]; exact hj))
    rw [e_71_22]
    simp (disch := first | assumption | omega) only [e_71_23, e_71_24, e_71_66, e_71_67, e_71_68, e_71_69, e_71_70, e_71_71, e_71_72, e_71_73, e_71_74, e_71_75, e_71_76, e_71_77, e_71_78, e_71_79, e_71_80, e_71_81, e_71_82, e_71_83, e_71_84, e_71_85, onI_s, onR_s, onL_s, gl_0, gl_n, gl_1, gl_2, gl_3, gl_4, gl_5, gl_6, gl_7, gl_8, gl_9, gl_10, gl_11, gl_12, gl_13, gl_14, gl_15, gl_16, gl_17, sk0i, sk0r, sk0n, sk1i, sk1r, sk1n, sk_2, sk_3, sk_4, sk_5, sk_6, sk_7, sk_8, sk_9, sk_10, sk_11, sk_12, sk_13, sk_14, sk_15, sk_16, sk_17, ls_0, ls_1, ls_2, ls_3, ls_4, ls_5, ls_6, ls_7, ls_8, ls_9, ls_10, ls_11, ls_12, ls_13, ls_14, ls_15, ls_16, ls_17, ct1_i, ct1_r, wd8_0, wd8_i1, wd8_r1, wd8_i2, wd8_r2, wd8_i3, wd8_r3, wd8_i4, wd8_r4, wd8_i5, wd8_r5, wd8_i6, wd8_r6, wd8_i7, wd8_r7, wd8_i8, wd8_r8, wd8_l2, wd8_l3, wd8_l4, wd8_l5, wd8_l6, wd8_l7, wd8_l8, tl_s, tl_n, inR_t, bd_t, true_and, and_true, true_or, or_true, if_true_x, if_false_x, if_pos, if_neg, Int.toNat_natCast, natL, bI_0, bI_1, bI_ft, eq_self, b_tf, b_ft, not_true_eq_false, not_false_eq_true, cp_t, tn_0, tn_20, up1_ne, c1, c2, hc.t57, hc.r57_0, hc.r57_1, hc.r57_2, hc.r57_3, hc.r57_4, hc.r57_5, hc.r57_6, hc.r57_7, hc.r57_8, hc.r57_9, hc.r57_10, hc.t65, hc.z65, hc.t66, hc.z66, hp.t0, hp.t1, hp.t2, hp.t3, hp.t4, hp.t5, hp.t6, hp.t7, hp.t8, hp.t9, hp.t10, hp.t11, hp.t12, hp.t13, hp.t14, hp.t15, hp.t16, hp.t17, hp.t18, hp.t19, hp.t20, hp.t21, hp.t22, hp.t23, hp.z2, hp.z3, hp.z4, hp.z5, hp.z7, hp.z8, hp.z9, hp.z10, hp.z12, hp.z13, hp.z14, hp.z15, hp.z16, hp.z17, hp.z18, hp.z20, hp.z21, hp.z22, hp.z23, hp.r0_2, hp.r0_3, hp.r0_4, hp.r0_5, hp.r1_1, hp.r1_2, hp.r1_3, hp.r1_4, hp.r6_1, hp.r6_2, hp.r6_3, hp.r6_4, hp.r11_1, hp.r11_2, hp.r11_3, hp.r11_4, hp.r11_5, hp.r11_6, hp.r11_7, hp.r19_1, hp.r19_2, hp.r19_3, hp.r19_4]
    rw [shk] at hq
    refine hq _ (Fz.I1 (Fz.I1 (I := h.1) (F := h.2) (Fz.refl z) (by omega) (fun j hj => ?_)) (by omega) (fun j hj => ?_)) (cv_2r (fun _ _ _ => rfl) h65 h66 hb)
    · rw [hp.z17] at hj
      exact z _ j (Or.inl hc.t65) (by rw [hc.z65]; exact hj)
    · rw [hp.z18] at hj
      exact z _ j (Or.inl hc.t66) (by rw [hc.z66]; exact hj)
  | succ m ih =>
    intro i h l he s best x11 x12 z g tm ht hs hds s0 s1 e0 e1 l0 l1 h65 h66 hb hm hq
    have hs2 : h.2 (200 + 11) 0 = n := hs
    have d1 := drw_bd s
    have d2 := drw_bd (drw s)
    obtain ⟨an, ha⟩ : ∃ an : Nat, drw s % n = an := ⟨(drw s % n).toNat, by have := Int.emod_nonneg (drw s) (show (n : Int) ≠ 0 by omega); omega⟩
    obtain ⟨bn, hbn⟩ : ∃ bn : Nat, drw (drw s) % n = bn := ⟨(drw (drw s) % n).toNat, by have := Int.emod_nonneg (drw (drw s)) (show (n : Int) ≠ 0 by omega); omega⟩
    have a20 : an < 20 := by have := Int.emod_lt_of_pos (drw s) (show (0 : Int) < n by omega); omega
    have b20 : bn < 20 := by have := Int.emod_lt_of_pos (drw (drw s)) (show (0 : Int) < n by omega); omega
    have wb := wir_bd g t0 t1
    rw [shk] at hq
    rw [e_71_22]
    simp (disch := first | assumption | omega) only [e_71_23, e_71_24, e_71_25, e_71_26, e_71_27, onI_s, onR_s, onL_s, gl_0, gl_n, gl_1, gl_2, gl_3, gl_4, gl_5, gl_6, gl_7, gl_8, gl_9, gl_10, gl_11, gl_12, gl_13, gl_14, gl_15, gl_16, gl_17, sk0i, sk0r, sk0n, sk1i, sk1r, sk1n, sk_2, sk_3, sk_4, sk_5, sk_6, sk_7, sk_8, sk_9, sk_10, sk_11, sk_12, sk_13, sk_14, sk_15, sk_16, sk_17, ls_0, ls_1, ls_2, ls_3, ls_4, ls_5, ls_6, ls_7, ls_8, ls_9, ls_10, ls_11, ls_12, ls_13, ls_14, ls_15, ls_16, ls_17, ct1_i, ct1_r, wd8_0, wd8_i1, wd8_r1, wd8_i2, wd8_r2, wd8_i3, wd8_r3, wd8_i4, wd8_r4, wd8_i5, wd8_r5, wd8_i6, wd8_r6, wd8_i7, wd8_r7, wd8_i8, wd8_r8, wd8_l2, wd8_l3, wd8_l4, wd8_l5, wd8_l6, wd8_l7, wd8_l8, tl_s, tl_n, inR_t, bd_t, true_and, and_true, true_or, or_true, if_true_x, if_false_x, if_pos, if_neg, Int.toNat_natCast, natL, bI_0, bI_1, bI_ft, eq_self, b_tf, b_ft, not_true_eq_false, not_false_eq_true, hs2, hp.t0, hp.t1, hp.t2, hp.t3, hp.t4, hp.t5, hp.t6, hp.t7, hp.t8, hp.t9, hp.t10, hp.t11, hp.t12, hp.t13, hp.t14, hp.t15, hp.t16, hp.t17, hp.t18, hp.t19, hp.t20, hp.t21, hp.t22, hp.t23, hp.z2, hp.z3, hp.z4, hp.z5, hp.z7, hp.z8, hp.z9, hp.z10, hp.z12, hp.z13, hp.z14, hp.z15, hp.z16, hp.z17, hp.z18, hp.z20, hp.z21, hp.z22, hp.z23, hp.r0_2, hp.r0_3, hp.r0_4, hp.r0_5, hp.r1_1, hp.r1_2, hp.r1_3, hp.r1_4, hp.r6_1, hp.r6_2, hp.r6_3, hp.r6_4, hp.r11_1, hp.r11_2, hp.r11_3, hp.r11_4, hp.r11_5, hp.r11_6, hp.r11_7, hp.r19_1, hp.r19_2, hp.r19_3, hp.r19_4]
    (rw [e_71_28]; refine ⟨⟨hc.t57, by decide⟩, ?_⟩)
    rw [m_73 hc (by omega) (by rw [hds]; exact s0) (by rw [hds]; exact s1), hds, ha]
    simp (disch := first | assumption | omega) only [e_71_29, e_71_30, e_71_31, e_71_32, onI_s, onR_s, onL_s, gl_0, gl_n, gl_1, gl_2, gl_3, gl_4, gl_5, gl_6, gl_7, gl_8, gl_9, gl_10, gl_11, gl_12, gl_13, gl_14, gl_15, gl_16, gl_17, sk0i, sk0r, sk0n, sk1i, sk1r, sk1n, sk_2, sk_3, sk_4, sk_5, sk_6, sk_7, sk_8, sk_9, sk_10, sk_11, sk_12, sk_13, sk_14, sk_15, sk_16, sk_17, ls_0, ls_1, ls_2, ls_3, ls_4, ls_5, ls_6, ls_7, ls_8, ls_9, ls_10, ls_11, ls_12, ls_13, ls_14, ls_15, ls_16, ls_17, ct1_i, ct1_r, wd8_0, wd8_i1, wd8_r1, wd8_i2, wd8_r2, wd8_i3, wd8_r3, wd8_i4, wd8_r4, wd8_i5, wd8_r5, wd8_i6, wd8_r6, wd8_i7, wd8_r7, wd8_i8, wd8_r8, wd8_l2, wd8_l3, wd8_l4, wd8_l5, wd8_l6, wd8_l7, wd8_l8, tl_s, tl_n, inR_t, bd_t, true_and, and_true, true_or, or_true, if_true_x, if_false_x, if_pos, if_neg, Int.toNat_natCast, natL, bI_0, bI_1, bI_ft, eq_self, b_tf, b_ft, not_true_eq_false, not_false_eq_true, hs2, up2_oth, hp.t0, hp.t1, hp.t2, hp.t3, hp.t4, hp.t5, hp.t6, hp.t7, hp.t8, hp.t9, hp.t10, hp.t11, hp.t12, hp.t13, hp.t14, hp.t15, hp.t16, hp.t17, hp.t18, hp.t19, hp.t20, hp.t21, hp.t22, hp.t23, hp.z2, hp.z3, hp.z4, hp.z5, hp.z7, hp.z8, hp.z9, hp.z10, hp.z12, hp.z13, hp.z14, hp.z15, hp.z16, hp.z17, hp.z18, hp.z20, hp.z21, hp.z22, hp.z23, hp.r0_2, hp.r0_3, hp.r0_4, hp.r0_5, hp.r1_1, hp.r1_2, hp.r1_3, hp.r1_4, hp.r6_1, hp.r6_2, hp.r6_3, hp.r6_4, hp.r11_1, hp.r11_2, hp.r11_3, hp.r11_4, hp.r11_5, hp.r11_6, hp.r11_7, hp.r19_1, hp.r19_2, hp.r19_3, hp.r19_4]
    (rw [e_71_33]; refine ⟨⟨hc.t57, by decide⟩, ?_⟩)
    rw [m_73 hc (by omega) (by dsimp only; rw [up2_self]; omega) (by dsimp only; rw [up2_self]; omega)]
    dsimp only
    rw [up2_self, up2_up2, hbn]
    have ev1 : cv (h.1, up2 h.2 57 11 (drw (drw s))) 200 = cv h 200 := cv_nF (I := h.1) (F := h.2) (by omega)
    have z1 : NZ X (h.1, up2 h.2 57 11 (drw (drw s))) := z
    have fz1 : Fz X h (h.1, up2 h.2 57 11 (drw (drw s))) := Fz.uF (I := h.1) (F := h.2) (Fz.refl z) (by omega)
    have f1s : (up2 h.2 57 11 (drw (drw s))) 57 11 = drw (drw s) := up2_self
    have g1 : WG (cv (h.1, up2 h.2 57 11 (drw (drw s))) 200) := by rw [ev1]; exact g
    generalize hh1 : ((h.1, up2 h.2 57 11 (drw (drw s))) : xH) = h1 at *
    have r1 : h1.1 = h.1 := by rw [← hh1]
    have s2 : h1.2 57 11 = drw (drw s) := by rw [← hh1]; exact f1s
    have t8 : (7 * he).tdiv 8 = 7 * he / 8 := td_n (by omega)
    have tail : ∀ h2, NZ X h2 → P17 h1 h2 → cv h2 200 = shv (cv h 200) t n he s → Ev X 71 50 [some (vr 57), some (vr 200), some (vi sd), some (vi tries), some (vi he0), some (vr (200 + 11)), some (vi bef), some (vi (wir (cv h2 200) t)), some (vi l), some (vi he), some (vi i), some (vi an), some (vi bn)] [] h2 Q := by
      intro h2 z2 p2 e2
      have g2 : WG (cv h2 200) := by
        rw [e2]
        unfold shv
        split
        · exact exW_wg g
        · exact g
      have wb2 := wir_bd g2 t0 t1
      have t2 : h2.1 1 = h.1 1 := by rw [p2.1 1 (by omega) (by omega), r1]
      have n2 : cv h2 200 11 0 = n := by rw [p2.cvo (by omega), ev1]; exact hs
      have q2 : h2.2 57 11 = drw (drw s) := by rw [p2.2 57 (by omega)]; exact s2
      have fz2 := fz1.tr (p2.fz z2)
      have o2 : ∀ j, j ≠ 17 → j ≠ 18 → cv h2 200 j = cv h 200 j := fun j q1 q2 => by rw [p2.cvo ⟨q1, q2⟩, ev1]
      rw [← e2] at hq
      rw [e_71_50]
      by_cases y : wir (cv h2 200) t < l
      · rw [if_pos y, if_pos y] at hq
        simp (disch := first | assumption | omega) only [e_71_51, e_71_52, e_71_53, e_71_54, e_71_55, e_71_56, e_71_57, e_71_58, e_71_59, e_71_60, e_71_61, e_71_62, e_71_63, e_71_64, e_71_65, onI_s, onR_s, onL_s, gl_0, gl_n, gl_1, gl_2, gl_3, gl_4, gl_5, gl_6, gl_7, gl_8, gl_9, gl_10, gl_11, gl_12, gl_13, gl_14, gl_15, gl_16, gl_17, sk0i, sk0r, sk0n, sk1i, sk1r, sk1n, sk_2, sk_3, sk_4, sk_5, sk_6, sk_7, sk_8, sk_9, sk_10, sk_11, sk_12, sk_13, sk_14, sk_15, sk_16, sk_17, ls_0, ls_1, ls_2, ls_3, ls_4, ls_5, ls_6, ls_7, ls_8, ls_9, ls_10, ls_11, ls_12, ls_13, ls_14, ls_15, ls_16, ls_17, ct1_i, ct1_r, wd8_0, wd8_i1, wd8_r1, wd8_i2, wd8_r2, wd8_i3, wd8_r3, wd8_i4, wd8_r4, wd8_i5, wd8_r5, wd8_i6, wd8_r6, wd8_i7, wd8_r7, wd8_i8, wd8_r8, wd8_l2, wd8_l3, wd8_l4, wd8_l5, wd8_l6, wd8_l7, wd8_l8, tl_s, tl_n, inR_t, bd_t, true_and, and_true, true_or, or_true, if_true_x, if_false_x, if_pos, if_neg, Int.toNat_natCast, natL, bI_0, bI_1, bI_ft, eq_self, b_tf, b_ft, not_true_eq_false, not_false_eq_true, m_72 hc hp z2, dv_t, dvR, t8, show ((8 : Int) ≠ 0) ↔ True from nz_8, cast_s, hc.t57, hc.r57_0, hc.r57_1, hc.r57_2, hc.r57_3, hc.r57_4, hc.r57_5, hc.r57_6, hc.r57_7, hc.r57_8, hc.r57_9, hc.r57_10, hp.t0, hp.t1, hp.t2, hp.t3, hp.t4, hp.t5, hp.t6, hp.t7, hp.t8, hp.t9, hp.t10, hp.t11, hp.t12, hp.t13, hp.t14, hp.t15, hp.t16, hp.t17, hp.t18, hp.t19, hp.t20, hp.t21, hp.t22, hp.t23, hp.z2, hp.z3, hp.z4, hp.z5, hp.z7, hp.z8, hp.z9, hp.z10, hp.z12, hp.z13, hp.z14, hp.z15, hp.z16, hp.z17, hp.z18, hp.z20, hp.z21, hp.z22, hp.z23, hp.r0_2, hp.r0_3, hp.r0_4, hp.r0_5, hp.r1_1, hp.r1_2, hp.r1_3, hp.r1_4, hp.r6_1, hp.r6_2, hp.r6_3, hp.r6_4, hp.r11_1, hp.r11_2, hp.r11_3, hp.r11_4, hp.r11_5, hp.r11_6, hp.r11_7, hp.r19_1, hp.r19_2, hp.r19_3, hp.r19_4]
        have ev3 : cv (up1 (up1 h2.1 65 (h2.1 (200 + 17))) 66 (h2.1 (200 + 18)), h2.2) 200 = cv h2 200 := cv_congr (fun a q1 q2 => ⟨by dsimp only; rw [up1_o (by omega), up1_o (by omega)], rfl⟩)
        have fz3 := Fz.I1 (X := X) (h := h2) (a := 66) (g := h2.1 (200 + 18)) (Fz.I1 (I := h2.1) (F := h2.2) (a := 65) (g := h2.1 (200 + 17)) (Fz.refl z2) (by omega) (fun j hj => by rw [hc.z65] at hj; exact z2 _ j (Or.inl hp.t17) (by rw [hp.z17]; exact hj))) (by omega) (fun j hj => by rw [hc.z66] at hj; exact z2 _ j (Or.inl hp.t18) (by rw [hp.z18]; exact hj))
        have := ih (i + 1) _ (wir (cv h2 200) t) (7 * he / 8) (drw (drw s)) (cv h2 200) (some (vi an)) (some (vi bn)) fz3.1 (by rw [ev3]; exact g2) (by dsimp only; rw [up1_o (by omega), up1_o (by omega), t2]; exact tm) (by dsimp only; rw [up1_o (by omega), up1_o (by omega), t2]; exact ht) (by rw [ev3]; exact n2) q2 d2.1 d2.2 (by omega) (by omega) wb2.1 wb2.2 (by dsimp only; rw [up1_o (by omega), up1_self]; rfl) (by dsimp only; rw [up1_self]; rfl) (fun j _ _ => by rw [ev3]) (by omega) (fun h4 f4 e4 => by
          rw [ev3] at e4 ⊢
          exact hq h4 ((fz2.tr fz3).tr f4) e4)
        rw [ev3] at this
        exact this
      · rw [if_neg y, if_neg y] at hq
        simp (disch := first | assumption | omega) only [e_71_51, e_71_52, e_71_58, e_71_59, e_71_60, e_71_61, e_71_62, e_71_63, e_71_64, e_71_65, onI_s, onR_s, onL_s, gl_0, gl_n, gl_1, gl_2, gl_3, gl_4, gl_5, gl_6, gl_7, gl_8, gl_9, gl_10, gl_11, gl_12, gl_13, gl_14, gl_15, gl_16, gl_17, sk0i, sk0r, sk0n, sk1i, sk1r, sk1n, sk_2, sk_3, sk_4, sk_5, sk_6, sk_7, sk_8, sk_9, sk_10, sk_11, sk_12, sk_13, sk_14, sk_15, sk_16, sk_17, ls_0, ls_1, ls_2, ls_3, ls_4, ls_5, ls_6, ls_7, ls_8, ls_9, ls_10, ls_11, ls_12, ls_13, ls_14, ls_15, ls_16, ls_17, ct1_i, ct1_r, wd8_0, wd8_i1, wd8_r1, wd8_i2, wd8_r2, wd8_i3, wd8_r3, wd8_i4, wd8_r4, wd8_i5, wd8_r5, wd8_i6, wd8_r6, wd8_i7, wd8_r7, wd8_i8, wd8_r8, wd8_l2, wd8_l3, wd8_l4, wd8_l5, wd8_l6, wd8_l7, wd8_l8, tl_s, tl_n, inR_t, bd_t, true_and, and_true, true_or, or_true, if_true_x, if_false_x, if_pos, if_neg, Int.toNat_natCast, natL, bI_0, bI_1, bI_ft, eq_self, b_tf, b_ft, not_true_eq_false, not_false_eq_true, dv_t, dvR, t8, show ((8 : Int) ≠ 0) ↔ True from nz_8, cast_s, hp.t0, hp.t1, hp.t2, hp.t3, hp.t4, hp.t5, hp.t6, hp.t7, hp.t8, hp.t9, hp.t10, hp.t11, hp.t12, hp.t13, hp.t14, hp.t15, hp.t16, hp.t17, hp.t18, hp.t19, hp.t20, hp.t21, hp.t22, hp.t23, hp.z2, hp.z3, hp.z4, hp.z5, hp.z7, hp.z8, hp.z9, hp.z10, hp.z12, hp.z13, hp.z14, hp.z15, hp.z16, hp.z17, hp.z18, hp.z20, hp.z21, hp.z22, hp.z23, hp.r0_2, hp.r0_3, hp.r0_4, hp.r0_5, hp.r1_1, hp.r1_2, hp.r1_3, hp.r1_4, hp.r6_1, hp.r6_2, hp.r6_3, hp.r6_4, hp.r11_1, hp.r11_2, hp.r11_3, hp.r11_4, hp.r11_5, hp.r11_6, hp.r11_7, hp.r19_1, hp.r19_2, hp.r19_3, hp.r19_4]
        refine ih (i + 1) h2 l (7 * he / 8) (drw (drw s)) best _ _ z2 g2 (by rw [t2]; exact tm) (by rw [t2]; exact ht) n2 q2 d2.1 d2.2 (by omega) (by omega) l0 l1 (by rw [p2.1 65 (by omega) (by omega), r1]; exact h65) (by rw [p2.1 66 (by omega) (by omega), r1]; exact h66) (fun j q1 q2 => by rw [o2 j q1 q2]; exact hb j q1 q2) (by omega) (fun h4 f4 e4 => hq h4 (fz2.tr f4) e4)
    have m24 : ∀ {Q2 : Option xV → xH → Prop}, Cl X 24 [vr (200 + 11), vi (an : Int), vi (bn : Int)] h1 Q2 ↔ Q2 (some (vi (bI (!decide ((an : Int) = bn) && likB (cv h 200) an bn)))) h1 := by
      intro Q2
      rw [m_24 hp (by omega) (by omega) (by omega) (by omega), ← ev1]
      unfold likB
      simp only [Bool.and_assoc]
      exact Iff.rfl
    have sv : shv (cv h 200) t n he s = if ¬ (an : Int) = bn ∧ likB (cv h 200) an bn = true then exW (cv h 200) t an bn (wir (cv h 200) t + he) else cv h 200 := by
      unfold shv
      rw [ha, hbn, Int.toNat_natCast, Int.toNat_natCast]
    by_cases y : ¬ (an : Int) = bn ∧ likB (cv h 200) an bn = true
    · have d : (!decide ((an : Int) = bn) && likB (cv h 200) an bn) = true := by simp [y.1, y.2]
      rw [if_pos y] at sv
      simp (disch := first | assumption | omega) only [e_71_34, e_71_35, e_71_36, e_71_37, e_71_38, e_71_39, e_71_40, e_71_41, e_71_42, e_71_43, e_71_44, e_71_45, e_71_46, e_71_47, onI_s, onR_s, onL_s, gl_0, gl_n, gl_1, gl_2, gl_3, gl_4, gl_5, gl_6, gl_7, gl_8, gl_9, gl_10, gl_11, gl_12, gl_13, gl_14, gl_15, gl_16, gl_17, sk0i, sk0r, sk0n, sk1i, sk1r, sk1n, sk_2, sk_3, sk_4, sk_5, sk_6, sk_7, sk_8, sk_9, sk_10, sk_11, sk_12, sk_13, sk_14, sk_15, sk_16, sk_17, ls_0, ls_1, ls_2, ls_3, ls_4, ls_5, ls_6, ls_7, ls_8, ls_9, ls_10, ls_11, ls_12, ls_13, ls_14, ls_15, ls_16, ls_17, ct1_i, ct1_r, wd8_0, wd8_i1, wd8_r1, wd8_i2, wd8_r2, wd8_i3, wd8_r3, wd8_i4, wd8_r4, wd8_i5, wd8_r5, wd8_i6, wd8_r6, wd8_i7, wd8_r7, wd8_i8, wd8_r8, wd8_l2, wd8_l3, wd8_l4, wd8_l5, wd8_l6, wd8_l7, wd8_l8, tl_s, tl_n, inR_t, bd_t, true_and, and_true, true_or, or_true, if_true_x, if_false_x, if_pos, if_neg, Int.toNat_natCast, natL, bI_0, bI_1, bI_ft, eq_self, b_tf, b_ft, not_true_eq_false, not_false_eq_true, m24, d, hp.t0, hp.t1, hp.t2, hp.t3, hp.t4, hp.t5, hp.t6, hp.t7, hp.t8, hp.t9, hp.t10, hp.t11, hp.t12, hp.t13, hp.t14, hp.t15, hp.t16, hp.t17, hp.t18, hp.t19, hp.t20, hp.t21, hp.t22, hp.t23, hp.z2, hp.z3, hp.z4, hp.z5, hp.z7, hp.z8, hp.z9, hp.z10, hp.z12, hp.z13, hp.z14, hp.z15, hp.z16, hp.z17, hp.z18, hp.z20, hp.z21, hp.z22, hp.z23, hp.r0_2, hp.r0_3, hp.r0_4, hp.r0_5, hp.r1_1, hp.r1_2, hp.r1_3, hp.r1_4, hp.r6_1, hp.r6_2, hp.r6_3, hp.r6_4, hp.r11_1, hp.r11_2, hp.r11_3, hp.r11_4, hp.r11_5, hp.r11_6, hp.r11_7, hp.r19_1, hp.r19_2, hp.r19_3, hp.r19_4]
      (rw [e_71_48]; refine ⟨⟨hc.t57, by decide⟩, ?_⟩)
      refine m_63p hp hc z1 g1 (by rw [r1]; exact tm) a20 b20 (fun h2 z2 p2 e2 => ?_)
      rw [ev1, r1, ht] at e2 ⊢
      have ew : (if wir (exV (cv h 200) an bn) t ≤ wir (cv h 200) t + he then wir (exV (cv h 200) an bn) t else wir (cv h 200) t) = wir (cv h2 200) t := by
        rw [e2]
        unfold exW
        by_cases y : wir (exV (cv h 200) an bn) t ≤ wir (cv h 200) t + he
        · rw [if_pos y, if_pos y]
        · rw [if_neg y, if_neg y]
      rw [ew]
      simp (disch := first | assumption | omega) only [e_71_49, onI_s, onR_s, onL_s, gl_0, gl_n, gl_1, gl_2, gl_3, gl_4, gl_5, gl_6, gl_7, gl_8, gl_9, gl_10, gl_11, gl_12, gl_13, gl_14, gl_15, gl_16, gl_17, sk0i, sk0r, sk0n, sk1i, sk1r, sk1n, sk_2, sk_3, sk_4, sk_5, sk_6, sk_7, sk_8, sk_9, sk_10, sk_11, sk_12, sk_13, sk_14, sk_15, sk_16, sk_17, ls_0, ls_1, ls_2, ls_3, ls_4, ls_5, ls_6, ls_7, ls_8, ls_9, ls_10, ls_11, ls_12, ls_13, ls_14, ls_15, ls_16, ls_17, ct1_i, ct1_r, wd8_0, wd8_i1, wd8_r1, wd8_i2, wd8_r2, wd8_i3, wd8_r3, wd8_i4, wd8_r4, wd8_i5, wd8_r5, wd8_i6, wd8_r6, wd8_i7, wd8_r7, wd8_i8, wd8_r8, wd8_l2, wd8_l3, wd8_l4, wd8_l5, wd8_l6, wd8_l7, wd8_l8, tl_s, tl_n, inR_t, bd_t, true_and, and_true, true_or, or_true, if_true_x, if_false_x, if_pos, if_neg, Int.toNat_natCast, natL, bI_0, bI_1, bI_ft, eq_self, b_tf, b_ft, not_true_eq_false, not_false_eq_true]
      exact tail h2 z2 p2 (by rw [e2, sv])
    · have d : (!decide ((an : Int) = bn) && likB (cv h 200) an bn) = false := by
        rw [Bool.eq_false_iff]
        intro q
        simp only [Bool.and_eq_true, Bool.not_eq_true', decide_eq_false_iff_not] at q
        exact y q
      rw [if_neg y] at sv
      simp (disch := first | assumption | omega) only [e_71_34, e_71_35, e_71_36, e_71_37, e_71_38, e_71_39, onI_s, onR_s, onL_s, gl_0, gl_n, gl_1, gl_2, gl_3, gl_4, gl_5, gl_6, gl_7, gl_8, gl_9, gl_10, gl_11, gl_12, gl_13, gl_14, gl_15, gl_16, gl_17, sk0i, sk0r, sk0n, sk1i, sk1r, sk1n, sk_2, sk_3, sk_4, sk_5, sk_6, sk_7, sk_8, sk_9, sk_10, sk_11, sk_12, sk_13, sk_14, sk_15, sk_16, sk_17, ls_0, ls_1, ls_2, ls_3, ls_4, ls_5, ls_6, ls_7, ls_8, ls_9, ls_10, ls_11, ls_12, ls_13, ls_14, ls_15, ls_16, ls_17, ct1_i, ct1_r, wd8_0, wd8_i1, wd8_r1, wd8_i2, wd8_r2, wd8_i3, wd8_r3, wd8_i4, wd8_r4, wd8_i5, wd8_r5, wd8_i6, wd8_r6, wd8_i7, wd8_r7, wd8_i8, wd8_r8, wd8_l2, wd8_l3, wd8_l4, wd8_l5, wd8_l6, wd8_l7, wd8_l8, tl_s, tl_n, inR_t, bd_t, true_and, and_true, true_or, or_true, if_true_x, if_false_x, if_pos, if_neg, Int.toNat_natCast, natL, bI_0, bI_1, bI_ft, eq_self, b_tf, b_ft, not_true_eq_false, not_false_eq_true, m24, d, hp.t0, hp.t1, hp.t2, hp.t3, hp.t4, hp.t5, hp.t6, hp.t7, hp.t8, hp.t9, hp.t10, hp.t11, hp.t12, hp.t13, hp.t14, hp.t15, hp.t16, hp.t17, hp.t18, hp.t19, hp.t20, hp.t21, hp.t22, hp.t23, hp.z2, hp.z3, hp.z4, hp.z5, hp.z7, hp.z8, hp.z9, hp.z10, hp.z12, hp.z13, hp.z14, hp.z15, hp.z16, hp.z17, hp.z18, hp.z20, hp.z21, hp.z22, hp.z23, hp.r0_2, hp.r0_3, hp.r0_4, hp.r0_5, hp.r1_1, hp.r1_2, hp.r1_3, hp.r1_4, hp.r6_1, hp.r6_2, hp.r6_3, hp.r6_4, hp.r11_1, hp.r11_2, hp.r11_3, hp.r11_4, hp.r11_5, hp.r11_6, hp.r11_7, hp.r19_1, hp.r19_2, hp.r19_3, hp.r19_4]
      have := tail h1 z1 P17.refl (by rw [ev1, sv])
      rw [ev1] at this
      exact this
end SHL
