def smW (v : Nat → Nat → Int) (t gm : Int) (c : Nat) (n : Nat) : Int := if pnO v n c = -1 then 0 else v 20 n * smN v t gm n
theorem smT_bd {v : Nat → Nat → Int} {t gm : Int} (g : WG v) {n : Nat} (hn : (n : Int) < v 19 0) (t0 : 0 ≤ t) (t1 : t ≤ 8) (hg : 0 < gm) : -251100 ≤ v 20 n * smN v t gm n ∧ v 20 n * smN v t gm n ≤ 251100 := by
  have a := (smN_bd (gm := gm) g.1 g.2.2 hn t0 t1 hg).2
  have w := g.1.wgt n
  have c1 := mul_bd (a := v 20 n) (b := smN v t gm n + 27900) (A := 9) (B := 55800) w.1 w.2 (by omega) (by omega)
  have c2 : v 20 n * (smN v t gm n + 27900) = v 20 n * smN v t gm n + v 20 n * 27900 := Int.mul_add _ _ _
  have c3 := mul_bd (a := v 20 n) (b := 27900 - smN v t gm n) (A := 9) (B := 55800) w.1 w.2 (by omega) (by omega)
  have c4 : v 20 n * (27900 - smN v t gm n) = v 20 n * 27900 - v 20 n * smN v t gm n := Int.mul_sub _ _ _
  omega
theorem sumF_bs {f : Nat → Int} {B : Int} : ∀ (m i : Nat), (∀ j, i ≤ j → j < i + m → -B ≤ f j ∧ f j ≤ B) → -(m * B) ≤ sumF f m i ∧ sumF f m i ≤ m * B
  | 0, _, _ => by rw [sumF]; simp
  | m + 1, i, h => by
    have h1 := sumF_bs m (i + 1) (fun j a c => h j (by omega) (by omega))
    have h2 := h i (by omega) (by omega)
    rw [sumF]
    have h3 : ((m + 1 : Nat) : Int) * B = m * B + B := by rw [Int.natCast_add, Int.add_mul]; simp
    omega
theorem smO_bd {v : Nat → Nat → Int} {t gm : Int} (g : WG v) (t0 : 0 ≤ t) (t1 : t ≤ 8) (hg : 0 < gm) : -4017600 ≤ smO v t gm ∧ smO v t gm ≤ 4017600 := by
  have nN := g.1.nN
  have := sumF_bs (f := fun n => v 20 n * smN v t gm n) (B := 251100) (v 19 0).toNat 0 (fun j h1 h2 => smT_bd g (by omega) t0 t1 hg)
  unfold smO
  omega
section SME
variable {X : xL} {Q : Option xV → xH → Prop} {ns nb ln : Nat}
set_option maxHeartbeats 4000000 in
theorem l_96 (hp : PL X 200) (hc : CT X ns nb ln) {v : Nat → Nat → Int} {t gm : Int} {N : Nat} (g : WG v) (hN : v 19 0 = N) : ∀ (m i : Nat) (a : Int) (h : xH), NZ X h → cv h 200 = v → TMb (h.1 1) → h.1 1 4 = t → h.1 1 0 = gm → i + m = N → -(i * 251100) ≤ a → a ≤ i * 251100 → (∀ h2, NZ X h2 → S15 h h2 → Q (some (vi (a + sumF (fun n => v 20 n * smN v t gm n) m i))) h2) → Ev X 96 4 [some (vr 14), some (vr 200), some (vi a), some (vi i)] [] h Q := by
  have nN := g.1.nN
  intro m
  induction m with
  | zero =>
    intro i a h z ev tm ht hg hm a0 a1 hq
    have hs : h.2 (200 + 19) 0 = N := by rw [← hN, ← ev]; rfl
    rw [e_96_4]
    simp (disch := first | assumption | omega) only [e_96_5, e_96_6, e_96_7, e_96_8, e_96_24, e_96_25, onI_s, onR_s, onL_s, gl_0, gl_n, gl_1, gl_2, gl_3, gl_4, gl_5, gl_6, gl_7, gl_8, gl_9, gl_10, gl_11, gl_12, gl_13, gl_14, gl_15, gl_16, gl_17, sk0i, sk0r, sk0n, sk1i, sk1r, sk1n, sk_2, sk_3, sk_4, sk_5, sk_6, sk_7, sk_8, sk_9, sk_10, sk_11, sk_12, sk_13, sk_14, sk_15, sk_16, sk_17, ls_0, ls_1, ls_2, ls_3, ls_4, ls_5, ls_6, ls_7, ls_8, ls_9, ls_10, ls_11, ls_12, ls_13, ls_14, ls_15, ls_16, ls_17, ct1_i, ct1_r, wd8_0, wd8_i1, wd8_r1, wd8_i2, wd8_r2, wd8_i3, wd8_r3, wd8_i4, wd8_r4, wd8_i5, wd8_r5, wd8_i6, wd8_r6, wd8_i7, wd8_r7, wd8_i8, wd8_r8, wd8_l2, wd8_l3, wd8_l4, wd8_l5, wd8_l6, wd8_l7, wd8_l8, tl_s, tl_n, inR_t, bd_t, true_and, and_true, true_or, or_true, if_true_x, if_false_x, if_pos, if_neg, Int.toNat_natCast, natL, bI_0, bI_1, bI_ft, eq_self, b_tf, b_ft, not_true_eq_false, not_false_eq_true, hs, hp.t0, hp.t1, hp.t2, hp.t3, hp.t4, hp.t5, hp.t6, hp.t7, hp.t8, hp.t9, hp.t10, hp.t11, hp.t12, hp.t13, hp.t14, hp.t15, hp.t16, hp.t17, hp.t18, hp.t19, hp.t20, hp.t21, hp.t22, hp.t23, hp.z2, hp.z3, hp.z4, hp.z5, hp.z7, hp.z8, hp.z9, hp.z10, hp.z12, hp.z13, hp.z14, hp.z15, hp.z16, hp.z17, hp.z18, hp.z20, hp.z21, hp.z22, hp.z23, hp.r0_2, hp.r0_3, hp.r0_4, hp.r0_5, hp.r1_1, hp.r1_2, hp.r1_3, hp.r1_4, hp.r6_1, hp.r6_2, hp.r6_3, hp.r6_4, hp.r11_1, hp.r11_2, hp.r11_3, hp.r11_4, hp.r11_5, hp.r11_6, hp.r11_7, hp.r19_1, hp.r19_2, hp.r19_3, hp.r19_4]
    rw [sumF, Int.add_zero] at hq
    exact hq h z S15.refl
  | succ m ih =>
    intro i a h z ev tm ht hg hm a0 a1 hq
    have hs : h.2 (200 + 19) 0 = N := by rw [← hN, ← ev]; rfl
    have e20 : h.1 (200 + 20) i = v 20 i := by rw [← ev]; rfl
    have tt := tm.tall
    have tg := tm.gam
    have tb := smT_bd (t := t) (gm := gm) g (n := i) (by omega) (by omega) (by omega) (by omega)
    rw [e_96_4]
    simp (disch := first | assumption | omega) only [e_96_5, e_96_6, e_96_7, e_96_8, e_96_9, e_96_10, e_96_11, e_96_12, e_96_13, e_96_14, e_96_15, e_96_16, e_96_17, onI_s, onR_s, onL_s, gl_0, gl_n, gl_1, gl_2, gl_3, gl_4, gl_5, gl_6, gl_7, gl_8, gl_9, gl_10, gl_11, gl_12, gl_13, gl_14, gl_15, gl_16, gl_17, sk0i, sk0r, sk0n, sk1i, sk1r, sk1n, sk_2, sk_3, sk_4, sk_5, sk_6, sk_7, sk_8, sk_9, sk_10, sk_11, sk_12, sk_13, sk_14, sk_15, sk_16, sk_17, ls_0, ls_1, ls_2, ls_3, ls_4, ls_5, ls_6, ls_7, ls_8, ls_9, ls_10, ls_11, ls_12, ls_13, ls_14, ls_15, ls_16, ls_17, ct1_i, ct1_r, wd8_0, wd8_i1, wd8_r1, wd8_i2, wd8_r2, wd8_i3, wd8_r3, wd8_i4, wd8_r4, wd8_i5, wd8_r5, wd8_i6, wd8_r6, wd8_i7, wd8_r7, wd8_i8, wd8_r8, wd8_l2, wd8_l3, wd8_l4, wd8_l5, wd8_l6, wd8_l7, wd8_l8, tl_s, tl_n, inR_t, bd_t, true_and, and_true, true_or, or_true, if_true_x, if_false_x, if_pos, if_neg, Int.toNat_natCast, natL, bI_0, bI_1, bI_ft, eq_self, b_tf, b_ft, not_true_eq_false, not_false_eq_true, hs, e20, hc.t14, hc.r14_0, hc.r14_5, hc.r14_7, hc.r14_8, hc.r14_9, hc.r14_10, hc.r14_11, hc.r14_12, hp.t0, hp.t1, hp.t2, hp.t3, hp.t4, hp.t5, hp.t6, hp.t7, hp.t8, hp.t9, hp.t10, hp.t11, hp.t12, hp.t13, hp.t14, hp.t15, hp.t16, hp.t17, hp.t18, hp.t19, hp.t20, hp.t21, hp.t22, hp.t23, hp.z2, hp.z3, hp.z4, hp.z5, hp.z7, hp.z8, hp.z9, hp.z10, hp.z12, hp.z13, hp.z14, hp.z15, hp.z16, hp.z17, hp.z18, hp.z20, hp.z21, hp.z22, hp.z23, hp.r0_2, hp.r0_3, hp.r0_4, hp.r0_5, hp.r1_1, hp.r1_2, hp.r1_3, hp.r1_4, hp.r6_1, hp.r6_2, hp.r6_3, hp.r6_4, hp.r11_1, hp.r11_2, hp.r11_3, hp.r11_4, hp.r11_5, hp.r11_6, hp.r11_7, hp.r19_1, hp.r19_2, hp.r19_3, hp.r19_4]
    (rw [e_96_18]; refine ⟨⟨hc.t14, by simp [wd_i, wd_r, wd_l, wd_0]⟩, ?_⟩)
    refine m_98 hp hc z (by rw [ev]; exact g) tm (by rw [ev]; omega) (fun h2 z2 s2 => ?_)
    rw [ev, ht, hg]
    rw [sumF, ← Int.add_assoc] at hq
    simp (disch := first | assumption | omega) only [e_96_19, e_96_20, e_96_21, e_96_22, e_96_23, onI_s, onR_s, onL_s, gl_0, gl_n, gl_1, gl_2, gl_3, gl_4, gl_5, gl_6, gl_7, gl_8, gl_9, gl_10, gl_11, gl_12, gl_13, gl_14, gl_15, gl_16, gl_17, sk0i, sk0r, sk0n, sk1i, sk1r, sk1n, sk_2, sk_3, sk_4, sk_5, sk_6, sk_7, sk_8, sk_9, sk_10, sk_11, sk_12, sk_13, sk_14, sk_15, sk_16, sk_17, ls_0, ls_1, ls_2, ls_3, ls_4, ls_5, ls_6, ls_7, ls_8, ls_9, ls_10, ls_11, ls_12, ls_13, ls_14, ls_15, ls_16, ls_17, ct1_i, ct1_r, wd8_0, wd8_i1, wd8_r1, wd8_i2, wd8_r2, wd8_i3, wd8_r3, wd8_i4, wd8_r4, wd8_i5, wd8_r5, wd8_i6, wd8_r6, wd8_i7, wd8_r7, wd8_i8, wd8_r8, wd8_l2, wd8_l3, wd8_l4, wd8_l5, wd8_l6, wd8_l7, wd8_l8, tl_s, tl_n, inR_t, bd_t, true_and, and_true, true_or, or_true, if_true_x, if_false_x, if_pos, if_neg, Int.toNat_natCast, natL, bI_0, bI_1, bI_ft, eq_self, b_tf, b_ft, not_true_eq_false, not_false_eq_true, cast_s]
    refine ih (i + 1) _ h2 z2 (s2.cv.trans ev) (by rw [s2.1 1 (by omega)]; exact tm) (by rw [s2.1 1 (by omega)]; exact ht) (by rw [s2.1 1 (by omega)]; exact hg) (by omega) ?_ ?_ (fun h3 z3 s3 => hq h3 z3 (s2.tr s3))
    · rw [Int.natCast_add, Int.add_mul]; omega
    · rw [Int.natCast_add, Int.add_mul]; omega
theorem m_96 {h : xH} (hp : PL X 200) (hc : CT X ns nb ln) (z : NZ X h) (g : WG (cv h 200)) (tm : TMb (h.1 1)) (hq : ∀ h2, NZ X h2 → S15 h h2 → Q (some (vi (smO (cv h 200) (h.1 1 4) (h.1 1 0)))) h2) : Cl X 96 [vr 14, vr 200] h Q := by
  have nN := g.1.nN
  rw [c_96]
  simp (disch := first | assumption | omega) only [e_96_0, e_96_1, e_96_2, e_96_3, onI_s, onR_s, onL_s, gl_0, gl_n, gl_1, gl_2, gl_3, gl_4, gl_5, gl_6, gl_7, gl_8, gl_9, gl_10, gl_11, gl_12, gl_13, gl_14, gl_15, gl_16, gl_17, sk0i, sk0r, sk0n, sk1i, sk1r, sk1n, sk_2, sk_3, sk_4, sk_5, sk_6, sk_7, sk_8, sk_9, sk_10, sk_11, sk_12, sk_13, sk_14, sk_15, sk_16, sk_17, ls_0, ls_1, ls_2, ls_3, ls_4, ls_5, ls_6, ls_7, ls_8, ls_9, ls_10, ls_11, ls_12, ls_13, ls_14, ls_15, ls_16, ls_17, ct1_i, ct1_r, wd8_0, wd8_i1, wd8_r1, wd8_i2, wd8_r2, wd8_i3, wd8_r3, wd8_i4, wd8_r4, wd8_i5, wd8_r5, wd8_i6, wd8_r6, wd8_i7, wd8_r7, wd8_i8, wd8_r8, wd8_l2, wd8_l3, wd8_l4, wd8_l5, wd8_l6, wd8_l7, wd8_l8, tl_s, tl_n, inR_t, bd_t, true_and, and_true, true_or, or_true, if_true_x, if_false_x, if_pos, if_neg, Int.toNat_natCast, natL, bI_0, bI_1, bI_ft, eq_self, b_tf, b_ft, not_true_eq_false, not_false_eq_true]
  refine l_96 hp hc (v := cv h 200) (t := h.1 1 4) (gm := h.1 1 0) (N := (cv h 200 19 0).toNat) g (by omega) (cv h 200 19 0).toNat 0 0 h z rfl tm rfl rfl (by omega) (by omega) (by omega) (fun h2 a b => ?_)
  rw [Int.zero_add]
  exact hq h2 a b
set_option maxHeartbeats 4000000 in
theorem l_97 (hp : PL X 200) (hc : CT X ns nb ln) {v : Nat → Nat → Int} {t gm : Int} {N c : Nat} (g : WG v) (hN : v 19 0 = N) : ∀ (m i : Nat) (a : Int) (h : xH), NZ X h → cv h 200 = v → TMb (h.1 1) → h.1 1 4 = t → h.1 1 0 = gm → i + m = N → -(i * 251100) ≤ a → a ≤ i * 251100 → (∀ h2, NZ X h2 → S15 h h2 → Q (some (vi (a + sumF (smW v t gm c) m i))) h2) → Ev X 97 4 [some (vr 14), some (vr 200), some (vi c), some (vi a), some (vi i)] [] h Q := by
  have nN := g.1.nN
  intro m
  induction m with
  | zero =>
    intro i a h z ev tm ht hg hm a0 a1 hq
    have hs : h.2 (200 + 19) 0 = N := by rw [← hN, ← ev]; rfl
    rw [e_97_4]
    simp (disch := first | assumption | omega) only [e_97_5, e_97_6, e_97_7, e_97_8, e_97_31, e_97_32, onI_s, onR_s, onL_s, gl_0, gl_n, gl_1, gl_2, gl_3, gl_4, gl_5, gl_6, gl_7, gl_8, gl_9, gl_10, gl_11, gl_12, gl_13, gl_14, gl_15, gl_16, gl_17, sk0i, sk0r, sk0n, sk1i, sk1r, sk1n, sk_2, sk_3, sk_4, sk_5, sk_6, sk_7, sk_8, sk_9, sk_10, sk_11, sk_12, sk_13, sk_14, sk_15, sk_16, sk_17, ls_0, ls_1, ls_2, ls_3, ls_4, ls_5, ls_6, ls_7, ls_8, ls_9, ls_10, ls_11, ls_12, ls_13, ls_14, ls_15, ls_16, ls_17, ct1_i, ct1_r, wd8_0, wd8_i1, wd8_r1, wd8_i2, wd8_r2, wd8_i3, wd8_r3, wd8_i4, wd8_r4, wd8_i5, wd8_r5, wd8_i6, wd8_r6, wd8_i7, wd8_r7, wd8_i8, wd8_r8, wd8_l2, wd8_l3, wd8_l4, wd8_l5, wd8_l6, wd8_l7, wd8_l8, tl_s, tl_n, inR_t, bd_t, true_and, and_true, true_or, or_true, if_true_x, if_false_x, if_pos, if_neg, Int.toNat_natCast, natL, bI_0, bI_1, bI_ft, eq_self, b_tf, b_ft, not_true_eq_false, not_false_eq_true, hs, hp.t0, hp.t1, hp.t2, hp.t3, hp.t4, hp.t5, hp.t6, hp.t7, hp.t8, hp.t9, hp.t10, hp.t11, hp.t12, hp.t13, hp.t14, hp.t15, hp.t16, hp.t17, hp.t18, hp.t19, hp.t20, hp.t21, hp.t22, hp.t23, hp.z2, hp.z3, hp.z4, hp.z5, hp.z7, hp.z8, hp.z9, hp.z10, hp.z12, hp.z13, hp.z14, hp.z15, hp.z16, hp.z17, hp.z18, hp.z20, hp.z21, hp.z22, hp.z23, hp.r0_2, hp.r0_3, hp.r0_4, hp.r0_5, hp.r1_1, hp.r1_2, hp.r1_3, hp.r1_4, hp.r6_1, hp.r6_2, hp.r6_3, hp.r6_4, hp.r11_1, hp.r11_2, hp.r11_3, hp.r11_4, hp.r11_5, hp.r11_6, hp.r11_7, hp.r19_1, hp.r19_2, hp.r19_3, hp.r19_4]
    rw [sumF, Int.add_zero] at hq
    exact hq h z S15.refl
  | succ m ih =>
    intro i a h z ev tm ht hg hm a0 a1 hq
    have hs : h.2 (200 + 19) 0 = N := by rw [← hN, ← ev]; rfl
    have e20 : h.1 (200 + 20) i = v 20 i := by rw [← ev]; rfl
    have hw : RGv (cv h 200) := by rw [ev]; exact g.1
    have i16 : i < 16 := by omega
    have tt := tm.tall
    have tg := tm.gam
    have tb := smT_bd (t := t) (gm := gm) g (n := i) (by omega) (by omega) (by omega) (by omega)
    rw [sumF, ← Int.add_assoc] at hq
    rw [e_97_4]
    by_cases e : pnO v i c = -1
    · have es : smW v t gm c i = 0 := by unfold smW; rw [if_pos e]
      rw [es, Int.add_zero] at hq
      simp (disch := first | assumption | omega) only [e_97_5, e_97_6, e_97_7, e_97_8, e_97_9, e_97_10, e_97_11, e_97_12, e_97_13, e_97_14, e_97_15, e_97_29, e_97_30, onI_s, onR_s, onL_s, gl_0, gl_n, gl_1, gl_2, gl_3, gl_4, gl_5, gl_6, gl_7, gl_8, gl_9, gl_10, gl_11, gl_12, gl_13, gl_14, gl_15, gl_16, gl_17, sk0i, sk0r, sk0n, sk1i, sk1r, sk1n, sk_2, sk_3, sk_4, sk_5, sk_6, sk_7, sk_8, sk_9, sk_10, sk_11, sk_12, sk_13, sk_14, sk_15, sk_16, sk_17, ls_0, ls_1, ls_2, ls_3, ls_4, ls_5, ls_6, ls_7, ls_8, ls_9, ls_10, ls_11, ls_12, ls_13, ls_14, ls_15, ls_16, ls_17, ct1_i, ct1_r, wd8_0, wd8_i1, wd8_r1, wd8_i2, wd8_r2, wd8_i3, wd8_r3, wd8_i4, wd8_r4, wd8_i5, wd8_r5, wd8_i6, wd8_r6, wd8_i7, wd8_r7, wd8_i8, wd8_r8, wd8_l2, wd8_l3, wd8_l4, wd8_l5, wd8_l6, wd8_l7, wd8_l8, tl_s, tl_n, inR_t, bd_t, true_and, and_true, true_or, or_true, if_true_x, if_false_x, if_pos, if_neg, Int.toNat_natCast, natL, bI_0, bI_1, bI_ft, eq_self, b_tf, b_ft, not_true_eq_false, not_false_eq_true, hs, m_45 hp hw, ev, e, cast_s, hp.t0, hp.t1, hp.t2, hp.t3, hp.t4, hp.t5, hp.t6, hp.t7, hp.t8, hp.t9, hp.t10, hp.t11, hp.t12, hp.t13, hp.t14, hp.t15, hp.t16, hp.t17, hp.t18, hp.t19, hp.t20, hp.t21, hp.t22, hp.t23, hp.z2, hp.z3, hp.z4, hp.z5, hp.z7, hp.z8, hp.z9, hp.z10, hp.z12, hp.z13, hp.z14, hp.z15, hp.z16, hp.z17, hp.z18, hp.z20, hp.z21, hp.z22, hp.z23, hp.r0_2, hp.r0_3, hp.r0_4, hp.r0_5, hp.r1_1, hp.r1_2, hp.r1_3, hp.r1_4, hp.r6_1, hp.r6_2, hp.r6_3, hp.r6_4, hp.r11_1, hp.r11_2, hp.r11_3, hp.r11_4, hp.r11_5, hp.r11_6, hp.r11_7, hp.r19_1, hp.r19_2, hp.r19_3, hp.r19_4]
      exact ih (i + 1) a h z ev tm ht hg (by omega) (by omega) (by omega) hq
    · have es : smW v t gm c i = v 20 i * smN v t gm i := by unfold smW; rw [if_neg e]
      rw [es] at hq
      simp (disch := first | assumption | omega) only [e_97_5, e_97_6, e_97_7, e_97_8, e_97_9, e_97_10, e_97_11, e_97_12, e_97_13, e_97_14, e_97_15, e_97_16, e_97_17, e_97_18, e_97_19, e_97_20, e_97_21, e_97_22, e_97_23, e_97_24, onI_s, onR_s, onL_s, gl_0, gl_n, gl_1, gl_2, gl_3, gl_4, gl_5, gl_6, gl_7, gl_8, gl_9, gl_10, gl_11, gl_12, gl_13, gl_14, gl_15, gl_16, gl_17, sk0i, sk0r, sk0n, sk1i, sk1r, sk1n, sk_2, sk_3, sk_4, sk_5, sk_6, sk_7, sk_8, sk_9, sk_10, sk_11, sk_12, sk_13, sk_14, sk_15, sk_16, sk_17, ls_0, ls_1, ls_2, ls_3, ls_4, ls_5, ls_6, ls_7, ls_8, ls_9, ls_10, ls_11, ls_12, ls_13, ls_14, ls_15, ls_16, ls_17, ct1_i, ct1_r, wd8_0, wd8_i1, wd8_r1, wd8_i2, wd8_r2, wd8_i3, wd8_r3, wd8_i4, wd8_r4, wd8_i5, wd8_r5, wd8_i6, wd8_r6, wd8_i7, wd8_r7, wd8_i8, wd8_r8, wd8_l2, wd8_l3, wd8_l4, wd8_l5, wd8_l6, wd8_l7, wd8_l8, tl_s, tl_n, inR_t, bd_t, true_and, and_true, true_or, or_true, if_true_x, if_false_x, if_pos, if_neg, Int.toNat_natCast, natL, bI_0, bI_1, bI_ft, eq_self, b_tf, b_ft, not_true_eq_false, not_false_eq_true, hs, m_45 hp hw, ev, e, e20, hc.t14, hc.r14_0, hc.r14_5, hc.r14_7, hc.r14_8, hc.r14_9, hc.r14_10, hc.r14_11, hc.r14_12, hp.t0, hp.t1, hp.t2, hp.t3, hp.t4, hp.t5, hp.t6, hp.t7, hp.t8, hp.t9, hp.t10, hp.t11, hp.t12, hp.t13, hp.t14, hp.t15, hp.t16, hp.t17, hp.t18, hp.t19, hp.t20, hp.t21, hp.t22, hp.t23, hp.z2, hp.z3, hp.z4, hp.z5, hp.z7, hp.z8, hp.z9, hp.z10, hp.z12, hp.z13, hp.z14, hp.z15, hp.z16, hp.z17, hp.z18, hp.z20, hp.z21, hp.z22, hp.z23, hp.r0_2, hp.r0_3, hp.r0_4, hp.r0_5, hp.r1_1, hp.r1_2, hp.r1_3, hp.r1_4, hp.r6_1, hp.r6_2, hp.r6_3, hp.r6_4, hp.r11_1, hp.r11_2, hp.r11_3, hp.r11_4, hp.r11_5, hp.r11_6, hp.r11_7, hp.r19_1, hp.r19_2, hp.r19_3, hp.r19_4]
      (rw [e_97_25]; refine ⟨⟨hc.t14, by simp [wd_i, wd_r, wd_l, wd_0]⟩, ?_⟩)
      refine m_98 hp hc z (by rw [ev]; exact g) tm (by rw [ev]; omega) (fun h2 z2 s2 => ?_)
      rw [ev, ht, hg]
      simp (disch := first | assumption | omega) only [e_97_26, e_97_27, e_97_28, e_97_29, e_97_30, onI_s, onR_s, onL_s, gl_0, gl_n, gl_1, gl_2, gl_3, gl_4, gl_5, gl_6, gl_7, gl_8, gl_9, gl_10, gl_11, gl_12, gl_13, gl_14, gl_15, gl_16, gl_17, sk0i, sk0r, sk0n, sk1i, sk1r, sk1n, sk_2, sk_3, sk_4, sk_5, sk_6, sk_7, sk_8, sk_9, sk_10, sk_11, sk_12, sk_13, sk_14, sk_15, sk_16, sk_17, ls_0, ls_1, ls_2, ls_3, ls_4, ls_5, ls_6, ls_7, ls_8, ls_9, ls_10, ls_11, ls_12, ls_13, ls_14, ls_15, ls_16, ls_17, ct1_i, ct1_r, wd8_0, wd8_i1, wd8_r1, wd8_i2, wd8_r2, wd8_i3, wd8_r3, wd8_i4, wd8_r4, wd8_i5, wd8_r5, wd8_i6, wd8_r6, wd8_i7, wd8_r7, wd8_i8, wd8_r8, wd8_l2, wd8_l3, wd8_l4, wd8_l5, wd8_l6, wd8_l7, wd8_l8, tl_s, tl_n, inR_t, bd_t, true_and, and_true, true_or, or_true, if_true_x, if_false_x, if_pos, if_neg, Int.toNat_natCast, natL, bI_0, bI_1, bI_ft, eq_self, b_tf, b_ft, not_true_eq_false, not_false_eq_true, cast_s]
      refine ih (i + 1) _ h2 z2 (s2.cv.trans ev) (by rw [s2.1 1 (by omega)]; exact tm) (by rw [s2.1 1 (by omega)]; exact ht) (by rw [s2.1 1 (by omega)]; exact hg) (by omega) ?_ ?_ (fun h3 z3 s3 => hq h3 z3 (s2.tr s3))
      · rw [Int.natCast_add, Int.add_mul]; omega
      · rw [Int.natCast_add, Int.add_mul]; omega
theorem m_97 {h : xH} (hp : PL X 200) (hc : CT X ns nb ln) (z : NZ X h) {c : Nat} (g : WG (cv h 200)) (tm : TMb (h.1 1)) (hq : ∀ h2, NZ X h2 → S15 h h2 → Q (some (vi (sumF (smW (cv h 200) (h.1 1 4) (h.1 1 0) c) (cv h 200 19 0).toNat 0))) h2) : Cl X 97 [vr 14, vr 200, vi c] h Q := by
  have nN := g.1.nN
  rw [c_97]
  simp (disch := first | assumption | omega) only [e_97_0, e_97_1, e_97_2, e_97_3, onI_s, onR_s, onL_s, gl_0, gl_n, gl_1, gl_2, gl_3, gl_4, gl_5, gl_6, gl_7, gl_8, gl_9, gl_10, gl_11, gl_12, gl_13, gl_14, gl_15, gl_16, gl_17, sk0i, sk0r, sk0n, sk1i, sk1r, sk1n, sk_2, sk_3, sk_4, sk_5, sk_6, sk_7, sk_8, sk_9, sk_10, sk_11, sk_12, sk_13, sk_14, sk_15, sk_16, sk_17, ls_0, ls_1, ls_2, ls_3, ls_4, ls_5, ls_6, ls_7, ls_8, ls_9, ls_10, ls_11, ls_12, ls_13, ls_14, ls_15, ls_16, ls_17, ct1_i, ct1_r, wd8_0, wd8_i1, wd8_r1, wd8_i2, wd8_r2, wd8_i3, wd8_r3, wd8_i4, wd8_r4, wd8_i5, wd8_r5, wd8_i6, wd8_r6, wd8_i7, wd8_r7, wd8_i8, wd8_r8, wd8_l2, wd8_l3, wd8_l4, wd8_l5, wd8_l6, wd8_l7, wd8_l8, tl_s, tl_n, inR_t, bd_t, true_and, and_true, true_or, or_true, if_true_x, if_false_x, if_pos, if_neg, Int.toNat_natCast, natL, bI_0, bI_1, bI_ft, eq_self, b_tf, b_ft, not_true_eq_false, not_false_eq_true]
  refine l_97 hp hc (v := cv h 200) (t := h.1 1 4) (gm := h.1 1 0) (N := (cv h 200 19 0).toNat) g (by omega) (cv h 200 19 0).toNat 0 0 h z rfl tm rfl rfl (by omega) (by omega) (by omega) (fun h2 a b => ?_)
  rw [Int.zero_add]
  exact hq h2 a b
end SME
section SMR
variable {X : xL} {Q : Option xV → xH → Prop} {ns nb ln : Nat} {h : xH}
set_option maxHeartbeats 2000000 in
theorem m_208 (hc : CT X ns nb ln) (tm : TMb (h.1 72)) {d : Int} (d0 : 0 ≤ d) (d1 : d ≤ 10000) : Cl X 208 [vr 70, vi d] h Q ↔ Q (some (vi (shA (h.1 72 0) d))) h := by
  have tg := tm.gam
  have dn := Int.ediv_nonneg d0 (show 0 ≤ h.1 72 0 by omega)
  have td : d.tdiv (h.1 72 0) = d / h.1 72 0 := td_n d0
  rw [c_208]
  unfold shA
  by_cases e : 12 < d / h.1 72 0
  · rw [if_pos e]
    simp (disch := first | assumption | omega) only [e_208_0, e_208_1, e_208_2, e_208_3, e_208_4, e_208_5, e_208_6, e_208_7, e_208_8, e_208_9, e_208_10, e_208_11, e_208_15, onI_s, onR_s, onL_s, gl_0, gl_n, gl_1, gl_2, gl_3, gl_4, gl_5, gl_6, gl_7, gl_8, gl_9, gl_10, gl_11, gl_12, gl_13, gl_14, gl_15, gl_16, gl_17, sk0i, sk0r, sk0n, sk1i, sk1r, sk1n, sk_2, sk_3, sk_4, sk_5, sk_6, sk_7, sk_8, sk_9, sk_10, sk_11, sk_12, sk_13, sk_14, sk_15, sk_16, sk_17, ls_0, ls_1, ls_2, ls_3, ls_4, ls_5, ls_6, ls_7, ls_8, ls_9, ls_10, ls_11, ls_12, ls_13, ls_14, ls_15, ls_16, ls_17, ct1_i, ct1_r, wd8_0, wd8_i1, wd8_r1, wd8_i2, wd8_r2, wd8_i3, wd8_r3, wd8_i4, wd8_r4, wd8_i5, wd8_r5, wd8_i6, wd8_r6, wd8_i7, wd8_r7, wd8_i8, wd8_r8, wd8_l2, wd8_l3, wd8_l4, wd8_l5, wd8_l6, wd8_l7, wd8_l8, tl_s, tl_n, inR_t, bd_t, true_and, and_true, true_or, or_true, if_true_x, if_false_x, if_pos, if_neg, Int.toNat_natCast, natL, bI_0, bI_1, bI_ft, eq_self, b_tf, b_ft, not_true_eq_false, not_false_eq_true, tn_0, dv_t, dvR, dvE, nzp, td, hc.t70, hc.r70_4, hc.r70_5, hc.r70_6, hc.r70_7, hc.r70_8, hc.r70_10, hc.r70_11, hc.r70_12, hc.r70_14, hc.r70_15, hc.r70_16, hc.r70_17, hc.r70_19, hc.r70_21, hc.r70_23, hc.r70_24, hc.r70_26, hc.r70_27, hc.r70_28, hc.r70_29, hc.r70_30, hc.r70_31, hc.r70_32, hc.r70_33, hc.r70_36, hc.t72, hc.z72]
  · rw [if_neg e]
    simp (disch := first | assumption | omega) only [e_208_0, e_208_1, e_208_2, e_208_3, e_208_4, e_208_5, e_208_6, e_208_7, e_208_8, e_208_9, e_208_12, e_208_13, e_208_14, e_208_15, onI_s, onR_s, onL_s, gl_0, gl_n, gl_1, gl_2, gl_3, gl_4, gl_5, gl_6, gl_7, gl_8, gl_9, gl_10, gl_11, gl_12, gl_13, gl_14, gl_15, gl_16, gl_17, sk0i, sk0r, sk0n, sk1i, sk1r, sk1n, sk_2, sk_3, sk_4, sk_5, sk_6, sk_7, sk_8, sk_9, sk_10, sk_11, sk_12, sk_13, sk_14, sk_15, sk_16, sk_17, ls_0, ls_1, ls_2, ls_3, ls_4, ls_5, ls_6, ls_7, ls_8, ls_9, ls_10, ls_11, ls_12, ls_13, ls_14, ls_15, ls_16, ls_17, ct1_i, ct1_r, wd8_0, wd8_i1, wd8_r1, wd8_i2, wd8_r2, wd8_i3, wd8_r3, wd8_i4, wd8_r4, wd8_i5, wd8_r5, wd8_i6, wd8_r6, wd8_i7, wd8_r7, wd8_i8, wd8_r8, wd8_l2, wd8_l3, wd8_l4, wd8_l5, wd8_l6, wd8_l7, wd8_l8, tl_s, tl_n, inR_t, bd_t, true_and, and_true, true_or, or_true, if_true_x, if_false_x, if_pos, if_neg, Int.toNat_natCast, natL, bI_0, bI_1, bI_ft, eq_self, b_tf, b_ft, not_true_eq_false, not_false_eq_true, tn_0, dv_t, dvR, dvE, nzp, td, hc.t70, hc.r70_4, hc.r70_5, hc.r70_6, hc.r70_7, hc.r70_8, hc.r70_10, hc.r70_11, hc.r70_12, hc.r70_14, hc.r70_15, hc.r70_16, hc.r70_17, hc.r70_19, hc.r70_21, hc.r70_23, hc.r70_24, hc.r70_26, hc.r70_27, hc.r70_28, hc.r70_29, hc.r70_30, hc.r70_31, hc.r70_32, hc.r70_33, hc.r70_36, hc.t72, hc.z72]
    exact Iff.rfl
theorem nAb {a b : Int} (h : b ≤ a) : ((a - b).natAbs : Int) = a - b := by omega
theorem nAc {a b : Int} (h : b ≤ a) : ((b - a).natAbs : Int) = a - b := by omega
set_option maxHeartbeats 8000000 in
theorem l_207 (hc : CT X ns nb ln) (g : WG (vm h)) (tm : TMb (h.1 72)) {n p : Nat} {up lo hi : Int} {f : Nat → Int} (hn : (n : Int) < vm h 19 0) (hpp : vm h 21 n = p) (he : ∀ k, f k = pq (vm h) 0 up n k) (hl : ∀ k, k < p → lo ≤ f k ∧ f k ≤ hi) (l0 : -8 ≤ lo) (h1 : hi ≤ 1016) : ∀ (m i : Nat) (a b c d : Int) (x10 x11 : Option xV), i + m = p → (0 ≤ a ∧ a ≤ i * 4194304) → (0 ≤ b ∧ b ≤ i * 4096) → (0 ≤ c ∧ c ≤ i * 4194304) → (0 ≤ d ∧ d ≤ i * 4096) → (∀ x10 x11, Ev X 207 72 [some (vr 70), some (vi n), some (vi up), some (vi lo), some (vi hi), some (vi (a + sumF (faS f hi (h.1 72 0)) m i)), some (vi (b + sumF (shS2 f hi (h.1 72 0)) m i)), some (vi (c + sumF (faS f lo (h.1 72 0)) m i)), some (vi (d + sumF (shS2 f lo (h.1 72 0)) m i)), some (vi p), x10, x11] [] h Q) → Ev X 207 22 [some (vr 70), some (vi n), some (vi up), some (vi lo), some (vi hi), some (vi a), some (vi b), some (vi c), some (vi d), some (vi i), x10, x11] [] h Q := by
  have nN := g.1.nN
  have p6 := g.1.pin n
  have tg := tm.gam
  have n16 : n < 16 := by omega
  intro m
  induction m with
  | zero =>
    intro i a b c d x10 x11 hm ba bb bc bd hq
    rw [sumF, sumF, sumF, sumF, Int.add_zero, Int.add_zero, Int.add_zero, Int.add_zero] at hq
    rw [e_207_22]
    simp (disch := first | assumption | omega) only [e_207_23, e_207_24, e_207_25, e_207_26, onI_s, onR_s, onL_s, gl_0, gl_n, gl_1, gl_2, gl_3, gl_4, gl_5, gl_6, gl_7, gl_8, gl_9, gl_10, gl_11, gl_12, gl_13, gl_14, gl_15, gl_16, gl_17, sk0i, sk0r, sk0n, sk1i, sk1r, sk1n, sk_2, sk_3, sk_4, sk_5, sk_6, sk_7, sk_8, sk_9, sk_10, sk_11, sk_12, sk_13, sk_14, sk_15, sk_16, sk_17, ls_0, ls_1, ls_2, ls_3, ls_4, ls_5, ls_6, ls_7, ls_8, ls_9, ls_10, ls_11, ls_12, ls_13, ls_14, ls_15, ls_16, ls_17, ct1_i, ct1_r, wd8_0, wd8_i1, wd8_r1, wd8_i2, wd8_r2, wd8_i3, wd8_r3, wd8_i4, wd8_r4, wd8_i5, wd8_r5, wd8_i6, wd8_r6, wd8_i7, wd8_r7, wd8_i8, wd8_r8, wd8_l2, wd8_l3, wd8_l4, wd8_l5, wd8_l6, wd8_l7, wd8_l8, tl_s, tl_n, inR_t, bd_t, true_and, and_true, true_or, or_true, if_true_x, if_false_x, if_pos, if_neg, Int.toNat_natCast, natL, bI_0, bI_1, bI_ft, eq_self, b_tf, b_ft, not_true_eq_false, not_false_eq_true, m_197 hc, hpp, hc.t70, hc.r70_4, hc.r70_5, hc.r70_6, hc.r70_7, hc.r70_8, hc.r70_10, hc.r70_11, hc.r70_12, hc.r70_14, hc.r70_15, hc.r70_16, hc.r70_17, hc.r70_19, hc.r70_21, hc.r70_23, hc.r70_24, hc.r70_26, hc.r70_27, hc.r70_28, hc.r70_29, hc.r70_30, hc.r70_31, hc.r70_32, hc.r70_33, hc.r70_36]
    rw [show i = p by omega]
    exact hq _ _
  | succ m ih =>
    intro i a b c d x10 x11 hm ba bb bc bd hq
    have r := hl i (by omega)
    have hk : (i : Int) < vm h 21 n := by omega
    have m202 : ∀ {Q2 : Option xV → xH → Prop}, Cl X 202 [vr 70, vi (n : Int), vi (i : Int), vi 0, vi up] h Q2 ↔ Q2 (some (vi (f i))) h := by
      intro Q2
      rw [he i]
      exact m_202 hc g.1 g.2.1 n16 hn hk
    have s1 := shA_bd (gm := h.1 72 0) (d := hi - f i) (by omega) (by omega)
    have s2 := shA_bd (gm := h.1 72 0) (d := f i - lo) (by omega) (by omega)
    have p1 := mul_bd (a := hi - f i) (b := shA (h.1 72 0) (hi - f i)) (A := 1024) (B := 4096) (by omega) (by omega) s1.1 s1.2
    have p2 := mul_bd (a := f i - lo) (b := shA (h.1 72 0) (f i - lo)) (A := 1024) (B := 4096) (by omega) (by omega) s2.1 s2.2
    have e1 : shS2 f hi (h.1 72 0) i = shA (h.1 72 0) (hi - f i) := by unfold shS2; rw [nAb r.2]
    have e2 : faS f hi (h.1 72 0) i = (hi - f i) * shA (h.1 72 0) (hi - f i) := by unfold faS; rw [nAb r.2]
    have e3 : shS2 f lo (h.1 72 0) i = shA (h.1 72 0) (f i - lo) := by unfold shS2; rw [nAc r.1]
    have e4 : faS f lo (h.1 72 0) i = (f i - lo) * shA (h.1 72 0) (f i - lo) := by unfold faS; rw [nAc r.1]
    rw [sumF, sumF, sumF, sumF, e1, e2, e3, e4, ← Int.add_assoc, ← Int.add_assoc, ← Int.add_assoc, ← Int.add_assoc] at hq
    rw [e_207_22]
    simp (disch := first | assumption | omega) only [e_207_23, e_207_24, e_207_25, e_207_26, e_207_27, e_207_28, e_207_29, e_207_30, e_207_31, e_207_32, e_207_33, e_207_34, e_207_35, e_207_36, e_207_37, e_207_38, e_207_39, e_207_40, e_207_41, e_207_42, e_207_43, e_207_44, e_207_45, e_207_46, e_207_47, e_207_48, e_207_49, e_207_50, e_207_51, e_207_52, e_207_53, e_207_54, e_207_55, e_207_56, e_207_57, e_207_58, e_207_59, e_207_60, e_207_61, e_207_62, e_207_63, e_207_64, e_207_65, e_207_66, e_207_67, e_207_68, e_207_69, e_207_70, e_207_71, onI_s, onR_s, onL_s, gl_0, gl_n, gl_1, gl_2, gl_3, gl_4, gl_5, gl_6, gl_7, gl_8, gl_9, gl_10, gl_11, gl_12, gl_13, gl_14, gl_15, gl_16, gl_17, sk0i, sk0r, sk0n, sk1i, sk1r, sk1n, sk_2, sk_3, sk_4, sk_5, sk_6, sk_7, sk_8, sk_9, sk_10, sk_11, sk_12, sk_13, sk_14, sk_15, sk_16, sk_17, ls_0, ls_1, ls_2, ls_3, ls_4, ls_5, ls_6, ls_7, ls_8, ls_9, ls_10, ls_11, ls_12, ls_13, ls_14, ls_15, ls_16, ls_17, ct1_i, ct1_r, wd8_0, wd8_i1, wd8_r1, wd8_i2, wd8_r2, wd8_i3, wd8_r3, wd8_i4, wd8_r4, wd8_i5, wd8_r5, wd8_i6, wd8_r6, wd8_i7, wd8_r7, wd8_i8, wd8_r8, wd8_l2, wd8_l3, wd8_l4, wd8_l5, wd8_l6, wd8_l7, wd8_l8, tl_s, tl_n, inR_t, bd_t, true_and, and_true, true_or, or_true, if_true_x, if_false_x, if_pos, if_neg, Int.toNat_natCast, natL, bI_0, bI_1, bI_ft, eq_self, b_tf, b_ft, not_true_eq_false, not_false_eq_true, m_197 hc, hpp, m202, m_208 hc tm, cast_s, hc.t70, hc.r70_4, hc.r70_5, hc.r70_6, hc.r70_7, hc.r70_8, hc.r70_10, hc.r70_11, hc.r70_12, hc.r70_14, hc.r70_15, hc.r70_16, hc.r70_17, hc.r70_19, hc.r70_21, hc.r70_23, hc.r70_24, hc.r70_26, hc.r70_27, hc.r70_28, hc.r70_29, hc.r70_30, hc.r70_31, hc.r70_32, hc.r70_33, hc.r70_36]
    refine ih (i + 1) _ _ _ _ _ _ (by omega) ?_ ?_ ?_ ?_ hq
    all_goals (rw [Int.natCast_add, Int.add_mul]; omega)
set_option maxHeartbeats 4000000 in
theorem m_207 (hc : CT X ns nb ln) (g : WG (vm h)) (tm : TMb (h.1 72)) {n : Nat} {up : Int} {f : Nat → Int} (hn : (n : Int) < vm h 19 0) (he : ∀ k, f k = pq (vm h) 0 up n k) : Cl X 207 [vr 70, vi n, vi up] h Q ↔ Q (some (vi (smF f (vm h 21 n).toNat (h.1 72 0)))) h := by
  have nN := g.1.nN
  have p6 := g.1.pin n
  have p2 := g.2.2 n hn
  have tg := tm.gam
  have n16 : n < 16 := by omega
  have ef : f = pq (vm h) 0 up n := funext he
  obtain ⟨p, hpp⟩ : ∃ p : Nat, vm h 21 n = p := ⟨(vm h 21 n).toNat, by omega⟩
  have hf : pR f p := fun k _ => by rw [he k]; exact pq_bd g.1 0 up n k
  obtain ⟨⟨k1, q1, e1⟩, ⟨k2, q2, e2⟩, hl⟩ := mn_pR hf (by omega)
  have r1 := hf k1 q1
  have r2 := hf k2 q2
  have b1 := mea_bd (pl := mnF f p 0 100000000) (gm := h.1 72 0) (by omega) hf (by omega) (by omega) (by omega)
  have b2 := mea_bd (pl := mxF f p 0 (-100000000)) (gm := h.1 72 0) (by omega) hf (by omega) (by omega) (by omega)
  have s1 := sh_pos (pl := mnF f p 0 100000000) (gm := h.1 72 0) (by omega) q1 e1
  have s2 := sh_pos (pl := mxF f p 0 (-100000000)) (gm := h.1 72 0) (by omega) q2 e2
  rw [hpp, Int.toNat_natCast]
  refine cl_det ?_
  rw [c_207]
  simp (disch := first | assumption | omega) only [e_207_0, e_207_1, e_207_2, e_207_3, e_207_4, e_207_5, e_207_6, e_207_7, e_207_8, e_207_9, e_207_10, e_207_11, e_207_12, e_207_13, e_207_14, e_207_15, e_207_16, e_207_17, e_207_18, e_207_19, e_207_20, e_207_21, onI_s, onR_s, onL_s, gl_0, gl_n, gl_1, gl_2, gl_3, gl_4, gl_5, gl_6, gl_7, gl_8, gl_9, gl_10, gl_11, gl_12, gl_13, gl_14, gl_15, gl_16, gl_17, sk0i, sk0r, sk0n, sk1i, sk1r, sk1n, sk_2, sk_3, sk_4, sk_5, sk_6, sk_7, sk_8, sk_9, sk_10, sk_11, sk_12, sk_13, sk_14, sk_15, sk_16, sk_17, ls_0, ls_1, ls_2, ls_3, ls_4, ls_5, ls_6, ls_7, ls_8, ls_9, ls_10, ls_11, ls_12, ls_13, ls_14, ls_15, ls_16, ls_17, ct1_i, ct1_r, wd8_0, wd8_i1, wd8_r1, wd8_i2, wd8_r2, wd8_i3, wd8_r3, wd8_i4, wd8_r4, wd8_i5, wd8_r5, wd8_i6, wd8_r6, wd8_i7, wd8_r7, wd8_i8, wd8_r8, wd8_l2, wd8_l3, wd8_l4, wd8_l5, wd8_l6, wd8_l7, wd8_l8, tl_s, tl_n, inR_t, bd_t, true_and, and_true, true_or, or_true, if_true_x, if_false_x, if_pos, if_neg, Int.toNat_natCast, natL, bI_0, bI_1, bI_ft, eq_self, b_tf, b_ft, not_true_eq_false, not_false_eq_true, m_203 hc g.1 g.2.1 n16 hn, m_204 hc g.1 g.2.1 n16 hn, hc.t70, hc.r70_4, hc.r70_5, hc.r70_6, hc.r70_7, hc.r70_8, hc.r70_10, hc.r70_11, hc.r70_12, hc.r70_14, hc.r70_15, hc.r70_16, hc.r70_17, hc.r70_19, hc.r70_21, hc.r70_23, hc.r70_24, hc.r70_26, hc.r70_27, hc.r70_28, hc.r70_29, hc.r70_30, hc.r70_31, hc.r70_32, hc.r70_33, hc.r70_36]
  rw [hpp, Int.toNat_natCast, ← ef]
  refine l_207 hc g tm hn hpp he (fun k hk => hl k hk) (by omega) (by omega) p 0 0 0 0 0 none none (by omega) (by omega) (by omega) (by omega) (by omega) (fun x10 x11 => ?_)
  rw [Int.zero_add, Int.zero_add, Int.zero_add, Int.zero_add, e_207_72]
  have t1 : (sumF (faS f (mxF f p 0 (-100000000)) (h.1 72 0)) p 0).tdiv (sumF (shS2 f (mxF f p 0 (-100000000)) (h.1 72 0)) p 0) = mea f p (mxF f p 0 (-100000000)) (h.1 72 0) := by
    unfold mea
    rw [if_neg (by omega)]
    exact td_n b2.2.1.1
  have t2 : (sumF (faS f (mnF f p 0 100000000) (h.1 72 0)) p 0).tdiv (sumF (shS2 f (mnF f p 0 100000000) (h.1 72 0)) p 0) = mea f p (mnF f p 0 100000000) (h.1 72 0) := by
    unfold mea
    rw [if_neg (by omega)]
    exact td_n b1.2.1.1
  unfold smF
  simp (disch := first | assumption | omega) only [e_207_73, e_207_74, e_207_75, e_207_76, e_207_77, e_207_78, e_207_79, e_207_80, e_207_81, e_207_82, e_207_83, onI_s, onR_s, onL_s, gl_0, gl_n, gl_1, gl_2, gl_3, gl_4, gl_5, gl_6, gl_7, gl_8, gl_9, gl_10, gl_11, gl_12, gl_13, gl_14, gl_15, gl_16, gl_17, sk0i, sk0r, sk0n, sk1i, sk1r, sk1n, sk_2, sk_3, sk_4, sk_5, sk_6, sk_7, sk_8, sk_9, sk_10, sk_11, sk_12, sk_13, sk_14, sk_15, sk_16, sk_17, ls_0, ls_1, ls_2, ls_3, ls_4, ls_5, ls_6, ls_7, ls_8, ls_9, ls_10, ls_11, ls_12, ls_13, ls_14, ls_15, ls_16, ls_17, ct1_i, ct1_r, wd8_0, wd8_i1, wd8_r1, wd8_i2, wd8_r2, wd8_i3, wd8_r3, wd8_i4, wd8_r4, wd8_i5, wd8_r5, wd8_i6, wd8_r6, wd8_i7, wd8_r7, wd8_i8, wd8_r8, wd8_l2, wd8_l3, wd8_l4, wd8_l5, wd8_l6, wd8_l7, wd8_l8, tl_s, tl_n, inR_t, bd_t, true_and, and_true, true_or, or_true, if_true_x, if_false_x, if_pos, if_neg, Int.toNat_natCast, natL, bI_0, bI_1, bI_ft, eq_self, b_tf, b_ft, not_true_eq_false, not_false_eq_true, t1, t2, nzp]
set_option maxHeartbeats 4000000 in
theorem m_209 (hc : CT X ns nb ln) (g : WG (vm h)) (tm : TMb (h.1 72)) {n : Nat} (hn : (n : Int) < vm h 19 0) : Cl X 209 [vr 70, vi n] h Q ↔ Q (some (vi (smN (vm h) (h.1 72 4) (h.1 72 0) n))) h := by
  have tt := tm.tall
  have tg := tm.gam
  have p2 := g.2.2 n hn
  have p6 := g.1.pin n
  have sm := smN_bd (t := h.1 72 4) (gm := h.1 72 0) g.1 g.2.2 hn tt.1 tt.2 (by omega)
  have sx := smF_bd (f := pwX (vm h) n) (gm := h.1 72 0) (by omega) (pw_pR g.1 n (vm h 21 n).toNat).1 (by omega) (by omega)
  have ex : ∀ k, pwX (vm h) n k = pq (vm h) 0 0 n k := fun k => by rw [pq_00]
  have ey : ∀ k, pwY (vm h) n k = pq (vm h) 0 1 n k := fun k => by rw [pq_01]
  unfold smN at sm ⊢
  rw [c_209]
  simp (disch := first | assumption | omega) only [e_209_0, e_209_1, e_209_2, e_209_3, e_209_4, e_209_5, e_209_6, e_209_7, e_209_8, e_209_9, e_209_10, e_209_11, e_209_12, e_209_13, e_209_14, onI_s, onR_s, onL_s, gl_0, gl_n, gl_1, gl_2, gl_3, gl_4, gl_5, gl_6, gl_7, gl_8, gl_9, gl_10, gl_11, gl_12, gl_13, gl_14, gl_15, gl_16, gl_17, sk0i, sk0r, sk0n, sk1i, sk1r, sk1n, sk_2, sk_3, sk_4, sk_5, sk_6, sk_7, sk_8, sk_9, sk_10, sk_11, sk_12, sk_13, sk_14, sk_15, sk_16, sk_17, ls_0, ls_1, ls_2, ls_3, ls_4, ls_5, ls_6, ls_7, ls_8, ls_9, ls_10, ls_11, ls_12, ls_13, ls_14, ls_15, ls_16, ls_17, ct1_i, ct1_r, wd8_0, wd8_i1, wd8_r1, wd8_i2, wd8_r2, wd8_i3, wd8_r3, wd8_i4, wd8_r4, wd8_i5, wd8_r5, wd8_i6, wd8_r6, wd8_i7, wd8_r7, wd8_i8, wd8_r8, wd8_l2, wd8_l3, wd8_l4, wd8_l5, wd8_l6, wd8_l7, wd8_l8, tl_s, tl_n, inR_t, bd_t, true_and, and_true, true_or, or_true, if_true_x, if_false_x, if_pos, if_neg, Int.toNat_natCast, natL, bI_0, bI_1, bI_ft, eq_self, b_tf, b_ft, not_true_eq_false, not_false_eq_true, m_207 hc g tm hn ex, m_207 hc g tm hn ey, tn_4, hc.t70, hc.r70_4, hc.r70_5, hc.r70_6, hc.r70_7, hc.r70_8, hc.r70_10, hc.r70_11, hc.r70_12, hc.r70_14, hc.r70_15, hc.r70_16, hc.r70_17, hc.r70_19, hc.r70_21, hc.r70_23, hc.r70_24, hc.r70_26, hc.r70_27, hc.r70_28, hc.r70_29, hc.r70_30, hc.r70_31, hc.r70_32, hc.r70_33, hc.r70_36, hc.t72, hc.z72]
set_option maxHeartbeats 4000000 in
theorem l_210 (hc : CT X ns nb ln) (g : WG (vm h)) (tm : TMb (h.1 72)) {N : Nat} (hN : vm h 19 0 = N) : ∀ (m i : Nat) (a : Int), i + m = N → -(i * 251100) ≤ a → a ≤ i * 251100 → (Ev X 210 4 [some (vr 70), some (vi a), some (vi i)] [] h Q ↔ Q (some (vi (a + sumF (fun n => vm h 20 n * smN (vm h) (h.1 72 4) (h.1 72 0) n) m i))) h) := by
  have nN := g.1.nN
  have tt := tm.tall
  have tg := tm.gam
  intro m
  induction m with
  | zero =>
    intro i a hm a0 a1
    rw [e_210_4]
    simp (disch := first | assumption | omega) only [e_210_5, e_210_6, e_210_7, e_210_8, e_210_9, e_210_24, e_210_25, onI_s, onR_s, onL_s, gl_0, gl_n, gl_1, gl_2, gl_3, gl_4, gl_5, gl_6, gl_7, gl_8, gl_9, gl_10, gl_11, gl_12, gl_13, gl_14, gl_15, gl_16, gl_17, sk0i, sk0r, sk0n, sk1i, sk1r, sk1n, sk_2, sk_3, sk_4, sk_5, sk_6, sk_7, sk_8, sk_9, sk_10, sk_11, sk_12, sk_13, sk_14, sk_15, sk_16, sk_17, ls_0, ls_1, ls_2, ls_3, ls_4, ls_5, ls_6, ls_7, ls_8, ls_9, ls_10, ls_11, ls_12, ls_13, ls_14, ls_15, ls_16, ls_17, ct1_i, ct1_r, wd8_0, wd8_i1, wd8_r1, wd8_i2, wd8_r2, wd8_i3, wd8_r3, wd8_i4, wd8_r4, wd8_i5, wd8_r5, wd8_i6, wd8_r6, wd8_i7, wd8_r7, wd8_i8, wd8_r8, wd8_l2, wd8_l3, wd8_l4, wd8_l5, wd8_l6, wd8_l7, wd8_l8, tl_s, tl_n, inR_t, bd_t, true_and, and_true, true_or, or_true, if_true_x, if_false_x, if_pos, if_neg, Int.toNat_natCast, natL, bI_0, bI_1, bI_ft, eq_self, b_tf, b_ft, not_true_eq_false, not_false_eq_true, tn_3, vm_nN, hN, hc.t70, hc.r70_4, hc.r70_5, hc.r70_6, hc.r70_7, hc.r70_8, hc.r70_10, hc.r70_11, hc.r70_12, hc.r70_14, hc.r70_15, hc.r70_16, hc.r70_17, hc.r70_19, hc.r70_21, hc.r70_23, hc.r70_24, hc.r70_26, hc.r70_27, hc.r70_28, hc.r70_29, hc.r70_30, hc.r70_31, hc.r70_32, hc.r70_33, hc.r70_36, hc.t73, hc.z73]
    rw [sumF, Int.add_zero]
  | succ m ih =>
    intro i a hm a0 a1
    have hi : (i : Int) < vm h 19 0 := by omega
    have tb := smT_bd (t := h.1 72 4) (gm := h.1 72 0) g (n := i) hi tt.1 tt.2 (by omega)
    rw [e_210_4]
    simp (disch := first | assumption | omega) only [e_210_5, e_210_6, e_210_7, e_210_8, e_210_9, e_210_10, e_210_11, e_210_12, e_210_13, e_210_14, e_210_15, e_210_16, e_210_17, e_210_18, e_210_19, e_210_20, e_210_21, e_210_22, e_210_23, onI_s, onR_s, onL_s, gl_0, gl_n, gl_1, gl_2, gl_3, gl_4, gl_5, gl_6, gl_7, gl_8, gl_9, gl_10, gl_11, gl_12, gl_13, gl_14, gl_15, gl_16, gl_17, sk0i, sk0r, sk0n, sk1i, sk1r, sk1n, sk_2, sk_3, sk_4, sk_5, sk_6, sk_7, sk_8, sk_9, sk_10, sk_11, sk_12, sk_13, sk_14, sk_15, sk_16, sk_17, ls_0, ls_1, ls_2, ls_3, ls_4, ls_5, ls_6, ls_7, ls_8, ls_9, ls_10, ls_11, ls_12, ls_13, ls_14, ls_15, ls_16, ls_17, ct1_i, ct1_r, wd8_0, wd8_i1, wd8_r1, wd8_i2, wd8_r2, wd8_i3, wd8_r3, wd8_i4, wd8_r4, wd8_i5, wd8_r5, wd8_i6, wd8_r6, wd8_i7, wd8_r7, wd8_i8, wd8_r8, wd8_l2, wd8_l3, wd8_l4, wd8_l5, wd8_l6, wd8_l7, wd8_l8, tl_s, tl_n, inR_t, bd_t, true_and, and_true, true_or, or_true, if_true_x, if_false_x, if_pos, if_neg, Int.toNat_natCast, natL, bI_0, bI_1, bI_ft, eq_self, b_tf, b_ft, not_true_eq_false, not_false_eq_true, tn_3, vm_nN, hN, m_159, vm_20, m_209 hc g tm hi, cast_s, hc.t70, hc.r70_4, hc.r70_5, hc.r70_6, hc.r70_7, hc.r70_8, hc.r70_10, hc.r70_11, hc.r70_12, hc.r70_14, hc.r70_15, hc.r70_16, hc.r70_17, hc.r70_19, hc.r70_21, hc.r70_23, hc.r70_24, hc.r70_26, hc.r70_27, hc.r70_28, hc.r70_29, hc.r70_30, hc.r70_31, hc.r70_32, hc.r70_33, hc.r70_36, hc.t73, hc.z73]
    rw [ih (i + 1) _ (by omega) (by rw [Int.natCast_add, Int.add_mul]; omega) (by rw [Int.natCast_add, Int.add_mul]; omega), sumF, Int.add_assoc]
theorem m_210 (hc : CT X ns nb ln) (g : WG (vm h)) (tm : TMb (h.1 72)) : Cl X 210 [vr 70] h Q ↔ Q (some (vi (smO (vm h) (h.1 72 4) (h.1 72 0)))) h := by
  have nN := g.1.nN
  rw [c_210]
  simp (disch := first | assumption | omega) only [e_210_0, e_210_1, e_210_2, e_210_3, onI_s, onR_s, onL_s, gl_0, gl_n, gl_1, gl_2, gl_3, gl_4, gl_5, gl_6, gl_7, gl_8, gl_9, gl_10, gl_11, gl_12, gl_13, gl_14, gl_15, gl_16, gl_17, sk0i, sk0r, sk0n, sk1i, sk1r, sk1n, sk_2, sk_3, sk_4, sk_5, sk_6, sk_7, sk_8, sk_9, sk_10, sk_11, sk_12, sk_13, sk_14, sk_15, sk_16, sk_17, ls_0, ls_1, ls_2, ls_3, ls_4, ls_5, ls_6, ls_7, ls_8, ls_9, ls_10, ls_11, ls_12, ls_13, ls_14, ls_15, ls_16, ls_17, ct1_i, ct1_r, wd8_0, wd8_i1, wd8_r1, wd8_i2, wd8_r2, wd8_i3, wd8_r3, wd8_i4, wd8_r4, wd8_i5, wd8_r5, wd8_i6, wd8_r6, wd8_i7, wd8_r7, wd8_i8, wd8_r8, wd8_l2, wd8_l3, wd8_l4, wd8_l5, wd8_l6, wd8_l7, wd8_l8, tl_s, tl_n, inR_t, bd_t, true_and, and_true, true_or, or_true, if_true_x, if_false_x, if_pos, if_neg, Int.toNat_natCast, natL, bI_0, bI_1, bI_ft, eq_self, b_tf, b_ft, not_true_eq_false, not_false_eq_true]
  refine (l_210 (Q := Q) hc g tm (N := (vm h 19 0).toNat) (by omega) (vm h 19 0).toNat 0 0 (by omega) (by omega) (by omega)).trans ?_
  rw [Int.zero_add]
  exact Iff.rfl
end SMR
