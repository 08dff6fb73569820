/-! SWAPS -/
def exV (v : Nat → Nat → Int) (a b : Nat) : Nat → Nat → Int := gvP (gvP v a (v 17 b) (v 18 b)) b (v 17 a) (v 18 a)
def likB (v : Nat → Nat → Int) (a b : Nat) : Bool := lpB v a && lpB v b && decide (v 12 a = v 12 b) && decide (v 13 a = v 13 b)
def exW (v : Nat → Nat → Int) (t : Int) (a b : Nat) (most : Int) : Nat → Nat → Int := if wir (exV v a b) t ≤ most then exV v a b else v
def swI (t : Int) (a : Nat) : Nat → Nat → (Nat → Nat → Int) → (Nat → Nat → Int)
  | 0, _, v => v
  | m + 1, b, v => swI t a m (b + 1) (if likB v a b = true then exW v t a b (wir v t - 1) else v)
def swO (t : Int) (n : Nat) : Nat → Nat → (Nat → Nat → Int) → (Nat → Nat → Int)
  | 0, _, v => v
  | m + 1, a, v => swO t n m (a + 1) (swI t a (n - (a + 1)) (a + 1) v)
def swV (v : Nat → Nat → Int) (t : Int) : Nat → Nat → Int := swO t (v 11 0).toNat (v 11 0).toNat 0 v
def spSwaps (s : AS) : Int × AS := actS s 14 (wir s.1 (s.2.1 4) - wir (swV s.1 (s.2.1 4)) (s.2.1 4)) (swV s.1 (s.2.1 4))
section SWP
variable {v : Nat → Nat → Int} {a b : Nat} {t most : Int}
theorem exV_o {j : Nat} (hj : j ≠ 17 ∧ j ≠ 18) : exV v a b j = v j := by
  unfold exV gvP
  rw [up2_of (by omega), up2_of (by omega), up2_of (by omega), up2_of (by omega)]
theorem exV_17 {d : Nat} : exV v a b 17 d = if d = b then v 17 a else if d = a then v 17 b else v 17 d := by
  unfold exV gvP
  rw [up2_oth (by omega), up2_same, up2_oth (by omega), up2_same]
theorem exV_18 {d : Nat} : exV v a b 18 d = if d = b then v 18 a else if d = a then v 18 b else v 18 d := by
  unfold exV gvP
  rw [up2_same, up2_oth (by omega), up2_same, up2_oth (by omega)]
theorem exV_2 : exV (exV v a b) a b = v := by
  funext j i
  by_cases h1 : j = 17
  · subst h1
    rw [exV_17, exV_17, exV_17, exV_17]
    by_cases e1 : i = b <;> by_cases e2 : i = a <;> by_cases e3 : a = b <;> simp_all
  · by_cases h2 : j = 18
    · subst h2
      rw [exV_18, exV_18, exV_18, exV_18]
      by_cases e1 : i = b <;> by_cases e2 : i = a <;> by_cases e3 : a = b <;> simp_all
    · rw [exV_o ⟨h1, h2⟩, exV_o ⟨h1, h2⟩]
theorem exV_wg (g : WG v) : WG (exV v a b) := by
  have a1 := g.1.row a
  have a2 := g.1.row b
  have a3 := g.1.sit a
  have a4 := g.1.sit b
  unfold exV gvP
  exact (((g.u (by unfold rgP; omega) (by omega)).u (by unfold rgP; omega) (by omega)).u (by unfold rgP; omega) (by omega)).u (by unfold rgP; omega) (by omega)
theorem exW_wg (g : WG v) : WG (exW v t a b most) := by
  unfold exW
  split
  · exact exV_wg g
  · exact g
theorem exW_o {j : Nat} (hj : j ≠ 17 ∧ j ≠ 18) : exW v t a b most j = v j := by
  unfold exW
  split
  · exact exV_o hj
  · rfl
theorem wir_bd (g : WG v) (t0 : 0 ≤ t) (t1 : t ≤ 8) : 0 ≤ wir v t ∧ wir v t ≤ 313344 := by
  have nN := g.1.nN
  have := sumF_bd (f := fun n => v 20 n * spn v t n) (B := 19584) (by decide) (v 19 0).toNat 0 (fun j h1 h2 => by
    have w1 := g.1.wgt j
    have w2 := spn_bd g.1 g.2.2 (n := j) (t := t) (by omega) t0 t1
    exact mul_bd w1.1 w1.2 w2.1 w2.2)
  unfold wir
  omega
theorem swI_o {j : Nat} (hj : j ≠ 17 ∧ j ≠ 18) : ∀ (m b : Nat) (v : Nat → Nat → Int), swI t a m b v j = v j
  | 0, _, _ => rfl
  | m + 1, b, v => by
    rw [swI, swI_o hj m (b + 1)]
    split
    · exact exW_o hj
    · rfl
theorem swI_wg : ∀ (m b : Nat) (v : Nat → Nat → Int), WG v → WG (swI t a m b v)
  | 0, _, _, g => g
  | m + 1, b, v, g => by
    rw [swI]
    refine swI_wg m (b + 1) _ ?_
    split
    · exact exW_wg g
    · exact g
end SWP
section SWC
variable {X : xL} {Q : Option xV → xH → Prop} {ns nb ln : Nat}
set_option maxHeartbeats 2000000 in
theorem m_21 {h : xH} (hp : PL X 200) (z : NZ X h) {a b : Nat} (ha : a < 20) (hb : b < 20) (hq : ∀ h2, Fz X h h2 → cv h2 200 = exV (cv h 200) a b → Q none h2) : Cl X 21 [vr (200 + 11), vi a, vi b] h Q := by
  rw [c_21]
  simp (disch := first | assumption | omega) only [e_21_0, e_21_1, e_21_2, e_21_3, e_21_4, e_21_5, e_21_6, e_21_7, e_21_8, e_21_9, e_21_10, e_21_11, e_21_12, e_21_13, e_21_14, e_21_15, e_21_16, e_21_17, e_21_18, e_21_19, e_21_20, e_21_21, e_21_22, e_21_23, e_21_24, e_21_25, e_21_26, onI_s, onR_s, onL_s, gl_0, gl_n, gl_1, gl_2, gl_3, gl_4, gl_5, gl_6, gl_7, gl_8, gl_9, gl_10, gl_11, gl_12, gl_13, gl_14, gl_15, gl_16, gl_17, sk0i, sk0r, sk0n, sk1i, sk1r, sk1n, sk_2, sk_3, sk_4, sk_5, sk_6, sk_7, sk_8, sk_9, sk_10, sk_11, sk_12, sk_13, sk_14, sk_15, sk_16, sk_17, ls_0, ls_1, ls_2, ls_3, ls_4, ls_5, ls_6, ls_7, ls_8, ls_9, ls_10, ls_11, ls_12, ls_13, ls_14, ls_15, ls_16, ls_17, ct1_i, ct1_r, wd8_0, wd8_i1, wd8_r1, wd8_i2, wd8_r2, wd8_i3, wd8_r3, wd8_i4, wd8_r4, wd8_i5, wd8_r5, wd8_i6, wd8_r6, wd8_i7, wd8_r7, wd8_i8, wd8_r8, wd8_l2, wd8_l3, wd8_l4, wd8_l5, wd8_l6, wd8_l7, wd8_l8, tl_s, tl_n, inR_t, bd_t, true_and, and_true, true_or, or_true, if_true_x, if_false_x, if_pos, if_neg, Int.toNat_natCast, natL, bI_0, bI_1, bI_ft, eq_self, b_tf, b_ft, not_true_eq_false, not_false_eq_true, m_20 hp, hp.t0, hp.t1, hp.t2, hp.t3, hp.t4, hp.t5, hp.t6, hp.t7, hp.t8, hp.t9, hp.t10, hp.t11, hp.t12, hp.t13, hp.t14, hp.t15, hp.t16, hp.t17, hp.t18, hp.t19, hp.t20, hp.t21, hp.t22, hp.t23, hp.z2, hp.z3, hp.z4, hp.z5, hp.z7, hp.z8, hp.z9, hp.z10, hp.z12, hp.z13, hp.z14, hp.z15, hp.z16, hp.z17, hp.z18, hp.z20, hp.z21, hp.z22, hp.z23, hp.r0_2, hp.r0_3, hp.r0_4, hp.r0_5, hp.r1_1, hp.r1_2, hp.r1_3, hp.r1_4, hp.r6_1, hp.r6_2, hp.r6_3, hp.r6_4, hp.r11_1, hp.r11_2, hp.r11_3, hp.r11_4, hp.r11_5, hp.r11_6, hp.r11_7, hp.r19_1, hp.r19_2, hp.r19_3, hp.r19_4]
  have f1 := Fz.uI (X := X) (h := h) (I := h.1) (F := h.2) (x := h.1 (200 + 17) b) (a := 200 + 17) (j := a) (Fz.refl z) (by omega) (by rw [hp.z17]; omega)
  have f2 := Fz.uI (x := h.1 (200 + 18) b) (a := 200 + 18) (j := a) f1 (by omega) (by rw [hp.z18]; omega)
  have f3 := Fz.uI (x := h.1 (200 + 17) a) (a := 200 + 17) (j := b) f2 (by omega) (by rw [hp.z17]; omega)
  have f4 := Fz.uI (x := h.1 (200 + 18) a) (a := 200 + 18) (j := b) f3 (by omega) (by rw [hp.z18]; omega)
  refine hq _ f4 ?_
  rw [cv_u (by omega) (by omega), cv_u (by omega) (by omega), cv_u (by omega) (by omega), cv_u (by omega) (by omega)]
  rfl
set_option maxHeartbeats 2000000 in
theorem m_63 {h : xH} (hp : PL X 200) (hc : CT X ns nb ln) (z : NZ X h) (g : WG (cv h 200)) (tm : TMb (h.1 1)) {a b : Nat} {now most : Int} (ha : a < 20) (hb : b < 20) (hq : ∀ h2, Fz X h h2 → cv h2 200 = exW (cv h 200) (h.1 1 4) a b most → Q (some (vi (if wir (exV (cv h 200) a b) (h.1 1 4) ≤ most then wir (exV (cv h 200) a b) (h.1 1 4) else now))) h2) : Cl X 63 [vr 57, vr 200, vi a, vi b, vi now, vi most] h Q := by
  unfold exW at hq
  rw [c_63]
  simp (disch := first | assumption | omega) only [e_63_0, e_63_1, e_63_2, e_63_3, onI_s, onR_s, onL_s, gl_0, gl_n, gl_1, gl_2, gl_3, gl_4, gl_5, gl_6, gl_7, gl_8, gl_9, gl_10, gl_11, gl_12, gl_13, gl_14, gl_15, gl_16, gl_17, sk0i, sk0r, sk0n, sk1i, sk1r, sk1n, sk_2, sk_3, sk_4, sk_5, sk_6, sk_7, sk_8, sk_9, sk_10, sk_11, sk_12, sk_13, sk_14, sk_15, sk_16, sk_17, ls_0, ls_1, ls_2, ls_3, ls_4, ls_5, ls_6, ls_7, ls_8, ls_9, ls_10, ls_11, ls_12, ls_13, ls_14, ls_15, ls_16, ls_17, ct1_i, ct1_r, wd8_0, wd8_i1, wd8_r1, wd8_i2, wd8_r2, wd8_i3, wd8_r3, wd8_i4, wd8_r4, wd8_i5, wd8_r5, wd8_i6, wd8_r6, wd8_i7, wd8_r7, wd8_i8, wd8_r8, wd8_l2, wd8_l3, wd8_l4, wd8_l5, wd8_l6, wd8_l7, wd8_l8, tl_s, tl_n, inR_t, bd_t, true_and, and_true, true_or, or_true, if_true_x, if_false_x, if_pos, if_neg, Int.toNat_natCast, natL, bI_0, bI_1, bI_ft, eq_self, b_tf, b_ft, not_true_eq_false, not_false_eq_true, hc.t57, hc.r57_0, hc.r57_1, hc.r57_2, hc.r57_3, hc.r57_4, hc.r57_5, hc.r57_6, hc.r57_7, hc.r57_8, hc.r57_9, hc.r57_10, hp.t0, hp.t1, hp.t2, hp.t3, hp.t4, hp.t5, hp.t6, hp.t7, hp.t8, hp.t9, hp.t10, hp.t11, hp.t12, hp.t13, hp.t14, hp.t15, hp.t16, hp.t17, hp.t18, hp.t19, hp.t20, hp.t21, hp.t22, hp.t23, hp.z2, hp.z3, hp.z4, hp.z5, hp.z7, hp.z8, hp.z9, hp.z10, hp.z12, hp.z13, hp.z14, hp.z15, hp.z16, hp.z17, hp.z18, hp.z20, hp.z21, hp.z22, hp.z23, hp.r0_2, hp.r0_3, hp.r0_4, hp.r0_5, hp.r1_1, hp.r1_2, hp.r1_3, hp.r1_4, hp.r6_1, hp.r6_2, hp.r6_3, hp.r6_4, hp.r11_1, hp.r11_2, hp.r11_3, hp.r11_4, hp.r11_5, hp.r11_6, hp.r11_7, hp.r19_1, hp.r19_2, hp.r19_3, hp.r19_4]
  (rw [e_63_4]; refine ⟨⟨hp.t11, by decide⟩, ?_⟩)
  refine m_21 hp z ha hb (fun h2 f2 e2 => ?_)
  simp (disch := first | assumption | omega) only [e_63_5, e_63_6, e_63_7, onI_s, onR_s, onL_s, gl_0, gl_n, gl_1, gl_2, gl_3, gl_4, gl_5, gl_6, gl_7, gl_8, gl_9, gl_10, gl_11, gl_12, gl_13, gl_14, gl_15, gl_16, gl_17, sk0i, sk0r, sk0n, sk1i, sk1r, sk1n, sk_2, sk_3, sk_4, sk_5, sk_6, sk_7, sk_8, sk_9, sk_10, sk_11, sk_12, sk_13, sk_14, sk_15, sk_16, sk_17, ls_0, ls_1, ls_2, ls_3, ls_4, ls_5, ls_6, ls_7, ls_8, ls_9, ls_10, ls_11, ls_12, ls_13, ls_14, ls_15, ls_16, ls_17, ct1_i, ct1_r, wd8_0, wd8_i1, wd8_r1, wd8_i2, wd8_r2, wd8_i3, wd8_r3, wd8_i4, wd8_r4, wd8_i5, wd8_r5, wd8_i6, wd8_r6, wd8_i7, wd8_r7, wd8_i8, wd8_r8, wd8_l2, wd8_l3, wd8_l4, wd8_l5, wd8_l6, wd8_l7, wd8_l8, tl_s, tl_n, inR_t, bd_t, true_and, and_true, true_or, or_true, if_true_x, if_false_x, if_pos, if_neg, Int.toNat_natCast, natL, bI_0, bI_1, bI_ft, eq_self, b_tf, b_ft, not_true_eq_false, not_false_eq_true, hc.t57, hc.r57_0, hc.r57_1, hc.r57_2, hc.r57_3, hc.r57_4, hc.r57_5, hc.r57_6, hc.r57_7, hc.r57_8, hc.r57_9, hc.r57_10]
  (rw [e_63_8]; refine ⟨⟨hc.t14, by decide⟩, ?_⟩)
  refine wirC hp hc (by rw [e2]; exact exV_wg g) (by rw [f2.t]; exact tm) (fun h3 q3 => ?_)
  rw [e2, f2.t]
  have f3 := f2.tr (q3.fz f2.1)
  have e3 := (q3.cv (b := 200) (by omega)).trans e2
  by_cases e : wir (exV (cv h 200) a b) (h.1 1 4) ≤ most
  · rw [if_pos e, if_pos e] at hq
    simp (disch := first | assumption | omega) only [e_63_9, e_63_10, e_63_11, e_63_12, e_63_13, e_63_14, onI_s, onR_s, onL_s, gl_0, gl_n, gl_1, gl_2, gl_3, gl_4, gl_5, gl_6, gl_7, gl_8, gl_9, gl_10, gl_11, gl_12, gl_13, gl_14, gl_15, gl_16, gl_17, sk0i, sk0r, sk0n, sk1i, sk1r, sk1n, sk_2, sk_3, sk_4, sk_5, sk_6, sk_7, sk_8, sk_9, sk_10, sk_11, sk_12, sk_13, sk_14, sk_15, sk_16, sk_17, ls_0, ls_1, ls_2, ls_3, ls_4, ls_5, ls_6, ls_7, ls_8, ls_9, ls_10, ls_11, ls_12, ls_13, ls_14, ls_15, ls_16, ls_17, ct1_i, ct1_r, wd8_0, wd8_i1, wd8_r1, wd8_i2, wd8_r2, wd8_i3, wd8_r3, wd8_i4, wd8_r4, wd8_i5, wd8_r5, wd8_i6, wd8_r6, wd8_i7, wd8_r7, wd8_i8, wd8_r8, wd8_l2, wd8_l3, wd8_l4, wd8_l5, wd8_l6, wd8_l7, wd8_l8, tl_s, tl_n, inR_t, bd_t, true_and, and_true, true_or, or_true, if_true_x, if_false_x, if_pos, if_neg, Int.toNat_natCast, natL, bI_0, bI_1, bI_ft, eq_self, b_tf, b_ft, not_true_eq_false, not_false_eq_true]
    exact hq h3 f3 e3
  · rw [if_neg e, if_neg e] at hq
    simp (disch := first | assumption | omega) only [e_63_9, e_63_10, e_63_11, e_63_12, e_63_15, e_63_16, e_63_17, e_63_18, onI_s, onR_s, onL_s, gl_0, gl_n, gl_1, gl_2, gl_3, gl_4, gl_5, gl_6, gl_7, gl_8, gl_9, gl_10, gl_11, gl_12, gl_13, gl_14, gl_15, gl_16, gl_17, sk0i, sk0r, sk0n, sk1i, sk1r, sk1n, sk_2, sk_3, sk_4, sk_5, sk_6, sk_7, sk_8, sk_9, sk_10, sk_11, sk_12, sk_13, sk_14, sk_15, sk_16, sk_17, ls_0, ls_1, ls_2, ls_3, ls_4, ls_5, ls_6, ls_7, ls_8, ls_9, ls_10, ls_11, ls_12, ls_13, ls_14, ls_15, ls_16, ls_17, ct1_i, ct1_r, wd8_0, wd8_i1, wd8_r1, wd8_i2, wd8_r2, wd8_i3, wd8_r3, wd8_i4, wd8_r4, wd8_i5, wd8_r5, wd8_i6, wd8_r6, wd8_i7, wd8_r7, wd8_i8, wd8_r8, wd8_l2, wd8_l3, wd8_l4, wd8_l5, wd8_l6, wd8_l7, wd8_l8, tl_s, tl_n, inR_t, bd_t, true_and, and_true, true_or, or_true, if_true_x, if_false_x, if_pos, if_neg, Int.toNat_natCast, natL, bI_0, bI_1, bI_ft, eq_self, b_tf, b_ft, not_true_eq_false, not_false_eq_true, hp.t0, hp.t1, hp.t2, hp.t3, hp.t4, hp.t5, hp.t6, hp.t7, hp.t8, hp.t9, hp.t10, hp.t11, hp.t12, hp.t13, hp.t14, hp.t15, hp.t16, hp.t17, hp.t18, hp.t19, hp.t20, hp.t21, hp.t22, hp.t23, hp.z2, hp.z3, hp.z4, hp.z5, hp.z7, hp.z8, hp.z9, hp.z10, hp.z12, hp.z13, hp.z14, hp.z15, hp.z16, hp.z17, hp.z18, hp.z20, hp.z21, hp.z22, hp.z23, hp.r0_2, hp.r0_3, hp.r0_4, hp.r0_5, hp.r1_1, hp.r1_2, hp.r1_3, hp.r1_4, hp.r6_1, hp.r6_2, hp.r6_3, hp.r6_4, hp.r11_1, hp.r11_2, hp.r11_3, hp.r11_4, hp.r11_5, hp.r11_6, hp.r11_7, hp.r19_1, hp.r19_2, hp.r19_3, hp.r19_4]
    (rw [e_63_19]; refine ⟨⟨hp.t11, by decide⟩, ?_⟩)
    refine m_21 hp f3.1 ha hb (fun h4 f4 e4 => ?_)
    simp (disch := first | assumption | omega) only [e_63_20, e_63_21, onI_s, onR_s, onL_s, gl_0, gl_n, gl_1, gl_2, gl_3, gl_4, gl_5, gl_6, gl_7, gl_8, gl_9, gl_10, gl_11, gl_12, gl_13, gl_14, gl_15, gl_16, gl_17, sk0i, sk0r, sk0n, sk1i, sk1r, sk1n, sk_2, sk_3, sk_4, sk_5, sk_6, sk_7, sk_8, sk_9, sk_10, sk_11, sk_12, sk_13, sk_14, sk_15, sk_16, sk_17, ls_0, ls_1, ls_2, ls_3, ls_4, ls_5, ls_6, ls_7, ls_8, ls_9, ls_10, ls_11, ls_12, ls_13, ls_14, ls_15, ls_16, ls_17, ct1_i, ct1_r, wd8_0, wd8_i1, wd8_r1, wd8_i2, wd8_r2, wd8_i3, wd8_r3, wd8_i4, wd8_r4, wd8_i5, wd8_r5, wd8_i6, wd8_r6, wd8_i7, wd8_r7, wd8_i8, wd8_r8, wd8_l2, wd8_l3, wd8_l4, wd8_l5, wd8_l6, wd8_l7, wd8_l8, tl_s, tl_n, inR_t, bd_t, true_and, and_true, true_or, or_true, if_true_x, if_false_x, if_pos, if_neg, Int.toNat_natCast, natL, bI_0, bI_1, bI_ft, eq_self, b_tf, b_ft, not_true_eq_false, not_false_eq_true]
    rw [e3, exV_2] at e4
    exact hq h4 (f3.tr f4) e4
set_option maxHeartbeats 4000000 in
theorem l_62i (hp : PL X 200) (hc : CT X ns nb ln) {n a : Nat} {bef t : Int} (hn : n ≤ 20) (ha : a < n) (t0 : 0 ≤ t) (t1 : t ≤ 8) : ∀ (m b : Nat) (h : xH), NZ X h → WG (cv h 200) → TMb (h.1 1) → h.1 1 4 = t → cv h 200 11 0 = n → b + m = n → a < b → (∀ h2, Fz X h h2 → cv h2 200 = swI t a m b (cv h 200) → Ev X 62 41 [some (vr 57), some (vr 200), some (vr (200 + 11)), some (vi bef), some (vi (wir (cv h2 200) t)), some (vi a), some (vi n)] [] h2 Q) → Ev X 62 20 [some (vr 57), some (vr 200), some (vr (200 + 11)), some (vi bef), some (vi (wir (cv h 200) t)), some (vi a), some (vi b)] [] h Q := by
  intro m
  induction m with
  | zero =>
    intro b h z g tm ht hs hm hab hq
    have hs2 : h.2 (200 + 11) 0 = n := hs
    rw [e_62_20]
    simp (disch := first | assumption | omega) only [e_62_21, e_62_22, e_62_23, onI_s, onR_s, onL_s, gl_0, gl_n, gl_1, gl_2, gl_3, gl_4, gl_5, gl_6, gl_7, gl_8, gl_9, gl_10, gl_11, gl_12, gl_13, gl_14, gl_15, gl_16, gl_17, sk0i, sk0r, sk0n, sk1i, sk1r, sk1n, sk_2, sk_3, sk_4, sk_5, sk_6, sk_7, sk_8, sk_9, sk_10, sk_11, sk_12, sk_13, sk_14, sk_15, sk_16, sk_17, ls_0, ls_1, ls_2, ls_3, ls_4, ls_5, ls_6, ls_7, ls_8, ls_9, ls_10, ls_11, ls_12, ls_13, ls_14, ls_15, ls_16, ls_17, ct1_i, ct1_r, wd8_0, wd8_i1, wd8_r1, wd8_i2, wd8_r2, wd8_i3, wd8_r3, wd8_i4, wd8_r4, wd8_i5, wd8_r5, wd8_i6, wd8_r6, wd8_i7, wd8_r7, wd8_i8, wd8_r8, wd8_l2, wd8_l3, wd8_l4, wd8_l5, wd8_l6, wd8_l7, wd8_l8, tl_s, tl_n, inR_t, bd_t, true_and, and_true, true_or, or_true, if_true_x, if_false_x, if_pos, if_neg, Int.toNat_natCast, natL, bI_0, bI_1, bI_ft, eq_self, b_tf, b_ft, not_true_eq_false, not_false_eq_true, hs2, hp.t0, hp.t1, hp.t2, hp.t3, hp.t4, hp.t5, hp.t6, hp.t7, hp.t8, hp.t9, hp.t10, hp.t11, hp.t12, hp.t13, hp.t14, hp.t15, hp.t16, hp.t17, hp.t18, hp.t19, hp.t20, hp.t21, hp.t22, hp.t23, hp.z2, hp.z3, hp.z4, hp.z5, hp.z7, hp.z8, hp.z9, hp.z10, hp.z12, hp.z13, hp.z14, hp.z15, hp.z16, hp.z17, hp.z18, hp.z20, hp.z21, hp.z22, hp.z23, hp.r0_2, hp.r0_3, hp.r0_4, hp.r0_5, hp.r1_1, hp.r1_2, hp.r1_3, hp.r1_4, hp.r6_1, hp.r6_2, hp.r6_3, hp.r6_4, hp.r11_1, hp.r11_2, hp.r11_3, hp.r11_4, hp.r11_5, hp.r11_6, hp.r11_7, hp.r19_1, hp.r19_2, hp.r19_3, hp.r19_4]
    rw [show b = n by omega]
    exact hq h (Fz.refl z) rfl
  | succ m ih =>
    intro b h z g tm ht hs hm hab hq
    have hs2 : h.2 (200 + 11) 0 = n := hs
    have wb := wir_bd g t0 t1
    have nab : ¬ (a : Int) = b := by omega
    rw [swI] at hq
    rw [e_62_20]
    have m24 : ∀ {Q2 : Option xV → xH → Prop}, Cl X 24 [vr (200 + 11), vi (a : Int), vi (b : Int)] h Q2 ↔ Q2 (some (vi (bI (likB (cv h 200) a b)))) h := by
      intro Q2
      rw [m_24 hp (by omega) (by omega) (by omega) (by omega), decide_eq_false nab, Bool.not_false, Bool.true_and]
      exact Iff.rfl
    cases e : likB (cv h 200) a b
    · rw [if_neg (by rw [e]; simp)] at hq
      simp (disch := first | assumption | omega) only [e_62_21, e_62_22, e_62_23, e_62_24, e_62_25, e_62_26, e_62_27, e_62_28, e_62_39, e_62_40, onI_s, onR_s, onL_s, gl_0, gl_n, gl_1, gl_2, gl_3, gl_4, gl_5, gl_6, gl_7, gl_8, gl_9, gl_10, gl_11, gl_12, gl_13, gl_14, gl_15, gl_16, gl_17, sk0i, sk0r, sk0n, sk1i, sk1r, sk1n, sk_2, sk_3, sk_4, sk_5, sk_6, sk_7, sk_8, sk_9, sk_10, sk_11, sk_12, sk_13, sk_14, sk_15, sk_16, sk_17, ls_0, ls_1, ls_2, ls_3, ls_4, ls_5, ls_6, ls_7, ls_8, ls_9, ls_10, ls_11, ls_12, ls_13, ls_14, ls_15, ls_16, ls_17, ct1_i, ct1_r, wd8_0, wd8_i1, wd8_r1, wd8_i2, wd8_r2, wd8_i3, wd8_r3, wd8_i4, wd8_r4, wd8_i5, wd8_r5, wd8_i6, wd8_r6, wd8_i7, wd8_r7, wd8_i8, wd8_r8, wd8_l2, wd8_l3, wd8_l4, wd8_l5, wd8_l6, wd8_l7, wd8_l8, tl_s, tl_n, inR_t, bd_t, true_and, and_true, true_or, or_true, if_true_x, if_false_x, if_pos, if_neg, Int.toNat_natCast, natL, bI_0, bI_1, bI_ft, eq_self, b_tf, b_ft, not_true_eq_false, not_false_eq_true, hs2, m24, e, cast_s, hp.t0, hp.t1, hp.t2, hp.t3, hp.t4, hp.t5, hp.t6, hp.t7, hp.t8, hp.t9, hp.t10, hp.t11, hp.t12, hp.t13, hp.t14, hp.t15, hp.t16, hp.t17, hp.t18, hp.t19, hp.t20, hp.t21, hp.t22, hp.t23, hp.z2, hp.z3, hp.z4, hp.z5, hp.z7, hp.z8, hp.z9, hp.z10, hp.z12, hp.z13, hp.z14, hp.z15, hp.z16, hp.z17, hp.z18, hp.z20, hp.z21, hp.z22, hp.z23, hp.r0_2, hp.r0_3, hp.r0_4, hp.r0_5, hp.r1_1, hp.r1_2, hp.r1_3, hp.r1_4, hp.r6_1, hp.r6_2, hp.r6_3, hp.r6_4, hp.r11_1, hp.r11_2, hp.r11_3, hp.r11_4, hp.r11_5, hp.r11_6, hp.r11_7, hp.r19_1, hp.r19_2, hp.r19_3, hp.r19_4]
      exact ih (b + 1) h z g tm ht hs (by omega) (by omega) hq
    · rw [if_pos e] at hq
      simp (disch := first | assumption | omega) only [e_62_21, e_62_22, e_62_23, e_62_24, e_62_25, e_62_26, e_62_27, e_62_28, e_62_29, e_62_30, e_62_31, e_62_32, e_62_33, e_62_34, e_62_35, e_62_36, onI_s, onR_s, onL_s, gl_0, gl_n, gl_1, gl_2, gl_3, gl_4, gl_5, gl_6, gl_7, gl_8, gl_9, gl_10, gl_11, gl_12, gl_13, gl_14, gl_15, gl_16, gl_17, sk0i, sk0r, sk0n, sk1i, sk1r, sk1n, sk_2, sk_3, sk_4, sk_5, sk_6, sk_7, sk_8, sk_9, sk_10, sk_11, sk_12, sk_13, sk_14, sk_15, sk_16, sk_17, ls_0, ls_1, ls_2, ls_3, ls_4, ls_5, ls_6, ls_7, ls_8, ls_9, ls_10, ls_11, ls_12, ls_13, ls_14, ls_15, ls_16, ls_17, ct1_i, ct1_r, wd8_0, wd8_i1, wd8_r1, wd8_i2, wd8_r2, wd8_i3, wd8_r3, wd8_i4, wd8_r4, wd8_i5, wd8_r5, wd8_i6, wd8_r6, wd8_i7, wd8_r7, wd8_i8, wd8_r8, wd8_l2, wd8_l3, wd8_l4, wd8_l5, wd8_l6, wd8_l7, wd8_l8, tl_s, tl_n, inR_t, bd_t, true_and, and_true, true_or, or_true, if_true_x, if_false_x, if_pos, if_neg, Int.toNat_natCast, natL, bI_0, bI_1, bI_ft, eq_self, b_tf, b_ft, not_true_eq_false, not_false_eq_true, hs2, m24, e, hp.t0, hp.t1, hp.t2, hp.t3, hp.t4, hp.t5, hp.t6, hp.t7, hp.t8, hp.t9, hp.t10, hp.t11, hp.t12, hp.t13, hp.t14, hp.t15, hp.t16, hp.t17, hp.t18, hp.t19, hp.t20, hp.t21, hp.t22, hp.t23, hp.z2, hp.z3, hp.z4, hp.z5, hp.z7, hp.z8, hp.z9, hp.z10, hp.z12, hp.z13, hp.z14, hp.z15, hp.z16, hp.z17, hp.z18, hp.z20, hp.z21, hp.z22, hp.z23, hp.r0_2, hp.r0_3, hp.r0_4, hp.r0_5, hp.r1_1, hp.r1_2, hp.r1_3, hp.r1_4, hp.r6_1, hp.r6_2, hp.r6_3, hp.r6_4, hp.r11_1, hp.r11_2, hp.r11_3, hp.r11_4, hp.r11_5, hp.r11_6, hp.r11_7, hp.r19_1, hp.r19_2, hp.r19_3, hp.r19_4]
      (rw [e_62_37]; refine ⟨⟨hc.t57, by decide⟩, ?_⟩)
      refine m_63 hp hc z g tm (by omega) (by omega) (fun h2 f2 e2 => ?_)
      rw [ht] at e2 ⊢
      have ew : (if wir (exV (cv h 200) a b) t ≤ wir (cv h 200) t - 1 then wir (exV (cv h 200) a b) t else wir (cv h 200) t) = wir (cv h2 200) t := by
        rw [e2]
        unfold exW
        by_cases y : wir (exV (cv h 200) a b) t ≤ wir (cv h 200) t - 1
        · rw [if_pos y, if_pos y]
        · rw [if_neg y, if_neg y]
      rw [ew]
      simp (disch := first | assumption | omega) only [e_62_38, e_62_39, e_62_40, onI_s, onR_s, onL_s, gl_0, gl_n, gl_1, gl_2, gl_3, gl_4, gl_5, gl_6, gl_7, gl_8, gl_9, gl_10, gl_11, gl_12, gl_13, gl_14, gl_15, gl_16, gl_17, sk0i, sk0r, sk0n, sk1i, sk1r, sk1n, sk_2, sk_3, sk_4, sk_5, sk_6, sk_7, sk_8, sk_9, sk_10, sk_11, sk_12, sk_13, sk_14, sk_15, sk_16, sk_17, ls_0, ls_1, ls_2, ls_3, ls_4, ls_5, ls_6, ls_7, ls_8, ls_9, ls_10, ls_11, ls_12, ls_13, ls_14, ls_15, ls_16, ls_17, ct1_i, ct1_r, wd8_0, wd8_i1, wd8_r1, wd8_i2, wd8_r2, wd8_i3, wd8_r3, wd8_i4, wd8_r4, wd8_i5, wd8_r5, wd8_i6, wd8_r6, wd8_i7, wd8_r7, wd8_i8, wd8_r8, wd8_l2, wd8_l3, wd8_l4, wd8_l5, wd8_l6, wd8_l7, wd8_l8, tl_s, tl_n, inR_t, bd_t, true_and, and_true, true_or, or_true, if_true_x, if_false_x, if_pos, if_neg, Int.toNat_natCast, natL, bI_0, bI_1, bI_ft, eq_self, b_tf, b_ft, not_true_eq_false, not_false_eq_true, cast_s]
      refine ih (b + 1) h2 f2.1 (by rw [e2]; exact exW_wg g) (by rw [f2.t]; exact tm) (by rw [f2.t]; exact ht) (by rw [e2, exW_o (by omega)]; exact hs) (by omega) (by omega) (fun h3 f3 e3 => hq h3 (f2.tr f3) ?_)
      rw [e3, e2]
set_option maxHeartbeats 4000000 in
theorem l_62 (hp : PL X 200) (hc : CT X ns nb ln) {n : Nat} {bef t : Int} (hn : n ≤ 20) (t0 : 0 ≤ t) (t1 : t ≤ 8) (b0 : 0 ≤ bef) (b1 : bef ≤ 313344) : ∀ (m a : Nat) (h : xH) (x6 : Option xV), NZ X h → WG (cv h 200) → TMb (h.1 1) → h.1 1 4 = t → cv h 200 11 0 = n → a + m = n → (∀ h2, Fz X h h2 → cv h2 200 = swO t n m a (cv h 200) → Q (some (vi (bef - wir (cv h2 200) t))) h2) → Ev X 62 12 [some (vr 57), some (vr 200), some (vr (200 + 11)), some (vi bef), some (vi (wir (cv h 200) t)), some (vi a), x6] [] h Q := by
  intro m
  induction m with
  | zero =>
    intro a h x6 z g tm ht hs hm hq
    have hs2 : h.2 (200 + 11) 0 = n := hs
    have wb := wir_bd g t0 t1
    rw [e_62_12]
    simp (disch := first | assumption | omega) only [e_62_13, e_62_14, e_62_15, e_62_43, e_62_44, e_62_45, e_62_46, onI_s, onR_s, onL_s, gl_0, gl_n, gl_1, gl_2, gl_3, gl_4, gl_5, gl_6, gl_7, gl_8, gl_9, gl_10, gl_11, gl_12, gl_13, gl_14, gl_15, gl_16, gl_17, sk0i, sk0r, sk0n, sk1i, sk1r, sk1n, sk_2, sk_3, sk_4, sk_5, sk_6, sk_7, sk_8, sk_9, sk_10, sk_11, sk_12, sk_13, sk_14, sk_15, sk_16, sk_17, ls_0, ls_1, ls_2, ls_3, ls_4, ls_5, ls_6, ls_7, ls_8, ls_9, ls_10, ls_11, ls_12, ls_13, ls_14, ls_15, ls_16, ls_17, ct1_i, ct1_r, wd8_0, wd8_i1, wd8_r1, wd8_i2, wd8_r2, wd8_i3, wd8_r3, wd8_i4, wd8_r4, wd8_i5, wd8_r5, wd8_i6, wd8_r6, wd8_i7, wd8_r7, wd8_i8, wd8_r8, wd8_l2, wd8_l3, wd8_l4, wd8_l5, wd8_l6, wd8_l7, wd8_l8, tl_s, tl_n, inR_t, bd_t, true_and, and_true, true_or, or_true, if_true_x, if_false_x, if_pos, if_neg, Int.toNat_natCast, natL, bI_0, bI_1, bI_ft, eq_self, b_tf, b_ft, not_true_eq_false, not_false_eq_true, hs2, hp.t0, hp.t1, hp.t2, hp.t3, hp.t4, hp.t5, hp.t6, hp.t7, hp.t8, hp.t9, hp.t10, hp.t11, hp.t12, hp.t13, hp.t14, hp.t15, hp.t16, hp.t17, hp.t18, hp.t19, hp.t20, hp.t21, hp.t22, hp.t23, hp.z2, hp.z3, hp.z4, hp.z5, hp.z7, hp.z8, hp.z9, hp.z10, hp.z12, hp.z13, hp.z14, hp.z15, hp.z16, hp.z17, hp.z18, hp.z20, hp.z21, hp.z22, hp.z23, hp.r0_2, hp.r0_3, hp.r0_4, hp.r0_5, hp.r1_1, hp.r1_2, hp.r1_3, hp.r1_4, hp.r6_1, hp.r6_2, hp.r6_3, hp.r6_4, hp.r11_1, hp.r11_2, hp.r11_3, hp.r11_4, hp.r11_5, hp.r11_6, hp.r11_7, hp.r19_1, hp.r19_2, hp.r19_3, hp.r19_4]
    exact hq h (Fz.refl z) rfl
  | succ m ih =>
    intro a h x6 z g tm ht hs hm hq
    have hs2 : h.2 (200 + 11) 0 = n := hs
    rw [swO] at hq
    rw [e_62_12]
    simp (disch := first | assumption | omega) only [e_62_13, e_62_14, e_62_15, e_62_16, e_62_17, e_62_18, e_62_19, onI_s, onR_s, onL_s, gl_0, gl_n, gl_1, gl_2, gl_3, gl_4, gl_5, gl_6, gl_7, gl_8, gl_9, gl_10, gl_11, gl_12, gl_13, gl_14, gl_15, gl_16, gl_17, sk0i, sk0r, sk0n, sk1i, sk1r, sk1n, sk_2, sk_3, sk_4, sk_5, sk_6, sk_7, sk_8, sk_9, sk_10, sk_11, sk_12, sk_13, sk_14, sk_15, sk_16, sk_17, ls_0, ls_1, ls_2, ls_3, ls_4, ls_5, ls_6, ls_7, ls_8, ls_9, ls_10, ls_11, ls_12, ls_13, ls_14, ls_15, ls_16, ls_17, ct1_i, ct1_r, wd8_0, wd8_i1, wd8_r1, wd8_i2, wd8_r2, wd8_i3, wd8_r3, wd8_i4, wd8_r4, wd8_i5, wd8_r5, wd8_i6, wd8_r6, wd8_i7, wd8_r7, wd8_i8, wd8_r8, wd8_l2, wd8_l3, wd8_l4, wd8_l5, wd8_l6, wd8_l7, wd8_l8, tl_s, tl_n, inR_t, bd_t, true_and, and_true, true_or, or_true, if_true_x, if_false_x, if_pos, if_neg, Int.toNat_natCast, natL, bI_0, bI_1, bI_ft, eq_self, b_tf, b_ft, not_true_eq_false, not_false_eq_true, hs2, cast_s, hp.t0, hp.t1, hp.t2, hp.t3, hp.t4, hp.t5, hp.t6, hp.t7, hp.t8, hp.t9, hp.t10, hp.t11, hp.t12, hp.t13, hp.t14, hp.t15, hp.t16, hp.t17, hp.t18, hp.t19, hp.t20, hp.t21, hp.t22, hp.t23, hp.z2, hp.z3, hp.z4, hp.z5, hp.z7, hp.z8, hp.z9, hp.z10, hp.z12, hp.z13, hp.z14, hp.z15, hp.z16, hp.z17, hp.z18, hp.z20, hp.z21, hp.z22, hp.z23, hp.r0_2, hp.r0_3, hp.r0_4, hp.r0_5, hp.r1_1, hp.r1_2, hp.r1_3, hp.r1_4, hp.r6_1, hp.r6_2, hp.r6_3, hp.r6_4, hp.r11_1, hp.r11_2, hp.r11_3, hp.r11_4, hp.r11_5, hp.r11_6, hp.r11_7, hp.r19_1, hp.r19_2, hp.r19_3, hp.r19_4]
    refine l_62i hp hc (n := n) (a := a) hn (by omega) t0 t1 (n - (a + 1)) (a + 1) h z g tm ht hs (by omega) (by omega) (fun h2 f2 e2 => ?_)
    rw [e_62_41]
    simp (disch := first | assumption | omega) only [e_62_42, onI_s, onR_s, onL_s, gl_0, gl_n, gl_1, gl_2, gl_3, gl_4, gl_5, gl_6, gl_7, gl_8, gl_9, gl_10, gl_11, gl_12, gl_13, gl_14, gl_15, gl_16, gl_17, sk0i, sk0r, sk0n, sk1i, sk1r, sk1n, sk_2, sk_3, sk_4, sk_5, sk_6, sk_7, sk_8, sk_9, sk_10, sk_11, sk_12, sk_13, sk_14, sk_15, sk_16, sk_17, ls_0, ls_1, ls_2, ls_3, ls_4, ls_5, ls_6, ls_7, ls_8, ls_9, ls_10, ls_11, ls_12, ls_13, ls_14, ls_15, ls_16, ls_17, ct1_i, ct1_r, wd8_0, wd8_i1, wd8_r1, wd8_i2, wd8_r2, wd8_i3, wd8_r3, wd8_i4, wd8_r4, wd8_i5, wd8_r5, wd8_i6, wd8_r6, wd8_i7, wd8_r7, wd8_i8, wd8_r8, wd8_l2, wd8_l3, wd8_l4, wd8_l5, wd8_l6, wd8_l7, wd8_l8, tl_s, tl_n, inR_t, bd_t, true_and, and_true, true_or, or_true, if_true_x, if_false_x, if_pos, if_neg, Int.toNat_natCast, natL, bI_0, bI_1, bI_ft, eq_self, b_tf, b_ft, not_true_eq_false, not_false_eq_true, cast_s]
    refine ih (a + 1) h2 _ f2.1 (by rw [e2]; exact swI_wg _ _ _ g) (by rw [f2.t]; exact tm) (by rw [f2.t]; exact ht) (by rw [e2, swI_o (by omega)]; exact hs) (by omega) (fun h3 f3 e3 => hq h3 (f2.tr f3) ?_)
    rw [e3, e2]
set_option maxHeartbeats 4000000 in
theorem p_120 {h : xH} (ok : Ok X h) (g : Gd (cv h 200)) (tm : TMb (h.1 1)) (hq : ∀ h2, Cst X h h2 → cS h2 = (spSwaps (cS h)).2 → Q (some (vi (spSwaps (cS h)).1)) h2) : Cl X 120 [vr 0] h Q := by
  have ok0 := ok
  obtain ⟨z, os, oc, om, ⟨nb, ln, hc, hnb⟩, lp⟩ := ok
  have hp : PL X 200 := lp 0 (by decide)
  have hw := g.rg
  have nC := hw.nC
  have tt := tm.tall
  have wb := wir_bd g.wg tt.1 tt.2
  unfold spSwaps at hq
  rw [show (cS h).1 = cv h 200 from rfl, show (cS h).2.1 = h.1 1 from rfl] at hq
  rw [c_120]
  simp (disch := first | assumption | omega) only [e_120_0, e_120_1, onI_s, onR_s, onL_s, gl_0, gl_n, gl_1, gl_2, gl_3, gl_4, gl_5, gl_6, gl_7, gl_8, gl_9, gl_10, gl_11, gl_12, gl_13, gl_14, gl_15, gl_16, gl_17, sk0i, sk0r, sk0n, sk1i, sk1r, sk1n, sk_2, sk_3, sk_4, sk_5, sk_6, sk_7, sk_8, sk_9, sk_10, sk_11, sk_12, sk_13, sk_14, sk_15, sk_16, sk_17, ls_0, ls_1, ls_2, ls_3, ls_4, ls_5, ls_6, ls_7, ls_8, ls_9, ls_10, ls_11, ls_12, ls_13, ls_14, ls_15, ls_16, ls_17, ct1_i, ct1_r, wd8_0, wd8_i1, wd8_r1, wd8_i2, wd8_r2, wd8_i3, wd8_r3, wd8_i4, wd8_r4, wd8_i5, wd8_r5, wd8_i6, wd8_r6, wd8_i7, wd8_r7, wd8_i8, wd8_r8, wd8_l2, wd8_l3, wd8_l4, wd8_l5, wd8_l6, wd8_l7, wd8_l8, tl_s, tl_n, inR_t, bd_t, true_and, and_true, true_or, or_true, if_true_x, if_false_x, if_pos, if_neg, Int.toNat_natCast, natL, bI_0, bI_1, bI_ft, eq_self, b_tf, b_ft, not_true_eq_false, not_false_eq_true]
  (rw [e_120_2]; refine ⟨⟨hc.t0, by decide⟩, ?_⟩)
  refine kpC ok0 g (fun h2 k => ?_)
  simp (disch := first | assumption | omega) only [e_120_3, e_120_4, e_120_5, e_120_6, onI_s, onR_s, onL_s, gl_0, gl_n, gl_1, gl_2, gl_3, gl_4, gl_5, gl_6, gl_7, gl_8, gl_9, gl_10, gl_11, gl_12, gl_13, gl_14, gl_15, gl_16, gl_17, sk0i, sk0r, sk0n, sk1i, sk1r, sk1n, sk_2, sk_3, sk_4, sk_5, sk_6, sk_7, sk_8, sk_9, sk_10, sk_11, sk_12, sk_13, sk_14, sk_15, sk_16, sk_17, ls_0, ls_1, ls_2, ls_3, ls_4, ls_5, ls_6, ls_7, ls_8, ls_9, ls_10, ls_11, ls_12, ls_13, ls_14, ls_15, ls_16, ls_17, ct1_i, ct1_r, wd8_0, wd8_i1, wd8_r1, wd8_i2, wd8_r2, wd8_i3, wd8_r3, wd8_i4, wd8_r4, wd8_i5, wd8_r5, wd8_i6, wd8_r6, wd8_i7, wd8_r7, wd8_i8, wd8_r8, wd8_l2, wd8_l3, wd8_l4, wd8_l5, wd8_l6, wd8_l7, wd8_l8, tl_s, tl_n, inR_t, bd_t, true_and, and_true, true_or, or_true, if_true_x, if_false_x, if_pos, if_neg, Int.toNat_natCast, natL, bI_0, bI_1, bI_ft, eq_self, b_tf, b_ft, not_true_eq_false, not_false_eq_true, hc.t0, hc.r0_0, hc.r0_1, hc.r0_3, hc.r0_5, hc.r0_6, hc.r0_7, hc.r0_8, hc.r0_9, hc.r0_10, hc.r0_11, hc.r0_12, hc.r0_13]
  (rw [e_120_7]; refine ⟨⟨hc.t57, by decide⟩, ?_⟩)
  rw [c_62]
  simp (disch := first | assumption | omega) only [e_62_0, e_62_1, e_62_2, e_62_3, e_62_4, e_62_5, onI_s, onR_s, onL_s, gl_0, gl_n, gl_1, gl_2, gl_3, gl_4, gl_5, gl_6, gl_7, gl_8, gl_9, gl_10, gl_11, gl_12, gl_13, gl_14, gl_15, gl_16, gl_17, sk0i, sk0r, sk0n, sk1i, sk1r, sk1n, sk_2, sk_3, sk_4, sk_5, sk_6, sk_7, sk_8, sk_9, sk_10, sk_11, sk_12, sk_13, sk_14, sk_15, sk_16, sk_17, ls_0, ls_1, ls_2, ls_3, ls_4, ls_5, ls_6, ls_7, ls_8, ls_9, ls_10, ls_11, ls_12, ls_13, ls_14, ls_15, ls_16, ls_17, ct1_i, ct1_r, wd8_0, wd8_i1, wd8_r1, wd8_i2, wd8_r2, wd8_i3, wd8_r3, wd8_i4, wd8_r4, wd8_i5, wd8_r5, wd8_i6, wd8_r6, wd8_i7, wd8_r7, wd8_i8, wd8_r8, wd8_l2, wd8_l3, wd8_l4, wd8_l5, wd8_l6, wd8_l7, wd8_l8, tl_s, tl_n, inR_t, bd_t, true_and, and_true, true_or, or_true, if_true_x, if_false_x, if_pos, if_neg, Int.toNat_natCast, natL, bI_0, bI_1, bI_ft, eq_self, b_tf, b_ft, not_true_eq_false, not_false_eq_true, hc.t57, hc.r57_0, hc.r57_1, hc.r57_2, hc.r57_3, hc.r57_4, hc.r57_5, hc.r57_6, hc.r57_7, hc.r57_8, hc.r57_9, hc.r57_10, hp.t0, hp.t1, hp.t2, hp.t3, hp.t4, hp.t5, hp.t6, hp.t7, hp.t8, hp.t9, hp.t10, hp.t11, hp.t12, hp.t13, hp.t14, hp.t15, hp.t16, hp.t17, hp.t18, hp.t19, hp.t20, hp.t21, hp.t22, hp.t23, hp.z2, hp.z3, hp.z4, hp.z5, hp.z7, hp.z8, hp.z9, hp.z10, hp.z12, hp.z13, hp.z14, hp.z15, hp.z16, hp.z17, hp.z18, hp.z20, hp.z21, hp.z22, hp.z23, hp.r0_2, hp.r0_3, hp.r0_4, hp.r0_5, hp.r1_1, hp.r1_2, hp.r1_3, hp.r1_4, hp.r6_1, hp.r6_2, hp.r6_3, hp.r6_4, hp.r11_1, hp.r11_2, hp.r11_3, hp.r11_4, hp.r11_5, hp.r11_6, hp.r11_7, hp.r19_1, hp.r19_2, hp.r19_3, hp.r19_4]
  (rw [e_62_6]; refine ⟨⟨hc.t14, by decide⟩, ?_⟩)
  refine wirC hp hc (by rw [k.pv]; exact g.wg) (by rw [k.t]; exact tm) (fun h3 q3 => ?_)
  rw [k.pv, k.t]
  have e3 := (q3.cv (b := 200) (by omega)).trans k.pv
  have f3 := q3.fz k.1.1
  simp (disch := first | assumption | omega) only [e_62_7, e_62_8, e_62_9, e_62_10, e_62_11, onI_s, onR_s, onL_s, gl_0, gl_n, gl_1, gl_2, gl_3, gl_4, gl_5, gl_6, gl_7, gl_8, gl_9, gl_10, gl_11, gl_12, gl_13, gl_14, gl_15, gl_16, gl_17, sk0i, sk0r, sk0n, sk1i, sk1r, sk1n, sk_2, sk_3, sk_4, sk_5, sk_6, sk_7, sk_8, sk_9, sk_10, sk_11, sk_12, sk_13, sk_14, sk_15, sk_16, sk_17, ls_0, ls_1, ls_2, ls_3, ls_4, ls_5, ls_6, ls_7, ls_8, ls_9, ls_10, ls_11, ls_12, ls_13, ls_14, ls_15, ls_16, ls_17, ct1_i, ct1_r, wd8_0, wd8_i1, wd8_r1, wd8_i2, wd8_r2, wd8_i3, wd8_r3, wd8_i4, wd8_r4, wd8_i5, wd8_r5, wd8_i6, wd8_r6, wd8_i7, wd8_r7, wd8_i8, wd8_r8, wd8_l2, wd8_l3, wd8_l4, wd8_l5, wd8_l6, wd8_l7, wd8_l8, tl_s, tl_n, inR_t, bd_t, true_and, and_true, true_or, or_true, if_true_x, if_false_x, if_pos, if_neg, Int.toNat_natCast, natL, bI_0, bI_1, bI_ft, eq_self, b_tf, b_ft, not_true_eq_false, not_false_eq_true]
  have t3 : h3.1 1 = h.1 1 := by rw [q3.1]; exact k.t
  have li := l_62 (Q := fun r h2 => Ev X 120 8 [some (vr 0)] (r.toList ++ []) h2 Q) hp hc (n := (cv h 200 11 0).toNat) (bef := wir (cv h 200) (h.1 1 4)) (t := h.1 1 4) (by omega) tt.1 tt.2 wb.1 wb.2 (cv h 200 11 0).toNat 0 h3 none f3.1 (by rw [e3]; exact g.wg) (by rw [t3]; exact tm) (by rw [t3]) (by rw [e3]; omega) (by omega) (fun h4 f4 e4 => ?_)
  · rw [e3] at li
    exact li
  · rw [e3] at e4
    simp (disch := first | assumption | omega) only [e_120_8, onI_s, onR_s, onL_s, gl_0, gl_n, gl_1, gl_2, gl_3, gl_4, gl_5, gl_6, gl_7, gl_8, gl_9, gl_10, gl_11, gl_12, gl_13, gl_14, gl_15, gl_16, gl_17, sk0i, sk0r, sk0n, sk1i, sk1r, sk1n, sk_2, sk_3, sk_4, sk_5, sk_6, sk_7, sk_8, sk_9, sk_10, sk_11, sk_12, sk_13, sk_14, sk_15, sk_16, sk_17, ls_0, ls_1, ls_2, ls_3, ls_4, ls_5, ls_6, ls_7, ls_8, ls_9, ls_10, ls_11, ls_12, ls_13, ls_14, ls_15, ls_16, ls_17, ct1_i, ct1_r, wd8_0, wd8_i1, wd8_r1, wd8_i2, wd8_r2, wd8_i3, wd8_r3, wd8_i4, wd8_r4, wd8_i5, wd8_r5, wd8_i6, wd8_r6, wd8_i7, wd8_r7, wd8_i8, wd8_r8, wd8_l2, wd8_l3, wd8_l4, wd8_l5, wd8_l6, wd8_l7, wd8_l8, tl_s, tl_n, inR_t, bd_t, true_and, and_true, true_or, or_true, if_true_x, if_false_x, if_pos, if_neg, Int.toNat_natCast, natL, bI_0, bI_1, bI_ft, eq_self, b_tf, b_ft, not_true_eq_false, not_false_eq_true]
    rw [e4]
    exact hq h4 (act_c (r := 0) k (f3.tr f4) e4).1 (act_c (r := 0) k (f3.tr f4) e4).2
end SWC
