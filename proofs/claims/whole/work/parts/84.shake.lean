/-! SHAKE -/
def P17 (h h2 : xH) : Prop := (∀ a, a ≠ 217 → a ≠ 218 → h2.1 a = h.1 a) ∧ (∀ a, a ≠ 14 → h2.2 a = h.2 a)
def drw (s : Int) : Int := (s * 1103 + 12345) % 1000003
def shv (v : Nat → Nat → Int) (t n he s : Int) : Nat → Nat → Int := if ¬ drw s % n = drw (drw s) % n ∧ likB v (drw s % n).toNat (drw (drw s) % n).toNat = true then exW v t (drw s % n).toNat (drw (drw s) % n).toNat (wir v t + he) else v
def shk (t n : Int) : Nat → (Nat → Nat → Int) → Int → (Nat → Nat → Int) → Int → Int → Int × (Nat → Nat → Int)
  | 0, _, l, b, _, _ => (l, b)
  | m + 1, v, l, b, he, s => shk t n m (shv v t n he s) (if wir (shv v t n he s) t < l then wir (shv v t n he s) t else l) (if wir (shv v t n he s) t < l then shv v t n he s else b) (7 * he / 8) (drw (drw s))
def shR (v : Nat → Nat → Int) (t : Int) (sd m he : Int) : Int × (Nat → Nat → Int) := shk t (v 11 0) m.toNat v (wir v t) v he sd
def spShake (s : AS) (sd m he : Int) : Int × AS := if ¬ ((0 ≤ sd ∧ sd ≤ 1000000) ∧ (1 ≤ m ∧ m ≤ 60) ∧ (0 ≤ he ∧ he ≤ 9999)) then refS s (-1) else if s.1 11 0 = 0 then refS s (-4) else actS s 17 (wir s.1 (s.2.1 4) - (shR s.1 (s.2.1 4) sd m he).1) (shR s.1 (s.2.1 4) sd m he).2
theorem drw_bd (s : Int) : 0 ≤ drw s ∧ drw s ≤ 1000002 := by
  unfold drw
  omega
section SHC
variable {X : xL} {Q : Option xV → xH → Prop} {ns nb ln : Nat} {h h2 h3 : xH}
theorem P17.refl : P17 h h := ⟨fun _ _ _ => rfl, fun _ _ => rfl⟩
theorem P17.tr (a : P17 h h2) (b : P17 h2 h3) : P17 h h3 := ⟨fun k q1 q2 => (b.1 k q1 q2).trans (a.1 k q1 q2), fun k q => (b.2 k q).trans (a.2 k q)⟩
theorem P17.w (a : W14 h h2) : P17 h h2 := ⟨fun k _ _ => by rw [a.1], a.2⟩
theorem P17.fz (p : P17 h h2) (z : NZ X h2) : Fz X h h2 := by
  refine ⟨z, fun a q => ⟨p.1 a (by omega) (by omega), p.2 a (by omega)⟩, ?_, fun q hq => ⟨fun i => ?_, fun j hj i hi => ?_⟩⟩
  · rw [p.2 7 (by omega), p.2 22 (by omega)]; exact ⟨rfl, rfl, rfl, rfl⟩
  · rw [p.2 _ (by omega)]
  · rw [p.2 _ (by omega)]
theorem P17.u {I F : Nat → Nat → Int} {a j : Nat} {x : Int} (p : P17 h (I, F)) (ha : a = 217 ∨ a = 218) : P17 h (up2 I a j x, F) := ⟨fun k q1 q2 => (up2_of (by omega)).trans (p.1 k q1 q2), p.2⟩
theorem W14.nz (a : W14 h h2) (z : NZ X h) : NZ X h2 := by
  intro b j ht hz
  rw [a.1]
  exact z b j ht hz
theorem P17.cvo (p : P17 h h2) {j : Nat} (hj : j ≠ 17 ∧ j ≠ 18) : cv h2 200 j = cv h 200 j := by
  funext i
  unfold cv
  by_cases e : j = 0 ∨ j = 1 ∨ j = 6 ∨ j = 11 ∨ j = 19
  · rw [if_pos e, if_pos e, p.2 _ (by omega)]
  · rw [if_neg e, if_neg e, p.1 _ (by omega) (by omega)]
set_option maxHeartbeats 2000000 in
theorem m_21p (hp : PL X 200) (z : NZ X h) {a b : Nat} (ha : a < 20) (hb : b < 20) (hq : ∀ h2, NZ X h2 → P17 h h2 → cv h2 200 = exV (cv h 200) a b → Q none h2) : Cl X 21 [vr (200 + 11), vi a, vi b] h Q := by
  rw [c_21]
  simp (disch := first | assumption | omega) only [e_21_0, e_21_1, e_21_2, e_21_3, e_21_4, e_21_5, e_21_6, e_21_7, e_21_8, e_21_9, e_21_10, e_21_11, e_21_12, e_21_13, e_21_14, e_21_15, e_21_16, e_21_17, e_21_18, e_21_19, e_21_20, e_21_21, e_21_22, e_21_23, e_21_24, e_21_25, e_21_26, onI_s, onR_s, onL_s, gl_0, gl_n, gl_1, gl_2, gl_3, gl_4, gl_5, gl_6, gl_7, gl_8, gl_9, gl_10, gl_11, gl_12, gl_13, gl_14, gl_15, gl_16, gl_17, sk0i, sk0r, sk0n, sk1i, sk1r, sk1n, sk_2, sk_3, sk_4, sk_5, sk_6, sk_7, sk_8, sk_9, sk_10, sk_11, sk_12, sk_13, sk_14, sk_15, sk_16, sk_17, ls_0, ls_1, ls_2, ls_3, ls_4, ls_5, ls_6, ls_7, ls_8, ls_9, ls_10, ls_11, ls_12, ls_13, ls_14, ls_15, ls_16, ls_17, ct1_i, ct1_r, wd8_0, wd8_i1, wd8_r1, wd8_i2, wd8_r2, wd8_i3, wd8_r3, wd8_i4, wd8_r4, wd8_i5, wd8_r5, wd8_i6, wd8_r6, wd8_i7, wd8_r7, wd8_i8, wd8_r8, wd8_l2, wd8_l3, wd8_l4, wd8_l5, wd8_l6, wd8_l7, wd8_l8, tl_s, tl_n, inR_t, bd_t, true_and, and_true, true_or, or_true, if_true_x, if_false_x, if_pos, if_neg, Int.toNat_natCast, natL, bI_0, bI_1, bI_ft, eq_self, b_tf, b_ft, not_true_eq_false, not_false_eq_true, m_20 hp, hp.t0, hp.t1, hp.t2, hp.t3, hp.t4, hp.t5, hp.t6, hp.t7, hp.t8, hp.t9, hp.t10, hp.t11, hp.t12, hp.t13, hp.t14, hp.t15, hp.t16, hp.t17, hp.t18, hp.t19, hp.t20, hp.t21, hp.t22, hp.t23, hp.z2, hp.z3, hp.z4, hp.z5, hp.z7, hp.z8, hp.z9, hp.z10, hp.z12, hp.z13, hp.z14, hp.z15, hp.z16, hp.z17, hp.z18, hp.z20, hp.z21, hp.z22, hp.z23, hp.r0_2, hp.r0_3, hp.r0_4, hp.r0_5, hp.r1_1, hp.r1_2, hp.r1_3, hp.r1_4, hp.r6_1, hp.r6_2, hp.r6_3, hp.r6_4, hp.r11_1, hp.r11_2, hp.r11_3, hp.r11_4, hp.r11_5, hp.r11_6, hp.r11_7, hp.r19_1, hp.r19_2, hp.r19_3, hp.r19_4]
  have f1 := NZ.up (I := h.1) (F := h.2) (F2 := h.2) (v := h.1 (200 + 17) b) (a := 200 + 17) (j := a) z (by rw [hp.z17]; omega)
  have f2 := NZ.up (F2 := h.2) (v := h.1 (200 + 18) b) (a := 200 + 18) (j := a) f1 (by rw [hp.z18]; omega)
  have f3 := NZ.up (F2 := h.2) (v := h.1 (200 + 17) a) (a := 200 + 17) (j := b) f2 (by rw [hp.z17]; omega)
  have f4 := NZ.up (F2 := h.2) (v := h.1 (200 + 18) a) (a := 200 + 18) (j := b) f3 (by rw [hp.z18]; omega)
  refine hq _ f4 ((((P17.refl (h := h)).u (I := h.1) (F := h.2) (by omega)).u (by omega)).u (by omega) |>.u (by omega)) ?_
  rw [cv_u (by omega) (by omega), cv_u (by omega) (by omega), cv_u (by omega) (by omega), cv_u (by omega) (by omega)]
  rfl
set_option maxHeartbeats 2000000 in
theorem m_63p (hp : PL X 200) (hc : CT X ns nb ln) (z : NZ X h) (g : WG (cv h 200)) (tm : TMb (h.1 1)) {a b : Nat} {now most : Int} (ha : a < 20) (hb : b < 20) (hq : ∀ h2, NZ X h2 → P17 h h2 → cv h2 200 = exW (cv h 200) (h.1 1 4) a b most → Q (some (vi (if wir (exV (cv h 200) a b) (h.1 1 4) ≤ most then wir (exV (cv h 200) a b) (h.1 1 4) else now))) h2) : Cl X 63 [vr 57, vr 200, vi a, vi b, vi now, vi most] h Q := by
  unfold exW at hq
  rw [c_63]
  simp (disch := first | assumption | omega) only [e_63_0, e_63_1, e_63_2, e_63_3, onI_s, onR_s, onL_s, gl_0, gl_n, gl_1, gl_2, gl_3, gl_4, gl_5, gl_6, gl_7, gl_8, gl_9, gl_10, gl_11, gl_12, gl_13, gl_14, gl_15, gl_16, gl_17, sk0i, sk0r, sk0n, sk1i, sk1r, sk1n, sk_2, sk_3, sk_4, sk_5, sk_6, sk_7, sk_8, sk_9, sk_10, sk_11, sk_12, sk_13, sk_14, sk_15, sk_16, sk_17, ls_0, ls_1, ls_2, ls_3, ls_4, ls_5, ls_6, ls_7, ls_8, ls_9, ls_10, ls_11, ls_12, ls_13, ls_14, ls_15, ls_16, ls_17, ct1_i, ct1_r, wd8_0, wd8_i1, wd8_r1, wd8_i2, wd8_r2, wd8_i3, wd8_r3, wd8_i4, wd8_r4, wd8_i5, wd8_r5, wd8_i6, wd8_r6, wd8_i7, wd8_r7, wd8_i8, wd8_r8, wd8_l2, wd8_l3, wd8_l4, wd8_l5, wd8_l6, wd8_l7, wd8_l8, tl_s, tl_n, inR_t, bd_t, true_and, and_true, true_or, or_true, if_true_x, if_false_x, if_pos, if_neg, Int.toNat_natCast, natL, bI_0, bI_1, bI_ft, eq_self, b_tf, b_ft, not_true_eq_false, not_false_eq_true, hc.t57, hc.r57_0, hc.r57_1, hc.r57_2, hc.r57_3, hc.r57_4, hc.r57_5, hc.r57_6, hc.r57_7, hc.r57_8, hc.r57_9, hc.r57_10, hp.t0, hp.t1, hp.t2, hp.t3, hp.t4, hp.t5, hp.t6, hp.t7, hp.t8, hp.t9, hp.t10, hp.t11, hp.t12, hp.t13, hp.t14, hp.t15, hp.t16, hp.t17, hp.t18, hp.t19, hp.t20, hp.t21, hp.t22, hp.t23, hp.z2, hp.z3, hp.z4, hp.z5, hp.z7, hp.z8, hp.z9, hp.z10, hp.z12, hp.z13, hp.z14, hp.z15, hp.z16, hp.z17, hp.z18, hp.z20, hp.z21, hp.z22, hp.z23, hp.r0_2, hp.r0_3, hp.r0_4, hp.r0_5, hp.r1_1, hp.r1_2, hp.r1_3, hp.r1_4, hp.r6_1, hp.r6_2, hp.r6_3, hp.r6_4, hp.r11_1, hp.r11_2, hp.r11_3, hp.r11_4, hp.r11_5, hp.r11_6, hp.r11_7, hp.r19_1, hp.r19_2, hp.r19_3, hp.r19_4]
  (rw [e_63_4]; refine ⟨⟨hp.t11, by decide⟩, ?_⟩)
  refine m_21p hp z ha hb (fun h2 z2 f2 e2 => ?_)
  simp (disch := first | assumption | omega) only [e_63_5, e_63_6, e_63_7, onI_s, onR_s, onL_s, gl_0, gl_n, gl_1, gl_2, gl_3, gl_4, gl_5, gl_6, gl_7, gl_8, gl_9, gl_10, gl_11, gl_12, gl_13, gl_14, gl_15, gl_16, gl_17, sk0i, sk0r, sk0n, sk1i, sk1r, sk1n, sk_2, sk_3, sk_4, sk_5, sk_6, sk_7, sk_8, sk_9, sk_10, sk_11, sk_12, sk_13, sk_14, sk_15, sk_16, sk_17, ls_0, ls_1, ls_2, ls_3, ls_4, ls_5, ls_6, ls_7, ls_8, ls_9, ls_10, ls_11, ls_12, ls_13, ls_14, ls_15, ls_16, ls_17, ct1_i, ct1_r, wd8_0, wd8_i1, wd8_r1, wd8_i2, wd8_r2, wd8_i3, wd8_r3, wd8_i4, wd8_r4, wd8_i5, wd8_r5, wd8_i6, wd8_r6, wd8_i7, wd8_r7, wd8_i8, wd8_r8, wd8_l2, wd8_l3, wd8_l4, wd8_l5, wd8_l6, wd8_l7, wd8_l8, tl_s, tl_n, inR_t, bd_t, true_and, and_true, true_or, or_true, if_true_x, if_false_x, if_pos, if_neg, Int.toNat_natCast, natL, bI_0, bI_1, bI_ft, eq_self, b_tf, b_ft, not_true_eq_false, not_false_eq_true, hc.t57, hc.r57_0, hc.r57_1, hc.r57_2, hc.r57_3, hc.r57_4, hc.r57_5, hc.r57_6, hc.r57_7, hc.r57_8, hc.r57_9, hc.r57_10]
  (rw [e_63_8]; refine ⟨⟨hc.t14, by decide⟩, ?_⟩)
  have t2 := f2.1 1 (by omega) (by omega)
  refine wirC hp hc (by rw [e2]; exact exV_wg g) (by rw [t2]; exact tm) (fun h3 q3 => ?_)
  rw [e2, t2]
  have f3 := f2.tr (P17.w q3)
  have e3 := (q3.cv (b := 200) (by omega)).trans e2
  by_cases e : wir (exV (cv h 200) a b) (h.1 1 4) ≤ most
  · rw [if_pos e, if_pos e] at hq
    simp (disch := first | assumption | omega) only [e_63_9, e_63_10, e_63_11, e_63_12, e_63_13, e_63_14, onI_s, onR_s, onL_s, gl_0, gl_n, gl_1, gl_2, gl_3, gl_4, gl_5, gl_6, gl_7, gl_8, gl_9, gl_10, gl_11, gl_12, gl_13, gl_14, gl_15, gl_16, gl_17, sk0i, sk0r, sk0n, sk1i, sk1r, sk1n, sk_2, sk_3, sk_4, sk_5, sk_6, sk_7, sk_8, sk_9, sk_10, sk_11, sk_12, sk_13, sk_14, sk_15, sk_16, sk_17, ls_0, ls_1, ls_2, ls_3, ls_4, ls_5, ls_6, ls_7, ls_8, ls_9, ls_10, ls_11, ls_12, ls_13, ls_14, ls_15, ls_16, ls_17, ct1_i, ct1_r, wd8_0, wd8_i1, wd8_r1, wd8_i2, wd8_r2, wd8_i3, wd8_r3, wd8_i4, wd8_r4, wd8_i5, wd8_r5, wd8_i6, wd8_r6, wd8_i7, wd8_r7, wd8_i8, wd8_r8, wd8_l2, wd8_l3, wd8_l4, wd8_l5, wd8_l6, wd8_l7, wd8_l8, tl_s, tl_n, inR_t, bd_t, true_and, and_true, true_or, or_true, if_true_x, if_false_x, if_pos, if_neg, Int.toNat_natCast, natL, bI_0, bI_1, bI_ft, eq_self, b_tf, b_ft, not_true_eq_false, not_false_eq_true]
    exact hq h3 (q3.nz z2) f3 e3
  · rw [if_neg e, if_neg e] at hq
    simp (disch := first | assumption | omega) only [e_63_9, e_63_10, e_63_11, e_63_12, e_63_15, e_63_16, e_63_17, e_63_18, onI_s, onR_s, onL_s, gl_0, gl_n, gl_1, gl_2, gl_3, gl_4, gl_5, gl_6, gl_7, gl_8, gl_9, gl_10, gl_11, gl_12, gl_13, gl_14, gl_15, gl_16, gl_17, sk0i, sk0r, sk0n, sk1i, sk1r, sk1n, sk_2, sk_3, sk_4, sk_5, sk_6, sk_7, sk_8, sk_9, sk_10, sk_11, sk_12, sk_13, sk_14, sk_15, sk_16, sk_17, ls_0, ls_1, ls_2, ls_3, ls_4, ls_5, ls_6, ls_7, ls_8, ls_9, ls_10, ls_11, ls_12, ls_13, ls_14, ls_15, ls_16, ls_17, ct1_i, ct1_r, wd8_0, wd8_i1, wd8_r1, wd8_i2, wd8_r2, wd8_i3, wd8_r3, wd8_i4, wd8_r4, wd8_i5, wd8_r5, wd8_i6, wd8_r6, wd8_i7, wd8_r7, wd8_i8, wd8_r8, wd8_l2, wd8_l3, wd8_l4, wd8_l5, wd8_l6, wd8_l7, wd8_l8, tl_s, tl_n, inR_t, bd_t, true_and, and_true, true_or, or_true, if_true_x, if_false_x, if_pos, if_neg, Int.toNat_natCast, natL, bI_0, bI_1, bI_ft, eq_self, b_tf, b_ft, not_true_eq_false, not_false_eq_true, hp.t0, hp.t1, hp.t2, hp.t3, hp.t4, hp.t5, hp.t6, hp.t7, hp.t8, hp.t9, hp.t10, hp.t11, hp.t12, hp.t13, hp.t14, hp.t15, hp.t16, hp.t17, hp.t18, hp.t19, hp.t20, hp.t21, hp.t22, hp.t23, hp.z2, hp.z3, hp.z4, hp.z5, hp.z7, hp.z8, hp.z9, hp.z10, hp.z12, hp.z13, hp.z14, hp.z15, hp.z16, hp.z17, hp.z18, hp.z20, hp.z21, hp.z22, hp.z23, hp.r0_2, hp.r0_3, hp.r0_4, hp.r0_5, hp.r1_1, hp.r1_2, hp.r1_3, hp.r1_4, hp.r6_1, hp.r6_2, hp.r6_3, hp.r6_4, hp.r11_1, hp.r11_2, hp.r11_3, hp.r11_4, hp.r11_5, hp.r11_6, hp.r11_7, hp.r19_1, hp.r19_2, hp.r19_3, hp.r19_4]
    (rw [e_63_19]; refine ⟨⟨hp.t11, by decide⟩, ?_⟩)
    refine m_21p hp (q3.nz z2) ha hb (fun h4 z4 f4 e4 => ?_)
    simp (disch := first | assumption | omega) only [e_63_20, e_63_21, onI_s, onR_s, onL_s, gl_0, gl_n, gl_1, gl_2, gl_3, gl_4, gl_5, gl_6, gl_7, gl_8, gl_9, gl_10, gl_11, gl_12, gl_13, gl_14, gl_15, gl_16, gl_17, sk0i, sk0r, sk0n, sk1i, sk1r, sk1n, sk_2, sk_3, sk_4, sk_5, sk_6, sk_7, sk_8, sk_9, sk_10, sk_11, sk_12, sk_13, sk_14, sk_15, sk_16, sk_17, ls_0, ls_1, ls_2, ls_3, ls_4, ls_5, ls_6, ls_7, ls_8, ls_9, ls_10, ls_11, ls_12, ls_13, ls_14, ls_15, ls_16, ls_17, ct1_i, ct1_r, wd8_0, wd8_i1, wd8_r1, wd8_i2, wd8_r2, wd8_i3, wd8_r3, wd8_i4, wd8_r4, wd8_i5, wd8_r5, wd8_i6, wd8_r6, wd8_i7, wd8_r7, wd8_i8, wd8_r8, wd8_l2, wd8_l3, wd8_l4, wd8_l5, wd8_l6, wd8_l7, wd8_l8, tl_s, tl_n, inR_t, bd_t, true_and, and_true, true_or, or_true, if_true_x, if_false_x, if_pos, if_neg, Int.toNat_natCast, natL, bI_0, bI_1, bI_ft, eq_self, b_tf, b_ft, not_true_eq_false, not_false_eq_true]
    rw [e3, exV_2] at e4
    exact hq h4 z4 (f3.tr f4) e4
set_option maxHeartbeats 2000000 in
theorem m_73 (hc : CT X ns nb ln) {n : Int} (hn : 0 < n) (s0 : 0 ≤ h.2 57 11) (s1 : h.2 57 11 ≤ 1000002) : Cl X 73 [vr 57, vi n] h Q ↔ Q (some (vi (drw (h.2 57 11) % n))) (h.1, up2 h.2 57 11 (drw (h.2 57 11))) := by
  have b := drw_bd (h.2 57 11)
  have t1 : (h.2 57 11 * 1103 + 12345).tmod 1000003 = drw (h.2 57 11) := by rw [tm_n (by omega)]; rfl
  have t2 : (drw (h.2 57 11)).tmod n = drw (h.2 57 11) % n := tm_n b.1
  rw [c_73]
  simp (disch := first | assumption | omega) only [e_73_0, e_73_1, e_73_2, e_73_3, e_73_4, e_73_5, e_73_6, e_73_7, e_73_8, e_73_9, e_73_10, e_73_11, e_73_14, e_73_15, e_73_16, e_73_17, e_73_18, onI_s, onR_s, onL_s, gl_0, gl_n, gl_1, gl_2, gl_3, gl_4, gl_5, gl_6, gl_7, gl_8, gl_9, gl_10, gl_11, gl_12, gl_13, gl_14, gl_15, gl_16, gl_17, sk0i, sk0r, sk0n, sk1i, sk1r, sk1n, sk_2, sk_3, sk_4, sk_5, sk_6, sk_7, sk_8, sk_9, sk_10, sk_11, sk_12, sk_13, sk_14, sk_15, sk_16, sk_17, ls_0, ls_1, ls_2, ls_3, ls_4, ls_5, ls_6, ls_7, ls_8, ls_9, ls_10, ls_11, ls_12, ls_13, ls_14, ls_15, ls_16, ls_17, ct1_i, ct1_r, wd8_0, wd8_i1, wd8_r1, wd8_i2, wd8_r2, wd8_i3, wd8_r3, wd8_i4, wd8_r4, wd8_i5, wd8_r5, wd8_i6, wd8_r6, wd8_i7, wd8_r7, wd8_i8, wd8_r8, wd8_l2, wd8_l3, wd8_l4, wd8_l5, wd8_l6, wd8_l7, wd8_l8, tl_s, tl_n, inR_t, bd_t, true_and, and_true, true_or, or_true, if_true_x, if_false_x, if_pos, if_neg, Int.toNat_natCast, natL, bI_0, bI_1, bI_ft, eq_self, b_tf, b_ft, not_true_eq_false, not_false_eq_true, dv_t, t1, t2, up2_self, hc.t57, hc.r57_0, hc.r57_1, hc.r57_2, hc.r57_3, hc.r57_4, hc.r57_5, hc.r57_6, hc.r57_7, hc.r57_8, hc.r57_9, hc.r57_10]
set_option maxHeartbeats 2000000 in
theorem m_72 (hc : CT X ns nb ln) (hp : PL X 200) (z : NZ X h) : Cl X 72 [vr 57, vr (200 + 11)] h Q ↔ Q none (up1 (up1 h.1 65 (h.1 (200 + 17))) 66 (h.1 (200 + 18)), h.2) := by
  have c1 : va_cpy (h.1 (200 + 17)) (h.1 65) 0 0 20 = h.1 (200 + 17) := cpy_full (fun j hj => z _ j (Or.inl hp.t17) (by rw [hp.z17]; exact hj)) (fun j hj => z _ j (Or.inl hc.t65) (by rw [hc.z65]; exact hj))
  have c2 : va_cpy (h.1 (200 + 18)) (h.1 66) 0 0 20 = h.1 (200 + 18) := cpy_full (fun j hj => z _ j (Or.inl hp.t18) (by rw [hp.z18]; exact hj)) (fun j hj => z _ j (Or.inl hc.t66) (by rw [hc.z66]; exact hj))
  rw [c_72]
  simp (disch := first | assumption | omega) only [e_72_0, e_72_1, e_72_2, e_72_3, e_72_4, e_72_5, e_72_6, e_72_7, e_72_8, e_72_9, e_72_10, e_72_11, e_72_12, e_72_13, e_72_14, e_72_15, e_72_16, onI_s, onR_s, onL_s, gl_0, gl_n, gl_1, gl_2, gl_3, gl_4, gl_5, gl_6, gl_7, gl_8, gl_9, gl_10, gl_11, gl_12, gl_13, gl_14, gl_15, gl_16, gl_17, sk0i, sk0r, sk0n, sk1i, sk1r, sk1n, sk_2, sk_3, sk_4, sk_5, sk_6, sk_7, sk_8, sk_9, sk_10, sk_11, sk_12, sk_13, sk_14, sk_15, sk_16, sk_17, ls_0, ls_1, ls_2, ls_3, ls_4, ls_5, ls_6, ls_7, ls_8, ls_9, ls_10, ls_11, ls_12, ls_13, ls_14, ls_15, ls_16, ls_17, ct1_i, ct1_r, wd8_0, wd8_i1, wd8_r1, wd8_i2, wd8_r2, wd8_i3, wd8_r3, wd8_i4, wd8_r4, wd8_i5, wd8_r5, wd8_i6, wd8_r6, wd8_i7, wd8_r7, wd8_i8, wd8_r8, wd8_l2, wd8_l3, wd8_l4, wd8_l5, wd8_l6, wd8_l7, wd8_l8, tl_s, tl_n, inR_t, bd_t, true_and, and_true, true_or, or_true, if_true_x, if_false_x, if_pos, if_neg, Int.toNat_natCast, natL, bI_0, bI_1, bI_ft, eq_self, b_tf, b_ft, not_true_eq_false, not_false_eq_true, cp_t, tn_0, tn_20, up1_ne, c1, c2, hc.t57, hc.r57_0, hc.r57_1, hc.r57_2, hc.r57_3, hc.r57_4, hc.r57_5, hc.r57_6, hc.r57_7, hc.r57_8, hc.r57_9, hc.r57_10, hc.t65, hc.z65, hc.t66, hc.z66, hp.t0, hp.t1, hp.t2, hp.t3, hp.t4, hp.t5, hp.t6, hp.t7, hp.t8, hp.t9, hp.t10, hp.t11, hp.t12, hp.t13, hp.t14, hp.t15, hp.t16, hp.t17, hp.t18, hp.t19, hp.t20, hp.t21, hp.t22, hp.t23, hp.z2, hp.z3, hp.z4, hp.z5, hp.z7, hp.z8, hp.z9, hp.z10, hp.z12, hp.z13, hp.z14, hp.z15, hp.z16, hp.z17, hp.z18, hp.z20, hp.z21, hp.z22, hp.z23, hp.r0_2, hp.r0_3, hp.r0_4, hp.r0_5, hp.r1_1, hp.r1_2, hp.r1_3, hp.r1_4, hp.r6_1, hp.r6_2, hp.r6_3, hp.r6_4, hp.r11_1, hp.r11_2, hp.r11_3, hp.r11_4, hp.r11_5, hp.r11_6, hp.r11_7, hp.r19_1, hp.r19_2, hp.r19_3, hp.r19_4]
end SHC
