theorem cp_t {sp dp n A B : Int} (h : 0 ≤ sp ∧ 0 ≤ dp ∧ 0 ≤ n ∧ sp + n ≤ A ∧ dp + n ≤ B) : (0 ≤ sp ∧ 0 ≤ dp ∧ 0 ≤ n ∧ sp + n ≤ A ∧ dp + n ≤ B) ↔ True := ⟨fun _ => trivial, fun _ => h⟩
theorem cpy_full {f g : Nat → Int} {n : Nat} (hf : ∀ j, n ≤ j → f j = 0) (hg : ∀ j, n ≤ j → g j = 0) : va_cpy f g 0 0 n = f := by
  funext j
  unfold va_cpy
  by_cases e : 0 ≤ j ∧ j < 0 + n
  · rw [if_pos e]; congr 1; omega
  · rw [if_neg e, hf j (by omega), hg j (by omega)]
/-- beyond a row's end there is nothing -/
def NZ (X : xL) (h : xH) : Prop := ∀ a j, X.1 a = 13 ∨ X.1 a = 14 → X.2.1 a ≤ j → h.1 a j = 0
theorem NZ.up {X : xL} {I F F2 : Nat → Nat → Int} {a j : Nat} {v : Int} (hz : NZ X (I, F)) (hj : j < X.2.1 a) : NZ X (up2 I a j v, F2) := by
  intro a2 j2 ht hl
  show up2 I a j v a2 j2 = 0
  rw [up2_eq]
  by_cases e : a2 = a ∧ j2 = j
  · obtain ⟨rfl, rfl⟩ := e
    omega
  · rw [if_neg e]
    exact hz a2 j2 ht hl
theorem NZ.cp {X : xL} {I F F2 : Nat → Nat → Int} {a s : Nat} (hz : NZ X (I, F)) (ha : X.1 s = 13 ∨ X.1 s = 14) (hl : X.2.1 s = X.2.1 a) : NZ X (up1 I a (I s), F2) := by
  intro a2 j2 ht hl2
  show up1 I a (I s) a2 j2 = 0
  by_cases e : a2 = a
  · subst e
    rw [up1_self]
    exact hz s j2 ha (by omega)
  · rw [up1_ne e]
    exact hz a2 j2 ht hl2
theorem NZ.F {X : xL} {I F F2 : Nat → Nat → Int} (hz : NZ X (I, F)) : NZ X (I, F2) := hz
section CPY
variable {X : xL} {o o2 cap b s : Nat} {h : xH} {Q : Option xV → xH → Prop}
set_option maxHeartbeats 2000000 in
theorem m_14 (hb : BX X o cap) (hb2 : BX X o2 cap) (hc : cap ≤ 4) (hz : NZ X h) (hd : o + 5 ≤ o2 ∨ o2 + 5 ≤ o) : Cl X 14 [vr o, vr o2] h Q ↔ Q none (up1 (up1 (up1 (up1 h.1 (o + 1) (h.1 (o2 + 1))) (o + 2) (h.1 (o2 + 2))) (o + 3) (h.1 (o2 + 3))) (o + 4) (h.1 (o2 + 4)), up2 h.2 o 0 (h.2 o2 0)) := by
  have c1 : va_cpy (h.1 (o2 + 1)) (h.1 (o + 1)) 0 0 cap = h.1 (o2 + 1) := cpy_full (fun j hj => hz _ j (Or.inl hb2.t1) (by rw [hb2.z1]; exact hj)) (fun j hj => hz _ j (Or.inl hb.t1) (by rw [hb.z1]; exact hj))
  have c2 : va_cpy (h.1 (o2 + 2)) (h.1 (o + 2)) 0 0 cap = h.1 (o2 + 2) := cpy_full (fun j hj => hz _ j (Or.inl hb2.t2) (by rw [hb2.z2]; exact hj)) (fun j hj => hz _ j (Or.inl hb.t2) (by rw [hb.z2]; exact hj))
  have c3 : va_cpy (h.1 (o2 + 3)) (h.1 (o + 3)) 0 0 cap = h.1 (o2 + 3) := cpy_full (fun j hj => hz _ j (Or.inl hb2.t3) (by rw [hb2.z3]; exact hj)) (fun j hj => hz _ j (Or.inl hb.t3) (by rw [hb.z3]; exact hj))
  have c4 : va_cpy (h.1 (o2 + 4)) (h.1 (o + 4)) 0 0 cap = h.1 (o2 + 4) := cpy_full (fun j hj => hz _ j (Or.inl hb2.t4) (by rw [hb2.z4]; exact hj)) (fun j hj => hz _ j (Or.inl hb.t4) (by rw [hb.z4]; exact hj))
  rw [c_14]
  simp (disch := first | assumption | omega) only [e_14_0, e_14_1, e_14_2, e_14_3, e_14_4, e_14_5, e_14_6, e_14_7, e_14_8, e_14_9, e_14_10, e_14_11, e_14_12, e_14_13, e_14_14, e_14_15, e_14_16, e_14_17, e_14_18, e_14_19, e_14_20, e_14_21, e_14_22, e_14_23, e_14_24, e_14_25, e_14_26, e_14_27, e_14_28, e_14_29, e_14_30, e_14_31, e_14_32, e_14_33, e_14_34, e_14_35, e_14_36, e_14_37, e_14_38, e_14_39, e_14_40, e_14_41, e_14_42, e_14_43, e_14_44, onI_s, onR_s, onL_s, gl_0, gl_n, gl_1, gl_2, gl_3, gl_4, gl_5, gl_6, gl_7, gl_8, gl_9, gl_10, gl_11, gl_12, gl_13, gl_14, gl_15, gl_16, gl_17, sk0i, sk0r, sk0n, sk1i, sk1r, sk1n, sk_2, sk_3, sk_4, sk_5, sk_6, sk_7, sk_8, sk_9, sk_10, sk_11, sk_12, sk_13, sk_14, sk_15, sk_16, sk_17, ls_0, ls_1, ls_2, ls_3, ls_4, ls_5, ls_6, ls_7, ls_8, ls_9, ls_10, ls_11, ls_12, ls_13, ls_14, ls_15, ls_16, ls_17, ct1_i, ct1_r, wd8_0, wd8_i1, wd8_r1, wd8_i2, wd8_r2, wd8_i3, wd8_r3, wd8_i4, wd8_r4, wd8_i5, wd8_r5, wd8_i6, wd8_r6, wd8_i7, wd8_r7, wd8_i8, wd8_r8, wd8_l2, wd8_l3, wd8_l4, wd8_l5, wd8_l6, wd8_l7, wd8_l8, tl_s, tl_n, inR_t, bd_t, true_and, and_true, true_or, or_true, if_true_x, if_false_x, if_pos, if_neg, Int.toNat_natCast, natL, bI_0, bI_1, bI_ft, eq_self, b_tf, b_ft, not_true_eq_false, not_false_eq_true, hb.1, hb2.1, hb.r1, hb2.r1, hb.r2, hb2.r2, hb.r3, hb2.r3, hb.r4, hb2.r4, hb.t1, hb2.t1, hb.t2, hb2.t2, hb.t3, hb2.t3, hb.t4, hb2.t4, hb.z1, hb2.z1, hb.z2, hb2.z2, hb.z3, hb2.z3, hb.z4, hb2.z4, cp_t, tn_0, up1_ne, c1, c2, c3, c4]
theorem tn_96 : Int.toNat 96 = 96 := rfl
/-- a row copied up to i -/
def cpk (f g : Nat → Int) (i : Nat) : Nat → Int := fun k => if k < i then f k else g k
theorem cpk_u {I : Nat → Nat → Int} {a i : Nat} {f g : Nat → Int} : up2 (up1 I a (cpk f g i)) a i (f i) = up1 I a (cpk f g (i + 1)) := by
  funext c k
  rw [up2_eq]
  unfold up1 cpk
  by_cases e : c = a
  · rw [if_pos e, if_pos e]
    by_cases e2 : k = i
    · rw [if_pos ⟨e, e2⟩, if_pos (by omega), e2]
    · rw [if_neg (fun z => e2 z.2)]
      by_cases e3 : k < i
      · rw [if_pos e3, if_pos (by omega)]
      · rw [if_neg e3, if_neg (by omega)]
  · rw [if_neg (fun z => e z.1), if_neg e, if_neg e]
theorem up1_c18 {I : Nat → Nat → Int} {a c : Nat} {f g : Nat → Int} (h : a ≠ c) : up1 (up1 I a f) c g = up1 (up1 I c g) a f := by
  funext d
  unfold up1
  by_cases e : d = c
  · rw [if_pos e, if_pos e, if_neg (by omega)]
  · rw [if_neg e, if_neg e]
theorem or_t18 {p : Prop} (h : p) : p ↔ True := ⟨fun _ => trivial, fun _ => h⟩
set_option maxHeartbeats 4000000 in
theorem l_18 {I F : Nat → Nat → Int} (hp : PL X b) (hs : PL X s) (hd : b + 24 ≤ s ∨ s + 24 ≤ b) (hv : ∀ k, I (s + 14) k = 0 ∨ I (s + 14) k = 1) : ∀ (m i : Nat), i + m = 20 → (Ev X 18 54 [some (vr (b + 11)), some (vr (s + 11)), some (vi i)] [] (up1 I (b + 14) (cpk (I (s + 14)) (I (b + 14)) i), F) Q ↔ Q none (up1 I (b + 14) (cpk (I (s + 14)) (I (b + 14)) 20), F)) := by
  intro m
  induction m with
  | zero =>
    intro i hm
    rw [e_18_54]
    simp (disch := first | assumption | omega) only [e_18_55, e_18_56, e_18_67, onI_s, onR_s, onL_s, gl_0, gl_n, gl_1, gl_2, gl_3, gl_4, gl_5, gl_6, gl_7, gl_8, gl_9, gl_10, gl_11, gl_12, gl_13, gl_14, gl_15, gl_16, gl_17, sk0i, sk0r, sk0n, sk1i, sk1r, sk1n, sk_2, sk_3, sk_4, sk_5, sk_6, sk_7, sk_8, sk_9, sk_10, sk_11, sk_12, sk_13, sk_14, sk_15, sk_16, sk_17, ls_0, ls_1, ls_2, ls_3, ls_4, ls_5, ls_6, ls_7, ls_8, ls_9, ls_10, ls_11, ls_12, ls_13, ls_14, ls_15, ls_16, ls_17, ct1_i, ct1_r, wd8_0, wd8_i1, wd8_r1, wd8_i2, wd8_r2, wd8_i3, wd8_r3, wd8_i4, wd8_r4, wd8_i5, wd8_r5, wd8_i6, wd8_r6, wd8_i7, wd8_r7, wd8_i8, wd8_r8, wd8_l2, wd8_l3, wd8_l4, wd8_l5, wd8_l6, wd8_l7, wd8_l8, tl_s, tl_n, inR_t, bd_t, true_and, and_true, true_or, or_true, if_true_x, if_false_x, if_pos, if_neg, Int.toNat_natCast, natL, bI_0, bI_1, bI_ft, eq_self, b_tf, b_ft, not_true_eq_false, not_false_eq_true]
    rw [show i = 20 by omega]
  | succ m ih =>
    intro i hm
    rw [e_18_54]
    have v1 := or_t18 (hv i)
    simp (disch := first | assumption | omega) only [e_18_55, e_18_56, e_18_57, e_18_58, e_18_59, e_18_60, e_18_61, e_18_62, e_18_63, e_18_64, e_18_65, e_18_66, onI_s, onR_s, onL_s, gl_0, gl_n, gl_1, gl_2, gl_3, gl_4, gl_5, gl_6, gl_7, gl_8, gl_9, gl_10, gl_11, gl_12, gl_13, gl_14, gl_15, gl_16, gl_17, sk0i, sk0r, sk0n, sk1i, sk1r, sk1n, sk_2, sk_3, sk_4, sk_5, sk_6, sk_7, sk_8, sk_9, sk_10, sk_11, sk_12, sk_13, sk_14, sk_15, sk_16, sk_17, ls_0, ls_1, ls_2, ls_3, ls_4, ls_5, ls_6, ls_7, ls_8, ls_9, ls_10, ls_11, ls_12, ls_13, ls_14, ls_15, ls_16, ls_17, ct1_i, ct1_r, wd8_0, wd8_i1, wd8_r1, wd8_i2, wd8_r2, wd8_i3, wd8_r3, wd8_i4, wd8_r4, wd8_i5, wd8_r5, wd8_i6, wd8_r6, wd8_i7, wd8_r7, wd8_i8, wd8_r8, wd8_l2, wd8_l3, wd8_l4, wd8_l5, wd8_l6, wd8_l7, wd8_l8, tl_s, tl_n, inR_t, bd_t, true_and, and_true, true_or, or_true, if_true_x, if_false_x, if_pos, if_neg, Int.toNat_natCast, natL, bI_0, bI_1, bI_ft, eq_self, b_tf, b_ft, not_true_eq_false, not_false_eq_true, up1_ne, v1, cast_s, hp.t0, hp.t1, hp.t2, hp.t3, hp.t4, hp.t5, hp.t6, hp.t7, hp.t8, hp.t9, hp.t10, hp.t11, hp.t12, hp.t13, hp.t14, hp.t15, hp.t16, hp.t17, hp.t18, hp.t19, hp.t20, hp.t21, hp.t22, hp.t23, hp.z2, hp.z3, hp.z4, hp.z5, hp.z7, hp.z8, hp.z9, hp.z10, hp.z12, hp.z13, hp.z14, hp.z15, hp.z16, hp.z17, hp.z18, hp.z20, hp.z21, hp.z22, hp.z23, hp.r0_2, hp.r0_3, hp.r0_4, hp.r0_5, hp.r1_1, hp.r1_2, hp.r1_3, hp.r1_4, hp.r6_1, hp.r6_2, hp.r6_3, hp.r6_4, hp.r11_1, hp.r11_2, hp.r11_3, hp.r11_4, hp.r11_5, hp.r11_6, hp.r11_7, hp.r19_1, hp.r19_2, hp.r19_3, hp.r19_4, hs.t0, hs.t1, hs.t2, hs.t3, hs.t4, hs.t5, hs.t6, hs.t7, hs.t8, hs.t9, hs.t10, hs.t11, hs.t12, hs.t13, hs.t14, hs.t15, hs.t16, hs.t17, hs.t18, hs.t19, hs.t20, hs.t21, hs.t22, hs.t23, hs.z2, hs.z3, hs.z4, hs.z5, hs.z7, hs.z8, hs.z9, hs.z10, hs.z12, hs.z13, hs.z14, hs.z15, hs.z16, hs.z17, hs.z18, hs.z20, hs.z21, hs.z22, hs.z23, hs.r0_2, hs.r0_3, hs.r0_4, hs.r0_5, hs.r1_1, hs.r1_2, hs.r1_3, hs.r1_4, hs.r6_1, hs.r6_2, hs.r6_3, hs.r6_4, hs.r11_1, hs.r11_2, hs.r11_3, hs.r11_4, hs.r11_5, hs.r11_6, hs.r11_7, hs.r19_1, hs.r19_2, hs.r19_3, hs.r19_4]
    rw [cpk_u, ih (i + 1) (by omega)]
theorem l_18z {I F : Nat → Nat → Int} (hp : PL X b) (hs : PL X s) (hd : b + 24 ≤ s ∨ s + 24 ≤ b) (hv : ∀ k, I (s + 14) k = 0 ∨ I (s + 14) k = 1) (hz : ∀ k, 20 ≤ k → I (s + 14) k = I (b + 14) k) : Ev X 18 54 [some (vr (b + 11)), some (vr (s + 11)), some (vi 0)] [] (I, F) Q ↔ Q none (up1 I (b + 14) (I (s + 14)), F) := by
  have la := l_18 (F := F) (Q := Q) hp hs hd hv 20 0 (by omega)
  have e0 : up1 I (b + 14) (cpk (I (s + 14)) (I (b + 14)) 0) = I := by
    funext c k
    unfold up1 cpk
    by_cases e : c = b + 14
    · rw [if_pos e, if_neg (by omega), e]
    · rw [if_neg e]
  have e1 : cpk (I (s + 14)) (I (b + 14)) 20 = I (s + 14) := by
    funext k
    unfold cpk
    by_cases e : k < 20
    · rw [if_pos e]
    · rw [if_neg e, hz k (by omega)]
  rw [e0, e1] at la
  exact la
set_option maxHeartbeats 4000000 in
theorem m_18 (hp : PL X b) (hs : PL X s) (hz : NZ X h) (hd : b + 24 ≤ s ∨ s + 24 ≤ b) (hv : ∀ k, h.1 (s + 14) k = 0 ∨ h.1 (s + 14) k = 1) : Cl X 18 [vr (b + 11), vr (s + 11)] h Q ↔ Q none (up1 (up1 (up1 (up1 (up1 (up1 (up1 h.1 (b + 12) (h.1 (s + 12))) (b + 13) (h.1 (s + 13))) (b + 14) (h.1 (s + 14))) (b + 15) (h.1 (s + 15))) (b + 16) (h.1 (s + 16))) (b + 17) (h.1 (s + 17))) (b + 18) (h.1 (s + 18)), up2 h.2 (b + 11) 0 (h.2 (s + 11) 0)) := by
  have c12 : va_cpy (h.1 (s + 12)) (h.1 (b + 12)) 0 0 20 = h.1 (s + 12) := cpy_full (fun j hj => hz _ j (Or.inl hs.t12) (by rw [hs.z12]; exact hj)) (fun j hj => hz _ j (Or.inl hp.t12) (by rw [hp.z12]; exact hj))
  have c13 : va_cpy (h.1 (s + 13)) (h.1 (b + 13)) 0 0 20 = h.1 (s + 13) := cpy_full (fun j hj => hz _ j (Or.inl hs.t13) (by rw [hs.z13]; exact hj)) (fun j hj => hz _ j (Or.inl hp.t13) (by rw [hp.z13]; exact hj))
  have c15 : va_cpy (h.1 (s + 15)) (h.1 (b + 15)) 0 0 20 = h.1 (s + 15) := cpy_full (fun j hj => hz _ j (Or.inl hs.t15) (by rw [hs.z15]; exact hj)) (fun j hj => hz _ j (Or.inl hp.t15) (by rw [hp.z15]; exact hj))
  have c16 : va_cpy (h.1 (s + 16)) (h.1 (b + 16)) 0 0 20 = h.1 (s + 16) := cpy_full (fun j hj => hz _ j (Or.inl hs.t16) (by rw [hs.z16]; exact hj)) (fun j hj => hz _ j (Or.inl hp.t16) (by rw [hp.z16]; exact hj))
  have c17 : va_cpy (h.1 (s + 17)) (h.1 (b + 17)) 0 0 20 = h.1 (s + 17) := cpy_full (fun j hj => hz _ j (Or.inl hs.t17) (by rw [hs.z17]; exact hj)) (fun j hj => hz _ j (Or.inl hp.t17) (by rw [hp.z17]; exact hj))
  have c18 : va_cpy (h.1 (s + 18)) (h.1 (b + 18)) 0 0 20 = h.1 (s + 18) := cpy_full (fun j hj => hz _ j (Or.inl hs.t18) (by rw [hs.z18]; exact hj)) (fun j hj => hz _ j (Or.inl hp.t18) (by rw [hp.z18]; exact hj))
  rw [c_18]
  simp (disch := first | assumption | omega) only [e_18_0, e_18_1, e_18_2, e_18_3, e_18_4, e_18_5, e_18_6, e_18_7, e_18_8, e_18_9, e_18_10, e_18_11, e_18_12, e_18_13, e_18_14, e_18_15, e_18_16, e_18_17, e_18_18, e_18_19, e_18_20, e_18_21, e_18_22, e_18_23, e_18_24, e_18_25, e_18_26, e_18_27, e_18_28, e_18_29, e_18_30, e_18_31, e_18_32, e_18_33, e_18_34, e_18_35, e_18_36, e_18_37, e_18_38, e_18_39, e_18_40, e_18_41, e_18_42, e_18_43, e_18_44, e_18_45, e_18_46, e_18_47, e_18_48, e_18_49, e_18_50, e_18_51, e_18_52, e_18_53, onI_s, onR_s, onL_s, gl_0, gl_n, gl_1, gl_2, gl_3, gl_4, gl_5, gl_6, gl_7, gl_8, gl_9, gl_10, gl_11, gl_12, gl_13, gl_14, gl_15, gl_16, gl_17, sk0i, sk0r, sk0n, sk1i, sk1r, sk1n, sk_2, sk_3, sk_4, sk_5, sk_6, sk_7, sk_8, sk_9, sk_10, sk_11, sk_12, sk_13, sk_14, sk_15, sk_16, sk_17, ls_0, ls_1, ls_2, ls_3, ls_4, ls_5, ls_6, ls_7, ls_8, ls_9, ls_10, ls_11, ls_12, ls_13, ls_14, ls_15, ls_16, ls_17, ct1_i, ct1_r, wd8_0, wd8_i1, wd8_r1, wd8_i2, wd8_r2, wd8_i3, wd8_r3, wd8_i4, wd8_r4, wd8_i5, wd8_r5, wd8_i6, wd8_r6, wd8_i7, wd8_r7, wd8_i8, wd8_r8, wd8_l2, wd8_l3, wd8_l4, wd8_l5, wd8_l6, wd8_l7, wd8_l8, tl_s, tl_n, inR_t, bd_t, true_and, and_true, true_or, or_true, if_true_x, if_false_x, if_pos, if_neg, Int.toNat_natCast, natL, bI_0, bI_1, bI_ft, eq_self, b_tf, b_ft, not_true_eq_false, not_false_eq_true, hp.t0, hp.t1, hp.t2, hp.t3, hp.t4, hp.t5, hp.t6, hp.t7, hp.t8, hp.t9, hp.t10, hp.t11, hp.t12, hp.t13, hp.t14, hp.t15, hp.t16, hp.t17, hp.t18, hp.t19, hp.t20, hp.t21, hp.t22, hp.t23, hp.z2, hp.z3, hp.z4, hp.z5, hp.z7, hp.z8, hp.z9, hp.z10, hp.z12, hp.z13, hp.z14, hp.z15, hp.z16, hp.z17, hp.z18, hp.z20, hp.z21, hp.z22, hp.z23, hp.r0_2, hp.r0_3, hp.r0_4, hp.r0_5, hp.r1_1, hp.r1_2, hp.r1_3, hp.r1_4, hp.r6_1, hp.r6_2, hp.r6_3, hp.r6_4, hp.r11_1, hp.r11_2, hp.r11_3, hp.r11_4, hp.r11_5, hp.r11_6, hp.r11_7, hp.r19_1, hp.r19_2, hp.r19_3, hp.r19_4, hs.t0, hs.t1, hs.t2, hs.t3, hs.t4, hs.t5, hs.t6, hs.t7, hs.t8, hs.t9, hs.t10, hs.t11, hs.t12, hs.t13, hs.t14, hs.t15, hs.t16, hs.t17, hs.t18, hs.t19, hs.t20, hs.t21, hs.t22, hs.t23, hs.z2, hs.z3, hs.z4, hs.z5, hs.z7, hs.z8, hs.z9, hs.z10, hs.z12, hs.z13, hs.z14, hs.z15, hs.z16, hs.z17, hs.z18, hs.z20, hs.z21, hs.z22, hs.z23, hs.r0_2, hs.r0_3, hs.r0_4, hs.r0_5, hs.r1_1, hs.r1_2, hs.r1_3, hs.r1_4, hs.r6_1, hs.r6_2, hs.r6_3, hs.r6_4, hs.r11_1, hs.r11_2, hs.r11_3, hs.r11_4, hs.r11_5, hs.r11_6, hs.r11_7, hs.r19_1, hs.r19_2, hs.r19_3, hs.r19_4, cp_t, tn_0, tn_16, tn_20, tn_96, up1_ne, c12, c13, c15, c16, c17, c18]
  refine (l_18z hp hs hd ?_ ?_).trans ?_
  · intro k
    simp (disch := omega) only [up1_ne]
    exact hv k
  · intro k hk
    simp (disch := omega) only [up1_ne]
    rw [hz _ k (Or.inr hs.t14) (by rw [hs.z14]; exact hk), hz _ k (Or.inr hp.t14) (by rw [hp.z14]; exact hk)]
  · simp (disch := omega) only [up1_ne]
    rw [up1_c18 (show b + 18 ≠ b + 14 by omega), up1_c18 (show b + 17 ≠ b + 14 by omega), up1_c18 (show b + 16 ≠ b + 14 by omega), up1_c18 (show b + 15 ≠ b + 14 by omega)]
set_option maxHeartbeats 4000000 in
theorem m_42 (hp : PL X b) (hs : PL X s) (hz : NZ X h) (hd : b + 24 ≤ s ∨ s + 24 ≤ b) : Cl X 42 [vr (b + 19), vr (s + 19)] h Q ↔ Q none (up1 (up1 (up1 (up1 h.1 (b + 20) (h.1 (s + 20))) (b + 21) (h.1 (s + 21))) (b + 22) (h.1 (s + 22))) (b + 23) (h.1 (s + 23)), up2 h.2 (b + 19) 0 (h.2 (s + 19) 0)) := by
  have c20 : va_cpy (h.1 (s + 20)) (h.1 (b + 20)) 0 0 16 = h.1 (s + 20) := cpy_full (fun j hj => hz _ j (Or.inl hs.t20) (by rw [hs.z20]; exact hj)) (fun j hj => hz _ j (Or.inl hp.t20) (by rw [hp.z20]; exact hj))
  have c21 : va_cpy (h.1 (s + 21)) (h.1 (b + 21)) 0 0 16 = h.1 (s + 21) := cpy_full (fun j hj => hz _ j (Or.inl hs.t21) (by rw [hs.z21]; exact hj)) (fun j hj => hz _ j (Or.inl hp.t21) (by rw [hp.z21]; exact hj))
  have c22 : va_cpy (h.1 (s + 22)) (h.1 (b + 22)) 0 0 96 = h.1 (s + 22) := cpy_full (fun j hj => hz _ j (Or.inl hs.t22) (by rw [hs.z22]; exact hj)) (fun j hj => hz _ j (Or.inl hp.t22) (by rw [hp.z22]; exact hj))
  have c23 : va_cpy (h.1 (s + 23)) (h.1 (b + 23)) 0 0 96 = h.1 (s + 23) := cpy_full (fun j hj => hz _ j (Or.inl hs.t23) (by rw [hs.z23]; exact hj)) (fun j hj => hz _ j (Or.inl hp.t23) (by rw [hp.z23]; exact hj))
  rw [c_42]
  simp (disch := first | assumption | omega) only [e_42_0, e_42_1, e_42_2, e_42_3, e_42_4, e_42_5, e_42_6, e_42_7, e_42_8, e_42_9, e_42_10, e_42_11, e_42_12, e_42_13, e_42_14, e_42_15, e_42_16, e_42_17, e_42_18, e_42_19, e_42_20, e_42_21, e_42_22, e_42_23, e_42_24, e_42_25, e_42_26, e_42_27, e_42_28, e_42_29, e_42_30, e_42_31, e_42_32, e_42_33, e_42_34, e_42_35, e_42_36, onI_s, onR_s, onL_s, gl_0, gl_n, gl_1, gl_2, gl_3, gl_4, gl_5, gl_6, gl_7, gl_8, gl_9, gl_10, gl_11, gl_12, gl_13, gl_14, gl_15, gl_16, gl_17, sk0i, sk0r, sk0n, sk1i, sk1r, sk1n, sk_2, sk_3, sk_4, sk_5, sk_6, sk_7, sk_8, sk_9, sk_10, sk_11, sk_12, sk_13, sk_14, sk_15, sk_16, sk_17, ls_0, ls_1, ls_2, ls_3, ls_4, ls_5, ls_6, ls_7, ls_8, ls_9, ls_10, ls_11, ls_12, ls_13, ls_14, ls_15, ls_16, ls_17, ct1_i, ct1_r, wd8_0, wd8_i1, wd8_r1, wd8_i2, wd8_r2, wd8_i3, wd8_r3, wd8_i4, wd8_r4, wd8_i5, wd8_r5, wd8_i6, wd8_r6, wd8_i7, wd8_r7, wd8_i8, wd8_r8, wd8_l2, wd8_l3, wd8_l4, wd8_l5, wd8_l6, wd8_l7, wd8_l8, tl_s, tl_n, inR_t, bd_t, true_and, and_true, true_or, or_true, if_true_x, if_false_x, if_pos, if_neg, Int.toNat_natCast, natL, bI_0, bI_1, bI_ft, eq_self, b_tf, b_ft, not_true_eq_false, not_false_eq_true, hp.t0, hp.t1, hp.t2, hp.t3, hp.t4, hp.t5, hp.t6, hp.t7, hp.t8, hp.t9, hp.t10, hp.t11, hp.t12, hp.t13, hp.t14, hp.t15, hp.t16, hp.t17, hp.t18, hp.t19, hp.t20, hp.t21, hp.t22, hp.t23, hp.z2, hp.z3, hp.z4, hp.z5, hp.z7, hp.z8, hp.z9, hp.z10, hp.z12, hp.z13, hp.z14, hp.z15, hp.z16, hp.z17, hp.z18, hp.z20, hp.z21, hp.z22, hp.z23, hp.r0_2, hp.r0_3, hp.r0_4, hp.r0_5, hp.r1_1, hp.r1_2, hp.r1_3, hp.r1_4, hp.r6_1, hp.r6_2, hp.r6_3, hp.r6_4, hp.r11_1, hp.r11_2, hp.r11_3, hp.r11_4, hp.r11_5, hp.r11_6, hp.r11_7, hp.r19_1, hp.r19_2, hp.r19_3, hp.r19_4, hs.t0, hs.t1, hs.t2, hs.t3, hs.t4, hs.t5, hs.t6, hs.t7, hs.t8, hs.t9, hs.t10, hs.t11, hs.t12, hs.t13, hs.t14, hs.t15, hs.t16, hs.t17, hs.t18, hs.t19, hs.t20, hs.t21, hs.t22, hs.t23, hs.z2, hs.z3, hs.z4, hs.z5, hs.z7, hs.z8, hs.z9, hs.z10, hs.z12, hs.z13, hs.z14, hs.z15, hs.z16, hs.z17, hs.z18, hs.z20, hs.z21, hs.z22, hs.z23, hs.r0_2, hs.r0_3, hs.r0_4, hs.r0_5, hs.r1_1, hs.r1_2, hs.r1_3, hs.r1_4, hs.r6_1, hs.r6_2, hs.r6_3, hs.r6_4, hs.r11_1, hs.r11_2, hs.r11_3, hs.r11_4, hs.r11_5, hs.r11_6, hs.r11_7, hs.r19_1, hs.r19_2, hs.r19_3, hs.r19_4, cp_t, tn_0, tn_16, tn_20, tn_96, up1_ne, c20, c21, c22, c23]
theorem NZ.cg {I F F2 : Nat → Nat → Int} {a : Nat} {g : Nat → Int} (hz : NZ X (I, F)) (hg : ∀ j, X.2.1 a ≤ j → g j = 0) : NZ X (up1 I a g, F2) := by
  intro a2 j2 ht hl2
  show up1 I a g a2 j2 = 0
  by_cases e : a2 = a
  · subst e
    rw [up1_self]
    exact hg j2 hl2
  · rw [up1_ne e]
    exact hz a2 j2 ht hl2
theorem m_14B (hp : PL X b) (hs : PL X s) (hz : NZ X h) (hd : b + 24 ≤ s ∨ s + 24 ≤ b) : Cl X 14 [vr (b + 1), vr (s + 1)] h Q ↔ Q none (up1 (up1 (up1 (up1 h.1 (b + 2) (h.1 (s + 2))) (b + 3) (h.1 (s + 3))) (b + 4) (h.1 (s + 4))) (b + 5) (h.1 (s + 5)), up2 h.2 (b + 1) 0 (h.2 (s + 1) 0)) := m_14 hp.bxB hs.bxB (by decide) hz (by omega)
theorem m_14F (hp : PL X b) (hs : PL X s) (hz : NZ X h) (hd : b + 24 ≤ s ∨ s + 24 ≤ b) : Cl X 14 [vr (b + 6), vr (s + 6)] h Q ↔ Q none (up1 (up1 (up1 (up1 h.1 (b + 7) (h.1 (s + 7))) (b + 8) (h.1 (s + 8))) (b + 9) (h.1 (s + 9))) (b + 10) (h.1 (s + 10)), up2 h.2 (b + 6) 0 (h.2 (s + 6) 0)) := m_14 hp.bxF hs.bxF (by decide) hz (by omega)
/-- numbers in fields that never change are alike in both -/
def JK (h : xH) (b s : Nat) : Prop := (∀ i, h.2 b i = h.2 s i) ∧ ∀ j, j = 1 ∨ j = 6 ∨ j = 11 ∨ j = 19 → ∀ i, i ≠ 0 → h.2 (b + j) i = h.2 (s + j) i
/-- only numbers of the plan at b are written -/
def PW (b : Nat) (h h2 : xH) : Prop := (∀ a, ¬ (b ≤ a ∧ a < b + 24) → h2.1 a = h.1 a ∧ h2.2 a = h.2 a) ∧ (∀ a i, i ≠ 0 → h2.2 a i = h.2 a i) ∧ h2.2 b = h.2 b
set_option maxHeartbeats 8000000 in
theorem m_74 (hp : PL X b) (hs : PL X s) (hz : NZ X h) (hd : b + 24 ≤ s ∨ s + 24 ≤ b) (hj : JK h b s) (hv : ∀ i, cv h s 14 i = 0 ∨ cv h s 14 i = 1) (hq : ∀ h2, cv h2 b = cv h s → PW b h h2 → NZ X h2 → Q none h2) : Cl X 74 [vr b, vr s] h Q := by
  have g2 : ∀ i, X.2.1 (b + 2) ≤ i → h.1 (s + 2) i = 0 := fun i hi => hz _ i (Or.inl hs.t2) (by rw [hs.z2]; rw [hp.z2] at hi; exact hi)
  have y2 := NZ.cg (F2 := h.2) (a := b + 2) (g := h.1 (s + 2)) hz g2
  have g3 : ∀ i, X.2.1 (b + 3) ≤ i → h.1 (s + 3) i = 0 := fun i hi => hz _ i (Or.inl hs.t3) (by rw [hs.z3]; rw [hp.z3] at hi; exact hi)
  have y3 := NZ.cg (F2 := h.2) (a := b + 3) (g := h.1 (s + 3)) y2 g3
  have g4 : ∀ i, X.2.1 (b + 4) ≤ i → h.1 (s + 4) i = 0 := fun i hi => hz _ i (Or.inl hs.t4) (by rw [hs.z4]; rw [hp.z4] at hi; exact hi)
  have y4 := NZ.cg (F2 := h.2) (a := b + 4) (g := h.1 (s + 4)) y3 g4
  have g5 : ∀ i, X.2.1 (b + 5) ≤ i → h.1 (s + 5) i = 0 := fun i hi => hz _ i (Or.inl hs.t5) (by rw [hs.z5]; rw [hp.z5] at hi; exact hi)
  have y5 := NZ.cg (F2 := h.2) (a := b + 5) (g := h.1 (s + 5)) y4 g5
  have g7 : ∀ i, X.2.1 (b + 7) ≤ i → h.1 (s + 7) i = 0 := fun i hi => hz _ i (Or.inl hs.t7) (by rw [hs.z7]; rw [hp.z7] at hi; exact hi)
  have y7 := NZ.cg (F2 := h.2) (a := b + 7) (g := h.1 (s + 7)) y5 g7
  have g8 : ∀ i, X.2.1 (b + 8) ≤ i → h.1 (s + 8) i = 0 := fun i hi => hz _ i (Or.inl hs.t8) (by rw [hs.z8]; rw [hp.z8] at hi; exact hi)
  have y8 := NZ.cg (F2 := h.2) (a := b + 8) (g := h.1 (s + 8)) y7 g8
  have g9 : ∀ i, X.2.1 (b + 9) ≤ i → h.1 (s + 9) i = 0 := fun i hi => hz _ i (Or.inl hs.t9) (by rw [hs.z9]; rw [hp.z9] at hi; exact hi)
  have y9 := NZ.cg (F2 := h.2) (a := b + 9) (g := h.1 (s + 9)) y8 g9
  have g10 : ∀ i, X.2.1 (b + 10) ≤ i → h.1 (s + 10) i = 0 := fun i hi => hz _ i (Or.inl hs.t10) (by rw [hs.z10]; rw [hp.z10] at hi; exact hi)
  have y10 := NZ.cg (F2 := h.2) (a := b + 10) (g := h.1 (s + 10)) y9 g10
  have g12 : ∀ i, X.2.1 (b + 12) ≤ i → h.1 (s + 12) i = 0 := fun i hi => hz _ i (Or.inl hs.t12) (by rw [hs.z12]; rw [hp.z12] at hi; exact hi)
  have y12 := NZ.cg (F2 := h.2) (a := b + 12) (g := h.1 (s + 12)) y10 g12
  have g13 : ∀ i, X.2.1 (b + 13) ≤ i → h.1 (s + 13) i = 0 := fun i hi => hz _ i (Or.inl hs.t13) (by rw [hs.z13]; rw [hp.z13] at hi; exact hi)
  have y13 := NZ.cg (F2 := h.2) (a := b + 13) (g := h.1 (s + 13)) y12 g13
  have g14 : ∀ i, X.2.1 (b + 14) ≤ i → h.1 (s + 14) i = 0 := fun i hi => hz _ i (Or.inr hs.t14) (by rw [hs.z14]; rw [hp.z14] at hi; exact hi)
  have y14 := NZ.cg (F2 := h.2) (a := b + 14) (g := h.1 (s + 14)) y13 g14
  have g15 : ∀ i, X.2.1 (b + 15) ≤ i → h.1 (s + 15) i = 0 := fun i hi => hz _ i (Or.inl hs.t15) (by rw [hs.z15]; rw [hp.z15] at hi; exact hi)
  have y15 := NZ.cg (F2 := h.2) (a := b + 15) (g := h.1 (s + 15)) y14 g15
  have g16 : ∀ i, X.2.1 (b + 16) ≤ i → h.1 (s + 16) i = 0 := fun i hi => hz _ i (Or.inl hs.t16) (by rw [hs.z16]; rw [hp.z16] at hi; exact hi)
  have y16 := NZ.cg (F2 := h.2) (a := b + 16) (g := h.1 (s + 16)) y15 g16
  have g17 : ∀ i, X.2.1 (b + 17) ≤ i → h.1 (s + 17) i = 0 := fun i hi => hz _ i (Or.inl hs.t17) (by rw [hs.z17]; rw [hp.z17] at hi; exact hi)
  have y17 := NZ.cg (F2 := h.2) (a := b + 17) (g := h.1 (s + 17)) y16 g17
  have g18 : ∀ i, X.2.1 (b + 18) ≤ i → h.1 (s + 18) i = 0 := fun i hi => hz _ i (Or.inl hs.t18) (by rw [hs.z18]; rw [hp.z18] at hi; exact hi)
  have y18 := NZ.cg (F2 := h.2) (a := b + 18) (g := h.1 (s + 18)) y17 g18
  have g20 : ∀ i, X.2.1 (b + 20) ≤ i → h.1 (s + 20) i = 0 := fun i hi => hz _ i (Or.inl hs.t20) (by rw [hs.z20]; rw [hp.z20] at hi; exact hi)
  have y20 := NZ.cg (F2 := h.2) (a := b + 20) (g := h.1 (s + 20)) y18 g20
  have g21 : ∀ i, X.2.1 (b + 21) ≤ i → h.1 (s + 21) i = 0 := fun i hi => hz _ i (Or.inl hs.t21) (by rw [hs.z21]; rw [hp.z21] at hi; exact hi)
  have y21 := NZ.cg (F2 := h.2) (a := b + 21) (g := h.1 (s + 21)) y20 g21
  have g22 : ∀ i, X.2.1 (b + 22) ≤ i → h.1 (s + 22) i = 0 := fun i hi => hz _ i (Or.inl hs.t22) (by rw [hs.z22]; rw [hp.z22] at hi; exact hi)
  have y22 := NZ.cg (F2 := h.2) (a := b + 22) (g := h.1 (s + 22)) y21 g22
  have g23 : ∀ i, X.2.1 (b + 23) ≤ i → h.1 (s + 23) i = 0 := fun i hi => hz _ i (Or.inl hs.t23) (by rw [hs.z23]; rw [hp.z23] at hi; exact hi)
  have y23 := NZ.cg (F2 := h.2) (a := b + 23) (g := h.1 (s + 23)) y22 g23
  have z1 : NZ X (up1 (up1 (up1 (up1 h.1 (b + 2) (h.1 (s + 2))) (b + 3) (h.1 (s + 3))) (b + 4) (h.1 (s + 4))) (b + 5) (h.1 (s + 5)), up2 h.2 (b + 1) 0 (h.2 (s + 1) 0)) := NZ.F y5
  have z2 : NZ X (up1 (up1 (up1 (up1 (up1 (up1 (up1 (up1 h.1 (b + 2) (h.1 (s + 2))) (b + 3) (h.1 (s + 3))) (b + 4) (h.1 (s + 4))) (b + 5) (h.1 (s + 5))) (b + 7) (h.1 (s + 7))) (b + 8) (h.1 (s + 8))) (b + 9) (h.1 (s + 9))) (b + 10) (h.1 (s + 10)), up2 (up2 h.2 (b + 1) 0 (h.2 (s + 1) 0)) (b + 6) 0 (h.2 (s + 6) 0)) := NZ.F y10
  have v2 : ∀ k, (up1 (up1 (up1 (up1 (up1 (up1 (up1 (up1 h.1 (b + 2) (h.1 (s + 2))) (b + 3) (h.1 (s + 3))) (b + 4) (h.1 (s + 4))) (b + 5) (h.1 (s + 5))) (b + 7) (h.1 (s + 7))) (b + 8) (h.1 (s + 8))) (b + 9) (h.1 (s + 9))) (b + 10) (h.1 (s + 10))) (s + 14) k = 0 ∨ (up1 (up1 (up1 (up1 (up1 (up1 (up1 (up1 h.1 (b + 2) (h.1 (s + 2))) (b + 3) (h.1 (s + 3))) (b + 4) (h.1 (s + 4))) (b + 5) (h.1 (s + 5))) (b + 7) (h.1 (s + 7))) (b + 8) (h.1 (s + 8))) (b + 9) (h.1 (s + 9))) (b + 10) (h.1 (s + 10))) (s + 14) k = 1 := by
    intro k
    simp (disch := omega) only [up1_ne]
    exact hv k
  have z3 : NZ X (up1 (up1 (up1 (up1 (up1 (up1 (up1 (up1 (up1 (up1 (up1 (up1 (up1 (up1 (up1 h.1 (b + 2) (h.1 (s + 2))) (b + 3) (h.1 (s + 3))) (b + 4) (h.1 (s + 4))) (b + 5) (h.1 (s + 5))) (b + 7) (h.1 (s + 7))) (b + 8) (h.1 (s + 8))) (b + 9) (h.1 (s + 9))) (b + 10) (h.1 (s + 10))) (b + 12) (h.1 (s + 12))) (b + 13) (h.1 (s + 13))) (b + 14) (h.1 (s + 14))) (b + 15) (h.1 (s + 15))) (b + 16) (h.1 (s + 16))) (b + 17) (h.1 (s + 17))) (b + 18) (h.1 (s + 18)), up2 (up2 (up2 h.2 (b + 1) 0 (h.2 (s + 1) 0)) (b + 6) 0 (h.2 (s + 6) 0)) (b + 11) 0 (h.2 (s + 11) 0)) := NZ.F y18
  have z4 : NZ X (up1 (up1 (up1 (up1 (up1 (up1 (up1 (up1 (up1 (up1 (up1 (up1 (up1 (up1 (up1 (up1 (up1 (up1 (up1 h.1 (b + 2) (h.1 (s + 2))) (b + 3) (h.1 (s + 3))) (b + 4) (h.1 (s + 4))) (b + 5) (h.1 (s + 5))) (b + 7) (h.1 (s + 7))) (b + 8) (h.1 (s + 8))) (b + 9) (h.1 (s + 9))) (b + 10) (h.1 (s + 10))) (b + 12) (h.1 (s + 12))) (b + 13) (h.1 (s + 13))) (b + 14) (h.1 (s + 14))) (b + 15) (h.1 (s + 15))) (b + 16) (h.1 (s + 16))) (b + 17) (h.1 (s + 17))) (b + 18) (h.1 (s + 18))) (b + 20) (h.1 (s + 20))) (b + 21) (h.1 (s + 21))) (b + 22) (h.1 (s + 22))) (b + 23) (h.1 (s + 23)), up2 (up2 (up2 (up2 h.2 (b + 1) 0 (h.2 (s + 1) 0)) (b + 6) 0 (h.2 (s + 6) 0)) (b + 11) 0 (h.2 (s + 11) 0)) (b + 19) 0 (h.2 (s + 19) 0)) := NZ.F y23
  rw [c_74]
  simp (disch := first | assumption | omega) only [e_74_0, e_74_1, e_74_2, e_74_3, e_74_4, e_74_5, e_74_6, e_74_7, e_74_8, e_74_9, e_74_10, e_74_11, e_74_12, e_74_13, e_74_14, e_74_15, e_74_16, e_74_17, e_74_18, e_74_19, e_74_20, onI_s, onR_s, onL_s, gl_0, gl_n, gl_1, gl_2, gl_3, gl_4, gl_5, gl_6, gl_7, gl_8, gl_9, gl_10, gl_11, gl_12, gl_13, gl_14, gl_15, gl_16, gl_17, sk0i, sk0r, sk0n, sk1i, sk1r, sk1n, sk_2, sk_3, sk_4, sk_5, sk_6, sk_7, sk_8, sk_9, sk_10, sk_11, sk_12, sk_13, sk_14, sk_15, sk_16, sk_17, ls_0, ls_1, ls_2, ls_3, ls_4, ls_5, ls_6, ls_7, ls_8, ls_9, ls_10, ls_11, ls_12, ls_13, ls_14, ls_15, ls_16, ls_17, ct1_i, ct1_r, wd8_0, wd8_i1, wd8_r1, wd8_i2, wd8_r2, wd8_i3, wd8_r3, wd8_i4, wd8_r4, wd8_i5, wd8_r5, wd8_i6, wd8_r6, wd8_i7, wd8_r7, wd8_i8, wd8_r8, wd8_l2, wd8_l3, wd8_l4, wd8_l5, wd8_l6, wd8_l7, wd8_l8, tl_s, tl_n, inR_t, bd_t, true_and, and_true, true_or, or_true, if_true_x, if_false_x, if_pos, if_neg, Int.toNat_natCast, natL, bI_0, bI_1, bI_ft, eq_self, b_tf, b_ft, not_true_eq_false, not_false_eq_true, m_14B hp hs hz hd, m_14F hp hs z1 hd, m_18 hp hs z2 hd v2, m_42 hp hs z3 hd, up1_ne, up2_oth, hp.t0, hp.t1, hp.t2, hp.t3, hp.t4, hp.t5, hp.t6, hp.t7, hp.t8, hp.t9, hp.t10, hp.t11, hp.t12, hp.t13, hp.t14, hp.t15, hp.t16, hp.t17, hp.t18, hp.t19, hp.t20, hp.t21, hp.t22, hp.t23, hp.z2, hp.z3, hp.z4, hp.z5, hp.z7, hp.z8, hp.z9, hp.z10, hp.z12, hp.z13, hp.z14, hp.z15, hp.z16, hp.z17, hp.z18, hp.z20, hp.z21, hp.z22, hp.z23, hp.r0_2, hp.r0_3, hp.r0_4, hp.r0_5, hp.r1_1, hp.r1_2, hp.r1_3, hp.r1_4, hp.r6_1, hp.r6_2, hp.r6_3, hp.r6_4, hp.r11_1, hp.r11_2, hp.r11_3, hp.r11_4, hp.r11_5, hp.r11_6, hp.r11_7, hp.r19_1, hp.r19_2, hp.r19_3, hp.r19_4, hs.t0, hs.t1, hs.t2, hs.t3, hs.t4, hs.t5, hs.t6, hs.t7, hs.t8, hs.t9, hs.t10, hs.t11, hs.t12, hs.t13, hs.t14, hs.t15, hs.t16, hs.t17, hs.t18, hs.t19, hs.t20, hs.t21, hs.t22, hs.t23, hs.z2, hs.z3, hs.z4, hs.z5, hs.z7, hs.z8, hs.z9, hs.z10, hs.z12, hs.z13, hs.z14, hs.z15, hs.z16, hs.z17, hs.z18, hs.z20, hs.z21, hs.z22, hs.z23, hs.r0_2, hs.r0_3, hs.r0_4, hs.r0_5, hs.r1_1, hs.r1_2, hs.r1_3, hs.r1_4, hs.r6_1, hs.r6_2, hs.r6_3, hs.r6_4, hs.r11_1, hs.r11_2, hs.r11_3, hs.r11_4, hs.r11_5, hs.r11_6, hs.r11_7, hs.r19_1, hs.r19_2, hs.r19_3, hs.r19_4]
  refine hq _ ?_ ⟨fun a ha => ⟨?_, ?_⟩, fun a i hi => ?_, ?_⟩ z4
  · funext j i
    unfold cv
    by_cases e : j = 0 ∨ j = 1 ∨ j = 6 ∨ j = 11 ∨ j = 19
    · rw [if_pos e, if_pos e]
      show (up2 (up2 (up2 (up2 h.2 (b + 1) 0 (h.2 (s + 1) 0)) (b + 6) 0 (h.2 (s + 6) 0)) (b + 11) 0 (h.2 (s + 11) 0)) (b + 19) 0 (h.2 (s + 19) 0)) (b + j) i = _
      by_cases e0 : i = 0
      · subst e0
        rcases e with rfl | rfl | rfl | rfl | rfl
        · simp (disch := omega) only [up2_oth]
          exact hj.1 0
        · simp (disch := omega) only [up2_oth, up2_self]
        · simp (disch := omega) only [up2_oth, up2_self]
        · simp (disch := omega) only [up2_oth, up2_self]
        · simp (disch := omega) only [up2_oth, up2_self]
      · have hx : (up2 (up2 (up2 (up2 h.2 (b + 1) 0 (h.2 (s + 1) 0)) (b + 6) 0 (h.2 (s + 6) 0)) (b + 11) 0 (h.2 (s + 11) 0)) (b + 19) 0 (h.2 (s + 19) 0)) (b + j) i = h.2 (b + j) i := by
          unfold up2
          rw [if_neg (fun z => e0 z.2), if_neg (fun z => e0 z.2), if_neg (fun z => e0 z.2), if_neg (fun z => e0 z.2)]
        rw [hx]
        rcases e with rfl | e
        · exact hj.1 i
        · exact hj.2 j e i e0
    · rw [if_neg e, if_neg e]
      by_cases e24 : j < 24
      · rw [if_pos e24, if_pos e24]
        show (up1 (up1 (up1 (up1 (up1 (up1 (up1 (up1 (up1 (up1 (up1 (up1 (up1 (up1 (up1 (up1 (up1 (up1 (up1 h.1 (b + 2) (h.1 (s + 2))) (b + 3) (h.1 (s + 3))) (b + 4) (h.1 (s + 4))) (b + 5) (h.1 (s + 5))) (b + 7) (h.1 (s + 7))) (b + 8) (h.1 (s + 8))) (b + 9) (h.1 (s + 9))) (b + 10) (h.1 (s + 10))) (b + 12) (h.1 (s + 12))) (b + 13) (h.1 (s + 13))) (b + 14) (h.1 (s + 14))) (b + 15) (h.1 (s + 15))) (b + 16) (h.1 (s + 16))) (b + 17) (h.1 (s + 17))) (b + 18) (h.1 (s + 18))) (b + 20) (h.1 (s + 20))) (b + 21) (h.1 (s + 21))) (b + 22) (h.1 (s + 22))) (b + 23) (h.1 (s + 23))) (b + j) i = _
        have hj2 : j = 2 ∨ j = 3 ∨ j = 4 ∨ j = 5 ∨ j = 7 ∨ j = 8 ∨ j = 9 ∨ j = 10 ∨ j = 12 ∨ j = 13 ∨ j = 14 ∨ j = 15 ∨ j = 16 ∨ j = 17 ∨ j = 18 ∨ j = 20 ∨ j = 21 ∨ j = 22 ∨ j = 23 := by omega
        rcases hj2 with rfl | rfl | rfl | rfl | rfl | rfl | rfl | rfl | rfl | rfl | rfl | rfl | rfl | rfl | rfl | rfl | rfl | rfl | rfl
        all_goals simp (disch := omega) only [up1_ne, up1_self]
      · rw [if_neg e24, if_neg e24]
  · show (up1 (up1 (up1 (up1 (up1 (up1 (up1 (up1 (up1 (up1 (up1 (up1 (up1 (up1 (up1 (up1 (up1 (up1 (up1 h.1 (b + 2) (h.1 (s + 2))) (b + 3) (h.1 (s + 3))) (b + 4) (h.1 (s + 4))) (b + 5) (h.1 (s + 5))) (b + 7) (h.1 (s + 7))) (b + 8) (h.1 (s + 8))) (b + 9) (h.1 (s + 9))) (b + 10) (h.1 (s + 10))) (b + 12) (h.1 (s + 12))) (b + 13) (h.1 (s + 13))) (b + 14) (h.1 (s + 14))) (b + 15) (h.1 (s + 15))) (b + 16) (h.1 (s + 16))) (b + 17) (h.1 (s + 17))) (b + 18) (h.1 (s + 18))) (b + 20) (h.1 (s + 20))) (b + 21) (h.1 (s + 21))) (b + 22) (h.1 (s + 22))) (b + 23) (h.1 (s + 23))) a = h.1 a
    simp (disch := omega) only [up1_ne]
  · show (up2 (up2 (up2 (up2 h.2 (b + 1) 0 (h.2 (s + 1) 0)) (b + 6) 0 (h.2 (s + 6) 0)) (b + 11) 0 (h.2 (s + 11) 0)) (b + 19) 0 (h.2 (s + 19) 0)) a = h.2 a
    funext i
    simp (disch := omega) only [up2_oth]
  · show (up2 (up2 (up2 (up2 h.2 (b + 1) 0 (h.2 (s + 1) 0)) (b + 6) 0 (h.2 (s + 6) 0)) (b + 11) 0 (h.2 (s + 11) 0)) (b + 19) 0 (h.2 (s + 19) 0)) a i = h.2 a i
    unfold up2
    rw [if_neg (fun z => hi z.2), if_neg (fun z => hi z.2), if_neg (fun z => hi z.2), if_neg (fun z => hi z.2)]
  · show (up2 (up2 (up2 (up2 h.2 (b + 1) 0 (h.2 (s + 1) 0)) (b + 6) 0 (h.2 (s + 6) 0)) (b + 11) 0 (h.2 (s + 11) 0)) (b + 19) 0 (h.2 (s + 19) 0)) b = h.2 b
    funext i
    simp (disch := omega) only [up2_oth]
end CPY
