/-! LEAST in the class -/
def GT (h h2 : xH) : Prop := (∀ a, a < 36 ∨ 56 < a → h2.1 a = h.1 a) ∧ h2.2 = h.2
theorem GT.refl {h : xH} : GT h h := ⟨fun _ _ => rfl, rfl⟩
theorem GT.tr {h h2 h3 : xH} (g : GT h h2) (k : GT h2 h3) : GT h h3 := ⟨fun a q => (k.1 a q).trans (g.1 a q), k.2.trans g.2⟩
theorem GT.cv {h h2 : xH} {b : Nat} (g : GT h h2) (hb : 200 ≤ b) : cv h2 b = cv h b := cv_congr (fun k q1 q2 => ⟨g.1 k (by omega), by rw [g.2]⟩)
theorem GT.u {h0 : xH} {I F : Nat → Nat → Int} {i s : Nat} {x : Int} (g : GT h0 (I, F)) (hi : i < 21) : GT h0 (up2 I (36 + i) s x, F) := ⟨fun a q => (up2_of (by omega)).trans (g.1 a q), g.2⟩
def TR (h : xH) (v : Nat → Nat → Int) (a n : Nat) (F : Int) (L : List Nat) (i : Nat) : Prop := ∀ j, i ≤ j → j ≤ L.length → ∀ s, s ≤ n → h.1 (36 + j) s = tb v a n F (L.drop j) s
def fC : Int := 268435456
section LSC
variable {X : xL} {Q : Option xV → xH → Prop} {ns nb ln b : Nat} {h : xH}
set_option maxHeartbeats 2000000 in
theorem m_49 (hp : PL X b) (w : RGv (cv h b)) {c s : Nat} (c20 : c < 20) (s32 : s ≤ 32) : Cl X 49 [vr (b + 11), vi c, vi s] h Q ↔ Q (some (vi (cAt (cv h b) c s))) h := by
  have a1 := w.wid c
  have a2 := w.wx c
  have e1 : h.1 (b + 12) c = cv h b 12 c := rfl
  have e2 : h.1 (b + 15) c = cv h b 15 c := rfl
  have cb := cAt_bd w (c := c) s32
  have cd : cv h b 12 c * ((16 * (s : Int) - cv h b 15 c).natAbs : Int) = cAt (cv h b) c s := rfl
  have ir : inR (-(16 * (s : Int) - cv h b 15 c)) := by unfold inR; omega
  rw [c_49]
  simp (disch := first | assumption | omega) only [e_49_0, e_49_1, e_49_2, e_49_3, e_49_4, e_49_5, e_49_6, e_49_7, e_49_8, e_49_9, e_49_10, e_49_11, e_49_12, e_49_13, e_49_14, onI_s, onR_s, onL_s, gl_0, gl_n, gl_1, gl_2, gl_3, gl_4, gl_5, gl_6, gl_7, gl_8, gl_9, gl_10, gl_11, gl_12, gl_13, gl_14, gl_15, gl_16, gl_17, sk0i, sk0r, sk0n, sk1i, sk1r, sk1n, sk_2, sk_3, sk_4, sk_5, sk_6, sk_7, sk_8, sk_9, sk_10, sk_11, sk_12, sk_13, sk_14, sk_15, sk_16, sk_17, ls_0, ls_1, ls_2, ls_3, ls_4, ls_5, ls_6, ls_7, ls_8, ls_9, ls_10, ls_11, ls_12, ls_13, ls_14, ls_15, ls_16, ls_17, ct1_i, ct1_r, wd8_0, wd8_i1, wd8_r1, wd8_i2, wd8_r2, wd8_i3, wd8_r3, wd8_i4, wd8_r4, wd8_i5, wd8_r5, wd8_i6, wd8_r6, wd8_i7, wd8_r7, wd8_i8, wd8_r8, wd8_l2, wd8_l3, wd8_l4, wd8_l5, wd8_l6, wd8_l7, wd8_l8, tl_s, tl_n, inR_t, bd_t, true_and, and_true, true_or, or_true, if_true_x, if_false_x, if_pos, if_neg, Int.toNat_natCast, natL, bI_0, bI_1, bI_ft, eq_self, b_tf, b_ft, not_true_eq_false, not_false_eq_true, e1, e2, m_283 ir, cd, hp.t0, hp.t1, hp.t2, hp.t3, hp.t4, hp.t5, hp.t6, hp.t7, hp.t8, hp.t9, hp.t10, hp.t11, hp.t12, hp.t13, hp.t14, hp.t15, hp.t16, hp.t17, hp.t18, hp.t19, hp.t20, hp.t21, hp.t22, hp.t23, hp.z2, hp.z3, hp.z4, hp.z5, hp.z7, hp.z8, hp.z9, hp.z10, hp.z12, hp.z13, hp.z14, hp.z15, hp.z16, hp.z17, hp.z18, hp.z20, hp.z21, hp.z22, hp.z23, hp.r0_2, hp.r0_3, hp.r0_4, hp.r0_5, hp.r1_1, hp.r1_2, hp.r1_3, hp.r1_4, hp.r6_1, hp.r6_2, hp.r6_3, hp.r6_4, hp.r11_1, hp.r11_2, hp.r11_3, hp.r11_4, hp.r11_5, hp.r11_6, hp.r11_7, hp.r19_1, hp.r19_2, hp.r19_3, hp.r19_4]
theorem CT.r35 (hc : CT X ns nb ln) {k : Nat} (hk : k < 21) : X.2.2.1 35 k = 36 + k := hc.2.2.2.2.1 k hk
theorem CT.tr36 (hc : CT X ns nb ln) {k : Nat} (hk : k < 21) : X.1 (36 + k) = 13 := by
  rw [hc.1 (36 + k) (by omega)]
  rcases (show k = 0 ∨ k = 1 ∨ k = 2 ∨ k = 3 ∨ k = 4 ∨ k = 5 ∨ k = 6 ∨ k = 7 ∨ k = 8 ∨ k = 9 ∨ k = 10 ∨ k = 11 ∨ k = 12 ∨ k = 13 ∨ k = 14 ∨ k = 15 ∨ k = 16 ∨ k = 17 ∨ k = 18 ∨ k = 19 ∨ k = 20 by omega) with e | e | e | e | e | e | e | e | e | e | e | e | e | e | e | e | e | e | e | e | e <;> subst e <;> rfl
theorem CT.zr36 (hc : CT X ns nb ln) {k : Nat} (hk : k < 21) : X.2.1 (36 + k) = 33 := by
  rw [hc.2.1 (36 + k) (by omega)]
  rcases (show k = 0 ∨ k = 1 ∨ k = 2 ∨ k = 3 ∨ k = 4 ∨ k = 5 ∨ k = 6 ∨ k = 7 ∨ k = 8 ∨ k = 9 ∨ k = 10 ∨ k = 11 ∨ k = 12 ∨ k = 13 ∨ k = 14 ∨ k = 15 ∨ k = 16 ∨ k = 17 ∨ k = 18 ∨ k = 19 ∨ k = 20 by omega) with e | e | e | e | e | e | e | e | e | e | e | e | e | e | e | e | e | e | e | e | e <;> subst e <;> rfl
set_option maxHeartbeats 8000000 in
/-- the row of no cells -/
theorem z_48 (hc : CT X ns nb ln) {h0 : xH} {lr M n : Nat} {x6 : Int} {x1 x4 x8 x9 x10 x11 : Option xV} (M21 : M < 21) (n32 : n ≤ 32) : ∀ (m s : Nat) (h : xH), s + m = n + 1 → NZ X h → GT h0 h → (∀ k, k < s → h.1 (36 + M) k = 0) → (∀ h2 x7, NZ X h2 → GT h0 h2 → (∀ k, k ≤ n → h2.1 (36 + M) k = 0) → Ev X 48 26 [some (vr 29), x1, some (vr lr), some (vi M), x4, some (vi n), some (vi x6), x7, x8, x9, x10, x11] [] h2 Q) → Ev X 48 14 [some (vr 29), x1, some (vr lr), some (vi M), x4, some (vi n), some (vi x6), some (vi s), x8, x9, x10, x11] [] h Q := by
  have r35 := CT.r35 hc M21
  have t36 := CT.tr36 hc M21
  have z36 := CT.zr36 hc M21
  intro m
  induction m with
  | zero =>
    intro s h hm z g p hq
    rw [e_48_14]
    simp (disch := first | assumption | omega) only [e_48_15, e_48_16, onI_s, onR_s, onL_s, gl_0, gl_n, gl_1, gl_2, gl_3, gl_4, gl_5, gl_6, gl_7, gl_8, gl_9, gl_10, gl_11, gl_12, gl_13, gl_14, gl_15, gl_16, gl_17, sk0i, sk0r, sk0n, sk1i, sk1r, sk1n, sk_2, sk_3, sk_4, sk_5, sk_6, sk_7, sk_8, sk_9, sk_10, sk_11, sk_12, sk_13, sk_14, sk_15, sk_16, sk_17, ls_0, ls_1, ls_2, ls_3, ls_4, ls_5, ls_6, ls_7, ls_8, ls_9, ls_10, ls_11, ls_12, ls_13, ls_14, ls_15, ls_16, ls_17, ct1_i, ct1_r, wd8_0, wd8_i1, wd8_r1, wd8_i2, wd8_r2, wd8_i3, wd8_r3, wd8_i4, wd8_r4, wd8_i5, wd8_r5, wd8_i6, wd8_r6, wd8_i7, wd8_r7, wd8_i8, wd8_r8, wd8_l2, wd8_l3, wd8_l4, wd8_l5, wd8_l6, wd8_l7, wd8_l8, tl_s, tl_n, inR_t, bd_t, true_and, and_true, true_or, or_true, if_true_x, if_false_x, if_pos, if_neg, Int.toNat_natCast, natL, bI_0, bI_1, bI_ft, eq_self, b_tf, b_ft, not_true_eq_false, not_false_eq_true]
    exact hq h _ z g (fun k hk => p k (by omega))
  | succ m ih =>
    intro s h hm z g p hq
    rw [e_48_14]
    simp (disch := first | assumption | omega) only [e_48_15, e_48_16, e_48_17, e_48_18, e_48_19, e_48_20, e_48_21, e_48_22, e_48_23, e_48_24, e_48_25, onI_s, onR_s, onL_s, gl_0, gl_n, gl_1, gl_2, gl_3, gl_4, gl_5, gl_6, gl_7, gl_8, gl_9, gl_10, gl_11, gl_12, gl_13, gl_14, gl_15, gl_16, gl_17, sk0i, sk0r, sk0n, sk1i, sk1r, sk1n, sk_2, sk_3, sk_4, sk_5, sk_6, sk_7, sk_8, sk_9, sk_10, sk_11, sk_12, sk_13, sk_14, sk_15, sk_16, sk_17, ls_0, ls_1, ls_2, ls_3, ls_4, ls_5, ls_6, ls_7, ls_8, ls_9, ls_10, ls_11, ls_12, ls_13, ls_14, ls_15, ls_16, ls_17, ct1_i, ct1_r, wd8_0, wd8_i1, wd8_r1, wd8_i2, wd8_r2, wd8_i3, wd8_r3, wd8_i4, wd8_r4, wd8_i5, wd8_r5, wd8_i6, wd8_r6, wd8_i7, wd8_r7, wd8_i8, wd8_r8, wd8_l2, wd8_l3, wd8_l4, wd8_l5, wd8_l6, wd8_l7, wd8_l8, tl_s, tl_n, inR_t, bd_t, true_and, and_true, true_or, or_true, if_true_x, if_false_x, if_pos, if_neg, Int.toNat_natCast, natL, bI_0, bI_1, bI_ft, eq_self, b_tf, b_ft, not_true_eq_false, not_false_eq_true, r35, t36, z36, cast_s, hc.t29, hc.r29_0, hc.r29_1, hc.r29_2, hc.r29_4, hc.r29_5, hc.r29_6, hc.r29_7, hc.r29_8, hc.t35, hc.z35]
    refine ih (s + 1) (up2 h.1 (36 + M) s 0, h.2) (by omega) (NZ.up (I := h.1) (F := h.2) z (by rw [z36]; omega)) (GT.u (I := h.1) (F := h.2) g M21) (fun k hk => ?_) hq
    dsimp only
    rw [up2_same]
    split
    · rfl
    · exact p k (by omega)
set_option maxHeartbeats 16000000 in
/-- one row, from its last site on -/
theorem s_48 (hp : PL X b) (b200 : 200 ≤ b) (hc : CT X ns nb ln) {h0 : xH} {v : Nat → Nat → Int} (ev : cv h0 b = v) (w : RGv v) {lr M a n c i : Nat} {T : Nat → Int} {x4 : Option xV} (c20 : c < 20) (i20 : i < 20) (an : a + n ≤ 32) (T0 : ∀ s, 0 ≤ T s ∧ T s ≤ fC) : ∀ (m j : Nat) (h : xH), j + m = n + 1 → NZ X h → GT h0 h → (∀ s, s ≤ n → h.1 (36 + (i + 1)) s = T s) → (∀ s, s ≤ n → n - s < j → h.1 (36 + i) s = dn (tbF v a n fC c T) fC n (n - s + 1)) → (∀ h2, NZ X h2 → GT h0 h2 → (∀ k, k ≠ 36 + i → h2.1 k = h.1 k) → (∀ s, s ≤ n → h2.1 (36 + i) s = dn (tbF v a n fC c T) fC n (n - s + 1)) → ∀ x10 x11, Ev X 48 81 [some (vr 29), some (vr (b + 11)), some (vr lr), some (vi M), x4, some (vi n), some (vi a), some (vi i), some (vi c), some (vi (v 12 c)), x10, x11] [] h2 Q) → Ev X 48 45 [some (vr 29), some (vr (b + 11)), some (vr lr), some (vi M), x4, some (vi n), some (vi a), some (vi i), some (vi c), some (vi (v 12 c)), some (vi (dn (tbF v a n fC c T) fC n j)), some (vi ((n : Int) - j))] [] h Q := by
  have r35 := CT.r35 hc (k := i) (by omega)
  have t36 := CT.tr36 hc (k := i) (by omega)
  have z36 := CT.zr36 hc (k := i) (by omega)
  have r35' := CT.r35 hc (k := i + 1) (by omega)
  have t36' := CT.tr36 hc (k := i + 1) (by omega)
  have z36' := CT.zr36 hc (k := i + 1) (by omega)
  have wc := w.wid c
  obtain ⟨wn, hwn⟩ : ∃ wn : Nat, v 12 c = wn := ⟨(v 12 c).toNat, by omega⟩
  intro m
  induction m with
  | zero =>
    intro j h hm z g pT pr hq
    rw [e_48_45]
    simp (disch := first | assumption | omega) only [e_48_46, onI_s, onR_s, onL_s, gl_0, gl_n, gl_1, gl_2, gl_3, gl_4, gl_5, gl_6, gl_7, gl_8, gl_9, gl_10, gl_11, gl_12, gl_13, gl_14, gl_15, gl_16, gl_17, sk0i, sk0r, sk0n, sk1i, sk1r, sk1n, sk_2, sk_3, sk_4, sk_5, sk_6, sk_7, sk_8, sk_9, sk_10, sk_11, sk_12, sk_13, sk_14, sk_15, sk_16, sk_17, ls_0, ls_1, ls_2, ls_3, ls_4, ls_5, ls_6, ls_7, ls_8, ls_9, ls_10, ls_11, ls_12, ls_13, ls_14, ls_15, ls_16, ls_17, ct1_i, ct1_r, wd8_0, wd8_i1, wd8_r1, wd8_i2, wd8_r2, wd8_i3, wd8_r3, wd8_i4, wd8_r4, wd8_i5, wd8_r5, wd8_i6, wd8_r6, wd8_i7, wd8_r7, wd8_i8, wd8_r8, wd8_l2, wd8_l3, wd8_l4, wd8_l5, wd8_l6, wd8_l7, wd8_l8, tl_s, tl_n, inR_t, bd_t, true_and, and_true, true_or, or_true, if_true_x, if_false_x, if_pos, if_neg, Int.toNat_natCast, natL, bI_0, bI_1, bI_ft, eq_self, b_tf, b_ft, not_true_eq_false, not_false_eq_true]
    exact hq h z g (fun _ _ => rfl) (fun s hs => pr s hs (by omega)) _ _
  | succ m ih =>
    intro j h hm z g pT pr hq
    obtain ⟨s, hs⟩ : ∃ s : Nat, (n : Int) - j = s := ⟨n - j, by omega⟩
    have cvh : cv h b = v := (g.cv b200).trans ev
    have wh : RGv (cv h b) := by rw [cvh]; exact w
    have cb := cAt_bd w (c := c) (s := a + s) (by omega)
    have as : (a : Int) + (s : Int) = ((a + s : Nat) : Int) := rfl
    have sw : (s : Int) + (wn : Int) = ((s + wn : Nat) : Int) := rfl
    have nx : (s : Int) + -1 = (n : Int) - ((j + 1 : Nat) : Int) := by omega
    have d0 : dn (tbF v a n fC c T) fC n (j + 1) = min (dn (tbF v a n fC c T) fC n j) (tbF v a n fC c T s) := by rw [dn, show n - j = s by omega]
    have dl := dn_le (f := tbF v a n fC c T) (F := fC) (n := n) j
    have dg := dn_ge (f := tbF v a n fC c T) (F := fC) (n := n) (B := 0) (by unfold fC; omega) (fun s => by
      have := T0 (s + (v 12 c).toNat)
      unfold tbF
      split
      · have := cAt_bd w (c := c) (s := a + s) (by omega)
        split
        · unfold fC; omega
        · omega
      · unfold fC; omega) j
    have fc : fC = 268435456 := rfl
    have fin : ∀ cost : Int, cost = dn (tbF v a n fC c T) fC n (j + 1) → Ev X 48 45 [some (vr 29), some (vr (b + 11)), some (vr lr), some (vi M), x4, some (vi n), some (vi a), some (vi i), some (vi c), some (vi (v 12 c)), some (vi cost), some (vi ((n : Int) - ((j + 1 : Nat) : Int)))] [] (up2 h.1 (36 + i) s cost, h.2) Q := by
      intro cost ec
      rw [ec]
      refine ih (j + 1) _ (by omega) (NZ.up (I := h.1) (F := h.2) z (by rw [z36]; omega)) (GT.u (I := h.1) (F := h.2) g (by omega)) (fun s2 hs2 => ?_) (fun s2 hs2 hj => ?_) (fun h2 z2 g2 o2 p2 => hq h2 z2 g2 (fun k hk => (o2 k hk).trans (up2_of hk)) p2)
      · dsimp only
        rw [up2_of (by omega)]
        exact pT s2 hs2
      · dsimp only
        rw [up2_same]
        by_cases e : s2 = s
        · rw [if_pos e, e, show n - s = j by omega]
        · rw [if_neg e]
          exact pr s2 hs2 (by omega)
    rw [hwn] at fin ⊢
    rw [e_48_45, hs]
    by_cases e : (s : Int) + (wn : Int) ≤ n
    · have tv := pT (s + wn) (by omega)
      have t0 := T0 (s + wn)
      have mn : min (dn (tbF v a n fC c T) fC n j) (cAt v c (a + s) + T (s + wn)) = dn (tbF v a n fC c T) fC n (j + 1) := by
        rw [d0, tbF, hwn, if_pos e, Int.toNat_natCast]
        split
        · omega
        · rfl
      rw [show fC = 268435456 from rfl] at t0 dl
      have ii : ((i : Int) + 1).toNat = i + 1 := by omega
      simp (disch := first | assumption | omega) only [e_48_46, e_48_47, e_48_48, e_48_49, e_48_50, e_48_51, e_48_52, e_48_53, e_48_54, e_48_55, e_48_56, e_48_57, e_48_58, e_48_59, e_48_60, e_48_61, e_48_62, e_48_63, e_48_64, e_48_65, e_48_66, e_48_67, e_48_68, e_48_69, e_48_70, e_48_71, e_48_72, e_48_73, e_48_74, e_48_75, e_48_76, e_48_77, e_48_78, e_48_79, e_48_80, onI_s, onR_s, onL_s, gl_0, gl_n, gl_1, gl_2, gl_3, gl_4, gl_5, gl_6, gl_7, gl_8, gl_9, gl_10, gl_11, gl_12, gl_13, gl_14, gl_15, gl_16, gl_17, sk0i, sk0r, sk0n, sk1i, sk1r, sk1n, sk_2, sk_3, sk_4, sk_5, sk_6, sk_7, sk_8, sk_9, sk_10, sk_11, sk_12, sk_13, sk_14, sk_15, sk_16, sk_17, ls_0, ls_1, ls_2, ls_3, ls_4, ls_5, ls_6, ls_7, ls_8, ls_9, ls_10, ls_11, ls_12, ls_13, ls_14, ls_15, ls_16, ls_17, ct1_i, ct1_r, wd8_0, wd8_i1, wd8_r1, wd8_i2, wd8_r2, wd8_i3, wd8_r3, wd8_i4, wd8_r4, wd8_i5, wd8_r5, wd8_i6, wd8_r6, wd8_i7, wd8_r7, wd8_i8, wd8_r8, wd8_l2, wd8_l3, wd8_l4, wd8_l5, wd8_l6, wd8_l7, wd8_l8, tl_s, tl_n, inR_t, bd_t, true_and, and_true, true_or, or_true, if_true_x, if_false_x, if_pos, if_neg, Int.toNat_natCast, natL, bI_0, bI_1, bI_ft, eq_self, b_tf, b_ft, not_true_eq_false, not_false_eq_true, e, m_49 hp wh c20, m_285, as, sw, cvh, ii, r35, t36, z36, r35', t36', z36', tv, mn, nx, hc.t29, hc.r29_0, hc.r29_1, hc.r29_2, hc.r29_4, hc.r29_5, hc.r29_6, hc.r29_7, hc.r29_8, hc.t35, hc.z35]
      exact fin _ rfl
    · have mn : dn (tbF v a n fC c T) fC n j = dn (tbF v a n fC c T) fC n (j + 1) := by
        rw [d0, tbF, hwn, if_neg e]
        omega
      simp (disch := first | assumption | omega) only [e_48_46, e_48_47, e_48_48, e_48_49, e_48_50, e_48_51, e_48_72, e_48_73, e_48_74, e_48_75, e_48_76, e_48_77, e_48_78, e_48_79, e_48_80, onI_s, onR_s, onL_s, gl_0, gl_n, gl_1, gl_2, gl_3, gl_4, gl_5, gl_6, gl_7, gl_8, gl_9, gl_10, gl_11, gl_12, gl_13, gl_14, gl_15, gl_16, gl_17, sk0i, sk0r, sk0n, sk1i, sk1r, sk1n, sk_2, sk_3, sk_4, sk_5, sk_6, sk_7, sk_8, sk_9, sk_10, sk_11, sk_12, sk_13, sk_14, sk_15, sk_16, sk_17, ls_0, ls_1, ls_2, ls_3, ls_4, ls_5, ls_6, ls_7, ls_8, ls_9, ls_10, ls_11, ls_12, ls_13, ls_14, ls_15, ls_16, ls_17, ct1_i, ct1_r, wd8_0, wd8_i1, wd8_r1, wd8_i2, wd8_r2, wd8_i3, wd8_r3, wd8_i4, wd8_r4, wd8_i5, wd8_r5, wd8_i6, wd8_r6, wd8_i7, wd8_r7, wd8_i8, wd8_r8, wd8_l2, wd8_l3, wd8_l4, wd8_l5, wd8_l6, wd8_l7, wd8_l8, tl_s, tl_n, inR_t, bd_t, true_and, and_true, true_or, or_true, if_true_x, if_false_x, if_pos, if_neg, Int.toNat_natCast, natL, bI_0, bI_1, bI_ft, eq_self, b_tf, b_ft, not_true_eq_false, not_false_eq_true, e, r35, t36, z36, nx, hc.t29, hc.r29_0, hc.r29_1, hc.r29_2, hc.r29_4, hc.r29_5, hc.r29_6, hc.r29_7, hc.r29_8, hc.t35, hc.z35]
      exact fin _ mn
set_option maxHeartbeats 16000000 in
theorem m_48 (hp : PL X b) (b200 : 200 ≤ b) (hc : CT X ns nb ln) {h0 : xH} {v : Nat → Nat → Int} (ev : cv h0 b = v) (w : RGv v) (z : NZ X h0) {lr lz : Nat} (ht : X.1 lr = 13) (hz : X.2.1 lr = lz) (hlr : lr < 36 ∨ 56 < lr) {L : List Nat} (hL : R1 (h0.1 lr) L) (L20 : L.length ≤ 20) (Lz : L.length ≤ lz) (cL : ∀ c, c ∈ L → c < 20) {run a n : Nat} (hi : run < ns) (ns256 : ns ≤ 256) (h11 : h0.1 11 run = a) (h12 : h0.1 12 run = n) (an : a + n ≤ 32) (hq : ∀ h2, NZ X h2 → GT h0 h2 → TR h2 v a n fC L 0 → Q (some (vi (tb v a n fC L 0))) h2) : Cl X 48 [vr 29, vr (b + 11), vr lr, vi L.length, vi run] h0 Q := by
  have lp : ∀ (k : Nat) (h : xH) (x8 x9 x10 x11 : Option xV), k ≤ L.length → NZ X h → GT h0 h → TR h v a n fC L k → Ev X 48 30 [some (vr 29), some (vr (b + 11)), some (vr lr), some (vi L.length), some (vi run), some (vi n), some (vi a), some (vi ((k : Int) - 1)), x8, x9, x10, x11] [] h Q := by
    intro k
    induction k with
    | zero =>
      intro h x8 x9 x10 x11 hk z g tr
      have r35 := CT.r35 hc (k := 0) (by omega)
      have t36 := CT.tr36 hc (k := 0) (by omega)
      have z36 := CT.zr36 hc (k := 0) (by omega)
      rw [Nat.add_zero] at r35 t36 z36
      have t0 := tr 0 (by omega) (by omega) 0 (by omega)
      rw [Nat.add_zero, List.drop_zero] at t0
      rw [e_48_30]
      simp (disch := first | assumption | omega) only [e_48_31, e_48_83, e_48_84, e_48_85, e_48_86, e_48_87, e_48_88, e_48_89, onI_s, onR_s, onL_s, gl_0, gl_n, gl_1, gl_2, gl_3, gl_4, gl_5, gl_6, gl_7, gl_8, gl_9, gl_10, gl_11, gl_12, gl_13, gl_14, gl_15, gl_16, gl_17, sk0i, sk0r, sk0n, sk1i, sk1r, sk1n, sk_2, sk_3, sk_4, sk_5, sk_6, sk_7, sk_8, sk_9, sk_10, sk_11, sk_12, sk_13, sk_14, sk_15, sk_16, sk_17, ls_0, ls_1, ls_2, ls_3, ls_4, ls_5, ls_6, ls_7, ls_8, ls_9, ls_10, ls_11, ls_12, ls_13, ls_14, ls_15, ls_16, ls_17, ct1_i, ct1_r, wd8_0, wd8_i1, wd8_r1, wd8_i2, wd8_r2, wd8_i3, wd8_r3, wd8_i4, wd8_r4, wd8_i5, wd8_r5, wd8_i6, wd8_r6, wd8_i7, wd8_r7, wd8_i8, wd8_r8, wd8_l2, wd8_l3, wd8_l4, wd8_l5, wd8_l6, wd8_l7, wd8_l8, tl_s, tl_n, inR_t, bd_t, true_and, and_true, true_or, or_true, if_true_x, if_false_x, if_pos, if_neg, Int.toNat_natCast, natL, bI_0, bI_1, bI_ft, eq_self, b_tf, b_ft, not_true_eq_false, not_false_eq_true, r35, t36, z36, tn_0, t0, hc.t29, hc.r29_0, hc.r29_1, hc.r29_2, hc.r29_4, hc.r29_5, hc.r29_6, hc.r29_7, hc.r29_8, hc.t35, hc.z35]
      exact hq h z g tr
    | succ i ih =>
      intro h x8 x9 x10 x11 hk z g tr
      obtain ⟨c, hc1⟩ : ∃ c, L[i]? = some c := ⟨L[i], by rw [List.getElem?_eq_getElem (by omega)]⟩
      have c20 := cL c (List.mem_of_getElem? hc1)
      have ec : h.1 lr i = c := by rw [g.1 lr hlr]; exact hL i c hc1
      have cvh : cv h b = v := (g.cv b200).trans ev
      have ew : h.1 (b + 12) c = v 12 c := by rw [← cvh]; rfl
      have e1 : ((i + 1 : Nat) : Int) - 1 = i := by omega
      have n0 : (n : Int) = (n : Int) - ((0 : Nat) : Int) := by omega
      rw [e1, e_48_30]
      simp (disch := first | assumption | omega) only [e_48_31, e_48_32, e_48_33, e_48_34, e_48_35, e_48_36, e_48_37, e_48_38, e_48_39, e_48_40, e_48_41, e_48_42, e_48_43, e_48_44, onI_s, onR_s, onL_s, gl_0, gl_n, gl_1, gl_2, gl_3, gl_4, gl_5, gl_6, gl_7, gl_8, gl_9, gl_10, gl_11, gl_12, gl_13, gl_14, gl_15, gl_16, gl_17, sk0i, sk0r, sk0n, sk1i, sk1r, sk1n, sk_2, sk_3, sk_4, sk_5, sk_6, sk_7, sk_8, sk_9, sk_10, sk_11, sk_12, sk_13, sk_14, sk_15, sk_16, sk_17, ls_0, ls_1, ls_2, ls_3, ls_4, ls_5, ls_6, ls_7, ls_8, ls_9, ls_10, ls_11, ls_12, ls_13, ls_14, ls_15, ls_16, ls_17, ct1_i, ct1_r, wd8_0, wd8_i1, wd8_r1, wd8_i2, wd8_r2, wd8_i3, wd8_r3, wd8_i4, wd8_r4, wd8_i5, wd8_r5, wd8_i6, wd8_r6, wd8_i7, wd8_r7, wd8_i8, wd8_r8, wd8_l2, wd8_l3, wd8_l4, wd8_l5, wd8_l6, wd8_l7, wd8_l8, tl_s, tl_n, inR_t, bd_t, true_and, and_true, true_or, or_true, if_true_x, if_false_x, if_pos, if_neg, Int.toNat_natCast, natL, bI_0, bI_1, bI_ft, eq_self, b_tf, b_ft, not_true_eq_false, not_false_eq_true, ht, hz, ec, ew, hp.t0, hp.t1, hp.t2, hp.t3, hp.t4, hp.t5, hp.t6, hp.t7, hp.t8, hp.t9, hp.t10, hp.t11, hp.t12, hp.t13, hp.t14, hp.t15, hp.t16, hp.t17, hp.t18, hp.t19, hp.t20, hp.t21, hp.t22, hp.t23, hp.z2, hp.z3, hp.z4, hp.z5, hp.z7, hp.z8, hp.z9, hp.z10, hp.z12, hp.z13, hp.z14, hp.z15, hp.z16, hp.z17, hp.z18, hp.z20, hp.z21, hp.z22, hp.z23, hp.r0_2, hp.r0_3, hp.r0_4, hp.r0_5, hp.r1_1, hp.r1_2, hp.r1_3, hp.r1_4, hp.r6_1, hp.r6_2, hp.r6_3, hp.r6_4, hp.r11_1, hp.r11_2, hp.r11_3, hp.r11_4, hp.r11_5, hp.r11_6, hp.r11_7, hp.r19_1, hp.r19_2, hp.r19_3, hp.r19_4]
      have q := s_48 (Q := Q) (lr := lr) (M := L.length) (x4 := some (vi run)) (T := tb v a n fC (L.drop (i + 1))) hp b200 hc ev w c20 (by omega : i < 20) an (fun s => ⟨tb_ge w an (by unfold fC; omega) _ _, tb_le _ _ (by unfold fC; omega)⟩) (n + 1) 0 h (by omega) z g (fun s hs => tr (i + 1) (by omega) (by omega) s hs) (fun s hs hj => by omega) (fun h2 z2 g2 o2 p2 x10 x11 => by
        rw [e_48_81]
        simp (disch := first | assumption | omega) only [e_48_82, onI_s, onR_s, onL_s, gl_0, gl_n, gl_1, gl_2, gl_3, gl_4, gl_5, gl_6, gl_7, gl_8, gl_9, gl_10, gl_11, gl_12, gl_13, gl_14, gl_15, gl_16, gl_17, sk0i, sk0r, sk0n, sk1i, sk1r, sk1n, sk_2, sk_3, sk_4, sk_5, sk_6, sk_7, sk_8, sk_9, sk_10, sk_11, sk_12, sk_13, sk_14, sk_15, sk_16, sk_17, ls_0, ls_1, ls_2, ls_3, ls_4, ls_5, ls_6, ls_7, ls_8, ls_9, ls_10, ls_11, ls_12, ls_13, ls_14, ls_15, ls_16, ls_17, ct1_i, ct1_r, wd8_0, wd8_i1, wd8_r1, wd8_i2, wd8_r2, wd8_i3, wd8_r3, wd8_i4, wd8_r4, wd8_i5, wd8_r5, wd8_i6, wd8_r6, wd8_i7, wd8_r7, wd8_i8, wd8_r8, wd8_l2, wd8_l3, wd8_l4, wd8_l5, wd8_l6, wd8_l7, wd8_l8, tl_s, tl_n, inR_t, bd_t, true_and, and_true, true_or, or_true, if_true_x, if_false_x, if_pos, if_neg, Int.toNat_natCast, natL, bI_0, bI_1, bI_ft, eq_self, b_tf, b_ft, not_true_eq_false, not_false_eq_true, show (i : Int) + -1 = (i : Int) - 1 by omega]
        refine ih h2 _ _ _ _ (by omega) z2 g2 (fun j h1 h2 s hs => ?_)
        by_cases e : j = i
        · rw [e, p2 s hs]
          have : L.drop i = c :: L.drop (i + 1) := by
            rw [List.drop_eq_getElem_cons (by omega)]
            rw [List.getElem?_eq_getElem (by omega)] at hc1
            rw [Option.some.inj hc1]
          rw [this, tb]
        · rw [o2 (36 + j) (by omega)]
          exact tr j (by omega) h2 s hs)
      rw [← n0] at q
      exact q
  have L21 : L.length < 21 := by omega
  have M1 : (L.length : Int) - 1 = (L.length : Int) - 1 := rfl
  rw [c_48]
  simp (disch := first | assumption | omega) only [e_48_0, e_48_1, e_48_2, e_48_3, e_48_4, e_48_5, e_48_6, e_48_7, e_48_8, e_48_9, e_48_10, e_48_11, e_48_12, e_48_13, onI_s, onR_s, onL_s, gl_0, gl_n, gl_1, gl_2, gl_3, gl_4, gl_5, gl_6, gl_7, gl_8, gl_9, gl_10, gl_11, gl_12, gl_13, gl_14, gl_15, gl_16, gl_17, sk0i, sk0r, sk0n, sk1i, sk1r, sk1n, sk_2, sk_3, sk_4, sk_5, sk_6, sk_7, sk_8, sk_9, sk_10, sk_11, sk_12, sk_13, sk_14, sk_15, sk_16, sk_17, ls_0, ls_1, ls_2, ls_3, ls_4, ls_5, ls_6, ls_7, ls_8, ls_9, ls_10, ls_11, ls_12, ls_13, ls_14, ls_15, ls_16, ls_17, ct1_i, ct1_r, wd8_0, wd8_i1, wd8_r1, wd8_i2, wd8_r2, wd8_i3, wd8_r3, wd8_i4, wd8_r4, wd8_i5, wd8_r5, wd8_i6, wd8_r6, wd8_i7, wd8_r7, wd8_i8, wd8_r8, wd8_l2, wd8_l3, wd8_l4, wd8_l5, wd8_l6, wd8_l7, wd8_l8, tl_s, tl_n, inR_t, bd_t, true_and, and_true, true_or, or_true, if_true_x, if_false_x, if_pos, if_neg, Int.toNat_natCast, natL, bI_0, bI_1, bI_ft, eq_self, b_tf, b_ft, not_true_eq_false, not_false_eq_true, h11, h12, hc.t7, hc.r7_2, hc.r7_4, hc.r7_5, hc.r7_6, hc.r7_7, hc.r7_8, hc.t11, hc.z11, hc.t12, hc.z12, hc.t29, hc.r29_0, hc.r29_1, hc.r29_2, hc.r29_4, hc.r29_5, hc.r29_6, hc.r29_7, hc.r29_8]
  have q := z_48 (Q := Q) hc (h0 := h0) (lr := lr) (x1 := some (vr (b + 11))) (x4 := some (vi run)) (x6 := a) (x8 := none) (x9 := none) (x10 := none) (x11 := none) L21 (by omega : n ≤ 32) (n + 1) 0 h0 (by omega) z GT.refl (fun k hk => by omega) (fun h2 x7 z2 g2 p2 => by
    rw [e_48_26]
    simp (disch := first | assumption | omega) only [e_48_27, e_48_28, e_48_29, onI_s, onR_s, onL_s, gl_0, gl_n, gl_1, gl_2, gl_3, gl_4, gl_5, gl_6, gl_7, gl_8, gl_9, gl_10, gl_11, gl_12, gl_13, gl_14, gl_15, gl_16, gl_17, sk0i, sk0r, sk0n, sk1i, sk1r, sk1n, sk_2, sk_3, sk_4, sk_5, sk_6, sk_7, sk_8, sk_9, sk_10, sk_11, sk_12, sk_13, sk_14, sk_15, sk_16, sk_17, ls_0, ls_1, ls_2, ls_3, ls_4, ls_5, ls_6, ls_7, ls_8, ls_9, ls_10, ls_11, ls_12, ls_13, ls_14, ls_15, ls_16, ls_17, ct1_i, ct1_r, wd8_0, wd8_i1, wd8_r1, wd8_i2, wd8_r2, wd8_i3, wd8_r3, wd8_i4, wd8_r4, wd8_i5, wd8_r5, wd8_i6, wd8_r6, wd8_i7, wd8_r7, wd8_i8, wd8_r8, wd8_l2, wd8_l3, wd8_l4, wd8_l5, wd8_l6, wd8_l7, wd8_l8, tl_s, tl_n, inR_t, bd_t, true_and, and_true, true_or, or_true, if_true_x, if_false_x, if_pos, if_neg, Int.toNat_natCast, natL, bI_0, bI_1, bI_ft, eq_self, b_tf, b_ft, not_true_eq_false, not_false_eq_true]
    refine lp L.length h2 _ _ _ _ (by omega) z2 g2 (fun j h1 h2 s hs => ?_)
    rw [show j = L.length by omega, p2 s hs, List.drop_length, tb])
  exact q
end LSC
