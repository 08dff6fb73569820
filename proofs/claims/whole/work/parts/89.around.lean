/-! looked around a cell: the boxes of the other pins of its nets -/
def ixL (v : Nat → Nat → Int) (c n : Nat) : Nat := (cntB (nwB v c) n 0).toNat
def BDr (h : xH) (i : Nat) : Prop := (0 ≤ h.1 16 i ∧ h.1 16 i ≤ 31) ∧ (0 ≤ h.1 17 i ∧ h.1 17 i ≤ 9) ∧ bxG (h.1 18 i, h.1 19 i, h.1 20 i, h.1 21 i)
def LA (h : xH) (v : Nat → Nat → Int) (c n : Nat) : Prop := h.2 14 6 = ixL v c n ∧ (∀ i : Nat, (i : Int) < h.2 14 6 → BDr h i) ∧ ∀ k, k < n → pnO v k c ≠ -1 → h.1 16 (ixL v c k) = v 23 (k * 6 + (pnO v k c).toNat) ∧ h.1 17 (ixL v c k) = v 20 k ∧ (h.1 18 (ixL v c k), h.1 19 (ixL v c k), h.1 20 (ixL v c k), h.1 21 (ixL v c k)) = bxs v k (pnO v k c).toNat
def F93 (h h2 : xH) : Prop := (∀ a, ¬ (16 ≤ a ∧ a ≤ 21) → h2.1 a = h.1 a) ∧ (∀ a, a ≠ 14 → h2.2 a = h.2 a)
def raw (h : xH) (x y : Int) (i : Nat) : Int := h.1 17 i * (max (h.1 19 i) (x + 16 * h.1 16 i + 8) - min (h.1 18 i) (x + 16 * h.1 16 i + 8) + h.1 1 4 * (max (h.1 21 i) (y + 8) - min (h.1 20 i) (y + 8)))
section LAR
variable {X : xL} {Q : Option xV → xH → Prop} {ns nb ln : Nat} {h h2 h3 : xH} {v : Nat → Nat → Int} {c n : Nat}
theorem F93.refl : F93 h h := ⟨fun _ _ => rfl, fun _ _ => rfl⟩
theorem F93.tr (a : F93 h h2) (b : F93 h2 h3) : F93 h h3 := ⟨fun k q => (b.1 k q).trans (a.1 k q), fun k q => (b.2 k q).trans (a.2 k q)⟩
theorem F93.cv (f : F93 h h2) : cv h2 200 = cv h 200 := cv_congr (fun a q1 q2 => ⟨f.1 a (by omega), f.2 a (by omega)⟩)
theorem F93.fz (f : F93 h h2) (z : NZ X h2) : Fz X h h2 := by
  refine ⟨z, fun a q => ⟨f.1 a (by omega), f.2 a (by omega)⟩, ?_, fun q hq => ⟨fun i => ?_, fun j hj i hi => ?_⟩⟩
  · rw [f.2 7 (by omega), f.2 22 (by omega)]; exact ⟨rfl, rfl, rfl, rfl⟩
  · rw [f.2 _ (by omega)]
  · rw [f.2 _ (by omega)]
theorem cntB_sn {p : Nat → Bool} : ∀ (m i : Nat), cntB p (m + 1) i = cntB p m i + (if p (i + m) = true then 1 else 0)
  | 0, i => by rw [cntB, cntB, cntB]; simp
  | m + 1, i => by
    rw [cntB, cntB_sn m (i + 1), cntB, show i + 1 + m = i + (m + 1) by omega]
    omega
theorem ix_y (e : pnO v n c ≠ -1) : ixL v c (n + 1) = ixL v c n + 1 := by
  unfold ixL
  have := (cntB_bd (p := nwB v c) n 0).1
  rw [cntB_sn, if_pos (by unfold nwB; simp [e])]
  omega
theorem ix_n (e : pnO v n c = -1) : ixL v c (n + 1) = ixL v c n := by
  unfold ixL
  rw [cntB_sn, if_neg (by unfold nwB; simp [e]), Int.add_zero]
theorem ix_m {k : Nat} : ∀ (d : Nat), ixL v c k ≤ ixL v c (k + d)
  | 0 => Nat.le_refl _
  | d + 1 => by
    have := ix_m (k := k) d
    rw [show k + (d + 1) = k + d + 1 by omega]
    by_cases e : pnO v (k + d) c = -1
    · rw [ix_n e]; exact this
    · rw [ix_y e]; omega
theorem ix_bd : ixL v c n ≤ n := by
  unfold ixL
  have := (cntB_bd (p := nwB v c) n 0).2
  omega
theorem watE {t x y : Int} (la : LA h v c n) (ht : h.1 1 4 = t) : ∀ m, m ≤ n → sumF (raw h x y) (ixL v c m) 0 = sumF (waT v t c x y) m 0 := by
  intro m
  induction m with
  | zero => intro _; rfl
  | succ m ih =>
    intro hm
    have i1 := ih (by omega)
    rw [sumF_sn m 0, Nat.zero_add, ← i1]
    by_cases e : pnO v m c = -1
    · rw [ix_n e]
      unfold waT
      rw [if_pos e, Int.add_zero]
    · rw [ix_y e, sumF_sn _ 0, Nat.zero_add]
      obtain ⟨l1, l2, l3⟩ := la.2.2 m (by omega) e
      have q1 : h.1 18 (ixL v c m) = (bxs v m (pnO v m c).toNat).1 := congrArg (fun q => q.1) l3
      have q2 : h.1 19 (ixL v c m) = (bxs v m (pnO v m c).toNat).2.1 := congrArg (fun q => q.2.1) l3
      have q3 : h.1 20 (ixL v c m) = (bxs v m (pnO v m c).toNat).2.2.1 := congrArg (fun q => q.2.2.1) l3
      have q4 : h.1 21 (ixL v c m) = (bxs v m (pnO v m c).toNat).2.2.2 := congrArg (fun q => q.2.2.2) l3
      unfold waT raw spA
      rw [if_neg e, l1, l2, q1, q2, q3, q4, ht]
theorem LA.cg (la : LA h v c n) (e1 : ∀ a, 16 ≤ a → a ≤ 21 → h2.1 a = h.1 a) (e2 : h2.2 14 6 = h.2 14 6) : LA h2 v c n := by
  unfold LA BDr
  rw [e1 16 (by omega) (by omega), e1 17 (by omega) (by omega), e1 18 (by omega) (by omega), e1 19 (by omega) (by omega), e1 20 (by omega) (by omega), e1 21 (by omega) (by omega), e2]
  exact la
set_option maxHeartbeats 4000000 in
theorem l_94 (hc : CT X ns nb ln) {x y : Int} {N : Nat} (hN : h.2 14 6 = N) (h16 : N ≤ 16) (bd : ∀ i : Nat, (i : Int) < h.2 14 6 → BDr h i) (t0 : 0 ≤ h.1 1 4) (t1 : h.1 1 4 ≤ 8) (x0 : -16 ≤ x) (x1 : x ≤ 512) (y0 : -16 ≤ y) (y1 : y ≤ 128) : ∀ (m i : Nat) (a : Int) (x5 x6 x7 x8 : Option xV), i + m = N → 0 ≤ a → a ≤ i * 19584 → (Ev X 94 4 [some (vr 14), some (vi x), some (vi y), some (vi a), some (vi i), x5, x6, x7, x8] [] h Q ↔ Q (some (vi (a + sumF (raw h x y) m i))) h) := by
  intro m
  induction m with
  | zero =>
    intro i a x5 x6 x7 x8 hm a0 a1
    rw [e_94_4]
    simp (disch := first | assumption | omega) only [e_94_5, e_94_6, e_94_7, e_94_69, e_94_70, onI_s, onR_s, onL_s, gl_0, gl_n, gl_1, gl_2, gl_3, gl_4, gl_5, gl_6, gl_7, gl_8, gl_9, gl_10, gl_11, gl_12, gl_13, gl_14, gl_15, gl_16, gl_17, sk0i, sk0r, sk0n, sk1i, sk1r, sk1n, sk_2, sk_3, sk_4, sk_5, sk_6, sk_7, sk_8, sk_9, sk_10, sk_11, sk_12, sk_13, sk_14, sk_15, sk_16, sk_17, ls_0, ls_1, ls_2, ls_3, ls_4, ls_5, ls_6, ls_7, ls_8, ls_9, ls_10, ls_11, ls_12, ls_13, ls_14, ls_15, ls_16, ls_17, ct1_i, ct1_r, wd8_0, wd8_i1, wd8_r1, wd8_i2, wd8_r2, wd8_i3, wd8_r3, wd8_i4, wd8_r4, wd8_i5, wd8_r5, wd8_i6, wd8_r6, wd8_i7, wd8_r7, wd8_i8, wd8_r8, wd8_l2, wd8_l3, wd8_l4, wd8_l5, wd8_l6, wd8_l7, wd8_l8, tl_s, tl_n, inR_t, bd_t, true_and, and_true, true_or, or_true, if_true_x, if_false_x, if_pos, if_neg, Int.toNat_natCast, natL, bI_0, bI_1, bI_ft, eq_self, b_tf, b_ft, not_true_eq_false, not_false_eq_true, hN, hc.t14, hc.r14_0, hc.r14_5, hc.r14_7, hc.r14_8, hc.r14_9, hc.r14_10, hc.r14_11, hc.r14_12]
    rw [sumF, Int.add_zero]
  | succ m ih =>
    intro i a x5 x6 x7 x8 hm a0 a1
    obtain ⟨b1, b2, b3, b4, b5, b6, b7, b8⟩ := bd i (by rw [hN]; omega)
    dsimp only at b3 b4 b5 b6 b7 b8
    have mt := mul_bd (a := h.1 1 4) (b := max (h.1 21 i) (y + 8) - min (h.1 20 i) (y + 8)) (A := 8) (B := 144) t0 t1 (by omega) (by omega)
    have mw := mul_bd (a := h.1 17 i) (b := max (h.1 19 i) (x + 16 * h.1 16 i + 8) - min (h.1 18 i) (x + 16 * h.1 16 i + 8) + h.1 1 4 * (max (h.1 21 i) (y + 8) - min (h.1 20 i) (y + 8))) (A := 9) (B := 2176) b2.1 b2.2 (by omega) (by omega)
    have ea : a + raw h x y i ≤ (i + 1 : Nat) * 19584 := by
      rw [Int.natCast_add, Int.add_mul]
      unfold raw
      omega
    rw [e_94_4]
    simp (disch := first | assumption | omega) only [e_94_5, e_94_6, e_94_7, e_94_8, e_94_9, e_94_10, e_94_11, e_94_12, e_94_13, e_94_14, e_94_15, e_94_16, e_94_17, e_94_18, e_94_19, e_94_20, e_94_21, e_94_22, e_94_23, e_94_24, e_94_25, e_94_26, e_94_27, e_94_28, e_94_29, e_94_30, e_94_31, e_94_32, e_94_33, e_94_34, e_94_35, e_94_36, e_94_37, e_94_38, e_94_39, e_94_40, e_94_41, e_94_42, e_94_43, e_94_44, e_94_45, e_94_46, e_94_47, e_94_48, e_94_49, e_94_50, e_94_51, e_94_52, e_94_53, e_94_54, e_94_55, e_94_56, e_94_57, e_94_58, e_94_59, e_94_60, e_94_61, e_94_62, e_94_63, e_94_64, e_94_65, e_94_66, e_94_67, e_94_68, onI_s, onR_s, onL_s, gl_0, gl_n, gl_1, gl_2, gl_3, gl_4, gl_5, gl_6, gl_7, gl_8, gl_9, gl_10, gl_11, gl_12, gl_13, gl_14, gl_15, gl_16, gl_17, sk0i, sk0r, sk0n, sk1i, sk1r, sk1n, sk_2, sk_3, sk_4, sk_5, sk_6, sk_7, sk_8, sk_9, sk_10, sk_11, sk_12, sk_13, sk_14, sk_15, sk_16, sk_17, ls_0, ls_1, ls_2, ls_3, ls_4, ls_5, ls_6, ls_7, ls_8, ls_9, ls_10, ls_11, ls_12, ls_13, ls_14, ls_15, ls_16, ls_17, ct1_i, ct1_r, wd8_0, wd8_i1, wd8_r1, wd8_i2, wd8_r2, wd8_i3, wd8_r3, wd8_i4, wd8_r4, wd8_i5, wd8_r5, wd8_i6, wd8_r6, wd8_i7, wd8_r7, wd8_i8, wd8_r8, wd8_l2, wd8_l3, wd8_l4, wd8_l5, wd8_l6, wd8_l7, wd8_l8, tl_s, tl_n, inR_t, bd_t, true_and, and_true, true_or, or_true, if_true_x, if_false_x, if_pos, if_neg, Int.toNat_natCast, natL, bI_0, bI_1, bI_ft, eq_self, b_tf, b_ft, not_true_eq_false, not_false_eq_true, hN, m_284, m_285, tn_4, cast_s, hc.t1, hc.z1, hc.t14, hc.r14_0, hc.r14_5, hc.r14_7, hc.r14_8, hc.r14_9, hc.r14_10, hc.r14_11, hc.r14_12, hc.t16, hc.z16, hc.t17, hc.z17, hc.t18, hc.z18, hc.t19, hc.z19, hc.t20, hc.z20, hc.t21, hc.z21]
    rw [show h.1 17 i * (max (h.1 19 i) (x + 16 * h.1 16 i + 8) - min (h.1 18 i) (x + 16 * h.1 16 i + 8) + h.1 1 4 * (max (h.1 21 i) (y + 8) - min (h.1 20 i) (y + 8))) = raw h x y i from rfl]
    have er : 0 ≤ raw h x y i := mw.1
    rw [ih (i + 1) _ _ _ _ _ (by omega) (by omega) ea, sumF, Int.add_assoc]
theorem m_94 (hc : CT X ns nb ln) {x y : Int} (la : LA h v c n) (hn : n ≤ 16) (t0 : 0 ≤ h.1 1 4) (t1 : h.1 1 4 ≤ 8) (x0 : -16 ≤ x) (x1 : x ≤ 512) (y0 : -16 ≤ y) (y1 : y ≤ 128) : Cl X 94 [vr 14, vi x, vi y] h Q ↔ Q (some (vi (sumF (waT v (h.1 1 4) c x y) n 0))) h := by
  have ib := ix_bd (v := v) (c := c) (n := n)
  rw [c_94]
  simp (disch := first | assumption | omega) only [e_94_0, e_94_1, e_94_2, e_94_3, onI_s, onR_s, onL_s, gl_0, gl_n, gl_1, gl_2, gl_3, gl_4, gl_5, gl_6, gl_7, gl_8, gl_9, gl_10, gl_11, gl_12, gl_13, gl_14, gl_15, gl_16, gl_17, sk0i, sk0r, sk0n, sk1i, sk1r, sk1n, sk_2, sk_3, sk_4, sk_5, sk_6, sk_7, sk_8, sk_9, sk_10, sk_11, sk_12, sk_13, sk_14, sk_15, sk_16, sk_17, ls_0, ls_1, ls_2, ls_3, ls_4, ls_5, ls_6, ls_7, ls_8, ls_9, ls_10, ls_11, ls_12, ls_13, ls_14, ls_15, ls_16, ls_17, ct1_i, ct1_r, wd8_0, wd8_i1, wd8_r1, wd8_i2, wd8_r2, wd8_i3, wd8_r3, wd8_i4, wd8_r4, wd8_i5, wd8_r5, wd8_i6, wd8_r6, wd8_i7, wd8_r7, wd8_i8, wd8_r8, wd8_l2, wd8_l3, wd8_l4, wd8_l5, wd8_l6, wd8_l7, wd8_l8, tl_s, tl_n, inR_t, bd_t, true_and, and_true, true_or, or_true, if_true_x, if_false_x, if_pos, if_neg, Int.toNat_natCast, natL, bI_0, bI_1, bI_ft, eq_self, b_tf, b_ft, not_true_eq_false, not_false_eq_true]
  have := l_94 (Q := Q) hc (x := x) (y := y) (N := ixL v c n) la.1 (by omega) la.2.1 t0 t1 x0 x1 y0 y1 (ixL v c n) 0 0 none none none none (by omega) (by omega) (by omega)
  refine this.trans ?_
  rw [Int.zero_add, watE la rfl n (Nat.le_refl n)]
theorem la_y {I F : Nat → Nat → Int} {l r lo hi : Int} (hw : RGv v) (h2v : N2v v) (hn : (n : Int) < v 19 0) (la : LA (I, F) v c n) {p : Nat} (e : pnO v n c = p) (hb : bxs v n p = (l, r, lo, hi)) {G : Nat → Nat → Int} (hG : G 14 6 = (ixL v c n : Int) + 1) : LA (up2 (up2 (up2 (up2 (up2 (up2 I 16 (ixL v c n) (v 23 (n * 6 + p))) 17 (ixL v c n) (v 20 n)) 18 (ixL v c n) l) 19 (ixL v c n) r) 20 (ixL v c n) lo) 21 (ixL v c n) hi, G) v c (n + 1) := by
  have en : pnO v n c ≠ -1 := by omega
  have e16 : ∀ i, (up2 (up2 (up2 (up2 (up2 (up2 I 16 (ixL v c n) (v 23 (n * 6 + p))) 17 (ixL v c n) (v 20 n)) 18 (ixL v c n) l) 19 (ixL v c n) r) 20 (ixL v c n) lo) 21 (ixL v c n) hi) 16 i = if i = ixL v c n then v 23 (n * 6 + p) else I 16 i := fun i => by simp [up2_eq]
  have e17 : ∀ i, (up2 (up2 (up2 (up2 (up2 (up2 I 16 (ixL v c n) (v 23 (n * 6 + p))) 17 (ixL v c n) (v 20 n)) 18 (ixL v c n) l) 19 (ixL v c n) r) 20 (ixL v c n) lo) 21 (ixL v c n) hi) 17 i = if i = ixL v c n then v 20 n else I 17 i := fun i => by simp [up2_eq]
  have e18 : ∀ i, (up2 (up2 (up2 (up2 (up2 (up2 I 16 (ixL v c n) (v 23 (n * 6 + p))) 17 (ixL v c n) (v 20 n)) 18 (ixL v c n) l) 19 (ixL v c n) r) 20 (ixL v c n) lo) 21 (ixL v c n) hi) 18 i = if i = ixL v c n then l else I 18 i := fun i => by simp [up2_eq]
  have e19 : ∀ i, (up2 (up2 (up2 (up2 (up2 (up2 I 16 (ixL v c n) (v 23 (n * 6 + p))) 17 (ixL v c n) (v 20 n)) 18 (ixL v c n) l) 19 (ixL v c n) r) 20 (ixL v c n) lo) 21 (ixL v c n) hi) 19 i = if i = ixL v c n then r else I 19 i := fun i => by simp [up2_eq]
  have e20 : ∀ i, (up2 (up2 (up2 (up2 (up2 (up2 I 16 (ixL v c n) (v 23 (n * 6 + p))) 17 (ixL v c n) (v 20 n)) 18 (ixL v c n) l) 19 (ixL v c n) r) 20 (ixL v c n) lo) 21 (ixL v c n) hi) 20 i = if i = ixL v c n then lo else I 20 i := fun i => by simp [up2_eq]
  have e21 : ∀ i, (up2 (up2 (up2 (up2 (up2 (up2 I 16 (ixL v c n) (v 23 (n * 6 + p))) 17 (ixL v c n) (v 20 n)) 18 (ixL v c n) l) 19 (ixL v c n) r) 20 (ixL v c n) lo) 21 (ixL v c n) hi) 21 i = if i = ixL v c n then hi else I 21 i := fun i => by simp [up2_eq]
  have bg := bxs_good (p := p) hw h2v hn
  rw [hb] at bg
  have t1 := hw.tai (n * 6 + p)
  have t2 := hw.wgt n
  obtain ⟨l1, l2, l3⟩ := la
  refine ⟨?_, fun i hi => ?_, fun k hk ek => ?_⟩
  · rw [ix_y en]
    dsimp only
    rw [hG]
    omega
  · unfold BDr
    dsimp only at hi ⊢
    rw [hG] at hi
    rw [e16, e17, e18, e19, e20, e21]
    by_cases q : i = ixL v c n
    · simp only [q, if_true_x]
      exact ⟨t1, t2, bg⟩
    · simp only [q, if_false_x]
      exact l2 i (by dsimp only at l1 ⊢; omega)
  · dsimp only
    rw [e16, e17, e18, e19, e20, e21]
    by_cases q : k = n
    · subst q
      rw [e]
      simp only [if_true_x, Int.toNat_natCast]
      exact ⟨trivial, trivial, hb.symm⟩
    · have m1 := ix_m (v := v) (c := c) (k := k + 1) (n - (k + 1))
      rw [show k + 1 + (n - (k + 1)) = n by omega, ix_y ek] at m1
      have q2 : ¬ ixL v c k = ixL v c n := by omega
      simp only [q2, if_false_x]
      exact l3 k (by omega) ek
set_option maxHeartbeats 8000000 in
theorem l_93 (hp : PL X 200) (hc : CT X ns nb ln) {N : Nat} (g : WG v) (hN : v 19 0 = N) : ∀ (m n : Nat) (h : xH) (x5 : Option xV), LA h v c n → NZ X h → cv h 200 = v → n + m = N → (∀ h2, NZ X h2 → F93 h h2 → LA h2 v c N → Q none h2) → Ev X 93 8 [some (vr 14), some (vr 200), some (vi c), some (vr (200 + 19)), some (vi n), x5] [] h Q := by
  have nN := g.1.nN
  intro m
  induction m with
  | zero =>
    intro n h x5 la z ev hm hq
    have hs : h.2 (200 + 19) 0 = N := by rw [← hN, ← ev]; rfl
    rw [e_93_8]
    simp (disch := first | assumption | omega) only [e_93_9, e_93_10, e_93_11, e_93_83, onI_s, onR_s, onL_s, gl_0, gl_n, gl_1, gl_2, gl_3, gl_4, gl_5, gl_6, gl_7, gl_8, gl_9, gl_10, gl_11, gl_12, gl_13, gl_14, gl_15, gl_16, gl_17, sk0i, sk0r, sk0n, sk1i, sk1r, sk1n, sk_2, sk_3, sk_4, sk_5, sk_6, sk_7, sk_8, sk_9, sk_10, sk_11, sk_12, sk_13, sk_14, sk_15, sk_16, sk_17, ls_0, ls_1, ls_2, ls_3, ls_4, ls_5, ls_6, ls_7, ls_8, ls_9, ls_10, ls_11, ls_12, ls_13, ls_14, ls_15, ls_16, ls_17, ct1_i, ct1_r, wd8_0, wd8_i1, wd8_r1, wd8_i2, wd8_r2, wd8_i3, wd8_r3, wd8_i4, wd8_r4, wd8_i5, wd8_r5, wd8_i6, wd8_r6, wd8_i7, wd8_r7, wd8_i8, wd8_r8, wd8_l2, wd8_l3, wd8_l4, wd8_l5, wd8_l6, wd8_l7, wd8_l8, tl_s, tl_n, inR_t, bd_t, true_and, and_true, true_or, or_true, if_true_x, if_false_x, if_pos, if_neg, Int.toNat_natCast, natL, bI_0, bI_1, bI_ft, eq_self, b_tf, b_ft, not_true_eq_false, not_false_eq_true, hs, hp.t0, hp.t1, hp.t2, hp.t3, hp.t4, hp.t5, hp.t6, hp.t7, hp.t8, hp.t9, hp.t10, hp.t11, hp.t12, hp.t13, hp.t14, hp.t15, hp.t16, hp.t17, hp.t18, hp.t19, hp.t20, hp.t21, hp.t22, hp.t23, hp.z2, hp.z3, hp.z4, hp.z5, hp.z7, hp.z8, hp.z9, hp.z10, hp.z12, hp.z13, hp.z14, hp.z15, hp.z16, hp.z17, hp.z18, hp.z20, hp.z21, hp.z22, hp.z23, hp.r0_2, hp.r0_3, hp.r0_4, hp.r0_5, hp.r1_1, hp.r1_2, hp.r1_3, hp.r1_4, hp.r6_1, hp.r6_2, hp.r6_3, hp.r6_4, hp.r11_1, hp.r11_2, hp.r11_3, hp.r11_4, hp.r11_5, hp.r11_6, hp.r11_7, hp.r19_1, hp.r19_2, hp.r19_3, hp.r19_4]
    rw [show n = N by omega] at la
    exact hq h z F93.refl la
  | succ m ih =>
    intro n h x5 la z ev hm hq
    obtain ⟨I, F⟩ := h
    have hs : F (200 + 19) 0 = N := by
      have : cv (I, F) 200 19 0 = N := by rw [ev]; exact hN
      exact this
    have hw : RGv (cv (I, F) 200) := by rw [ev]; exact g.1
    have hnw : NWv (cv (I, F) 200) := by rw [ev]; exact g.2.1
    have hn : (n : Int) < v 19 0 := by omega
    have n16 : n < 16 := by omega
    have ib := ix_bd (v := v) (c := c) (n := n)
    rw [e_93_8]
    rcases pnO_rg (v := v) (c := c) n with e | ⟨p, hp6, e, hh⟩
    · simp (disch := first | assumption | omega) only [e_93_9, e_93_10, e_93_11, e_93_12, e_93_13, e_93_14, e_93_15, e_93_16, e_93_17, e_93_18, e_93_19, e_93_81, e_93_82, onI_s, onR_s, onL_s, gl_0, gl_n, gl_1, gl_2, gl_3, gl_4, gl_5, gl_6, gl_7, gl_8, gl_9, gl_10, gl_11, gl_12, gl_13, gl_14, gl_15, gl_16, gl_17, sk0i, sk0r, sk0n, sk1i, sk1r, sk1n, sk_2, sk_3, sk_4, sk_5, sk_6, sk_7, sk_8, sk_9, sk_10, sk_11, sk_12, sk_13, sk_14, sk_15, sk_16, sk_17, ls_0, ls_1, ls_2, ls_3, ls_4, ls_5, ls_6, ls_7, ls_8, ls_9, ls_10, ls_11, ls_12, ls_13, ls_14, ls_15, ls_16, ls_17, ct1_i, ct1_r, wd8_0, wd8_i1, wd8_r1, wd8_i2, wd8_r2, wd8_i3, wd8_r3, wd8_i4, wd8_r4, wd8_i5, wd8_r5, wd8_i6, wd8_r6, wd8_i7, wd8_r7, wd8_i8, wd8_r8, wd8_l2, wd8_l3, wd8_l4, wd8_l5, wd8_l6, wd8_l7, wd8_l8, tl_s, tl_n, inR_t, bd_t, true_and, and_true, true_or, or_true, if_true_x, if_false_x, if_pos, if_neg, Int.toNat_natCast, natL, bI_0, bI_1, bI_ft, eq_self, b_tf, b_ft, not_true_eq_false, not_false_eq_true, m_45 hp hw, ev, e, hs, cast_s, hp.t0, hp.t1, hp.t2, hp.t3, hp.t4, hp.t5, hp.t6, hp.t7, hp.t8, hp.t9, hp.t10, hp.t11, hp.t12, hp.t13, hp.t14, hp.t15, hp.t16, hp.t17, hp.t18, hp.t19, hp.t20, hp.t21, hp.t22, hp.t23, hp.z2, hp.z3, hp.z4, hp.z5, hp.z7, hp.z8, hp.z9, hp.z10, hp.z12, hp.z13, hp.z14, hp.z15, hp.z16, hp.z17, hp.z18, hp.z20, hp.z21, hp.z22, hp.z23, hp.r0_2, hp.r0_3, hp.r0_4, hp.r0_5, hp.r1_1, hp.r1_2, hp.r1_3, hp.r1_4, hp.r6_1, hp.r6_2, hp.r6_3, hp.r6_4, hp.r11_1, hp.r11_2, hp.r11_3, hp.r11_4, hp.r11_5, hp.r11_6, hp.r11_7, hp.r19_1, hp.r19_2, hp.r19_3, hp.r19_4]
      refine ih (n + 1) _ _ ?_ z ev (by omega) hq
      refine ⟨?_, la.2.1, fun k hk ek => la.2.2 k ?_ ek⟩
      · rw [ix_n e]; exact la.1
      · by_cases q : k = n
        · rw [q] at ek; exact absurd e ek
        · omega
    · have pb := g.1.pin n
      have e21 : I (200 + 21) n = v 21 n := by
        have : cv (I, F) 200 21 n = v 21 n := by rw [ev]
        exact this
      have e23 : I (200 + 23) (n * 6 + p) = v 23 (n * 6 + p) := by
        have : cv (I, F) 200 23 (n * 6 + p) = v 23 (n * 6 + p) := by rw [ev]
        exact this
      have e20 : I (200 + 20) n = v 20 n := by
        have : cv (I, F) 200 20 n = v 20 n := by rw [ev]
        exact this
      have a6 : F 14 6 = (ixL v c n : Int) := la.1
      have en : ¬ (p : Int) = -1 := by omega
      obtain ⟨l, r, lo, hi, hb⟩ : ∃ l r lo hi, bxs v n p = (l, r, lo, hi) := ⟨_, _, _, _, rfl⟩
      have m89 : ∀ {Q2 : Option xV → xH → Prop}, Cl X 89 [vr 14, vr 200, vi (n : Int), vi (p : Int)] (I, F) Q2 ↔ Q2 none (I, sb F l r lo hi) := by
        intro Q2
        have hb2 : bx4 (pnX v n) (pnY v n) (p : Int) (v 21 n).toNat 0 bx0 = (l, r, lo, hi) := hb
        rw [m_89 hp hc hw hnw (by rw [hs]; omega), ev, e21, hb2]
      have t1 : ((n : Int) * 6 + (p : Int)).toNat = n * 6 + p := by omega
      simp (disch := first | assumption | omega) only [e_93_9, e_93_10, e_93_11, e_93_12, e_93_13, e_93_14, e_93_15, e_93_16, e_93_17, e_93_18, e_93_19, e_93_20, e_93_21, e_93_22, e_93_23, e_93_24, e_93_25, e_93_26, e_93_27, e_93_28, e_93_29, e_93_30, e_93_31, e_93_32, e_93_33, e_93_34, e_93_35, e_93_36, e_93_37, e_93_38, e_93_39, e_93_40, e_93_41, e_93_42, e_93_43, e_93_44, e_93_45, e_93_46, e_93_47, e_93_48, e_93_49, e_93_50, e_93_51, e_93_52, e_93_53, e_93_54, e_93_55, e_93_56, e_93_57, e_93_58, e_93_59, e_93_60, e_93_61, e_93_62, e_93_63, e_93_64, e_93_65, e_93_66, e_93_67, e_93_68, e_93_69, e_93_70, e_93_71, e_93_72, e_93_73, e_93_74, e_93_75, e_93_76, e_93_77, e_93_78, e_93_79, e_93_80, e_93_81, e_93_82, onI_s, onR_s, onL_s, gl_0, gl_n, gl_1, gl_2, gl_3, gl_4, gl_5, gl_6, gl_7, gl_8, gl_9, gl_10, gl_11, gl_12, gl_13, gl_14, gl_15, gl_16, gl_17, sk0i, sk0r, sk0n, sk1i, sk1r, sk1n, sk_2, sk_3, sk_4, sk_5, sk_6, sk_7, sk_8, sk_9, sk_10, sk_11, sk_12, sk_13, sk_14, sk_15, sk_16, sk_17, ls_0, ls_1, ls_2, ls_3, ls_4, ls_5, ls_6, ls_7, ls_8, ls_9, ls_10, ls_11, ls_12, ls_13, ls_14, ls_15, ls_16, ls_17, ct1_i, ct1_r, wd8_0, wd8_i1, wd8_r1, wd8_i2, wd8_r2, wd8_i3, wd8_r3, wd8_i4, wd8_r4, wd8_i5, wd8_r5, wd8_i6, wd8_r6, wd8_i7, wd8_r7, wd8_i8, wd8_r8, wd8_l2, wd8_l3, wd8_l4, wd8_l5, wd8_l6, wd8_l7, wd8_l8, tl_s, tl_n, inR_t, bd_t, true_and, and_true, true_or, or_true, if_true_x, if_false_x, if_pos, if_neg, Int.toNat_natCast, natL, bI_0, bI_1, bI_ft, eq_self, b_tf, b_ft, not_true_eq_false, not_false_eq_true, m_45 hp hw, ev, e, m89, sb_1, sb_2, sb_3, sb_4, sb_6, a6, t1, e23, e20, up2_oth, hs, cast_s, hc.t14, hc.r14_0, hc.r14_5, hc.r14_7, hc.r14_8, hc.r14_9, hc.r14_10, hc.r14_11, hc.r14_12, hc.t16, hc.z16, hc.t17, hc.z17, hc.t18, hc.z18, hc.t19, hc.z19, hc.t20, hc.z20, hc.t21, hc.z21, hp.t0, hp.t1, hp.t2, hp.t3, hp.t4, hp.t5, hp.t6, hp.t7, hp.t8, hp.t9, hp.t10, hp.t11, hp.t12, hp.t13, hp.t14, hp.t15, hp.t16, hp.t17, hp.t18, hp.t19, hp.t20, hp.t21, hp.t22, hp.t23, hp.z2, hp.z3, hp.z4, hp.z5, hp.z7, hp.z8, hp.z9, hp.z10, hp.z12, hp.z13, hp.z14, hp.z15, hp.z16, hp.z17, hp.z18, hp.z20, hp.z21, hp.z22, hp.z23, hp.r0_2, hp.r0_3, hp.r0_4, hp.r0_5, hp.r1_1, hp.r1_2, hp.r1_3, hp.r1_4, hp.r6_1, hp.r6_2, hp.r6_3, hp.r6_4, hp.r11_1, hp.r11_2, hp.r11_3, hp.r11_4, hp.r11_5, hp.r11_6, hp.r11_7, hp.r19_1, hp.r19_2, hp.r19_3, hp.r19_4]
      have la2 := la_y (c := c) g.1 g.2.2 hn la e hb (G := up2 (sb F l r lo hi) 14 6 ((ixL v c n + 1 : Nat) : Int)) (by rw [up2_self]; omega)
      have z1 := NZ.up (F2 := F) (v := v 23 (n * 6 + p)) (a := 16) (j := ixL v c n) z (by rw [hc.z16]; omega)
      have z2 := NZ.up (F2 := F) (v := v 20 n) (a := 17) (j := ixL v c n) z1 (by rw [hc.z17]; omega)
      have z3 := NZ.up (F2 := F) (v := l) (a := 18) (j := ixL v c n) z2 (by rw [hc.z18]; omega)
      have z4 := NZ.up (F2 := F) (v := r) (a := 19) (j := ixL v c n) z3 (by rw [hc.z19]; omega)
      have z5 := NZ.up (F2 := F) (v := lo) (a := 20) (j := ixL v c n) z4 (by rw [hc.z20]; omega)
      have z6 := NZ.up (F2 := up2 (sb F l r lo hi) 14 6 ((ixL v c n + 1 : Nat) : Int)) (v := hi) (a := 21) (j := ixL v c n) z5 (by rw [hc.z21]; omega)
      have f : F93 (I, F) (up2 (up2 (up2 (up2 (up2 (up2 I 16 (ixL v c n) (v 23 (n * 6 + p))) 17 (ixL v c n) (v 20 n)) 18 (ixL v c n) l) 19 (ixL v c n) r) 20 (ixL v c n) lo) 21 (ixL v c n) hi, up2 (sb F l r lo hi) 14 6 ((ixL v c n + 1 : Nat) : Int)) := by
        refine ⟨fun a q => ?_, fun a q => ?_⟩
        · dsimp only
          rw [up2_of (by omega), up2_of (by omega), up2_of (by omega), up2_of (by omega), up2_of (by omega), up2_of (by omega)]
        · dsimp only
          rw [up2_of q]
          funext k
          exact sb_o q
      refine ih (n + 1) _ _ la2 z6 (f.cv.trans ev) (by omega) (fun h2 a b d => hq h2 a (f.tr b) d)
theorem m_93 (hp : PL X 200) (hc : CT X ns nb ln) (g : WG (cv h 200)) (z : NZ X h) (hq : ∀ h2, NZ X h2 → F93 h h2 → LA h2 (cv h 200) c (cv h 200 19 0).toNat → Q none h2) : Cl X 93 [vr 14, vr 200, vi c] h Q := by
  have nN := g.1.nN
  rw [c_93]
  simp (disch := first | assumption | omega) only [e_93_0, e_93_1, e_93_2, e_93_3, e_93_4, e_93_5, e_93_6, e_93_7, onI_s, onR_s, onL_s, gl_0, gl_n, gl_1, gl_2, gl_3, gl_4, gl_5, gl_6, gl_7, gl_8, gl_9, gl_10, gl_11, gl_12, gl_13, gl_14, gl_15, gl_16, gl_17, sk0i, sk0r, sk0n, sk1i, sk1r, sk1n, sk_2, sk_3, sk_4, sk_5, sk_6, sk_7, sk_8, sk_9, sk_10, sk_11, sk_12, sk_13, sk_14, sk_15, sk_16, sk_17, ls_0, ls_1, ls_2, ls_3, ls_4, ls_5, ls_6, ls_7, ls_8, ls_9, ls_10, ls_11, ls_12, ls_13, ls_14, ls_15, ls_16, ls_17, ct1_i, ct1_r, wd8_0, wd8_i1, wd8_r1, wd8_i2, wd8_r2, wd8_i3, wd8_r3, wd8_i4, wd8_r4, wd8_i5, wd8_r5, wd8_i6, wd8_r6, wd8_i7, wd8_r7, wd8_i8, wd8_r8, wd8_l2, wd8_l3, wd8_l4, wd8_l5, wd8_l6, wd8_l7, wd8_l8, tl_s, tl_n, inR_t, bd_t, true_and, and_true, true_or, or_true, if_true_x, if_false_x, if_pos, if_neg, Int.toNat_natCast, natL, bI_0, bI_1, bI_ft, eq_self, b_tf, b_ft, not_true_eq_false, not_false_eq_true, hc.t14, hc.r14_0, hc.r14_5, hc.r14_7, hc.r14_8, hc.r14_9, hc.r14_10, hc.r14_11, hc.r14_12, hp.t0, hp.t1, hp.t2, hp.t3, hp.t4, hp.t5, hp.t6, hp.t7, hp.t8, hp.t9, hp.t10, hp.t11, hp.t12, hp.t13, hp.t14, hp.t15, hp.t16, hp.t17, hp.t18, hp.t19, hp.t20, hp.t21, hp.t22, hp.t23, hp.z2, hp.z3, hp.z4, hp.z5, hp.z7, hp.z8, hp.z9, hp.z10, hp.z12, hp.z13, hp.z14, hp.z15, hp.z16, hp.z17, hp.z18, hp.z20, hp.z21, hp.z22, hp.z23, hp.r0_2, hp.r0_3, hp.r0_4, hp.r0_5, hp.r1_1, hp.r1_2, hp.r1_3, hp.r1_4, hp.r6_1, hp.r6_2, hp.r6_3, hp.r6_4, hp.r11_1, hp.r11_2, hp.r11_3, hp.r11_4, hp.r11_5, hp.r11_6, hp.r11_7, hp.r19_1, hp.r19_2, hp.r19_3, hp.r19_4]
  have f : F93 h (h.1, up2 h.2 14 6 0) := ⟨fun _ _ => rfl, fun a q => up2_of q⟩
  refine l_93 hp hc (v := cv h 200) (N := (cv h 200 19 0).toNat) g (by omega) (cv h 200 19 0).toNat 0 _ none ?_ z f.cv (by omega) (fun h2 a b d => hq h2 a (f.tr b) d)
  refine ⟨?_, fun i hi => ?_, fun k hk => by omega⟩
  · dsimp only
    rw [up2_self]
    rfl
  · dsimp only at hi
    rw [up2_self] at hi
    omega
theorem m_95 (hp : PL X 200) (hc : CT X ns nb ln) (hw : RGv (cv h 200)) (hcc : c < 20) (la : LA h v c n) (hn : n ≤ 16) (t0 : 0 ≤ h.1 1 4) (t1 : h.1 1 4 ≤ 8) : Cl X 95 [vr 14, vr 200, vi c] h Q ↔ Q (some (vi (sumF (waT v (h.1 1 4) c (coX (cv h 200) c) (coY (cv h 200) c)) n 0))) h := by
  have b1 := coX_bd hw c
  have b2 := coY_bd hw c
  rw [c_95]
  simp (disch := first | assumption | omega) only [e_95_0, e_95_1, e_95_2, e_95_3, e_95_4, e_95_5, e_95_6, e_95_7, e_95_8, onI_s, onR_s, onL_s, gl_0, gl_n, gl_1, gl_2, gl_3, gl_4, gl_5, gl_6, gl_7, gl_8, gl_9, gl_10, gl_11, gl_12, gl_13, gl_14, gl_15, gl_16, gl_17, sk0i, sk0r, sk0n, sk1i, sk1r, sk1n, sk_2, sk_3, sk_4, sk_5, sk_6, sk_7, sk_8, sk_9, sk_10, sk_11, sk_12, sk_13, sk_14, sk_15, sk_16, sk_17, ls_0, ls_1, ls_2, ls_3, ls_4, ls_5, ls_6, ls_7, ls_8, ls_9, ls_10, ls_11, ls_12, ls_13, ls_14, ls_15, ls_16, ls_17, ct1_i, ct1_r, wd8_0, wd8_i1, wd8_r1, wd8_i2, wd8_r2, wd8_i3, wd8_r3, wd8_i4, wd8_r4, wd8_i5, wd8_r5, wd8_i6, wd8_r6, wd8_i7, wd8_r7, wd8_i8, wd8_r8, wd8_l2, wd8_l3, wd8_l4, wd8_l5, wd8_l6, wd8_l7, wd8_l8, tl_s, tl_n, inR_t, bd_t, true_and, and_true, true_or, or_true, if_true_x, if_false_x, if_pos, if_neg, Int.toNat_natCast, natL, bI_0, bI_1, bI_ft, eq_self, b_tf, b_ft, not_true_eq_false, not_false_eq_true, m_85 hp hw, m_86 hp hw, m_94 hc la, hc.t14, hc.r14_0, hc.r14_5, hc.r14_7, hc.r14_8, hc.r14_9, hc.r14_10, hc.r14_11, hc.r14_12, hp.t0, hp.t1, hp.t2, hp.t3, hp.t4, hp.t5, hp.t6, hp.t7, hp.t8, hp.t9, hp.t10, hp.t11, hp.t12, hp.t13, hp.t14, hp.t15, hp.t16, hp.t17, hp.t18, hp.t19, hp.t20, hp.t21, hp.t22, hp.t23, hp.z2, hp.z3, hp.z4, hp.z5, hp.z7, hp.z8, hp.z9, hp.z10, hp.z12, hp.z13, hp.z14, hp.z15, hp.z16, hp.z17, hp.z18, hp.z20, hp.z21, hp.z22, hp.z23, hp.r0_2, hp.r0_3, hp.r0_4, hp.r0_5, hp.r1_1, hp.r1_2, hp.r1_3, hp.r1_4, hp.r6_1, hp.r6_2, hp.r6_3, hp.r6_4, hp.r11_1, hp.r11_2, hp.r11_3, hp.r11_4, hp.r11_5, hp.r11_6, hp.r11_7, hp.r19_1, hp.r19_2, hp.r19_3, hp.r19_4]
end LAR
