/-! whose each site is -/
def PTo (O : Nat → Int) (R S : Nat) (A : Nat → Nat → Int) : Prop := ∀ r s, r < R → s < S → O (r * S + s) = A r s
def G8 (h h2 : xH) : Prop := (∀ a, a ≠ 8 → h2.1 a = h.1 a) ∧ h2.2 = h.2
def fxB (v : Nat → Nat → Int) (r s : Int) (d : Nat) : Bool := !decide (v 14 d = 0) && laB v r s s d
def own (v : Nat → Nat → Int) (r s : Nat) : Int := if anyB (ovV v 2 r r s s) (v 1 0).toNat = true ∨ anyB (fxB v r s) (v 11 0).toNat = true then -2 else lst (ovV v 7 r r s s) (v 6 0).toNat 0 (-1)
theorem ix_in {r s R S : Nat} (hr : r < R) (hs : s < S) : r * S + s < R * S := by
  have h1 : (r + 1) * S ≤ R * S := Nat.mul_le_mul_right S (by omega)
  rw [Nat.add_mul, Nat.one_mul] at h1
  omega
theorem ix_eq {r s r2 s2 S : Nat} (hs : s < S) (hs2 : s2 < S) (h : r * S + s = r2 * S + s2) : r = r2 ∧ s = s2 := by
  rcases Nat.lt_trichotomy r r2 with q | q | q
  · have : (r + 1) * S ≤ r2 * S := Nat.mul_le_mul_right S (by omega)
    rw [Nat.add_mul, Nat.one_mul] at this
    omega
  · subst q; omega
  · have : (r2 + 1) * S ≤ r * S := Nat.mul_le_mul_right S (by omega)
    rw [Nat.add_mul, Nat.one_mul] at this
    omega
theorem lst_sn {p : Nat → Bool} : ∀ (m i : Nat) (a : Int), lst p (m + 1) i a = if p (i + m) = true then ((i + m : Nat) : Int) else lst p m i a
  | 0, i, a => by rw [lst, lst, lst]; rfl
  | m + 1, i, a => by rw [lst, lst_sn m (i + 1), lst, show i + 1 + m = i + (m + 1) by omega]
theorem anyB_sn {p : Nat → Bool} {n : Nat} : anyB p (n + 1) = true ↔ anyB p n = true ∨ p n = true := by
  rw [anyB_iff, anyB_iff]
  constructor
  · rintro ⟨j, h1, h2⟩
    by_cases e : j = n
    · subst e; exact Or.inr h2
    · exact Or.inl ⟨j, by omega, h2⟩
  · rintro (⟨j, h1, h2⟩ | h)
    · exact ⟨j, by omega, h2⟩
    · exact ⟨n, by omega, h⟩
section PNT
variable {X : xL} {Q : Option xV → xH → Prop} {ns nb ln : Nat}
theorem G8.refl {h : xH} : G8 h h := ⟨fun _ _ => rfl, rfl⟩
theorem G8.tr {h h2 h3 : xH} (a : G8 h h2) (b : G8 h2 h3) : G8 h h3 := ⟨fun k q => (b.1 k q).trans (a.1 k q), b.2.trans a.2⟩
theorem G8.cv {h h2 : xH} {b : Nat} (a : G8 h h2) (hb : 200 ≤ b) : cv h2 b = cv h b := cv_congr (fun k q1 q2 => ⟨a.1 k (by omega), by rw [a.2]⟩)
theorem G8.fz {h h2 : xH} (a : G8 h h2) (z : NZ X h2) : Fz X h h2 := by
  refine ⟨z, fun k q => ⟨a.1 k (by omega), by rw [a.2]⟩, ?_, fun p hp => ?_⟩
  · rw [a.2]; exact ⟨rfl, rfl, rfl, rfl⟩
  · rw [a.2]; exact ⟨fun _ => rfl, fun _ _ _ _ => rfl⟩
theorem PTo.cg {O : Nat → Int} {R S : Nat} {A B : Nat → Nat → Int} (p : PTo O R S A) (e : ∀ r s, r < R → s < S → A r s = B r s) : PTo O R S B := fun r s hr hs => (p r s hr hs).trans (e r s hr hs)
set_option maxHeartbeats 4000000 in
theorem l_34 (hc : CT X ns nb ln) {R S r f l : Nat} {col : Int} (hns : ns = R * S) (R8 : R ≤ 8) (S32 : S ≤ 32) (hr : r < R) (hl : l < S) : ∀ (m s : Nat) (h : xH) (A : Nat → Nat → Int), NZ X h → h.2 7 1 = S → PTo (h.1 8) R S A → s + m = l + 1 → (∀ h2, NZ X h2 → G8 h h2 → PTo (h2.1 8) R S (fun r2 s2 => if r2 = r ∧ s ≤ s2 ∧ s2 ≤ l then col else A r2 s2) → Q none h2) → Ev X 34 2 [some (vr 7), some (vi r), some (vi f), some (vi l), some (vi col), some (vi s)] [] h Q := by
  intro m
  induction m with
  | zero =>
    intro s h A z hS pt hm hq
    rw [e_34_2]
    simp (disch := first | assumption | omega) only [e_34_3, e_34_4, e_34_17, onI_s, onR_s, onL_s, gl_0, gl_n, gl_1, gl_2, gl_3, gl_4, gl_5, gl_6, gl_7, gl_8, gl_9, gl_10, gl_11, gl_12, gl_13, gl_14, gl_15, gl_16, gl_17, sk0i, sk0r, sk0n, sk1i, sk1r, sk1n, sk_2, sk_3, sk_4, sk_5, sk_6, sk_7, sk_8, sk_9, sk_10, sk_11, sk_12, sk_13, sk_14, sk_15, sk_16, sk_17, ls_0, ls_1, ls_2, ls_3, ls_4, ls_5, ls_6, ls_7, ls_8, ls_9, ls_10, ls_11, ls_12, ls_13, ls_14, ls_15, ls_16, ls_17, ct1_i, ct1_r, wd8_0, wd8_i1, wd8_r1, wd8_i2, wd8_r2, wd8_i3, wd8_r3, wd8_i4, wd8_r4, wd8_i5, wd8_r5, wd8_i6, wd8_r6, wd8_i7, wd8_r7, wd8_i8, wd8_r8, wd8_l2, wd8_l3, wd8_l4, wd8_l5, wd8_l6, wd8_l7, wd8_l8, tl_s, tl_n, inR_t, bd_t, true_and, and_true, true_or, or_true, if_true_x, if_false_x, if_pos, if_neg, Int.toNat_natCast, natL, bI_0, bI_1, bI_ft, eq_self, b_tf, b_ft, not_true_eq_false, not_false_eq_true]
    refine hq h z G8.refl (pt.cg (fun r2 s2 h1 h2 => ?_))
    rw [if_neg (by omega)]
  | succ m ih =>
    intro s h A z hS pt hm hq
    have hi := ix_in hr (show s < S by omega)
    have mb := mul_bd (a := (r : Int)) (b := (S : Int)) (A := 8) (B := 32) (by omega) (by omega) (by omega) (by omega)
    have t1 : ((r : Int) * (S : Int) + (s : Int)).toNat = r * S + s := by
      rw [← Int.natCast_mul, ← Int.natCast_add, Int.toNat_natCast]
    have hb : (r : Int) * (S : Int) + (s : Int) < (ns : Int) := by
      rw [← Int.natCast_mul, ← Int.natCast_add, hns]
      omega
    rw [e_34_2]
    simp (disch := first | assumption | omega) only [e_34_3, e_34_4, e_34_5, e_34_6, e_34_7, e_34_8, e_34_9, e_34_10, e_34_11, e_34_12, e_34_13, e_34_14, e_34_15, e_34_16, onI_s, onR_s, onL_s, gl_0, gl_n, gl_1, gl_2, gl_3, gl_4, gl_5, gl_6, gl_7, gl_8, gl_9, gl_10, gl_11, gl_12, gl_13, gl_14, gl_15, gl_16, gl_17, sk0i, sk0r, sk0n, sk1i, sk1r, sk1n, sk_2, sk_3, sk_4, sk_5, sk_6, sk_7, sk_8, sk_9, sk_10, sk_11, sk_12, sk_13, sk_14, sk_15, sk_16, sk_17, ls_0, ls_1, ls_2, ls_3, ls_4, ls_5, ls_6, ls_7, ls_8, ls_9, ls_10, ls_11, ls_12, ls_13, ls_14, ls_15, ls_16, ls_17, ct1_i, ct1_r, wd8_0, wd8_i1, wd8_r1, wd8_i2, wd8_r2, wd8_i3, wd8_r3, wd8_i4, wd8_r4, wd8_i5, wd8_r5, wd8_i6, wd8_r6, wd8_i7, wd8_r7, wd8_i8, wd8_r8, wd8_l2, wd8_l3, wd8_l4, wd8_l5, wd8_l6, wd8_l7, wd8_l8, tl_s, tl_n, inR_t, bd_t, true_and, and_true, true_or, or_true, if_true_x, if_false_x, if_pos, if_neg, Int.toNat_natCast, natL, bI_0, bI_1, bI_ft, eq_self, b_tf, b_ft, not_true_eq_false, not_false_eq_true, hS, t1, cast_s, hc.t7, hc.r7_2, hc.r7_4, hc.r7_5, hc.r7_6, hc.r7_7, hc.r7_8, hc.t8, hc.z8]
    refine ih (s + 1) _ (fun r2 s2 => if r2 = r ∧ s2 = s then col else A r2 s2) (NZ.up (I := h.1) (F := h.2) z (by rw [hc.z8, hns]; exact hi)) hS ?_ (by omega) (fun h2 z2 g2 p2 => ?_)
    · intro r2 s2 hr2 hs2
      dsimp only
      rw [up2_same]
      by_cases e : r2 * S + s2 = r * S + s
      · have := ix_eq hs2 (by omega) e
        rw [if_pos e, if_pos this]
      · rw [if_neg e, if_neg (fun q => e (by rw [q.1, q.2]))]
        exact pt r2 s2 hr2 hs2
    · refine hq h2 z2 (G8.tr (h2 := (up2 h.1 8 (r * S + s) col, h.2)) ⟨fun a q => up2_of q, rfl⟩ g2) (p2.cg (fun r2 s2 h1 h2 => ?_))
      by_cases e : r2 = r ∧ s2 = s
      · rw [if_neg (by omega), if_pos e, if_pos (by omega)]
      · rw [if_neg e]
        by_cases e2 : r2 = r ∧ s + 1 ≤ s2 ∧ s2 ≤ l
        · rw [if_pos e2, if_pos (by omega)]
        · rw [if_neg e2, if_neg (by omega)]
theorem m_34 {h : xH} (hc : CT X ns nb ln) {R S r f l : Nat} {col : Int} (hns : ns = R * S) (R8 : R ≤ 8) (S32 : S ≤ 32) (hr : r < R) (hf : f ≤ l) (hl : l < S) {A : Nat → Nat → Int} (z : NZ X h) (hS : h.2 7 1 = S) (pt : PTo (h.1 8) R S A) (hq : ∀ h2, NZ X h2 → G8 h h2 → PTo (h2.1 8) R S (fun r2 s2 => if r2 = r ∧ f ≤ s2 ∧ s2 ≤ l then col else A r2 s2) → Q none h2) : Cl X 34 [vr 7, vi r, vi f, vi l, vi col] h Q := by
  rw [c_34]
  simp (disch := first | assumption | omega) only [e_34_0, e_34_1, onI_s, onR_s, onL_s, gl_0, gl_n, gl_1, gl_2, gl_3, gl_4, gl_5, gl_6, gl_7, gl_8, gl_9, gl_10, gl_11, gl_12, gl_13, gl_14, gl_15, gl_16, gl_17, sk0i, sk0r, sk0n, sk1i, sk1r, sk1n, sk_2, sk_3, sk_4, sk_5, sk_6, sk_7, sk_8, sk_9, sk_10, sk_11, sk_12, sk_13, sk_14, sk_15, sk_16, sk_17, ls_0, ls_1, ls_2, ls_3, ls_4, ls_5, ls_6, ls_7, ls_8, ls_9, ls_10, ls_11, ls_12, ls_13, ls_14, ls_15, ls_16, ls_17, ct1_i, ct1_r, wd8_0, wd8_i1, wd8_r1, wd8_i2, wd8_r2, wd8_i3, wd8_r3, wd8_i4, wd8_r4, wd8_i5, wd8_r5, wd8_i6, wd8_r6, wd8_i7, wd8_r7, wd8_i8, wd8_r8, wd8_l2, wd8_l3, wd8_l4, wd8_l5, wd8_l6, wd8_l7, wd8_l8, tl_s, tl_n, inR_t, bd_t, true_and, and_true, true_or, or_true, if_true_x, if_false_x, if_pos, if_neg, Int.toNat_natCast, natL, bI_0, bI_1, bI_ft, eq_self, b_tf, b_ft, not_true_eq_false, not_false_eq_true]
  exact l_34 hc hns R8 S32 hr hl (l + 1 - f) f h A z hS pt (by omega) hq
set_option maxHeartbeats 4000000 in
theorem l_33 (hc : CT X ns nb ln) {o cap bx R S lo hi f l : Nat} {col : Int} (hb : BX X o cap) (o200 : 200 ≤ o) (hbx : bx < cap) (hns : ns = R * S) (R8 : R ≤ 8) (S32 : S ≤ 32) (hh : hi < R) (hf : f ≤ l) (hl : l < S) : ∀ (m r : Nat) (h : xH) (A : Nat → Nat → Int), NZ X h → h.2 7 1 = S → (h.1 (o + 2) bx = hi ∧ h.1 (o + 3) bx = f ∧ h.1 (o + 4) bx = l) → PTo (h.1 8) R S A → r + m = hi + 1 → (∀ h2, NZ X h2 → G8 h h2 → PTo (h2.1 8) R S (fun r2 s2 => if (r ≤ r2 ∧ r2 ≤ hi) ∧ f ≤ s2 ∧ s2 ≤ l then col else A r2 s2) → Q none h2) → Ev X 33 5 [some (vr 7), some (vr o), some (vi bx), some (vi col), some (vi r)] [] h Q := by
  intro m
  induction m with
  | zero =>
    intro r h A z hS hv pt hm hq
    rw [e_33_5]
    simp (disch := first | assumption | omega) only [e_33_6, e_33_7, e_33_8, e_33_9, e_33_10, e_33_25, onI_s, onR_s, onL_s, gl_0, gl_n, gl_1, gl_2, gl_3, gl_4, gl_5, gl_6, gl_7, gl_8, gl_9, gl_10, gl_11, gl_12, gl_13, gl_14, gl_15, gl_16, gl_17, sk0i, sk0r, sk0n, sk1i, sk1r, sk1n, sk_2, sk_3, sk_4, sk_5, sk_6, sk_7, sk_8, sk_9, sk_10, sk_11, sk_12, sk_13, sk_14, sk_15, sk_16, sk_17, ls_0, ls_1, ls_2, ls_3, ls_4, ls_5, ls_6, ls_7, ls_8, ls_9, ls_10, ls_11, ls_12, ls_13, ls_14, ls_15, ls_16, ls_17, ct1_i, ct1_r, wd8_0, wd8_i1, wd8_r1, wd8_i2, wd8_r2, wd8_i3, wd8_r3, wd8_i4, wd8_r4, wd8_i5, wd8_r5, wd8_i6, wd8_r6, wd8_i7, wd8_r7, wd8_i8, wd8_r8, wd8_l2, wd8_l3, wd8_l4, wd8_l5, wd8_l6, wd8_l7, wd8_l8, tl_s, tl_n, inR_t, bd_t, true_and, and_true, true_or, or_true, if_true_x, if_false_x, if_pos, if_neg, Int.toNat_natCast, natL, bI_0, bI_1, bI_ft, eq_self, b_tf, b_ft, not_true_eq_false, not_false_eq_true, hv, hb.1, hb.r1, hb.r2, hb.r3, hb.r4, hb.t1, hb.t2, hb.t3, hb.t4, hb.z1, hb.z2, hb.z3, hb.z4]
    refine hq h z G8.refl (pt.cg (fun r2 s2 h1 h2 => ?_))
    rw [if_neg (by omega)]
  | succ m ih =>
    intro r h A z hS hv pt hm hq
    rw [e_33_5]
    simp (disch := first | assumption | omega) only [e_33_6, e_33_7, e_33_8, e_33_9, e_33_10, e_33_11, e_33_12, e_33_13, e_33_14, e_33_15, e_33_16, e_33_17, e_33_18, e_33_19, e_33_20, e_33_21, onI_s, onR_s, onL_s, gl_0, gl_n, gl_1, gl_2, gl_3, gl_4, gl_5, gl_6, gl_7, gl_8, gl_9, gl_10, gl_11, gl_12, gl_13, gl_14, gl_15, gl_16, gl_17, sk0i, sk0r, sk0n, sk1i, sk1r, sk1n, sk_2, sk_3, sk_4, sk_5, sk_6, sk_7, sk_8, sk_9, sk_10, sk_11, sk_12, sk_13, sk_14, sk_15, sk_16, sk_17, ls_0, ls_1, ls_2, ls_3, ls_4, ls_5, ls_6, ls_7, ls_8, ls_9, ls_10, ls_11, ls_12, ls_13, ls_14, ls_15, ls_16, ls_17, ct1_i, ct1_r, wd8_0, wd8_i1, wd8_r1, wd8_i2, wd8_r2, wd8_i3, wd8_r3, wd8_i4, wd8_r4, wd8_i5, wd8_r5, wd8_i6, wd8_r6, wd8_i7, wd8_r7, wd8_i8, wd8_r8, wd8_l2, wd8_l3, wd8_l4, wd8_l5, wd8_l6, wd8_l7, wd8_l8, tl_s, tl_n, inR_t, bd_t, true_and, and_true, true_or, or_true, if_true_x, if_false_x, if_pos, if_neg, Int.toNat_natCast, natL, bI_0, bI_1, bI_ft, eq_self, b_tf, b_ft, not_true_eq_false, not_false_eq_true, hv, hb.1, hb.r1, hb.r2, hb.r3, hb.r4, hb.t1, hb.t2, hb.t3, hb.t4, hb.z1, hb.z2, hb.z3, hb.z4]
    (rw [e_33_22]; refine ⟨⟨hc.t7, by decide⟩, ?_⟩)
    refine m_34 hc hns R8 S32 (show r < R by omega) hf hl z hS pt (fun h2 z2 g2 p2 => ?_)
    simp (disch := first | assumption | omega) only [e_33_23, e_33_24, onI_s, onR_s, onL_s, gl_0, gl_n, gl_1, gl_2, gl_3, gl_4, gl_5, gl_6, gl_7, gl_8, gl_9, gl_10, gl_11, gl_12, gl_13, gl_14, gl_15, gl_16, gl_17, sk0i, sk0r, sk0n, sk1i, sk1r, sk1n, sk_2, sk_3, sk_4, sk_5, sk_6, sk_7, sk_8, sk_9, sk_10, sk_11, sk_12, sk_13, sk_14, sk_15, sk_16, sk_17, ls_0, ls_1, ls_2, ls_3, ls_4, ls_5, ls_6, ls_7, ls_8, ls_9, ls_10, ls_11, ls_12, ls_13, ls_14, ls_15, ls_16, ls_17, ct1_i, ct1_r, wd8_0, wd8_i1, wd8_r1, wd8_i2, wd8_r2, wd8_i3, wd8_r3, wd8_i4, wd8_r4, wd8_i5, wd8_r5, wd8_i6, wd8_r6, wd8_i7, wd8_r7, wd8_i8, wd8_r8, wd8_l2, wd8_l3, wd8_l4, wd8_l5, wd8_l6, wd8_l7, wd8_l8, tl_s, tl_n, inR_t, bd_t, true_and, and_true, true_or, or_true, if_true_x, if_false_x, if_pos, if_neg, Int.toNat_natCast, natL, bI_0, bI_1, bI_ft, eq_self, b_tf, b_ft, not_true_eq_false, not_false_eq_true, cast_s]
    refine ih (r + 1) h2 _ z2 (by rw [g2.2]; exact hS) (by rw [g2.1 (o + 2) (by omega), g2.1 (o + 3) (by omega), g2.1 (o + 4) (by omega)]; exact hv) p2 (by omega) (fun h3 z3 g3 p3 => hq h3 z3 (g2.tr g3) (p3.cg (fun r2 s2 h1 h2 => ?_)))
    by_cases e : r2 = r ∧ f ≤ s2 ∧ s2 ≤ l
    · rw [if_neg (by omega), if_pos e, if_pos (by omega)]
    · rw [if_neg e]
      by_cases e2 : (r + 1 ≤ r2 ∧ r2 ≤ hi) ∧ f ≤ s2 ∧ s2 ≤ l
      · rw [if_pos e2, if_pos (by omega)]
      · rw [if_neg e2, if_neg (by omega)]
theorem m_33 {h : xH} (hc : CT X ns nb ln) {o cap bx R S lo hi f l : Nat} {col : Int} (hb : BX X o cap) (o200 : 200 ≤ o) (hbx : bx < cap) (hns : ns = R * S) (R8 : R ≤ 8) (S32 : S ≤ 32) (hlo : lo ≤ hi) (hh : hi < R) (hf : f ≤ l) (hl : l < S) {A : Nat → Nat → Int} (z : NZ X h) (hS : h.2 7 1 = S) (hv : h.1 (o + 1) bx = lo ∧ h.1 (o + 2) bx = hi ∧ h.1 (o + 3) bx = f ∧ h.1 (o + 4) bx = l) (pt : PTo (h.1 8) R S A) (hq : ∀ h2, NZ X h2 → G8 h h2 → PTo (h2.1 8) R S (fun r2 s2 => if (lo ≤ r2 ∧ r2 ≤ hi) ∧ f ≤ s2 ∧ s2 ≤ l then col else A r2 s2) → Q none h2) : Cl X 33 [vr 7, vr o, vi bx, vi col] h Q := by
  rw [c_33]
  simp (disch := first | assumption | omega) only [e_33_0, e_33_1, e_33_2, e_33_3, e_33_4, onI_s, onR_s, onL_s, gl_0, gl_n, gl_1, gl_2, gl_3, gl_4, gl_5, gl_6, gl_7, gl_8, gl_9, gl_10, gl_11, gl_12, gl_13, gl_14, gl_15, gl_16, gl_17, sk0i, sk0r, sk0n, sk1i, sk1r, sk1n, sk_2, sk_3, sk_4, sk_5, sk_6, sk_7, sk_8, sk_9, sk_10, sk_11, sk_12, sk_13, sk_14, sk_15, sk_16, sk_17, ls_0, ls_1, ls_2, ls_3, ls_4, ls_5, ls_6, ls_7, ls_8, ls_9, ls_10, ls_11, ls_12, ls_13, ls_14, ls_15, ls_16, ls_17, ct1_i, ct1_r, wd8_0, wd8_i1, wd8_r1, wd8_i2, wd8_r2, wd8_i3, wd8_r3, wd8_i4, wd8_r4, wd8_i5, wd8_r5, wd8_i6, wd8_r6, wd8_i7, wd8_r7, wd8_i8, wd8_r8, wd8_l2, wd8_l3, wd8_l4, wd8_l5, wd8_l6, wd8_l7, wd8_l8, tl_s, tl_n, inR_t, bd_t, true_and, and_true, true_or, or_true, if_true_x, if_false_x, if_pos, if_neg, Int.toNat_natCast, natL, bI_0, bI_1, bI_ft, eq_self, b_tf, b_ft, not_true_eq_false, not_false_eq_true, hv.1, hb.1, hb.r1, hb.t1, hb.z1]
  exact l_33 hc (lo := lo) hb o200 hbx hns R8 S32 hh hf hl (hi + 1 - lo) lo h A z hS hv.2 pt (by omega) hq
end PNT
