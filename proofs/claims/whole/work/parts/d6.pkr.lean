/-! PACKING in the reference: the queue, some of it -/
def GQ (h h2 : xH) : Prop := (∀ a, a ≠ 84 → h2.1 a = h.1 a) ∧ (∀ a k, ¬ (a = 70 ∧ k = 22) → h2.2 a k = h.2 a k)
theorem GQ.refl {h : xH} : GQ h h := ⟨fun _ _ => rfl, fun _ _ _ => rfl⟩
theorem GQ.tr {h h2 h3 : xH} (g : GQ h h2) (k : GQ h2 h3) : GQ h h3 := ⟨fun a q => (k.1 a q).trans (g.1 a q), fun a j q => (k.2 a j q).trans (g.2 a j q)⟩
theorem GQ.gy {h h2 : xH} (g : GQ h h2) : GY h h2 := ⟨fun a q => g.1 a (by omega), fun a k q => g.2 a k (by omega)⟩
def OM (X : xL) (h0 h : xH) (q : List Nat) : Prop := NZ X h ∧ GQ h0 h ∧ h.2 70 22 = q.length ∧ R1 (h.1 84) q
def GU (h h2 : xH) : Prop := (∀ a, a ≠ 86 → h2.1 a = h.1 a) ∧ (∀ a k, ¬ (a = 70 ∧ k = 25) → h2.2 a k = h.2 a k)
theorem GU.refl {h : xH} : GU h h := ⟨fun _ _ => rfl, fun _ _ _ => rfl⟩
theorem GU.tr {h h2 h3 : xH} (g : GU h h2) (k : GU h2 h3) : GU h h3 := ⟨fun a q => (k.1 a q).trans (g.1 a q), fun a j q => (k.2 a j q).trans (g.2 a j q)⟩
theorem GU.gy {h h2 : xH} (g : GU h h2) : GY h h2 := ⟨fun a q => g.1 a (by omega), fun a k q => g.2 a k (by omega)⟩
def UM (X : xL) (h0 h : xH) (L : List Nat) : Prop := NZ X h ∧ GU h0 h ∧ h.2 70 25 = L.length ∧ R1 (h.1 86) L
section PKR
variable {X : xL} {Q : Option xV → xH → Prop} {ns nb ln : Nat} {h : xH}
set_option maxHeartbeats 2000000 in
theorem m_238 (hc : CT X ns nb ln) {c o : Nat} (c20 : c < 20) (oc : o ≤ c) : Cl X 238 [vr 70, vi c, vi o] h Q ↔ Q (some (vi (bI (decide (vm h 15 c < vm h 15 o))))) h := by
  rw [c_238]
  have n : ¬ (c : Int) < o := by omega
  by_cases e : vm h 15 c < vm h 15 o
  · have d : decide (vm h 15 c < vm h 15 o) = true := decide_eq_true e
    rw [d]
    simp (disch := first | assumption | omega) only [e_238_0, e_238_1, e_238_2, e_238_3, e_238_4, e_238_5, e_238_6, e_238_7, e_238_8, e_238_9, e_238_10, e_238_11, e_238_12, e_238_13, e_238_14, e_238_15, e_238_16, e_238_17, e_238_18, e_238_25, e_238_26, e_238_28, onI_s, onR_s, onL_s, gl_0, gl_n, gl_1, gl_2, gl_3, gl_4, gl_5, gl_6, gl_7, gl_8, gl_9, gl_10, gl_11, gl_12, gl_13, gl_14, gl_15, gl_16, gl_17, sk0i, sk0r, sk0n, sk1i, sk1r, sk1n, sk_2, sk_3, sk_4, sk_5, sk_6, sk_7, sk_8, sk_9, sk_10, sk_11, sk_12, sk_13, sk_14, sk_15, sk_16, sk_17, ls_0, ls_1, ls_2, ls_3, ls_4, ls_5, ls_6, ls_7, ls_8, ls_9, ls_10, ls_11, ls_12, ls_13, ls_14, ls_15, ls_16, ls_17, ct1_i, ct1_r, wd8_0, wd8_i1, wd8_r1, wd8_i2, wd8_r2, wd8_i3, wd8_r3, wd8_i4, wd8_r4, wd8_i5, wd8_r5, wd8_i6, wd8_r6, wd8_i7, wd8_r7, wd8_i8, wd8_r8, wd8_l2, wd8_l3, wd8_l4, wd8_l5, wd8_l6, wd8_l7, wd8_l8, tl_s, tl_n, inR_t, bd_t, true_and, and_true, true_or, or_true, if_true_x, if_false_x, if_pos, if_neg, Int.toNat_natCast, natL, bI_0, bI_1, bI_ft, eq_self, b_tf, b_ft, not_true_eq_false, not_false_eq_true, m_158, vm_15, Int.toNat_natCast, e, hc.t70, hc.r70_4, hc.r70_5, hc.r70_6, hc.r70_7, hc.r70_8, hc.r70_10, hc.r70_11, hc.r70_12, hc.r70_14, hc.r70_15, hc.r70_16, hc.r70_17, hc.r70_19, hc.r70_21, hc.r70_23, hc.r70_24, hc.r70_26, hc.r70_27, hc.r70_28, hc.r70_29, hc.r70_30, hc.r70_31, hc.r70_32, hc.r70_33, hc.r70_36, hc.t73, hc.z73]
    rfl
  · have d : decide (vm h 15 c < vm h 15 o) = false := decide_eq_false e
    rw [d]
    by_cases e2 : vm h 15 c = vm h 15 o
    · simp (disch := first | assumption | omega) only [e_238_0, e_238_1, e_238_2, e_238_3, e_238_4, e_238_5, e_238_6, e_238_7, e_238_8, e_238_9, e_238_10, e_238_11, e_238_12, e_238_13, e_238_14, e_238_15, e_238_16, e_238_17, e_238_18, e_238_19, e_238_20, e_238_21, e_238_22, e_238_23, e_238_24, e_238_27, e_238_28, onI_s, onR_s, onL_s, gl_0, gl_n, gl_1, gl_2, gl_3, gl_4, gl_5, gl_6, gl_7, gl_8, gl_9, gl_10, gl_11, gl_12, gl_13, gl_14, gl_15, gl_16, gl_17, sk0i, sk0r, sk0n, sk1i, sk1r, sk1n, sk_2, sk_3, sk_4, sk_5, sk_6, sk_7, sk_8, sk_9, sk_10, sk_11, sk_12, sk_13, sk_14, sk_15, sk_16, sk_17, ls_0, ls_1, ls_2, ls_3, ls_4, ls_5, ls_6, ls_7, ls_8, ls_9, ls_10, ls_11, ls_12, ls_13, ls_14, ls_15, ls_16, ls_17, ct1_i, ct1_r, wd8_0, wd8_i1, wd8_r1, wd8_i2, wd8_r2, wd8_i3, wd8_r3, wd8_i4, wd8_r4, wd8_i5, wd8_r5, wd8_i6, wd8_r6, wd8_i7, wd8_r7, wd8_i8, wd8_r8, wd8_l2, wd8_l3, wd8_l4, wd8_l5, wd8_l6, wd8_l7, wd8_l8, tl_s, tl_n, inR_t, bd_t, true_and, and_true, true_or, or_true, if_true_x, if_false_x, if_pos, if_neg, Int.toNat_natCast, natL, bI_0, bI_1, bI_ft, eq_self, b_tf, b_ft, not_true_eq_false, not_false_eq_true, m_158, vm_15, Int.toNat_natCast, e, e2, n, Int.lt_irrefl, hc.t70, hc.r70_4, hc.r70_5, hc.r70_6, hc.r70_7, hc.r70_8, hc.r70_10, hc.r70_11, hc.r70_12, hc.r70_14, hc.r70_15, hc.r70_16, hc.r70_17, hc.r70_19, hc.r70_21, hc.r70_23, hc.r70_24, hc.r70_26, hc.r70_27, hc.r70_28, hc.r70_29, hc.r70_30, hc.r70_31, hc.r70_32, hc.r70_33, hc.r70_36, hc.t73, hc.z73]
      rfl
    · simp (disch := first | assumption | omega) only [e_238_0, e_238_1, e_238_2, e_238_3, e_238_4, e_238_5, e_238_6, e_238_7, e_238_8, e_238_9, e_238_10, e_238_11, e_238_12, e_238_13, e_238_14, e_238_15, e_238_16, e_238_17, e_238_18, e_238_19, e_238_20, e_238_21, e_238_27, e_238_28, onI_s, onR_s, onL_s, gl_0, gl_n, gl_1, gl_2, gl_3, gl_4, gl_5, gl_6, gl_7, gl_8, gl_9, gl_10, gl_11, gl_12, gl_13, gl_14, gl_15, gl_16, gl_17, sk0i, sk0r, sk0n, sk1i, sk1r, sk1n, sk_2, sk_3, sk_4, sk_5, sk_6, sk_7, sk_8, sk_9, sk_10, sk_11, sk_12, sk_13, sk_14, sk_15, sk_16, sk_17, ls_0, ls_1, ls_2, ls_3, ls_4, ls_5, ls_6, ls_7, ls_8, ls_9, ls_10, ls_11, ls_12, ls_13, ls_14, ls_15, ls_16, ls_17, ct1_i, ct1_r, wd8_0, wd8_i1, wd8_r1, wd8_i2, wd8_r2, wd8_i3, wd8_r3, wd8_i4, wd8_r4, wd8_i5, wd8_r5, wd8_i6, wd8_r6, wd8_i7, wd8_r7, wd8_i8, wd8_r8, wd8_l2, wd8_l3, wd8_l4, wd8_l5, wd8_l6, wd8_l7, wd8_l8, tl_s, tl_n, inR_t, bd_t, true_and, and_true, true_or, or_true, if_true_x, if_false_x, if_pos, if_neg, Int.toNat_natCast, natL, bI_0, bI_1, bI_ft, eq_self, b_tf, b_ft, not_true_eq_false, not_false_eq_true, m_158, vm_15, Int.toNat_natCast, e, e2, n, hc.t70, hc.r70_4, hc.r70_5, hc.r70_6, hc.r70_7, hc.r70_8, hc.r70_10, hc.r70_11, hc.r70_12, hc.r70_14, hc.r70_15, hc.r70_16, hc.r70_17, hc.r70_19, hc.r70_21, hc.r70_23, hc.r70_24, hc.r70_26, hc.r70_27, hc.r70_28, hc.r70_29, hc.r70_30, hc.r70_31, hc.r70_32, hc.r70_33, hc.r70_36, hc.t73, hc.z73]
      rfl
set_option maxHeartbeats 8000000 in
theorem i_239 (hc : CT X ns nb ln) {h0 : xH} {v : Nat → Nat → Int} (ev : vm h0 = v) {c : Nat} (hcN : c < 20) : ∀ (A B : List Nat) (h : xH), NZ X h → G1 84 h0 h → HB (h.1 84) A B → (∀ x, x ∈ A → x < c) → A.length + B.length < 20 → (∀ h2, NZ X h2 → G1 84 h0 h2 → R1 (h2.1 84) (insR (v 15) c A B) → ∀ x2, Ev X 239 47 [some (vr 70), some (vi c), x2] [] h2 Q) → Ev X 239 18 [some (vr 70), some (vi c), some (vi A.length)] [] h Q := by
  intro A
  induction A with
  | nil =>
    intro B h z g hb hA hl hq
    rw [e_239_18]
    simp (disch := first | assumption | omega) only [e_239_19, e_239_42, e_239_43, e_239_44, e_239_45, e_239_46, onI_s, onR_s, onL_s, gl_0, gl_n, gl_1, gl_2, gl_3, gl_4, gl_5, gl_6, gl_7, gl_8, gl_9, gl_10, gl_11, gl_12, gl_13, gl_14, gl_15, gl_16, gl_17, sk0i, sk0r, sk0n, sk1i, sk1r, sk1n, sk_2, sk_3, sk_4, sk_5, sk_6, sk_7, sk_8, sk_9, sk_10, sk_11, sk_12, sk_13, sk_14, sk_15, sk_16, sk_17, ls_0, ls_1, ls_2, ls_3, ls_4, ls_5, ls_6, ls_7, ls_8, ls_9, ls_10, ls_11, ls_12, ls_13, ls_14, ls_15, ls_16, ls_17, ct1_i, ct1_r, wd8_0, wd8_i1, wd8_r1, wd8_i2, wd8_r2, wd8_i3, wd8_r3, wd8_i4, wd8_r4, wd8_i5, wd8_r5, wd8_i6, wd8_r6, wd8_i7, wd8_r7, wd8_i8, wd8_r8, wd8_l2, wd8_l3, wd8_l4, wd8_l5, wd8_l6, wd8_l7, wd8_l8, tl_s, tl_n, inR_t, bd_t, true_and, and_true, true_or, or_true, if_true_x, if_false_x, if_pos, if_neg, Int.toNat_natCast, natL, bI_0, bI_1, bI_ft, eq_self, b_tf, b_ft, not_true_eq_false, not_false_eq_true, List.length_nil, tn_0, hc.t70, hc.r70_4, hc.r70_5, hc.r70_6, hc.r70_7, hc.r70_8, hc.r70_10, hc.r70_11, hc.r70_12, hc.r70_14, hc.r70_15, hc.r70_16, hc.r70_17, hc.r70_19, hc.r70_21, hc.r70_23, hc.r70_24, hc.r70_26, hc.r70_27, hc.r70_28, hc.r70_29, hc.r70_30, hc.r70_31, hc.r70_32, hc.r70_33, hc.r70_36, hc.t84, hc.z84]
    refine hq (up2 h.1 84 0 c, h.2) (NZ.up (I := h.1) (F := h.2) z (by rw [hc.z84]; omega)) (G1.tr g ⟨fun a q => up2_of q, rfl⟩) ?_ _
    rw [insR]
    exact HB.fin hb (fun k => by dsimp only; rw [up2_same]; rfl)
  | cons y A ih =>
    intro B h z g hb hA hl hq
    have yc := hA y (by simp)
    have ty := hb.top
    have evh : vm h = v := ((g.gy (by omega)).vm).trans ev
    rw [List.length_cons] at hl
    have t1 : (((A.length + 1 : Nat) : Int) - 1).toNat = A.length := by omega
    have t2 : (((A.length + 1 : Nat) : Int) + -1) = (A.length : Int) := by omega
    rw [e_239_18, List.length_cons]
    by_cases e : v 15 c < v 15 y
    · have d : decide (v 15 c < v 15 y) = true := decide_eq_true e
      simp (disch := first | assumption | omega) only [e_239_19, e_239_20, e_239_21, e_239_22, e_239_23, e_239_24, e_239_25, e_239_26, e_239_27, e_239_28, e_239_29, e_239_30, e_239_31, e_239_32, e_239_33, e_239_34, e_239_35, e_239_36, e_239_37, e_239_38, e_239_39, e_239_40, e_239_41, onI_s, onR_s, onL_s, gl_0, gl_n, gl_1, gl_2, gl_3, gl_4, gl_5, gl_6, gl_7, gl_8, gl_9, gl_10, gl_11, gl_12, gl_13, gl_14, gl_15, gl_16, gl_17, sk0i, sk0r, sk0n, sk1i, sk1r, sk1n, sk_2, sk_3, sk_4, sk_5, sk_6, sk_7, sk_8, sk_9, sk_10, sk_11, sk_12, sk_13, sk_14, sk_15, sk_16, sk_17, ls_0, ls_1, ls_2, ls_3, ls_4, ls_5, ls_6, ls_7, ls_8, ls_9, ls_10, ls_11, ls_12, ls_13, ls_14, ls_15, ls_16, ls_17, ct1_i, ct1_r, wd8_0, wd8_i1, wd8_r1, wd8_i2, wd8_r2, wd8_i3, wd8_r3, wd8_i4, wd8_r4, wd8_i5, wd8_r5, wd8_i6, wd8_r6, wd8_i7, wd8_r7, wd8_i8, wd8_r8, wd8_l2, wd8_l3, wd8_l4, wd8_l5, wd8_l6, wd8_l7, wd8_l8, tl_s, tl_n, inR_t, bd_t, true_and, and_true, true_or, or_true, if_true_x, if_false_x, if_pos, if_neg, Int.toNat_natCast, natL, bI_0, bI_1, bI_ft, eq_self, b_tf, b_ft, not_true_eq_false, not_false_eq_true, t1, t2, ty, m_238 hc hcN (show y ≤ c by omega), evh, d, hc.t70, hc.r70_4, hc.r70_5, hc.r70_6, hc.r70_7, hc.r70_8, hc.r70_10, hc.r70_11, hc.r70_12, hc.r70_14, hc.r70_15, hc.r70_16, hc.r70_17, hc.r70_19, hc.r70_21, hc.r70_23, hc.r70_24, hc.r70_26, hc.r70_27, hc.r70_28, hc.r70_29, hc.r70_30, hc.r70_31, hc.r70_32, hc.r70_33, hc.r70_36, hc.t84, hc.z84]
      refine ih (y :: B) (up2 h.1 84 (A.length + 1) y, h.2) (NZ.up (I := h.1) (F := h.2) z (by rw [hc.z84]; omega)) (G1.tr g ⟨fun a q => up2_of q, rfl⟩) (HB.step hb (fun k => by dsimp only; rw [up2_same])) (fun x hx => hA x (by simp [hx])) (by rw [List.length_cons]; omega) (fun h2 z2 g2 s2 => hq h2 z2 g2 (by rw [insR, if_pos e]; exact s2))
    · have d : decide (v 15 c < v 15 y) = false := decide_eq_false e
      simp (disch := first | assumption | omega) only [e_239_19, e_239_20, e_239_21, e_239_22, e_239_23, e_239_24, e_239_25, e_239_26, e_239_27, e_239_28, e_239_29, e_239_42, e_239_43, e_239_44, e_239_45, e_239_46, onI_s, onR_s, onL_s, gl_0, gl_n, gl_1, gl_2, gl_3, gl_4, gl_5, gl_6, gl_7, gl_8, gl_9, gl_10, gl_11, gl_12, gl_13, gl_14, gl_15, gl_16, gl_17, sk0i, sk0r, sk0n, sk1i, sk1r, sk1n, sk_2, sk_3, sk_4, sk_5, sk_6, sk_7, sk_8, sk_9, sk_10, sk_11, sk_12, sk_13, sk_14, sk_15, sk_16, sk_17, ls_0, ls_1, ls_2, ls_3, ls_4, ls_5, ls_6, ls_7, ls_8, ls_9, ls_10, ls_11, ls_12, ls_13, ls_14, ls_15, ls_16, ls_17, ct1_i, ct1_r, wd8_0, wd8_i1, wd8_r1, wd8_i2, wd8_r2, wd8_i3, wd8_r3, wd8_i4, wd8_r4, wd8_i5, wd8_r5, wd8_i6, wd8_r6, wd8_i7, wd8_r7, wd8_i8, wd8_r8, wd8_l2, wd8_l3, wd8_l4, wd8_l5, wd8_l6, wd8_l7, wd8_l8, tl_s, tl_n, inR_t, bd_t, true_and, and_true, true_or, or_true, if_true_x, if_false_x, if_pos, if_neg, Int.toNat_natCast, natL, bI_0, bI_1, bI_ft, eq_self, b_tf, b_ft, not_true_eq_false, not_false_eq_true, t1, t2, ty, m_238 hc hcN (show y ≤ c by omega), evh, d, hc.t70, hc.r70_4, hc.r70_5, hc.r70_6, hc.r70_7, hc.r70_8, hc.r70_10, hc.r70_11, hc.r70_12, hc.r70_14, hc.r70_15, hc.r70_16, hc.r70_17, hc.r70_19, hc.r70_21, hc.r70_23, hc.r70_24, hc.r70_26, hc.r70_27, hc.r70_28, hc.r70_29, hc.r70_30, hc.r70_31, hc.r70_32, hc.r70_33, hc.r70_36, hc.t84, hc.z84]
      refine hq (up2 h.1 84 (A.length + 1) c, h.2) (NZ.up (I := h.1) (F := h.2) z (by rw [hc.z84]; omega)) (G1.tr g ⟨fun a q => up2_of q, rfl⟩) ?_ _
      rw [insR, if_neg e]
      exact HB.fin hb (fun k => by dsimp only; rw [up2_same]; rfl)
set_option maxHeartbeats 8000000 in
theorem m_239 (hc : CT X ns nb ln) {h0 : xH} {v : Nat → Nat → Int} (ev : vm h0 = v) (w : RGv v) (z : NZ X h0) (hq : ∀ h2, OM X h0 h2 (ordQ v (v 11 0).toNat) → Q none h2) : Cl X 239 [vr 70] h0 Q := by
  have nC := w.nC
  obtain ⟨N, hN⟩ : ∃ N : Nat, v 11 0 = N := ⟨(v 11 0).toNat, by omega⟩
  rw [hN, Int.toNat_natCast] at hq
  have lp : ∀ (m c : Nat) (h : xH) (x2 : Option xV), c + m = N → OM X h0 h (ordQ v c) → Ev X 239 5 [some (vr 70), some (vi c), x2] [] h Q := by
    intro m
    induction m with
    | zero =>
      intro c h x2 hm s
      have evh : vm h = v := s.2.1.gy.vm.trans ev
      rw [e_239_5]
      simp (disch := first | assumption | omega) only [e_239_6, e_239_7, e_239_8, e_239_9, e_239_10, e_239_55, onI_s, onR_s, onL_s, gl_0, gl_n, gl_1, gl_2, gl_3, gl_4, gl_5, gl_6, gl_7, gl_8, gl_9, gl_10, gl_11, gl_12, gl_13, gl_14, gl_15, gl_16, gl_17, sk0i, sk0r, sk0n, sk1i, sk1r, sk1n, sk_2, sk_3, sk_4, sk_5, sk_6, sk_7, sk_8, sk_9, sk_10, sk_11, sk_12, sk_13, sk_14, sk_15, sk_16, sk_17, ls_0, ls_1, ls_2, ls_3, ls_4, ls_5, ls_6, ls_7, ls_8, ls_9, ls_10, ls_11, ls_12, ls_13, ls_14, ls_15, ls_16, ls_17, ct1_i, ct1_r, wd8_0, wd8_i1, wd8_r1, wd8_i2, wd8_r2, wd8_i3, wd8_r3, wd8_i4, wd8_r4, wd8_i5, wd8_r5, wd8_i6, wd8_r6, wd8_i7, wd8_r7, wd8_i8, wd8_r8, wd8_l2, wd8_l3, wd8_l4, wd8_l5, wd8_l6, wd8_l7, wd8_l8, tl_s, tl_n, inR_t, bd_t, true_and, and_true, true_or, or_true, if_true_x, if_false_x, if_pos, if_neg, Int.toNat_natCast, natL, bI_0, bI_1, bI_ft, eq_self, b_tf, b_ft, not_true_eq_false, not_false_eq_true, tn_2, vm_nC, evh, hN, hc.t70, hc.r70_4, hc.r70_5, hc.r70_6, hc.r70_7, hc.r70_8, hc.r70_10, hc.r70_11, hc.r70_12, hc.r70_14, hc.r70_15, hc.r70_16, hc.r70_17, hc.r70_19, hc.r70_21, hc.r70_23, hc.r70_24, hc.r70_26, hc.r70_27, hc.r70_28, hc.r70_29, hc.r70_30, hc.r70_31, hc.r70_32, hc.r70_33, hc.r70_36, hc.t73, hc.z73]
      rw [show N = c by omega] at hq
      exact hq h s
    | succ m ih =>
      intro c h x2 hm s
      have evh : vm h = v := s.2.1.gy.vm.trans ev
      have c20 : c < 20 := by omega
      have ll := ordQ_len (v := v) c
      have n3 := s.2.2.1
      rw [e_239_5]
      by_cases e : v 14 c = 0
      · have eL : ordQ v (c + 1) = insL (v 15) c (ordQ v c) := by rw [ordQ, if_pos e]
        have d : decide (v 14 c = 1) = false := by simp [e]
        simp (disch := first | assumption | omega) only [e_239_6, e_239_7, e_239_8, e_239_9, e_239_10, e_239_11, e_239_12, e_239_13, e_239_14, e_239_15, e_239_16, e_239_17, onI_s, onR_s, onL_s, gl_0, gl_n, gl_1, gl_2, gl_3, gl_4, gl_5, gl_6, gl_7, gl_8, gl_9, gl_10, gl_11, gl_12, gl_13, gl_14, gl_15, gl_16, gl_17, sk0i, sk0r, sk0n, sk1i, sk1r, sk1n, sk_2, sk_3, sk_4, sk_5, sk_6, sk_7, sk_8, sk_9, sk_10, sk_11, sk_12, sk_13, sk_14, sk_15, sk_16, sk_17, ls_0, ls_1, ls_2, ls_3, ls_4, ls_5, ls_6, ls_7, ls_8, ls_9, ls_10, ls_11, ls_12, ls_13, ls_14, ls_15, ls_16, ls_17, ct1_i, ct1_r, wd8_0, wd8_i1, wd8_r1, wd8_i2, wd8_r2, wd8_i3, wd8_r3, wd8_i4, wd8_r4, wd8_i5, wd8_r5, wd8_i6, wd8_r6, wd8_i7, wd8_r7, wd8_i8, wd8_r8, wd8_l2, wd8_l3, wd8_l4, wd8_l5, wd8_l6, wd8_l7, wd8_l8, tl_s, tl_n, inR_t, bd_t, true_and, and_true, true_or, or_true, if_true_x, if_false_x, if_pos, if_neg, Int.toNat_natCast, natL, bI_0, bI_1, bI_ft, eq_self, b_tf, b_ft, not_true_eq_false, not_false_eq_true, tn_2, vm_nC, evh, hN, m_162 hc, d, n3, Int.toNat_natCast, hc.t70, hc.r70_4, hc.r70_5, hc.r70_6, hc.r70_7, hc.r70_8, hc.r70_10, hc.r70_11, hc.r70_12, hc.r70_14, hc.r70_15, hc.r70_16, hc.r70_17, hc.r70_19, hc.r70_21, hc.r70_23, hc.r70_24, hc.r70_26, hc.r70_27, hc.r70_28, hc.r70_29, hc.r70_30, hc.r70_31, hc.r70_32, hc.r70_33, hc.r70_36, hc.t73, hc.z73]
        have q := i_239 (Q := Q) hc (h0 := h) evh c20 (ordQ v c).reverse [] h s.1 G1.refl ⟨by rw [List.reverse_reverse]; exact s.2.2.2, fun k x q => by simp at q⟩ (fun x hx => by
          have := (ordQ_mem c).mp (List.mem_reverse.mp hx)
          omega) (by simp; omega) (fun h2 z2 g2 s2 x2 => by
            have n2 : h2.2 70 22 = (ordQ v c).length := by rw [g2.2]; exact n3
            rw [e_239_47]
            simp (disch := first | assumption | omega) only [e_239_48, e_239_49, e_239_50, e_239_51, e_239_52, e_239_53, e_239_54, onI_s, onR_s, onL_s, gl_0, gl_n, gl_1, gl_2, gl_3, gl_4, gl_5, gl_6, gl_7, gl_8, gl_9, gl_10, gl_11, gl_12, gl_13, gl_14, gl_15, gl_16, gl_17, sk0i, sk0r, sk0n, sk1i, sk1r, sk1n, sk_2, sk_3, sk_4, sk_5, sk_6, sk_7, sk_8, sk_9, sk_10, sk_11, sk_12, sk_13, sk_14, sk_15, sk_16, sk_17, ls_0, ls_1, ls_2, ls_3, ls_4, ls_5, ls_6, ls_7, ls_8, ls_9, ls_10, ls_11, ls_12, ls_13, ls_14, ls_15, ls_16, ls_17, ct1_i, ct1_r, wd8_0, wd8_i1, wd8_r1, wd8_i2, wd8_r2, wd8_i3, wd8_r3, wd8_i4, wd8_r4, wd8_i5, wd8_r5, wd8_i6, wd8_r6, wd8_i7, wd8_r7, wd8_i8, wd8_r8, wd8_l2, wd8_l3, wd8_l4, wd8_l5, wd8_l6, wd8_l7, wd8_l8, tl_s, tl_n, inR_t, bd_t, true_and, and_true, true_or, or_true, if_true_x, if_false_x, if_pos, if_neg, Int.toNat_natCast, natL, bI_0, bI_1, bI_ft, eq_self, b_tf, b_ft, not_true_eq_false, not_false_eq_true, n2, cast_s, hc.t70, hc.r70_4, hc.r70_5, hc.r70_6, hc.r70_7, hc.r70_8, hc.r70_10, hc.r70_11, hc.r70_12, hc.r70_14, hc.r70_15, hc.r70_16, hc.r70_17, hc.r70_19, hc.r70_21, hc.r70_23, hc.r70_24, hc.r70_26, hc.r70_27, hc.r70_28, hc.r70_29, hc.r70_30, hc.r70_31, hc.r70_32, hc.r70_33, hc.r70_36]
            refine ih (c + 1) (h2.1, up2 h2.2 70 22 (((ordQ v c).length + 1 : Nat) : Int)) x2 (by omega) ⟨z2, GQ.tr s.2.1 ⟨fun a q => g2.1 a q, fun a k q => by dsimp only; rw [up2_eq, if_neg q, g2.2]⟩, ?_, by rw [eL]; exact s2⟩
            dsimp only
            rw [up2_self, eL, insL_len])
        rw [List.length_reverse] at q
        exact q
      · have eL : ordQ v (c + 1) = ordQ v c := by rw [ordQ, if_neg e]
        have d : decide (v 14 c = 1) = true := by
          have := w.fix c
          simp
          omega
        simp (disch := first | assumption | omega) only [e_239_6, e_239_7, e_239_8, e_239_9, e_239_10, e_239_11, e_239_12, e_239_13, e_239_14, e_239_53, e_239_54, onI_s, onR_s, onL_s, gl_0, gl_n, gl_1, gl_2, gl_3, gl_4, gl_5, gl_6, gl_7, gl_8, gl_9, gl_10, gl_11, gl_12, gl_13, gl_14, gl_15, gl_16, gl_17, sk0i, sk0r, sk0n, sk1i, sk1r, sk1n, sk_2, sk_3, sk_4, sk_5, sk_6, sk_7, sk_8, sk_9, sk_10, sk_11, sk_12, sk_13, sk_14, sk_15, sk_16, sk_17, ls_0, ls_1, ls_2, ls_3, ls_4, ls_5, ls_6, ls_7, ls_8, ls_9, ls_10, ls_11, ls_12, ls_13, ls_14, ls_15, ls_16, ls_17, ct1_i, ct1_r, wd8_0, wd8_i1, wd8_r1, wd8_i2, wd8_r2, wd8_i3, wd8_r3, wd8_i4, wd8_r4, wd8_i5, wd8_r5, wd8_i6, wd8_r6, wd8_i7, wd8_r7, wd8_i8, wd8_r8, wd8_l2, wd8_l3, wd8_l4, wd8_l5, wd8_l6, wd8_l7, wd8_l8, tl_s, tl_n, inR_t, bd_t, true_and, and_true, true_or, or_true, if_true_x, if_false_x, if_pos, if_neg, Int.toNat_natCast, natL, bI_0, bI_1, bI_ft, eq_self, b_tf, b_ft, not_true_eq_false, not_false_eq_true, tn_2, vm_nC, evh, hN, m_162 hc, d, Int.toNat_natCast, cast_s, hc.t70, hc.r70_4, hc.r70_5, hc.r70_6, hc.r70_7, hc.r70_8, hc.r70_10, hc.r70_11, hc.r70_12, hc.r70_14, hc.r70_15, hc.r70_16, hc.r70_17, hc.r70_19, hc.r70_21, hc.r70_23, hc.r70_24, hc.r70_26, hc.r70_27, hc.r70_28, hc.r70_29, hc.r70_30, hc.r70_31, hc.r70_32, hc.r70_33, hc.r70_36, hc.t73, hc.z73]
        exact ih (c + 1) h x2 (by omega) (by rw [eL]; exact s)
  rw [c_239]
  simp (disch := first | assumption | omega) only [e_239_0, e_239_1, e_239_2, e_239_3, e_239_4, onI_s, onR_s, onL_s, gl_0, gl_n, gl_1, gl_2, gl_3, gl_4, gl_5, gl_6, gl_7, gl_8, gl_9, gl_10, gl_11, gl_12, gl_13, gl_14, gl_15, gl_16, gl_17, sk0i, sk0r, sk0n, sk1i, sk1r, sk1n, sk_2, sk_3, sk_4, sk_5, sk_6, sk_7, sk_8, sk_9, sk_10, sk_11, sk_12, sk_13, sk_14, sk_15, sk_16, sk_17, ls_0, ls_1, ls_2, ls_3, ls_4, ls_5, ls_6, ls_7, ls_8, ls_9, ls_10, ls_11, ls_12, ls_13, ls_14, ls_15, ls_16, ls_17, ct1_i, ct1_r, wd8_0, wd8_i1, wd8_r1, wd8_i2, wd8_r2, wd8_i3, wd8_r3, wd8_i4, wd8_r4, wd8_i5, wd8_r5, wd8_i6, wd8_r6, wd8_i7, wd8_r7, wd8_i8, wd8_r8, wd8_l2, wd8_l3, wd8_l4, wd8_l5, wd8_l6, wd8_l7, wd8_l8, tl_s, tl_n, inR_t, bd_t, true_and, and_true, true_or, or_true, if_true_x, if_false_x, if_pos, if_neg, Int.toNat_natCast, natL, bI_0, bI_1, bI_ft, eq_self, b_tf, b_ft, not_true_eq_false, not_false_eq_true, hc.t70, hc.r70_4, hc.r70_5, hc.r70_6, hc.r70_7, hc.r70_8, hc.r70_10, hc.r70_11, hc.r70_12, hc.r70_14, hc.r70_15, hc.r70_16, hc.r70_17, hc.r70_19, hc.r70_21, hc.r70_23, hc.r70_24, hc.r70_26, hc.r70_27, hc.r70_28, hc.r70_29, hc.r70_30, hc.r70_31, hc.r70_32, hc.r70_33, hc.r70_36]
  refine lp N 0 (h0.1, up2 h0.2 70 22 0) none (by omega) ⟨z, ⟨fun _ _ => rfl, fun a k q => by dsimp only; rw [up2_eq, if_neg q]⟩, ?_, R1.nil⟩
  dsimp only
  rw [up2_self]
  rfl
theorem UM.snoc (hc : CT X ns nb ln) {h0 h : xH} {L : List Nat} (s : UM X h0 h L) (hn : L.length < 21) {x : Nat} : UM X h0 (up2 h.1 86 L.length x, up2 h.2 70 25 ((L.length : Int) + 1)) (L ++ [x]) := by
  refine ⟨NZ.up (F := h.2) s.1 (by rw [hc.z86]; exact hn), ⟨fun b q => ?_, fun b k q => ?_⟩, ?_, ?_⟩
  · dsimp only
    rw [up2_of q]
    exact s.2.1.1 b q
  · dsimp only
    rw [up2_eq, if_neg q]
    exact s.2.1.2 b k q
  · dsimp only
    rw [up2_self]
    simp
  · exact R1.snoc s.2.2.2 (fun k => by dsimp only; rw [up2_same])
set_option maxHeartbeats 8000000 in
theorem m_236 (hc : CT X ns nb ln) {h0 : xH} {run : Nat} {go : List (Nat × Nat)} (g20 : go.length ≤ 20) (gw : GW (h0.1 84) (h0.1 85) go) (z : NZ X h0) {more : Int} {E : List Nat} (hE : (more = -1 ∧ E = []) ∨ ∃ c : Nat, more = c ∧ E = [c]) (hq : ∀ h2, UM X h0 h2 (smK go run ++ E) → Q none h2) : Cl X 236 [vr 70, vi run, vi (go.length : Int), vi more] h0 Q := by
  have lp : ∀ (M : List (Nat × Nat)) (i : Nat) (A : List (Nat × Nat)) (h : xH), A ++ M = go → i = A.length → UM X h0 h (smK A run) → Ev X 236 5 [some (vr 70), some (vi run), some (vi (go.length : Int)), some (vi more), some (vi i)] [] h Q := by
    intro M
    induction M with
    | nil =>
      intro i A h eA ei s
      rw [List.append_nil] at eA
      rw [eA] at ei s
      have sl := smK_len (go := go) (k := run)
      have n3 := s.2.2.1
      rw [e_236_5]
      rcases hE with ⟨e1, e2⟩ | ⟨c, e1, e2⟩
      · rw [e2, List.append_nil] at hq
        simp (disch := first | assumption | omega) only [e_236_6, e_236_7, e_236_34, e_236_35, e_236_36, e_236_49, onI_s, onR_s, onL_s, gl_0, gl_n, gl_1, gl_2, gl_3, gl_4, gl_5, gl_6, gl_7, gl_8, gl_9, gl_10, gl_11, gl_12, gl_13, gl_14, gl_15, gl_16, gl_17, sk0i, sk0r, sk0n, sk1i, sk1r, sk1n, sk_2, sk_3, sk_4, sk_5, sk_6, sk_7, sk_8, sk_9, sk_10, sk_11, sk_12, sk_13, sk_14, sk_15, sk_16, sk_17, ls_0, ls_1, ls_2, ls_3, ls_4, ls_5, ls_6, ls_7, ls_8, ls_9, ls_10, ls_11, ls_12, ls_13, ls_14, ls_15, ls_16, ls_17, ct1_i, ct1_r, wd8_0, wd8_i1, wd8_r1, wd8_i2, wd8_r2, wd8_i3, wd8_r3, wd8_i4, wd8_r4, wd8_i5, wd8_r5, wd8_i6, wd8_r6, wd8_i7, wd8_r7, wd8_i8, wd8_r8, wd8_l2, wd8_l3, wd8_l4, wd8_l5, wd8_l6, wd8_l7, wd8_l8, tl_s, tl_n, inR_t, bd_t, true_and, and_true, true_or, or_true, if_true_x, if_false_x, if_pos, if_neg, Int.toNat_natCast, natL, bI_0, bI_1, bI_ft, eq_self, b_tf, b_ft, not_true_eq_false, not_false_eq_true, e1]
        exact hq h s
      · have e3 : ¬ (c : Int) = -1 := by omega
        rw [e2] at hq
        rw [e1]
        simp (disch := first | assumption | omega) only [e_236_6, e_236_7, e_236_34, e_236_35, e_236_36, e_236_37, e_236_38, e_236_39, e_236_40, e_236_41, e_236_42, e_236_43, e_236_44, e_236_45, e_236_46, e_236_47, e_236_48, e_236_49, onI_s, onR_s, onL_s, gl_0, gl_n, gl_1, gl_2, gl_3, gl_4, gl_5, gl_6, gl_7, gl_8, gl_9, gl_10, gl_11, gl_12, gl_13, gl_14, gl_15, gl_16, gl_17, sk0i, sk0r, sk0n, sk1i, sk1r, sk1n, sk_2, sk_3, sk_4, sk_5, sk_6, sk_7, sk_8, sk_9, sk_10, sk_11, sk_12, sk_13, sk_14, sk_15, sk_16, sk_17, ls_0, ls_1, ls_2, ls_3, ls_4, ls_5, ls_6, ls_7, ls_8, ls_9, ls_10, ls_11, ls_12, ls_13, ls_14, ls_15, ls_16, ls_17, ct1_i, ct1_r, wd8_0, wd8_i1, wd8_r1, wd8_i2, wd8_r2, wd8_i3, wd8_r3, wd8_i4, wd8_r4, wd8_i5, wd8_r5, wd8_i6, wd8_r6, wd8_i7, wd8_r7, wd8_i8, wd8_r8, wd8_l2, wd8_l3, wd8_l4, wd8_l5, wd8_l6, wd8_l7, wd8_l8, tl_s, tl_n, inR_t, bd_t, true_and, and_true, true_or, or_true, if_true_x, if_false_x, if_pos, if_neg, Int.toNat_natCast, natL, bI_0, bI_1, bI_ft, eq_self, b_tf, b_ft, not_true_eq_false, not_false_eq_true, e3, n3, hc.t70, hc.r70_4, hc.r70_5, hc.r70_6, hc.r70_7, hc.r70_8, hc.r70_10, hc.r70_11, hc.r70_12, hc.r70_14, hc.r70_15, hc.r70_16, hc.r70_17, hc.r70_19, hc.r70_21, hc.r70_23, hc.r70_24, hc.r70_26, hc.r70_27, hc.r70_28, hc.r70_29, hc.r70_30, hc.r70_31, hc.r70_32, hc.r70_33, hc.r70_36, hc.t86, hc.z86]
        exact hq _ (UM.snoc hc s (by omega))
    | cons x M ih =>
      intro i A h eA ei s
      have le : A.length + (M.length + 1) = go.length := by rw [← eA]; simp
      have hx : go[i]? = some x := by rw [← eA, ei]; simp
      obtain ⟨q1, q2, q3⟩ := gw i x hx
      have e30 : h.1 84 i = x.1 := by rw [s.2.1.1 84 (by omega)]; exact q1
      have e31 : h.1 85 x.1 = x.2 := by rw [s.2.1.1 85 (by omega)]; exact q2
      have sl := smK_len (go := A) (k := run)
      have sA := smK_app (go := A) (c := x.1) (k := x.2) (j := run)
      have n3 := s.2.2.1
      have iE : i < go.length := by omega
      rw [e_236_5]
      by_cases e : x.2 = run
      · rw [if_pos e] at sA
        have e31' : h.1 85 x.1 = run := by rw [e31, e]
        simp (disch := first | assumption | omega) only [e_236_6, e_236_7, e_236_8, e_236_9, e_236_10, e_236_11, e_236_12, e_236_13, e_236_14, e_236_15, e_236_16, e_236_17, e_236_18, e_236_19, e_236_20, e_236_21, e_236_22, e_236_23, e_236_24, e_236_25, e_236_26, e_236_27, e_236_28, e_236_29, e_236_30, e_236_31, onI_s, onR_s, onL_s, gl_0, gl_n, gl_1, gl_2, gl_3, gl_4, gl_5, gl_6, gl_7, gl_8, gl_9, gl_10, gl_11, gl_12, gl_13, gl_14, gl_15, gl_16, gl_17, sk0i, sk0r, sk0n, sk1i, sk1r, sk1n, sk_2, sk_3, sk_4, sk_5, sk_6, sk_7, sk_8, sk_9, sk_10, sk_11, sk_12, sk_13, sk_14, sk_15, sk_16, sk_17, ls_0, ls_1, ls_2, ls_3, ls_4, ls_5, ls_6, ls_7, ls_8, ls_9, ls_10, ls_11, ls_12, ls_13, ls_14, ls_15, ls_16, ls_17, ct1_i, ct1_r, wd8_0, wd8_i1, wd8_r1, wd8_i2, wd8_r2, wd8_i3, wd8_r3, wd8_i4, wd8_r4, wd8_i5, wd8_r5, wd8_i6, wd8_r6, wd8_i7, wd8_r7, wd8_i8, wd8_r8, wd8_l2, wd8_l3, wd8_l4, wd8_l5, wd8_l6, wd8_l7, wd8_l8, tl_s, tl_n, inR_t, bd_t, true_and, and_true, true_or, or_true, if_true_x, if_false_x, if_pos, if_neg, Int.toNat_natCast, natL, bI_0, bI_1, bI_ft, eq_self, b_tf, b_ft, not_true_eq_false, not_false_eq_true, e30, e31', n3, hc.t70, hc.r70_4, hc.r70_5, hc.r70_6, hc.r70_7, hc.r70_8, hc.r70_10, hc.r70_11, hc.r70_12, hc.r70_14, hc.r70_15, hc.r70_16, hc.r70_17, hc.r70_19, hc.r70_21, hc.r70_23, hc.r70_24, hc.r70_26, hc.r70_27, hc.r70_28, hc.r70_29, hc.r70_30, hc.r70_31, hc.r70_32, hc.r70_33, hc.r70_36, hc.t84, hc.z84, hc.t85, hc.z85, hc.t86, hc.z86]
        rw [e_236_32]
        simp (disch := first | assumption | omega) only [e_236_33, onI_s, onR_s, onL_s, gl_0, gl_n, gl_1, gl_2, gl_3, gl_4, gl_5, gl_6, gl_7, gl_8, gl_9, gl_10, gl_11, gl_12, gl_13, gl_14, gl_15, gl_16, gl_17, sk0i, sk0r, sk0n, sk1i, sk1r, sk1n, sk_2, sk_3, sk_4, sk_5, sk_6, sk_7, sk_8, sk_9, sk_10, sk_11, sk_12, sk_13, sk_14, sk_15, sk_16, sk_17, ls_0, ls_1, ls_2, ls_3, ls_4, ls_5, ls_6, ls_7, ls_8, ls_9, ls_10, ls_11, ls_12, ls_13, ls_14, ls_15, ls_16, ls_17, ct1_i, ct1_r, wd8_0, wd8_i1, wd8_r1, wd8_i2, wd8_r2, wd8_i3, wd8_r3, wd8_i4, wd8_r4, wd8_i5, wd8_r5, wd8_i6, wd8_r6, wd8_i7, wd8_r7, wd8_i8, wd8_r8, wd8_l2, wd8_l3, wd8_l4, wd8_l5, wd8_l6, wd8_l7, wd8_l8, tl_s, tl_n, inR_t, bd_t, true_and, and_true, true_or, or_true, if_true_x, if_false_x, if_pos, if_neg, Int.toNat_natCast, natL, bI_0, bI_1, bI_ft, eq_self, b_tf, b_ft, not_true_eq_false, not_false_eq_true, cast_s]
        exact ih (i + 1) (A ++ [x]) _ (by rw [← eA]; simp) (by simp [ei]) (by
          rw [show A ++ [x] = A ++ [(x.1, x.2)] from rfl, sA]
          exact UM.snoc hc s (by omega))
      · rw [if_neg e] at sA
        have e' : ¬ ((x.2 : Nat) : Int) = run := by omega
        simp (disch := first | assumption | omega) only [e_236_6, e_236_7, e_236_8, e_236_9, e_236_10, e_236_11, e_236_12, e_236_13, e_236_14, e_236_15, e_236_16, e_236_32, e_236_33, onI_s, onR_s, onL_s, gl_0, gl_n, gl_1, gl_2, gl_3, gl_4, gl_5, gl_6, gl_7, gl_8, gl_9, gl_10, gl_11, gl_12, gl_13, gl_14, gl_15, gl_16, gl_17, sk0i, sk0r, sk0n, sk1i, sk1r, sk1n, sk_2, sk_3, sk_4, sk_5, sk_6, sk_7, sk_8, sk_9, sk_10, sk_11, sk_12, sk_13, sk_14, sk_15, sk_16, sk_17, ls_0, ls_1, ls_2, ls_3, ls_4, ls_5, ls_6, ls_7, ls_8, ls_9, ls_10, ls_11, ls_12, ls_13, ls_14, ls_15, ls_16, ls_17, ct1_i, ct1_r, wd8_0, wd8_i1, wd8_r1, wd8_i2, wd8_r2, wd8_i3, wd8_r3, wd8_i4, wd8_r4, wd8_i5, wd8_r5, wd8_i6, wd8_r6, wd8_i7, wd8_r7, wd8_i8, wd8_r8, wd8_l2, wd8_l3, wd8_l4, wd8_l5, wd8_l6, wd8_l7, wd8_l8, tl_s, tl_n, inR_t, bd_t, true_and, and_true, true_or, or_true, if_true_x, if_false_x, if_pos, if_neg, Int.toNat_natCast, natL, bI_0, bI_1, bI_ft, eq_self, b_tf, b_ft, not_true_eq_false, not_false_eq_true, e30, e31, e', cast_s, hc.t70, hc.r70_4, hc.r70_5, hc.r70_6, hc.r70_7, hc.r70_8, hc.r70_10, hc.r70_11, hc.r70_12, hc.r70_14, hc.r70_15, hc.r70_16, hc.r70_17, hc.r70_19, hc.r70_21, hc.r70_23, hc.r70_24, hc.r70_26, hc.r70_27, hc.r70_28, hc.r70_29, hc.r70_30, hc.r70_31, hc.r70_32, hc.r70_33, hc.r70_36, hc.t84, hc.z84, hc.t85, hc.z85, hc.t86, hc.z86]
        exact ih (i + 1) (A ++ [x]) h (by rw [← eA]; simp) (by simp [ei]) (by rw [show A ++ [x] = A ++ [(x.1, x.2)] from rfl, sA]; exact s)
  rw [c_236]
  simp (disch := first | assumption | omega) only [e_236_0, e_236_1, e_236_2, e_236_3, e_236_4, onI_s, onR_s, onL_s, gl_0, gl_n, gl_1, gl_2, gl_3, gl_4, gl_5, gl_6, gl_7, gl_8, gl_9, gl_10, gl_11, gl_12, gl_13, gl_14, gl_15, gl_16, gl_17, sk0i, sk0r, sk0n, sk1i, sk1r, sk1n, sk_2, sk_3, sk_4, sk_5, sk_6, sk_7, sk_8, sk_9, sk_10, sk_11, sk_12, sk_13, sk_14, sk_15, sk_16, sk_17, ls_0, ls_1, ls_2, ls_3, ls_4, ls_5, ls_6, ls_7, ls_8, ls_9, ls_10, ls_11, ls_12, ls_13, ls_14, ls_15, ls_16, ls_17, ct1_i, ct1_r, wd8_0, wd8_i1, wd8_r1, wd8_i2, wd8_r2, wd8_i3, wd8_r3, wd8_i4, wd8_r4, wd8_i5, wd8_r5, wd8_i6, wd8_r6, wd8_i7, wd8_r7, wd8_i8, wd8_r8, wd8_l2, wd8_l3, wd8_l4, wd8_l5, wd8_l6, wd8_l7, wd8_l8, tl_s, tl_n, inR_t, bd_t, true_and, and_true, true_or, or_true, if_true_x, if_false_x, if_pos, if_neg, Int.toNat_natCast, natL, bI_0, bI_1, bI_ft, eq_self, b_tf, b_ft, not_true_eq_false, not_false_eq_true, hc.t70, hc.r70_4, hc.r70_5, hc.r70_6, hc.r70_7, hc.r70_8, hc.r70_10, hc.r70_11, hc.r70_12, hc.r70_14, hc.r70_15, hc.r70_16, hc.r70_17, hc.r70_19, hc.r70_21, hc.r70_23, hc.r70_24, hc.r70_26, hc.r70_27, hc.r70_28, hc.r70_29, hc.r70_30, hc.r70_31, hc.r70_32, hc.r70_33, hc.r70_36]
  refine lp go 0 [] (h0.1, up2 h0.2 70 25 0) rfl rfl ⟨z, ⟨fun _ _ => rfl, fun a k q => by dsimp only; rw [up2_eq, if_neg q]⟩, ?_, R1.nil⟩
  dsimp only
  rw [up2_self]
  rfl
end PKR
