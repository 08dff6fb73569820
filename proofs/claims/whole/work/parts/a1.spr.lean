/-! SPREAD of the reference -/
def SR (X : xL) (h0 h : xH) (v : Nat → Nat → Int) (c : Nat) (w : Nat → Nat → Int) : Prop := NZ X h ∧ M73 h0 h ∧ RBr (h.1 73) ∧ vm h = w ∧ (∃ x y, w = mvV v c x y) ∧ Gd w
theorem RBr_u24 {R : Nat → Nat → Int} {k : Nat} {x : Int} (r : RBr (R 73)) (hk : 24 ≤ k) : RBr (up2 R 73 k x 73) := by
  intro j hj
  have a := r j hj
  rw [up2_same, up2_same, up2_same, if_neg (by omega), if_neg (by omega), if_neg (by omega)]
  exact a
section SRF
variable {X : xL} {Q : Option xV → xH → Prop} {ns nb ln : Nat} {h h0 : xH} {v w : Nat → Nat → Int} {c : Nat}
set_option maxHeartbeats 1000000 in
theorem m_226 {k : Nat} : Cl X 226 [vi k] h Q ↔ Q (some (vi (trX k))) h := by
  rw [c_226]
  unfold trX
  by_cases e1 : k = 1
  · rw [if_pos e1]
    simp (disch := first | assumption | omega) only [e_226_0, e_226_1, e_226_2, e_226_3, e_226_4, e_226_11, onI_s, onR_s, onL_s, gl_0, gl_n, gl_1, gl_2, gl_3, gl_4, gl_5, gl_6, gl_7, gl_8, gl_9, gl_10, gl_11, gl_12, gl_13, gl_14, gl_15, gl_16, gl_17, sk0i, sk0r, sk0n, sk1i, sk1r, sk1n, sk_2, sk_3, sk_4, sk_5, sk_6, sk_7, sk_8, sk_9, sk_10, sk_11, sk_12, sk_13, sk_14, sk_15, sk_16, sk_17, ls_0, ls_1, ls_2, ls_3, ls_4, ls_5, ls_6, ls_7, ls_8, ls_9, ls_10, ls_11, ls_12, ls_13, ls_14, ls_15, ls_16, ls_17, ct1_i, ct1_r, wd8_0, wd8_i1, wd8_r1, wd8_i2, wd8_r2, wd8_i3, wd8_r3, wd8_i4, wd8_r4, wd8_i5, wd8_r5, wd8_i6, wd8_r6, wd8_i7, wd8_r7, wd8_i8, wd8_r8, wd8_l2, wd8_l3, wd8_l4, wd8_l5, wd8_l6, wd8_l7, wd8_l8, tl_s, tl_n, inR_t, bd_t, true_and, and_true, true_or, or_true, if_true_x, if_false_x, if_pos, if_neg, Int.toNat_natCast, natL, bI_0, bI_1, bI_ft, eq_self, b_tf, b_ft, not_true_eq_false, not_false_eq_true]
  · rw [if_neg e1]
    by_cases e2 : k = 2
    · rw [if_pos e2]
      simp (disch := first | assumption | omega) only [e_226_0, e_226_1, e_226_2, e_226_5, e_226_6, e_226_7, e_226_8, e_226_9, e_226_11, onI_s, onR_s, onL_s, gl_0, gl_n, gl_1, gl_2, gl_3, gl_4, gl_5, gl_6, gl_7, gl_8, gl_9, gl_10, gl_11, gl_12, gl_13, gl_14, gl_15, gl_16, gl_17, sk0i, sk0r, sk0n, sk1i, sk1r, sk1n, sk_2, sk_3, sk_4, sk_5, sk_6, sk_7, sk_8, sk_9, sk_10, sk_11, sk_12, sk_13, sk_14, sk_15, sk_16, sk_17, ls_0, ls_1, ls_2, ls_3, ls_4, ls_5, ls_6, ls_7, ls_8, ls_9, ls_10, ls_11, ls_12, ls_13, ls_14, ls_15, ls_16, ls_17, ct1_i, ct1_r, wd8_0, wd8_i1, wd8_r1, wd8_i2, wd8_r2, wd8_i3, wd8_r3, wd8_i4, wd8_r4, wd8_i5, wd8_r5, wd8_i6, wd8_r6, wd8_i7, wd8_r7, wd8_i8, wd8_r8, wd8_l2, wd8_l3, wd8_l4, wd8_l5, wd8_l6, wd8_l7, wd8_l8, tl_s, tl_n, inR_t, bd_t, true_and, and_true, true_or, or_true, if_true_x, if_false_x, if_pos, if_neg, Int.toNat_natCast, natL, bI_0, bI_1, bI_ft, eq_self, b_tf, b_ft, not_true_eq_false, not_false_eq_true]
    · rw [if_neg e2]
      simp (disch := first | assumption | omega) only [e_226_0, e_226_1, e_226_2, e_226_5, e_226_6, e_226_7, e_226_10, e_226_11, onI_s, onR_s, onL_s, gl_0, gl_n, gl_1, gl_2, gl_3, gl_4, gl_5, gl_6, gl_7, gl_8, gl_9, gl_10, gl_11, gl_12, gl_13, gl_14, gl_15, gl_16, gl_17, sk0i, sk0r, sk0n, sk1i, sk1r, sk1n, sk_2, sk_3, sk_4, sk_5, sk_6, sk_7, sk_8, sk_9, sk_10, sk_11, sk_12, sk_13, sk_14, sk_15, sk_16, sk_17, ls_0, ls_1, ls_2, ls_3, ls_4, ls_5, ls_6, ls_7, ls_8, ls_9, ls_10, ls_11, ls_12, ls_13, ls_14, ls_15, ls_16, ls_17, ct1_i, ct1_r, wd8_0, wd8_i1, wd8_r1, wd8_i2, wd8_r2, wd8_i3, wd8_r3, wd8_i4, wd8_r4, wd8_i5, wd8_r5, wd8_i6, wd8_r6, wd8_i7, wd8_r7, wd8_i8, wd8_r8, wd8_l2, wd8_l3, wd8_l4, wd8_l5, wd8_l6, wd8_l7, wd8_l8, tl_s, tl_n, inR_t, bd_t, true_and, and_true, true_or, or_true, if_true_x, if_false_x, if_pos, if_neg, Int.toNat_natCast, natL, bI_0, bI_1, bI_ft, eq_self, b_tf, b_ft, not_true_eq_false, not_false_eq_true]
set_option maxHeartbeats 1000000 in
theorem m_227 {k : Nat} : Cl X 227 [vi k] h Q ↔ Q (some (vi (trY k))) h := by
  rw [c_227]
  unfold trY
  by_cases e1 : k = 3
  · rw [if_pos e1]
    simp (disch := first | assumption | omega) only [e_227_0, e_227_1, e_227_2, e_227_3, e_227_4, e_227_11, onI_s, onR_s, onL_s, gl_0, gl_n, gl_1, gl_2, gl_3, gl_4, gl_5, gl_6, gl_7, gl_8, gl_9, gl_10, gl_11, gl_12, gl_13, gl_14, gl_15, gl_16, gl_17, sk0i, sk0r, sk0n, sk1i, sk1r, sk1n, sk_2, sk_3, sk_4, sk_5, sk_6, sk_7, sk_8, sk_9, sk_10, sk_11, sk_12, sk_13, sk_14, sk_15, sk_16, sk_17, ls_0, ls_1, ls_2, ls_3, ls_4, ls_5, ls_6, ls_7, ls_8, ls_9, ls_10, ls_11, ls_12, ls_13, ls_14, ls_15, ls_16, ls_17, ct1_i, ct1_r, wd8_0, wd8_i1, wd8_r1, wd8_i2, wd8_r2, wd8_i3, wd8_r3, wd8_i4, wd8_r4, wd8_i5, wd8_r5, wd8_i6, wd8_r6, wd8_i7, wd8_r7, wd8_i8, wd8_r8, wd8_l2, wd8_l3, wd8_l4, wd8_l5, wd8_l6, wd8_l7, wd8_l8, tl_s, tl_n, inR_t, bd_t, true_and, and_true, true_or, or_true, if_true_x, if_false_x, if_pos, if_neg, Int.toNat_natCast, natL, bI_0, bI_1, bI_ft, eq_self, b_tf, b_ft, not_true_eq_false, not_false_eq_true]
  · rw [if_neg e1]
    by_cases e2 : k = 4
    · rw [if_pos e2]
      simp (disch := first | assumption | omega) only [e_227_0, e_227_1, e_227_2, e_227_5, e_227_6, e_227_7, e_227_8, e_227_9, e_227_11, onI_s, onR_s, onL_s, gl_0, gl_n, gl_1, gl_2, gl_3, gl_4, gl_5, gl_6, gl_7, gl_8, gl_9, gl_10, gl_11, gl_12, gl_13, gl_14, gl_15, gl_16, gl_17, sk0i, sk0r, sk0n, sk1i, sk1r, sk1n, sk_2, sk_3, sk_4, sk_5, sk_6, sk_7, sk_8, sk_9, sk_10, sk_11, sk_12, sk_13, sk_14, sk_15, sk_16, sk_17, ls_0, ls_1, ls_2, ls_3, ls_4, ls_5, ls_6, ls_7, ls_8, ls_9, ls_10, ls_11, ls_12, ls_13, ls_14, ls_15, ls_16, ls_17, ct1_i, ct1_r, wd8_0, wd8_i1, wd8_r1, wd8_i2, wd8_r2, wd8_i3, wd8_r3, wd8_i4, wd8_r4, wd8_i5, wd8_r5, wd8_i6, wd8_r6, wd8_i7, wd8_r7, wd8_i8, wd8_r8, wd8_l2, wd8_l3, wd8_l4, wd8_l5, wd8_l6, wd8_l7, wd8_l8, tl_s, tl_n, inR_t, bd_t, true_and, and_true, true_or, or_true, if_true_x, if_false_x, if_pos, if_neg, Int.toNat_natCast, natL, bI_0, bI_1, bI_ft, eq_self, b_tf, b_ft, not_true_eq_false, not_false_eq_true]
    · rw [if_neg e2]
      simp (disch := first | assumption | omega) only [e_227_0, e_227_1, e_227_2, e_227_5, e_227_6, e_227_7, e_227_10, e_227_11, onI_s, onR_s, onL_s, gl_0, gl_n, gl_1, gl_2, gl_3, gl_4, gl_5, gl_6, gl_7, gl_8, gl_9, gl_10, gl_11, gl_12, gl_13, gl_14, gl_15, gl_16, gl_17, sk0i, sk0r, sk0n, sk1i, sk1r, sk1n, sk_2, sk_3, sk_4, sk_5, sk_6, sk_7, sk_8, sk_9, sk_10, sk_11, sk_12, sk_13, sk_14, sk_15, sk_16, sk_17, ls_0, ls_1, ls_2, ls_3, ls_4, ls_5, ls_6, ls_7, ls_8, ls_9, ls_10, ls_11, ls_12, ls_13, ls_14, ls_15, ls_16, ls_17, ct1_i, ct1_r, wd8_0, wd8_i1, wd8_r1, wd8_i2, wd8_r2, wd8_i3, wd8_r3, wd8_i4, wd8_r4, wd8_i5, wd8_r5, wd8_i6, wd8_r6, wd8_i7, wd8_r7, wd8_i8, wd8_r8, wd8_l2, wd8_l3, wd8_l4, wd8_l5, wd8_l6, wd8_l7, wd8_l8, tl_s, tl_n, inR_t, bd_t, true_and, and_true, true_or, or_true, if_true_x, if_false_x, if_pos, if_neg, Int.toNat_natCast, natL, bI_0, bI_1, bI_ft, eq_self, b_tf, b_ft, not_true_eq_false, not_false_eq_true]
theorem SR.ls (s : SR X h0 h v c w) (ls : ∀ b, b < nbn v → h0.1 95 b = sup v (b / nbC v) (b % nbC v)) : LSr h := by
  obtain ⟨_, m, _, e, ⟨x, y, exy⟩, _⟩ := s
  intro b hb
  rw [e, exy] at hb ⊢
  rw [nbn_mv] at hb
  rw [nbC_mv, sup_mv, m.1 95 (by omega)]
  exact ls b hb
theorem SR.t (s : SR X h0 h v c w) : h.1 72 = h0.1 72 := s.2.1.1 72 (by omega)
/-- two writes in the row of a cell -/
theorem SR.wr (s : SR X h0 h v c w) (c20 : c < 20) (hz : X.2.1 73 = 400) {p q : Int} (gd : Gd (mvV v c p q)) : SR X h0 (up2 (up2 h.1 73 (36 + 7 * c + 3) p) 73 (36 + 7 * c + 4) q, h.2) v c (mvV v c p q) := by
  obtain ⟨z, m, r, e, ⟨x, y, exy⟩, g⟩ := s
  refine ⟨NZ.up (I := up2 h.1 73 (36 + 7 * c + 3) p) (F := h.2) (NZ.up (I := h.1) (F := h.2) z (by rw [hz]; omega)) (by rw [hz]; omega), M73.u (M73.u m), RBr_u24 (RBr_u24 r (by omega)) (by omega), ?_, ⟨p, q, rfl⟩, gd⟩
  rw [vm_uc (I := up2 h.1 73 (36 + 7 * c + 3) p) (j := 16) (c := c) (by omega) c20 (by omega), vm_uc (I := h.1) (j := 15) (c := c) (by omega) c20 (by omega)]
  rw [show vm (h.1, h.2) = vm h from rfl, e, exy]
  exact mvV_mv
set_option maxHeartbeats 8000000 in
theorem it_228 (hc : CT X ns nb ln) (g : Gd v) (hl : v 14 c = 0) (hcN : (c : Int) < v 11 0) (tm : TMb (h0.1 72)) (ls : ∀ b, b < nbn v → h0.1 95 b = sup v (b / nbC v) (b % nbC v)) {k : Nat} (k1 : 1 ≤ k) (k4 : k ≤ 4) {bx bY best : Int} {x9 : Option xV} (s : SR X h0 h v c w)
    (hq : ∀ h2, SR X h0 h2 v c (cnd v (h0.1 72) c k) → Ev X 228 26 [some (vr 70), some (vi c), some (vi (36 + 7 * (c : Int))), some (vi (v 15 c)), some (vi (v 16 c)), some (vi (if csN (cnd v (h0.1 72) c k) (h0.1 72) < best then cnd v (h0.1 72) c k 15 c else bx)), some (vi (if csN (cnd v (h0.1 72) c k) (h0.1 72) < best then cnd v (h0.1 72) c k 16 c else bY)), some (vi (if csN (cnd v (h0.1 72) c k) (h0.1 72) < best then csN (cnd v (h0.1 72) c k) (h0.1 72) else best)), some (vi ((k : Int) + 1)), some (vi (csN (cnd v (h0.1 72) c k) (h0.1 72)))] [] h2 Q) : Ev X 228 26 [some (vr 70), some (vi c), some (vi (36 + 7 * (c : Int))), some (vi (v 15 c)), some (vi (v 16 c)), some (vi bx), some (vi bY), some (vi best), some (vi k), x9] [] h Q := by
  have nC := g.rg.nC
  have c20 : c < 20 := by omega
  have wx := g.rg.wx c
  have wy := g.rg.wy c
  have t0 := s.t
  have t3 : 1 ≤ h0.1 72 3 ∧ h0.1 72 3 ≤ 64 := tm 3 (by decide)
  have tb := tr_bd (k := k) (f := h0.1 72 3) (by omega) (by omega)
  have m1 : h0.1 72 3 * trX k = trX k * h0.1 72 3 := Int.mul_comm _ _
  have m2 : h0.1 72 3 * trY k = trY k * h0.1 72 3 := Int.mul_comm _ _
  have s0 := s
  obtain ⟨z, m, r, e, ⟨x, y, exy⟩, gw⟩ := s
  have oe : ∀ j, j ≠ 15 → j ≠ 16 → vm h j = v j := fun j h1 h2 => by rw [e, exy, mvV_o h1 h2]
  have ge := g.2.2.2.2
  have i3 : (36 + 7 * (c : Int) + 3).toNat = 36 + 7 * c + 3 := by omega
  have i4 : (36 + 7 * (c : Int) + 4).toNat = 36 + 7 * c + 4 := by omega
  have eX : ∀ q, hdX (vm h) c q = hdX v c q := fun q => by rw [e, exy, hdX_mv]
  rw [e_228_26]
  simp (disch := first | assumption | omega) only [e_228_27, e_228_28, e_228_29, e_228_30, e_228_31, e_228_32, e_228_33, e_228_34, e_228_35, e_228_36, e_228_37, e_228_38, e_228_39, e_228_40, e_228_41, e_228_42, e_228_43, e_228_44, e_228_45, e_228_46, onI_s, onR_s, onL_s, gl_0, gl_n, gl_1, gl_2, gl_3, gl_4, gl_5, gl_6, gl_7, gl_8, gl_9, gl_10, gl_11, gl_12, gl_13, gl_14, gl_15, gl_16, gl_17, sk0i, sk0r, sk0n, sk1i, sk1r, sk1n, sk_2, sk_3, sk_4, sk_5, sk_6, sk_7, sk_8, sk_9, sk_10, sk_11, sk_12, sk_13, sk_14, sk_15, sk_16, sk_17, ls_0, ls_1, ls_2, ls_3, ls_4, ls_5, ls_6, ls_7, ls_8, ls_9, ls_10, ls_11, ls_12, ls_13, ls_14, ls_15, ls_16, ls_17, ct1_i, ct1_r, wd8_0, wd8_i1, wd8_r1, wd8_i2, wd8_r2, wd8_i3, wd8_r3, wd8_i4, wd8_r4, wd8_i5, wd8_r5, wd8_i6, wd8_r6, wd8_i7, wd8_r7, wd8_i8, wd8_r8, wd8_l2, wd8_l3, wd8_l4, wd8_l5, wd8_l6, wd8_l7, wd8_l8, tl_s, tl_n, inR_t, bd_t, true_and, and_true, true_or, or_true, if_true_x, if_false_x, if_pos, if_neg, Int.toNat_natCast, natL, bI_0, bI_1, bI_ft, eq_self, b_tf, b_ft, not_true_eq_false, not_false_eq_true, m_226, m_221 hc (show RGv (vm h) by rw [e]; exact gw.rg) c20 (by rw [oe 13 (by omega) (by omega), oe 6 (by omega) (by omega)]; exact (ge.cel hcN).2.1) (fun f hf => by rw [oe 6 (by omega) (by omega)] at hf; rw [oe 9 (by omega) (by omega), oe 10 (by omega) (by omega)]; exact (ge.2.2.2.2.2.1 f hf).2.2.1), eX, t0, tn_3, m1, i3, hc.t70, hc.r70_4, hc.r70_5, hc.r70_6, hc.r70_7, hc.r70_8, hc.r70_10, hc.r70_11, hc.r70_12, hc.r70_14, hc.r70_15, hc.r70_16, hc.r70_17, hc.r70_19, hc.r70_21, hc.r70_23, hc.r70_24, hc.r70_26, hc.r70_27, hc.r70_28, hc.r70_29, hc.r70_30, hc.r70_31, hc.r70_32, hc.r70_33, hc.r70_36, hc.t72, hc.z72, hc.t73, hc.z73]
  obtain ⟨h3, e3⟩ : ∃ h3 : xH, h3 = (up2 h.1 73 (36 + 7 * c + 3) (hdX v c (v 15 c + trX k * h0.1 72 3)), h.2) := ⟨_, rfl⟩
  rw [← e3]
  have v3 : vm h3 = up2 (vm h) 15 c (hdX v c (v 15 c + trX k * h0.1 72 3)) := by
    rw [e3, vm_uc (I := h.1) (j := 15) (c := c) (by omega) c20 (by omega)]
  have hx := hdX_bd (c := c) g.rg (v 15 c + trX k * h0.1 72 3)
  have hy := hdY_bd (c := c) g.rg (v 16 c + trY k * h0.1 72 3)
  have r3 : RGv (vm h3) := by
    rw [v3, e]
    exact gw.rg.u (by unfold rgP; omega)
  have o3 : ∀ j, j ≠ 15 → j ≠ 16 → vm h3 j = v j := fun j h1 h2 => by rw [v3, up2_of h1]; exact oe j h1 h2
  have eY : ∀ q, hdY (vm h3) c q = hdY v c q := fun q => by rw [v3, hdY_15, e, exy, hdY_mv]
  have t33 : h3.1 72 = h0.1 72 := by rw [e3]; dsimp only; rw [up2_of (by omega)]; exact t0
  rw [e_228_47]
  simp (disch := first | assumption | omega) only [e_228_48, e_228_49, e_228_50, e_228_51, e_228_52, e_228_53, e_228_54, e_228_55, e_228_56, e_228_57, e_228_58, e_228_59, e_228_60, e_228_61, e_228_62, e_228_63, e_228_64, onI_s, onR_s, onL_s, gl_0, gl_n, gl_1, gl_2, gl_3, gl_4, gl_5, gl_6, gl_7, gl_8, gl_9, gl_10, gl_11, gl_12, gl_13, gl_14, gl_15, gl_16, gl_17, sk0i, sk0r, sk0n, sk1i, sk1r, sk1n, sk_2, sk_3, sk_4, sk_5, sk_6, sk_7, sk_8, sk_9, sk_10, sk_11, sk_12, sk_13, sk_14, sk_15, sk_16, sk_17, ls_0, ls_1, ls_2, ls_3, ls_4, ls_5, ls_6, ls_7, ls_8, ls_9, ls_10, ls_11, ls_12, ls_13, ls_14, ls_15, ls_16, ls_17, ct1_i, ct1_r, wd8_0, wd8_i1, wd8_r1, wd8_i2, wd8_r2, wd8_i3, wd8_r3, wd8_i4, wd8_r4, wd8_i5, wd8_r5, wd8_i6, wd8_r6, wd8_i7, wd8_r7, wd8_i8, wd8_r8, wd8_l2, wd8_l3, wd8_l4, wd8_l5, wd8_l6, wd8_l7, wd8_l8, tl_s, tl_n, inR_t, bd_t, true_and, and_true, true_or, or_true, if_true_x, if_false_x, if_pos, if_neg, Int.toNat_natCast, natL, bI_0, bI_1, bI_ft, eq_self, b_tf, b_ft, not_true_eq_false, not_false_eq_true, m_227, m_222 hc r3 c20 (by rw [o3 13 (by omega) (by omega), o3 6 (by omega) (by omega)]; exact (ge.cel hcN).2.1) (fun f hf => by rw [o3 6 (by omega) (by omega)] at hf; rw [o3 7 (by omega) (by omega), o3 8 (by omega) (by omega)]; exact (ge.2.2.2.2.2.1 f hf).1), eY, t33, tn_3, m2, i4, hc.t70, hc.r70_4, hc.r70_5, hc.r70_6, hc.r70_7, hc.r70_8, hc.r70_10, hc.r70_11, hc.r70_12, hc.r70_14, hc.r70_15, hc.r70_16, hc.r70_17, hc.r70_19, hc.r70_21, hc.r70_23, hc.r70_24, hc.r70_26, hc.r70_27, hc.r70_28, hc.r70_29, hc.r70_30, hc.r70_31, hc.r70_32, hc.r70_33, hc.r70_36, hc.t72, hc.z72, hc.t73, hc.z73]
  have ck : mvV v c (hdX v c (v 15 c + trX k * h0.1 72 3)) (hdY v c (v 16 c + trY k * h0.1 72 3)) = cnd v (h0.1 72) c k := by
    unfold cnd
    rw [if_neg (by omega)]
  have gk := cnd_gd g hl (h0.1 72) k
  obtain ⟨h4, e4⟩ : ∃ h4 : xH, h4 = (up2 h3.1 73 (36 + 7 * c + 4) (hdY v c (v 16 c + trY k * h0.1 72 3)), h3.2) := ⟨_, rfl⟩
  rw [← e4]
  have s4 : SR X h0 h4 v c (cnd v (h0.1 72) c k) := by
    have := s0.wr c20 hc.z73 (p := hdX v c (v 15 c + trX k * h0.1 72 3)) (q := hdY v c (v 16 c + trY k * h0.1 72 3)) (by rw [ck]; exact gk)
    rw [ck] at this
    rw [e4, e3]
    exact this
  have ls4 := s4.ls ls
  have t4 := s4.t
  have v4 := s4.2.2.2.1
  have en : cst (cnd v (h0.1 72) c k) (h0.1 72) (nbC (cnd v (h0.1 72) c k)) (nbn (cnd v (h0.1 72) c k)) = csN (cnd v (h0.1 72) c k) (h0.1 72) := rfl
  have cb := csN_bd gk.wg tm
  have j15 : h4.1 73 (36 + 7 * c + 3) = cnd v (h0.1 72) c k 15 c := by rw [← v4, vm_c (by omega) c20]
  have j16 : h4.1 73 (36 + 7 * c + 4) = cnd v (h0.1 72) c k 16 c := by rw [← v4, vm_c (by omega) c20]
  have key := hq h4 s4
  by_cases q : csN (cnd v (h0.1 72) c k) (h0.1 72) < best
  · rw [if_pos q, if_pos q, if_pos q] at key
    simp (disch := first | assumption | omega) only [e_228_65, e_228_66, e_228_67, e_228_68, e_228_69, e_228_70, e_228_71, e_228_72, e_228_73, e_228_74, e_228_75, e_228_76, e_228_77, e_228_78, e_228_79, e_228_80, e_228_81, e_228_82, e_228_83, e_228_84, e_228_85, e_228_86, e_228_87, e_228_88, onI_s, onR_s, onL_s, gl_0, gl_n, gl_1, gl_2, gl_3, gl_4, gl_5, gl_6, gl_7, gl_8, gl_9, gl_10, gl_11, gl_12, gl_13, gl_14, gl_15, gl_16, gl_17, sk0i, sk0r, sk0n, sk1i, sk1r, sk1n, sk_2, sk_3, sk_4, sk_5, sk_6, sk_7, sk_8, sk_9, sk_10, sk_11, sk_12, sk_13, sk_14, sk_15, sk_16, sk_17, ls_0, ls_1, ls_2, ls_3, ls_4, ls_5, ls_6, ls_7, ls_8, ls_9, ls_10, ls_11, ls_12, ls_13, ls_14, ls_15, ls_16, ls_17, ct1_i, ct1_r, wd8_0, wd8_i1, wd8_r1, wd8_i2, wd8_r2, wd8_i3, wd8_r3, wd8_i4, wd8_r4, wd8_i5, wd8_r5, wd8_i6, wd8_r6, wd8_i7, wd8_r7, wd8_i8, wd8_r8, wd8_l2, wd8_l3, wd8_l4, wd8_l5, wd8_l6, wd8_l7, wd8_l8, tl_s, tl_n, inR_t, bd_t, true_and, and_true, true_or, or_true, if_true_x, if_false_x, if_pos, if_neg, Int.toNat_natCast, natL, bI_0, bI_1, bI_ft, eq_self, b_tf, b_ft, not_true_eq_false, not_false_eq_true, m_218 hc (show WG (vm h4) by rw [v4]; exact gk.wg) (by rw [t4]; exact tm) ls4, v4, t4, en, i3, i4, j15, j16, q, hc.t70, hc.r70_4, hc.r70_5, hc.r70_6, hc.r70_7, hc.r70_8, hc.r70_10, hc.r70_11, hc.r70_12, hc.r70_14, hc.r70_15, hc.r70_16, hc.r70_17, hc.r70_19, hc.r70_21, hc.r70_23, hc.r70_24, hc.r70_26, hc.r70_27, hc.r70_28, hc.r70_29, hc.r70_30, hc.r70_31, hc.r70_32, hc.r70_33, hc.r70_36, hc.t73, hc.z73]
    exact key
  · rw [if_neg q, if_neg q, if_neg q] at key
    simp (disch := first | assumption | omega) only [e_228_65, e_228_66, e_228_67, e_228_68, e_228_69, e_228_70, e_228_87, e_228_88, onI_s, onR_s, onL_s, gl_0, gl_n, gl_1, gl_2, gl_3, gl_4, gl_5, gl_6, gl_7, gl_8, gl_9, gl_10, gl_11, gl_12, gl_13, gl_14, gl_15, gl_16, gl_17, sk0i, sk0r, sk0n, sk1i, sk1r, sk1n, sk_2, sk_3, sk_4, sk_5, sk_6, sk_7, sk_8, sk_9, sk_10, sk_11, sk_12, sk_13, sk_14, sk_15, sk_16, sk_17, ls_0, ls_1, ls_2, ls_3, ls_4, ls_5, ls_6, ls_7, ls_8, ls_9, ls_10, ls_11, ls_12, ls_13, ls_14, ls_15, ls_16, ls_17, ct1_i, ct1_r, wd8_0, wd8_i1, wd8_r1, wd8_i2, wd8_r2, wd8_i3, wd8_r3, wd8_i4, wd8_r4, wd8_i5, wd8_r5, wd8_i6, wd8_r6, wd8_i7, wd8_r7, wd8_i8, wd8_r8, wd8_l2, wd8_l3, wd8_l4, wd8_l5, wd8_l6, wd8_l7, wd8_l8, tl_s, tl_n, inR_t, bd_t, true_and, and_true, true_or, or_true, if_true_x, if_false_x, if_pos, if_neg, Int.toNat_natCast, natL, bI_0, bI_1, bI_ft, eq_self, b_tf, b_ft, not_true_eq_false, not_false_eq_true, m_218 hc (show WG (vm h4) by rw [v4]; exact gk.wg) (by rw [t4]; exact tm) ls4, v4, t4, en, q, hc.t70, hc.r70_4, hc.r70_5, hc.r70_6, hc.r70_7, hc.r70_8, hc.r70_10, hc.r70_11, hc.r70_12, hc.r70_14, hc.r70_15, hc.r70_16, hc.r70_17, hc.r70_19, hc.r70_21, hc.r70_23, hc.r70_24, hc.r70_26, hc.r70_27, hc.r70_28, hc.r70_29, hc.r70_30, hc.r70_31, hc.r70_32, hc.r70_33, hc.r70_36, hc.t73, hc.z73]
    exact key
end SRF
