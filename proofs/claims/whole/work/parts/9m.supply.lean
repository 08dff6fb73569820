/-! BINS: supply, over -/
def sT (v : Nat → Nat → Int) (br bc r s : Nat) : Int := if r / 2 = br ∧ s / 8 = bc ∧ ¬ own v r s = -2 then 256 else 0
def sup (v : Nat → Nat → Int) (br bc : Nat) : Int := sumF (fun r => sumF (sT v br bc r) (v 0 1).toNat 0) (v 0 0).toNat 0
def ovr (v : Nat → Nat → Int) (tg : Int) (C b : Nat) : Int := max 0 (ned v (b / C) (b % C) - sup v (b / C) (b % C) * tg / 100)
def ovf (v : Nat → Nat → Int) (tg : Int) (C nb : Nat) : Int := sumF (ovr v tg C) nb 0
theorem sT_bd {v : Nat → Nat → Int} (br bc r : Nat) (m i : Nat) : 0 ≤ sumF (sT v br bc r) m i ∧ sumF (sT v br bc r) m i ≤ m * 256 := sumF_bd (by decide) m i (fun j _ _ => by unfold sT; split <;> omega)
theorem sup_bd {v : Nat → Nat → Int} (w : RGv v) (br bc m : Nat) (hm : m ≤ 8) : 0 ≤ sumF (fun r => sumF (sT v br bc r) (v 0 1).toNat 0) m 0 ∧ sumF (fun r => sumF (sT v br bc r) (v 0 1).toNat 0) m 0 ≤ 65536 := by
  have ws := w.sites
  have := sumF_bd (f := fun r => sumF (sT v br bc r) (v 0 1).toNat 0) (B := 8192) (by decide) m 0 (fun j _ _ => by
    have := sT_bd (v := v) br bc j (v 0 1).toNat 0
    omega)
  omega
section SUP
variable {X : xL} {Q : Option xV → xH → Prop} {ns nb ln : Nat}
set_option maxHeartbeats 4000000 in
theorem m_35 {h : xH} (hc : CT X ns nb ln) {R S r s : Nat} {A : Nat → Nat → Int} (hns : ns = R * S) (R8 : R ≤ 8) (S32 : S ≤ 32) (hS : h.2 7 1 = S) (pt : PTo (h.1 8) R S A) (hr : r < R) (hs : s < S) : Cl X 35 [vr 7, vi r, vi s] h Q ↔ Q (some (vi (bI (!decide (A r s = -2))))) h := by
  have hi := ix_in hr hs
  have mb := mul_bd (a := (r : Int)) (b := (S : Int)) (A := 8) (B := 32) (by omega) (by omega) (by omega) (by omega)
  have t1 : ((r : Int) * (S : Int) + (s : Int)).toNat = r * S + s := by
    rw [← Int.natCast_mul, ← Int.natCast_add, Int.toNat_natCast]
  have hb : (r : Int) * (S : Int) + (s : Int) < (ns : Int) := by
    rw [← Int.natCast_mul, ← Int.natCast_add, hns]
    omega
  have rv := pt r s hr hs
  rw [c_35]
  by_cases e : A r s = -2
  · simp (disch := first | assumption | omega) only [e_35_0, e_35_1, e_35_2, e_35_3, e_35_4, e_35_5, e_35_6, e_35_7, e_35_8, e_35_9, e_35_10, e_35_11, e_35_12, e_35_13, e_35_14, onI_s, onR_s, onL_s, gl_0, gl_n, gl_1, gl_2, gl_3, gl_4, gl_5, gl_6, gl_7, gl_8, gl_9, gl_10, gl_11, gl_12, gl_13, gl_14, gl_15, gl_16, gl_17, sk0i, sk0r, sk0n, sk1i, sk1r, sk1n, sk_2, sk_3, sk_4, sk_5, sk_6, sk_7, sk_8, sk_9, sk_10, sk_11, sk_12, sk_13, sk_14, sk_15, sk_16, sk_17, ls_0, ls_1, ls_2, ls_3, ls_4, ls_5, ls_6, ls_7, ls_8, ls_9, ls_10, ls_11, ls_12, ls_13, ls_14, ls_15, ls_16, ls_17, ct1_i, ct1_r, wd8_0, wd8_i1, wd8_r1, wd8_i2, wd8_r2, wd8_i3, wd8_r3, wd8_i4, wd8_r4, wd8_i5, wd8_r5, wd8_i6, wd8_r6, wd8_i7, wd8_r7, wd8_i8, wd8_r8, wd8_l2, wd8_l3, wd8_l4, wd8_l5, wd8_l6, wd8_l7, wd8_l8, tl_s, tl_n, inR_t, bd_t, true_and, and_true, true_or, or_true, if_true_x, if_false_x, if_pos, if_neg, Int.toNat_natCast, natL, bI_0, bI_1, bI_ft, eq_self, b_tf, b_ft, not_true_eq_false, not_false_eq_true, hS, t1, rv, e, hc.t7, hc.r7_2, hc.r7_4, hc.r7_5, hc.r7_6, hc.r7_7, hc.r7_8, hc.t8, hc.z8]
    simp [bI]
  · simp (disch := first | assumption | omega) only [e_35_0, e_35_1, e_35_2, e_35_3, e_35_4, e_35_5, e_35_6, e_35_7, e_35_8, e_35_9, e_35_10, e_35_11, e_35_12, e_35_13, e_35_14, onI_s, onR_s, onL_s, gl_0, gl_n, gl_1, gl_2, gl_3, gl_4, gl_5, gl_6, gl_7, gl_8, gl_9, gl_10, gl_11, gl_12, gl_13, gl_14, gl_15, gl_16, gl_17, sk0i, sk0r, sk0n, sk1i, sk1r, sk1n, sk_2, sk_3, sk_4, sk_5, sk_6, sk_7, sk_8, sk_9, sk_10, sk_11, sk_12, sk_13, sk_14, sk_15, sk_16, sk_17, ls_0, ls_1, ls_2, ls_3, ls_4, ls_5, ls_6, ls_7, ls_8, ls_9, ls_10, ls_11, ls_12, ls_13, ls_14, ls_15, ls_16, ls_17, ct1_i, ct1_r, wd8_0, wd8_i1, wd8_r1, wd8_i2, wd8_r2, wd8_i3, wd8_r3, wd8_i4, wd8_r4, wd8_i5, wd8_r5, wd8_i6, wd8_r6, wd8_i7, wd8_r7, wd8_i8, wd8_r8, wd8_l2, wd8_l3, wd8_l4, wd8_l5, wd8_l6, wd8_l7, wd8_l8, tl_s, tl_n, inR_t, bd_t, true_and, and_true, true_or, or_true, if_true_x, if_false_x, if_pos, if_neg, Int.toNat_natCast, natL, bI_0, bI_1, bI_ft, eq_self, b_tf, b_ft, not_true_eq_false, not_false_eq_true, hS, t1, rv, e, hc.t7, hc.r7_2, hc.r7_4, hc.r7_5, hc.r7_6, hc.r7_7, hc.r7_8, hc.t8, hc.z8]
    simp [e, bI]
set_option maxHeartbeats 8000000 in
theorem l_6i (hc : CT X ns nb ln) {v : Nat → Nat → Int} {R S C T r : Nat} (w : RGv v) (hns : ns = R * S) (hR : v 0 0 = R) (hS : v 0 1 = S) (hnb : nb = T * C) (hC : (C : Int) = (v 0 1 + 7) / 8) (hT : (T : Int) = (v 0 0 + 1) / 2) (hr : r < R) : ∀ (m s : Nat) (h : xH), NZ X h → h.2 7 1 = S → h.2 22 1 = C → PTo (h.1 8) R S (own v) → PTo (h.1 23) T C (fun br bc => sumF (fun r => sumF (sT v br bc r) S 0) r 0 + sumF (sT v br bc r) s 0) → s + m = S → (∀ h2, NZ X h2 → G1 23 h h2 → PTo (h2.1 23) T C (fun br bc => sumF (fun r => sumF (sT v br bc r) S 0) (r + 1) 0) → Ev X 6 39 [some (vr 22), some (vr 7), some (vi r), some (vi S)] [] h2 Q) → Ev X 6 11 [some (vr 22), some (vr 7), some (vi r), some (vi s)] [] h Q := by
  have ws := w.sites
  have wr := w.rows
  have R8 : R ≤ 8 := by omega
  have S32 : S ≤ 32 := by omega
  intro m
  induction m with
  | zero =>
    intro s h z h7 h22 p8 pt hm hq
    rw [e_6_11]
    simp (disch := first | assumption | omega) only [e_6_12, e_6_13, e_6_14, onI_s, onR_s, onL_s, gl_0, gl_n, gl_1, gl_2, gl_3, gl_4, gl_5, gl_6, gl_7, gl_8, gl_9, gl_10, gl_11, gl_12, gl_13, gl_14, gl_15, gl_16, gl_17, sk0i, sk0r, sk0n, sk1i, sk1r, sk1n, sk_2, sk_3, sk_4, sk_5, sk_6, sk_7, sk_8, sk_9, sk_10, sk_11, sk_12, sk_13, sk_14, sk_15, sk_16, sk_17, ls_0, ls_1, ls_2, ls_3, ls_4, ls_5, ls_6, ls_7, ls_8, ls_9, ls_10, ls_11, ls_12, ls_13, ls_14, ls_15, ls_16, ls_17, ct1_i, ct1_r, wd8_0, wd8_i1, wd8_r1, wd8_i2, wd8_r2, wd8_i3, wd8_r3, wd8_i4, wd8_r4, wd8_i5, wd8_r5, wd8_i6, wd8_r6, wd8_i7, wd8_r7, wd8_i8, wd8_r8, wd8_l2, wd8_l3, wd8_l4, wd8_l5, wd8_l6, wd8_l7, wd8_l8, tl_s, tl_n, inR_t, bd_t, true_and, and_true, true_or, or_true, if_true_x, if_false_x, if_pos, if_neg, Int.toNat_natCast, natL, bI_0, bI_1, bI_ft, eq_self, b_tf, b_ft, not_true_eq_false, not_false_eq_true, h7, hc.t7, hc.r7_2, hc.r7_4, hc.r7_5, hc.r7_6, hc.r7_7, hc.r7_8]
    rw [show s = S by omega] at pt ⊢
    refine hq h z G1.refl (pt.cg (fun br bc _ _ => ?_))
    rw [sumF_sn, Nat.zero_add]
  | succ m ih =>
    intro s h z h7 h22 p8 pt hm hq
    have hs : s < S := by omega
    have h1 : r / 2 < T := by omega
    have h2 : s / 8 < C := by omega
    have hi := ix_in h1 h2
    have mb := mul_bd (a := ((r / 2 : Nat) : Int)) (b := (C : Int)) (A := 4) (B := 5) (by omega) (by omega) (by omega) (by omega)
    have t1 : (((r / 2 : Nat) : Int) * (C : Int) + ((s / 8 : Nat) : Int)).toNat = r / 2 * C + s / 8 := by
      rw [← Int.natCast_mul, ← Int.natCast_add, Int.toNat_natCast]
    have hb : ((r / 2 : Nat) : Int) * (C : Int) + ((s / 8 : Nat) : Int) < (nb : Int) := by
      rw [← Int.natCast_mul, ← Int.natCast_add, hnb]
      omega
    have d1 : (r : Int).tdiv 2 = ((r / 2 : Nat) : Int) := by rw [td_n (by omega)]; omega
    have d2 : (s : Int).tdiv 8 = ((s / 8 : Nat) : Int) := by rw [td_n (by omega)]; omega
    have rv := pt (r / 2) (s / 8) h1 h2
    have sb := sup_bd w (r / 2) (s / 8) r (by omega)
    have sb2 := sT_bd (v := v) (r / 2) (s / 8) r s 0
    rw [hS, Int.toNat_natCast] at sb
    dsimp only at rv
    rw [e_6_11]
    by_cases e : own v r s = -2
    · have d : (!decide (own v r s = -2)) = false := by simp [e]
      simp (disch := first | assumption | omega) only [e_6_12, e_6_13, e_6_14, e_6_15, e_6_16, e_6_17, e_6_18, e_6_19, e_6_37, e_6_38, onI_s, onR_s, onL_s, gl_0, gl_n, gl_1, gl_2, gl_3, gl_4, gl_5, gl_6, gl_7, gl_8, gl_9, gl_10, gl_11, gl_12, gl_13, gl_14, gl_15, gl_16, gl_17, sk0i, sk0r, sk0n, sk1i, sk1r, sk1n, sk_2, sk_3, sk_4, sk_5, sk_6, sk_7, sk_8, sk_9, sk_10, sk_11, sk_12, sk_13, sk_14, sk_15, sk_16, sk_17, ls_0, ls_1, ls_2, ls_3, ls_4, ls_5, ls_6, ls_7, ls_8, ls_9, ls_10, ls_11, ls_12, ls_13, ls_14, ls_15, ls_16, ls_17, ct1_i, ct1_r, wd8_0, wd8_i1, wd8_r1, wd8_i2, wd8_r2, wd8_i3, wd8_r3, wd8_i4, wd8_r4, wd8_i5, wd8_r5, wd8_i6, wd8_r6, wd8_i7, wd8_r7, wd8_i8, wd8_r8, wd8_l2, wd8_l3, wd8_l4, wd8_l5, wd8_l6, wd8_l7, wd8_l8, tl_s, tl_n, inR_t, bd_t, true_and, and_true, true_or, or_true, if_true_x, if_false_x, if_pos, if_neg, Int.toNat_natCast, natL, bI_0, bI_1, bI_ft, eq_self, b_tf, b_ft, not_true_eq_false, not_false_eq_true, h7, m_35 hc hns R8 S32 h7 p8 hr hs, d, cast_s, hc.t7, hc.r7_2, hc.r7_4, hc.r7_5, hc.r7_6, hc.r7_7, hc.r7_8]
      refine ih (s + 1) h z h7 h22 p8 (pt.cg (fun br bc _ _ => ?_)) (by omega) hq
      rw [sumF_sn s 0, Nat.zero_add, show sT v br bc r s = 0 by unfold sT; rw [if_neg (fun q => q.2.2 e)], Int.add_zero]
    · have d : (!decide (own v r s = -2)) = true := by simp [e]
      simp (disch := first | assumption | omega) only [e_6_12, e_6_13, e_6_14, e_6_15, e_6_16, e_6_17, e_6_18, e_6_19, e_6_20, e_6_21, e_6_22, e_6_23, e_6_24, e_6_25, e_6_26, e_6_27, e_6_28, e_6_29, e_6_30, e_6_31, e_6_32, e_6_33, e_6_34, e_6_35, e_6_36, e_6_37, e_6_38, onI_s, onR_s, onL_s, gl_0, gl_n, gl_1, gl_2, gl_3, gl_4, gl_5, gl_6, gl_7, gl_8, gl_9, gl_10, gl_11, gl_12, gl_13, gl_14, gl_15, gl_16, gl_17, sk0i, sk0r, sk0n, sk1i, sk1r, sk1n, sk_2, sk_3, sk_4, sk_5, sk_6, sk_7, sk_8, sk_9, sk_10, sk_11, sk_12, sk_13, sk_14, sk_15, sk_16, sk_17, ls_0, ls_1, ls_2, ls_3, ls_4, ls_5, ls_6, ls_7, ls_8, ls_9, ls_10, ls_11, ls_12, ls_13, ls_14, ls_15, ls_16, ls_17, ct1_i, ct1_r, wd8_0, wd8_i1, wd8_r1, wd8_i2, wd8_r2, wd8_i3, wd8_r3, wd8_i4, wd8_r4, wd8_i5, wd8_r5, wd8_i6, wd8_r6, wd8_i7, wd8_r7, wd8_i8, wd8_r8, wd8_l2, wd8_l3, wd8_l4, wd8_l5, wd8_l6, wd8_l7, wd8_l8, tl_s, tl_n, inR_t, bd_t, true_and, and_true, true_or, or_true, if_true_x, if_false_x, if_pos, if_neg, Int.toNat_natCast, natL, bI_0, bI_1, bI_ft, eq_self, b_tf, b_ft, not_true_eq_false, not_false_eq_true, h7, m_35 hc hns R8 S32 h7 p8 hr hs, d, dv_t, dvR, nz_2, nz_8, d1, d2, h22, t1, rv, cast_s, hc.t7, hc.r7_2, hc.r7_4, hc.r7_5, hc.r7_6, hc.r7_7, hc.r7_8, hc.t22, hc.r22_2, hc.r22_3, hc.r22_4, hc.r22_5, hc.t23, hc.z23]
      refine ih (s + 1) _ (NZ.up (I := h.1) (F := h.2) z (by rw [hc.z23, hnb]; exact hi)) h7 h22 (by dsimp only; rw [up2_of (by omega)]; exact p8) (fun br bc hbr hbc => ?_) (by omega) (fun h2 z2 g2 p2 => hq h2 z2 (G1.tr (h2 := (up2 h.1 23 (r / 2 * C + s / 8) (sumF (fun r_1 => sumF (sT v (r / 2) (s / 8) r_1) S 0) r 0 + sumF (sT v (r / 2) (s / 8) r) s 0 + 256), h.2)) ⟨fun a q => up2_of q, rfl⟩ g2) p2)
      dsimp only
      rw [up2_same, sumF_sn s 0, Nat.zero_add]
      by_cases y : br * C + bc = r / 2 * C + s / 8
      · have := ix_eq hbc h2 y
        rw [if_pos y, this.1, this.2, show sT v (r / 2) (s / 8) r s = 256 by unfold sT; rw [if_pos ⟨rfl, rfl, e⟩]]
        omega
      · rw [if_neg y, show sT v br bc r s = 0 by unfold sT; rw [if_neg (fun q => y (by rw [q.1, q.2.1]))], Int.add_zero]
        exact pt br bc hbr hbc
set_option maxHeartbeats 8000000 in
theorem l_6 (hc : CT X ns nb ln) {v : Nat → Nat → Int} {R S C T : Nat} (w : RGv v) (hns : ns = R * S) (hR : v 0 0 = R) (hS : v 0 1 = S) (hnb : nb = T * C) (hC : (C : Int) = (v 0 1 + 7) / 8) (hT : (T : Int) = (v 0 0 + 1) / 2) : ∀ (m r : Nat) (h : xH) (x3 : Option xV), NZ X h → h.2 7 0 = R → h.2 7 1 = S → h.2 22 1 = C → PTo (h.1 8) R S (own v) → PTo (h.1 23) T C (fun br bc => sumF (fun r => sumF (sT v br bc r) S 0) r 0) → r + m = R → (∀ h2, NZ X h2 → G1 23 h h2 → PTo (h2.1 23) T C (sup v) → Q none h2) → Ev X 6 5 [some (vr 22), some (vr 7), some (vi r), x3] [] h Q := by
  have ws := w.sites
  have wr := w.rows
  intro m
  induction m with
  | zero =>
    intro r h x3 z h70 h7 h22 p8 pt hm hq
    rw [e_6_5]
    simp (disch := first | assumption | omega) only [e_6_6, e_6_7, e_6_8, e_6_41, onI_s, onR_s, onL_s, gl_0, gl_n, gl_1, gl_2, gl_3, gl_4, gl_5, gl_6, gl_7, gl_8, gl_9, gl_10, gl_11, gl_12, gl_13, gl_14, gl_15, gl_16, gl_17, sk0i, sk0r, sk0n, sk1i, sk1r, sk1n, sk_2, sk_3, sk_4, sk_5, sk_6, sk_7, sk_8, sk_9, sk_10, sk_11, sk_12, sk_13, sk_14, sk_15, sk_16, sk_17, ls_0, ls_1, ls_2, ls_3, ls_4, ls_5, ls_6, ls_7, ls_8, ls_9, ls_10, ls_11, ls_12, ls_13, ls_14, ls_15, ls_16, ls_17, ct1_i, ct1_r, wd8_0, wd8_i1, wd8_r1, wd8_i2, wd8_r2, wd8_i3, wd8_r3, wd8_i4, wd8_r4, wd8_i5, wd8_r5, wd8_i6, wd8_r6, wd8_i7, wd8_r7, wd8_i8, wd8_r8, wd8_l2, wd8_l3, wd8_l4, wd8_l5, wd8_l6, wd8_l7, wd8_l8, tl_s, tl_n, inR_t, bd_t, true_and, and_true, true_or, or_true, if_true_x, if_false_x, if_pos, if_neg, Int.toNat_natCast, natL, bI_0, bI_1, bI_ft, eq_self, b_tf, b_ft, not_true_eq_false, not_false_eq_true, h70, hc.t7, hc.r7_2, hc.r7_4, hc.r7_5, hc.r7_6, hc.r7_7, hc.r7_8]
    refine hq h z G1.refl (pt.cg (fun br bc _ _ => ?_))
    unfold sup
    rw [hS, hR, Int.toNat_natCast, Int.toNat_natCast, show r = R by omega]
  | succ m ih =>
    intro r h x3 z h70 h7 h22 p8 pt hm hq
    rw [e_6_5]
    simp (disch := first | assumption | omega) only [e_6_6, e_6_7, e_6_8, e_6_9, e_6_10, onI_s, onR_s, onL_s, gl_0, gl_n, gl_1, gl_2, gl_3, gl_4, gl_5, gl_6, gl_7, gl_8, gl_9, gl_10, gl_11, gl_12, gl_13, gl_14, gl_15, gl_16, gl_17, sk0i, sk0r, sk0n, sk1i, sk1r, sk1n, sk_2, sk_3, sk_4, sk_5, sk_6, sk_7, sk_8, sk_9, sk_10, sk_11, sk_12, sk_13, sk_14, sk_15, sk_16, sk_17, ls_0, ls_1, ls_2, ls_3, ls_4, ls_5, ls_6, ls_7, ls_8, ls_9, ls_10, ls_11, ls_12, ls_13, ls_14, ls_15, ls_16, ls_17, ct1_i, ct1_r, wd8_0, wd8_i1, wd8_r1, wd8_i2, wd8_r2, wd8_i3, wd8_r3, wd8_i4, wd8_r4, wd8_i5, wd8_r5, wd8_i6, wd8_r6, wd8_i7, wd8_r7, wd8_i8, wd8_r8, wd8_l2, wd8_l3, wd8_l4, wd8_l5, wd8_l6, wd8_l7, wd8_l8, tl_s, tl_n, inR_t, bd_t, true_and, and_true, true_or, or_true, if_true_x, if_false_x, if_pos, if_neg, Int.toNat_natCast, natL, bI_0, bI_1, bI_ft, eq_self, b_tf, b_ft, not_true_eq_false, not_false_eq_true, h70, hc.t7, hc.r7_2, hc.r7_4, hc.r7_5, hc.r7_6, hc.r7_7, hc.r7_8]
    refine l_6i hc (r := r) w hns hR hS hnb hC hT (by omega) S 0 h z h7 h22 p8 (pt.cg (fun br bc _ _ => ?_)) (by omega) (fun h2 z2 g2 p2 => ?_)
    · rw [sumF, Int.add_zero]
    · rw [e_6_39]
      simp (disch := first | assumption | omega) only [e_6_40, onI_s, onR_s, onL_s, gl_0, gl_n, gl_1, gl_2, gl_3, gl_4, gl_5, gl_6, gl_7, gl_8, gl_9, gl_10, gl_11, gl_12, gl_13, gl_14, gl_15, gl_16, gl_17, sk0i, sk0r, sk0n, sk1i, sk1r, sk1n, sk_2, sk_3, sk_4, sk_5, sk_6, sk_7, sk_8, sk_9, sk_10, sk_11, sk_12, sk_13, sk_14, sk_15, sk_16, sk_17, ls_0, ls_1, ls_2, ls_3, ls_4, ls_5, ls_6, ls_7, ls_8, ls_9, ls_10, ls_11, ls_12, ls_13, ls_14, ls_15, ls_16, ls_17, ct1_i, ct1_r, wd8_0, wd8_i1, wd8_r1, wd8_i2, wd8_r2, wd8_i3, wd8_r3, wd8_i4, wd8_r4, wd8_i5, wd8_r5, wd8_i6, wd8_r6, wd8_i7, wd8_r7, wd8_i8, wd8_r8, wd8_l2, wd8_l3, wd8_l4, wd8_l5, wd8_l6, wd8_l7, wd8_l8, tl_s, tl_n, inR_t, bd_t, true_and, and_true, true_or, or_true, if_true_x, if_false_x, if_pos, if_neg, Int.toNat_natCast, natL, bI_0, bI_1, bI_ft, eq_self, b_tf, b_ft, not_true_eq_false, not_false_eq_true, cast_s]
      exact ih (r + 1) h2 _ z2 (by rw [g2.2]; exact h70) (by rw [g2.2]; exact h7) (by rw [g2.2]; exact h22) (by rw [g2.1 8 (by omega)]; exact p8) p2 (by omega) (fun h3 z3 g3 p3 => hq h3 z3 (g2.tr g3) p3)
set_option maxHeartbeats 8000000 in
theorem m_6 {h : xH} (hc : CT X ns nb ln) {v : Nat → Nat → Int} {R S C T : Nat} (w : RGv v) (hns : ns = R * S) (hR : v 0 0 = R) (hS : v 0 1 = S) (bn : BNv X h v C T nb) (C4 : C ≤ 4) (T4 : T ≤ 4) (z : NZ X h) (h70 : h.2 7 0 = R) (h7 : h.2 7 1 = S) (p8 : PTo (h.1 8) R S (own v)) (hq : ∀ h2, NZ X h2 → G1 23 h h2 → PTo (h2.1 23) T C (sup v) → Q none h2) : Cl X 6 [vr 22, vr 7] h Q := by
  have nb16 : nb ≤ 300 := by
    rw [bn.1.2.2]
    have := Nat.mul_le_mul T4 C4
    omega
  rw [c_6]
  simp (disch := first | assumption | omega) only [e_6_0, e_6_1, onI_s, onR_s, onL_s, gl_0, gl_n, gl_1, gl_2, gl_3, gl_4, gl_5, gl_6, gl_7, gl_8, gl_9, gl_10, gl_11, gl_12, gl_13, gl_14, gl_15, gl_16, gl_17, sk0i, sk0r, sk0n, sk1i, sk1r, sk1n, sk_2, sk_3, sk_4, sk_5, sk_6, sk_7, sk_8, sk_9, sk_10, sk_11, sk_12, sk_13, sk_14, sk_15, sk_16, sk_17, ls_0, ls_1, ls_2, ls_3, ls_4, ls_5, ls_6, ls_7, ls_8, ls_9, ls_10, ls_11, ls_12, ls_13, ls_14, ls_15, ls_16, ls_17, ct1_i, ct1_r, wd8_0, wd8_i1, wd8_r1, wd8_i2, wd8_r2, wd8_i3, wd8_r3, wd8_i4, wd8_r4, wd8_i5, wd8_r5, wd8_i6, wd8_r6, wd8_i7, wd8_r7, wd8_i8, wd8_r8, wd8_l2, wd8_l3, wd8_l4, wd8_l5, wd8_l6, wd8_l7, wd8_l8, tl_s, tl_n, inR_t, bd_t, true_and, and_true, true_or, or_true, if_true_x, if_false_x, if_pos, if_neg, Int.toNat_natCast, natL, bI_0, bI_1, bI_ft, eq_self, b_tf, b_ft, not_true_eq_false, not_false_eq_true, hc.t22, hc.r22_2, hc.r22_3, hc.r22_4, hc.r22_5]
  (rw [e_6_2]; refine ⟨by decide, ?_⟩)
  rw [m_5 z hc.t23 hc.z23 nb16]
  simp (disch := first | assumption | omega) only [e_6_3, e_6_4, onI_s, onR_s, onL_s, gl_0, gl_n, gl_1, gl_2, gl_3, gl_4, gl_5, gl_6, gl_7, gl_8, gl_9, gl_10, gl_11, gl_12, gl_13, gl_14, gl_15, gl_16, gl_17, sk0i, sk0r, sk0n, sk1i, sk1r, sk1n, sk_2, sk_3, sk_4, sk_5, sk_6, sk_7, sk_8, sk_9, sk_10, sk_11, sk_12, sk_13, sk_14, sk_15, sk_16, sk_17, ls_0, ls_1, ls_2, ls_3, ls_4, ls_5, ls_6, ls_7, ls_8, ls_9, ls_10, ls_11, ls_12, ls_13, ls_14, ls_15, ls_16, ls_17, ct1_i, ct1_r, wd8_0, wd8_i1, wd8_r1, wd8_i2, wd8_r2, wd8_i3, wd8_r3, wd8_i4, wd8_r4, wd8_i5, wd8_r5, wd8_i6, wd8_r6, wd8_i7, wd8_r7, wd8_i8, wd8_r8, wd8_l2, wd8_l3, wd8_l4, wd8_l5, wd8_l6, wd8_l7, wd8_l8, tl_s, tl_n, inR_t, bd_t, true_and, and_true, true_or, or_true, if_true_x, if_false_x, if_pos, if_neg, Int.toNat_natCast, natL, bI_0, bI_1, bI_ft, eq_self, b_tf, b_ft, not_true_eq_false, not_false_eq_true]
  have g2 : G1 23 h (up1 h.1 23 (fun _ => 0), h.2) := ⟨fun a q => up1_o q, rfl⟩
  refine l_6 hc w hns hR hS bn.1.2.2 bn.2.1 bn.2.2 R 0 _ none (NZ.cg (I := h.1) (F := h.2) z (fun _ _ => rfl)) h70 h7 bn.1.1 (by dsimp only; rw [up1_o (by omega)]; exact p8) (fun br bc _ _ => ?_) (by omega) (fun h3 z3 g3 p3 => hq h3 z3 (g2.tr g3) p3)
  dsimp only
  rw [up1_self]
  rfl
end SUP
