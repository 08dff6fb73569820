/-! BINS: over, overflow, the look, the cost -/
def BG (h h2 : xH) : Prop := (∀ a, a ≠ 8 → a ≠ 15 → a ≠ 23 → a ≠ 24 → a ≠ 25 → h2.1 a = h.1 a) ∧ h2.2 = h.2
def cst (v : Nat → Nat → Int) (f : Nat → Int) (C nb : Nat) : Int := 16 * smO v (f 4) (f 0) + f 2 * ovf v (f 1) C nb
theorem sup_b {v : Nat → Nat → Int} (w : RGv v) (br bc : Nat) : 0 ≤ sup v br bc ∧ sup v br bc ≤ 65536 := by
  have wr := w.rows
  exact sup_bd w br bc (v 0 0).toNat (by omega)
theorem ned_b {v : Nat → Nat → Int} (w : RGv v) (br bc : Nat) : 0 ≤ ned v br bc ∧ ned v br bc ≤ 30720 := by
  have nC := w.nC
  have := ndS_bd w br bc (v 11 0).toNat 0
  unfold ned
  omega
theorem ovr_b {v : Nat → Nat → Int} (w : RGv v) {tg : Int} (t0 : 0 ≤ tg) (C b : Nat) : 0 ≤ ovr v tg C b ∧ ovr v tg C b ≤ 30720 := by
  have a := ned_b w (b / C) (b % C)
  have s := sup_b w (b / C) (b % C)
  have := Int.ediv_nonneg (Int.mul_nonneg s.1 t0) (show (0 : Int) ≤ 100 by decide)
  unfold ovr
  omega
theorem ovf_b {v : Nat → Nat → Int} (w : RGv v) {tg : Int} (t0 : 0 ≤ tg) (C nb : Nat) (n16 : nb ≤ 16) : 0 ≤ ovf v tg C nb ∧ ovf v tg C nb ≤ 491520 := by
  have := sumF_bd (f := ovr v tg C) (B := 30720) (by decide) nb 0 (fun j _ _ => ovr_b w t0 C j)
  unfold ovf
  omega
theorem TMb.tgt {f : Nat → Int} (t : TMb f) : 10 ≤ f 1 ∧ f 1 ≤ 100 := t 1 (by decide)
theorem TMb.prs {f : Nat → Int} (t : TMb f) : 0 ≤ f 2 ∧ f 2 ≤ 99 := t 2 (by decide)
theorem TMb.cap {f : Nat → Int} (t : TMb f) : 1 ≤ f 5 ∧ f 5 ≤ 99 := t 5 (by decide)
section OVR
variable {X : xL} {Q : Option xV → xH → Prop} {ns nb ln : Nat}
theorem BG.refl {h : xH} : BG h h := ⟨fun _ _ _ _ _ _ => rfl, rfl⟩
theorem BG.tr {h h2 h3 : xH} (a : BG h h2) (b : BG h2 h3) : BG h h3 := ⟨fun j q1 q2 q3 q4 q5 => (b.1 j q1 q2 q3 q4 q5).trans (a.1 j q1 q2 q3 q4 q5), b.2.trans a.2⟩
theorem BG.cv {h h2 : xH} {b : Nat} (a : BG h h2) (hb : 200 ≤ b) : cv h2 b = cv h b := cv_congr (fun j q1 q2 => ⟨a.1 j (by omega) (by omega) (by omega) (by omega) (by omega), by rw [a.2]⟩)
theorem BG.fz {h h2 : xH} (a : BG h h2) (z : NZ X h2) : Fz X h h2 := by
  refine ⟨z, fun j q => ⟨a.1 j (by omega) (by omega) (by omega) (by omega) (by omega), by rw [a.2]⟩, ?_, fun p hp => ?_⟩
  · rw [a.2]; exact ⟨rfl, rfl, rfl, rfl⟩
  · rw [a.2]; exact ⟨fun _ => rfl, fun _ _ _ _ => rfl⟩
theorem G8.bg {h h2 : xH} (a : G8 h h2) : BG h h2 := ⟨fun j q _ _ _ _ => a.1 j q, a.2⟩
theorem S15.bg {h h2 : xH} (a : S15 h h2) : BG h h2 := ⟨fun j _ q _ _ _ => a.1 j q, a.2⟩
theorem G1.bg3 {h h2 : xH} (a : G1 23 h h2) : BG h h2 := ⟨fun j _ _ q _ _ => a.1 j q, a.2⟩
theorem G1.bg4 {h h2 : xH} (a : G1 24 h h2) : BG h h2 := ⟨fun j _ _ _ q _ => a.1 j q, a.2⟩
theorem G1.bg5 {h h2 : xH} (a : G1 25 h h2) : BG h h2 := ⟨fun j _ _ _ _ q => a.1 j q, a.2⟩
set_option maxHeartbeats 4000000 in
theorem m_9 {h : xH} (hc : CT X ns nb ln) {v : Nat → Nat → Int} {C T b : Nat} {tg : Int} (w : RGv v) (hnb : nb = T * C) (pn : PTo (h.1 24) T C (ned v)) (ps : PTo (h.1 23) T C (sup v)) (ht : h.1 1 1 = tg) (t0 : 10 ≤ tg) (t1 : tg ≤ 100) (hb : b < nb) : Cl X 9 [vr 22, vi b] h Q ↔ Q (some (vi (ovr v tg C b))) h := by
  have a := ned_b w (b / C) (b % C)
  have s := sup_b w (b / C) (b % C)
  have en := pn.lin (b := b) (by rw [← hnb]; exact hb)
  have es := ps.lin (b := b) (by rw [← hnb]; exact hb)
  have mb := mul_bd (a := sup v (b / C) (b % C)) (b := tg) (A := 65536) (B := 100) (by omega) (by omega) (by omega) (by omega)
  have m0 := Int.mul_nonneg s.1 (show 0 ≤ tg by omega)
  have td : (sup v (b / C) (b % C) * tg).tdiv 100 = sup v (b / C) (b % C) * tg / 100 := td_n m0
  have dd := Int.ediv_nonneg m0 (show (0 : Int) ≤ 100 by decide)
  have d2 := Int.ediv_le_self (100 : Int) m0
  rw [c_9]
  simp (disch := first | assumption | omega) only [e_9_0, e_9_1, e_9_2, e_9_3, e_9_4, e_9_5, e_9_6, e_9_7, e_9_8, e_9_9, e_9_10, e_9_11, e_9_12, e_9_13, e_9_14, e_9_15, e_9_16, e_9_17, e_9_18, onI_s, onR_s, onL_s, gl_0, gl_n, gl_1, gl_2, gl_3, gl_4, gl_5, gl_6, gl_7, gl_8, gl_9, gl_10, gl_11, gl_12, gl_13, gl_14, gl_15, gl_16, gl_17, sk0i, sk0r, sk0n, sk1i, sk1r, sk1n, sk_2, sk_3, sk_4, sk_5, sk_6, sk_7, sk_8, sk_9, sk_10, sk_11, sk_12, sk_13, sk_14, sk_15, sk_16, sk_17, ls_0, ls_1, ls_2, ls_3, ls_4, ls_5, ls_6, ls_7, ls_8, ls_9, ls_10, ls_11, ls_12, ls_13, ls_14, ls_15, ls_16, ls_17, ct1_i, ct1_r, wd8_0, wd8_i1, wd8_r1, wd8_i2, wd8_r2, wd8_i3, wd8_r3, wd8_i4, wd8_r4, wd8_i5, wd8_r5, wd8_i6, wd8_r6, wd8_i7, wd8_r7, wd8_i8, wd8_r8, wd8_l2, wd8_l3, wd8_l4, wd8_l5, wd8_l6, wd8_l7, wd8_l8, tl_s, tl_n, inR_t, bd_t, true_and, and_true, true_or, or_true, if_true_x, if_false_x, if_pos, if_neg, Int.toNat_natCast, natL, bI_0, bI_1, bI_ft, eq_self, b_tf, b_ft, not_true_eq_false, not_false_eq_true, m_284, dv_t, dvR, dvE, nz_100, en, es, (show Int.toNat 1 = 1 from rfl), ht, td, hc.t22, hc.r22_2, hc.r22_3, hc.r22_4, hc.r22_5, hc.t1, hc.z1, hc.t23, hc.z23, hc.t24, hc.z24]
  rfl
set_option maxHeartbeats 4000000 in
theorem m_10 {h : xH} (hc : CT X ns nb ln) {v : Nat → Nat → Int} {C T : Nat} {tg : Int} (w : RGv v) (hnb : nb = T * C) (n16 : nb ≤ 16) (hn : h.2 22 0 = nb) (pn : PTo (h.1 24) T C (ned v)) (ps : PTo (h.1 23) T C (sup v)) (ht : h.1 1 1 = tg) (t0 : 10 ≤ tg) (t1 : tg ≤ 100) : Cl X 10 [vr 22] h Q ↔ Q (some (vi (ovf v tg C nb))) h := by
  have lp : ∀ (m i : Nat) (a : Int), i + m = nb → 0 ≤ a → a ≤ i * 30720 → (Ev X 10 4 [some (vr 22), some (vi a), some (vi i)] [] h Q ↔ Q (some (vi (a + sumF (ovr v tg C) m i))) h) := by
    intro m
    induction m with
    | zero =>
      intro i a hm a0 a1
      rw [e_10_4]
      simp (disch := first | assumption | omega) only [e_10_5, e_10_6, e_10_7, e_10_16, e_10_17, onI_s, onR_s, onL_s, gl_0, gl_n, gl_1, gl_2, gl_3, gl_4, gl_5, gl_6, gl_7, gl_8, gl_9, gl_10, gl_11, gl_12, gl_13, gl_14, gl_15, gl_16, gl_17, sk0i, sk0r, sk0n, sk1i, sk1r, sk1n, sk_2, sk_3, sk_4, sk_5, sk_6, sk_7, sk_8, sk_9, sk_10, sk_11, sk_12, sk_13, sk_14, sk_15, sk_16, sk_17, ls_0, ls_1, ls_2, ls_3, ls_4, ls_5, ls_6, ls_7, ls_8, ls_9, ls_10, ls_11, ls_12, ls_13, ls_14, ls_15, ls_16, ls_17, ct1_i, ct1_r, wd8_0, wd8_i1, wd8_r1, wd8_i2, wd8_r2, wd8_i3, wd8_r3, wd8_i4, wd8_r4, wd8_i5, wd8_r5, wd8_i6, wd8_r6, wd8_i7, wd8_r7, wd8_i8, wd8_r8, wd8_l2, wd8_l3, wd8_l4, wd8_l5, wd8_l6, wd8_l7, wd8_l8, tl_s, tl_n, inR_t, bd_t, true_and, and_true, true_or, or_true, if_true_x, if_false_x, if_pos, if_neg, Int.toNat_natCast, natL, bI_0, bI_1, bI_ft, eq_self, b_tf, b_ft, not_true_eq_false, not_false_eq_true, hn, hc.t22, hc.r22_2, hc.r22_3, hc.r22_4, hc.r22_5]
      rw [sumF, Int.add_zero]
    | succ m ih =>
      intro i a hm a0 a1
      have ob := ovr_b w (tg := tg) (by omega) C i
      rw [e_10_4]
      simp (disch := first | assumption | omega) only [e_10_5, e_10_6, e_10_7, e_10_8, e_10_9, e_10_10, e_10_11, e_10_12, e_10_13, e_10_14, e_10_15, onI_s, onR_s, onL_s, gl_0, gl_n, gl_1, gl_2, gl_3, gl_4, gl_5, gl_6, gl_7, gl_8, gl_9, gl_10, gl_11, gl_12, gl_13, gl_14, gl_15, gl_16, gl_17, sk0i, sk0r, sk0n, sk1i, sk1r, sk1n, sk_2, sk_3, sk_4, sk_5, sk_6, sk_7, sk_8, sk_9, sk_10, sk_11, sk_12, sk_13, sk_14, sk_15, sk_16, sk_17, ls_0, ls_1, ls_2, ls_3, ls_4, ls_5, ls_6, ls_7, ls_8, ls_9, ls_10, ls_11, ls_12, ls_13, ls_14, ls_15, ls_16, ls_17, ct1_i, ct1_r, wd8_0, wd8_i1, wd8_r1, wd8_i2, wd8_r2, wd8_i3, wd8_r3, wd8_i4, wd8_r4, wd8_i5, wd8_r5, wd8_i6, wd8_r6, wd8_i7, wd8_r7, wd8_i8, wd8_r8, wd8_l2, wd8_l3, wd8_l4, wd8_l5, wd8_l6, wd8_l7, wd8_l8, tl_s, tl_n, inR_t, bd_t, true_and, and_true, true_or, or_true, if_true_x, if_false_x, if_pos, if_neg, Int.toNat_natCast, natL, bI_0, bI_1, bI_ft, eq_self, b_tf, b_ft, not_true_eq_false, not_false_eq_true, hn, m_9 hc w hnb pn ps ht t0 t1, cast_s, hc.t22, hc.r22_2, hc.r22_3, hc.r22_4, hc.r22_5]
      rw [ih (i + 1) _ (by omega) (by omega) (by rw [Int.natCast_add, Int.add_mul]; omega), sumF, Int.add_assoc]
  rw [c_10]
  simp (disch := first | assumption | omega) only [e_10_0, e_10_1, e_10_2, e_10_3, onI_s, onR_s, onL_s, gl_0, gl_n, gl_1, gl_2, gl_3, gl_4, gl_5, gl_6, gl_7, gl_8, gl_9, gl_10, gl_11, gl_12, gl_13, gl_14, gl_15, gl_16, gl_17, sk0i, sk0r, sk0n, sk1i, sk1r, sk1n, sk_2, sk_3, sk_4, sk_5, sk_6, sk_7, sk_8, sk_9, sk_10, sk_11, sk_12, sk_13, sk_14, sk_15, sk_16, sk_17, ls_0, ls_1, ls_2, ls_3, ls_4, ls_5, ls_6, ls_7, ls_8, ls_9, ls_10, ls_11, ls_12, ls_13, ls_14, ls_15, ls_16, ls_17, ct1_i, ct1_r, wd8_0, wd8_i1, wd8_r1, wd8_i2, wd8_r2, wd8_i3, wd8_r3, wd8_i4, wd8_r4, wd8_i5, wd8_r5, wd8_i6, wd8_r6, wd8_i7, wd8_r7, wd8_i8, wd8_r8, wd8_l2, wd8_l3, wd8_l4, wd8_l5, wd8_l6, wd8_l7, wd8_l8, tl_s, tl_n, inR_t, bd_t, true_and, and_true, true_or, or_true, if_true_x, if_false_x, if_pos, if_neg, Int.toNat_natCast, natL, bI_0, bI_1, bI_ft, eq_self, b_tf, b_ft, not_true_eq_false, not_false_eq_true]
  rw [show (some (vi 0)) = some (vi ((0 : Nat) : Int)) from rfl]
  rw [lp nb 0 _ (by omega) (by omega) (by omega)]
  unfold ovf
  rw [show ((0 : Nat) : Int) = 0 from rfl, Int.zero_add]
set_option maxHeartbeats 4000000 in
theorem m_145 {h : xH} (ok : Ok X h) (g : Gd (cv h 200)) (hc : CT X (h.2 200 0 * h.2 200 1).toNat nb ln) {C T : Nat} (bn : BNv X h (cv h 200) C T nb) (C4 : C ≤ 4) (T4 : T ≤ 4) (hq : ∀ h2, NZ X h2 → BG h h2 → PTo (h2.1 8) (cv h 200 0 0).toNat (cv h 200 0 1).toNat (own (cv h 200)) → PTo (h2.1 23) T C (sup (cv h 200)) → PTo (h2.1 24) T C (ned (cv h 200)) → Q none h2) : Cl X 145 [vr 0] h Q := by
  have ok0 := ok
  obtain ⟨z, os, ⟨_, _, o7, _⟩, om, _, lp⟩ := ok
  have hp : PL X 200 := lp 0 (by decide)
  have hw := g.rg
  have ws := hw.sites
  have wr := hw.rows
  have e0 : h.2 200 0 = cv h 200 0 0 := rfl
  have e1 : h.2 200 1 = cv h 200 0 1 := rfl
  obtain ⟨R, hR⟩ : ∃ R : Nat, cv h 200 0 0 = R := ⟨(cv h 200 0 0).toNat, by omega⟩
  obtain ⟨S, hS⟩ : ∃ S : Nat, cv h 200 0 1 = S := ⟨(cv h 200 0 1).toNat, by omega⟩
  have hns : (h.2 200 0 * h.2 200 1).toNat = R * S := by
    rw [e0, e1, hR, hS, ← Int.natCast_mul, Int.toNat_natCast]
  have h70 : h.2 7 0 = R := by rw [o7.1, e0, hR]
  have h71 : h.2 7 1 = S := by rw [o7.2, e1, hS]
  rw [hR, hS, Int.toNat_natCast, Int.toNat_natCast] at hq
  rw [c_145]
  simp (disch := first | assumption | omega) only [e_145_0, e_145_1, e_145_2, e_145_3, onI_s, onR_s, onL_s, gl_0, gl_n, gl_1, gl_2, gl_3, gl_4, gl_5, gl_6, gl_7, gl_8, gl_9, gl_10, gl_11, gl_12, gl_13, gl_14, gl_15, gl_16, gl_17, sk0i, sk0r, sk0n, sk1i, sk1r, sk1n, sk_2, sk_3, sk_4, sk_5, sk_6, sk_7, sk_8, sk_9, sk_10, sk_11, sk_12, sk_13, sk_14, sk_15, sk_16, sk_17, ls_0, ls_1, ls_2, ls_3, ls_4, ls_5, ls_6, ls_7, ls_8, ls_9, ls_10, ls_11, ls_12, ls_13, ls_14, ls_15, ls_16, ls_17, ct1_i, ct1_r, wd8_0, wd8_i1, wd8_r1, wd8_i2, wd8_r2, wd8_i3, wd8_r3, wd8_i4, wd8_r4, wd8_i5, wd8_r5, wd8_i6, wd8_r6, wd8_i7, wd8_r7, wd8_i8, wd8_r8, wd8_l2, wd8_l3, wd8_l4, wd8_l5, wd8_l6, wd8_l7, wd8_l8, tl_s, tl_n, inR_t, bd_t, true_and, and_true, true_or, or_true, if_true_x, if_false_x, if_pos, if_neg, Int.toNat_natCast, natL, bI_0, bI_1, bI_ft, eq_self, b_tf, b_ft, not_true_eq_false, not_false_eq_true, hc.t0, hc.r0_0, hc.r0_1, hc.r0_3, hc.r0_5, hc.r0_6, hc.r0_7, hc.r0_8, hc.r0_9, hc.r0_10, hc.r0_11, hc.r0_12, hc.r0_13]
  (rw [e_145_4]; refine ⟨⟨hc.t7, by decide⟩, ?_⟩)
  refine m_32 hp (by omega) hc hR hS h71 hns z g.2.2.2.2 hw (fun h2 z2 g2 p2 => ?_)
  have e2 := g2.cv (b := 200) (by omega)
  simp (disch := first | assumption | omega) only [e_145_5, e_145_6, e_145_7, e_145_8, onI_s, onR_s, onL_s, gl_0, gl_n, gl_1, gl_2, gl_3, gl_4, gl_5, gl_6, gl_7, gl_8, gl_9, gl_10, gl_11, gl_12, gl_13, gl_14, gl_15, gl_16, gl_17, sk0i, sk0r, sk0n, sk1i, sk1r, sk1n, sk_2, sk_3, sk_4, sk_5, sk_6, sk_7, sk_8, sk_9, sk_10, sk_11, sk_12, sk_13, sk_14, sk_15, sk_16, sk_17, ls_0, ls_1, ls_2, ls_3, ls_4, ls_5, ls_6, ls_7, ls_8, ls_9, ls_10, ls_11, ls_12, ls_13, ls_14, ls_15, ls_16, ls_17, ct1_i, ct1_r, wd8_0, wd8_i1, wd8_r1, wd8_i2, wd8_r2, wd8_i3, wd8_r3, wd8_i4, wd8_r4, wd8_i5, wd8_r5, wd8_i6, wd8_r6, wd8_i7, wd8_r7, wd8_i8, wd8_r8, wd8_l2, wd8_l3, wd8_l4, wd8_l5, wd8_l6, wd8_l7, wd8_l8, tl_s, tl_n, inR_t, bd_t, true_and, and_true, true_or, or_true, if_true_x, if_false_x, if_pos, if_neg, Int.toNat_natCast, natL, bI_0, bI_1, bI_ft, eq_self, b_tf, b_ft, not_true_eq_false, not_false_eq_true, hc.t0, hc.r0_0, hc.r0_1, hc.r0_3, hc.r0_5, hc.r0_6, hc.r0_7, hc.r0_8, hc.r0_9, hc.r0_10, hc.r0_11, hc.r0_12, hc.r0_13]
  (rw [e_145_9]; refine ⟨⟨hc.t22, by decide⟩, ?_⟩)
  refine m_6 hc hw hns hR hS (C := C) (T := T) (by unfold BNv; rw [g2.2]; exact bn) C4 T4 z2 (by rw [g2.2]; exact h70) (by rw [g2.2]; exact h71) p2 (fun h3 z3 g3 p3 => ?_)
  have e3 := g3.cv (b := 200) (by omega) (by omega)
  have e32 := e3.trans e2
  simp (disch := first | assumption | omega) only [e_145_10, e_145_11, e_145_12, e_145_13, e_145_14, onI_s, onR_s, onL_s, gl_0, gl_n, gl_1, gl_2, gl_3, gl_4, gl_5, gl_6, gl_7, gl_8, gl_9, gl_10, gl_11, gl_12, gl_13, gl_14, gl_15, gl_16, gl_17, sk0i, sk0r, sk0n, sk1i, sk1r, sk1n, sk_2, sk_3, sk_4, sk_5, sk_6, sk_7, sk_8, sk_9, sk_10, sk_11, sk_12, sk_13, sk_14, sk_15, sk_16, sk_17, ls_0, ls_1, ls_2, ls_3, ls_4, ls_5, ls_6, ls_7, ls_8, ls_9, ls_10, ls_11, ls_12, ls_13, ls_14, ls_15, ls_16, ls_17, ct1_i, ct1_r, wd8_0, wd8_i1, wd8_r1, wd8_i2, wd8_r2, wd8_i3, wd8_r3, wd8_i4, wd8_r4, wd8_i5, wd8_r5, wd8_i6, wd8_r6, wd8_i7, wd8_r7, wd8_i8, wd8_r8, wd8_l2, wd8_l3, wd8_l4, wd8_l5, wd8_l6, wd8_l7, wd8_l8, tl_s, tl_n, inR_t, bd_t, true_and, and_true, true_or, or_true, if_true_x, if_false_x, if_pos, if_neg, Int.toNat_natCast, natL, bI_0, bI_1, bI_ft, eq_self, b_tf, b_ft, not_true_eq_false, not_false_eq_true, hc.t0, hc.r0_0, hc.r0_1, hc.r0_3, hc.r0_5, hc.r0_6, hc.r0_7, hc.r0_8, hc.r0_9, hc.r0_10, hc.r0_11, hc.r0_12, hc.r0_13, hp.t0, hp.t1, hp.t2, hp.t3, hp.t4, hp.t5, hp.t6, hp.t7, hp.t8, hp.t9, hp.t10, hp.t11, hp.t12, hp.t13, hp.t14, hp.t15, hp.t16, hp.t17, hp.t18, hp.t19, hp.t20, hp.t21, hp.t22, hp.t23, hp.z2, hp.z3, hp.z4, hp.z5, hp.z7, hp.z8, hp.z9, hp.z10, hp.z12, hp.z13, hp.z14, hp.z15, hp.z16, hp.z17, hp.z18, hp.z20, hp.z21, hp.z22, hp.z23, hp.r0_2, hp.r0_3, hp.r0_4, hp.r0_5, hp.r1_1, hp.r1_2, hp.r1_3, hp.r1_4, hp.r6_1, hp.r6_2, hp.r6_3, hp.r6_4, hp.r11_1, hp.r11_2, hp.r11_3, hp.r11_4, hp.r11_5, hp.r11_6, hp.r11_7, hp.r19_1, hp.r19_2, hp.r19_3, hp.r19_4]
  (rw [e_145_15]; refine ⟨⟨hc.t22, by decide⟩, ?_⟩)
  refine m_7 hp hc (C := C) (T := T) z3 (by rw [e32]; exact g.2.2.2.2) (by rw [e32]; exact hw) (by unfold BNv; rw [e32, g3.2, g2.2]; exact bn) C4 T4 (fun h4 z4 g4 p4 => ?_)
  rw [e32] at p4
  simp (disch := first | assumption | omega) only [e_145_16, onI_s, onR_s, onL_s, gl_0, gl_n, gl_1, gl_2, gl_3, gl_4, gl_5, gl_6, gl_7, gl_8, gl_9, gl_10, gl_11, gl_12, gl_13, gl_14, gl_15, gl_16, gl_17, sk0i, sk0r, sk0n, sk1i, sk1r, sk1n, sk_2, sk_3, sk_4, sk_5, sk_6, sk_7, sk_8, sk_9, sk_10, sk_11, sk_12, sk_13, sk_14, sk_15, sk_16, sk_17, ls_0, ls_1, ls_2, ls_3, ls_4, ls_5, ls_6, ls_7, ls_8, ls_9, ls_10, ls_11, ls_12, ls_13, ls_14, ls_15, ls_16, ls_17, ct1_i, ct1_r, wd8_0, wd8_i1, wd8_r1, wd8_i2, wd8_r2, wd8_i3, wd8_r3, wd8_i4, wd8_r4, wd8_i5, wd8_r5, wd8_i6, wd8_r6, wd8_i7, wd8_r7, wd8_i8, wd8_r8, wd8_l2, wd8_l3, wd8_l4, wd8_l5, wd8_l6, wd8_l7, wd8_l8, tl_s, tl_n, inR_t, bd_t, true_and, and_true, true_or, or_true, if_true_x, if_false_x, if_pos, if_neg, Int.toNat_natCast, natL, bI_0, bI_1, bI_ft, eq_self, b_tf, b_ft, not_true_eq_false, not_false_eq_true]
  exact hq h4 z4 (g2.bg.tr (g3.bg3.tr g4.bg4)) (by rw [g4.1 8 (by omega), g3.1 8 (by omega)]; exact p2) (by rw [g4.1 23 (by omega)]; exact p3) p4
set_option maxHeartbeats 4000000 in
theorem m_2 {h : xH} (hp : PL X 200) (hc : CT X ns nb ln) {C T : Nat} (z : NZ X h) (g : WG (cv h 200)) (tm : TMb (h.1 1)) (hnb : nb = T * C) (n16 : nb ≤ 16) (hn : h.2 22 0 = nb) (pn : PTo (h.1 24) T C (ned (cv h 200))) (ps : PTo (h.1 23) T C (sup (cv h 200))) (hq : ∀ h2, NZ X h2 → S15 h h2 → Q (some (vi (cst (cv h 200) (h.1 1) C nb))) h2) : Cl X 2 [vr 26, vr 200] h Q := by
  have tt := tm.tall
  have tg := tm.gam
  have t1 := tm.tgt
  have t2 := tm.prs
  have sb := smO_bd g (t := h.1 1 4) (gm := h.1 1 0) (by omega) (by omega) (by omega)
  have ob := ovf_b g.1 (tg := h.1 1 1) (by omega) C nb n16
  have mb := mul_bd (a := h.1 1 2) (b := ovf (cv h 200) (h.1 1 1) C nb) (A := 99) (B := 491520) (by omega) (by omega) (by omega) (by omega)
  rw [c_2]
  simp (disch := first | assumption | omega) only [e_2_0, e_2_1, e_2_2, e_2_3, onI_s, onR_s, onL_s, gl_0, gl_n, gl_1, gl_2, gl_3, gl_4, gl_5, gl_6, gl_7, gl_8, gl_9, gl_10, gl_11, gl_12, gl_13, gl_14, gl_15, gl_16, gl_17, sk0i, sk0r, sk0n, sk1i, sk1r, sk1n, sk_2, sk_3, sk_4, sk_5, sk_6, sk_7, sk_8, sk_9, sk_10, sk_11, sk_12, sk_13, sk_14, sk_15, sk_16, sk_17, ls_0, ls_1, ls_2, ls_3, ls_4, ls_5, ls_6, ls_7, ls_8, ls_9, ls_10, ls_11, ls_12, ls_13, ls_14, ls_15, ls_16, ls_17, ct1_i, ct1_r, wd8_0, wd8_i1, wd8_r1, wd8_i2, wd8_r2, wd8_i3, wd8_r3, wd8_i4, wd8_r4, wd8_i5, wd8_r5, wd8_i6, wd8_r6, wd8_i7, wd8_r7, wd8_i8, wd8_r8, wd8_l2, wd8_l3, wd8_l4, wd8_l5, wd8_l6, wd8_l7, wd8_l8, tl_s, tl_n, inR_t, bd_t, true_and, and_true, true_or, or_true, if_true_x, if_false_x, if_pos, if_neg, Int.toNat_natCast, natL, bI_0, bI_1, bI_ft, eq_self, b_tf, b_ft, not_true_eq_false, not_false_eq_true, hc.t26, hc.r26_0, hc.r26_1, hc.r26_2, hc.r26_3, hc.r26_4]
  (rw [e_2_4]; refine ⟨⟨hc.t14, by simp [wd_i, wd_r, wd_l, wd_0]⟩, ?_⟩)
  refine m_96 hp hc z g tm (fun h2 z2 s2 => ?_)
  simp (disch := first | assumption | omega) only [e_2_5, e_2_6, e_2_7, e_2_8, e_2_9, e_2_10, e_2_11, e_2_12, e_2_13, e_2_14, e_2_15, onI_s, onR_s, onL_s, gl_0, gl_n, gl_1, gl_2, gl_3, gl_4, gl_5, gl_6, gl_7, gl_8, gl_9, gl_10, gl_11, gl_12, gl_13, gl_14, gl_15, gl_16, gl_17, sk0i, sk0r, sk0n, sk1i, sk1r, sk1n, sk_2, sk_3, sk_4, sk_5, sk_6, sk_7, sk_8, sk_9, sk_10, sk_11, sk_12, sk_13, sk_14, sk_15, sk_16, sk_17, ls_0, ls_1, ls_2, ls_3, ls_4, ls_5, ls_6, ls_7, ls_8, ls_9, ls_10, ls_11, ls_12, ls_13, ls_14, ls_15, ls_16, ls_17, ct1_i, ct1_r, wd8_0, wd8_i1, wd8_r1, wd8_i2, wd8_r2, wd8_i3, wd8_r3, wd8_i4, wd8_r4, wd8_i5, wd8_r5, wd8_i6, wd8_r6, wd8_i7, wd8_r7, wd8_i8, wd8_r8, wd8_l2, wd8_l3, wd8_l4, wd8_l5, wd8_l6, wd8_l7, wd8_l8, tl_s, tl_n, inR_t, bd_t, true_and, and_true, true_or, or_true, if_true_x, if_false_x, if_pos, if_neg, Int.toNat_natCast, natL, bI_0, bI_1, bI_ft, eq_self, b_tf, b_ft, not_true_eq_false, not_false_eq_true, m_10 hc g.1 hnb n16 ((congrFun (congrFun s2.2 22) 0).trans hn) (s2.1 24 (by omega) ▸ pn) (s2.1 23 (by omega) ▸ ps) (congrFun (s2.1 1 (by omega)) 1) t1.1 t1.2, s2.1 1 (by omega), (show Int.toNat 2 = 2 from rfl), hc.t26, hc.r26_0, hc.r26_1, hc.r26_2, hc.r26_3, hc.r26_4, hc.t22, hc.r22_2, hc.r22_3, hc.r22_4, hc.r22_5, hc.t1, hc.z1]
  exact hq h2 z2 s2
end OVR
