/-! BINS: demand of the class -/
def dT (v : Nat → Nat → Int) (br bc n : Nat) : Int := if ((bxn v n).1 / 128 ≤ (bc : Int) ∧ (bc : Int) ≤ (bxn v n).2.1 / 128) ∧ ((bxn v n).2.2.1 / 32 ≤ (br : Int) ∧ (br : Int) ≤ (bxn v n).2.2.2 / 32) then v 20 n else 0
def dmd (v : Nat → Nat → Int) (br bc : Nat) : Int := sumF (dT v br bc) (v 19 0).toNat 0
def bxI (a b c d : Int) (q : Int × Int × Int × Int) : Prop := a ≤ q.1 ∧ q.1 ≤ q.2.1 ∧ q.2.1 ≤ b ∧ c ≤ q.2.2.1 ∧ q.2.2.1 ≤ q.2.2.2 ∧ q.2.2.2 ≤ d
theorem bx4_ii {px py : Nat → Int} {a b c d : Int} : ∀ (m i : Nat) (q : Int × Int × Int × Int), (∀ k, i ≤ k → k < i + m → (a ≤ px k ∧ px k ≤ b) ∧ (c ≤ py k ∧ py k ≤ d)) → bxI a b c d q → bxI a b c d (bx4 px py (-1) m i q)
  | 0, _, _, _, h => h
  | m + 1, i, q, hx, h => by
    rw [bx4, if_neg (by omega)]
    refine bx4_ii m (i + 1) _ (fun k h1 h2 => hx k (by omega) (by omega)) ?_
    have h1 := hx i (by omega) (by omega)
    obtain ⟨a1, a2, a3, a4, a5, a6⟩ := h
    refine ⟨?_, ?_, ?_, ?_, ?_, ?_⟩ <;> dsimp only <;> omega
theorem pin_in {v : Nat → Nat → Int} (g : Gd v) {n k : Nat} (hn : (n : Int) < v 19 0) (hk : (k : Int) < v 21 n) : (0 ≤ pnX v n k ∧ pnX v n k ≤ 16 * v 0 1 - 1) ∧ (0 ≤ pnY v n k ∧ pnY v n k ≤ 16 * v 0 0 - 1) := by
  have hw := g.rg
  have nt := g.2.2.2.1 n k hn hk
  have gc : 0 ≤ v 22 (n * 6 + k) := by have := hw.hed (n * 6 + k); omega
  have po : 0 ≤ v 23 (n * 6 + k) := by have := hw.tai (n * 6 + k); omega
  by_cases e : 200 ≤ v 22 (n * 6 + k)
  · have := nt.1 e
    unfold pnX pnY
    rw [if_pos e, if_pos e]
    omega
  · have t := nt.2 (by omega)
    have ge := g.2.2.2.2.cel (c := (v 22 (n * 6 + k)).toNat) (by omega)
    have wx := hw.wx (v 22 (n * 6 + k)).toNat
    have wy := hw.wy (v 22 (n * 6 + k)).toNat
    unfold pnX pnY
    rw [if_neg e, if_neg e]
    unfold coX coY
    by_cases e2 : v 17 (v 22 (n * 6 + k)).toNat = -1
    · rw [if_pos e2, if_pos e2]
      omega
    · have gf := (gfB_iff.mp (g.2.2.2.2.2.2.1 (v 22 (n * 6 + k)).toNat (by omega) e2)).1
      rw [if_neg e2, if_neg e2]
      omega
theorem bxn_in {v : Nat → Nat → Int} (g : Gd v) {n : Nat} (hn : (n : Int) < v 19 0) : bxI 0 (16 * v 0 1 - 1) 0 (16 * v 0 0 - 1) (bxn v n) := by
  have h2 := g.2.1 n hn
  unfold bxn
  obtain ⟨m, hm⟩ : ∃ m, (v 21 n).toNat = m + 1 := ⟨(v 21 n).toNat - 1, by omega⟩
  have p0 := pin_in g (n := n) (k := 0) hn (by omega)
  rw [hm, bx4, if_neg (by omega)]
  refine bx4_ii m (0 + 1) _ (fun k q1 q2 => pin_in g hn (by omega)) ?_
  unfold bx0
  refine ⟨?_, ?_, ?_, ?_, ?_, ?_⟩ <;> dsimp only <;> omega
theorem dT_bd {v : Nat → Nat → Int} (w : RGv v) (br bc m i : Nat) : 0 ≤ sumF (dT v br bc) m i ∧ sumF (dT v br bc) m i ≤ m * 9 := sumF_bd (by decide) m i (fun j _ _ => by have := w.wgt j; unfold dT; split <;> omega)
theorem dmd_b {v : Nat → Nat → Int} (w : RGv v) (br bc : Nat) : 0 ≤ dmd v br bc ∧ dmd v br bc ≤ 144 := by
  have nN := w.nN
  have := dT_bd w br bc (v 19 0).toNat 0
  unfold dmd
  omega
def D25 (h h2 : xH) : Prop := (∀ a, a ≠ 25 → h2.1 a = h.1 a) ∧ ∀ a, a ≠ 14 → h2.2 a = h.2 a
section DMD
variable {X : xL} {Q : Option xV → xH → Prop} {ns nb ln : Nat}
theorem D25.refl {h : xH} : D25 h h := ⟨fun _ _ => rfl, fun _ _ => rfl⟩
theorem D25.tr {h h2 h3 : xH} (a : D25 h h2) (b : D25 h2 h3) : D25 h h3 := ⟨fun j q => (b.1 j q).trans (a.1 j q), fun j q => (b.2 j q).trans (a.2 j q)⟩
theorem D25.cv {h h2 : xH} {b : Nat} (a : D25 h h2) (hb : 200 ≤ b) : cv h2 b = cv h b := cv_congr (fun j q1 q2 => ⟨a.1 j (by omega), a.2 j (by omega)⟩)
theorem D25.fz {h h2 : xH} (a : D25 h h2) (z : NZ X h2) : Fz X h h2 := by
  refine ⟨z, fun j q => ⟨a.1 j (by omega), a.2 j (by omega)⟩, ?_, fun p hp => ⟨fun i => ?_, fun j hj i hi => ?_⟩⟩
  · rw [a.2 7 (by omega), a.2 22 (by omega)]; exact ⟨rfl, rfl, rfl, rfl⟩
  · rw [a.2 _ (by omega)]
  · rw [a.2 _ (by omega)]
theorem G1.d25 {h h2 : xH} (a : G1 25 h h2) : D25 h h2 := ⟨a.1, fun j _ => by rw [a.2]⟩
set_option maxHeartbeats 8000000 in
theorem l_11x (hp : PL X 200) (hc : CT X ns nb ln) {C T y x1 n : Nat} {w : Int} (hnb : nb = T * C) (C4 : C ≤ 4) (T4 : T ≤ 4) (hy : y < T) (hx1 : x1 < C) (n16 : n < 16) (w0 : 0 ≤ w) (w9 : w ≤ 9) : ∀ (m x : Nat) (h : xH) (A : Nat → Nat → Int), NZ X h → h.2 22 1 = C → (0 ≤ h.2 14 2 ∧ h.2 14 2 ≤ 10000 ∧ h.2 14 2 / 128 = x1) → h.1 (200 + 20) n = w → PTo (h.1 25) T C A → (∀ bc, x ≤ bc → 0 ≤ A y bc ∧ A y bc ≤ 100000) → x + m = x1 + 1 → (∀ h2, NZ X h2 → G1 25 h h2 → PTo (h2.1 25) T C (fun br bc => A br bc + (if br = y ∧ x ≤ bc ∧ bc ≤ x1 then w else 0)) → Ev X 11 56 [some (vr 22), some (vr 200), some (vr 14), some (vi n), some (vi y), some (vi ((x1 + 1 : Nat) : Int))] [] h2 Q) → Ev X 11 31 [some (vr 22), some (vr 200), some (vr 14), some (vi n), some (vi y), some (vi x)] [] h Q := by
  intro m
  induction m with
  | zero =>
    intro x h A z hC hx hW pt ab hm hq
    have td : (h.2 14 2).tdiv 128 = (x1 : Int) := by rw [td_n (by omega)]; exact hx.2.2
    rw [e_11_31]
    simp (disch := first | assumption | omega) only [e_11_32, e_11_33, e_11_34, e_11_35, e_11_36, onI_s, onR_s, onL_s, gl_0, gl_n, gl_1, gl_2, gl_3, gl_4, gl_5, gl_6, gl_7, gl_8, gl_9, gl_10, gl_11, gl_12, gl_13, gl_14, gl_15, gl_16, gl_17, sk0i, sk0r, sk0n, sk1i, sk1r, sk1n, sk_2, sk_3, sk_4, sk_5, sk_6, sk_7, sk_8, sk_9, sk_10, sk_11, sk_12, sk_13, sk_14, sk_15, sk_16, sk_17, ls_0, ls_1, ls_2, ls_3, ls_4, ls_5, ls_6, ls_7, ls_8, ls_9, ls_10, ls_11, ls_12, ls_13, ls_14, ls_15, ls_16, ls_17, ct1_i, ct1_r, wd8_0, wd8_i1, wd8_r1, wd8_i2, wd8_r2, wd8_i3, wd8_r3, wd8_i4, wd8_r4, wd8_i5, wd8_r5, wd8_i6, wd8_r6, wd8_i7, wd8_r7, wd8_i8, wd8_r8, wd8_l2, wd8_l3, wd8_l4, wd8_l5, wd8_l6, wd8_l7, wd8_l8, tl_s, tl_n, inR_t, bd_t, true_and, and_true, true_or, or_true, if_true_x, if_false_x, if_pos, if_neg, Int.toNat_natCast, natL, bI_0, bI_1, bI_ft, eq_self, b_tf, b_ft, not_true_eq_false, not_false_eq_true, dv_t, dvR, nz_128, td, hc.t14, hc.r14_0, hc.r14_5, hc.r14_7, hc.r14_8, hc.r14_9, hc.r14_10, hc.r14_11, hc.r14_12]
    rw [show x = x1 + 1 by omega] at hq ⊢
    exact hq h z G1.refl (pt.cg (fun br bc h1 h2 => by rw [if_neg (by omega), Int.add_zero]))
  | succ m ih =>
    intro x h A z hC hx hW pt ab hm hq
    have td : (h.2 14 2).tdiv 128 = (x1 : Int) := by rw [td_n (by omega)]; exact hx.2.2
    have hi := ix_in hy (show x < C by omega)
    have mb := mul_bd (a := (y : Int)) (b := (C : Int)) (A := 4) (B := 4) (by omega) (by omega) (by omega) (by omega)
    have t1 : ((y : Int) * (C : Int) + (x : Int)).toNat = y * C + x := by
      rw [← Int.natCast_mul, ← Int.natCast_add, Int.toNat_natCast]
    have hb : (y : Int) * (C : Int) + (x : Int) < (nb : Int) := by
      rw [← Int.natCast_mul, ← Int.natCast_add, hnb]
      omega
    have rv := pt y x hy (by omega)
    have av := ab x (Nat.le_refl x)
    rw [e_11_31]
    simp (disch := first | assumption | omega) only [e_11_32, e_11_33, e_11_34, e_11_35, e_11_36, e_11_37, e_11_38, e_11_39, e_11_40, e_11_41, e_11_42, e_11_43, e_11_44, e_11_45, e_11_46, e_11_47, e_11_48, e_11_49, e_11_50, e_11_51, e_11_52, e_11_53, e_11_54, e_11_55, onI_s, onR_s, onL_s, gl_0, gl_n, gl_1, gl_2, gl_3, gl_4, gl_5, gl_6, gl_7, gl_8, gl_9, gl_10, gl_11, gl_12, gl_13, gl_14, gl_15, gl_16, gl_17, sk0i, sk0r, sk0n, sk1i, sk1r, sk1n, sk_2, sk_3, sk_4, sk_5, sk_6, sk_7, sk_8, sk_9, sk_10, sk_11, sk_12, sk_13, sk_14, sk_15, sk_16, sk_17, ls_0, ls_1, ls_2, ls_3, ls_4, ls_5, ls_6, ls_7, ls_8, ls_9, ls_10, ls_11, ls_12, ls_13, ls_14, ls_15, ls_16, ls_17, ct1_i, ct1_r, wd8_0, wd8_i1, wd8_r1, wd8_i2, wd8_r2, wd8_i3, wd8_r3, wd8_i4, wd8_r4, wd8_i5, wd8_r5, wd8_i6, wd8_r6, wd8_i7, wd8_r7, wd8_i8, wd8_r8, wd8_l2, wd8_l3, wd8_l4, wd8_l5, wd8_l6, wd8_l7, wd8_l8, tl_s, tl_n, inR_t, bd_t, true_and, and_true, true_or, or_true, if_true_x, if_false_x, if_pos, if_neg, Int.toNat_natCast, natL, bI_0, bI_1, bI_ft, eq_self, b_tf, b_ft, not_true_eq_false, not_false_eq_true, dv_t, dvR, nz_128, td, hC, t1, rv, hW, cast_s, hc.t14, hc.r14_0, hc.r14_5, hc.r14_7, hc.r14_8, hc.r14_9, hc.r14_10, hc.r14_11, hc.r14_12, hc.t22, hc.r22_2, hc.r22_3, hc.r22_4, hc.r22_5, hc.t25, hc.z25, hp.t0, hp.t1, hp.t2, hp.t3, hp.t4, hp.t5, hp.t6, hp.t7, hp.t8, hp.t9, hp.t10, hp.t11, hp.t12, hp.t13, hp.t14, hp.t15, hp.t16, hp.t17, hp.t18, hp.t19, hp.t20, hp.t21, hp.t22, hp.t23, hp.z2, hp.z3, hp.z4, hp.z5, hp.z7, hp.z8, hp.z9, hp.z10, hp.z12, hp.z13, hp.z14, hp.z15, hp.z16, hp.z17, hp.z18, hp.z20, hp.z21, hp.z22, hp.z23, hp.r0_2, hp.r0_3, hp.r0_4, hp.r0_5, hp.r1_1, hp.r1_2, hp.r1_3, hp.r1_4, hp.r6_1, hp.r6_2, hp.r6_3, hp.r6_4, hp.r11_1, hp.r11_2, hp.r11_3, hp.r11_4, hp.r11_5, hp.r11_6, hp.r11_7, hp.r19_1, hp.r19_2, hp.r19_3, hp.r19_4]
    refine ih (x + 1) _ (fun br bc => if br = y ∧ bc = x then A y x + w else A br bc) (NZ.up (I := h.1) (F := h.2) z (by rw [hc.z25, hnb]; exact hi)) hC hx (by dsimp only; rw [up2_of (by omega)]; exact hW) ?_ (fun bc hbc => ?_) (by omega) (fun h2 z2 g2 p2 => ?_)
    · intro br bc hbr hbc
      dsimp only
      rw [up2_same]
      by_cases e : br * C + bc = y * C + x
      · have := ix_eq hbc (by omega) e
        rw [if_pos e, if_pos this]
      · rw [if_neg e, if_neg (fun q => e (by rw [q.1, q.2]))]
        exact pt br bc hbr hbc
    · rw [if_neg (by omega)]
      exact ab bc (by omega)
    · refine hq h2 z2 (G1.tr (h2 := (up2 h.1 25 (y * C + x) (A y x + w), h.2)) ⟨fun a q => up2_of q, rfl⟩ g2) (p2.cg (fun br bc h1 h2 => ?_))
      by_cases e : br = y ∧ bc = x
      · rw [if_pos e, if_neg (by omega), if_pos (by omega), e.1, e.2, Int.add_zero]
      · rw [if_neg e]
        by_cases e2 : br = y ∧ x + 1 ≤ bc ∧ bc ≤ x1
        · rw [if_pos e2, if_pos (by omega)]
        · rw [if_neg e2, if_neg (by omega)]
set_option maxHeartbeats 8000000 in
theorem l_11y (hp : PL X 200) (hc : CT X ns nb ln) {C T x0 x1 y1 n : Nat} {w : Int} (hnb : nb = T * C) (C4 : C ≤ 4) (T4 : T ≤ 4) (hy1 : y1 < T) (hx1 : x1 < C) (hx0 : x0 ≤ x1) (n16 : n < 16) (w0 : 0 ≤ w) (w9 : w ≤ 9) : ∀ (m y : Nat) (h : xH) (A : Nat → Nat → Int) (x5 : Option xV), NZ X h → h.2 22 1 = C → (0 ≤ h.2 14 1 ∧ h.2 14 1 ≤ 10000 ∧ h.2 14 1 / 128 = x0) → (0 ≤ h.2 14 2 ∧ h.2 14 2 ≤ 10000 ∧ h.2 14 2 / 128 = x1) → (0 ≤ h.2 14 4 ∧ h.2 14 4 ≤ 10000 ∧ h.2 14 4 / 32 = y1) → h.1 (200 + 20) n = w → PTo (h.1 25) T C A → (∀ br bc, y ≤ br → 0 ≤ A br bc ∧ A br bc ≤ 100000) → y + m = y1 + 1 → (∀ h2 x4 x5, NZ X h2 → G1 25 h h2 → PTo (h2.1 25) T C (fun br bc => A br bc + (if (x0 ≤ bc ∧ bc ≤ x1) ∧ (y ≤ br ∧ br ≤ y1) then w else 0)) → Ev X 11 58 [some (vr 22), some (vr 200), some (vr 14), some (vi n), x4, x5] [] h2 Q) → Ev X 11 20 [some (vr 22), some (vr 200), some (vr 14), some (vi n), some (vi y), x5] [] h Q := by
  intro m
  induction m with
  | zero =>
    intro y h A x5 z hC hx0 hx hy hW pt ab hm hq
    have td : (h.2 14 4).tdiv 32 = (y1 : Int) := by rw [td_n (by omega)]; exact hy.2.2
    rw [e_11_20]
    simp (disch := first | assumption | omega) only [e_11_21, e_11_22, e_11_23, e_11_24, e_11_25, onI_s, onR_s, onL_s, gl_0, gl_n, gl_1, gl_2, gl_3, gl_4, gl_5, gl_6, gl_7, gl_8, gl_9, gl_10, gl_11, gl_12, gl_13, gl_14, gl_15, gl_16, gl_17, sk0i, sk0r, sk0n, sk1i, sk1r, sk1n, sk_2, sk_3, sk_4, sk_5, sk_6, sk_7, sk_8, sk_9, sk_10, sk_11, sk_12, sk_13, sk_14, sk_15, sk_16, sk_17, ls_0, ls_1, ls_2, ls_3, ls_4, ls_5, ls_6, ls_7, ls_8, ls_9, ls_10, ls_11, ls_12, ls_13, ls_14, ls_15, ls_16, ls_17, ct1_i, ct1_r, wd8_0, wd8_i1, wd8_r1, wd8_i2, wd8_r2, wd8_i3, wd8_r3, wd8_i4, wd8_r4, wd8_i5, wd8_r5, wd8_i6, wd8_r6, wd8_i7, wd8_r7, wd8_i8, wd8_r8, wd8_l2, wd8_l3, wd8_l4, wd8_l5, wd8_l6, wd8_l7, wd8_l8, tl_s, tl_n, inR_t, bd_t, true_and, and_true, true_or, or_true, if_true_x, if_false_x, if_pos, if_neg, Int.toNat_natCast, natL, bI_0, bI_1, bI_ft, eq_self, b_tf, b_ft, not_true_eq_false, not_false_eq_true, dv_t, dvR, nz_32, td, hc.t14, hc.r14_0, hc.r14_5, hc.r14_7, hc.r14_8, hc.r14_9, hc.r14_10, hc.r14_11, hc.r14_12]
    exact hq h _ _ z G1.refl (pt.cg (fun br bc h1 h2 => by rw [if_neg (by omega), Int.add_zero]))
  | succ m ih =>
    intro y h A x5 z hC hx0 hx hy hW pt ab hm hq
    have td : (h.2 14 4).tdiv 32 = (y1 : Int) := by rw [td_n (by omega)]; exact hy.2.2
    have tx : (h.2 14 1).tdiv 128 = (x0 : Int) := by rw [td_n (by omega)]; exact hx0.2.2
    rw [e_11_20]
    simp (disch := first | assumption | omega) only [e_11_21, e_11_22, e_11_23, e_11_24, e_11_25, e_11_26, e_11_27, e_11_28, e_11_29, e_11_30, onI_s, onR_s, onL_s, gl_0, gl_n, gl_1, gl_2, gl_3, gl_4, gl_5, gl_6, gl_7, gl_8, gl_9, gl_10, gl_11, gl_12, gl_13, gl_14, gl_15, gl_16, gl_17, sk0i, sk0r, sk0n, sk1i, sk1r, sk1n, sk_2, sk_3, sk_4, sk_5, sk_6, sk_7, sk_8, sk_9, sk_10, sk_11, sk_12, sk_13, sk_14, sk_15, sk_16, sk_17, ls_0, ls_1, ls_2, ls_3, ls_4, ls_5, ls_6, ls_7, ls_8, ls_9, ls_10, ls_11, ls_12, ls_13, ls_14, ls_15, ls_16, ls_17, ct1_i, ct1_r, wd8_0, wd8_i1, wd8_r1, wd8_i2, wd8_r2, wd8_i3, wd8_r3, wd8_i4, wd8_r4, wd8_i5, wd8_r5, wd8_i6, wd8_r6, wd8_i7, wd8_r7, wd8_i8, wd8_r8, wd8_l2, wd8_l3, wd8_l4, wd8_l5, wd8_l6, wd8_l7, wd8_l8, tl_s, tl_n, inR_t, bd_t, true_and, and_true, true_or, or_true, if_true_x, if_false_x, if_pos, if_neg, Int.toNat_natCast, natL, bI_0, bI_1, bI_ft, eq_self, b_tf, b_ft, not_true_eq_false, not_false_eq_true, dv_t, dvR, nz_32, nz_128, td, tx, hc.t14, hc.r14_0, hc.r14_5, hc.r14_7, hc.r14_8, hc.r14_9, hc.r14_10, hc.r14_11, hc.r14_12]
    refine l_11x hp hc (y := y) (x1 := x1) hnb C4 T4 (by omega) hx1 n16 w0 w9 (x1 + 1 - x0) x0 h A z hC hx hW pt (fun bc _ => ab y bc (Nat.le_refl y)) (by omega) (fun h2 z2 g2 p2 => ?_)
    rw [e_11_56]
    simp (disch := first | assumption | omega) only [e_11_57, onI_s, onR_s, onL_s, gl_0, gl_n, gl_1, gl_2, gl_3, gl_4, gl_5, gl_6, gl_7, gl_8, gl_9, gl_10, gl_11, gl_12, gl_13, gl_14, gl_15, gl_16, gl_17, sk0i, sk0r, sk0n, sk1i, sk1r, sk1n, sk_2, sk_3, sk_4, sk_5, sk_6, sk_7, sk_8, sk_9, sk_10, sk_11, sk_12, sk_13, sk_14, sk_15, sk_16, sk_17, ls_0, ls_1, ls_2, ls_3, ls_4, ls_5, ls_6, ls_7, ls_8, ls_9, ls_10, ls_11, ls_12, ls_13, ls_14, ls_15, ls_16, ls_17, ct1_i, ct1_r, wd8_0, wd8_i1, wd8_r1, wd8_i2, wd8_r2, wd8_i3, wd8_r3, wd8_i4, wd8_r4, wd8_i5, wd8_r5, wd8_i6, wd8_r6, wd8_i7, wd8_r7, wd8_i8, wd8_r8, wd8_l2, wd8_l3, wd8_l4, wd8_l5, wd8_l6, wd8_l7, wd8_l8, tl_s, tl_n, inR_t, bd_t, true_and, and_true, true_or, or_true, if_true_x, if_false_x, if_pos, if_neg, Int.toNat_natCast, natL, bI_0, bI_1, bI_ft, eq_self, b_tf, b_ft, not_true_eq_false, not_false_eq_true, cast_s]
    refine ih (y + 1) h2 _ _ z2 (by rw [g2.2]; exact hC) (by rw [g2.2]; exact hx0) (by rw [g2.2]; exact hx) (by rw [g2.2]; exact hy) (by rw [g2.1 _ (by omega)]; exact hW) p2 (fun br bc hbr => ?_) (by omega) (fun h3 x4 x5 z3 g3 p3 => hq h3 x4 x5 z3 (g2.tr g3) (p3.cg (fun br bc h1 h2 => ?_)))
    · rw [if_neg (by omega), Int.add_zero]
      exact ab br bc (by omega)
    · by_cases e : br = y
      · rw [if_neg (show ¬ ((x0 ≤ bc ∧ bc ≤ x1) ∧ (y + 1 ≤ br ∧ br ≤ y1)) by omega), Int.add_zero]
        by_cases e2 : x0 ≤ bc ∧ bc ≤ x1
        · rw [if_pos (by omega), if_pos (by omega)]
        · rw [if_neg (by omega), if_neg (by omega)]
      · rw [if_neg (fun q => e q.1), Int.add_zero]
        by_cases e2 : (x0 ≤ bc ∧ bc ≤ x1) ∧ (y + 1 ≤ br ∧ br ≤ y1)
        · rw [if_pos e2, if_pos (by omega)]
        · rw [if_neg e2, if_neg (by omega)]
set_option maxHeartbeats 8000000 in
theorem l_11 (hp : PL X 200) (hc : CT X ns nb ln) {C T N : Nat} {v : Nat → Nat → Int} (g : Gd v) (C4 : C ≤ 4) (T4 : T ≤ 4) (hN : v 19 0 = N) : ∀ (m n : Nat) (h : xH) (x4 x5 : Option xV), NZ X h → cv h 200 = v → BNv X h v C T nb → PTo (h.1 25) T C (fun br bc => sumF (dT v br bc) n 0) → n + m = N → (∀ h2, NZ X h2 → D25 h h2 → PTo (h2.1 25) T C (dmd v) → Q none h2) → Ev X 11 5 [some (vr 22), some (vr 200), some (vr 14), some (vi n), x4, x5] [] h Q := by
  have hw := g.rg
  have nN := hw.nN
  have ws := hw.sites
  have wr := hw.rows
  intro m
  induction m with
  | zero =>
    intro n h x4 x5 z ev bn pt hm hq
    have hs : h.2 (200 + 19) 0 = N := by rw [← hN, ← ev]; rfl
    rw [e_11_5]
    simp (disch := first | assumption | omega) only [e_11_6, e_11_7, e_11_8, e_11_9, e_11_60, onI_s, onR_s, onL_s, gl_0, gl_n, gl_1, gl_2, gl_3, gl_4, gl_5, gl_6, gl_7, gl_8, gl_9, gl_10, gl_11, gl_12, gl_13, gl_14, gl_15, gl_16, gl_17, sk0i, sk0r, sk0n, sk1i, sk1r, sk1n, sk_2, sk_3, sk_4, sk_5, sk_6, sk_7, sk_8, sk_9, sk_10, sk_11, sk_12, sk_13, sk_14, sk_15, sk_16, sk_17, ls_0, ls_1, ls_2, ls_3, ls_4, ls_5, ls_6, ls_7, ls_8, ls_9, ls_10, ls_11, ls_12, ls_13, ls_14, ls_15, ls_16, ls_17, ct1_i, ct1_r, wd8_0, wd8_i1, wd8_r1, wd8_i2, wd8_r2, wd8_i3, wd8_r3, wd8_i4, wd8_r4, wd8_i5, wd8_r5, wd8_i6, wd8_r6, wd8_i7, wd8_r7, wd8_i8, wd8_r8, wd8_l2, wd8_l3, wd8_l4, wd8_l5, wd8_l6, wd8_l7, wd8_l8, tl_s, tl_n, inR_t, bd_t, true_and, and_true, true_or, or_true, if_true_x, if_false_x, if_pos, if_neg, Int.toNat_natCast, natL, bI_0, bI_1, bI_ft, eq_self, b_tf, b_ft, not_true_eq_false, not_false_eq_true, hs, hp.t0, hp.t1, hp.t2, hp.t3, hp.t4, hp.t5, hp.t6, hp.t7, hp.t8, hp.t9, hp.t10, hp.t11, hp.t12, hp.t13, hp.t14, hp.t15, hp.t16, hp.t17, hp.t18, hp.t19, hp.t20, hp.t21, hp.t22, hp.t23, hp.z2, hp.z3, hp.z4, hp.z5, hp.z7, hp.z8, hp.z9, hp.z10, hp.z12, hp.z13, hp.z14, hp.z15, hp.z16, hp.z17, hp.z18, hp.z20, hp.z21, hp.z22, hp.z23, hp.r0_2, hp.r0_3, hp.r0_4, hp.r0_5, hp.r1_1, hp.r1_2, hp.r1_3, hp.r1_4, hp.r6_1, hp.r6_2, hp.r6_3, hp.r6_4, hp.r11_1, hp.r11_2, hp.r11_3, hp.r11_4, hp.r11_5, hp.r11_6, hp.r11_7, hp.r19_1, hp.r19_2, hp.r19_3, hp.r19_4]
    refine hq h z D25.refl (pt.cg (fun br bc h1 h2 => ?_))
    unfold dmd
    rw [hN, Int.toNat_natCast, show n = N by omega]
  | succ m ih =>
    intro n h x4 x5 z ev bn pt hm hq
    have hs : h.2 (200 + 19) 0 = N := by rw [← hN, ← ev]; rfl
    have hnn : (n : Int) < v 19 0 := by omega
    have bi := bxn_in g hnn
    have wg := hw.wgt n
    rw [e_11_5]
    simp (disch := first | assumption | omega) only [e_11_6, e_11_7, e_11_8, e_11_9, e_11_10, e_11_11, e_11_12, e_11_13, onI_s, onR_s, onL_s, gl_0, gl_n, gl_1, gl_2, gl_3, gl_4, gl_5, gl_6, gl_7, gl_8, gl_9, gl_10, gl_11, gl_12, gl_13, gl_14, gl_15, gl_16, gl_17, sk0i, sk0r, sk0n, sk1i, sk1r, sk1n, sk_2, sk_3, sk_4, sk_5, sk_6, sk_7, sk_8, sk_9, sk_10, sk_11, sk_12, sk_13, sk_14, sk_15, sk_16, sk_17, ls_0, ls_1, ls_2, ls_3, ls_4, ls_5, ls_6, ls_7, ls_8, ls_9, ls_10, ls_11, ls_12, ls_13, ls_14, ls_15, ls_16, ls_17, ct1_i, ct1_r, wd8_0, wd8_i1, wd8_r1, wd8_i2, wd8_r2, wd8_i3, wd8_r3, wd8_i4, wd8_r4, wd8_i5, wd8_r5, wd8_i6, wd8_r6, wd8_i7, wd8_r7, wd8_i8, wd8_r8, wd8_l2, wd8_l3, wd8_l4, wd8_l5, wd8_l6, wd8_l7, wd8_l8, tl_s, tl_n, inR_t, bd_t, true_and, and_true, true_or, or_true, if_true_x, if_false_x, if_pos, if_neg, Int.toNat_natCast, natL, bI_0, bI_1, bI_ft, eq_self, b_tf, b_ft, not_true_eq_false, not_false_eq_true, hs, hp.t0, hp.t1, hp.t2, hp.t3, hp.t4, hp.t5, hp.t6, hp.t7, hp.t8, hp.t9, hp.t10, hp.t11, hp.t12, hp.t13, hp.t14, hp.t15, hp.t16, hp.t17, hp.t18, hp.t19, hp.t20, hp.t21, hp.t22, hp.t23, hp.z2, hp.z3, hp.z4, hp.z5, hp.z7, hp.z8, hp.z9, hp.z10, hp.z12, hp.z13, hp.z14, hp.z15, hp.z16, hp.z17, hp.z18, hp.z20, hp.z21, hp.z22, hp.z23, hp.r0_2, hp.r0_3, hp.r0_4, hp.r0_5, hp.r1_1, hp.r1_2, hp.r1_3, hp.r1_4, hp.r6_1, hp.r6_2, hp.r6_3, hp.r6_4, hp.r11_1, hp.r11_2, hp.r11_3, hp.r11_4, hp.r11_5, hp.r11_6, hp.r11_7, hp.r19_1, hp.r19_2, hp.r19_3, hp.r19_4]
    (rw [e_11_14]; refine ⟨⟨hc.t14, by simp [wd_i, wd_r, wd_l, wd_0]⟩, ?_⟩)
    rw [m_89 (I := h.1) (F := h.2) (n := n) hp hc (by rw [ev]; exact hw) (by rw [ev]; exact g.nw) (by rw [hs]; omega)]
    have hb : bx4 (pnX (cv (h.1, h.2) 200) n) (pnY (cv (h.1, h.2) 200) n) (-1) (h.1 (200 + 21) n).toNat 0 bx0 = bxn v n := by rw [← ev]; rfl
    rw [hb]
    obtain ⟨b1, b2, b3, b4, b5, b6⟩ := bi
    obtain ⟨⟨c1, c2, c3⟩, c4, c5⟩ := bn
    have d2 : D25 h (h.1, sb h.2 (bxn v n).1 (bxn v n).2.1 (bxn v n).2.2.1 (bxn v n).2.2.2) := ⟨fun _ _ => rfl, fun a q => funext (fun k => sb_o q)⟩
    have td : ((bxn v n).2.2.1).tdiv 32 = (((bxn v n).2.2.1 / 32).toNat : Int) := by rw [td_n (by omega)]; omega
    simp (disch := first | assumption | omega) only [e_11_15, e_11_16, e_11_17, e_11_18, e_11_19, onI_s, onR_s, onL_s, gl_0, gl_n, gl_1, gl_2, gl_3, gl_4, gl_5, gl_6, gl_7, gl_8, gl_9, gl_10, gl_11, gl_12, gl_13, gl_14, gl_15, gl_16, gl_17, sk0i, sk0r, sk0n, sk1i, sk1r, sk1n, sk_2, sk_3, sk_4, sk_5, sk_6, sk_7, sk_8, sk_9, sk_10, sk_11, sk_12, sk_13, sk_14, sk_15, sk_16, sk_17, ls_0, ls_1, ls_2, ls_3, ls_4, ls_5, ls_6, ls_7, ls_8, ls_9, ls_10, ls_11, ls_12, ls_13, ls_14, ls_15, ls_16, ls_17, ct1_i, ct1_r, wd8_0, wd8_i1, wd8_r1, wd8_i2, wd8_r2, wd8_i3, wd8_r3, wd8_i4, wd8_r4, wd8_i5, wd8_r5, wd8_i6, wd8_r6, wd8_i7, wd8_r7, wd8_i8, wd8_r8, wd8_l2, wd8_l3, wd8_l4, wd8_l5, wd8_l6, wd8_l7, wd8_l8, tl_s, tl_n, inR_t, bd_t, true_and, and_true, true_or, or_true, if_true_x, if_false_x, if_pos, if_neg, Int.toNat_natCast, natL, bI_0, bI_1, bI_ft, eq_self, b_tf, b_ft, not_true_eq_false, not_false_eq_true, sb_3, dv_t, dvR, nz_32, td, hc.t14, hc.r14_0, hc.r14_5, hc.r14_7, hc.r14_8, hc.r14_9, hc.r14_10, hc.r14_11, hc.r14_12]
    refine l_11y hp hc (C := C) (T := T) (x0 := ((bxn v n).1 / 128).toNat) (x1 := ((bxn v n).2.1 / 128).toNat) (y1 := ((bxn v n).2.2.2 / 32).toNat) (w := v 20 n) c3 C4 T4 (by omega) (by omega) (by omega) (by omega) wg.1 wg.2 (((bxn v n).2.2.2 / 32).toNat + 1 - ((bxn v n).2.2.1 / 32).toNat) ((bxn v n).2.2.1 / 32).toNat _ _ _ (fun a j ht hz => z a j ht hz) (by dsimp only; rw [sb_o (by omega)]; exact c1) ?_ ?_ ?_ (by rw [← ev]; rfl) pt (fun br bc _ => ?_) (by omega) (fun h3 x4 x5 z3 g3 p3 => ?_)
    · dsimp only; rw [sb_1]; omega
    · dsimp only; rw [sb_2]; omega
    · dsimp only; rw [sb_4]; omega
    · have := dT_bd hw br bc n 0
      omega
    · have d3 := d2.tr g3.d25
      rw [e_11_58]
      simp (disch := first | assumption | omega) only [e_11_59, onI_s, onR_s, onL_s, gl_0, gl_n, gl_1, gl_2, gl_3, gl_4, gl_5, gl_6, gl_7, gl_8, gl_9, gl_10, gl_11, gl_12, gl_13, gl_14, gl_15, gl_16, gl_17, sk0i, sk0r, sk0n, sk1i, sk1r, sk1n, sk_2, sk_3, sk_4, sk_5, sk_6, sk_7, sk_8, sk_9, sk_10, sk_11, sk_12, sk_13, sk_14, sk_15, sk_16, sk_17, ls_0, ls_1, ls_2, ls_3, ls_4, ls_5, ls_6, ls_7, ls_8, ls_9, ls_10, ls_11, ls_12, ls_13, ls_14, ls_15, ls_16, ls_17, ct1_i, ct1_r, wd8_0, wd8_i1, wd8_r1, wd8_i2, wd8_r2, wd8_i3, wd8_r3, wd8_i4, wd8_r4, wd8_i5, wd8_r5, wd8_i6, wd8_r6, wd8_i7, wd8_r7, wd8_i8, wd8_r8, wd8_l2, wd8_l3, wd8_l4, wd8_l5, wd8_l6, wd8_l7, wd8_l8, tl_s, tl_n, inR_t, bd_t, true_and, and_true, true_or, or_true, if_true_x, if_false_x, if_pos, if_neg, Int.toNat_natCast, natL, bI_0, bI_1, bI_ft, eq_self, b_tf, b_ft, not_true_eq_false, not_false_eq_true, cast_s]
      refine ih (n + 1) h3 _ _ z3 ((d3.cv (by omega)).trans ev) ⟨⟨by rw [d3.2 22 (by omega)]; exact c1, by rw [d3.2 22 (by omega)]; exact c2, c3⟩, c4, c5⟩ (p3.cg (fun br bc h1 h2 => ?_)) (by omega) (fun h4 z4 g4 p4 => hq h4 z4 (d3.tr g4) p4)
      rw [sumF_sn n 0, Nat.zero_add]
      congr 1
      unfold dT
      exact ifc2 (by omega)
set_option maxHeartbeats 8000000 in
theorem m_11 {h : xH} (hp : PL X 200) (hc : CT X ns nb ln) {C T : Nat} (z : NZ X h) (g : Gd (cv h 200)) (bn : BNv X h (cv h 200) C T nb) (C4 : C ≤ 4) (T4 : T ≤ 4) (hq : ∀ h2, NZ X h2 → D25 h h2 → PTo (h2.1 25) T C (dmd (cv h 200)) → Q none h2) : Cl X 11 [vr 22, vr 200, vr 14] h Q := by
  have nN := g.rg.nN
  have nb16 : nb ≤ 300 := by
    rw [bn.1.2.2]
    have := Nat.mul_le_mul T4 C4
    omega
  rw [c_11]
  simp (disch := first | assumption | omega) only [e_11_0, e_11_1, onI_s, onR_s, onL_s, gl_0, gl_n, gl_1, gl_2, gl_3, gl_4, gl_5, gl_6, gl_7, gl_8, gl_9, gl_10, gl_11, gl_12, gl_13, gl_14, gl_15, gl_16, gl_17, sk0i, sk0r, sk0n, sk1i, sk1r, sk1n, sk_2, sk_3, sk_4, sk_5, sk_6, sk_7, sk_8, sk_9, sk_10, sk_11, sk_12, sk_13, sk_14, sk_15, sk_16, sk_17, ls_0, ls_1, ls_2, ls_3, ls_4, ls_5, ls_6, ls_7, ls_8, ls_9, ls_10, ls_11, ls_12, ls_13, ls_14, ls_15, ls_16, ls_17, ct1_i, ct1_r, wd8_0, wd8_i1, wd8_r1, wd8_i2, wd8_r2, wd8_i3, wd8_r3, wd8_i4, wd8_r4, wd8_i5, wd8_r5, wd8_i6, wd8_r6, wd8_i7, wd8_r7, wd8_i8, wd8_r8, wd8_l2, wd8_l3, wd8_l4, wd8_l5, wd8_l6, wd8_l7, wd8_l8, tl_s, tl_n, inR_t, bd_t, true_and, and_true, true_or, or_true, if_true_x, if_false_x, if_pos, if_neg, Int.toNat_natCast, natL, bI_0, bI_1, bI_ft, eq_self, b_tf, b_ft, not_true_eq_false, not_false_eq_true, hc.t22, hc.r22_2, hc.r22_3, hc.r22_4, hc.r22_5]
  (rw [e_11_2]; refine ⟨by decide, ?_⟩)
  rw [m_5 z hc.t25 hc.z25 nb16]
  simp (disch := first | assumption | omega) only [e_11_3, e_11_4, onI_s, onR_s, onL_s, gl_0, gl_n, gl_1, gl_2, gl_3, gl_4, gl_5, gl_6, gl_7, gl_8, gl_9, gl_10, gl_11, gl_12, gl_13, gl_14, gl_15, gl_16, gl_17, sk0i, sk0r, sk0n, sk1i, sk1r, sk1n, sk_2, sk_3, sk_4, sk_5, sk_6, sk_7, sk_8, sk_9, sk_10, sk_11, sk_12, sk_13, sk_14, sk_15, sk_16, sk_17, ls_0, ls_1, ls_2, ls_3, ls_4, ls_5, ls_6, ls_7, ls_8, ls_9, ls_10, ls_11, ls_12, ls_13, ls_14, ls_15, ls_16, ls_17, ct1_i, ct1_r, wd8_0, wd8_i1, wd8_r1, wd8_i2, wd8_r2, wd8_i3, wd8_r3, wd8_i4, wd8_r4, wd8_i5, wd8_r5, wd8_i6, wd8_r6, wd8_i7, wd8_r7, wd8_i8, wd8_r8, wd8_l2, wd8_l3, wd8_l4, wd8_l5, wd8_l6, wd8_l7, wd8_l8, tl_s, tl_n, inR_t, bd_t, true_and, and_true, true_or, or_true, if_true_x, if_false_x, if_pos, if_neg, Int.toNat_natCast, natL, bI_0, bI_1, bI_ft, eq_self, b_tf, b_ft, not_true_eq_false, not_false_eq_true]
  have g2 : G1 25 h (up1 h.1 25 (fun _ => 0), h.2) := ⟨fun a q => up1_o q, rfl⟩
  refine l_11 hp hc (v := cv h 200) (N := (cv h 200 19 0).toNat) g C4 T4 (by omega) (cv h 200 19 0).toNat 0 _ _ _ (NZ.cg (I := h.1) (F := h.2) z (fun _ _ => rfl)) (g2.cv (by omega) (by omega)) bn (fun br bc _ _ => ?_) (by omega) (fun h3 z3 g3 p3 => hq h3 z3 (g2.d25.tr g3) p3)
  dsimp only
  rw [up1_self]
  rfl
end DMD
