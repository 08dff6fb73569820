/-! BINS: need -/
def com (a na b nb : Int) : Int := max 0 (min (a + na) (b + nb) - max a b)
def ndC (v : Nat → Nat → Int) (c br bc : Nat) : Int := com (v 15 c) (16 * v 12 c) (128 * (bc : Int)) 128 * com (v 16 c) 16 (32 * (br : Int)) 32
def ndS (v : Nat → Nat → Int) (br bc : Nat) (m i : Nat) : Int := sumF (fun c => if v 14 c = 0 then ndC v c br bc else 0) m i
def ned (v : Nat → Nat → Int) (br bc : Nat) : Int := ndS v br bc (v 11 0).toNat 0
def G1 (k : Nat) (h h2 : xH) : Prop := (∀ a, a ≠ k → h2.1 a = h.1 a) ∧ h2.2 = h.2
theorem ndC_bd {v : Nat → Nat → Int} (w : RGv v) (c br bc : Nat) : 0 ≤ ndC v c br bc ∧ ndC v c br bc ≤ 1536 := by
  have a := w.wid c
  have h := mul_bd (a := com (v 15 c) (16 * v 12 c) (128 * (bc : Int)) 128) (b := com (v 16 c) 16 (32 * (br : Int)) 32) (A := 96) (B := 16) (by unfold com; omega) (by unfold com; omega) (by unfold com; omega) (by unfold com; omega)
  unfold ndC
  omega
section NED
variable {X : xL} {Q : Option xV → xH → Prop} {ns nb ln k : Nat}
theorem G1.refl {h : xH} : G1 k h h := ⟨fun _ _ => rfl, rfl⟩
theorem G1.tr {h h2 h3 : xH} (a : G1 k h h2) (b : G1 k h2 h3) : G1 k h h3 := ⟨fun j q => (b.1 j q).trans (a.1 j q), b.2.trans a.2⟩
theorem G1.cv {h h2 : xH} {b : Nat} (a : G1 k h h2) (hk : k < 200) (hb : 200 ≤ b) : cv h2 b = cv h b := cv_congr (fun j q1 q2 => ⟨a.1 j (by omega), by rw [a.2]⟩)
theorem G1.fz {h h2 : xH} (a : G1 k h h2) (hk : 7 ≤ k ∧ k < 70) (z : NZ X h2) : Fz X h h2 := by
  refine ⟨z, fun j q => ⟨a.1 j (by omega), by rw [a.2]⟩, ?_, fun p hp => ?_⟩
  · rw [a.2]; exact ⟨rfl, rfl, rfl, rfl⟩
  · rw [a.2]; exact ⟨fun _ => rfl, fun _ _ _ _ => rfl⟩
set_option maxHeartbeats 4000000 in
theorem l_5 {a L : Nat} {I F : Nat → Nat → Int} (ht : X.1 a = 13) (hl : X.2.1 a = L) (L300 : L ≤ 300) : ∀ (m i : Nat), i + m = L → (Ev X 5 2 [some (vr a), some (vi i)] [] (up1 I a (fil (fun _ => 0) (I a) i), F) Q ↔ Q none (up1 I a (fil (fun _ => 0) (I a) L), F)) := by
  intro m
  induction m with
  | zero =>
    intro i hm
    rw [e_5_2]
    simp (disch := first | assumption | omega) only [e_5_3, e_5_4, e_5_5, e_5_12, onI_s, onR_s, onL_s, gl_0, gl_n, gl_1, gl_2, gl_3, gl_4, gl_5, gl_6, gl_7, gl_8, gl_9, gl_10, gl_11, gl_12, gl_13, gl_14, gl_15, gl_16, gl_17, sk0i, sk0r, sk0n, sk1i, sk1r, sk1n, sk_2, sk_3, sk_4, sk_5, sk_6, sk_7, sk_8, sk_9, sk_10, sk_11, sk_12, sk_13, sk_14, sk_15, sk_16, sk_17, ls_0, ls_1, ls_2, ls_3, ls_4, ls_5, ls_6, ls_7, ls_8, ls_9, ls_10, ls_11, ls_12, ls_13, ls_14, ls_15, ls_16, ls_17, ct1_i, ct1_r, wd8_0, wd8_i1, wd8_r1, wd8_i2, wd8_r2, wd8_i3, wd8_r3, wd8_i4, wd8_r4, wd8_i5, wd8_r5, wd8_i6, wd8_r6, wd8_i7, wd8_r7, wd8_i8, wd8_r8, wd8_l2, wd8_l3, wd8_l4, wd8_l5, wd8_l6, wd8_l7, wd8_l8, tl_s, tl_n, inR_t, bd_t, true_and, and_true, true_or, or_true, if_true_x, if_false_x, if_pos, if_neg, Int.toNat_natCast, natL, bI_0, bI_1, bI_ft, eq_self, b_tf, b_ft, not_true_eq_false, not_false_eq_true, ht, hl]
    rw [show i = L by omega]
  | succ m ih =>
    intro i hm
    rw [e_5_2]
    simp (disch := first | assumption | omega) only [e_5_3, e_5_4, e_5_5, e_5_6, e_5_7, e_5_8, e_5_9, e_5_10, e_5_11, onI_s, onR_s, onL_s, gl_0, gl_n, gl_1, gl_2, gl_3, gl_4, gl_5, gl_6, gl_7, gl_8, gl_9, gl_10, gl_11, gl_12, gl_13, gl_14, gl_15, gl_16, gl_17, sk0i, sk0r, sk0n, sk1i, sk1r, sk1n, sk_2, sk_3, sk_4, sk_5, sk_6, sk_7, sk_8, sk_9, sk_10, sk_11, sk_12, sk_13, sk_14, sk_15, sk_16, sk_17, ls_0, ls_1, ls_2, ls_3, ls_4, ls_5, ls_6, ls_7, ls_8, ls_9, ls_10, ls_11, ls_12, ls_13, ls_14, ls_15, ls_16, ls_17, ct1_i, ct1_r, wd8_0, wd8_i1, wd8_r1, wd8_i2, wd8_r2, wd8_i3, wd8_r3, wd8_i4, wd8_r4, wd8_i5, wd8_r5, wd8_i6, wd8_r6, wd8_i7, wd8_r7, wd8_i8, wd8_r8, wd8_l2, wd8_l3, wd8_l4, wd8_l5, wd8_l6, wd8_l7, wd8_l8, tl_s, tl_n, inR_t, bd_t, true_and, and_true, true_or, or_true, if_true_x, if_false_x, if_pos, if_neg, Int.toNat_natCast, natL, bI_0, bI_1, bI_ft, eq_self, b_tf, b_ft, not_true_eq_false, not_false_eq_true, ht, hl, cast_s]
    rw [u21 (g := fil (fun _ => 0) (I a) (i + 1)) fil_s, ih (i + 1) (by omega)]
theorem m_5 {h : xH} {a L : Nat} (z : NZ X h) (ht : X.1 a = 13) (hl : X.2.1 a = L) (L300 : L ≤ 300) : Cl X 5 [vr a] h Q ↔ Q none (up1 h.1 a (fun _ => 0), h.2) := by
  rw [c_5]
  simp (disch := first | assumption | omega) only [e_5_0, e_5_1, onI_s, onR_s, onL_s, gl_0, gl_n, gl_1, gl_2, gl_3, gl_4, gl_5, gl_6, gl_7, gl_8, gl_9, gl_10, gl_11, gl_12, gl_13, gl_14, gl_15, gl_16, gl_17, sk0i, sk0r, sk0n, sk1i, sk1r, sk1n, sk_2, sk_3, sk_4, sk_5, sk_6, sk_7, sk_8, sk_9, sk_10, sk_11, sk_12, sk_13, sk_14, sk_15, sk_16, sk_17, ls_0, ls_1, ls_2, ls_3, ls_4, ls_5, ls_6, ls_7, ls_8, ls_9, ls_10, ls_11, ls_12, ls_13, ls_14, ls_15, ls_16, ls_17, ct1_i, ct1_r, wd8_0, wd8_i1, wd8_r1, wd8_i2, wd8_r2, wd8_i3, wd8_r3, wd8_i4, wd8_r4, wd8_i5, wd8_r5, wd8_i6, wd8_r6, wd8_i7, wd8_r7, wd8_i8, wd8_r8, wd8_l2, wd8_l3, wd8_l4, wd8_l5, wd8_l6, wd8_l7, wd8_l8, tl_s, tl_n, inR_t, bd_t, true_and, and_true, true_or, or_true, if_true_x, if_false_x, if_pos, if_neg, Int.toNat_natCast, natL, bI_0, bI_1, bI_ft, eq_self, b_tf, b_ft, not_true_eq_false, not_false_eq_true]
  have la := l_5 (I := h.1) (F := h.2) (Q := Q) ht hl L300 L 0 (by omega)
  rw [fil_0, up1_id (fun _ => rfl)] at la
  refine la.trans ?_
  rw [show fil (fun _ => 0) (h.1 a) L = fun _ => 0 from funext fun j => by
    unfold fil
    by_cases e : j < L
    · rw [if_pos e]
    · rw [if_neg e]; exact z a j (Or.inl ht) (by omega)]
set_option maxHeartbeats 8000000 in
theorem l_8i (hc : CT X ns nb ln) {C T t c1 : Nat} {x y ex ey sg hg : Int} (hnb : nb = T * C) (C4 : C ≤ 4) (T4 : T ≤ 4) (ht : t < T) (hc1 : c1 < C) (x0 : 0 ≤ x) (x1 : x < ex) (x2 : ex ≤ 600) (hce : (ex - 1) / 128 = c1) (s1 : sg = 1 ∨ sg = -1) (g0 : 0 ≤ hg) (g1 : hg ≤ 16) (o : Nat) (cl : Nat) : ∀ (m c : Nat) (h : xH) (A : Nat → Nat → Int) (x11 : Option xV), NZ X h → h.2 22 1 = C → PTo (h.1 24) T C A → (∀ bc, c ≤ bc → -1000000 ≤ A t bc ∧ A t bc ≤ 1000000) → c + m = c1 + 1 → x / 128 ≤ c → (∀ h2 x10 x11, NZ X h2 → G1 24 h h2 → PTo (h2.1 24) T C (fun br bc => A br bc + (if br = t ∧ c ≤ bc then sg * com x (ex - x) (128 * (bc : Int)) 128 * hg else 0)) → Ev X 8 92 [some (vr 22), some (vr o), some (vi cl), some (vi sg), some (vi x), some (vi y), some (vi ex), some (vi ey), some (vi t), some (vi hg), x10, x11] [] h2 Q) → Ev X 8 52 [some (vr 22), some (vr o), some (vi cl), some (vi sg), some (vi x), some (vi y), some (vi ex), some (vi ey), some (vi t), some (vi hg), some (vi c), x11] [] h Q := by
  have td : (ex - 1).tdiv 128 = (c1 : Int) := by rw [td_n (by omega)]; exact hce
  intro m
  induction m with
  | zero =>
    intro c h A x11 z hC pt ab hm hx hq
    rw [e_8_52]
    simp (disch := first | assumption | omega) only [e_8_53, e_8_54, e_8_55, e_8_56, e_8_57, e_8_58, onI_s, onR_s, onL_s, gl_0, gl_n, gl_1, gl_2, gl_3, gl_4, gl_5, gl_6, gl_7, gl_8, gl_9, gl_10, gl_11, gl_12, gl_13, gl_14, gl_15, gl_16, gl_17, sk0i, sk0r, sk0n, sk1i, sk1r, sk1n, sk_2, sk_3, sk_4, sk_5, sk_6, sk_7, sk_8, sk_9, sk_10, sk_11, sk_12, sk_13, sk_14, sk_15, sk_16, sk_17, ls_0, ls_1, ls_2, ls_3, ls_4, ls_5, ls_6, ls_7, ls_8, ls_9, ls_10, ls_11, ls_12, ls_13, ls_14, ls_15, ls_16, ls_17, ct1_i, ct1_r, wd8_0, wd8_i1, wd8_r1, wd8_i2, wd8_r2, wd8_i3, wd8_r3, wd8_i4, wd8_r4, wd8_i5, wd8_r5, wd8_i6, wd8_r6, wd8_i7, wd8_r7, wd8_i8, wd8_r8, wd8_l2, wd8_l3, wd8_l4, wd8_l5, wd8_l6, wd8_l7, wd8_l8, tl_s, tl_n, inR_t, bd_t, true_and, and_true, true_or, or_true, if_true_x, if_false_x, if_pos, if_neg, Int.toNat_natCast, natL, bI_0, bI_1, bI_ft, eq_self, b_tf, b_ft, not_true_eq_false, not_false_eq_true, dv_t, dvR, nz_128, td]
    refine hq h _ _ z G1.refl (pt.cg (fun br bc h1 h2 => ?_))
    by_cases e : br = t ∧ c ≤ bc
    · rw [if_pos e, show com x (ex - x) (128 * (bc : Int)) 128 = 0 by unfold com; omega]
      simp
    · rw [if_neg e, Int.add_zero]
  | succ m ih =>
    intro c h A x11 z hC pt ab hm hx hq
    have hi := ix_in ht (show c < C by omega)
    have mb := mul_bd (a := (t : Int)) (b := (C : Int)) (A := 4) (B := 4) (by omega) (by omega) (by omega) (by omega)
    have t1 : ((t : Int) * (C : Int) + (c : Int)).toNat = t * C + c := by
      rw [← Int.natCast_mul, ← Int.natCast_add, Int.toNat_natCast]
    have hb : (t : Int) * (C : Int) + (c : Int) < (nb : Int) := by
      rw [← Int.natCast_mul, ← Int.natCast_add, hnb]
      omega
    have ec : min ex (((c + 1 : Nat) : Int) * 128) - max x ((c : Int) * 128) = com x (ex - x) (128 * (c : Int)) 128 := by unfold com; omega
    have cb : 0 ≤ com x (ex - x) (128 * (c : Int)) 128 ∧ com x (ex - x) (128 * (c : Int)) 128 ≤ 600 := by unfold com; omega
    have pb := mul_bd (a := com x (ex - x) (128 * (c : Int)) 128) (b := hg) (A := 600) (B := 16) cb.1 cb.2 g0 g1
    have sb : -9600 ≤ sg * com x (ex - x) (128 * (c : Int)) 128 * hg ∧ sg * com x (ex - x) (128 * (c : Int)) 128 * hg ≤ 9600 := by
      rcases s1 with rfl | rfl
      · rw [Int.one_mul]; omega
      · rw [Int.neg_mul, Int.neg_mul, Int.one_mul]; omega
    have sc : -600 ≤ sg * com x (ex - x) (128 * (c : Int)) 128 ∧ sg * com x (ex - x) (128 * (c : Int)) 128 ≤ 600 := by
      rcases s1 with rfl | rfl
      · rw [Int.one_mul]; omega
      · rw [Int.neg_mul, Int.one_mul]; omega
    have rv := pt t c ht (by omega)
    have av := ab c (Nat.le_refl c)
    rw [e_8_52]
    simp (disch := first | assumption | omega) only [e_8_53, e_8_54, e_8_55, e_8_56, e_8_57, e_8_58, e_8_59, e_8_60, e_8_61, e_8_62, e_8_63, e_8_64, e_8_65, e_8_66, e_8_67, e_8_68, e_8_69, e_8_70, e_8_71, e_8_72, e_8_73, e_8_74, e_8_75, e_8_76, e_8_77, e_8_78, e_8_79, e_8_80, e_8_81, e_8_82, e_8_83, e_8_84, e_8_85, e_8_86, e_8_87, e_8_88, e_8_89, e_8_90, e_8_91, onI_s, onR_s, onL_s, gl_0, gl_n, gl_1, gl_2, gl_3, gl_4, gl_5, gl_6, gl_7, gl_8, gl_9, gl_10, gl_11, gl_12, gl_13, gl_14, gl_15, gl_16, gl_17, sk0i, sk0r, sk0n, sk1i, sk1r, sk1n, sk_2, sk_3, sk_4, sk_5, sk_6, sk_7, sk_8, sk_9, sk_10, sk_11, sk_12, sk_13, sk_14, sk_15, sk_16, sk_17, ls_0, ls_1, ls_2, ls_3, ls_4, ls_5, ls_6, ls_7, ls_8, ls_9, ls_10, ls_11, ls_12, ls_13, ls_14, ls_15, ls_16, ls_17, ct1_i, ct1_r, wd8_0, wd8_i1, wd8_r1, wd8_i2, wd8_r2, wd8_i3, wd8_r3, wd8_i4, wd8_r4, wd8_i5, wd8_r5, wd8_i6, wd8_r6, wd8_i7, wd8_r7, wd8_i8, wd8_r8, wd8_l2, wd8_l3, wd8_l4, wd8_l5, wd8_l6, wd8_l7, wd8_l8, tl_s, tl_n, inR_t, bd_t, true_and, and_true, true_or, or_true, if_true_x, if_false_x, if_pos, if_neg, Int.toNat_natCast, natL, bI_0, bI_1, bI_ft, eq_self, b_tf, b_ft, not_true_eq_false, not_false_eq_true, dv_t, dvR, nz_128, td, m_284, m_285, ec, hC, t1, rv, cast_s, hc.t22, hc.r22_2, hc.r22_3, hc.r22_4, hc.r22_5, hc.t24, hc.z24]
    refine ih (c + 1) _ (fun br bc => if br = t ∧ bc = c then A t c + sg * com x (ex - x) (128 * (c : Int)) 128 * hg else A br bc) _ (NZ.up (I := h.1) (F := h.2) z (by rw [hc.z24, hnb]; exact hi)) hC ?_ (fun bc hbc => ?_) (by omega) (by omega) (fun h2 x10 x11 z2 g2 p2 => ?_)
    · intro br bc hbr hbc
      dsimp only
      rw [up2_same]
      by_cases e : br * C + bc = t * C + c
      · have := ix_eq hbc (by omega) e
        rw [if_pos e, if_pos this]
      · rw [if_neg e, if_neg (fun q => e (by rw [q.1, q.2]))]
        exact pt br bc hbr hbc
    · rw [if_neg (by omega)]
      exact ab bc (by omega)
    · refine hq h2 x10 x11 z2 (G1.tr (h2 := (up2 h.1 24 (t * C + c) (A t c + sg * com x (ex - x) (128 * (c : Int)) 128 * hg), h.2)) ⟨fun a q => up2_of q, rfl⟩ g2) (p2.cg (fun br bc h1 h2 => ?_))
      by_cases e : br = t ∧ bc = c
      · rw [if_pos e, if_neg (by omega), if_pos (by omega), e.1, e.2, Int.add_zero]
      · rw [if_neg e]
        by_cases e2 : br = t ∧ c + 1 ≤ bc
        · rw [if_pos e2, if_pos (by omega)]
        · rw [if_neg e2, if_neg (by omega)]
set_option maxHeartbeats 8000000 in
theorem l_8 (hc : CT X ns nb ln) {C T c0 c1 t1 : Nat} {x y ex sg : Int} (hnb : nb = T * C) (C4 : C ≤ 4) (T4 : T ≤ 4) (ht1 : t1 < T) (hc1 : c1 < C) (x0 : 0 ≤ x) (x1 : x < ex) (x2 : ex ≤ 600) (y0 : 0 ≤ y) (y1 : y ≤ 200) (hce : (ex - 1) / 128 = c1) (hcx : x / 128 = c0) (hte : (y + 15) / 32 = t1) (s1 : sg = 1 ∨ sg = -1) (o : Nat) (cl : Nat) : ∀ (m t : Nat) (h : xH) (A : Nat → Nat → Int) (x9 x10 x11 : Option xV), NZ X h → h.2 22 1 = C → PTo (h.1 24) T C A → (∀ br bc, t ≤ br → -1000000 ≤ A br bc ∧ A br bc ≤ 1000000) → t + m = t1 + 1 → y / 32 ≤ t → (∀ h2, NZ X h2 → G1 24 h h2 → PTo (h2.1 24) T C (fun br bc => A br bc + (if t ≤ br then sg * com x (ex - x) (128 * (bc : Int)) 128 * com y 16 (32 * (br : Int)) 32 else 0)) → Q none h2) → Ev X 8 27 [some (vr 22), some (vr o), some (vi cl), some (vi sg), some (vi x), some (vi y), some (vi ex), some (vi (y + 16)), some (vi t), x9, x10, x11] [] h Q := by
  have td : (y + 16 - 1).tdiv 32 = (t1 : Int) := by rw [td_n (by omega), show y + 16 - 1 = y + 15 by omega]; exact hte
  have tx : x.tdiv 128 = (c0 : Int) := by rw [td_n (by omega)]; exact hcx
  intro m
  induction m with
  | zero =>
    intro t h A x9 x10 x11 z hC pt ab hm hx hq
    rw [e_8_27]
    simp (disch := first | assumption | omega) only [e_8_28, e_8_29, e_8_30, e_8_31, e_8_32, e_8_33, e_8_94, onI_s, onR_s, onL_s, gl_0, gl_n, gl_1, gl_2, gl_3, gl_4, gl_5, gl_6, gl_7, gl_8, gl_9, gl_10, gl_11, gl_12, gl_13, gl_14, gl_15, gl_16, gl_17, sk0i, sk0r, sk0n, sk1i, sk1r, sk1n, sk_2, sk_3, sk_4, sk_5, sk_6, sk_7, sk_8, sk_9, sk_10, sk_11, sk_12, sk_13, sk_14, sk_15, sk_16, sk_17, ls_0, ls_1, ls_2, ls_3, ls_4, ls_5, ls_6, ls_7, ls_8, ls_9, ls_10, ls_11, ls_12, ls_13, ls_14, ls_15, ls_16, ls_17, ct1_i, ct1_r, wd8_0, wd8_i1, wd8_r1, wd8_i2, wd8_r2, wd8_i3, wd8_r3, wd8_i4, wd8_r4, wd8_i5, wd8_r5, wd8_i6, wd8_r6, wd8_i7, wd8_r7, wd8_i8, wd8_r8, wd8_l2, wd8_l3, wd8_l4, wd8_l5, wd8_l6, wd8_l7, wd8_l8, tl_s, tl_n, inR_t, bd_t, true_and, and_true, true_or, or_true, if_true_x, if_false_x, if_pos, if_neg, Int.toNat_natCast, natL, bI_0, bI_1, bI_ft, eq_self, b_tf, b_ft, not_true_eq_false, not_false_eq_true, dv_t, dvR, nz_32, td]
    refine hq h z G1.refl (pt.cg (fun br bc h1 h2 => ?_))
    by_cases e : t ≤ br
    · rw [if_pos e, show com y 16 (32 * (br : Int)) 32 = 0 by unfold com; omega, Int.mul_zero, Int.add_zero]
    · rw [if_neg e, Int.add_zero]
  | succ m ih =>
    intro t h A x9 x10 x11 z hC pt ab hm hx hq
    have ec : min (y + 16) (((t + 1 : Nat) : Int) * 32) - max y ((t : Int) * 32) = com y 16 (32 * (t : Int)) 32 := by unfold com; omega
    have cb : 0 ≤ com y 16 (32 * (t : Int)) 32 ∧ com y 16 (32 * (t : Int)) 32 ≤ 16 := by unfold com; omega
    rw [e_8_27]
    simp (disch := first | assumption | omega) only [e_8_28, e_8_29, e_8_30, e_8_31, e_8_32, e_8_33, e_8_34, e_8_35, e_8_36, e_8_37, e_8_38, e_8_39, e_8_40, e_8_41, e_8_42, e_8_43, e_8_44, e_8_45, e_8_46, e_8_47, e_8_48, e_8_49, e_8_50, e_8_51, onI_s, onR_s, onL_s, gl_0, gl_n, gl_1, gl_2, gl_3, gl_4, gl_5, gl_6, gl_7, gl_8, gl_9, gl_10, gl_11, gl_12, gl_13, gl_14, gl_15, gl_16, gl_17, sk0i, sk0r, sk0n, sk1i, sk1r, sk1n, sk_2, sk_3, sk_4, sk_5, sk_6, sk_7, sk_8, sk_9, sk_10, sk_11, sk_12, sk_13, sk_14, sk_15, sk_16, sk_17, ls_0, ls_1, ls_2, ls_3, ls_4, ls_5, ls_6, ls_7, ls_8, ls_9, ls_10, ls_11, ls_12, ls_13, ls_14, ls_15, ls_16, ls_17, ct1_i, ct1_r, wd8_0, wd8_i1, wd8_r1, wd8_i2, wd8_r2, wd8_i3, wd8_r3, wd8_i4, wd8_r4, wd8_i5, wd8_r5, wd8_i6, wd8_r6, wd8_i7, wd8_r7, wd8_i8, wd8_r8, wd8_l2, wd8_l3, wd8_l4, wd8_l5, wd8_l6, wd8_l7, wd8_l8, tl_s, tl_n, inR_t, bd_t, true_and, and_true, true_or, or_true, if_true_x, if_false_x, if_pos, if_neg, Int.toNat_natCast, natL, bI_0, bI_1, bI_ft, eq_self, b_tf, b_ft, not_true_eq_false, not_false_eq_true, dv_t, dvR, nz_32, nz_128, td, tx, m_284, m_285, ec, cast_s, hc.t22, hc.r22_2, hc.r22_3, hc.r22_4, hc.r22_5, hc.t24, hc.z24]
    refine l_8i hc (t := t) (c1 := c1) hnb C4 T4 (by omega) hc1 x0 x1 x2 hce s1 cb.1 cb.2 o cl (c1 + 1 - c0) c0 h A x11 z hC pt (fun bc _ => ab t bc (Nat.le_refl t)) (by omega) (by omega) (fun h2 x10 x11 z2 g2 p2 => ?_)
    rw [e_8_92]
    simp (disch := first | assumption | omega) only [e_8_93, onI_s, onR_s, onL_s, gl_0, gl_n, gl_1, gl_2, gl_3, gl_4, gl_5, gl_6, gl_7, gl_8, gl_9, gl_10, gl_11, gl_12, gl_13, gl_14, gl_15, gl_16, gl_17, sk0i, sk0r, sk0n, sk1i, sk1r, sk1n, sk_2, sk_3, sk_4, sk_5, sk_6, sk_7, sk_8, sk_9, sk_10, sk_11, sk_12, sk_13, sk_14, sk_15, sk_16, sk_17, ls_0, ls_1, ls_2, ls_3, ls_4, ls_5, ls_6, ls_7, ls_8, ls_9, ls_10, ls_11, ls_12, ls_13, ls_14, ls_15, ls_16, ls_17, ct1_i, ct1_r, wd8_0, wd8_i1, wd8_r1, wd8_i2, wd8_r2, wd8_i3, wd8_r3, wd8_i4, wd8_r4, wd8_i5, wd8_r5, wd8_i6, wd8_r6, wd8_i7, wd8_r7, wd8_i8, wd8_r8, wd8_l2, wd8_l3, wd8_l4, wd8_l5, wd8_l6, wd8_l7, wd8_l8, tl_s, tl_n, inR_t, bd_t, true_and, and_true, true_or, or_true, if_true_x, if_false_x, if_pos, if_neg, Int.toNat_natCast, natL, bI_0, bI_1, bI_ft, eq_self, b_tf, b_ft, not_true_eq_false, not_false_eq_true, cast_s]
    refine ih (t + 1) h2 _ _ _ _ z2 (by rw [g2.2]; exact hC) p2 (fun br bc hbr => ?_) (by omega) (by omega) (fun h3 z3 g3 p3 => hq h3 z3 (g2.tr g3) (p3.cg (fun br bc h1 h2 => ?_)))
    · rw [if_neg (by omega), Int.add_zero]
      exact ab br bc (by omega)
    · by_cases e : br = t
      · subst e
        rw [if_neg (show ¬ br + 1 ≤ br by omega), if_pos (Nat.le_refl br), Int.add_zero]
        by_cases e2 : c0 ≤ bc
        · rw [if_pos ⟨rfl, e2⟩]
        · rw [if_neg (fun q => e2 q.2), show com x (ex - x) (128 * (bc : Int)) 128 = 0 by unfold com; omega]
          simp
      · rw [if_neg (fun q => e q.1), Int.add_zero]
        by_cases e2 : t + 1 ≤ br
        · rw [if_pos e2, if_pos (by omega)]
        · rw [if_neg e2, if_neg (by omega)]
end NED
