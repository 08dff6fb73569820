/-! LEAST in the reference -/
def fRp : Int := 100000000
def TM (h : xH) (v : Nat → Nat → Int) (a n : Nat) (F : Int) (L : List Nat) (i : Nat) : Prop := ∀ j, i ≤ j → j ≤ L.length → ∀ s, s ≤ n → h.1 87 (33 * j + s) = tb v a n F (L.drop j) s
section LSM
variable {X : xL} {Q : Option xV → xH → Prop} {ns nb ln : Nat} {h : xH}
theorem G1.vm87 {h2 : xH} (a : G1 87 h h2) : vm h2 = vm h := by
  unfold vm
  rw [a.1 73 (by omega), a.2]
set_option maxHeartbeats 2000000 in
theorem m_234 (hc : CT X ns nb ln) (w : RGv (vm h)) {c s : Nat} (c20 : c < 20) (s32 : s ≤ 32) : Cl X 234 [vr 70, vi c, vi s] h Q ↔ Q (some (vi (cAt (vm h) c s))) h := by
  have a1 := w.wid c
  have a2 := w.wx c
  have cb := cAt_bd w (c := c) s32
  have cd : vm h 12 c * ((16 * (s : Int) - vm h 15 c).natAbs : Int) = cAt (vm h) c s := rfl
  rw [c_234]
  simp (disch := first | assumption | omega) only [e_234_0, e_234_1, e_234_2, e_234_3, e_234_4, e_234_5, e_234_6, e_234_7, e_234_8, e_234_9, e_234_10, e_234_11, e_234_12, e_234_13, e_234_14, e_234_15, onI_s, onR_s, onL_s, gl_0, gl_n, gl_1, gl_2, gl_3, gl_4, gl_5, gl_6, gl_7, gl_8, gl_9, gl_10, gl_11, gl_12, gl_13, gl_14, gl_15, gl_16, gl_17, sk0i, sk0r, sk0n, sk1i, sk1r, sk1n, sk_2, sk_3, sk_4, sk_5, sk_6, sk_7, sk_8, sk_9, sk_10, sk_11, sk_12, sk_13, sk_14, sk_15, sk_16, sk_17, ls_0, ls_1, ls_2, ls_3, ls_4, ls_5, ls_6, ls_7, ls_8, ls_9, ls_10, ls_11, ls_12, ls_13, ls_14, ls_15, ls_16, ls_17, ct1_i, ct1_r, wd8_0, wd8_i1, wd8_r1, wd8_i2, wd8_r2, wd8_i3, wd8_r3, wd8_i4, wd8_r4, wd8_i5, wd8_r5, wd8_i6, wd8_r6, wd8_i7, wd8_r7, wd8_i8, wd8_r8, wd8_l2, wd8_l3, wd8_l4, wd8_l5, wd8_l6, wd8_l7, wd8_l8, tl_s, tl_n, inR_t, bd_t, true_and, and_true, true_or, or_true, if_true_x, if_false_x, if_pos, if_neg, Int.toNat_natCast, natL, bI_0, bI_1, bI_ft, eq_self, b_tf, b_ft, not_true_eq_false, not_false_eq_true, m_160 hc, m_158, m_150, vm_15, Int.toNat_natCast, cd, hc.t70, hc.r70_4, hc.r70_5, hc.r70_6, hc.r70_7, hc.r70_8, hc.r70_10, hc.r70_11, hc.r70_12, hc.r70_14, hc.r70_15, hc.r70_16, hc.r70_17, hc.r70_19, hc.r70_21, hc.r70_23, hc.r70_24, hc.r70_26, hc.r70_27, hc.r70_28, hc.r70_29, hc.r70_30, hc.r70_31, hc.r70_32, hc.r70_33, hc.r70_36, hc.t73, hc.z73]
set_option maxHeartbeats 8000000 in
theorem z_235 (hc : CT X ns nb ln) {h0 : xH} {M n : Nat} {x1 x4 x5 x6 x7 : Option xV} (M21 : M < 21) (hM : h0.2 70 25 = M) (n32 : n ≤ 32) : ∀ (m s : Nat) (h : xH), s + m = n + 1 → NZ X h → G1 87 h0 h → (∀ k, k < s → h.1 87 (33 * M + k) = 0) → (∀ h2 x3, NZ X h2 → G1 87 h0 h2 → (∀ k, k ≤ n → h2.1 87 (33 * M + k) = 0) → Ev X 235 22 [some (vr 70), x1, some (vi n), x3, x4, x5, x6, x7] [] h2 Q) → Ev X 235 7 [some (vr 70), x1, some (vi n), some (vi s), x4, x5, x6, x7] [] h Q := by
  intro m
  induction m with
  | zero =>
    intro s h hm z g p hq
    rw [e_235_7]
    simp (disch := first | assumption | omega) only [e_235_8, e_235_9, onI_s, onR_s, onL_s, gl_0, gl_n, gl_1, gl_2, gl_3, gl_4, gl_5, gl_6, gl_7, gl_8, gl_9, gl_10, gl_11, gl_12, gl_13, gl_14, gl_15, gl_16, gl_17, sk0i, sk0r, sk0n, sk1i, sk1r, sk1n, sk_2, sk_3, sk_4, sk_5, sk_6, sk_7, sk_8, sk_9, sk_10, sk_11, sk_12, sk_13, sk_14, sk_15, sk_16, sk_17, ls_0, ls_1, ls_2, ls_3, ls_4, ls_5, ls_6, ls_7, ls_8, ls_9, ls_10, ls_11, ls_12, ls_13, ls_14, ls_15, ls_16, ls_17, ct1_i, ct1_r, wd8_0, wd8_i1, wd8_r1, wd8_i2, wd8_r2, wd8_i3, wd8_r3, wd8_i4, wd8_r4, wd8_i5, wd8_r5, wd8_i6, wd8_r6, wd8_i7, wd8_r7, wd8_i8, wd8_r8, wd8_l2, wd8_l3, wd8_l4, wd8_l5, wd8_l6, wd8_l7, wd8_l8, tl_s, tl_n, inR_t, bd_t, true_and, and_true, true_or, or_true, if_true_x, if_false_x, if_pos, if_neg, Int.toNat_natCast, natL, bI_0, bI_1, bI_ft, eq_self, b_tf, b_ft, not_true_eq_false, not_false_eq_true]
    exact hq h _ z g (fun k hk => p k (by omega))
  | succ m ih =>
    intro s h hm z g p hq
    have eM : h.2 70 25 = M := by rw [g.2]; exact hM
    have t : (33 * (M : Int) + (s : Int)).toNat = 33 * M + s := by omega
    rw [e_235_7]
    simp (disch := first | assumption | omega) only [e_235_8, e_235_9, e_235_10, e_235_11, e_235_12, e_235_13, e_235_14, e_235_15, e_235_16, e_235_17, e_235_18, e_235_19, e_235_20, e_235_21, onI_s, onR_s, onL_s, gl_0, gl_n, gl_1, gl_2, gl_3, gl_4, gl_5, gl_6, gl_7, gl_8, gl_9, gl_10, gl_11, gl_12, gl_13, gl_14, gl_15, gl_16, gl_17, sk0i, sk0r, sk0n, sk1i, sk1r, sk1n, sk_2, sk_3, sk_4, sk_5, sk_6, sk_7, sk_8, sk_9, sk_10, sk_11, sk_12, sk_13, sk_14, sk_15, sk_16, sk_17, ls_0, ls_1, ls_2, ls_3, ls_4, ls_5, ls_6, ls_7, ls_8, ls_9, ls_10, ls_11, ls_12, ls_13, ls_14, ls_15, ls_16, ls_17, ct1_i, ct1_r, wd8_0, wd8_i1, wd8_r1, wd8_i2, wd8_r2, wd8_i3, wd8_r3, wd8_i4, wd8_r4, wd8_i5, wd8_r5, wd8_i6, wd8_r6, wd8_i7, wd8_r7, wd8_i8, wd8_r8, wd8_l2, wd8_l3, wd8_l4, wd8_l5, wd8_l6, wd8_l7, wd8_l8, tl_s, tl_n, inR_t, bd_t, true_and, and_true, true_or, or_true, if_true_x, if_false_x, if_pos, if_neg, Int.toNat_natCast, natL, bI_0, bI_1, bI_ft, eq_self, b_tf, b_ft, not_true_eq_false, not_false_eq_true, eM, t, cast_s, hc.t70, hc.r70_4, hc.r70_5, hc.r70_6, hc.r70_7, hc.r70_8, hc.r70_10, hc.r70_11, hc.r70_12, hc.r70_14, hc.r70_15, hc.r70_16, hc.r70_17, hc.r70_19, hc.r70_21, hc.r70_23, hc.r70_24, hc.r70_26, hc.r70_27, hc.r70_28, hc.r70_29, hc.r70_30, hc.r70_31, hc.r70_32, hc.r70_33, hc.r70_36, hc.t87, hc.z87]
    refine ih (s + 1) (up2 h.1 87 (33 * M + s) 0, h.2) (by omega) (NZ.up (I := h.1) (F := h.2) z (by rw [hc.z87]; omega)) (G1.tr g ⟨fun a q => up2_of q, rfl⟩) (fun k hk => ?_) hq
    dsimp only
    rw [up2_same]
    split
    · rfl
    · exact p k (by omega)
set_option maxHeartbeats 16000000 in
theorem s_235 (hc : CT X ns nb ln) {h0 : xH} {v : Nat → Nat → Int} (ev : vm h0 = v) (w : RGv v) {a n c i k : Nat} {T : Nat → Int} (hk : k < 256) (h81 : h0.1 81 k = a) (c20 : c < 20) (i20 : i < 20) (an : a + n ≤ 32) (T0 : ∀ s, 0 ≤ T s ∧ T s ≤ fRp) : ∀ (m j : Nat) (h : xH) (x6 x7 : Option xV), j + m = n + 1 → NZ X h → G1 87 h0 h → (∀ s, s ≤ n → h.1 87 (33 * (i + 1) + s) = T s) → (∀ s, s ≤ n → n - s < j → h.1 87 (33 * i + s) = dn (tbF v a n fRp c T) fRp n (n - s + 1)) → (∀ h2, NZ X h2 → G1 87 h0 h2 → (∀ q, 33 * (i + 1) ≤ q → h2.1 87 q = h.1 87 q) → (∀ s, s ≤ n → h2.1 87 (33 * i + s) = dn (tbF v a n fRp c T) fRp n (n - s + 1)) → ∀ x5 x6 x7, Ev X 235 111 [some (vr 70), some (vi k), some (vi n), some (vi i), some (vi c), x5, x6, x7] [] h2 Q) → Ev X 235 36 [some (vr 70), some (vi k), some (vi n), some (vi i), some (vi c), some (vi ((n : Int) - j)), x6, x7] [] h Q := by
  have wc := w.wid c
  obtain ⟨wn, hwn⟩ : ∃ wn : Nat, v 12 c = wn := ⟨(v 12 c).toNat, by omega⟩
  have fc : fRp = 100000000 := rfl
  intro m
  induction m with
  | zero =>
    intro j h x6 x7 hm z g pT pr hq
    rw [e_235_36]
    simp (disch := first | assumption | omega) only [e_235_37, onI_s, onR_s, onL_s, gl_0, gl_n, gl_1, gl_2, gl_3, gl_4, gl_5, gl_6, gl_7, gl_8, gl_9, gl_10, gl_11, gl_12, gl_13, gl_14, gl_15, gl_16, gl_17, sk0i, sk0r, sk0n, sk1i, sk1r, sk1n, sk_2, sk_3, sk_4, sk_5, sk_6, sk_7, sk_8, sk_9, sk_10, sk_11, sk_12, sk_13, sk_14, sk_15, sk_16, sk_17, ls_0, ls_1, ls_2, ls_3, ls_4, ls_5, ls_6, ls_7, ls_8, ls_9, ls_10, ls_11, ls_12, ls_13, ls_14, ls_15, ls_16, ls_17, ct1_i, ct1_r, wd8_0, wd8_i1, wd8_r1, wd8_i2, wd8_r2, wd8_i3, wd8_r3, wd8_i4, wd8_r4, wd8_i5, wd8_r5, wd8_i6, wd8_r6, wd8_i7, wd8_r7, wd8_i8, wd8_r8, wd8_l2, wd8_l3, wd8_l4, wd8_l5, wd8_l6, wd8_l7, wd8_l8, tl_s, tl_n, inR_t, bd_t, true_and, and_true, true_or, or_true, if_true_x, if_false_x, if_pos, if_neg, Int.toNat_natCast, natL, bI_0, bI_1, bI_ft, eq_self, b_tf, b_ft, not_true_eq_false, not_false_eq_true]
    exact hq h z g (fun _ _ => rfl) (fun s hs => pr s hs (by omega)) _ _ _
  | succ m ih =>
    intro j h x6 x7 hm z g pT pr hq
    obtain ⟨s, hs⟩ : ∃ s : Nat, (n : Int) - j = s := ⟨n - j, by omega⟩
    have evh : vm h = v := (g.vm87).trans ev
    have wh : RGv (vm h) := by rw [evh]; exact w
    have e81 : h.1 81 k = a := by rw [g.1 81 (by omega)]; exact h81
    have cb := cAt_bd w (c := c) (s := a + s) (by omega)
    have as : (a : Int) + (s : Int) = ((a + s : Nat) : Int) := rfl
    have nx : (s : Int) + -1 = (n : Int) - ((j + 1 : Nat) : Int) := by omega
    have d0 : dn (tbF v a n fRp c T) fRp n (j + 1) = min (dn (tbF v a n fRp c T) fRp n j) (tbF v a n fRp c T s) := by rw [dn, show n - j = s by omega]
    have ti : (33 * (i : Int) + (s : Int)).toNat = 33 * i + s := by omega
    have fin : ∀ (val : Int) (x6 x7 : Option xV), val = dn (tbF v a n fRp c T) fRp n (j + 1) → Ev X 235 36 [some (vr 70), some (vi k), some (vi n), some (vi i), some (vi c), some (vi ((n : Int) - ((j + 1 : Nat) : Int))), x6, x7] [] (up2 h.1 87 (33 * i + s) val, h.2) Q := by
      intro val x6 x7 ec
      rw [ec]
      refine ih (j + 1) (up2 h.1 87 (33 * i + s) _, h.2) x6 x7 (by omega) (NZ.up (I := h.1) (F := h.2) z (by rw [hc.z87]; omega)) (G1.tr g ⟨fun a q => up2_of q, rfl⟩) (fun s2 hs2 => ?_) (fun s2 hs2 hj => ?_) (fun h2 z2 g2 o2 p2 => hq h2 z2 g2 (fun q hq => (o2 q hq).trans (by dsimp only; rw [up2_same, if_neg (by omega)])) p2)
      · dsimp only
        rw [up2_same, if_neg (by omega)]
        exact pT s2 hs2
      · dsimp only
        rw [up2_same]
        by_cases e : s2 = s
        · rw [if_pos (by omega), e, show n - s = j by omega]
        · rw [if_neg (by omega)]
          exact pr s2 hs2 (by omega)
    have st : ∀ (vv : Int) (x7 : Option xV), vv = tbF v a n fRp c T s → Ev X 235 79 [some (vr 70), some (vi k), some (vi n), some (vi i), some (vi c), some (vi s), some (vi vv), x7] [] h Q := by
      intro vv x7 evv
      rw [e_235_79]
      by_cases e : s < n
      · have la : h.1 87 (33 * i + (s + 1)) = dn (tbF v a n fRp c T) fRp n j := by rw [pr (s + 1) (by omega) (by omega), show n - (s + 1) + 1 = j by omega]
        have t1 : (33 * (i : Int) + (s : Int) + 1).toNat = 33 * i + (s + 1) := by omega
        by_cases l : dn (tbF v a n fRp c T) fRp n j < vv
        · simp (disch := first | assumption | omega) only [e_235_80, e_235_81, e_235_82, e_235_83, e_235_84, e_235_85, e_235_86, e_235_87, e_235_88, e_235_89, e_235_90, e_235_91, e_235_92, e_235_94, e_235_95, e_235_96, e_235_97, e_235_98, e_235_99, e_235_100, e_235_101, e_235_102, e_235_103, e_235_104, e_235_105, e_235_106, e_235_108, e_235_109, e_235_110, onI_s, onR_s, onL_s, gl_0, gl_n, gl_1, gl_2, gl_3, gl_4, gl_5, gl_6, gl_7, gl_8, gl_9, gl_10, gl_11, gl_12, gl_13, gl_14, gl_15, gl_16, gl_17, sk0i, sk0r, sk0n, sk1i, sk1r, sk1n, sk_2, sk_3, sk_4, sk_5, sk_6, sk_7, sk_8, sk_9, sk_10, sk_11, sk_12, sk_13, sk_14, sk_15, sk_16, sk_17, ls_0, ls_1, ls_2, ls_3, ls_4, ls_5, ls_6, ls_7, ls_8, ls_9, ls_10, ls_11, ls_12, ls_13, ls_14, ls_15, ls_16, ls_17, ct1_i, ct1_r, wd8_0, wd8_i1, wd8_r1, wd8_i2, wd8_r2, wd8_i3, wd8_r3, wd8_i4, wd8_r4, wd8_i5, wd8_r5, wd8_i6, wd8_r6, wd8_i7, wd8_r7, wd8_i8, wd8_r8, wd8_l2, wd8_l3, wd8_l4, wd8_l5, wd8_l6, wd8_l7, wd8_l8, tl_s, tl_n, inR_t, bd_t, true_and, and_true, true_or, or_true, if_true_x, if_false_x, if_pos, if_neg, Int.toNat_natCast, natL, bI_0, bI_1, bI_ft, eq_self, b_tf, b_ft, not_true_eq_false, not_false_eq_true, e, t1, la, l, ti, nx, hc.t70, hc.r70_4, hc.r70_5, hc.r70_6, hc.r70_7, hc.r70_8, hc.r70_10, hc.r70_11, hc.r70_12, hc.r70_14, hc.r70_15, hc.r70_16, hc.r70_17, hc.r70_19, hc.r70_21, hc.r70_23, hc.r70_24, hc.r70_26, hc.r70_27, hc.r70_28, hc.r70_29, hc.r70_30, hc.r70_31, hc.r70_32, hc.r70_33, hc.r70_36, hc.t87, hc.z87]
          exact fin _ _ _ (by rw [d0]; omega)
        · simp (disch := first | assumption | omega) only [e_235_80, e_235_81, e_235_82, e_235_83, e_235_84, e_235_85, e_235_86, e_235_87, e_235_88, e_235_89, e_235_90, e_235_91, e_235_92, e_235_94, e_235_95, e_235_96, e_235_97, e_235_98, e_235_99, e_235_100, e_235_101, e_235_102, e_235_103, e_235_104, e_235_107, e_235_108, e_235_109, e_235_110, onI_s, onR_s, onL_s, gl_0, gl_n, gl_1, gl_2, gl_3, gl_4, gl_5, gl_6, gl_7, gl_8, gl_9, gl_10, gl_11, gl_12, gl_13, gl_14, gl_15, gl_16, gl_17, sk0i, sk0r, sk0n, sk1i, sk1r, sk1n, sk_2, sk_3, sk_4, sk_5, sk_6, sk_7, sk_8, sk_9, sk_10, sk_11, sk_12, sk_13, sk_14, sk_15, sk_16, sk_17, ls_0, ls_1, ls_2, ls_3, ls_4, ls_5, ls_6, ls_7, ls_8, ls_9, ls_10, ls_11, ls_12, ls_13, ls_14, ls_15, ls_16, ls_17, ct1_i, ct1_r, wd8_0, wd8_i1, wd8_r1, wd8_i2, wd8_r2, wd8_i3, wd8_r3, wd8_i4, wd8_r4, wd8_i5, wd8_r5, wd8_i6, wd8_r6, wd8_i7, wd8_r7, wd8_i8, wd8_r8, wd8_l2, wd8_l3, wd8_l4, wd8_l5, wd8_l6, wd8_l7, wd8_l8, tl_s, tl_n, inR_t, bd_t, true_and, and_true, true_or, or_true, if_true_x, if_false_x, if_pos, if_neg, Int.toNat_natCast, natL, bI_0, bI_1, bI_ft, eq_self, b_tf, b_ft, not_true_eq_false, not_false_eq_true, e, t1, la, l, ti, nx, hc.t70, hc.r70_4, hc.r70_5, hc.r70_6, hc.r70_7, hc.r70_8, hc.r70_10, hc.r70_11, hc.r70_12, hc.r70_14, hc.r70_15, hc.r70_16, hc.r70_17, hc.r70_19, hc.r70_21, hc.r70_23, hc.r70_24, hc.r70_26, hc.r70_27, hc.r70_28, hc.r70_29, hc.r70_30, hc.r70_31, hc.r70_32, hc.r70_33, hc.r70_36, hc.t87, hc.z87]
          exact fin _ _ _ (by rw [d0]; omega)
      · have j0 : j = 0 := by omega
        have dj : dn (tbF v a n fRp c T) fRp n j = 100000000 := by rw [j0, dn]; exact fc
        by_cases l : 100000000 < vv
        · simp (disch := first | assumption | omega) only [e_235_80, e_235_81, e_235_93, e_235_94, e_235_95, e_235_96, e_235_97, e_235_98, e_235_99, e_235_100, e_235_101, e_235_102, e_235_103, e_235_104, e_235_105, e_235_106, e_235_108, e_235_109, e_235_110, onI_s, onR_s, onL_s, gl_0, gl_n, gl_1, gl_2, gl_3, gl_4, gl_5, gl_6, gl_7, gl_8, gl_9, gl_10, gl_11, gl_12, gl_13, gl_14, gl_15, gl_16, gl_17, sk0i, sk0r, sk0n, sk1i, sk1r, sk1n, sk_2, sk_3, sk_4, sk_5, sk_6, sk_7, sk_8, sk_9, sk_10, sk_11, sk_12, sk_13, sk_14, sk_15, sk_16, sk_17, ls_0, ls_1, ls_2, ls_3, ls_4, ls_5, ls_6, ls_7, ls_8, ls_9, ls_10, ls_11, ls_12, ls_13, ls_14, ls_15, ls_16, ls_17, ct1_i, ct1_r, wd8_0, wd8_i1, wd8_r1, wd8_i2, wd8_r2, wd8_i3, wd8_r3, wd8_i4, wd8_r4, wd8_i5, wd8_r5, wd8_i6, wd8_r6, wd8_i7, wd8_r7, wd8_i8, wd8_r8, wd8_l2, wd8_l3, wd8_l4, wd8_l5, wd8_l6, wd8_l7, wd8_l8, tl_s, tl_n, inR_t, bd_t, true_and, and_true, true_or, or_true, if_true_x, if_false_x, if_pos, if_neg, Int.toNat_natCast, natL, bI_0, bI_1, bI_ft, eq_self, b_tf, b_ft, not_true_eq_false, not_false_eq_true, e, l, ti, nx, hc.t70, hc.r70_4, hc.r70_5, hc.r70_6, hc.r70_7, hc.r70_8, hc.r70_10, hc.r70_11, hc.r70_12, hc.r70_14, hc.r70_15, hc.r70_16, hc.r70_17, hc.r70_19, hc.r70_21, hc.r70_23, hc.r70_24, hc.r70_26, hc.r70_27, hc.r70_28, hc.r70_29, hc.r70_30, hc.r70_31, hc.r70_32, hc.r70_33, hc.r70_36, hc.t87, hc.z87]
          exact fin _ _ _ (by rw [d0]; omega)
        · simp (disch := first | assumption | omega) only [e_235_80, e_235_81, e_235_93, e_235_94, e_235_95, e_235_96, e_235_97, e_235_98, e_235_99, e_235_100, e_235_101, e_235_102, e_235_103, e_235_104, e_235_107, e_235_108, e_235_109, e_235_110, onI_s, onR_s, onL_s, gl_0, gl_n, gl_1, gl_2, gl_3, gl_4, gl_5, gl_6, gl_7, gl_8, gl_9, gl_10, gl_11, gl_12, gl_13, gl_14, gl_15, gl_16, gl_17, sk0i, sk0r, sk0n, sk1i, sk1r, sk1n, sk_2, sk_3, sk_4, sk_5, sk_6, sk_7, sk_8, sk_9, sk_10, sk_11, sk_12, sk_13, sk_14, sk_15, sk_16, sk_17, ls_0, ls_1, ls_2, ls_3, ls_4, ls_5, ls_6, ls_7, ls_8, ls_9, ls_10, ls_11, ls_12, ls_13, ls_14, ls_15, ls_16, ls_17, ct1_i, ct1_r, wd8_0, wd8_i1, wd8_r1, wd8_i2, wd8_r2, wd8_i3, wd8_r3, wd8_i4, wd8_r4, wd8_i5, wd8_r5, wd8_i6, wd8_r6, wd8_i7, wd8_r7, wd8_i8, wd8_r8, wd8_l2, wd8_l3, wd8_l4, wd8_l5, wd8_l6, wd8_l7, wd8_l8, tl_s, tl_n, inR_t, bd_t, true_and, and_true, true_or, or_true, if_true_x, if_false_x, if_pos, if_neg, Int.toNat_natCast, natL, bI_0, bI_1, bI_ft, eq_self, b_tf, b_ft, not_true_eq_false, not_false_eq_true, e, l, ti, nx, hc.t70, hc.r70_4, hc.r70_5, hc.r70_6, hc.r70_7, hc.r70_8, hc.r70_10, hc.r70_11, hc.r70_12, hc.r70_14, hc.r70_15, hc.r70_16, hc.r70_17, hc.r70_19, hc.r70_21, hc.r70_23, hc.r70_24, hc.r70_26, hc.r70_27, hc.r70_28, hc.r70_29, hc.r70_30, hc.r70_31, hc.r70_32, hc.r70_33, hc.r70_36, hc.t87, hc.z87]
          exact fin _ _ _ (by rw [d0]; omega)
    rw [e_235_36, hs]
    by_cases e : (s : Int) + (wn : Int) ≤ n
    · have tv := pT (s + wn) (by omega)
      have t0 := T0 (s + wn)
      have t2 : (33 * ((i : Int) + 1) + (s : Int) + (wn : Int)).toNat = 33 * (i + 1) + (s + wn) := by omega
      by_cases l : T (s + wn) = 100000000
      · simp (disch := first | assumption | omega) only [e_235_37, e_235_38, e_235_39, e_235_40, e_235_41, e_235_42, e_235_43, e_235_44, e_235_45, e_235_46, e_235_47, e_235_48, e_235_49, e_235_50, e_235_51, e_235_52, e_235_53, e_235_54, e_235_55, e_235_56, e_235_57, e_235_58, e_235_59, e_235_60, e_235_61, e_235_62, e_235_63, e_235_64, e_235_65, e_235_66, e_235_78, onI_s, onR_s, onL_s, gl_0, gl_n, gl_1, gl_2, gl_3, gl_4, gl_5, gl_6, gl_7, gl_8, gl_9, gl_10, gl_11, gl_12, gl_13, gl_14, gl_15, gl_16, gl_17, sk0i, sk0r, sk0n, sk1i, sk1r, sk1n, sk_2, sk_3, sk_4, sk_5, sk_6, sk_7, sk_8, sk_9, sk_10, sk_11, sk_12, sk_13, sk_14, sk_15, sk_16, sk_17, ls_0, ls_1, ls_2, ls_3, ls_4, ls_5, ls_6, ls_7, ls_8, ls_9, ls_10, ls_11, ls_12, ls_13, ls_14, ls_15, ls_16, ls_17, ct1_i, ct1_r, wd8_0, wd8_i1, wd8_r1, wd8_i2, wd8_r2, wd8_i3, wd8_r3, wd8_i4, wd8_r4, wd8_i5, wd8_r5, wd8_i6, wd8_r6, wd8_i7, wd8_r7, wd8_i8, wd8_r8, wd8_l2, wd8_l3, wd8_l4, wd8_l5, wd8_l6, wd8_l7, wd8_l8, tl_s, tl_n, inR_t, bd_t, true_and, and_true, true_or, or_true, if_true_x, if_false_x, if_pos, if_neg, Int.toNat_natCast, natL, bI_0, bI_1, bI_ft, eq_self, b_tf, b_ft, not_true_eq_false, not_false_eq_true, m_160 hc, evh, hwn, e, t2, tv, l, Int.toNat_natCast, hc.t70, hc.r70_4, hc.r70_5, hc.r70_6, hc.r70_7, hc.r70_8, hc.r70_10, hc.r70_11, hc.r70_12, hc.r70_14, hc.r70_15, hc.r70_16, hc.r70_17, hc.r70_19, hc.r70_21, hc.r70_23, hc.r70_24, hc.r70_26, hc.r70_27, hc.r70_28, hc.r70_29, hc.r70_30, hc.r70_31, hc.r70_32, hc.r70_33, hc.r70_36, hc.t87, hc.z87]
        exact st _ _ (by rw [tbF, hwn, if_pos e, Int.toNat_natCast, if_pos (show T (s + wn) = fRp from l)]; rfl)
      · simp (disch := first | assumption | omega) only [e_235_37, e_235_38, e_235_39, e_235_40, e_235_41, e_235_42, e_235_43, e_235_44, e_235_45, e_235_46, e_235_47, e_235_48, e_235_49, e_235_50, e_235_51, e_235_52, e_235_53, e_235_54, e_235_55, e_235_56, e_235_57, e_235_58, e_235_59, e_235_60, e_235_61, e_235_62, e_235_63, e_235_64, e_235_67, e_235_68, e_235_69, e_235_70, e_235_71, e_235_72, e_235_73, e_235_74, e_235_75, e_235_76, e_235_77, e_235_78, onI_s, onR_s, onL_s, gl_0, gl_n, gl_1, gl_2, gl_3, gl_4, gl_5, gl_6, gl_7, gl_8, gl_9, gl_10, gl_11, gl_12, gl_13, gl_14, gl_15, gl_16, gl_17, sk0i, sk0r, sk0n, sk1i, sk1r, sk1n, sk_2, sk_3, sk_4, sk_5, sk_6, sk_7, sk_8, sk_9, sk_10, sk_11, sk_12, sk_13, sk_14, sk_15, sk_16, sk_17, ls_0, ls_1, ls_2, ls_3, ls_4, ls_5, ls_6, ls_7, ls_8, ls_9, ls_10, ls_11, ls_12, ls_13, ls_14, ls_15, ls_16, ls_17, ct1_i, ct1_r, wd8_0, wd8_i1, wd8_r1, wd8_i2, wd8_r2, wd8_i3, wd8_r3, wd8_i4, wd8_r4, wd8_i5, wd8_r5, wd8_i6, wd8_r6, wd8_i7, wd8_r7, wd8_i8, wd8_r8, wd8_l2, wd8_l3, wd8_l4, wd8_l5, wd8_l6, wd8_l7, wd8_l8, tl_s, tl_n, inR_t, bd_t, true_and, and_true, true_or, or_true, if_true_x, if_false_x, if_pos, if_neg, Int.toNat_natCast, natL, bI_0, bI_1, bI_ft, eq_self, b_tf, b_ft, not_true_eq_false, not_false_eq_true, m_160 hc, m_234 hc wh c20, as, e81, evh, hwn, e, t2, tv, l, Int.toNat_natCast, hc.t70, hc.r70_4, hc.r70_5, hc.r70_6, hc.r70_7, hc.r70_8, hc.r70_10, hc.r70_11, hc.r70_12, hc.r70_14, hc.r70_15, hc.r70_16, hc.r70_17, hc.r70_19, hc.r70_21, hc.r70_23, hc.r70_24, hc.r70_26, hc.r70_27, hc.r70_28, hc.r70_29, hc.r70_30, hc.r70_31, hc.r70_32, hc.r70_33, hc.r70_36, hc.t81, hc.z81, hc.t87, hc.z87]
        exact st _ _ (by rw [tbF, hwn, if_pos e, Int.toNat_natCast, if_neg (show ¬ T (s + wn) = fRp from l)])
    · simp (disch := first | assumption | omega) only [e_235_37, e_235_38, e_235_39, e_235_40, e_235_41, e_235_42, e_235_43, e_235_44, e_235_45, e_235_46, onI_s, onR_s, onL_s, gl_0, gl_n, gl_1, gl_2, gl_3, gl_4, gl_5, gl_6, gl_7, gl_8, gl_9, gl_10, gl_11, gl_12, gl_13, gl_14, gl_15, gl_16, gl_17, sk0i, sk0r, sk0n, sk1i, sk1r, sk1n, sk_2, sk_3, sk_4, sk_5, sk_6, sk_7, sk_8, sk_9, sk_10, sk_11, sk_12, sk_13, sk_14, sk_15, sk_16, sk_17, ls_0, ls_1, ls_2, ls_3, ls_4, ls_5, ls_6, ls_7, ls_8, ls_9, ls_10, ls_11, ls_12, ls_13, ls_14, ls_15, ls_16, ls_17, ct1_i, ct1_r, wd8_0, wd8_i1, wd8_r1, wd8_i2, wd8_r2, wd8_i3, wd8_r3, wd8_i4, wd8_r4, wd8_i5, wd8_r5, wd8_i6, wd8_r6, wd8_i7, wd8_r7, wd8_i8, wd8_r8, wd8_l2, wd8_l3, wd8_l4, wd8_l5, wd8_l6, wd8_l7, wd8_l8, tl_s, tl_n, inR_t, bd_t, true_and, and_true, true_or, or_true, if_true_x, if_false_x, if_pos, if_neg, Int.toNat_natCast, natL, bI_0, bI_1, bI_ft, eq_self, b_tf, b_ft, not_true_eq_false, not_false_eq_true, m_160 hc, evh, hwn, e, Int.toNat_natCast, hc.t70, hc.r70_4, hc.r70_5, hc.r70_6, hc.r70_7, hc.r70_8, hc.r70_10, hc.r70_11, hc.r70_12, hc.r70_14, hc.r70_15, hc.r70_16, hc.r70_17, hc.r70_19, hc.r70_21, hc.r70_23, hc.r70_24, hc.r70_26, hc.r70_27, hc.r70_28, hc.r70_29, hc.r70_30, hc.r70_31, hc.r70_32, hc.r70_33, hc.r70_36]
      exact st _ _ (by rw [tbF, hwn, if_neg e]; rfl)
set_option maxHeartbeats 16000000 in
theorem m_235 (hc : CT X ns nb ln) {h0 : xH} {v : Nat → Nat → Int} (ev : vm h0 = v) (w : RGv v) (z : NZ X h0) {L : List Nat} (hM : h0.2 70 25 = L.length) (hL : R1 (h0.1 86) L) (L20 : L.length ≤ 20) (cL : ∀ c, c ∈ L → c < 20) {k a n : Nat} (hk : k < 256) (h81 : h0.1 81 k = a) (h82 : h0.1 82 k = n) (an : a + n ≤ 32) (hq : ∀ h2, NZ X h2 → G1 87 h0 h2 → TM h2 v a n fRp L 0 → Q (some (vi (tb v a n fRp L 0))) h2) : Cl X 235 [vr 70, vi k] h0 Q := by
  have lp : ∀ (i : Nat) (h : xH) (x4 x5 x6 x7 : Option xV), i ≤ L.length → NZ X h → G1 87 h0 h → TM h v a n fRp L i → Ev X 235 27 [some (vr 70), some (vi k), some (vi n), some (vi ((i : Int) - 1)), x4, x5, x6, x7] [] h Q := by
    intro i
    induction i with
    | zero =>
      intro h x4 x5 x6 x7 hk z g tr
      have t0 := tr 0 (by omega) (by omega) 0 (by omega)
      rw [List.drop_zero] at t0
      change h.1 87 0 = _ at t0
      rw [e_235_27]
      simp (disch := first | assumption | omega) only [e_235_28, e_235_113, e_235_114, e_235_115, e_235_116, e_235_117, onI_s, onR_s, onL_s, gl_0, gl_n, gl_1, gl_2, gl_3, gl_4, gl_5, gl_6, gl_7, gl_8, gl_9, gl_10, gl_11, gl_12, gl_13, gl_14, gl_15, gl_16, gl_17, sk0i, sk0r, sk0n, sk1i, sk1r, sk1n, sk_2, sk_3, sk_4, sk_5, sk_6, sk_7, sk_8, sk_9, sk_10, sk_11, sk_12, sk_13, sk_14, sk_15, sk_16, sk_17, ls_0, ls_1, ls_2, ls_3, ls_4, ls_5, ls_6, ls_7, ls_8, ls_9, ls_10, ls_11, ls_12, ls_13, ls_14, ls_15, ls_16, ls_17, ct1_i, ct1_r, wd8_0, wd8_i1, wd8_r1, wd8_i2, wd8_r2, wd8_i3, wd8_r3, wd8_i4, wd8_r4, wd8_i5, wd8_r5, wd8_i6, wd8_r6, wd8_i7, wd8_r7, wd8_i8, wd8_r8, wd8_l2, wd8_l3, wd8_l4, wd8_l5, wd8_l6, wd8_l7, wd8_l8, tl_s, tl_n, inR_t, bd_t, true_and, and_true, true_or, or_true, if_true_x, if_false_x, if_pos, if_neg, Int.toNat_natCast, natL, bI_0, bI_1, bI_ft, eq_self, b_tf, b_ft, not_true_eq_false, not_false_eq_true, tn_0, t0, hc.t70, hc.r70_4, hc.r70_5, hc.r70_6, hc.r70_7, hc.r70_8, hc.r70_10, hc.r70_11, hc.r70_12, hc.r70_14, hc.r70_15, hc.r70_16, hc.r70_17, hc.r70_19, hc.r70_21, hc.r70_23, hc.r70_24, hc.r70_26, hc.r70_27, hc.r70_28, hc.r70_29, hc.r70_30, hc.r70_31, hc.r70_32, hc.r70_33, hc.r70_36, hc.t87, hc.z87]
      exact hq h z g tr
    | succ i ih =>
      intro h x4 x5 x6 x7 hki z g tr
      obtain ⟨c, hc1⟩ : ∃ c, L[i]? = some c := ⟨L[i], by rw [List.getElem?_eq_getElem (by omega)]⟩
      have c20 := cL c (List.mem_of_getElem? hc1)
      have ec : h.1 86 i = c := by rw [g.1 86 (by omega)]; exact hL i c hc1
      have e1 : ((i + 1 : Nat) : Int) - 1 = i := by omega
      have n0 : (n : Int) = (n : Int) - ((0 : Nat) : Int) := by omega
      rw [e1, e_235_27]
      simp (disch := first | assumption | omega) only [e_235_28, e_235_29, e_235_30, e_235_31, e_235_32, e_235_33, e_235_34, e_235_35, onI_s, onR_s, onL_s, gl_0, gl_n, gl_1, gl_2, gl_3, gl_4, gl_5, gl_6, gl_7, gl_8, gl_9, gl_10, gl_11, gl_12, gl_13, gl_14, gl_15, gl_16, gl_17, sk0i, sk0r, sk0n, sk1i, sk1r, sk1n, sk_2, sk_3, sk_4, sk_5, sk_6, sk_7, sk_8, sk_9, sk_10, sk_11, sk_12, sk_13, sk_14, sk_15, sk_16, sk_17, ls_0, ls_1, ls_2, ls_3, ls_4, ls_5, ls_6, ls_7, ls_8, ls_9, ls_10, ls_11, ls_12, ls_13, ls_14, ls_15, ls_16, ls_17, ct1_i, ct1_r, wd8_0, wd8_i1, wd8_r1, wd8_i2, wd8_r2, wd8_i3, wd8_r3, wd8_i4, wd8_r4, wd8_i5, wd8_r5, wd8_i6, wd8_r6, wd8_i7, wd8_r7, wd8_i8, wd8_r8, wd8_l2, wd8_l3, wd8_l4, wd8_l5, wd8_l6, wd8_l7, wd8_l8, tl_s, tl_n, inR_t, bd_t, true_and, and_true, true_or, or_true, if_true_x, if_false_x, if_pos, if_neg, Int.toNat_natCast, natL, bI_0, bI_1, bI_ft, eq_self, b_tf, b_ft, not_true_eq_false, not_false_eq_true, ec, hc.t70, hc.r70_4, hc.r70_5, hc.r70_6, hc.r70_7, hc.r70_8, hc.r70_10, hc.r70_11, hc.r70_12, hc.r70_14, hc.r70_15, hc.r70_16, hc.r70_17, hc.r70_19, hc.r70_21, hc.r70_23, hc.r70_24, hc.r70_26, hc.r70_27, hc.r70_28, hc.r70_29, hc.r70_30, hc.r70_31, hc.r70_32, hc.r70_33, hc.r70_36, hc.t86, hc.z86]
      have q := s_235 (Q := Q) (T := tb v a n fRp (L.drop (i + 1))) hc ev w hk h81 c20 (by omega : i < 20) an (fun s => ⟨tb_ge w an (by unfold fRp; omega) _ _, tb_le _ _ (by unfold fRp; omega)⟩) (n + 1) 0 h x6 x7 (by omega) z g (fun s hs => tr (i + 1) (by omega) (by omega) s hs) (fun s hs hj => by omega) (fun h2 z2 g2 o2 p2 x5 x6 x7 => by
        rw [e_235_111]
        simp (disch := first | assumption | omega) only [e_235_112, onI_s, onR_s, onL_s, gl_0, gl_n, gl_1, gl_2, gl_3, gl_4, gl_5, gl_6, gl_7, gl_8, gl_9, gl_10, gl_11, gl_12, gl_13, gl_14, gl_15, gl_16, gl_17, sk0i, sk0r, sk0n, sk1i, sk1r, sk1n, sk_2, sk_3, sk_4, sk_5, sk_6, sk_7, sk_8, sk_9, sk_10, sk_11, sk_12, sk_13, sk_14, sk_15, sk_16, sk_17, ls_0, ls_1, ls_2, ls_3, ls_4, ls_5, ls_6, ls_7, ls_8, ls_9, ls_10, ls_11, ls_12, ls_13, ls_14, ls_15, ls_16, ls_17, ct1_i, ct1_r, wd8_0, wd8_i1, wd8_r1, wd8_i2, wd8_r2, wd8_i3, wd8_r3, wd8_i4, wd8_r4, wd8_i5, wd8_r5, wd8_i6, wd8_r6, wd8_i7, wd8_r7, wd8_i8, wd8_r8, wd8_l2, wd8_l3, wd8_l4, wd8_l5, wd8_l6, wd8_l7, wd8_l8, tl_s, tl_n, inR_t, bd_t, true_and, and_true, true_or, or_true, if_true_x, if_false_x, if_pos, if_neg, Int.toNat_natCast, natL, bI_0, bI_1, bI_ft, eq_self, b_tf, b_ft, not_true_eq_false, not_false_eq_true, show (i : Int) + -1 = (i : Int) - 1 by omega]
        refine ih h2 _ _ _ _ (by omega) z2 g2 (fun j h1 h2 s hs => ?_)
        by_cases e : j = i
        · rw [e, p2 s hs]
          have : L.drop i = c :: L.drop (i + 1) := by
            rw [List.drop_eq_getElem_cons (by omega)]
            rw [List.getElem?_eq_getElem (by omega)] at hc1
            rw [Option.some.inj hc1]
          rw [this, tb]
        · rw [o2 (33 * j + s) (by omega)]
          exact tr j (by omega) h2 s hs)
      rw [← n0] at q
      exact q
  rw [c_235]
  simp (disch := first | assumption | omega) only [e_235_0, e_235_1, e_235_2, e_235_3, e_235_4, e_235_5, e_235_6, onI_s, onR_s, onL_s, gl_0, gl_n, gl_1, gl_2, gl_3, gl_4, gl_5, gl_6, gl_7, gl_8, gl_9, gl_10, gl_11, gl_12, gl_13, gl_14, gl_15, gl_16, gl_17, sk0i, sk0r, sk0n, sk1i, sk1r, sk1n, sk_2, sk_3, sk_4, sk_5, sk_6, sk_7, sk_8, sk_9, sk_10, sk_11, sk_12, sk_13, sk_14, sk_15, sk_16, sk_17, ls_0, ls_1, ls_2, ls_3, ls_4, ls_5, ls_6, ls_7, ls_8, ls_9, ls_10, ls_11, ls_12, ls_13, ls_14, ls_15, ls_16, ls_17, ct1_i, ct1_r, wd8_0, wd8_i1, wd8_r1, wd8_i2, wd8_r2, wd8_i3, wd8_r3, wd8_i4, wd8_r4, wd8_i5, wd8_r5, wd8_i6, wd8_r6, wd8_i7, wd8_r7, wd8_i8, wd8_r8, wd8_l2, wd8_l3, wd8_l4, wd8_l5, wd8_l6, wd8_l7, wd8_l8, tl_s, tl_n, inR_t, bd_t, true_and, and_true, true_or, or_true, if_true_x, if_false_x, if_pos, if_neg, Int.toNat_natCast, natL, bI_0, bI_1, bI_ft, eq_self, b_tf, b_ft, not_true_eq_false, not_false_eq_true, h82, hc.t70, hc.r70_4, hc.r70_5, hc.r70_6, hc.r70_7, hc.r70_8, hc.r70_10, hc.r70_11, hc.r70_12, hc.r70_14, hc.r70_15, hc.r70_16, hc.r70_17, hc.r70_19, hc.r70_21, hc.r70_23, hc.r70_24, hc.r70_26, hc.r70_27, hc.r70_28, hc.r70_29, hc.r70_30, hc.r70_31, hc.r70_32, hc.r70_33, hc.r70_36, hc.t82, hc.z82]
  have q := z_235 (Q := Q) hc (h0 := h0) (x1 := some (vi k)) (x4 := none) (x5 := none) (x6 := none) (x7 := none) (by omega : L.length < 21) hM (by omega : n ≤ 32) (n + 1) 0 h0 (by omega) z G1.refl (fun k hk => by omega) (fun h2 x3 z2 g2 p2 => by
    have eM : h2.2 70 25 = L.length := by rw [g2.2]; exact hM
    rw [e_235_22]
    simp (disch := first | assumption | omega) only [e_235_23, e_235_24, e_235_25, e_235_26, onI_s, onR_s, onL_s, gl_0, gl_n, gl_1, gl_2, gl_3, gl_4, gl_5, gl_6, gl_7, gl_8, gl_9, gl_10, gl_11, gl_12, gl_13, gl_14, gl_15, gl_16, gl_17, sk0i, sk0r, sk0n, sk1i, sk1r, sk1n, sk_2, sk_3, sk_4, sk_5, sk_6, sk_7, sk_8, sk_9, sk_10, sk_11, sk_12, sk_13, sk_14, sk_15, sk_16, sk_17, ls_0, ls_1, ls_2, ls_3, ls_4, ls_5, ls_6, ls_7, ls_8, ls_9, ls_10, ls_11, ls_12, ls_13, ls_14, ls_15, ls_16, ls_17, ct1_i, ct1_r, wd8_0, wd8_i1, wd8_r1, wd8_i2, wd8_r2, wd8_i3, wd8_r3, wd8_i4, wd8_r4, wd8_i5, wd8_r5, wd8_i6, wd8_r6, wd8_i7, wd8_r7, wd8_i8, wd8_r8, wd8_l2, wd8_l3, wd8_l4, wd8_l5, wd8_l6, wd8_l7, wd8_l8, tl_s, tl_n, inR_t, bd_t, true_and, and_true, true_or, or_true, if_true_x, if_false_x, if_pos, if_neg, Int.toNat_natCast, natL, bI_0, bI_1, bI_ft, eq_self, b_tf, b_ft, not_true_eq_false, not_false_eq_true, eM, hc.t70, hc.r70_4, hc.r70_5, hc.r70_6, hc.r70_7, hc.r70_8, hc.r70_10, hc.r70_11, hc.r70_12, hc.r70_14, hc.r70_15, hc.r70_16, hc.r70_17, hc.r70_19, hc.r70_21, hc.r70_23, hc.r70_24, hc.r70_26, hc.r70_27, hc.r70_28, hc.r70_29, hc.r70_30, hc.r70_31, hc.r70_32, hc.r70_33, hc.r70_36]
    refine lp L.length h2 _ _ _ _ (by omega) z2 g2 (fun j h1 h2 s hs => ?_)
    rw [show j = L.length by omega, p2 s hs, List.drop_length, tb])
  exact q
end LSM
