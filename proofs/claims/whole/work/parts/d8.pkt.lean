/-! PACKING in the reference: a run is laid out -/
def VS (X : xL) (h0 h : xH) (u : Nat → Nat → Int) : Prop := NZ X h ∧ M73 h0 h ∧ vm h = u ∧ RBr (h.1 73)
section PKT
variable {X : xL} {Q : Option xV → xH → Prop} {ns nb ln : Nat} {h : xH}
theorem VS.gv (hc : CT X ns nb ln) {h0 : xH} {u : Nat → Nat → Int} (s : VS X h0 h u) {c : Nat} {r t : Int} (c20 : c < 20) : VS X h0 (up2 (up2 h.1 73 (36 + 7 * (c : Int) + 5).toNat r) 73 (36 + 7 * (c : Int) + 6).toNat t, h.2) (gvP u c r t) := by
  obtain ⟨z, m, e, rb⟩ := s
  refine ⟨NZ.up (F := h.2) (NZ.up (I := h.1) (F := h.2) z (by rw [hc.z73]; omega)) (by rw [hc.z73]; omega), M73.u (M73.u (I := h.1) (F := h.2) m), ?_, RBr_u24 (RBr_u24 rb (by omega)) (by omega)⟩
  rw [vm_uc (j := 18) (c := c) (by omega) c20 (by omega), vm_uc (j := 17) (c := c) (by omega) c20 (by omega)]
  unfold gvP
  rw [← e]
set_option maxHeartbeats 8000000 in
theorem w_241 (hc : CT X ns nb ln) {u v : Nat → Nat → Int} (ev : vm h = u) (w : RGv u) (sj : SJ u v) {a n c i k wn t : Nat} {goal : Int} {T : Nat → Int} (k256 : k < 256) (c20 : c < 20) (i20 : i < 20) (an : a + n ≤ 32) (h81 : h.1 81 k = a) (h82 : h.1 82 k = n) (hwn : v 12 c = wn) (hT : ∀ s, s ≤ n → h.1 87 (33 * (i + 1) + s) = T s) (T0 : ∀ s, 0 ≤ T s ∧ T s ≤ fRp) (tw : t + wn ≤ n) (te : cAt v c (a + t) + T (t + wn) = goal) : ∀ (m s : Nat), s + m = t → (∀ s2, s ≤ s2 → s2 < t → ¬ cAt v c (a + s2) + T (s2 + wn) = goal) → Ev X 241 70 [some (vr 70), some (vi k), some (vi t), some (vi i), some (vi c), some (vi goal)] [] h Q → Ev X 241 32 [some (vr 70), some (vi k), some (vi s), some (vi i), some (vi c), some (vi goal)] [] h Q := by
  have s12 : u 12 c = wn := by rw [sj 12 (by decide) (by decide)]; exact hwn
  have wh : RGv (vm h) := by rw [ev]; exact w
  have step : ∀ s : Nat, s ≤ t → (cAt v c (a + s) + T (s + wn) = goal → Ev X 241 70 [some (vr 70), some (vi k), some (vi s), some (vi i), some (vi c), some (vi goal)] [] h Q) → (¬ cAt v c (a + s) + T (s + wn) = goal → Ev X 241 32 [some (vr 70), some (vi k), some (vi ((s + 1 : Nat) : Int)), some (vi i), some (vi c), some (vi goal)] [] h Q) → Ev X 241 32 [some (vr 70), some (vi k), some (vi s), some (vi i), some (vi c), some (vi goal)] [] h Q := by
    intro s st q1 q2
    have as : (a : Int) + (s : Int) = ((a + s : Nat) : Int) := rfl
    have ce : cAt u c (a + s) = cAt v c (a + s) := sj.cAt c (a + s)
    have cb := cAt_bd w (c := c) (s := a + s) (by omega)
    rw [ce] at cb
    have tv := hT (s + wn) (by omega)
    have t0 := T0 (s + wn)
    rw [show fRp = 100000000 from rfl] at t0
    have t2 : (33 * ((i : Int) + 1) + (s : Int) + (wn : Int)).toNat = 33 * (i + 1) + (s + wn) := by omega
    rw [e_241_32]
    by_cases e : cAt v c (a + s) + T (s + wn) = goal
    · simp (disch := first | assumption | omega) only [e_241_33, e_241_34, e_241_35, e_241_36, e_241_37, e_241_38, e_241_39, e_241_40, e_241_41, e_241_42, e_241_43, e_241_44, e_241_45, e_241_46, e_241_47, e_241_48, e_241_49, e_241_50, e_241_51, e_241_52, e_241_53, e_241_54, e_241_55, e_241_56, e_241_57, e_241_58, e_241_59, e_241_60, e_241_61, e_241_62, e_241_63, e_241_64, e_241_65, e_241_66, e_241_67, onI_s, onR_s, onL_s, gl_0, gl_n, gl_1, gl_2, gl_3, gl_4, gl_5, gl_6, gl_7, gl_8, gl_9, gl_10, gl_11, gl_12, gl_13, gl_14, gl_15, gl_16, gl_17, sk0i, sk0r, sk0n, sk1i, sk1r, sk1n, sk_2, sk_3, sk_4, sk_5, sk_6, sk_7, sk_8, sk_9, sk_10, sk_11, sk_12, sk_13, sk_14, sk_15, sk_16, sk_17, ls_0, ls_1, ls_2, ls_3, ls_4, ls_5, ls_6, ls_7, ls_8, ls_9, ls_10, ls_11, ls_12, ls_13, ls_14, ls_15, ls_16, ls_17, ct1_i, ct1_r, wd8_0, wd8_i1, wd8_r1, wd8_i2, wd8_r2, wd8_i3, wd8_r3, wd8_i4, wd8_r4, wd8_i5, wd8_r5, wd8_i6, wd8_r6, wd8_i7, wd8_r7, wd8_i8, wd8_r8, wd8_l2, wd8_l3, wd8_l4, wd8_l5, wd8_l6, wd8_l7, wd8_l8, tl_s, tl_n, inR_t, bd_t, true_and, and_true, true_or, or_true, if_true_x, if_false_x, if_pos, if_neg, Int.toNat_natCast, natL, bI_0, bI_1, bI_ft, eq_self, b_tf, b_ft, not_true_eq_false, not_false_eq_true, m_160 hc, m_234 hc wh c20, ev, s12, h82, h81, as, ce, t2, tv, e, Int.toNat_natCast, hc.t70, hc.r70_4, hc.r70_5, hc.r70_6, hc.r70_7, hc.r70_8, hc.r70_10, hc.r70_11, hc.r70_12, hc.r70_14, hc.r70_15, hc.r70_16, hc.r70_17, hc.r70_19, hc.r70_21, hc.r70_23, hc.r70_24, hc.r70_26, hc.r70_27, hc.r70_28, hc.r70_29, hc.r70_30, hc.r70_31, hc.r70_32, hc.r70_33, hc.r70_36, hc.t81, hc.z81, hc.t82, hc.z82, hc.t87, hc.z87]
      exact q1 e
    · simp (disch := first | assumption | omega) only [e_241_33, e_241_34, e_241_35, e_241_36, e_241_37, e_241_38, e_241_39, e_241_40, e_241_41, e_241_42, e_241_43, e_241_44, e_241_45, e_241_46, e_241_47, e_241_48, e_241_49, e_241_50, e_241_51, e_241_52, e_241_53, e_241_54, e_241_55, e_241_56, e_241_57, e_241_58, e_241_59, e_241_60, e_241_61, e_241_62, e_241_63, e_241_64, e_241_65, e_241_66, e_241_67, onI_s, onR_s, onL_s, gl_0, gl_n, gl_1, gl_2, gl_3, gl_4, gl_5, gl_6, gl_7, gl_8, gl_9, gl_10, gl_11, gl_12, gl_13, gl_14, gl_15, gl_16, gl_17, sk0i, sk0r, sk0n, sk1i, sk1r, sk1n, sk_2, sk_3, sk_4, sk_5, sk_6, sk_7, sk_8, sk_9, sk_10, sk_11, sk_12, sk_13, sk_14, sk_15, sk_16, sk_17, ls_0, ls_1, ls_2, ls_3, ls_4, ls_5, ls_6, ls_7, ls_8, ls_9, ls_10, ls_11, ls_12, ls_13, ls_14, ls_15, ls_16, ls_17, ct1_i, ct1_r, wd8_0, wd8_i1, wd8_r1, wd8_i2, wd8_r2, wd8_i3, wd8_r3, wd8_i4, wd8_r4, wd8_i5, wd8_r5, wd8_i6, wd8_r6, wd8_i7, wd8_r7, wd8_i8, wd8_r8, wd8_l2, wd8_l3, wd8_l4, wd8_l5, wd8_l6, wd8_l7, wd8_l8, tl_s, tl_n, inR_t, bd_t, true_and, and_true, true_or, or_true, if_true_x, if_false_x, if_pos, if_neg, Int.toNat_natCast, natL, bI_0, bI_1, bI_ft, eq_self, b_tf, b_ft, not_true_eq_false, not_false_eq_true, m_160 hc, m_234 hc wh c20, ev, s12, h82, h81, as, ce, t2, tv, e, Int.toNat_natCast, hc.t70, hc.r70_4, hc.r70_5, hc.r70_6, hc.r70_7, hc.r70_8, hc.r70_10, hc.r70_11, hc.r70_12, hc.r70_14, hc.r70_15, hc.r70_16, hc.r70_17, hc.r70_19, hc.r70_21, hc.r70_23, hc.r70_24, hc.r70_26, hc.r70_27, hc.r70_28, hc.r70_29, hc.r70_30, hc.r70_31, hc.r70_32, hc.r70_33, hc.r70_36, hc.t81, hc.z81, hc.t82, hc.z82, hc.t87, hc.z87]
      rw [e_241_68]
      simp (disch := first | assumption | omega) only [e_241_69, onI_s, onR_s, onL_s, gl_0, gl_n, gl_1, gl_2, gl_3, gl_4, gl_5, gl_6, gl_7, gl_8, gl_9, gl_10, gl_11, gl_12, gl_13, gl_14, gl_15, gl_16, gl_17, sk0i, sk0r, sk0n, sk1i, sk1r, sk1n, sk_2, sk_3, sk_4, sk_5, sk_6, sk_7, sk_8, sk_9, sk_10, sk_11, sk_12, sk_13, sk_14, sk_15, sk_16, sk_17, ls_0, ls_1, ls_2, ls_3, ls_4, ls_5, ls_6, ls_7, ls_8, ls_9, ls_10, ls_11, ls_12, ls_13, ls_14, ls_15, ls_16, ls_17, ct1_i, ct1_r, wd8_0, wd8_i1, wd8_r1, wd8_i2, wd8_r2, wd8_i3, wd8_r3, wd8_i4, wd8_r4, wd8_i5, wd8_r5, wd8_i6, wd8_r6, wd8_i7, wd8_r7, wd8_i8, wd8_r8, wd8_l2, wd8_l3, wd8_l4, wd8_l5, wd8_l6, wd8_l7, wd8_l8, tl_s, tl_n, inR_t, bd_t, true_and, and_true, true_or, or_true, if_true_x, if_false_x, if_pos, if_neg, Int.toNat_natCast, natL, bI_0, bI_1, bI_ft, eq_self, b_tf, b_ft, not_true_eq_false, not_false_eq_true, cast_s]
      exact q2 e
  intro m
  induction m with
  | zero =>
    intro s hm hn q
    rw [show s = t by omega]
    exact step t (by omega) (fun _ => q) (fun e => absurd te e)
  | succ m ih =>
    intro s hm hn q
    exact step s (by omega) (fun e => absurd e (hn s (by omega) (by omega))) (fun _ => ih (s + 1) (by omega) (fun s2 h1 h2 => hn s2 (by omega) h2) q)
set_option maxHeartbeats 16000000 in
theorem l_241 (hc : CT X ns nb ln) {v : Nat → Nat → Int} (wv : RGv v) {h0 : xH} {L : List Nat} {k r a n : Nat} (k256 : k < 256) (r8 : r < 8) (h79 : h0.1 79 k = r) (h81 : h0.1 81 k = a) (h82 : h0.1 82 k = n) (an : a + n ≤ 32) (L20 : L.length ≤ 20) (cL : ∀ c, c ∈ L → c < 20) (wL : ∀ c, c ∈ L → 1 ≤ v 12 c) (n25 : h0.2 70 25 = L.length) (h86 : R1 (h0.1 86) L) (tr : TM h0 v a n fRp L 0) : ∀ (M : List Nat) (i s : Nat) (u : Nat → Nat → Int) (h : xH) (x4 x5 : Option xV), L.drop i = M → i + M.length = L.length → s ≤ n → tb v a n fRp M s < 90000 → VS X h0 h u → SJ u v → RGv u → (∀ h2, VS X h0 h2 (plR v r a n M s u) → SJ (plR v r a n M s u) v → RGv (plR v r a n M s u) → Q none h2) → Ev X 241 14 [some (vr 70), some (vi k), some (vi s), some (vi i), x4, x5] [] h Q := by
  intro M
  induction M with
  | nil =>
    intro i s u h x4 x5 hd hk hs hf vs sj w hq
    simp at hk
    have e25 : h.2 70 25 = L.length := by rw [vs.2.1.2]; exact n25
    rw [e_241_14]
    simp (disch := first | assumption | omega) only [e_241_15, e_241_16, e_241_17, e_241_91, onI_s, onR_s, onL_s, gl_0, gl_n, gl_1, gl_2, gl_3, gl_4, gl_5, gl_6, gl_7, gl_8, gl_9, gl_10, gl_11, gl_12, gl_13, gl_14, gl_15, gl_16, gl_17, sk0i, sk0r, sk0n, sk1i, sk1r, sk1n, sk_2, sk_3, sk_4, sk_5, sk_6, sk_7, sk_8, sk_9, sk_10, sk_11, sk_12, sk_13, sk_14, sk_15, sk_16, sk_17, ls_0, ls_1, ls_2, ls_3, ls_4, ls_5, ls_6, ls_7, ls_8, ls_9, ls_10, ls_11, ls_12, ls_13, ls_14, ls_15, ls_16, ls_17, ct1_i, ct1_r, wd8_0, wd8_i1, wd8_r1, wd8_i2, wd8_r2, wd8_i3, wd8_r3, wd8_i4, wd8_r4, wd8_i5, wd8_r5, wd8_i6, wd8_r6, wd8_i7, wd8_r7, wd8_i8, wd8_r8, wd8_l2, wd8_l3, wd8_l4, wd8_l5, wd8_l6, wd8_l7, wd8_l8, tl_s, tl_n, inR_t, bd_t, true_and, and_true, true_or, or_true, if_true_x, if_false_x, if_pos, if_neg, Int.toNat_natCast, natL, bI_0, bI_1, bI_ft, eq_self, b_tf, b_ft, not_true_eq_false, not_false_eq_true, e25, hc.t70, hc.r70_4, hc.r70_5, hc.r70_6, hc.r70_7, hc.r70_8, hc.r70_10, hc.r70_11, hc.r70_12, hc.r70_14, hc.r70_15, hc.r70_16, hc.r70_17, hc.r70_19, hc.r70_21, hc.r70_23, hc.r70_24, hc.r70_26, hc.r70_27, hc.r70_28, hc.r70_29, hc.r70_30, hc.r70_31, hc.r70_32, hc.r70_33, hc.r70_36]
    exact hq h vs sj w
  | cons c M ih =>
    intro i s u h x4 x5 hd hk hs hf vs sj w hq
    rw [List.length_cons] at hk
    have hx : L[i]? = some c := by
      have := List.getElem?_drop (xs := L) (i := i) (j := 0)
      rw [hd] at this
      simpa using this.symm
    have hd2 : L.drop (i + 1) = M := by
      rw [← List.drop_drop, hd]
      rfl
    have cm := List.mem_of_getElem? hx
    have c20 := cL c cm
    have c1 := wL c cm
    have wc := wv.wid c
    obtain ⟨wn, hwn⟩ : ∃ wn : Nat, v 12 c = wn := ⟨(v 12 c).toNat, by omega⟩
    have g1 := vs.2.1.1
    have evh := vs.2.2.1
    have e25 : h.2 70 25 = L.length := by rw [vs.2.1.2]; exact n25
    have e86 : h.1 86 i = c := by rw [g1 86 (by omega)]; exact h86 i c hx
    have e79 : h.1 79 k = r := by rw [g1 79 (by omega)]; exact h79
    have e81 : h.1 81 k = a := by rw [g1 81 (by omega)]; exact h81
    have e82 : h.1 82 k = n := by rw [g1 82 (by omega)]; exact h82
    have po := plS_ok wv an hs hf
    obtain ⟨tt, x1, x2, x3⟩ := plS_ex (c := c) (L := M) wv an (F := fRp) hs (by have : fRp = 100000000 := rfl; omega)
    have fo := fdS_ok (v := v) (a := a) (n := n) (c := c) (T := tb v a n fRp M) (goal := tb v a n fRp (c :: M) s) (n - (v 12 c).toNat - s) s tt x1 (by omega) x2 x3
    have fm := fdS_mn (v := v) (a := a) (n := n) (c := c) (T := tb v a n fRp M) (goal := tb v a n fRp (c :: M) s) (n - (v 12 c).toNat - s) s
    change s ≤ plS v a n c M s ∧ (plS v a n c M s : Int) + v 12 c ≤ n ∧ cAt v c (a + plS v a n c M s) + tb v a n fRp M (plS v a n c M s + (v 12 c).toNat) = tb v a n fRp (c :: M) s at fo
    change ∀ t, s ≤ t → t < plS v a n c M s → _ at fm
    obtain ⟨s1, es1⟩ : ∃ s1, s1 = plS v a n c M s := ⟨_, rfl⟩
    rw [plR, hwn, Int.toNat_natCast, ← es1] at hq
    rw [← es1, hwn, Int.toNat_natCast] at po fo
    rw [← es1, hwn, Int.toNat_natCast] at fm
    have ti : (33 * (i : Int) + (s : Int)).toNat = 33 * i + s := by omega
    have gl : h.1 87 (33 * i + s) = tb v a n fRp (c :: M) s := by
      rw [g1 87 (by omega), tr i (by omega) (by omega) s hs, hd]
    rw [e_241_14]
    simp (disch := first | assumption | omega) only [e_241_15, e_241_16, e_241_17, e_241_18, e_241_19, e_241_20, e_241_21, e_241_22, e_241_23, e_241_24, e_241_25, e_241_26, e_241_27, e_241_28, e_241_29, e_241_30, e_241_31, onI_s, onR_s, onL_s, gl_0, gl_n, gl_1, gl_2, gl_3, gl_4, gl_5, gl_6, gl_7, gl_8, gl_9, gl_10, gl_11, gl_12, gl_13, gl_14, gl_15, gl_16, gl_17, sk0i, sk0r, sk0n, sk1i, sk1r, sk1n, sk_2, sk_3, sk_4, sk_5, sk_6, sk_7, sk_8, sk_9, sk_10, sk_11, sk_12, sk_13, sk_14, sk_15, sk_16, sk_17, ls_0, ls_1, ls_2, ls_3, ls_4, ls_5, ls_6, ls_7, ls_8, ls_9, ls_10, ls_11, ls_12, ls_13, ls_14, ls_15, ls_16, ls_17, ct1_i, ct1_r, wd8_0, wd8_i1, wd8_r1, wd8_i2, wd8_r2, wd8_i3, wd8_r3, wd8_i4, wd8_r4, wd8_i5, wd8_r5, wd8_i6, wd8_r6, wd8_i7, wd8_r7, wd8_i8, wd8_r8, wd8_l2, wd8_l3, wd8_l4, wd8_l5, wd8_l6, wd8_l7, wd8_l8, tl_s, tl_n, inR_t, bd_t, true_and, and_true, true_or, or_true, if_true_x, if_false_x, if_pos, if_neg, Int.toNat_natCast, natL, bI_0, bI_1, bI_ft, eq_self, b_tf, b_ft, not_true_eq_false, not_false_eq_true, e25, e86, ti, gl, hc.t70, hc.r70_4, hc.r70_5, hc.r70_6, hc.r70_7, hc.r70_8, hc.r70_10, hc.r70_11, hc.r70_12, hc.r70_14, hc.r70_15, hc.r70_16, hc.r70_17, hc.r70_19, hc.r70_21, hc.r70_23, hc.r70_24, hc.r70_26, hc.r70_27, hc.r70_28, hc.r70_29, hc.r70_30, hc.r70_31, hc.r70_32, hc.r70_33, hc.r70_36, hc.t86, hc.z86, hc.t87, hc.z87]
    refine w_241 (v := v) (u := u) (T := tb v a n fRp M) (t := s1) (wn := wn) hc evh w sj k256 c20 (by omega) an e81 e82 hwn (fun t ht => by rw [g1 87 (by omega), tr (i + 1) (by omega) (by omega) t ht, hd2]) (fun t => ⟨tb_ge wv an (by decide) _ _, tb_le _ _ (by decide)⟩) (by omega) fo.2.2 (s1 - s) s (by omega) (fun s2 h1 h2 q => fm s2 h1 h2 ⟨by omega, q⟩) ?_
    have as : (a : Int) + (s1 : Int) = ((a + s1 : Nat) : Int) := rfl
    have sw : (s1 : Int) + (wn : Int) = ((s1 + wn : Nat) : Int) := rfl
    have s12 : gvP u c r ((a + s1 : Nat) : Int) 12 c = wn := by rw [sj.gv 12 (by decide) (by decide)]; exact hwn
    rw [e_241_70]
    simp (disch := first | assumption | omega) only [e_241_71, e_241_72, e_241_73, e_241_74, e_241_75, e_241_76, e_241_77, e_241_78, e_241_79, e_241_80, e_241_81, e_241_82, onI_s, onR_s, onL_s, gl_0, gl_n, gl_1, gl_2, gl_3, gl_4, gl_5, gl_6, gl_7, gl_8, gl_9, gl_10, gl_11, gl_12, gl_13, gl_14, gl_15, gl_16, gl_17, sk0i, sk0r, sk0n, sk1i, sk1r, sk1n, sk_2, sk_3, sk_4, sk_5, sk_6, sk_7, sk_8, sk_9, sk_10, sk_11, sk_12, sk_13, sk_14, sk_15, sk_16, sk_17, ls_0, ls_1, ls_2, ls_3, ls_4, ls_5, ls_6, ls_7, ls_8, ls_9, ls_10, ls_11, ls_12, ls_13, ls_14, ls_15, ls_16, ls_17, ct1_i, ct1_r, wd8_0, wd8_i1, wd8_r1, wd8_i2, wd8_r2, wd8_i3, wd8_r3, wd8_i4, wd8_r4, wd8_i5, wd8_r5, wd8_i6, wd8_r6, wd8_i7, wd8_r7, wd8_i8, wd8_r8, wd8_l2, wd8_l3, wd8_l4, wd8_l5, wd8_l6, wd8_l7, wd8_l8, tl_s, tl_n, inR_t, bd_t, true_and, and_true, true_or, or_true, if_true_x, if_false_x, if_pos, if_neg, Int.toNat_natCast, natL, bI_0, bI_1, bI_ft, eq_self, b_tf, b_ft, not_true_eq_false, not_false_eq_true, e79, e81, as, m_166 hc, hc.t70, hc.r70_4, hc.r70_5, hc.r70_6, hc.r70_7, hc.r70_8, hc.r70_10, hc.r70_11, hc.r70_12, hc.r70_14, hc.r70_15, hc.r70_16, hc.r70_17, hc.r70_19, hc.r70_21, hc.r70_23, hc.r70_24, hc.r70_26, hc.r70_27, hc.r70_28, hc.r70_29, hc.r70_30, hc.r70_31, hc.r70_32, hc.r70_33, hc.r70_36, hc.t79, hc.z79, hc.t81, hc.z81]
    obtain ⟨h3, e3⟩ : ∃ h3 : xH, h3 = (up2 (up2 h.1 73 (36 + 7 * (c : Int) + 5).toNat r) 73 (36 + 7 * (c : Int) + 6).toNat ((a + s1 : Nat) : Int), h.2) := ⟨_, rfl⟩
    rw [← e3]
    have vs3 : VS X h0 h3 (gvP u c r ((a + s1 : Nat) : Int)) := by rw [e3]; exact vs.gv hc c20
    have ev3 := vs3.2.2.1
    simp (disch := first | assumption | omega) only [e_241_83, e_241_84, e_241_85, e_241_86, e_241_87, e_241_88, e_241_89, e_241_90, onI_s, onR_s, onL_s, gl_0, gl_n, gl_1, gl_2, gl_3, gl_4, gl_5, gl_6, gl_7, gl_8, gl_9, gl_10, gl_11, gl_12, gl_13, gl_14, gl_15, gl_16, gl_17, sk0i, sk0r, sk0n, sk1i, sk1r, sk1n, sk_2, sk_3, sk_4, sk_5, sk_6, sk_7, sk_8, sk_9, sk_10, sk_11, sk_12, sk_13, sk_14, sk_15, sk_16, sk_17, ls_0, ls_1, ls_2, ls_3, ls_4, ls_5, ls_6, ls_7, ls_8, ls_9, ls_10, ls_11, ls_12, ls_13, ls_14, ls_15, ls_16, ls_17, ct1_i, ct1_r, wd8_0, wd8_i1, wd8_r1, wd8_i2, wd8_r2, wd8_i3, wd8_r3, wd8_i4, wd8_r4, wd8_i5, wd8_r5, wd8_i6, wd8_r6, wd8_i7, wd8_r7, wd8_i8, wd8_r8, wd8_l2, wd8_l3, wd8_l4, wd8_l5, wd8_l6, wd8_l7, wd8_l8, tl_s, tl_n, inR_t, bd_t, true_and, and_true, true_or, or_true, if_true_x, if_false_x, if_pos, if_neg, Int.toNat_natCast, natL, bI_0, bI_1, bI_ft, eq_self, b_tf, b_ft, not_true_eq_false, not_false_eq_true, m_160 hc, ev3, s12, sw, cast_s, Int.toNat_natCast, hc.t70, hc.r70_4, hc.r70_5, hc.r70_6, hc.r70_7, hc.r70_8, hc.r70_10, hc.r70_11, hc.r70_12, hc.r70_14, hc.r70_15, hc.r70_16, hc.r70_17, hc.r70_19, hc.r70_21, hc.r70_23, hc.r70_24, hc.r70_26, hc.r70_27, hc.r70_28, hc.r70_29, hc.r70_30, hc.r70_31, hc.r70_32, hc.r70_33, hc.r70_36]
    exact ih (i + 1) (s1 + wn) _ h3 _ _ hd2 (by omega) (by omega) po.2.2.1 vs3 sj.gv (w.gv ⟨by omega, by omega⟩) hq
set_option maxHeartbeats 8000000 in
theorem m_241 (hc : CT X ns nb ln) {u v : Nat → Nat → Int} (wv : RGv v) {h0 : xH} {go : List (Nat × Nat)} (g20 : go.length ≤ 20) (ft : FT v go) (gN : ∀ x, x ∈ go → 1 ≤ v 12 x.1) {k : Nat} {x : Rn} (hx : (rnL v)[k]? = some x) (pm : PM h0 v go) (n22 : h0.2 70 22 = go.length) (z : NZ X h0) (ev : vm h0 = u) (rb : RBr (h0.1 73)) (sj : SJ u v) (w : RGv u) (hq : ∀ h1 h2, GN h0 h1 → VS X h1 h2 (plR v x.1 x.2.2.1 x.2.2.2 (smK go k) 0 u) → SJ (plR v x.1 x.2.2.1 x.2.2.2 (smK go k) 0 u) v → RGv (plR v x.1 x.2.2.1 x.2.2.2 (smK go k) 0 u) → Q none h2) : Cl X 241 [vr 70, vi k] h0 Q := by
  have xm := List.mem_of_getElem? hx
  obtain ⟨_, an⟩ := rnL_ok wv x xm
  have r8 : x.1 < 8 := by
    have := (rnL_gd xm).1
    have := wv.rows
    omega
  have k256 : k < 256 := by
    have := rnL_len wv
    rcases Nat.lt_or_ge k (rnL v).length with d | d
    · omega
    · rw [List.getElem?_eq_none d] at hx
      cases hx
  obtain ⟨y1, y2, y3, y4⟩ := pm.2.1 k x hx
  have fx := ft k x hx
  have sl := smK_len (go := go) (k := k)
  have s20 := smK_20 (k := k) pm.2.2
  rw [c_241]
  simp (disch := first | assumption | omega) only [e_241_0, e_241_1, e_241_2, e_241_3, e_241_4, onI_s, onR_s, onL_s, gl_0, gl_n, gl_1, gl_2, gl_3, gl_4, gl_5, gl_6, gl_7, gl_8, gl_9, gl_10, gl_11, gl_12, gl_13, gl_14, gl_15, gl_16, gl_17, sk0i, sk0r, sk0n, sk1i, sk1r, sk1n, sk_2, sk_3, sk_4, sk_5, sk_6, sk_7, sk_8, sk_9, sk_10, sk_11, sk_12, sk_13, sk_14, sk_15, sk_16, sk_17, ls_0, ls_1, ls_2, ls_3, ls_4, ls_5, ls_6, ls_7, ls_8, ls_9, ls_10, ls_11, ls_12, ls_13, ls_14, ls_15, ls_16, ls_17, ct1_i, ct1_r, wd8_0, wd8_i1, wd8_r1, wd8_i2, wd8_r2, wd8_i3, wd8_r3, wd8_i4, wd8_r4, wd8_i5, wd8_r5, wd8_i6, wd8_r6, wd8_i7, wd8_r7, wd8_i8, wd8_r8, wd8_l2, wd8_l3, wd8_l4, wd8_l5, wd8_l6, wd8_l7, wd8_l8, tl_s, tl_n, inR_t, bd_t, true_and, and_true, true_or, or_true, if_true_x, if_false_x, if_pos, if_neg, Int.toNat_natCast, natL, bI_0, bI_1, bI_ft, eq_self, b_tf, b_ft, not_true_eq_false, not_false_eq_true, n22, hc.t70, hc.r70_4, hc.r70_5, hc.r70_6, hc.r70_7, hc.r70_8, hc.r70_10, hc.r70_11, hc.r70_12, hc.r70_14, hc.r70_15, hc.r70_16, hc.r70_17, hc.r70_19, hc.r70_21, hc.r70_23, hc.r70_24, hc.r70_26, hc.r70_27, hc.r70_28, hc.r70_29, hc.r70_30, hc.r70_31, hc.r70_32, hc.r70_33, hc.r70_36]
  (rw [e_241_5]; refine ⟨⟨hc.t70, by simp [wd_i, wd_r, wd_l, wd_0]⟩, ?_⟩)
  refine m_236 hc g20 pm.2.2 z (more := -1) (E := []) (Or.inl ⟨rfl, rfl⟩) (fun h1 u1 => ?_)
  rw [List.append_nil] at u1
  have g1 : GN h0 h1 := u1.2.1.gn
  have ev1 : vm h1 = u := g1.gy.vm.trans ev
  simp (disch := first | assumption | omega) only [e_241_6, e_241_7, onI_s, onR_s, onL_s, gl_0, gl_n, gl_1, gl_2, gl_3, gl_4, gl_5, gl_6, gl_7, gl_8, gl_9, gl_10, gl_11, gl_12, gl_13, gl_14, gl_15, gl_16, gl_17, sk0i, sk0r, sk0n, sk1i, sk1r, sk1n, sk_2, sk_3, sk_4, sk_5, sk_6, sk_7, sk_8, sk_9, sk_10, sk_11, sk_12, sk_13, sk_14, sk_15, sk_16, sk_17, ls_0, ls_1, ls_2, ls_3, ls_4, ls_5, ls_6, ls_7, ls_8, ls_9, ls_10, ls_11, ls_12, ls_13, ls_14, ls_15, ls_16, ls_17, ct1_i, ct1_r, wd8_0, wd8_i1, wd8_r1, wd8_i2, wd8_r2, wd8_i3, wd8_r3, wd8_i4, wd8_r4, wd8_i5, wd8_r5, wd8_i6, wd8_r6, wd8_i7, wd8_r7, wd8_i8, wd8_r8, wd8_l2, wd8_l3, wd8_l4, wd8_l5, wd8_l6, wd8_l7, wd8_l8, tl_s, tl_n, inR_t, bd_t, true_and, and_true, true_or, or_true, if_true_x, if_false_x, if_pos, if_neg, Int.toNat_natCast, natL, bI_0, bI_1, bI_ft, eq_self, b_tf, b_ft, not_true_eq_false, not_false_eq_true]
  (rw [e_241_8]; refine ⟨⟨hc.t70, by simp [wd_i, wd_r, wd_l, wd_0]⟩, ?_⟩)
  refine m_235 hc ev1 w u1.1 u1.2.2.1 u1.2.2.2 (by omega) s20 k256 (by rw [g1.1 81 (by omega) (by omega)]; exact y3) (by rw [g1.1 82 (by omega) (by omega)]; exact y4) an (fun h2 z2 g2 tr => ?_)
  have g02 : GN h0 h2 := g1.tr g2.gn
  have ev2 : vm h2 = u := g02.gy.vm.trans ev
  have trv : TM h2 v x.2.2.1 x.2.2.2 fRp (smK go k) 0 := fun j h1 h2 s hs => by
    rw [tr j h1 h2 s hs]
    exact tb_cg (sj 12 (by decide) (by decide)) (sj 15 (by decide) (by decide)) _ _
  have ff := tb_fit (F := fRp) wv an (by decide) (smK go k) 0 (by omega) (by omega)
  simp (disch := first | assumption | omega) only [e_241_9, e_241_10, e_241_11, e_241_12, e_241_13, onI_s, onR_s, onL_s, gl_0, gl_n, gl_1, gl_2, gl_3, gl_4, gl_5, gl_6, gl_7, gl_8, gl_9, gl_10, gl_11, gl_12, gl_13, gl_14, gl_15, gl_16, gl_17, sk0i, sk0r, sk0n, sk1i, sk1r, sk1n, sk_2, sk_3, sk_4, sk_5, sk_6, sk_7, sk_8, sk_9, sk_10, sk_11, sk_12, sk_13, sk_14, sk_15, sk_16, sk_17, ls_0, ls_1, ls_2, ls_3, ls_4, ls_5, ls_6, ls_7, ls_8, ls_9, ls_10, ls_11, ls_12, ls_13, ls_14, ls_15, ls_16, ls_17, ct1_i, ct1_r, wd8_0, wd8_i1, wd8_r1, wd8_i2, wd8_r2, wd8_i3, wd8_r3, wd8_i4, wd8_r4, wd8_i5, wd8_r5, wd8_i6, wd8_r6, wd8_i7, wd8_r7, wd8_i8, wd8_r8, wd8_l2, wd8_l3, wd8_l4, wd8_l5, wd8_l6, wd8_l7, wd8_l8, tl_s, tl_n, inR_t, bd_t, true_and, and_true, true_or, or_true, if_true_x, if_false_x, if_pos, if_neg, Int.toNat_natCast, natL, bI_0, bI_1, bI_ft, eq_self, b_tf, b_ft, not_true_eq_false, not_false_eq_true]
  exact l_241 hc wv k256 r8 (by rw [g02.1 79 (by omega) (by omega)]; exact y1) (by rw [g02.1 81 (by omega) (by omega)]; exact y3) (by rw [g02.1 82 (by omega) (by omega)]; exact y4) an (by omega) s20 (fun c hc => gN _ (smK_mem hc)) (by rw [g2.2]; exact u1.2.2.1) (by rw [g2.1 86 (by omega)]; exact u1.2.2.2) trv (smK go k) 0 0 u h2 _ _ (by simp) (by omega) (by omega) (by omega) ⟨z2, M73.refl, ev2, by rw [g02.1 73 (by omega) (by omega)]; exact rb⟩ sj w (fun h3 vs sj3 w3 => hq h2 h3 g02 vs sj3 w3)
end PKT
