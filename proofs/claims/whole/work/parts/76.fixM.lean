section FXM
variable {X : xL} {Q : Option xV → xH → Prop} {ns nb ln : Nat}
theorem ctR_rg {v : Nat → Nat → Int} {c : Nat} {r k : Int} (w : RGv v) : ctR v c r k = -1 ∨ (0 ≤ ctR v c r k ∧ ctR v c r k < 20 ∧ ctR v c r k < v 11 0) := by
  have nC := w.nC
  unfold ctR
  rcases lst_spec (p := ctB v r k c 0) (v 11 0).toNat 0 (-1) with ⟨e1, e2⟩ | ⟨d, d1, d2, d3, d4, d5⟩
  · exact Or.inl e1
  · right
    rw [d4]
    omega
set_option maxHeartbeats 4000000 in
theorem l_193 (hc : CT X ns nb ln) {c w : Nat} {r s : Int} (hcc : c < 20) (hw6 : w ≤ 6) (s0 : 0 ≤ s) (s1 : s ≤ 100) : ∀ (m k : Nat) (a : Int) (h : xH) (x6 : Option xV), Ok X h → RGv (vm h) → vm h 12 c = w → k + m = w → 0 ≤ a → a ≤ k → (∀ h2 a2 x7, Fm X h h2 → (vm h2, a2) = rfS c r s m k (vm h, a) → Ev X 193 65 [some (vr 70), some (vi c), some (vi r), some (vi s), some (vi a2), some (vi (s + w)), x7] [] h2 Q) → Ev X 193 42 [some (vr 70), some (vi c), some (vi r), some (vi s), some (vi a), some (vi (s + k)), x6] [] h Q := by
  intro m
  induction m with
  | zero =>
    intro k a h x6 ok rg hs hm a0 a1 hq
    rw [e_193_42]
    simp (disch := first | assumption | omega) only [e_193_43, e_193_44, e_193_45, e_193_46, e_193_47, e_193_48, onI_s, onR_s, onL_s, gl_0, gl_n, gl_1, gl_2, gl_3, gl_4, gl_5, gl_6, gl_7, gl_8, gl_9, gl_10, gl_11, gl_12, gl_13, gl_14, gl_15, gl_16, gl_17, sk0i, sk0r, sk0n, sk1i, sk1r, sk1n, sk_2, sk_3, sk_4, sk_5, sk_6, sk_7, sk_8, sk_9, sk_10, sk_11, sk_12, sk_13, sk_14, sk_15, sk_16, sk_17, ls_0, ls_1, ls_2, ls_3, ls_4, ls_5, ls_6, ls_7, ls_8, ls_9, ls_10, ls_11, ls_12, ls_13, ls_14, ls_15, ls_16, ls_17, ct1_i, ct1_r, wd8_0, wd8_i1, wd8_r1, wd8_i2, wd8_r2, wd8_i3, wd8_r3, wd8_i4, wd8_r4, wd8_i5, wd8_r5, wd8_i6, wd8_r6, wd8_i7, wd8_r7, wd8_i8, wd8_r8, wd8_l2, wd8_l3, wd8_l4, wd8_l5, wd8_l6, wd8_l7, wd8_l8, tl_s, tl_n, inR_t, bd_t, true_and, and_true, true_or, or_true, if_true_x, if_false_x, if_pos, if_neg, Int.toNat_natCast, natL, bI_0, bI_1, bI_ft, eq_self, b_tf, b_ft, not_true_eq_false, not_false_eq_true, m_160 hc, hs, hc.t70, hc.r70_4, hc.r70_5, hc.r70_6, hc.r70_7, hc.r70_8, hc.r70_10, hc.r70_11, hc.r70_12, hc.r70_14, hc.r70_15, hc.r70_16, hc.r70_17, hc.r70_19, hc.r70_21, hc.r70_23, hc.r70_24, hc.r70_26, hc.r70_27, hc.r70_28, hc.r70_29, hc.r70_30, hc.r70_31, hc.r70_32, hc.r70_33, hc.r70_36]
    rw [show k = w by omega]
    exact hq h a x6 (Fm.refl ok) rfl
  | succ m ih =>
    intro k a h x6 ok rg hs hm a0 a1 hq
    rw [e_193_42]
    rw [rfS] at hq
    have m175 : ∀ {Q2 : Option xV → xH → Prop}, Cl X 175 [vr 70, vi r, vi (s + (k : Int)), vi (c : Int), vi 0] h Q2 ↔ Q2 (some (vi (ctR (vm h) c r (s + k)))) h := m_175 hc rg
    rcases ctR_rg (c := c) (r := r) (k := s + k) rg with e | e
    · rw [e] at m175
      rw [if_pos e] at hq
      simp (disch := first | assumption | omega) only [e_193_43, e_193_44, e_193_45, e_193_46, e_193_47, e_193_48, e_193_49, e_193_50, e_193_51, e_193_52, e_193_53, e_193_54, e_193_55, e_193_56, e_193_57, e_193_58, e_193_63, e_193_64, onI_s, onR_s, onL_s, gl_0, gl_n, gl_1, gl_2, gl_3, gl_4, gl_5, gl_6, gl_7, gl_8, gl_9, gl_10, gl_11, gl_12, gl_13, gl_14, gl_15, gl_16, gl_17, sk0i, sk0r, sk0n, sk1i, sk1r, sk1n, sk_2, sk_3, sk_4, sk_5, sk_6, sk_7, sk_8, sk_9, sk_10, sk_11, sk_12, sk_13, sk_14, sk_15, sk_16, sk_17, ls_0, ls_1, ls_2, ls_3, ls_4, ls_5, ls_6, ls_7, ls_8, ls_9, ls_10, ls_11, ls_12, ls_13, ls_14, ls_15, ls_16, ls_17, ct1_i, ct1_r, wd8_0, wd8_i1, wd8_r1, wd8_i2, wd8_r2, wd8_i3, wd8_r3, wd8_i4, wd8_r4, wd8_i5, wd8_r5, wd8_i6, wd8_r6, wd8_i7, wd8_r7, wd8_i8, wd8_r8, wd8_l2, wd8_l3, wd8_l4, wd8_l5, wd8_l6, wd8_l7, wd8_l8, tl_s, tl_n, inR_t, bd_t, true_and, and_true, true_or, or_true, if_true_x, if_false_x, if_pos, if_neg, Int.toNat_natCast, natL, bI_0, bI_1, bI_ft, eq_self, b_tf, b_ft, not_true_eq_false, not_false_eq_true, m_160 hc, m175, hs, add_c, hc.t70, hc.r70_4, hc.r70_5, hc.r70_6, hc.r70_7, hc.r70_8, hc.r70_10, hc.r70_11, hc.r70_12, hc.r70_14, hc.r70_15, hc.r70_16, hc.r70_17, hc.r70_19, hc.r70_21, hc.r70_23, hc.r70_24, hc.r70_26, hc.r70_27, hc.r70_28, hc.r70_29, hc.r70_30, hc.r70_31, hc.r70_32, hc.r70_33, hc.r70_36]
      exact ih (k + 1) a h _ ok rg hs (by omega) a0 (by omega) hq
    · have e1 : ¬ ctR (vm h) c r (s + k) = -1 := by omega
      rw [if_neg e1] at hq
      generalize hd : ctR (vm h) c r (s + k) = d at *
      obtain ⟨dn, rfl⟩ : ∃ dn : Nat, d = dn := ⟨d.toNat, by omega⟩
      rw [Int.toNat_natCast] at hq
      simp (disch := first | assumption | omega) only [e_193_43, e_193_44, e_193_45, e_193_46, e_193_47, e_193_48, e_193_49, e_193_50, e_193_51, e_193_52, e_193_53, e_193_54, e_193_55, e_193_56, e_193_57, e_193_58, e_193_59, e_193_60, e_193_61, e_193_62, e_193_63, e_193_64, onI_s, onR_s, onL_s, gl_0, gl_n, gl_1, gl_2, gl_3, gl_4, gl_5, gl_6, gl_7, gl_8, gl_9, gl_10, gl_11, gl_12, gl_13, gl_14, gl_15, gl_16, gl_17, sk0i, sk0r, sk0n, sk1i, sk1r, sk1n, sk_2, sk_3, sk_4, sk_5, sk_6, sk_7, sk_8, sk_9, sk_10, sk_11, sk_12, sk_13, sk_14, sk_15, sk_16, sk_17, ls_0, ls_1, ls_2, ls_3, ls_4, ls_5, ls_6, ls_7, ls_8, ls_9, ls_10, ls_11, ls_12, ls_13, ls_14, ls_15, ls_16, ls_17, ct1_i, ct1_r, wd8_0, wd8_i1, wd8_r1, wd8_i2, wd8_r2, wd8_i3, wd8_r3, wd8_i4, wd8_r4, wd8_i5, wd8_r5, wd8_i6, wd8_r6, wd8_i7, wd8_r7, wd8_i8, wd8_r8, wd8_l2, wd8_l3, wd8_l4, wd8_l5, wd8_l6, wd8_l7, wd8_l8, tl_s, tl_n, inR_t, bd_t, true_and, and_true, true_or, or_true, if_true_x, if_false_x, if_pos, if_neg, Int.toNat_natCast, natL, bI_0, bI_1, bI_ft, eq_self, b_tf, b_ft, not_true_eq_false, not_false_eq_true, m_160 hc, m175, m_165 hc, hs, add_c, hc.t70, hc.r70_4, hc.r70_5, hc.r70_6, hc.r70_7, hc.r70_8, hc.r70_10, hc.r70_11, hc.r70_12, hc.r70_14, hc.r70_15, hc.r70_16, hc.r70_17, hc.r70_19, hc.r70_21, hc.r70_23, hc.r70_24, hc.r70_26, hc.r70_27, hc.r70_28, hc.r70_29, hc.r70_30, hc.r70_31, hc.r70_32, hc.r70_33, hc.r70_36]
      have f := Fm.I73 (X := X) (h := h) (x := -1) (j := (36 + 7 * (dn : Int) + 6).toNat) (Fm.I73 (x := -1) (j := (36 + 7 * (dn : Int) + 5).toNat) (I := h.1) (F := h.2) (Fm.refl ok) (by omega) (by rw [hc.z73]; omega)) (by omega) (by rw [hc.z73]; omega)
      have ee : vm (up2 (up2 h.1 73 (36 + 7 * (dn : Int) + 5).toNat (-1)) 73 (36 + 7 * (dn : Int) + 6).toNat (-1), h.2) = lsV (vm h) dn := by
        rw [vm_uc (j := 18) (c := dn) (by omega) (by omega) (by omega), vm_uc (j := 17) (c := dn) (by omega) (by omega) (by omega)]
        rfl
      refine ih (k + 1) (a + 1) _ _ (f.ok ok) ?_ ?_ (by omega) (by omega) (by omega) (fun h2 a2 x7 q1 q2 => ?_)
      · rw [ee]; exact lsV_rg rg dn
      · rw [ee, lsV_e (by omega) (by omega)]; exact hs
      · rw [ee] at q2
        exact hq h2 a2 x7 (f.tr q1) q2
set_option maxHeartbeats 4000000 in
theorem q_193 {h : xH} {c r st : Int} (ok : Ok X h) (rf : RFb (h.1 71)) (g : Gd (vm h)) (hq : ∀ h2, Mst X h h2 → mS h2 = (spFix (mS h) c r st).2 → Q (some (vi (spFix (mS h) c r st).1)) h2) : Ev X 193 3 [some (vr 70), some (vi c), some (vi r), some (vi st), none, none, none] [] h Q := by
  have ok0 := ok
  obtain ⟨z, os, oc, om, ⟨nb, ln, hc, hnb⟩, lp⟩ := ok
  have hw := g.rg
  have hb : RBm h := om.2.1
  have w3 := hw.nC
  have ws := hw.sites
  have wr := hw.rows
  have w5 := hw.fix c.toNat
  unfold spFix at hq
  rw [show (mS h).1 = vm h from rfl] at hq
  by_cases g1 : 0 ≤ r ∧ r < vm h 0 0 ∧ 0 ≤ st ∧ st < vm h 0 1
  · rw [if_neg (not_not_intro g1)] at hq
    have d1 : (decide (0 ≤ r) && decide (r < vm h 0 0) && decide (0 ≤ st) && decide (st < vm h 0 1)) = true := by simp [g1]
    by_cases g2 : 0 ≤ c ∧ c < vm h 11 0
    · rw [if_neg (not_not_intro g2)] at hq
      have d := bT (show 0 ≤ c ∧ c ≤ vm h 11 0 - 1 by omega)
      obtain ⟨cn, rfl⟩ : ∃ cn : Nat, c = cn := ⟨c.toNat, by omega⟩
      have hcn : cn < 20 := by omega
      rw [Int.toNat_natCast] at hq w5
      by_cases g3 : ¬ vm h 14 cn = 0 ∨ (gfB (vm h) cn r st && !anyB (afB (vm h) r r st (st + vm h 12 cn - 1)) (vm h 11 0).toNat) = false
      · rw [if_pos g3] at hq
        by_cases g4 : vm h 14 cn = 0
        · have g5 := g3.resolve_left (fun q => q g4)
          have d4 : decide (vm h 14 cn = 1) = false := by simp [g4]
          rw [← lwM_1 g.geo hw (c := cn) (by omega) g4] at g5
          simp (disch := first | assumption | omega) only [e_193_3, e_193_4, e_193_5, e_193_6, e_193_7, e_193_12, e_193_13, e_193_14, e_193_15, e_193_20, e_193_21, e_193_22, e_193_23, e_193_24, e_193_25, e_193_26, e_193_27, e_193_28, e_193_29, e_193_30, e_193_31, e_193_32, e_193_33, e_193_34, onI_s, onR_s, onL_s, gl_0, gl_n, gl_1, gl_2, gl_3, gl_4, gl_5, gl_6, gl_7, gl_8, gl_9, gl_10, gl_11, gl_12, gl_13, gl_14, gl_15, gl_16, gl_17, sk0i, sk0r, sk0n, sk1i, sk1r, sk1n, sk_2, sk_3, sk_4, sk_5, sk_6, sk_7, sk_8, sk_9, sk_10, sk_11, sk_12, sk_13, sk_14, sk_15, sk_16, sk_17, ls_0, ls_1, ls_2, ls_3, ls_4, ls_5, ls_6, ls_7, ls_8, ls_9, ls_10, ls_11, ls_12, ls_13, ls_14, ls_15, ls_16, ls_17, ct1_i, ct1_r, wd8_0, wd8_i1, wd8_r1, wd8_i2, wd8_r2, wd8_i3, wd8_r3, wd8_i4, wd8_r4, wd8_i5, wd8_r5, wd8_i6, wd8_r6, wd8_i7, wd8_r7, wd8_i8, wd8_r8, wd8_l2, wd8_l3, wd8_l4, wd8_l5, wd8_l6, wd8_l7, wd8_l8, tl_s, tl_n, inR_t, bd_t, true_and, and_true, true_or, or_true, if_true_x, if_false_x, if_pos, if_neg, Int.toNat_natCast, natL, bI_0, bI_1, bI_ft, eq_self, b_tf, b_ft, not_true_eq_false, not_false_eq_true, m_170 hc hw, m_167 hc hw, m_162 hc, m_176 hc hw hb, d1, d, d4, g5, rfM ok0 rf, hc.t70, hc.r70_4, hc.r70_5, hc.r70_6, hc.r70_7, hc.r70_8, hc.r70_10, hc.r70_11, hc.r70_12, hc.r70_14, hc.r70_15, hc.r70_16, hc.r70_17, hc.r70_19, hc.r70_21, hc.r70_23, hc.r70_24, hc.r70_26, hc.r70_27, hc.r70_28, hc.r70_29, hc.r70_30, hc.r70_31, hc.r70_32, hc.r70_33, hc.r70_36]
          exact hq _ (rM_st ok0 rf (by omega) (by omega)).1 (rM_st ok0 rf (by omega) (by omega)).2
        · have d4 : decide (vm h 14 cn = 1) = true := by
            have : vm h 14 cn = 1 := by omega
            simp [this]
          simp (disch := first | assumption | omega) only [e_193_3, e_193_4, e_193_5, e_193_6, e_193_7, e_193_12, e_193_13, e_193_14, e_193_15, e_193_20, e_193_21, e_193_22, e_193_23, e_193_31, e_193_32, e_193_33, e_193_34, onI_s, onR_s, onL_s, gl_0, gl_n, gl_1, gl_2, gl_3, gl_4, gl_5, gl_6, gl_7, gl_8, gl_9, gl_10, gl_11, gl_12, gl_13, gl_14, gl_15, gl_16, gl_17, sk0i, sk0r, sk0n, sk1i, sk1r, sk1n, sk_2, sk_3, sk_4, sk_5, sk_6, sk_7, sk_8, sk_9, sk_10, sk_11, sk_12, sk_13, sk_14, sk_15, sk_16, sk_17, ls_0, ls_1, ls_2, ls_3, ls_4, ls_5, ls_6, ls_7, ls_8, ls_9, ls_10, ls_11, ls_12, ls_13, ls_14, ls_15, ls_16, ls_17, ct1_i, ct1_r, wd8_0, wd8_i1, wd8_r1, wd8_i2, wd8_r2, wd8_i3, wd8_r3, wd8_i4, wd8_r4, wd8_i5, wd8_r5, wd8_i6, wd8_r6, wd8_i7, wd8_r7, wd8_i8, wd8_r8, wd8_l2, wd8_l3, wd8_l4, wd8_l5, wd8_l6, wd8_l7, wd8_l8, tl_s, tl_n, inR_t, bd_t, true_and, and_true, true_or, or_true, if_true_x, if_false_x, if_pos, if_neg, Int.toNat_natCast, natL, bI_0, bI_1, bI_ft, eq_self, b_tf, b_ft, not_true_eq_false, not_false_eq_true, m_170 hc hw, m_167 hc hw, m_162 hc, d1, d, d4, rfM ok0 rf, hc.t70, hc.r70_4, hc.r70_5, hc.r70_6, hc.r70_7, hc.r70_8, hc.r70_10, hc.r70_11, hc.r70_12, hc.r70_14, hc.r70_15, hc.r70_16, hc.r70_17, hc.r70_19, hc.r70_21, hc.r70_23, hc.r70_24, hc.r70_26, hc.r70_27, hc.r70_28, hc.r70_29, hc.r70_30, hc.r70_31, hc.r70_32, hc.r70_33, hc.r70_36]
          exact hq _ (rM_st ok0 rf (by omega) (by omega)).1 (rM_st ok0 rf (by omega) (by omega)).2
      · rw [if_neg g3] at hq
        have g4 : vm h 14 cn = 0 := by
          by_cases q : vm h 14 cn = 0
          · exact q
          · exact absurd (Or.inl q) g3
        have g5 := (Bool.eq_false_or_eq_true _).resolve_right (fun q => g3 (Or.inr q))
        have d4 : decide (vm h 14 cn = 1) = false := by simp [g4]
        have g6 := g5
        rw [← lwM_1 g.geo hw (c := cn) (by omega) g4] at g6
        rw [Bool.and_eq_true, Bool.not_eq_true'] at g5
        have wc := hw.wid cn
        obtain ⟨wn, hwn⟩ : ∃ wn : Nat, vm h 12 cn = wn := ⟨(vm h 12 cn).toNat, by omega⟩
        simp (disch := first | assumption | omega) only [e_193_3, e_193_4, e_193_5, e_193_6, e_193_7, e_193_12, e_193_13, e_193_14, e_193_15, e_193_20, e_193_21, e_193_22, e_193_23, e_193_24, e_193_25, e_193_26, e_193_27, e_193_28, e_193_29, e_193_30, e_193_35, e_193_36, onI_s, onR_s, onL_s, gl_0, gl_n, gl_1, gl_2, gl_3, gl_4, gl_5, gl_6, gl_7, gl_8, gl_9, gl_10, gl_11, gl_12, gl_13, gl_14, gl_15, gl_16, gl_17, sk0i, sk0r, sk0n, sk1i, sk1r, sk1n, sk_2, sk_3, sk_4, sk_5, sk_6, sk_7, sk_8, sk_9, sk_10, sk_11, sk_12, sk_13, sk_14, sk_15, sk_16, sk_17, ls_0, ls_1, ls_2, ls_3, ls_4, ls_5, ls_6, ls_7, ls_8, ls_9, ls_10, ls_11, ls_12, ls_13, ls_14, ls_15, ls_16, ls_17, ct1_i, ct1_r, wd8_0, wd8_i1, wd8_r1, wd8_i2, wd8_r2, wd8_i3, wd8_r3, wd8_i4, wd8_r4, wd8_i5, wd8_r5, wd8_i6, wd8_r6, wd8_i7, wd8_r7, wd8_i8, wd8_r8, wd8_l2, wd8_l3, wd8_l4, wd8_l5, wd8_l6, wd8_l7, wd8_l8, tl_s, tl_n, inR_t, bd_t, true_and, and_true, true_or, or_true, if_true_x, if_false_x, if_pos, if_neg, Int.toNat_natCast, natL, bI_0, bI_1, bI_ft, eq_self, b_tf, b_ft, not_true_eq_false, not_false_eq_true, m_170 hc hw, m_167 hc hw, m_162 hc, m_176 hc hw hb, d1, d, d4, g6, hc.t70, hc.r70_4, hc.r70_5, hc.r70_6, hc.r70_7, hc.r70_8, hc.r70_10, hc.r70_11, hc.r70_12, hc.r70_14, hc.r70_15, hc.r70_16, hc.r70_17, hc.r70_19, hc.r70_21, hc.r70_23, hc.r70_24, hc.r70_26, hc.r70_27, hc.r70_28, hc.r70_29, hc.r70_30, hc.r70_31, hc.r70_32, hc.r70_33, hc.r70_36]
        (rw [e_193_37]; refine ⟨⟨hc.t70, by decide⟩, ?_⟩)
        refine kpM ok0 (fun h2 k => ?_)
        simp (disch := first | assumption | omega) only [e_193_38, e_193_39, e_193_40, e_193_41, onI_s, onR_s, onL_s, gl_0, gl_n, gl_1, gl_2, gl_3, gl_4, gl_5, gl_6, gl_7, gl_8, gl_9, gl_10, gl_11, gl_12, gl_13, gl_14, gl_15, gl_16, gl_17, sk0i, sk0r, sk0n, sk1i, sk1r, sk1n, sk_2, sk_3, sk_4, sk_5, sk_6, sk_7, sk_8, sk_9, sk_10, sk_11, sk_12, sk_13, sk_14, sk_15, sk_16, sk_17, ls_0, ls_1, ls_2, ls_3, ls_4, ls_5, ls_6, ls_7, ls_8, ls_9, ls_10, ls_11, ls_12, ls_13, ls_14, ls_15, ls_16, ls_17, ct1_i, ct1_r, wd8_0, wd8_i1, wd8_r1, wd8_i2, wd8_r2, wd8_i3, wd8_r3, wd8_i4, wd8_r4, wd8_i5, wd8_r5, wd8_i6, wd8_r6, wd8_i7, wd8_r7, wd8_i8, wd8_r8, wd8_l2, wd8_l3, wd8_l4, wd8_l5, wd8_l6, wd8_l7, wd8_l8, tl_s, tl_n, inR_t, bd_t, true_and, and_true, true_or, or_true, if_true_x, if_false_x, if_pos, if_neg, Int.toNat_natCast, natL, bI_0, bI_1, bI_ft, eq_self, b_tf, b_ft, not_true_eq_false, not_false_eq_true]
        have key := l_193 (Q := Q) hc (c := cn) (w := wn) (r := r) (s := st) hcn (by omega) (by omega) (by omega) wn 0 0 h2 none k.1 (by rw [k.pv]; exact hw) (by rw [k.pv]; exact hwn) (by omega) (by omega) (by omega)
        rw [show st + ((0 : Nat) : Int) = st by omega] at key
        refine key (fun h3 a2 x7 f3 e3 => ?_)
        have fs := fix_same g.geo.g0 hw g.geo.ds (c := cn) (by omega) (r := r) (s := st) (by omega) (by omega) g5.2
        rw [k.pv] at e3
        rw [hwn, Int.toNat_natCast, ← e3] at fs
        have ev : vm h3 = clSp cn r st wn (vm h 11 0).toNat 0 (vm h) := congrArg Prod.fst fs
        have ea : a2 = cntB (clP (vm h) cn r st wn) (vm h 11 0).toNat 0 := congrArg Prod.snd fs
        have eb := cntB_bd (p := clP (vm h) cn r st wn) (vm h 11 0).toNat 0
        rw [← ea] at eb
        rw [e_193_65]
        simp (disch := first | assumption | omega) only [e_193_66, e_193_67, e_193_68, e_193_69, e_193_70, e_193_71, e_193_72, e_193_73, e_193_74, e_193_75, e_193_76, e_193_77, e_193_78, e_193_79, e_193_80, e_193_81, e_193_82, e_193_83, e_193_84, e_193_85, e_193_86, e_193_87, e_193_88, e_193_89, e_193_90, e_193_91, e_193_92, e_193_93, e_193_94, e_193_95, e_193_96, e_193_97, e_193_98, e_193_99, e_193_100, e_193_101, onI_s, onR_s, onL_s, gl_0, gl_n, gl_1, gl_2, gl_3, gl_4, gl_5, gl_6, gl_7, gl_8, gl_9, gl_10, gl_11, gl_12, gl_13, gl_14, gl_15, gl_16, gl_17, sk0i, sk0r, sk0n, sk1i, sk1r, sk1n, sk_2, sk_3, sk_4, sk_5, sk_6, sk_7, sk_8, sk_9, sk_10, sk_11, sk_12, sk_13, sk_14, sk_15, sk_16, sk_17, ls_0, ls_1, ls_2, ls_3, ls_4, ls_5, ls_6, ls_7, ls_8, ls_9, ls_10, ls_11, ls_12, ls_13, ls_14, ls_15, ls_16, ls_17, ct1_i, ct1_r, wd8_0, wd8_i1, wd8_r1, wd8_i2, wd8_r2, wd8_i3, wd8_r3, wd8_i4, wd8_r4, wd8_i5, wd8_r5, wd8_i6, wd8_r6, wd8_i7, wd8_r7, wd8_i8, wd8_r8, wd8_l2, wd8_l3, wd8_l4, wd8_l5, wd8_l6, wd8_l7, wd8_l8, tl_s, tl_n, inR_t, bd_t, true_and, and_true, true_or, or_true, if_true_x, if_false_x, if_pos, if_neg, Int.toNat_natCast, natL, bI_0, bI_1, bI_ft, eq_self, b_tf, b_ft, not_true_eq_false, not_false_eq_true, m_158, m_166 hc, m_153 hc, hc.t70, hc.r70_4, hc.r70_5, hc.r70_6, hc.r70_7, hc.r70_8, hc.r70_10, hc.r70_11, hc.r70_12, hc.r70_14, hc.r70_15, hc.r70_16, hc.r70_17, hc.r70_19, hc.r70_21, hc.r70_23, hc.r70_24, hc.r70_26, hc.r70_27, hc.r70_28, hc.r70_29, hc.r70_30, hc.r70_31, hc.r70_32, hc.r70_33, hc.r70_36, hc.t73, hc.z73]
        have f4 := Fm.I73 (x := r) (j := (36 + 7 * (cn : Int) + 5).toNat) (I := h3.1) (F := h3.2) f3 (by omega) (by rw [hc.z73]; omega)
        have f5 := Fm.I73 (x := st) (j := (36 + 7 * (cn : Int) + 6).toNat) f4 (by omega) (by rw [hc.z73]; omega)
        have f6 := Fm.I73 (x := 1) (j := (36 + 7 * (cn : Int) + 2).toNat) f5 (by omega) (by rw [hc.z73]; omega)
        have f7 := Fm.I73 (x := 16 * st) (j := (36 + 7 * (cn : Int) + 3).toNat) f6 (by omega) (by rw [hc.z73]; omega)
        have f8 := Fm.I73 (x := 16 * r) (j := (36 + 7 * (cn : Int) + 4).toNat) f7 (by omega) (by rw [hc.z73]; omega)
        have e : vm (up2 (up2 (up2 (up2 (up2 h3.1 73 (36 + 7 * (cn : Int) + 5).toNat r) 73 (36 + 7 * (cn : Int) + 6).toNat st) 73 (36 + 7 * (cn : Int) + 2).toNat 1) 73 (36 + 7 * (cn : Int) + 3).toNat (16 * st)) 73 (36 + 7 * (cn : Int) + 4).toNat (16 * r), h3.2) = fxV (vm h) cn r st := by
          rw [vm_uc (j := 16) (c := cn) (by omega) (by omega) (by omega), vm_uc (j := 15) (c := cn) (by omega) (by omega) (by omega), vm_uc (j := 14) (c := cn) (by omega) (by omega) (by omega), vm_uc (j := 18) (c := cn) (by omega) (by omega) (by omega), vm_uc (j := 17) (c := cn) (by omega) (by omega) (by omega)]
          unfold fxV fxQ
          rw [hwn, ← ev]
        rw [hwn, ← ea] at hq
        exact hq _ (act_m (r := 0) k f8 e).1 (act_m (r := 0) k f8 e).2
    · rw [if_pos g2] at hq
      have d := bF (show ¬ (0 ≤ c ∧ c ≤ vm h 11 0 - 1) by omega)
      simp (disch := first | assumption | omega) only [e_193_3, e_193_4, e_193_5, e_193_6, e_193_7, e_193_12, e_193_13, e_193_14, e_193_15, e_193_16, e_193_17, e_193_18, e_193_19, onI_s, onR_s, onL_s, gl_0, gl_n, gl_1, gl_2, gl_3, gl_4, gl_5, gl_6, gl_7, gl_8, gl_9, gl_10, gl_11, gl_12, gl_13, gl_14, gl_15, gl_16, gl_17, sk0i, sk0r, sk0n, sk1i, sk1r, sk1n, sk_2, sk_3, sk_4, sk_5, sk_6, sk_7, sk_8, sk_9, sk_10, sk_11, sk_12, sk_13, sk_14, sk_15, sk_16, sk_17, ls_0, ls_1, ls_2, ls_3, ls_4, ls_5, ls_6, ls_7, ls_8, ls_9, ls_10, ls_11, ls_12, ls_13, ls_14, ls_15, ls_16, ls_17, ct1_i, ct1_r, wd8_0, wd8_i1, wd8_r1, wd8_i2, wd8_r2, wd8_i3, wd8_r3, wd8_i4, wd8_r4, wd8_i5, wd8_r5, wd8_i6, wd8_r6, wd8_i7, wd8_r7, wd8_i8, wd8_r8, wd8_l2, wd8_l3, wd8_l4, wd8_l5, wd8_l6, wd8_l7, wd8_l8, tl_s, tl_n, inR_t, bd_t, true_and, and_true, true_or, or_true, if_true_x, if_false_x, if_pos, if_neg, Int.toNat_natCast, natL, bI_0, bI_1, bI_ft, eq_self, b_tf, b_ft, not_true_eq_false, not_false_eq_true, m_170 hc hw, m_167 hc hw, d1, d, rfM ok0 rf, hc.t70, hc.r70_4, hc.r70_5, hc.r70_6, hc.r70_7, hc.r70_8, hc.r70_10, hc.r70_11, hc.r70_12, hc.r70_14, hc.r70_15, hc.r70_16, hc.r70_17, hc.r70_19, hc.r70_21, hc.r70_23, hc.r70_24, hc.r70_26, hc.r70_27, hc.r70_28, hc.r70_29, hc.r70_30, hc.r70_31, hc.r70_32, hc.r70_33, hc.r70_36]
      exact hq _ (rM_st ok0 rf (by omega) (by omega)).1 (rM_st ok0 rf (by omega) (by omega)).2
  · rw [if_pos g1] at hq
    have d1 : (decide (0 ≤ r) && decide (r < vm h 0 0) && decide (0 ≤ st) && decide (st < vm h 0 1)) = false := by
      rw [Bool.eq_false_iff]
      intro q
      simp only [Bool.and_eq_true, decide_eq_true_eq] at q
      omega
    simp (disch := first | assumption | omega) only [e_193_3, e_193_4, e_193_5, e_193_6, e_193_7, e_193_8, e_193_9, e_193_10, e_193_11, onI_s, onR_s, onL_s, gl_0, gl_n, gl_1, gl_2, gl_3, gl_4, gl_5, gl_6, gl_7, gl_8, gl_9, gl_10, gl_11, gl_12, gl_13, gl_14, gl_15, gl_16, gl_17, sk0i, sk0r, sk0n, sk1i, sk1r, sk1n, sk_2, sk_3, sk_4, sk_5, sk_6, sk_7, sk_8, sk_9, sk_10, sk_11, sk_12, sk_13, sk_14, sk_15, sk_16, sk_17, ls_0, ls_1, ls_2, ls_3, ls_4, ls_5, ls_6, ls_7, ls_8, ls_9, ls_10, ls_11, ls_12, ls_13, ls_14, ls_15, ls_16, ls_17, ct1_i, ct1_r, wd8_0, wd8_i1, wd8_r1, wd8_i2, wd8_r2, wd8_i3, wd8_r3, wd8_i4, wd8_r4, wd8_i5, wd8_r5, wd8_i6, wd8_r6, wd8_i7, wd8_r7, wd8_i8, wd8_r8, wd8_l2, wd8_l3, wd8_l4, wd8_l5, wd8_l6, wd8_l7, wd8_l8, tl_s, tl_n, inR_t, bd_t, true_and, and_true, true_or, or_true, if_true_x, if_false_x, if_pos, if_neg, Int.toNat_natCast, natL, bI_0, bI_1, bI_ft, eq_self, b_tf, b_ft, not_true_eq_false, not_false_eq_true, m_170 hc hw, d1, rfM ok0 rf, hc.t70, hc.r70_4, hc.r70_5, hc.r70_6, hc.r70_7, hc.r70_8, hc.r70_10, hc.r70_11, hc.r70_12, hc.r70_14, hc.r70_15, hc.r70_16, hc.r70_17, hc.r70_19, hc.r70_21, hc.r70_23, hc.r70_24, hc.r70_26, hc.r70_27, hc.r70_28, hc.r70_29, hc.r70_30, hc.r70_31, hc.r70_32, hc.r70_33, hc.r70_36]
    exact hq _ (rM_st ok0 rf (by omega) (by omega)).1 (rM_st ok0 rf (by omega) (by omega)).2
theorem p_193 {h : xH} {c r st : Int} (ok : Ok X h) (rf : RFb (h.1 71)) (g : Gd (vm h)) (hq : ∀ h2, Mst X h h2 → mS h2 = (spFix (mS h) c r st).2 → Q (some (vi (spFix (mS h) c r st).1)) h2) : Cl X 193 [vr 70, vi c, vi r, vi st] h Q := by
  obtain ⟨nb, ln, hc, hnb⟩ := ok.2.2.2.2.1
  rw [c_193]
  simp (disch := first | assumption | omega) only [e_193_0, e_193_1, e_193_2, onI_s, onR_s, onL_s, gl_0, gl_n, gl_1, gl_2, gl_3, gl_4, gl_5, gl_6, gl_7, gl_8, gl_9, gl_10, gl_11, gl_12, gl_13, gl_14, gl_15, gl_16, gl_17, sk0i, sk0r, sk0n, sk1i, sk1r, sk1n, sk_2, sk_3, sk_4, sk_5, sk_6, sk_7, sk_8, sk_9, sk_10, sk_11, sk_12, sk_13, sk_14, sk_15, sk_16, sk_17, ls_0, ls_1, ls_2, ls_3, ls_4, ls_5, ls_6, ls_7, ls_8, ls_9, ls_10, ls_11, ls_12, ls_13, ls_14, ls_15, ls_16, ls_17, ct1_i, ct1_r, wd8_0, wd8_i1, wd8_r1, wd8_i2, wd8_r2, wd8_i3, wd8_r3, wd8_i4, wd8_r4, wd8_i5, wd8_r5, wd8_i6, wd8_r6, wd8_i7, wd8_r7, wd8_i8, wd8_r8, wd8_l2, wd8_l3, wd8_l4, wd8_l5, wd8_l6, wd8_l7, wd8_l8, tl_s, tl_n, inR_t, bd_t, true_and, and_true, true_or, or_true, if_true_x, if_false_x, if_pos, if_neg, Int.toNat_natCast, natL, bI_0, bI_1, bI_ft, eq_self, b_tf, b_ft, not_true_eq_false, not_false_eq_true, hc.t70]
  exact q_193 (thr_ok ok) rf (by rw [thr_v]; exact g) (thr (sp := fun s => spFix s c r st) ok hq)
end FXM
