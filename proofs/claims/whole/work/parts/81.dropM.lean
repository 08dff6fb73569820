section DRM
variable {X : xL} {ns nb ln : Nat} {Q : Option xV → xH → Prop} {I F : Nat → Nat → Int}
theorem rv_dp {R : Nat → Int} {ro si : Int} {n N : Nat} (hN : R 3 = N) (h16 : N ≤ 16) (hn : n < N) : rv (shf (up R 3 ((N : Int) - 1)) (176 + 14 * n) (176 + 14 * (N - 1)) 14) ro si = dpV (rv R ro si) n := by
  have e19 : rv R ro si 19 0 = N := hN
  funext j i
  unfold dpV
  rw [e19, Int.toNat_natCast]
  by_cases h1 : j = 20 ∨ j = 21
  · rw [if_pos h1]
    by_cases hi : i < 16
    · have e : ∀ (R : Nat → Int) (k : Nat), k < 16 → rv R ro si j k = R (176 + 14 * k + (j - 20)) := by
        intro R k hk
        unfold rv
        rw [if_neg (by omega), if_neg (by omega), if_neg (by omega), if_neg (by omega), if_neg (by omega), if_neg (by omega), if_neg (by omega), if_neg (by omega), if_neg (by omega), if_neg (by omega), if_neg (by omega), if_pos h1, if_pos hk]
      rw [e _ i hi]
      unfold shf
      by_cases h2 : n ≤ i ∧ i < N - 1
      · rw [if_pos (by omega), if_pos h2, e R (i + 1) (by omega)]
        unfold up
        rw [if_neg (by omega)]
        exact congrArg R (by omega)
      · rw [if_neg (by omega), if_neg h2, e R i hi]
        unfold up
        rw [if_neg (by omega)]
    · have e : ∀ (R : Nat → Int) (k : Nat), ¬ k < 16 → rv R ro si j k = 0 := by
        intro R k hk
        unfold rv
        rw [if_neg (by omega), if_neg (by omega), if_neg (by omega), if_neg (by omega), if_neg (by omega), if_neg (by omega), if_neg (by omega), if_neg (by omega), if_neg (by omega), if_neg (by omega), if_neg (by omega), if_pos h1, if_neg hk]
      rw [e _ i hi, shf_r (by omega), e R i hi]
  · rw [if_neg h1]
    by_cases h2 : j = 22 ∨ j = 23
    · rw [if_pos h2]
      by_cases hi : i < 96
      · have e : ∀ (R : Nat → Int) (k : Nat), k < 96 → rv R ro si j k = R (176 + 14 * (k / 6) + 2 + 2 * (k % 6) + (j - 22)) := by
          intro R k hk
          unfold rv
          rw [if_neg (by omega), if_neg (by omega), if_neg (by omega), if_neg (by omega), if_neg (by omega), if_neg (by omega), if_neg (by omega), if_neg (by omega), if_neg (by omega), if_neg (by omega), if_neg (by omega), if_neg (by omega), if_pos h2, if_pos hk]
        rw [e _ i hi]
        unfold shf
        by_cases h3 : n * 6 ≤ i ∧ i < (N - 1) * 6
        · rw [if_pos (by omega), if_pos h3, e R (i + 6) (by omega)]
          unfold up
          rw [if_neg (by omega)]
          exact congrArg R (by omega)
        · rw [if_neg (by omega), if_neg h3, e R i hi]
          unfold up
          rw [if_neg (by omega)]
      · have e : ∀ (R : Nat → Int) (k : Nat), ¬ k < 96 → rv R ro si j k = 0 := by
          intro R k hk
          unfold rv
          rw [if_neg (by omega), if_neg (by omega), if_neg (by omega), if_neg (by omega), if_neg (by omega), if_neg (by omega), if_neg (by omega), if_neg (by omega), if_neg (by omega), if_neg (by omega), if_neg (by omega), if_neg (by omega), if_pos h2, if_neg hk]
        rw [e _ i hi, shf_r (by omega), e R i hi]
    · rw [if_neg h2]
      by_cases h3 : j = 19 ∧ i = 0
      · rw [if_pos h3, h3.1, h3.2]
        show shf (up R 3 ((N : Int) - 1)) (176 + 14 * n) (176 + 14 * (N - 1)) 14 3 = _
        unfold shf up
        rw [if_neg (by omega), if_pos rfl]
      · rw [if_neg h3]
        have e : ∀ k, k < 176 → k ≠ 3 → shf (up R 3 ((N : Int) - 1)) (176 + 14 * n) (176 + 14 * (N - 1)) 14 k = R k := by
          intro k h5 h6
          unfold shf up
          rw [if_neg (by omega), if_neg h6]
        unfold rv
        repeat' (refine ifc (fun _ => ?_) (fun _ => ?_))
        all_goals first | rfl | (exfalso; omega) | (rw [e _ (by omega) (by omega)]; done) | (rw [e _ (by omega) (by omega), e _ (by omega) (by omega)]; done)
theorem shf_o {R : Nat → Int} {lo hi d k : Nat} (hk : k < lo) : shf R lo hi d k = R k := by
  unfold shf
  rw [if_neg (by omega)]
set_option maxHeartbeats 4000000 in
theorem l_191 (hc : CT X ns nb ln) {n N lo : Nat} {p : Int} (hN : I 73 3 = (N : Int)) (h16 : N ≤ 16) (hl : 176 ≤ lo) : ∀ (m k : Nat), lo ≤ k → k + m = 176 + 14 * N → N < 16 → (Ev X 191 33 [some (vr 70), some (vi n), some (vi p), some (vi k)] [] (up1 I 73 (shf (I 73) lo k 14), F) Q ↔ Ev X 191 52 [some (vr 70), some (vi n), some (vi p), some (vi (176 + 14 * N : Nat))] [] (up1 I 73 (shf (I 73) lo (176 + 14 * N) 14), F) Q) := by
  intro m
  induction m with
  | zero =>
    intro k hk hm h15
    have e3 : shf (I 73) lo k 14 3 = (N : Int) := by unfold shf; rw [if_neg (by omega)]; exact hN
    rw [e_191_33]
    simp (disch := first | assumption | omega) only [e_191_34, e_191_35, e_191_36, e_191_37, e_191_38, e_191_39, onI_s, onR_s, onL_s, gl_0, gl_n, gl_1, gl_2, gl_3, gl_4, gl_5, gl_6, gl_7, gl_8, gl_9, gl_10, gl_11, gl_12, gl_13, gl_14, gl_15, gl_16, gl_17, sk0i, sk0r, sk0n, sk1i, sk1r, sk1n, sk_2, sk_3, sk_4, sk_5, sk_6, sk_7, sk_8, sk_9, sk_10, sk_11, sk_12, sk_13, sk_14, sk_15, sk_16, sk_17, ls_0, ls_1, ls_2, ls_3, ls_4, ls_5, ls_6, ls_7, ls_8, ls_9, ls_10, ls_11, ls_12, ls_13, ls_14, ls_15, ls_16, ls_17, ct1_i, ct1_r, wd8_0, wd8_i1, wd8_r1, wd8_i2, wd8_r2, wd8_i3, wd8_r3, wd8_i4, wd8_r4, wd8_i5, wd8_r5, wd8_i6, wd8_r6, wd8_i7, wd8_r7, wd8_i8, wd8_r8, wd8_l2, wd8_l3, wd8_l4, wd8_l5, wd8_l6, wd8_l7, wd8_l8, tl_s, tl_n, inR_t, bd_t, true_and, and_true, true_or, or_true, if_true_x, if_false_x, if_pos, if_neg, Int.toNat_natCast, natL, bI_0, bI_1, bI_ft, eq_self, b_tf, b_ft, not_true_eq_false, not_false_eq_true, m_159, up1_self, tn_3, e3, hc.t70, hc.r70_4, hc.r70_5, hc.r70_6, hc.r70_7, hc.r70_8, hc.r70_10, hc.r70_11, hc.r70_12, hc.r70_14, hc.r70_15, hc.r70_16, hc.r70_17, hc.r70_19, hc.r70_21, hc.r70_23, hc.r70_24, hc.r70_26, hc.r70_27, hc.r70_28, hc.r70_29, hc.r70_30, hc.r70_31, hc.r70_32, hc.r70_33, hc.r70_36, hc.t73, hc.z73]
    rw [show k = 176 + 14 * N by omega]
  | succ m ih =>
    intro k hk hm h15
    have e3 : shf (I 73) lo k 14 3 = (N : Int) := by unfold shf; rw [if_neg (by omega)]; exact hN
    have t1 : ((k : Int) + 14).toNat = k + 14 := by omega
    have e4 : shf (I 73) lo k 14 (k + 14) = I 73 (k + 14) := shf_r (by omega)
    rw [e_191_33]
    simp (disch := first | assumption | omega) only [e_191_34, e_191_35, e_191_36, e_191_37, e_191_38, e_191_39, e_191_40, e_191_41, e_191_42, e_191_43, e_191_44, e_191_45, e_191_46, e_191_47, e_191_48, e_191_49, e_191_50, e_191_51, onI_s, onR_s, onL_s, gl_0, gl_n, gl_1, gl_2, gl_3, gl_4, gl_5, gl_6, gl_7, gl_8, gl_9, gl_10, gl_11, gl_12, gl_13, gl_14, gl_15, gl_16, gl_17, sk0i, sk0r, sk0n, sk1i, sk1r, sk1n, sk_2, sk_3, sk_4, sk_5, sk_6, sk_7, sk_8, sk_9, sk_10, sk_11, sk_12, sk_13, sk_14, sk_15, sk_16, sk_17, ls_0, ls_1, ls_2, ls_3, ls_4, ls_5, ls_6, ls_7, ls_8, ls_9, ls_10, ls_11, ls_12, ls_13, ls_14, ls_15, ls_16, ls_17, ct1_i, ct1_r, wd8_0, wd8_i1, wd8_r1, wd8_i2, wd8_r2, wd8_i3, wd8_r3, wd8_i4, wd8_r4, wd8_i5, wd8_r5, wd8_i6, wd8_r6, wd8_i7, wd8_r7, wd8_i8, wd8_r8, wd8_l2, wd8_l3, wd8_l4, wd8_l5, wd8_l6, wd8_l7, wd8_l8, tl_s, tl_n, inR_t, bd_t, true_and, and_true, true_or, or_true, if_true_x, if_false_x, if_pos, if_neg, Int.toNat_natCast, natL, bI_0, bI_1, bI_ft, eq_self, b_tf, b_ft, not_true_eq_false, not_false_eq_true, m_159, up1_self, tn_3, e3, t1, e4, cast_s, hc.t70, hc.r70_4, hc.r70_5, hc.r70_6, hc.r70_7, hc.r70_8, hc.r70_10, hc.r70_11, hc.r70_12, hc.r70_14, hc.r70_15, hc.r70_16, hc.r70_17, hc.r70_19, hc.r70_21, hc.r70_23, hc.r70_24, hc.r70_26, hc.r70_27, hc.r70_28, hc.r70_29, hc.r70_30, hc.r70_31, hc.r70_32, hc.r70_33, hc.r70_36, hc.t73, hc.z73]
    rw [u21 (g := shf (I 73) lo (k + 1) 14) (shf_s hk), ih (k + 1) (by omega) (by omega) h15]
set_option maxHeartbeats 4000000 in
theorem q_191 {h : xH} {n : Int} (ok : Ok X h) (rf : RFb (h.1 71)) (g : Gd (vm h)) (hq : ∀ h2, Mst X h h2 → mS h2 = (spDrop (mS h) n).2 → Q (some (vi (spDrop (mS h) n).1)) h2) : Ev X 191 3 [some (vr 70), some (vi n), none, none] [] h Q := by
  have ok0 := ok
  obtain ⟨z, os, oc, om, ⟨nb, ln, hc, hnb⟩, lp⟩ := ok
  have hw := g.rg
  have nN := hw.nN
  unfold spDrop at hq
  rw [show (mS h).1 = vm h from rfl] at hq
  by_cases g2 : 0 ≤ n ∧ n < vm h 19 0
  · rw [if_neg (not_not_intro g2)] at hq
    have d := bT (show 0 ≤ n ∧ n ≤ vm h 19 0 - 1 by omega)
    simp (disch := first | assumption | omega) only [e_191_3, e_191_4, e_191_5, e_191_6, e_191_11, e_191_12, onI_s, onR_s, onL_s, gl_0, gl_n, gl_1, gl_2, gl_3, gl_4, gl_5, gl_6, gl_7, gl_8, gl_9, gl_10, gl_11, gl_12, gl_13, gl_14, gl_15, gl_16, gl_17, sk0i, sk0r, sk0n, sk1i, sk1r, sk1n, sk_2, sk_3, sk_4, sk_5, sk_6, sk_7, sk_8, sk_9, sk_10, sk_11, sk_12, sk_13, sk_14, sk_15, sk_16, sk_17, ls_0, ls_1, ls_2, ls_3, ls_4, ls_5, ls_6, ls_7, ls_8, ls_9, ls_10, ls_11, ls_12, ls_13, ls_14, ls_15, ls_16, ls_17, ct1_i, ct1_r, wd8_0, wd8_i1, wd8_r1, wd8_i2, wd8_r2, wd8_i3, wd8_r3, wd8_i4, wd8_r4, wd8_i5, wd8_r5, wd8_i6, wd8_r6, wd8_i7, wd8_r7, wd8_i8, wd8_r8, wd8_l2, wd8_l3, wd8_l4, wd8_l5, wd8_l6, wd8_l7, wd8_l8, tl_s, tl_n, inR_t, bd_t, true_and, and_true, true_or, or_true, if_true_x, if_false_x, if_pos, if_neg, Int.toNat_natCast, natL, bI_0, bI_1, bI_ft, eq_self, b_tf, b_ft, not_true_eq_false, not_false_eq_true, m_168 hc hw, d, hc.t70, hc.r70_4, hc.r70_5, hc.r70_6, hc.r70_7, hc.r70_8, hc.r70_10, hc.r70_11, hc.r70_12, hc.r70_14, hc.r70_15, hc.r70_16, hc.r70_17, hc.r70_19, hc.r70_21, hc.r70_23, hc.r70_24, hc.r70_26, hc.r70_27, hc.r70_28, hc.r70_29, hc.r70_30, hc.r70_31, hc.r70_32, hc.r70_33, hc.r70_36]
    (rw [e_191_13]; refine ⟨⟨hc.t70, by decide⟩, ?_⟩)
    refine kpM ok0 (fun h2 k => ?_)
    obtain ⟨nn, rfl⟩ : ∃ nn : Nat, n = nn := ⟨n.toNat, by omega⟩
    obtain ⟨N, hN⟩ : ∃ N : Nat, vm h 19 0 = N := ⟨(vm h 19 0).toNat, by omega⟩
    have e73 := (k.2.2.2.1 73 (by omega) (by omega) (by omega)).1
    have e3 : h2.1 73 (Int.toNat 3) = N := by rw [e73]; exact hN
    have e3' : h2.1 73 3 = N := e3
    simp (disch := first | assumption | omega) only [e_191_14, e_191_15, e_191_16, e_191_17, e_191_18, e_191_19, e_191_20, e_191_21, e_191_22, e_191_23, e_191_24, e_191_25, e_191_26, e_191_27, e_191_28, e_191_29, e_191_30, e_191_31, e_191_32, onI_s, onR_s, onL_s, gl_0, gl_n, gl_1, gl_2, gl_3, gl_4, gl_5, gl_6, gl_7, gl_8, gl_9, gl_10, gl_11, gl_12, gl_13, gl_14, gl_15, gl_16, gl_17, sk0i, sk0r, sk0n, sk1i, sk1r, sk1n, sk_2, sk_3, sk_4, sk_5, sk_6, sk_7, sk_8, sk_9, sk_10, sk_11, sk_12, sk_13, sk_14, sk_15, sk_16, sk_17, ls_0, ls_1, ls_2, ls_3, ls_4, ls_5, ls_6, ls_7, ls_8, ls_9, ls_10, ls_11, ls_12, ls_13, ls_14, ls_15, ls_16, ls_17, ct1_i, ct1_r, wd8_0, wd8_i1, wd8_r1, wd8_i2, wd8_r2, wd8_i3, wd8_r3, wd8_i4, wd8_r4, wd8_i5, wd8_r5, wd8_i6, wd8_r6, wd8_i7, wd8_r7, wd8_i8, wd8_r8, wd8_l2, wd8_l3, wd8_l4, wd8_l5, wd8_l6, wd8_l7, wd8_l8, tl_s, tl_n, inR_t, bd_t, true_and, and_true, true_or, or_true, if_true_x, if_false_x, if_pos, if_neg, Int.toNat_natCast, natL, bI_0, bI_1, bI_ft, eq_self, b_tf, b_ft, not_true_eq_false, not_false_eq_true, m_159, vm_21, k.pv, e3, hc.t70, hc.r70_4, hc.r70_5, hc.r70_6, hc.r70_7, hc.r70_8, hc.r70_10, hc.r70_11, hc.r70_12, hc.r70_14, hc.r70_15, hc.r70_16, hc.r70_17, hc.r70_19, hc.r70_21, hc.r70_23, hc.r70_24, hc.r70_26, hc.r70_27, hc.r70_28, hc.r70_29, hc.r70_30, hc.r70_31, hc.r70_32, hc.r70_33, hc.r70_36, hc.t73, hc.z73]
    have li := l_191 (I := up2 h2.1 73 (Int.toNat 3) ((N : Int) - 1)) (F := h2.2) (Q := Q) (p := vm h 21 nn) hc (n := nn) (N := N - 1) (lo := 176 + 14 * nn) (by show up2 h2.1 73 3 ((N : Int) - 1) 73 3 = _; rw [up2_self]; omega) (by omega) (by omega) (14 * (N - 1 - nn)) (176 + 14 * nn) (Nat.le_refl _) (by omega) (by omega)
    rw [shf_0, up1_id (fun _ => rfl), show (((176 + 14 * nn : Nat)) : Int) = 176 + 14 * (nn : Int) by omega] at li
    rw [li, e_191_52]
    simp (disch := first | assumption | omega) only [e_191_53, e_191_54, e_191_55, onI_s, onR_s, onL_s, gl_0, gl_n, gl_1, gl_2, gl_3, gl_4, gl_5, gl_6, gl_7, gl_8, gl_9, gl_10, gl_11, gl_12, gl_13, gl_14, gl_15, gl_16, gl_17, sk0i, sk0r, sk0n, sk1i, sk1r, sk1n, sk_2, sk_3, sk_4, sk_5, sk_6, sk_7, sk_8, sk_9, sk_10, sk_11, sk_12, sk_13, sk_14, sk_15, sk_16, sk_17, ls_0, ls_1, ls_2, ls_3, ls_4, ls_5, ls_6, ls_7, ls_8, ls_9, ls_10, ls_11, ls_12, ls_13, ls_14, ls_15, ls_16, ls_17, ct1_i, ct1_r, wd8_0, wd8_i1, wd8_r1, wd8_i2, wd8_r2, wd8_i3, wd8_r3, wd8_i4, wd8_r4, wd8_i5, wd8_r5, wd8_i6, wd8_r6, wd8_i7, wd8_r7, wd8_i8, wd8_r8, wd8_l2, wd8_l3, wd8_l4, wd8_l5, wd8_l6, wd8_l7, wd8_l8, tl_s, tl_n, inR_t, bd_t, true_and, and_true, true_or, or_true, if_true_x, if_false_x, if_pos, if_neg, Int.toNat_natCast, natL, bI_0, bI_1, bI_ft, eq_self, b_tf, b_ft, not_true_eq_false, not_false_eq_true, m_153 hc, hc.t70, hc.r70_4, hc.r70_5, hc.r70_6, hc.r70_7, hc.r70_8, hc.r70_10, hc.r70_11, hc.r70_12, hc.r70_14, hc.r70_15, hc.r70_16, hc.r70_17, hc.r70_19, hc.r70_21, hc.r70_23, hc.r70_24, hc.r70_26, hc.r70_27, hc.r70_28, hc.r70_29, hc.r70_30, hc.r70_31, hc.r70_32, hc.r70_33, hc.r70_36]
    have f1 := Fm.I73 (X := X) (h := h2) (I := h2.1) (F := h2.2) (x := (N : Int) - 1) (j := Int.toNat 3) (Fm.refl k.1) (by decide) (by rw [hc.z73]; decide)
    have er : up2 h2.1 73 (Int.toNat 3) ((N : Int) - 1) 73 = up (h2.1 73) 3 ((N : Int) - 1) := up2_73
    have f2 := Fm.R73 (g := shf (up2 h2.1 73 (Int.toNat 3) ((N : Int) - 1) 73) (176 + 14 * nn) (176 + 14 * (N - 1)) 14) f1 (fun j hj => by
      rw [hc.z73] at hj
      rw [shf_r (by omega)]
      exact f1.1 73 j (Or.inl hc.t73) (by rw [hc.z73]; exact hj)) (fun q hq => by
      have := f1.2.2.2.2 q hq
      rw [shf_o (by omega), shf_o (by omega), shf_o (by omega)]
      exact this)
    have e : vm (up1 (up2 h2.1 73 (Int.toNat 3) ((N : Int) - 1)) 73 (shf (up2 h2.1 73 (Int.toNat 3) ((N : Int) - 1) 73) (176 + 14 * nn) (176 + 14 * (N - 1)) 14), h2.2) = dpV (vm h) nn := by
      rw [← k.pv]
      unfold vm
      dsimp only
      rw [up1_self, er, rv_dp e3' (by omega) (by omega)]
    exact hq _ (act_m (r := 0) k f2 e).1 (act_m (r := 0) k f2 e).2
  · rw [if_pos g2] at hq
    have d := bF (show ¬ (0 ≤ n ∧ n ≤ vm h 19 0 - 1) by omega)
    simp (disch := first | assumption | omega) only [e_191_3, e_191_4, e_191_5, e_191_6, e_191_7, e_191_8, e_191_9, e_191_10, onI_s, onR_s, onL_s, gl_0, gl_n, gl_1, gl_2, gl_3, gl_4, gl_5, gl_6, gl_7, gl_8, gl_9, gl_10, gl_11, gl_12, gl_13, gl_14, gl_15, gl_16, gl_17, sk0i, sk0r, sk0n, sk1i, sk1r, sk1n, sk_2, sk_3, sk_4, sk_5, sk_6, sk_7, sk_8, sk_9, sk_10, sk_11, sk_12, sk_13, sk_14, sk_15, sk_16, sk_17, ls_0, ls_1, ls_2, ls_3, ls_4, ls_5, ls_6, ls_7, ls_8, ls_9, ls_10, ls_11, ls_12, ls_13, ls_14, ls_15, ls_16, ls_17, ct1_i, ct1_r, wd8_0, wd8_i1, wd8_r1, wd8_i2, wd8_r2, wd8_i3, wd8_r3, wd8_i4, wd8_r4, wd8_i5, wd8_r5, wd8_i6, wd8_r6, wd8_i7, wd8_r7, wd8_i8, wd8_r8, wd8_l2, wd8_l3, wd8_l4, wd8_l5, wd8_l6, wd8_l7, wd8_l8, tl_s, tl_n, inR_t, bd_t, true_and, and_true, true_or, or_true, if_true_x, if_false_x, if_pos, if_neg, Int.toNat_natCast, natL, bI_0, bI_1, bI_ft, eq_self, b_tf, b_ft, not_true_eq_false, not_false_eq_true, m_168 hc hw, d, rfM ok0 rf, hc.t70, hc.r70_4, hc.r70_5, hc.r70_6, hc.r70_7, hc.r70_8, hc.r70_10, hc.r70_11, hc.r70_12, hc.r70_14, hc.r70_15, hc.r70_16, hc.r70_17, hc.r70_19, hc.r70_21, hc.r70_23, hc.r70_24, hc.r70_26, hc.r70_27, hc.r70_28, hc.r70_29, hc.r70_30, hc.r70_31, hc.r70_32, hc.r70_33, hc.r70_36]
    exact hq _ (rM_st ok0 rf (by omega) (by omega)).1 (rM_st ok0 rf (by omega) (by omega)).2
theorem p_191 {h : xH} {n : Int} (ok : Ok X h) (rf : RFb (h.1 71)) (g : Gd (vm h)) (hq : ∀ h2, Mst X h h2 → mS h2 = (spDrop (mS h) n).2 → Q (some (vi (spDrop (mS h) n).1)) h2) : Cl X 191 [vr 70, vi n] h Q := by
  obtain ⟨nb, ln, hc, hnb⟩ := ok.2.2.2.2.1
  rw [c_191]
  simp (disch := first | assumption | omega) only [e_191_0, e_191_1, e_191_2, onI_s, onR_s, onL_s, gl_0, gl_n, gl_1, gl_2, gl_3, gl_4, gl_5, gl_6, gl_7, gl_8, gl_9, gl_10, gl_11, gl_12, gl_13, gl_14, gl_15, gl_16, gl_17, sk0i, sk0r, sk0n, sk1i, sk1r, sk1n, sk_2, sk_3, sk_4, sk_5, sk_6, sk_7, sk_8, sk_9, sk_10, sk_11, sk_12, sk_13, sk_14, sk_15, sk_16, sk_17, ls_0, ls_1, ls_2, ls_3, ls_4, ls_5, ls_6, ls_7, ls_8, ls_9, ls_10, ls_11, ls_12, ls_13, ls_14, ls_15, ls_16, ls_17, ct1_i, ct1_r, wd8_0, wd8_i1, wd8_r1, wd8_i2, wd8_r2, wd8_i3, wd8_r3, wd8_i4, wd8_r4, wd8_i5, wd8_r5, wd8_i6, wd8_r6, wd8_i7, wd8_r7, wd8_i8, wd8_r8, wd8_l2, wd8_l3, wd8_l4, wd8_l5, wd8_l6, wd8_l7, wd8_l8, tl_s, tl_n, inR_t, bd_t, true_and, and_true, true_or, or_true, if_true_x, if_false_x, if_pos, if_neg, Int.toNat_natCast, natL, bI_0, bI_1, bI_ft, eq_self, b_tf, b_ft, not_true_eq_false, not_false_eq_true, hc.t70]
  exact q_191 (thr_ok ok) rf (by rw [thr_v]; exact g) (thr (sp := fun s => spDrop s n) ok hq)
end DRM
