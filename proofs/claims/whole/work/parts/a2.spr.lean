/-! SPREAD of the reference: a cell, the call -/
section SRG
variable {X : xL} {Q : Option xV → xH → Prop} {ns nb ln : Nat} {h h0 : xH} {v : Nat → Nat → Int} {c : Nat}
set_option maxHeartbeats 4000000 in
theorem l_228 (hc : CT X ns nb ln) (g : Gd v) (hl : v 14 c = 0) (hcN : (c : Int) < v 11 0) (tm : TMb (h0.1 72)) (ls : ∀ b, b < nbn v → h0.1 95 b = sup v (b / nbC v) (b % nbC v)) : ∀ (m k b : Nat) (h : xH) (w : Nat → Nat → Int) (x9 : Option xV), k + m = 5 → 1 ≤ k → SR X h0 h v c w → (∀ h2 w2 best x9, SR X h0 h2 v c w2 → Ev X 228 89 [some (vr 70), some (vi c), some (vi (36 + 7 * (c : Int))), some (vi (v 15 c)), some (vi (v 16 c)), some (vi (cnd v (h0.1 72) c (amn (fun k => csN (cnd v (h0.1 72) c k) (h0.1 72)) m k b) 15 c)), some (vi (cnd v (h0.1 72) c (amn (fun k => csN (cnd v (h0.1 72) c k) (h0.1 72)) m k b) 16 c)), some (vi best), some (vi 5), x9] [] h2 Q) → Ev X 228 26 [some (vr 70), some (vi c), some (vi (36 + 7 * (c : Int))), some (vi (v 15 c)), some (vi (v 16 c)), some (vi (cnd v (h0.1 72) c b 15 c)), some (vi (cnd v (h0.1 72) c b 16 c)), some (vi (csN (cnd v (h0.1 72) c b) (h0.1 72))), some (vi k), x9] [] h Q := by
  intro m
  induction m with
  | zero =>
    intro k b h w x9 hm k1 s hq
    rw [show k = 5 by omega]
    rw [e_228_26]
    simp (disch := first | assumption | omega) only [e_228_27, e_228_28, onI_s, onR_s, onL_s, gl_0, gl_n, gl_1, gl_2, gl_3, gl_4, gl_5, gl_6, gl_7, gl_8, gl_9, gl_10, gl_11, gl_12, gl_13, gl_14, gl_15, gl_16, gl_17, sk0i, sk0r, sk0n, sk1i, sk1r, sk1n, sk_2, sk_3, sk_4, sk_5, sk_6, sk_7, sk_8, sk_9, sk_10, sk_11, sk_12, sk_13, sk_14, sk_15, sk_16, sk_17, ls_0, ls_1, ls_2, ls_3, ls_4, ls_5, ls_6, ls_7, ls_8, ls_9, ls_10, ls_11, ls_12, ls_13, ls_14, ls_15, ls_16, ls_17, ct1_i, ct1_r, wd8_0, wd8_i1, wd8_r1, wd8_i2, wd8_r2, wd8_i3, wd8_r3, wd8_i4, wd8_r4, wd8_i5, wd8_r5, wd8_i6, wd8_r6, wd8_i7, wd8_r7, wd8_i8, wd8_r8, wd8_l2, wd8_l3, wd8_l4, wd8_l5, wd8_l6, wd8_l7, wd8_l8, tl_s, tl_n, inR_t, bd_t, true_and, and_true, true_or, or_true, if_true_x, if_false_x, if_pos, if_neg, Int.toNat_natCast, natL, bI_0, bI_1, bI_ft, eq_self, b_tf, b_ft, not_true_eq_false, not_false_eq_true]
    exact hq h w _ x9 s
  | succ m ih =>
    intro k b h w x9 hm k1 s hq
    refine it_228 hc g hl hcN tm ls k1 (by omega) s (fun h2 s2 => ?_)
    rw [show ((k : Int) + 1) = ((k + 1 : Nat) : Int) by omega]
    rw [amn] at hq
    by_cases e : csN (cnd v (h0.1 72) c k) (h0.1 72) < csN (cnd v (h0.1 72) c b) (h0.1 72)
    · rw [if_pos e] at hq
      rw [if_pos e, if_pos e, if_pos e]
      exact ih (k + 1) k h2 _ _ (by omega) (by omega) s2 hq
    · rw [if_neg e] at hq
      rw [if_neg e, if_neg e, if_neg e]
      exact ih (k + 1) b h2 _ _ (by omega) (by omega) s2 hq
set_option maxHeartbeats 4000000 in
theorem m_228 (hc : CT X ns nb ln) (ev : vm h0 = v) (z : NZ X h0) (r : RBr (h0.1 73)) (g : Gd v) (hl : v 14 c = 0) (hcN : (c : Int) < v 11 0) (tm : TMb (h0.1 72)) (ls : LSr h0) (hq : ∀ h2, SR X h0 h2 v c (sdC v (h0.1 72) c) → Q none h2) : Cl X 228 [vr 70, vi c] h0 Q := by
  have nC := g.rg.nC
  have c20 : c < 20 := by omega
  have i3 : (36 + 7 * (c : Int) + 3).toNat = 36 + 7 * c + 3 := by omega
  have i4 : (36 + 7 * (c : Int) + 4).toNat = 36 + 7 * c + 4 := by omega
  have j15 : h0.1 73 (36 + 7 * c + 3) = v 15 c := by rw [← ev, vm_c (by omega) c20]
  have j16 : h0.1 73 (36 + 7 * c + 4) = v 16 c := by rw [← ev, vm_c (by omega) c20]
  have en : cst v (h0.1 72) (nbC v) (nbn v) = csN v (h0.1 72) := rfl
  have ls0 : ∀ b, b < nbn v → h0.1 95 b = sup v (b / nbC v) (b % nbC v) := by rw [← ev]; exact ls
  have c0 : cnd v (h0.1 72) c 0 = v := by unfold cnd; rw [if_pos rfl]
  rw [c_228]
  simp (disch := first | assumption | omega) only [e_228_0, e_228_1, e_228_2, e_228_3, e_228_4, e_228_5, e_228_6, e_228_7, e_228_8, e_228_9, e_228_10, e_228_11, e_228_12, e_228_13, e_228_14, e_228_15, e_228_16, e_228_17, e_228_18, e_228_19, e_228_20, e_228_21, e_228_22, e_228_23, e_228_24, e_228_25, onI_s, onR_s, onL_s, gl_0, gl_n, gl_1, gl_2, gl_3, gl_4, gl_5, gl_6, gl_7, gl_8, gl_9, gl_10, gl_11, gl_12, gl_13, gl_14, gl_15, gl_16, gl_17, sk0i, sk0r, sk0n, sk1i, sk1r, sk1n, sk_2, sk_3, sk_4, sk_5, sk_6, sk_7, sk_8, sk_9, sk_10, sk_11, sk_12, sk_13, sk_14, sk_15, sk_16, sk_17, ls_0, ls_1, ls_2, ls_3, ls_4, ls_5, ls_6, ls_7, ls_8, ls_9, ls_10, ls_11, ls_12, ls_13, ls_14, ls_15, ls_16, ls_17, ct1_i, ct1_r, wd8_0, wd8_i1, wd8_r1, wd8_i2, wd8_r2, wd8_i3, wd8_r3, wd8_i4, wd8_r4, wd8_i5, wd8_r5, wd8_i6, wd8_r6, wd8_i7, wd8_r7, wd8_i8, wd8_r8, wd8_l2, wd8_l3, wd8_l4, wd8_l5, wd8_l6, wd8_l7, wd8_l8, tl_s, tl_n, inR_t, bd_t, true_and, and_true, true_or, or_true, if_true_x, if_false_x, if_pos, if_neg, Int.toNat_natCast, natL, bI_0, bI_1, bI_ft, eq_self, b_tf, b_ft, not_true_eq_false, not_false_eq_true, m_158, m_218 hc (show WG (vm h0) by rw [ev]; exact g.wg) tm ls, ev, en, i3, i4, j15, j16, hc.t70, hc.r70_4, hc.r70_5, hc.r70_6, hc.r70_7, hc.r70_8, hc.r70_10, hc.r70_11, hc.r70_12, hc.r70_14, hc.r70_15, hc.r70_16, hc.r70_17, hc.r70_19, hc.r70_21, hc.r70_23, hc.r70_24, hc.r70_26, hc.r70_27, hc.r70_28, hc.r70_29, hc.r70_30, hc.r70_31, hc.r70_32, hc.r70_33, hc.r70_36, hc.t73, hc.z73]
  have key := l_228 (Q := Q) hc g hl hcN tm ls0 4 1 0 h0 v none (by omega) (by omega) ⟨z, M73.refl, r, ev, ⟨v 15 c, v 16 c, mvV_id.symm⟩, g⟩
  rw [c0] at key
  refine key (fun h2 w2 best x9 s2 => ?_)
  have gs : Gd (sdC v (h0.1 72) c) := cnd_gd g hl (h0.1 72) _
  have sm : mvV v c (sdC v (h0.1 72) c 15 c) (sdC v (h0.1 72) c 16 c) = sdC v (h0.1 72) c := by
    unfold sdC
    exact cnd_mv.symm
  have s3 := s2.wr c20 hc.z73 (p := sdC v (h0.1 72) c 15 c) (q := sdC v (h0.1 72) c 16 c) (by rw [sm]; exact gs)
  rw [sm] at s3
  rw [e_228_89]
  simp (disch := first | assumption | omega) only [e_228_90, e_228_91, e_228_92, e_228_93, e_228_94, e_228_95, e_228_96, e_228_97, e_228_98, e_228_99, e_228_100, e_228_101, e_228_102, e_228_103, onI_s, onR_s, onL_s, gl_0, gl_n, gl_1, gl_2, gl_3, gl_4, gl_5, gl_6, gl_7, gl_8, gl_9, gl_10, gl_11, gl_12, gl_13, gl_14, gl_15, gl_16, gl_17, sk0i, sk0r, sk0n, sk1i, sk1r, sk1n, sk_2, sk_3, sk_4, sk_5, sk_6, sk_7, sk_8, sk_9, sk_10, sk_11, sk_12, sk_13, sk_14, sk_15, sk_16, sk_17, ls_0, ls_1, ls_2, ls_3, ls_4, ls_5, ls_6, ls_7, ls_8, ls_9, ls_10, ls_11, ls_12, ls_13, ls_14, ls_15, ls_16, ls_17, ct1_i, ct1_r, wd8_0, wd8_i1, wd8_r1, wd8_i2, wd8_r2, wd8_i3, wd8_r3, wd8_i4, wd8_r4, wd8_i5, wd8_r5, wd8_i6, wd8_r6, wd8_i7, wd8_r7, wd8_i8, wd8_r8, wd8_l2, wd8_l3, wd8_l4, wd8_l5, wd8_l6, wd8_l7, wd8_l8, tl_s, tl_n, inR_t, bd_t, true_and, and_true, true_or, or_true, if_true_x, if_false_x, if_pos, if_neg, Int.toNat_natCast, natL, bI_0, bI_1, bI_ft, eq_self, b_tf, b_ft, not_true_eq_false, not_false_eq_true, i3, i4, hc.t70, hc.r70_4, hc.r70_5, hc.r70_6, hc.r70_7, hc.r70_8, hc.r70_10, hc.r70_11, hc.r70_12, hc.r70_14, hc.r70_15, hc.r70_16, hc.r70_17, hc.r70_19, hc.r70_21, hc.r70_23, hc.r70_24, hc.r70_26, hc.r70_27, hc.r70_28, hc.r70_29, hc.r70_30, hc.r70_31, hc.r70_32, hc.r70_33, hc.r70_36, hc.t73, hc.z73]
  exact hq _ s3
end SRG
