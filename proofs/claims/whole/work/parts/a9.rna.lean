/-! RUNS of the class: all of them -/
theorem rnF_len {v : Nat → Nat → Int} {r S : Nat} (hS : v 0 1 = S) : ∀ n : Nat, ((rnF v r n).length : Int) ≤ cntB (spT v r ((n : Int) - 1) 0) S 0
  | 0 => by
    rw [rnF]
    exact (cntB_bd S 0).1
  | n + 1 => by
    have ih := rnF_len (r := r) hS n
    have := grS_sp (v := v) (r := r) (S := S) (f := (n : Int) - 1) S 0 none [] ((rnF v r n).length : Int) (by omega) (by simpa [opn] using ih)
    rw [spT_nx] at this
    rw [rnF, rnR, hS, Int.toNat_natCast, List.length_append, List.length_map, Int.natCast_add, show (((n + 1 : Nat) : Int) - 1) = (n : Int) - 1 + 1 by omega]
    exact this
theorem rnA_len {v : Nat → Nat → Int} {S : Nat} (hS : v 0 1 = S) : ∀ n : Nat, (rnA v n).length ≤ n * S
  | 0 => by rw [rnA]; simp
  | n + 1 => by
    have ih := rnA_len (S := S) hS n
    have a := rnF_len (v := v) (r := n) hS ((v 6 0).toNat + 1)
    have b := (cntB_bd (p := spT v n ((((v 6 0).toNat + 1 : Nat) : Int) - 1) 0) S 0).2
    rw [rnA, List.length_append, Nat.succ_mul]
    omega
section RNA
variable {X : xL} {Q : Option xV → xH → Prop} {ns nb ln : Nat}
set_option maxHeartbeats 4000000 in
theorem m_37 (hc : CT X ns nb ln) {h0 : xH} {v : Nat → Nat → Int} {R S N : Nat} (hns : ns = R * S) (R8 : R ≤ 8) (S32 : S ≤ 32) (N3 : N ≤ 3) (h7 : h0.2 7 1 = S) (h70 : h0.2 7 0 = R) (hR : v 0 0 = R) (hS : v 0 1 = S) (hN : v 6 0 = N) (p8 : PTo (h0.1 8) R S (own v)) (z : NZ X h0) (hq : ∀ h2, SG X h0 h2 (rnL v) → Q none h2) : Cl X 37 [vr 7, vi N] h0 Q := by
  have fl : ∀ (r : Nat), r < R → ∀ (m n : Nat) (h : xH), n + m = N + 1 → SG X h0 h (rnA v r ++ rnF v r n) → (∀ h2, SG X h0 h2 (rnA v (r + 1)) → Ev X 37 20 [some (vr 7), some (vi N), some (vi r), some (vi N)] [] h2 Q) → Ev X 37 11 [some (vr 7), some (vi N), some (vi r), some (vi ((n : Int) - 1))] [] h Q := by
    intro r hr m
    induction m with
    | zero =>
      intro n h hm s hq
      rw [show n = N + 1 by omega] at s ⊢
      rw [show (((N + 1 : Nat) : Int) - 1) = N by omega]
      rw [e_37_11]
      simp (disch := first | assumption | omega) only [e_37_12, e_37_13, onI_s, onR_s, onL_s, gl_0, gl_n, gl_1, gl_2, gl_3, gl_4, gl_5, gl_6, gl_7, gl_8, gl_9, gl_10, gl_11, gl_12, gl_13, gl_14, gl_15, gl_16, gl_17, sk0i, sk0r, sk0n, sk1i, sk1r, sk1n, sk_2, sk_3, sk_4, sk_5, sk_6, sk_7, sk_8, sk_9, sk_10, sk_11, sk_12, sk_13, sk_14, sk_15, sk_16, sk_17, ls_0, ls_1, ls_2, ls_3, ls_4, ls_5, ls_6, ls_7, ls_8, ls_9, ls_10, ls_11, ls_12, ls_13, ls_14, ls_15, ls_16, ls_17, ct1_i, ct1_r, wd8_0, wd8_i1, wd8_r1, wd8_i2, wd8_r2, wd8_i3, wd8_r3, wd8_i4, wd8_r4, wd8_i5, wd8_r5, wd8_i6, wd8_r6, wd8_i7, wd8_r7, wd8_i8, wd8_r8, wd8_l2, wd8_l3, wd8_l4, wd8_l5, wd8_l6, wd8_l7, wd8_l8, tl_s, tl_n, inR_t, bd_t, true_and, and_true, true_or, or_true, if_true_x, if_false_x, if_pos, if_neg, Int.toNat_natCast, natL, bI_0, bI_1, bI_ft, eq_self, b_tf, b_ft, not_true_eq_false, not_false_eq_true]
      refine hq h ?_
      rw [rnA, hN, Int.toNat_natCast]
      exact s
    | succ m ih =>
      intro n h hm s hq
      have a := rnF_len (v := v) (r := r) hS n
      have b := rnA_len (v := v) hS r
      rw [e_37_11]
      simp (disch := first | assumption | omega) only [e_37_12, e_37_13, e_37_14, e_37_15, e_37_16, onI_s, onR_s, onL_s, gl_0, gl_n, gl_1, gl_2, gl_3, gl_4, gl_5, gl_6, gl_7, gl_8, gl_9, gl_10, gl_11, gl_12, gl_13, gl_14, gl_15, gl_16, gl_17, sk0i, sk0r, sk0n, sk1i, sk1r, sk1n, sk_2, sk_3, sk_4, sk_5, sk_6, sk_7, sk_8, sk_9, sk_10, sk_11, sk_12, sk_13, sk_14, sk_15, sk_16, sk_17, ls_0, ls_1, ls_2, ls_3, ls_4, ls_5, ls_6, ls_7, ls_8, ls_9, ls_10, ls_11, ls_12, ls_13, ls_14, ls_15, ls_16, ls_17, ct1_i, ct1_r, wd8_0, wd8_i1, wd8_r1, wd8_i2, wd8_r2, wd8_i3, wd8_r3, wd8_i4, wd8_r4, wd8_i5, wd8_r5, wd8_i6, wd8_r6, wd8_i7, wd8_r7, wd8_i8, wd8_r8, wd8_l2, wd8_l3, wd8_l4, wd8_l5, wd8_l6, wd8_l7, wd8_l8, tl_s, tl_n, inR_t, bd_t, true_and, and_true, true_or, or_true, if_true_x, if_false_x, if_pos, if_neg, Int.toNat_natCast, natL, bI_0, bI_1, bI_ft, eq_self, b_tf, b_ft, not_true_eq_false, not_false_eq_true]
      (rw [e_37_17]; refine ⟨⟨hc.t7, by simp [wd_i, wd_r, wd_l, wd_0]⟩, ?_⟩)
      refine m_38 hc hns R8 S32 hr h7 hS p8 s (by rw [List.length_append, Int.natCast_add]; omega) (fun h2 s2 => ?_)
      simp (disch := first | assumption | omega) only [e_37_18, e_37_19, onI_s, onR_s, onL_s, gl_0, gl_n, gl_1, gl_2, gl_3, gl_4, gl_5, gl_6, gl_7, gl_8, gl_9, gl_10, gl_11, gl_12, gl_13, gl_14, gl_15, gl_16, gl_17, sk0i, sk0r, sk0n, sk1i, sk1r, sk1n, sk_2, sk_3, sk_4, sk_5, sk_6, sk_7, sk_8, sk_9, sk_10, sk_11, sk_12, sk_13, sk_14, sk_15, sk_16, sk_17, ls_0, ls_1, ls_2, ls_3, ls_4, ls_5, ls_6, ls_7, ls_8, ls_9, ls_10, ls_11, ls_12, ls_13, ls_14, ls_15, ls_16, ls_17, ct1_i, ct1_r, wd8_0, wd8_i1, wd8_r1, wd8_i2, wd8_r2, wd8_i3, wd8_r3, wd8_i4, wd8_r4, wd8_i5, wd8_r5, wd8_i6, wd8_r6, wd8_i7, wd8_r7, wd8_i8, wd8_r8, wd8_l2, wd8_l3, wd8_l4, wd8_l5, wd8_l6, wd8_l7, wd8_l8, tl_s, tl_n, inR_t, bd_t, true_and, and_true, true_or, or_true, if_true_x, if_false_x, if_pos, if_neg, Int.toNat_natCast, natL, bI_0, bI_1, bI_ft, eq_self, b_tf, b_ft, not_true_eq_false, not_false_eq_true, show (n : Int) - 1 + 1 = ((n + 1 : Nat) : Int) - 1 by omega]
      refine ih (n + 1) h2 (by omega) ?_ hq
      rw [rnF, ← List.append_assoc]
      exact s2
  have rl : ∀ (m r : Nat) (h : xH) (x3 : Option xV), r + m = R → SG X h0 h (rnA v r) → Ev X 37 5 [some (vr 7), some (vi N), some (vi r), x3] [] h Q := by
    intro m
    induction m with
    | zero =>
      intro r h x3 hm s
      have e0 : h.2 7 0 = R := (s.2.1.2 7 0 (by decide)).trans h70
      rw [e_37_5]
      simp (disch := first | assumption | omega) only [e_37_6, e_37_7, e_37_8, e_37_22, onI_s, onR_s, onL_s, gl_0, gl_n, gl_1, gl_2, gl_3, gl_4, gl_5, gl_6, gl_7, gl_8, gl_9, gl_10, gl_11, gl_12, gl_13, gl_14, gl_15, gl_16, gl_17, sk0i, sk0r, sk0n, sk1i, sk1r, sk1n, sk_2, sk_3, sk_4, sk_5, sk_6, sk_7, sk_8, sk_9, sk_10, sk_11, sk_12, sk_13, sk_14, sk_15, sk_16, sk_17, ls_0, ls_1, ls_2, ls_3, ls_4, ls_5, ls_6, ls_7, ls_8, ls_9, ls_10, ls_11, ls_12, ls_13, ls_14, ls_15, ls_16, ls_17, ct1_i, ct1_r, wd8_0, wd8_i1, wd8_r1, wd8_i2, wd8_r2, wd8_i3, wd8_r3, wd8_i4, wd8_r4, wd8_i5, wd8_r5, wd8_i6, wd8_r6, wd8_i7, wd8_r7, wd8_i8, wd8_r8, wd8_l2, wd8_l3, wd8_l4, wd8_l5, wd8_l6, wd8_l7, wd8_l8, tl_s, tl_n, inR_t, bd_t, true_and, and_true, true_or, or_true, if_true_x, if_false_x, if_pos, if_neg, Int.toNat_natCast, natL, bI_0, bI_1, bI_ft, eq_self, b_tf, b_ft, not_true_eq_false, not_false_eq_true, e0, hc.t7, hc.r7_2, hc.r7_4, hc.r7_5, hc.r7_6, hc.r7_7, hc.r7_8]
      refine hq h ?_
      rw [rnL, hR, Int.toNat_natCast, show R = r by omega]
      exact s
    | succ m ih =>
      intro r h x3 hm s
      have e0 : h.2 7 0 = R := (s.2.1.2 7 0 (by decide)).trans h70
      rw [e_37_5]
      simp (disch := first | assumption | omega) only [e_37_6, e_37_7, e_37_8, e_37_9, e_37_10, onI_s, onR_s, onL_s, gl_0, gl_n, gl_1, gl_2, gl_3, gl_4, gl_5, gl_6, gl_7, gl_8, gl_9, gl_10, gl_11, gl_12, gl_13, gl_14, gl_15, gl_16, gl_17, sk0i, sk0r, sk0n, sk1i, sk1r, sk1n, sk_2, sk_3, sk_4, sk_5, sk_6, sk_7, sk_8, sk_9, sk_10, sk_11, sk_12, sk_13, sk_14, sk_15, sk_16, sk_17, ls_0, ls_1, ls_2, ls_3, ls_4, ls_5, ls_6, ls_7, ls_8, ls_9, ls_10, ls_11, ls_12, ls_13, ls_14, ls_15, ls_16, ls_17, ct1_i, ct1_r, wd8_0, wd8_i1, wd8_r1, wd8_i2, wd8_r2, wd8_i3, wd8_r3, wd8_i4, wd8_r4, wd8_i5, wd8_r5, wd8_i6, wd8_r6, wd8_i7, wd8_r7, wd8_i8, wd8_r8, wd8_l2, wd8_l3, wd8_l4, wd8_l5, wd8_l6, wd8_l7, wd8_l8, tl_s, tl_n, inR_t, bd_t, true_and, and_true, true_or, or_true, if_true_x, if_false_x, if_pos, if_neg, Int.toNat_natCast, natL, bI_0, bI_1, bI_ft, eq_self, b_tf, b_ft, not_true_eq_false, not_false_eq_true, e0, hc.t7, hc.r7_2, hc.r7_4, hc.r7_5, hc.r7_6, hc.r7_7, hc.r7_8]
      refine fl r (by omega) (N + 1) 0 h (by omega) (by rw [rnF, List.append_nil]; exact s) (fun h2 s2 => ?_)
      rw [e_37_20]
      simp (disch := first | assumption | omega) only [e_37_21, onI_s, onR_s, onL_s, gl_0, gl_n, gl_1, gl_2, gl_3, gl_4, gl_5, gl_6, gl_7, gl_8, gl_9, gl_10, gl_11, gl_12, gl_13, gl_14, gl_15, gl_16, gl_17, sk0i, sk0r, sk0n, sk1i, sk1r, sk1n, sk_2, sk_3, sk_4, sk_5, sk_6, sk_7, sk_8, sk_9, sk_10, sk_11, sk_12, sk_13, sk_14, sk_15, sk_16, sk_17, ls_0, ls_1, ls_2, ls_3, ls_4, ls_5, ls_6, ls_7, ls_8, ls_9, ls_10, ls_11, ls_12, ls_13, ls_14, ls_15, ls_16, ls_17, ct1_i, ct1_r, wd8_0, wd8_i1, wd8_r1, wd8_i2, wd8_r2, wd8_i3, wd8_r3, wd8_i4, wd8_r4, wd8_i5, wd8_r5, wd8_i6, wd8_r6, wd8_i7, wd8_r7, wd8_i8, wd8_r8, wd8_l2, wd8_l3, wd8_l4, wd8_l5, wd8_l6, wd8_l7, wd8_l8, tl_s, tl_n, inR_t, bd_t, true_and, and_true, true_or, or_true, if_true_x, if_false_x, if_pos, if_neg, Int.toNat_natCast, natL, bI_0, bI_1, bI_ft, eq_self, b_tf, b_ft, not_true_eq_false, not_false_eq_true, cast_s]
      exact ih (r + 1) h2 _ (by omega) s2
  rw [c_37]
  simp (disch := first | assumption | omega) only [e_37_0, e_37_1, e_37_2, e_37_3, e_37_4, onI_s, onR_s, onL_s, gl_0, gl_n, gl_1, gl_2, gl_3, gl_4, gl_5, gl_6, gl_7, gl_8, gl_9, gl_10, gl_11, gl_12, gl_13, gl_14, gl_15, gl_16, gl_17, sk0i, sk0r, sk0n, sk1i, sk1r, sk1n, sk_2, sk_3, sk_4, sk_5, sk_6, sk_7, sk_8, sk_9, sk_10, sk_11, sk_12, sk_13, sk_14, sk_15, sk_16, sk_17, ls_0, ls_1, ls_2, ls_3, ls_4, ls_5, ls_6, ls_7, ls_8, ls_9, ls_10, ls_11, ls_12, ls_13, ls_14, ls_15, ls_16, ls_17, ct1_i, ct1_r, wd8_0, wd8_i1, wd8_r1, wd8_i2, wd8_r2, wd8_i3, wd8_r3, wd8_i4, wd8_r4, wd8_i5, wd8_r5, wd8_i6, wd8_r6, wd8_i7, wd8_r7, wd8_i8, wd8_r8, wd8_l2, wd8_l3, wd8_l4, wd8_l5, wd8_l6, wd8_l7, wd8_l8, tl_s, tl_n, inR_t, bd_t, true_and, and_true, true_or, or_true, if_true_x, if_false_x, if_pos, if_neg, Int.toNat_natCast, natL, bI_0, bI_1, bI_ft, eq_self, b_tf, b_ft, not_true_eq_false, not_false_eq_true, hc.t7, hc.r7_2, hc.r7_4, hc.r7_5, hc.r7_6, hc.r7_7, hc.r7_8]
  exact rl R 0 _ none (by omega) (SG0 hc z)
/-- paint, and what comes of it -/
def GA (h h2 : xH) : Prop := (∀ a, a < 8 ∨ 12 < a → h2.1 a = h.1 a) ∧ (∀ a k, ¬ (a = 7 ∧ k = 3) → h2.2 a k = h.2 a k)
def SA (X : xL) (h0 h : xH) (L : List Rn) : Prop := NZ X h ∧ GA h0 h ∧ h.2 7 3 = L.length ∧ RO (h.1 9) (h.1 10) (h.1 11) (h.1 12) L
theorem SG.sa {h0 h h2 : xH} {L : List Rn} (g : G8 h0 h) (s : SG X h h2 L) : SA X h0 h2 L := ⟨s.1, ⟨fun a q => (s.2.1.1 a (by omega) (by omega) (by omega) (by omega)).trans (g.1 a (by omega)), fun a k q => by rw [s.2.1.2 a k q, g.2]⟩, s.2.2⟩
theorem GA.cv {h h2 : xH} {b : Nat} (g : GA h h2) (hb : 200 ≤ b) : cv h2 b = cv h b := cv_congr (fun j q1 q2 => ⟨g.1 j (by omega), funext fun k => g.2 j k (by omega)⟩)
theorem GA.fz {h h2 : xH} (g : GA h h2) (z : NZ X h2) : Fz X h h2 := ⟨z, fun a q => ⟨g.1 a (by omega), funext fun k => g.2 a k (by omega)⟩, ⟨g.2 7 0 (by decide), g.2 7 1 (by decide), g.2 22 0 (by decide), g.2 22 1 (by decide)⟩, fun p hp => ⟨fun i => g.2 _ _ (by omega), fun j hj i hi => g.2 _ _ (by omega)⟩⟩
def spRuns (s : AS) (r f : Int) : Int := if rkB s.1 r f = true then ((rnR s.1 r.toNat f).length : Int) else -1
end RNA
