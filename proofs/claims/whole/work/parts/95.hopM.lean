section HPN
variable {X : xL} {Q : Option xV → xH → Prop} {ns nb ln : Nat}
def inB (a b : Int) : Prop := (-1 ≤ a ∧ a ≤ 7) ∧ (-1 ≤ b ∧ b ≤ 31)
set_option maxHeartbeats 8000000 in
theorem l_256i (hc : CT X ns nb ln) {v : Nat → Nat → Int} {c S r : Nat} {t : Int} (g : Gd v) (hcc : c < 20) (hn : (c : Int) < v 11 0) (hS : v 0 1 = S) (r8 : r < 8) (t0 : 0 ≤ t) (t1 : t ≤ 8) : ∀ (m s : Nat) (q : Int × Int × Int) (h : xH) (a b : Int) (x7 : Option xV), Ok X h → vm h = gvP v c a b → inB a b → TMb (h.1 72) → h.1 72 4 = t → s + m = S → (∀ h2 a b x6 x7, Fm X h h2 → vm h2 = gvP v c a b → inB a b → Ev X 256 57 [some (vr 70), some (vi c), some (vi (hpI (fun s => wir (gvP v c r s) t) (fun s => lwB v c r s) r m s q).2.1), some (vi (hpI (fun s => wir (gvP v c r s) t) (fun s => lwB v c r s) r m s q).2.2), some (vi (hpI (fun s => wir (gvP v c r s) t) (fun s => lwB v c r s) r m s q).1), some (vi r), x6, x7] [] h2 Q) → Ev X 256 27 [some (vr 70), some (vi c), some (vi q.2.1), some (vi q.2.2), some (vi q.1), some (vi r), some (vi s), x7] [] h Q := by
  have ws := g.rg.sites
  have cw := (g.geo.cel hn).1
  intro m
  induction m with
  | zero =>
    intro s q h a b x7 ok ev ib tm ht hm hq
    have e2 : h.2 70 3 = v 0 1 := by
      have : vm h 0 1 = v 0 1 := by rw [ev, gv_o (by omega)]
      exact this
    rw [e_256_27]
    simp (disch := first | assumption | omega) only [e_256_28, e_256_29, e_256_30, onI_s, onR_s, onL_s, gl_0, gl_n, gl_1, gl_2, gl_3, gl_4, gl_5, gl_6, gl_7, gl_8, gl_9, gl_10, gl_11, gl_12, gl_13, gl_14, gl_15, gl_16, gl_17, sk0i, sk0r, sk0n, sk1i, sk1r, sk1n, sk_2, sk_3, sk_4, sk_5, sk_6, sk_7, sk_8, sk_9, sk_10, sk_11, sk_12, sk_13, sk_14, sk_15, sk_16, sk_17, ls_0, ls_1, ls_2, ls_3, ls_4, ls_5, ls_6, ls_7, ls_8, ls_9, ls_10, ls_11, ls_12, ls_13, ls_14, ls_15, ls_16, ls_17, ct1_i, ct1_r, wd8_0, wd8_i1, wd8_r1, wd8_i2, wd8_r2, wd8_i3, wd8_r3, wd8_i4, wd8_r4, wd8_i5, wd8_r5, wd8_i6, wd8_r6, wd8_i7, wd8_r7, wd8_i8, wd8_r8, wd8_l2, wd8_l3, wd8_l4, wd8_l5, wd8_l6, wd8_l7, wd8_l8, tl_s, tl_n, inR_t, bd_t, true_and, and_true, true_or, or_true, if_true_x, if_false_x, if_pos, if_neg, Int.toNat_natCast, natL, bI_0, bI_1, bI_ft, eq_self, b_tf, b_ft, not_true_eq_false, not_false_eq_true, e2, hc.t70, hc.r70_4, hc.r70_5, hc.r70_6, hc.r70_7, hc.r70_8, hc.r70_10, hc.r70_11, hc.r70_12, hc.r70_14, hc.r70_15, hc.r70_16, hc.r70_17, hc.r70_19, hc.r70_21, hc.r70_23, hc.r70_24, hc.r70_26, hc.r70_27, hc.r70_28, hc.r70_29, hc.r70_30, hc.r70_31, hc.r70_32, hc.r70_33, hc.r70_36]
    exact hq h a b _ x7 (Fm.refl ok) ev ib
  | succ m ih =>
    intro s q h a b x7 ok ev ib tm ht hm hq
    have e2 : h.2 70 3 = v 0 1 := by
      have : vm h 0 1 = v 0 1 := by rw [ev, gv_o (by omega)]
      exact this
    have hw : RGv (vm h) := by rw [ev]; exact (gv_wg g.wg ib.1 ib.2).1
    have hb : RBm h := ok.2.2.2.1.2.1
    have lw : lwM (vm h) c r s 0 = lwB v c r s := by rw [ev, lwM_gv]; exact lwM_0 g.geo g.rg hn
    rw [hpI] at hq
    rw [e_256_27]
    cases e : lwB v c r s
    · rw [e] at lw
      rw [if_neg (fun z => by rw [e] at z; cases z.2)] at hq
      simp (disch := first | assumption | omega) only [e_256_28, e_256_29, e_256_30, e_256_31, e_256_32, e_256_33, e_256_34, e_256_35, e_256_36, e_256_37, e_256_55, e_256_56, onI_s, onR_s, onL_s, gl_0, gl_n, gl_1, gl_2, gl_3, gl_4, gl_5, gl_6, gl_7, gl_8, gl_9, gl_10, gl_11, gl_12, gl_13, gl_14, gl_15, gl_16, gl_17, sk0i, sk0r, sk0n, sk1i, sk1r, sk1n, sk_2, sk_3, sk_4, sk_5, sk_6, sk_7, sk_8, sk_9, sk_10, sk_11, sk_12, sk_13, sk_14, sk_15, sk_16, sk_17, ls_0, ls_1, ls_2, ls_3, ls_4, ls_5, ls_6, ls_7, ls_8, ls_9, ls_10, ls_11, ls_12, ls_13, ls_14, ls_15, ls_16, ls_17, ct1_i, ct1_r, wd8_0, wd8_i1, wd8_r1, wd8_i2, wd8_r2, wd8_i3, wd8_r3, wd8_i4, wd8_r4, wd8_i5, wd8_r5, wd8_i6, wd8_r6, wd8_i7, wd8_r7, wd8_i8, wd8_r8, wd8_l2, wd8_l3, wd8_l4, wd8_l5, wd8_l6, wd8_l7, wd8_l8, tl_s, tl_n, inR_t, bd_t, true_and, and_true, true_or, or_true, if_true_x, if_false_x, if_pos, if_neg, Int.toNat_natCast, natL, bI_0, bI_1, bI_ft, eq_self, b_tf, b_ft, not_true_eq_false, not_false_eq_true, e2, m_176 hc hw hb, lw, cast_s, hc.t70, hc.r70_4, hc.r70_5, hc.r70_6, hc.r70_7, hc.r70_8, hc.r70_10, hc.r70_11, hc.r70_12, hc.r70_14, hc.r70_15, hc.r70_16, hc.r70_17, hc.r70_19, hc.r70_21, hc.r70_23, hc.r70_24, hc.r70_26, hc.r70_27, hc.r70_28, hc.r70_29, hc.r70_30, hc.r70_31, hc.r70_32, hc.r70_33, hc.r70_36]
      exact ih (s + 1) q h a b _ ok ev ib tm ht (by omega) hq
    · rw [e] at lw
      have lr := lwB_rg g.rg e
      simp (disch := first | assumption | omega) only [e_256_28, e_256_29, e_256_30, e_256_31, e_256_32, e_256_33, e_256_34, e_256_35, e_256_36, e_256_37, e_256_38, e_256_39, e_256_40, e_256_41, onI_s, onR_s, onL_s, gl_0, gl_n, gl_1, gl_2, gl_3, gl_4, gl_5, gl_6, gl_7, gl_8, gl_9, gl_10, gl_11, gl_12, gl_13, gl_14, gl_15, gl_16, gl_17, sk0i, sk0r, sk0n, sk1i, sk1r, sk1n, sk_2, sk_3, sk_4, sk_5, sk_6, sk_7, sk_8, sk_9, sk_10, sk_11, sk_12, sk_13, sk_14, sk_15, sk_16, sk_17, ls_0, ls_1, ls_2, ls_3, ls_4, ls_5, ls_6, ls_7, ls_8, ls_9, ls_10, ls_11, ls_12, ls_13, ls_14, ls_15, ls_16, ls_17, ct1_i, ct1_r, wd8_0, wd8_i1, wd8_r1, wd8_i2, wd8_r2, wd8_i3, wd8_r3, wd8_i4, wd8_r4, wd8_i5, wd8_r5, wd8_i6, wd8_r6, wd8_i7, wd8_r7, wd8_i8, wd8_r8, wd8_l2, wd8_l3, wd8_l4, wd8_l5, wd8_l6, wd8_l7, wd8_l8, tl_s, tl_n, inR_t, bd_t, true_and, and_true, true_or, or_true, if_true_x, if_false_x, if_pos, if_neg, Int.toNat_natCast, natL, bI_0, bI_1, bI_ft, eq_self, b_tf, b_ft, not_true_eq_false, not_false_eq_true, e2, m_176 hc hw hb, lw, hc.t70, hc.r70_4, hc.r70_5, hc.r70_6, hc.r70_7, hc.r70_8, hc.r70_10, hc.r70_11, hc.r70_12, hc.r70_14, hc.r70_15, hc.r70_16, hc.r70_17, hc.r70_19, hc.r70_21, hc.r70_23, hc.r70_24, hc.r70_26, hc.r70_27, hc.r70_28, hc.r70_29, hc.r70_30, hc.r70_31, hc.r70_32, hc.r70_33, hc.r70_36]
      (rw [e_256_42]; refine ⟨⟨hc.t70, by decide⟩, ?_⟩)
      refine givM hc ok hcc (fun h3 f3 p3 e3 => ?_)
      rw [ev, gv_2] at e3
      have ib3 : inB (r : Int) (s : Int) := by unfold inB; omega
      have g3 : WG (vm h3) := by rw [e3]; exact gv_wg g.wg ib3.1 ib3.2
      have tm3 : TMb (h3.1 72) := by rw [f3.t]; exact tm
      have ht3 : h3.1 72 4 = t := by rw [f3.t]; exact ht
      by_cases y : wir (gvP v c r s) t < q.1
      · rw [if_pos ⟨y, e⟩] at hq
        rw [← e3] at y
        simp (disch := first | assumption | omega) only [e_256_43, e_256_44, e_256_45, e_256_46, e_256_47, e_256_48, e_256_49, e_256_50, e_256_51, e_256_52, e_256_53, e_256_54, e_256_55, e_256_56, onI_s, onR_s, onL_s, gl_0, gl_n, gl_1, gl_2, gl_3, gl_4, gl_5, gl_6, gl_7, gl_8, gl_9, gl_10, gl_11, gl_12, gl_13, gl_14, gl_15, gl_16, gl_17, sk0i, sk0r, sk0n, sk1i, sk1r, sk1n, sk_2, sk_3, sk_4, sk_5, sk_6, sk_7, sk_8, sk_9, sk_10, sk_11, sk_12, sk_13, sk_14, sk_15, sk_16, sk_17, ls_0, ls_1, ls_2, ls_3, ls_4, ls_5, ls_6, ls_7, ls_8, ls_9, ls_10, ls_11, ls_12, ls_13, ls_14, ls_15, ls_16, ls_17, ct1_i, ct1_r, wd8_0, wd8_i1, wd8_r1, wd8_i2, wd8_r2, wd8_i3, wd8_r3, wd8_i4, wd8_r4, wd8_i5, wd8_r5, wd8_i6, wd8_r6, wd8_i7, wd8_r7, wd8_i8, wd8_r8, wd8_l2, wd8_l3, wd8_l4, wd8_l5, wd8_l6, wd8_l7, wd8_l8, tl_s, tl_n, inR_t, bd_t, true_and, and_true, true_or, or_true, if_true_x, if_false_x, if_pos, if_neg, Int.toNat_natCast, natL, bI_0, bI_1, bI_ft, eq_self, b_tf, b_ft, not_true_eq_false, not_false_eq_true, wirM hc g3 tm3, ht3, cast_s, hc.t70, hc.r70_4, hc.r70_5, hc.r70_6, hc.r70_7, hc.r70_8, hc.r70_10, hc.r70_11, hc.r70_12, hc.r70_14, hc.r70_15, hc.r70_16, hc.r70_17, hc.r70_19, hc.r70_21, hc.r70_23, hc.r70_24, hc.r70_26, hc.r70_27, hc.r70_28, hc.r70_29, hc.r70_30, hc.r70_31, hc.r70_32, hc.r70_33, hc.r70_36]
        rw [e3]
        exact ih (s + 1) (wir (gvP v c r s) t, (r : Int), (s : Int)) h3 r s _ (f3.ok ok) e3 ib3 tm3 ht3 (by omega) (fun h4 a b x6 x7 f4 e4 i4 => hq h4 a b x6 x7 (f3.tr f4) e4 i4)
      · rw [if_neg (fun z => y z.1)] at hq
        rw [← e3] at y
        simp (disch := first | assumption | omega) only [e_256_43, e_256_44, e_256_45, e_256_46, e_256_47, e_256_48, e_256_55, e_256_56, onI_s, onR_s, onL_s, gl_0, gl_n, gl_1, gl_2, gl_3, gl_4, gl_5, gl_6, gl_7, gl_8, gl_9, gl_10, gl_11, gl_12, gl_13, gl_14, gl_15, gl_16, gl_17, sk0i, sk0r, sk0n, sk1i, sk1r, sk1n, sk_2, sk_3, sk_4, sk_5, sk_6, sk_7, sk_8, sk_9, sk_10, sk_11, sk_12, sk_13, sk_14, sk_15, sk_16, sk_17, ls_0, ls_1, ls_2, ls_3, ls_4, ls_5, ls_6, ls_7, ls_8, ls_9, ls_10, ls_11, ls_12, ls_13, ls_14, ls_15, ls_16, ls_17, ct1_i, ct1_r, wd8_0, wd8_i1, wd8_r1, wd8_i2, wd8_r2, wd8_i3, wd8_r3, wd8_i4, wd8_r4, wd8_i5, wd8_r5, wd8_i6, wd8_r6, wd8_i7, wd8_r7, wd8_i8, wd8_r8, wd8_l2, wd8_l3, wd8_l4, wd8_l5, wd8_l6, wd8_l7, wd8_l8, tl_s, tl_n, inR_t, bd_t, true_and, and_true, true_or, or_true, if_true_x, if_false_x, if_pos, if_neg, Int.toNat_natCast, natL, bI_0, bI_1, bI_ft, eq_self, b_tf, b_ft, not_true_eq_false, not_false_eq_true, wirM hc g3 tm3, ht3, cast_s, hc.t70, hc.r70_4, hc.r70_5, hc.r70_6, hc.r70_7, hc.r70_8, hc.r70_10, hc.r70_11, hc.r70_12, hc.r70_14, hc.r70_15, hc.r70_16, hc.r70_17, hc.r70_19, hc.r70_21, hc.r70_23, hc.r70_24, hc.r70_26, hc.r70_27, hc.r70_28, hc.r70_29, hc.r70_30, hc.r70_31, hc.r70_32, hc.r70_33, hc.r70_36]
        exact ih (s + 1) q h3 r s _ (f3.ok ok) e3 ib3 tm3 ht3 (by omega) (fun h4 a b x6 x7 f4 e4 i4 => hq h4 a b x6 x7 (f3.tr f4) e4 i4)
set_option maxHeartbeats 4000000 in
theorem l_256 (hc : CT X ns nb ln) {v : Nat → Nat → Int} {c S R : Nat} {t : Int} (g : Gd v) (hcc : c < 20) (hn : (c : Int) < v 11 0) (hS : v 0 1 = S) (hR : v 0 0 = R) (t0 : 0 ≤ t) (t1 : t ≤ 8) : ∀ (m r : Nat) (q : Int × Int × Int) (h : xH) (a b : Int) (x6 x7 : Option xV), Ok X h → vm h = gvP v c a b → inB a b → TMb (h.1 72) → h.1 72 4 = t → r + m = R → (∀ h2 a b x5 x6 x7, Fm X h h2 → vm h2 = gvP v c a b → inB a b → Ev X 256 59 [some (vr 70), some (vi c), some (vi (hpO (fun r s => wir (gvP v c r s) t) (fun r s => lwB v c r s) S m r q).2.1), some (vi (hpO (fun r s => wir (gvP v c r s) t) (fun r s => lwB v c r s) S m r q).2.2), some (vi (hpO (fun r s => wir (gvP v c r s) t) (fun r s => lwB v c r s) S m r q).1), x5, x6, x7] [] h2 Q) → Ev X 256 21 [some (vr 70), some (vi c), some (vi q.2.1), some (vi q.2.2), some (vi q.1), some (vi r), x6, x7] [] h Q := by
  have wr := g.rg.rows
  intro m
  induction m with
  | zero =>
    intro r q h a b x6 x7 ok ev ib tm ht hm hq
    have e2 : h.2 70 2 = v 0 0 := by
      have : vm h 0 0 = v 0 0 := by rw [ev, gv_o (by omega)]
      exact this
    rw [e_256_21]
    simp (disch := first | assumption | omega) only [e_256_22, e_256_23, e_256_24, onI_s, onR_s, onL_s, gl_0, gl_n, gl_1, gl_2, gl_3, gl_4, gl_5, gl_6, gl_7, gl_8, gl_9, gl_10, gl_11, gl_12, gl_13, gl_14, gl_15, gl_16, gl_17, sk0i, sk0r, sk0n, sk1i, sk1r, sk1n, sk_2, sk_3, sk_4, sk_5, sk_6, sk_7, sk_8, sk_9, sk_10, sk_11, sk_12, sk_13, sk_14, sk_15, sk_16, sk_17, ls_0, ls_1, ls_2, ls_3, ls_4, ls_5, ls_6, ls_7, ls_8, ls_9, ls_10, ls_11, ls_12, ls_13, ls_14, ls_15, ls_16, ls_17, ct1_i, ct1_r, wd8_0, wd8_i1, wd8_r1, wd8_i2, wd8_r2, wd8_i3, wd8_r3, wd8_i4, wd8_r4, wd8_i5, wd8_r5, wd8_i6, wd8_r6, wd8_i7, wd8_r7, wd8_i8, wd8_r8, wd8_l2, wd8_l3, wd8_l4, wd8_l5, wd8_l6, wd8_l7, wd8_l8, tl_s, tl_n, inR_t, bd_t, true_and, and_true, true_or, or_true, if_true_x, if_false_x, if_pos, if_neg, Int.toNat_natCast, natL, bI_0, bI_1, bI_ft, eq_self, b_tf, b_ft, not_true_eq_false, not_false_eq_true, e2, hc.t70, hc.r70_4, hc.r70_5, hc.r70_6, hc.r70_7, hc.r70_8, hc.r70_10, hc.r70_11, hc.r70_12, hc.r70_14, hc.r70_15, hc.r70_16, hc.r70_17, hc.r70_19, hc.r70_21, hc.r70_23, hc.r70_24, hc.r70_26, hc.r70_27, hc.r70_28, hc.r70_29, hc.r70_30, hc.r70_31, hc.r70_32, hc.r70_33, hc.r70_36]
    exact hq h a b _ x6 x7 (Fm.refl ok) ev ib
  | succ m ih =>
    intro r q h a b x6 x7 ok ev ib tm ht hm hq
    have e2 : h.2 70 2 = v 0 0 := by
      have : vm h 0 0 = v 0 0 := by rw [ev, gv_o (by omega)]
      exact this
    rw [hpO] at hq
    rw [e_256_21]
    simp (disch := first | assumption | omega) only [e_256_22, e_256_23, e_256_24, e_256_25, e_256_26, onI_s, onR_s, onL_s, gl_0, gl_n, gl_1, gl_2, gl_3, gl_4, gl_5, gl_6, gl_7, gl_8, gl_9, gl_10, gl_11, gl_12, gl_13, gl_14, gl_15, gl_16, gl_17, sk0i, sk0r, sk0n, sk1i, sk1r, sk1n, sk_2, sk_3, sk_4, sk_5, sk_6, sk_7, sk_8, sk_9, sk_10, sk_11, sk_12, sk_13, sk_14, sk_15, sk_16, sk_17, ls_0, ls_1, ls_2, ls_3, ls_4, ls_5, ls_6, ls_7, ls_8, ls_9, ls_10, ls_11, ls_12, ls_13, ls_14, ls_15, ls_16, ls_17, ct1_i, ct1_r, wd8_0, wd8_i1, wd8_r1, wd8_i2, wd8_r2, wd8_i3, wd8_r3, wd8_i4, wd8_r4, wd8_i5, wd8_r5, wd8_i6, wd8_r6, wd8_i7, wd8_r7, wd8_i8, wd8_r8, wd8_l2, wd8_l3, wd8_l4, wd8_l5, wd8_l6, wd8_l7, wd8_l8, tl_s, tl_n, inR_t, bd_t, true_and, and_true, true_or, or_true, if_true_x, if_false_x, if_pos, if_neg, Int.toNat_natCast, natL, bI_0, bI_1, bI_ft, eq_self, b_tf, b_ft, not_true_eq_false, not_false_eq_true, e2, hc.t70, hc.r70_4, hc.r70_5, hc.r70_6, hc.r70_7, hc.r70_8, hc.r70_10, hc.r70_11, hc.r70_12, hc.r70_14, hc.r70_15, hc.r70_16, hc.r70_17, hc.r70_19, hc.r70_21, hc.r70_23, hc.r70_24, hc.r70_26, hc.r70_27, hc.r70_28, hc.r70_29, hc.r70_30, hc.r70_31, hc.r70_32, hc.r70_33, hc.r70_36]
    refine l_256i hc (r := r) g hcc hn hS (by omega) t0 t1 S 0 q h a b x7 ok ev ib tm ht (by omega) (fun h3 a b x6 x7 f3 e3 i3 => ?_)
    rw [e_256_57]
    simp (disch := first | assumption | omega) only [e_256_58, onI_s, onR_s, onL_s, gl_0, gl_n, gl_1, gl_2, gl_3, gl_4, gl_5, gl_6, gl_7, gl_8, gl_9, gl_10, gl_11, gl_12, gl_13, gl_14, gl_15, gl_16, gl_17, sk0i, sk0r, sk0n, sk1i, sk1r, sk1n, sk_2, sk_3, sk_4, sk_5, sk_6, sk_7, sk_8, sk_9, sk_10, sk_11, sk_12, sk_13, sk_14, sk_15, sk_16, sk_17, ls_0, ls_1, ls_2, ls_3, ls_4, ls_5, ls_6, ls_7, ls_8, ls_9, ls_10, ls_11, ls_12, ls_13, ls_14, ls_15, ls_16, ls_17, ct1_i, ct1_r, wd8_0, wd8_i1, wd8_r1, wd8_i2, wd8_r2, wd8_i3, wd8_r3, wd8_i4, wd8_r4, wd8_i5, wd8_r5, wd8_i6, wd8_r6, wd8_i7, wd8_r7, wd8_i8, wd8_r8, wd8_l2, wd8_l3, wd8_l4, wd8_l5, wd8_l6, wd8_l7, wd8_l8, tl_s, tl_n, inR_t, bd_t, true_and, and_true, true_or, or_true, if_true_x, if_false_x, if_pos, if_neg, Int.toNat_natCast, natL, bI_0, bI_1, bI_ft, eq_self, b_tf, b_ft, not_true_eq_false, not_false_eq_true, cast_s]
    exact ih (r + 1) _ h3 a b _ _ (f3.ok ok) e3 i3 (by rw [f3.t]; exact tm) (by rw [f3.t]; exact ht) (by omega) (fun h4 a b x5 x6 x7 f4 e4 i4 => hq h4 a b x5 x6 x7 (f3.tr f4) e4 i4)
set_option maxHeartbeats 4000000 in
theorem m_256 {h : xH} (hc : CT X ns nb ln) (ok : Ok X h) (g : Gd (vm h)) (tm : TMb (h.1 72)) {c : Nat} (hn : (c : Int) < vm h 11 0) (hq : ∀ h2, Fm X h h2 → vm h2 = hpV (vm h) (h.1 72 4) c → Q none h2) : Cl X 256 [vr 70, vi c] h Q := by
  have nC := g.rg.nC
  have ws := g.rg.sites
  have wr := g.rg.rows
  have w7 := g.rg.row c
  have w8 := g.rg.sit c
  have hcc : c < 20 := by omega
  rw [c_256]
  simp (disch := first | assumption | omega) only [e_256_0, e_256_1, e_256_2, e_256_3, e_256_4, e_256_5, e_256_6, e_256_7, e_256_8, e_256_9, e_256_10, e_256_11, e_256_12, e_256_13, e_256_14, e_256_15, e_256_16, e_256_17, e_256_18, e_256_19, e_256_20, onI_s, onR_s, onL_s, gl_0, gl_n, gl_1, gl_2, gl_3, gl_4, gl_5, gl_6, gl_7, gl_8, gl_9, gl_10, gl_11, gl_12, gl_13, gl_14, gl_15, gl_16, gl_17, sk0i, sk0r, sk0n, sk1i, sk1r, sk1n, sk_2, sk_3, sk_4, sk_5, sk_6, sk_7, sk_8, sk_9, sk_10, sk_11, sk_12, sk_13, sk_14, sk_15, sk_16, sk_17, ls_0, ls_1, ls_2, ls_3, ls_4, ls_5, ls_6, ls_7, ls_8, ls_9, ls_10, ls_11, ls_12, ls_13, ls_14, ls_15, ls_16, ls_17, ct1_i, ct1_r, wd8_0, wd8_i1, wd8_r1, wd8_i2, wd8_r2, wd8_i3, wd8_r3, wd8_i4, wd8_r4, wd8_i5, wd8_r5, wd8_i6, wd8_r6, wd8_i7, wd8_r7, wd8_i8, wd8_r8, wd8_l2, wd8_l3, wd8_l4, wd8_l5, wd8_l6, wd8_l7, wd8_l8, tl_s, tl_n, inR_t, bd_t, true_and, and_true, true_or, or_true, if_true_x, if_false_x, if_pos, if_neg, Int.toNat_natCast, natL, bI_0, bI_1, bI_ft, eq_self, b_tf, b_ft, not_true_eq_false, not_false_eq_true, m_158, vm_17, vm_18, wirM hc g.wg tm, hc.t70, hc.r70_4, hc.r70_5, hc.r70_6, hc.r70_7, hc.r70_8, hc.r70_10, hc.r70_11, hc.r70_12, hc.r70_14, hc.r70_15, hc.r70_16, hc.r70_17, hc.r70_19, hc.r70_21, hc.r70_23, hc.r70_24, hc.r70_26, hc.r70_27, hc.r70_28, hc.r70_29, hc.r70_30, hc.r70_31, hc.r70_32, hc.r70_33, hc.r70_36, hc.t73, hc.z73]
  refine l_256 hc (v := vm h) (c := c) (S := (vm h 0 1).toNat) (R := (vm h 0 0).toNat) (t := h.1 72 4) g hcc hn (by omega) (by omega) tm.tall.1 tm.tall.2 (vm h 0 0).toNat 0 (wir (vm h) (h.1 72 4), vm h 17 c, vm h 18 c) h (vm h 17 c) (vm h 18 c) none none ok (by rw [gv_id]) ⟨w7, w8⟩ tm rfl (by omega) (fun h3 a b x5 x6 x7 f3 e3 i3 => ?_)
  rw [e_256_59]
  simp (disch := first | assumption | omega) only [e_256_60, e_256_61, e_256_62, onI_s, onR_s, onL_s, gl_0, gl_n, gl_1, gl_2, gl_3, gl_4, gl_5, gl_6, gl_7, gl_8, gl_9, gl_10, gl_11, gl_12, gl_13, gl_14, gl_15, gl_16, gl_17, sk0i, sk0r, sk0n, sk1i, sk1r, sk1n, sk_2, sk_3, sk_4, sk_5, sk_6, sk_7, sk_8, sk_9, sk_10, sk_11, sk_12, sk_13, sk_14, sk_15, sk_16, sk_17, ls_0, ls_1, ls_2, ls_3, ls_4, ls_5, ls_6, ls_7, ls_8, ls_9, ls_10, ls_11, ls_12, ls_13, ls_14, ls_15, ls_16, ls_17, ct1_i, ct1_r, wd8_0, wd8_i1, wd8_r1, wd8_i2, wd8_r2, wd8_i3, wd8_r3, wd8_i4, wd8_r4, wd8_i5, wd8_r5, wd8_i6, wd8_r6, wd8_i7, wd8_r7, wd8_i8, wd8_r8, wd8_l2, wd8_l3, wd8_l4, wd8_l5, wd8_l6, wd8_l7, wd8_l8, tl_s, tl_n, inR_t, bd_t, true_and, and_true, true_or, or_true, if_true_x, if_false_x, if_pos, if_neg, Int.toNat_natCast, natL, bI_0, bI_1, bI_ft, eq_self, b_tf, b_ft, not_true_eq_false, not_false_eq_true]
  (rw [e_256_63]; refine ⟨⟨hc.t70, by decide⟩, ?_⟩)
  refine givM hc (f3.ok ok) hcc (fun h4 f4 p4 e4 => ?_)
  rw [e3, gv_2] at e4
  simp (disch := first | assumption | omega) only [e_256_64, onI_s, onR_s, onL_s, gl_0, gl_n, gl_1, gl_2, gl_3, gl_4, gl_5, gl_6, gl_7, gl_8, gl_9, gl_10, gl_11, gl_12, gl_13, gl_14, gl_15, gl_16, gl_17, sk0i, sk0r, sk0n, sk1i, sk1r, sk1n, sk_2, sk_3, sk_4, sk_5, sk_6, sk_7, sk_8, sk_9, sk_10, sk_11, sk_12, sk_13, sk_14, sk_15, sk_16, sk_17, ls_0, ls_1, ls_2, ls_3, ls_4, ls_5, ls_6, ls_7, ls_8, ls_9, ls_10, ls_11, ls_12, ls_13, ls_14, ls_15, ls_16, ls_17, ct1_i, ct1_r, wd8_0, wd8_i1, wd8_r1, wd8_i2, wd8_r2, wd8_i3, wd8_r3, wd8_i4, wd8_r4, wd8_i5, wd8_r5, wd8_i6, wd8_r6, wd8_i7, wd8_r7, wd8_i8, wd8_r8, wd8_l2, wd8_l3, wd8_l4, wd8_l5, wd8_l6, wd8_l7, wd8_l8, tl_s, tl_n, inR_t, bd_t, true_and, and_true, true_or, or_true, if_true_x, if_false_x, if_pos, if_neg, Int.toNat_natCast, natL, bI_0, bI_1, bI_ft, eq_self, b_tf, b_ft, not_true_eq_false, not_false_eq_true]
  exact hq h4 (f3.tr f4) e4
set_option maxHeartbeats 4000000 in
theorem l_257 (hc : CT X ns nb ln) {n : Nat} {t bef : Int} (hn : n ≤ 20) : ∀ (m i : Nat) (h : xH), Ok X h → Gd (vm h) → TMb (h.1 72) → h.1 72 4 = t → vm h 11 0 = n → i + m = n → (∀ h2, Fm X h h2 → vm h2 = hpA t m i (vm h) → Ev X 257 26 [some (vr 70), some (vi bef), some (vi n)] [] h2 Q) → Ev X 257 11 [some (vr 70), some (vi bef), some (vi i)] [] h Q := by
  intro m
  induction m with
  | zero =>
    intro i h ok g tm ht hs hm hq
    rw [e_257_11]
    simp (disch := first | assumption | omega) only [e_257_12, e_257_13, e_257_14, e_257_15, e_257_16, onI_s, onR_s, onL_s, gl_0, gl_n, gl_1, gl_2, gl_3, gl_4, gl_5, gl_6, gl_7, gl_8, gl_9, gl_10, gl_11, gl_12, gl_13, gl_14, gl_15, gl_16, gl_17, sk0i, sk0r, sk0n, sk1i, sk1r, sk1n, sk_2, sk_3, sk_4, sk_5, sk_6, sk_7, sk_8, sk_9, sk_10, sk_11, sk_12, sk_13, sk_14, sk_15, sk_16, sk_17, ls_0, ls_1, ls_2, ls_3, ls_4, ls_5, ls_6, ls_7, ls_8, ls_9, ls_10, ls_11, ls_12, ls_13, ls_14, ls_15, ls_16, ls_17, ct1_i, ct1_r, wd8_0, wd8_i1, wd8_r1, wd8_i2, wd8_r2, wd8_i3, wd8_r3, wd8_i4, wd8_r4, wd8_i5, wd8_r5, wd8_i6, wd8_r6, wd8_i7, wd8_r7, wd8_i8, wd8_r8, wd8_l2, wd8_l3, wd8_l4, wd8_l5, wd8_l6, wd8_l7, wd8_l8, tl_s, tl_n, inR_t, bd_t, true_and, and_true, true_or, or_true, if_true_x, if_false_x, if_pos, if_neg, Int.toNat_natCast, natL, bI_0, bI_1, bI_ft, eq_self, b_tf, b_ft, not_true_eq_false, not_false_eq_true, tn_2, vm_nC, hs, hc.t70, hc.r70_4, hc.r70_5, hc.r70_6, hc.r70_7, hc.r70_8, hc.r70_10, hc.r70_11, hc.r70_12, hc.r70_14, hc.r70_15, hc.r70_16, hc.r70_17, hc.r70_19, hc.r70_21, hc.r70_23, hc.r70_24, hc.r70_26, hc.r70_27, hc.r70_28, hc.r70_29, hc.r70_30, hc.r70_31, hc.r70_32, hc.r70_33, hc.r70_36, hc.t73, hc.z73]
    rw [show i = n by omega]
    exact hq h (Fm.refl ok) rfl
  | succ m ih =>
    intro i h ok g tm ht hs hm hq
    rw [hpA] at hq
    rw [e_257_11]
    cases e : lpB (vm h) i
    · rw [if_neg (by rw [e]; simp)] at hq
      simp (disch := first | assumption | omega) only [e_257_12, e_257_13, e_257_14, e_257_15, e_257_16, e_257_17, e_257_18, e_257_19, e_257_20, e_257_24, e_257_25, onI_s, onR_s, onL_s, gl_0, gl_n, gl_1, gl_2, gl_3, gl_4, gl_5, gl_6, gl_7, gl_8, gl_9, gl_10, gl_11, gl_12, gl_13, gl_14, gl_15, gl_16, gl_17, sk0i, sk0r, sk0n, sk1i, sk1r, sk1n, sk_2, sk_3, sk_4, sk_5, sk_6, sk_7, sk_8, sk_9, sk_10, sk_11, sk_12, sk_13, sk_14, sk_15, sk_16, sk_17, ls_0, ls_1, ls_2, ls_3, ls_4, ls_5, ls_6, ls_7, ls_8, ls_9, ls_10, ls_11, ls_12, ls_13, ls_14, ls_15, ls_16, ls_17, ct1_i, ct1_r, wd8_0, wd8_i1, wd8_r1, wd8_i2, wd8_r2, wd8_i3, wd8_r3, wd8_i4, wd8_r4, wd8_i5, wd8_r5, wd8_i6, wd8_r6, wd8_i7, wd8_r7, wd8_i8, wd8_r8, wd8_l2, wd8_l3, wd8_l4, wd8_l5, wd8_l6, wd8_l7, wd8_l8, tl_s, tl_n, inR_t, bd_t, true_and, and_true, true_or, or_true, if_true_x, if_false_x, if_pos, if_neg, Int.toNat_natCast, natL, bI_0, bI_1, bI_ft, eq_self, b_tf, b_ft, not_true_eq_false, not_false_eq_true, tn_2, vm_nC, hs, m_164 hc g.rg, e, cast_s, hc.t70, hc.r70_4, hc.r70_5, hc.r70_6, hc.r70_7, hc.r70_8, hc.r70_10, hc.r70_11, hc.r70_12, hc.r70_14, hc.r70_15, hc.r70_16, hc.r70_17, hc.r70_19, hc.r70_21, hc.r70_23, hc.r70_24, hc.r70_26, hc.r70_27, hc.r70_28, hc.r70_29, hc.r70_30, hc.r70_31, hc.r70_32, hc.r70_33, hc.r70_36, hc.t73, hc.z73]
      exact ih (i + 1) h ok g tm ht hs (by omega) hq
    · rw [if_pos e] at hq
      simp (disch := first | assumption | omega) only [e_257_12, e_257_13, e_257_14, e_257_15, e_257_16, e_257_17, e_257_18, e_257_19, e_257_20, e_257_21, e_257_22, onI_s, onR_s, onL_s, gl_0, gl_n, gl_1, gl_2, gl_3, gl_4, gl_5, gl_6, gl_7, gl_8, gl_9, gl_10, gl_11, gl_12, gl_13, gl_14, gl_15, gl_16, gl_17, sk0i, sk0r, sk0n, sk1i, sk1r, sk1n, sk_2, sk_3, sk_4, sk_5, sk_6, sk_7, sk_8, sk_9, sk_10, sk_11, sk_12, sk_13, sk_14, sk_15, sk_16, sk_17, ls_0, ls_1, ls_2, ls_3, ls_4, ls_5, ls_6, ls_7, ls_8, ls_9, ls_10, ls_11, ls_12, ls_13, ls_14, ls_15, ls_16, ls_17, ct1_i, ct1_r, wd8_0, wd8_i1, wd8_r1, wd8_i2, wd8_r2, wd8_i3, wd8_r3, wd8_i4, wd8_r4, wd8_i5, wd8_r5, wd8_i6, wd8_r6, wd8_i7, wd8_r7, wd8_i8, wd8_r8, wd8_l2, wd8_l3, wd8_l4, wd8_l5, wd8_l6, wd8_l7, wd8_l8, tl_s, tl_n, inR_t, bd_t, true_and, and_true, true_or, or_true, if_true_x, if_false_x, if_pos, if_neg, Int.toNat_natCast, natL, bI_0, bI_1, bI_ft, eq_self, b_tf, b_ft, not_true_eq_false, not_false_eq_true, tn_2, vm_nC, hs, m_164 hc g.rg, e, hc.t70, hc.r70_4, hc.r70_5, hc.r70_6, hc.r70_7, hc.r70_8, hc.r70_10, hc.r70_11, hc.r70_12, hc.r70_14, hc.r70_15, hc.r70_16, hc.r70_17, hc.r70_19, hc.r70_21, hc.r70_23, hc.r70_24, hc.r70_26, hc.r70_27, hc.r70_28, hc.r70_29, hc.r70_30, hc.r70_31, hc.r70_32, hc.r70_33, hc.r70_36, hc.t73, hc.z73]
      (rw [e_257_23]; refine ⟨⟨hc.t70, by decide⟩, ?_⟩)
      refine m_256 hc ok g tm (by rw [hs]; omega) (fun h2 f2 e2 => ?_)
      rw [ht] at e2
      simp (disch := first | assumption | omega) only [e_257_24, e_257_25, onI_s, onR_s, onL_s, gl_0, gl_n, gl_1, gl_2, gl_3, gl_4, gl_5, gl_6, gl_7, gl_8, gl_9, gl_10, gl_11, gl_12, gl_13, gl_14, gl_15, gl_16, gl_17, sk0i, sk0r, sk0n, sk1i, sk1r, sk1n, sk_2, sk_3, sk_4, sk_5, sk_6, sk_7, sk_8, sk_9, sk_10, sk_11, sk_12, sk_13, sk_14, sk_15, sk_16, sk_17, ls_0, ls_1, ls_2, ls_3, ls_4, ls_5, ls_6, ls_7, ls_8, ls_9, ls_10, ls_11, ls_12, ls_13, ls_14, ls_15, ls_16, ls_17, ct1_i, ct1_r, wd8_0, wd8_i1, wd8_r1, wd8_i2, wd8_r2, wd8_i3, wd8_r3, wd8_i4, wd8_r4, wd8_i5, wd8_r5, wd8_i6, wd8_r6, wd8_i7, wd8_r7, wd8_i8, wd8_r8, wd8_l2, wd8_l3, wd8_l4, wd8_l5, wd8_l6, wd8_l7, wd8_l8, tl_s, tl_n, inR_t, bd_t, true_and, and_true, true_or, or_true, if_true_x, if_false_x, if_pos, if_neg, Int.toNat_natCast, natL, bI_0, bI_1, bI_ft, eq_self, b_tf, b_ft, not_true_eq_false, not_false_eq_true, cast_s]
      refine ih (i + 1) h2 (f2.ok ok) (by rw [e2]; exact hpV_gd g (by rw [hs]; omega) e) (by rw [f2.t]; exact tm) (by rw [f2.t]; exact ht) (by rw [e2, hpV_o (by omega)]; exact hs) (by omega) (fun h3 f3 e3 => hq h3 (f2.tr f3) ?_)
      rw [e3, e2]
set_option maxHeartbeats 4000000 in
theorem q_257 {h : xH} (ok : Ok X h) (g : Gd (vm h)) (tm : TMb (h.1 72)) (hq : ∀ h2, Mst X h h2 → mS h2 = (spHops (mS h)).2 → Q (some (vi (spHops (mS h)).1)) h2) : Ev X 257 3 [some (vr 70), none, none] [] h Q := by
  have ok0 := ok
  obtain ⟨z, os, oc, om, ⟨nb, ln, hc, hnb⟩, lp⟩ := ok
  have hw := g.rg
  have nC := hw.nC
  have tt := tm.tall
  have wb := wir_bd g.wg tt.1 tt.2
  unfold spHops at hq
  rw [show (mS h).1 = vm h from rfl, show (mS h).2.1 = h.1 72 from rfl] at hq
  simp (disch := first | assumption | omega) only [e_257_3, e_257_4, onI_s, onR_s, onL_s, gl_0, gl_n, gl_1, gl_2, gl_3, gl_4, gl_5, gl_6, gl_7, gl_8, gl_9, gl_10, gl_11, gl_12, gl_13, gl_14, gl_15, gl_16, gl_17, sk0i, sk0r, sk0n, sk1i, sk1r, sk1n, sk_2, sk_3, sk_4, sk_5, sk_6, sk_7, sk_8, sk_9, sk_10, sk_11, sk_12, sk_13, sk_14, sk_15, sk_16, sk_17, ls_0, ls_1, ls_2, ls_3, ls_4, ls_5, ls_6, ls_7, ls_8, ls_9, ls_10, ls_11, ls_12, ls_13, ls_14, ls_15, ls_16, ls_17, ct1_i, ct1_r, wd8_0, wd8_i1, wd8_r1, wd8_i2, wd8_r2, wd8_i3, wd8_r3, wd8_i4, wd8_r4, wd8_i5, wd8_r5, wd8_i6, wd8_r6, wd8_i7, wd8_r7, wd8_i8, wd8_r8, wd8_l2, wd8_l3, wd8_l4, wd8_l5, wd8_l6, wd8_l7, wd8_l8, tl_s, tl_n, inR_t, bd_t, true_and, and_true, true_or, or_true, if_true_x, if_false_x, if_pos, if_neg, Int.toNat_natCast, natL, bI_0, bI_1, bI_ft, eq_self, b_tf, b_ft, not_true_eq_false, not_false_eq_true]
  (rw [e_257_5]; refine ⟨⟨hc.t70, by decide⟩, ?_⟩)
  refine kpM ok0 (fun h2 k => ?_)
  have g2 : Gd (vm h2) := by rw [k.pv]; exact g
  have tm2 : TMb (h2.1 72) := by rw [k.t]; exact tm
  simp (disch := first | assumption | omega) only [e_257_6, e_257_7, e_257_8, e_257_9, e_257_10, onI_s, onR_s, onL_s, gl_0, gl_n, gl_1, gl_2, gl_3, gl_4, gl_5, gl_6, gl_7, gl_8, gl_9, gl_10, gl_11, gl_12, gl_13, gl_14, gl_15, gl_16, gl_17, sk0i, sk0r, sk0n, sk1i, sk1r, sk1n, sk_2, sk_3, sk_4, sk_5, sk_6, sk_7, sk_8, sk_9, sk_10, sk_11, sk_12, sk_13, sk_14, sk_15, sk_16, sk_17, ls_0, ls_1, ls_2, ls_3, ls_4, ls_5, ls_6, ls_7, ls_8, ls_9, ls_10, ls_11, ls_12, ls_13, ls_14, ls_15, ls_16, ls_17, ct1_i, ct1_r, wd8_0, wd8_i1, wd8_r1, wd8_i2, wd8_r2, wd8_i3, wd8_r3, wd8_i4, wd8_r4, wd8_i5, wd8_r5, wd8_i6, wd8_r6, wd8_i7, wd8_r7, wd8_i8, wd8_r8, wd8_l2, wd8_l3, wd8_l4, wd8_l5, wd8_l6, wd8_l7, wd8_l8, tl_s, tl_n, inR_t, bd_t, true_and, and_true, true_or, or_true, if_true_x, if_false_x, if_pos, if_neg, Int.toNat_natCast, natL, bI_0, bI_1, bI_ft, eq_self, b_tf, b_ft, not_true_eq_false, not_false_eq_true, wirM hc g2.wg tm2, k.pv, k.t, hc.t70, hc.r70_4, hc.r70_5, hc.r70_6, hc.r70_7, hc.r70_8, hc.r70_10, hc.r70_11, hc.r70_12, hc.r70_14, hc.r70_15, hc.r70_16, hc.r70_17, hc.r70_19, hc.r70_21, hc.r70_23, hc.r70_24, hc.r70_26, hc.r70_27, hc.r70_28, hc.r70_29, hc.r70_30, hc.r70_31, hc.r70_32, hc.r70_33, hc.r70_36]
  refine l_257 hc (n := (vm h 11 0).toNat) (bef := wir (vm h) (h.1 72 4)) (t := h.1 72 4) (by omega) (vm h 11 0).toNat 0 h2 k.1 g2 tm2 (by rw [k.t]) (by rw [k.pv]; omega) (by omega) (fun h3 f3 e3 => ?_)
  rw [k.pv] at e3
  have g3 : Gd (vm h3) := by rw [e3]; exact hpA_gd _ _ _ g (by omega)
  have tm3 : TMb (h3.1 72) := by rw [f3.t]; exact tm2
  have ht3 : h3.1 72 = h.1 72 := by rw [f3.t]; exact k.t
  have wb3 := wir_bd g3.wg tt.1 tt.2
  rw [e_257_26]
  simp (disch := first | assumption | omega) only [e_257_27, e_257_28, e_257_29, e_257_30, e_257_31, e_257_32, onI_s, onR_s, onL_s, gl_0, gl_n, gl_1, gl_2, gl_3, gl_4, gl_5, gl_6, gl_7, gl_8, gl_9, gl_10, gl_11, gl_12, gl_13, gl_14, gl_15, gl_16, gl_17, sk0i, sk0r, sk0n, sk1i, sk1r, sk1n, sk_2, sk_3, sk_4, sk_5, sk_6, sk_7, sk_8, sk_9, sk_10, sk_11, sk_12, sk_13, sk_14, sk_15, sk_16, sk_17, ls_0, ls_1, ls_2, ls_3, ls_4, ls_5, ls_6, ls_7, ls_8, ls_9, ls_10, ls_11, ls_12, ls_13, ls_14, ls_15, ls_16, ls_17, ct1_i, ct1_r, wd8_0, wd8_i1, wd8_r1, wd8_i2, wd8_r2, wd8_i3, wd8_r3, wd8_i4, wd8_r4, wd8_i5, wd8_r5, wd8_i6, wd8_r6, wd8_i7, wd8_r7, wd8_i8, wd8_r8, wd8_l2, wd8_l3, wd8_l4, wd8_l5, wd8_l6, wd8_l7, wd8_l8, tl_s, tl_n, inR_t, bd_t, true_and, and_true, true_or, or_true, if_true_x, if_false_x, if_pos, if_neg, Int.toNat_natCast, natL, bI_0, bI_1, bI_ft, eq_self, b_tf, b_ft, not_true_eq_false, not_false_eq_true, wirM hc g3.wg tm3, m_153 hc, ht3, hc.t70, hc.r70_4, hc.r70_5, hc.r70_6, hc.r70_7, hc.r70_8, hc.r70_10, hc.r70_11, hc.r70_12, hc.r70_14, hc.r70_15, hc.r70_16, hc.r70_17, hc.r70_19, hc.r70_21, hc.r70_23, hc.r70_24, hc.r70_26, hc.r70_27, hc.r70_28, hc.r70_29, hc.r70_30, hc.r70_31, hc.r70_32, hc.r70_33, hc.r70_36]
  rw [e3]
  exact hq _ (act_m (r := 0) k f3 e3).1 (act_m (r := 0) k f3 e3).2
theorem p_257 {h : xH} (ok : Ok X h) (g : Gd (vm h)) (tm : TMb (h.1 72)) (hq : ∀ h2, Mst X h h2 → mS h2 = (spHops (mS h)).2 → Q (some (vi (spHops (mS h)).1)) h2) : Cl X 257 [vr 70] h Q := by
  obtain ⟨nb, ln, hc, hnb⟩ := ok.2.2.2.2.1
  rw [c_257]
  simp (disch := first | assumption | omega) only [e_257_0, e_257_1, e_257_2, onI_s, onR_s, onL_s, gl_0, gl_n, gl_1, gl_2, gl_3, gl_4, gl_5, gl_6, gl_7, gl_8, gl_9, gl_10, gl_11, gl_12, gl_13, gl_14, gl_15, gl_16, gl_17, sk0i, sk0r, sk0n, sk1i, sk1r, sk1n, sk_2, sk_3, sk_4, sk_5, sk_6, sk_7, sk_8, sk_9, sk_10, sk_11, sk_12, sk_13, sk_14, sk_15, sk_16, sk_17, ls_0, ls_1, ls_2, ls_3, ls_4, ls_5, ls_6, ls_7, ls_8, ls_9, ls_10, ls_11, ls_12, ls_13, ls_14, ls_15, ls_16, ls_17, ct1_i, ct1_r, wd8_0, wd8_i1, wd8_r1, wd8_i2, wd8_r2, wd8_i3, wd8_r3, wd8_i4, wd8_r4, wd8_i5, wd8_r5, wd8_i6, wd8_r6, wd8_i7, wd8_r7, wd8_i8, wd8_r8, wd8_l2, wd8_l3, wd8_l4, wd8_l5, wd8_l6, wd8_l7, wd8_l8, tl_s, tl_n, inR_t, bd_t, true_and, and_true, true_or, or_true, if_true_x, if_false_x, if_pos, if_neg, Int.toNat_natCast, natL, bI_0, bI_1, bI_ft, eq_self, b_tf, b_ft, not_true_eq_false, not_false_eq_true, hc.t70]
  exact q_257 (thr_ok ok) (by rw [thr_v]; exact g) tm (thr (sp := fun s => spHops s) ok hq)
end HPN
