/-! SORTS in the reference -/
def GGp (h h2 : xH) : Prop := (∀ a, a ≠ 92 → a ≠ 93 → a ≠ 94 → h2.1 a = h.1 a) ∧ (∀ a k, ¬ (a = 70 ∧ k = 34) → h2.2 a k = h.2 a k)
theorem GGp.refl {h : xH} : GGp h h := ⟨fun _ _ _ _ => rfl, fun _ _ _ => rfl⟩
theorem GGp.tr {h h2 h3 : xH} (g : GGp h h2) (k : GGp h2 h3) : GGp h h3 := ⟨fun a q r s => (k.1 a q r s).trans (g.1 a q r s), fun a j q => (k.2 a j q).trans (g.2 a j q)⟩
theorem GGp.vm {h h2 : xH} (g : GGp h h2) : vm h2 = vm h := by
  show rv (h2.1 73) (h2.2 70 2) (h2.2 70 3) = rv (h.1 73) (h.2 70 2) (h.2 70 3)
  rw [g.1 73 (by omega) (by omega) (by omega), g.2 70 2 (by decide), g.2 70 3 (by decide)]
def GSm (h : xH) (v : Nat → Nat → Int) (G : List Nat) : Prop := h.2 70 34 = G.length ∧ R1 (h.1 92) G ∧ ∀ j, j < G.length → h.1 93 j = v 17 (G.getD j 0) ∧ h.1 94 j = v 18 (G.getD j 0)
section SRA
variable {X : xL} {Q : Option xV → xH → Prop} {ns nb ln : Nat} {h : xH}
set_option maxHeartbeats 4000000 in
theorem m_258 (hc : CT X ns nb ln) (hw : RGv (vm h)) (nd : NDv (vm h)) {a b : Nat} (ha : a < 200) (hb : b < 200) : Cl X 258 [vr 70, vi a, vi b] h Q ↔ Q (some (vi (bI (shP (vm h) a b)))) h := by
  have nN := hw.nN
  have lp : ∀ (m i : Nat) (so : Bool), i + m = (vm h 19 0).toNat → (Ev X 258 4 [some (vr 70), some (vi a), some (vi b), some (vi (bI so)), some (vi i)] [] h Q ↔ Q (some (vi (bI (so || srch (shB (vm h) a b) m i)))) h) := by
    intro m
    induction m with
    | zero =>
      intro i so hm
      have e3 : h.1 73 3 = vm h 19 0 := rfl
      rw [e_258_4, srch, Bool.or_false]
      cases so <;> (simp (disch := first | assumption | omega) only [e_258_5, e_258_6, e_258_7, e_258_8, e_258_9, e_258_30, e_258_31, onI_s, onR_s, onL_s, gl_0, gl_n, gl_1, gl_2, gl_3, gl_4, gl_5, gl_6, gl_7, gl_8, gl_9, gl_10, gl_11, gl_12, gl_13, gl_14, gl_15, gl_16, gl_17, sk0i, sk0r, sk0n, sk1i, sk1r, sk1n, sk_2, sk_3, sk_4, sk_5, sk_6, sk_7, sk_8, sk_9, sk_10, sk_11, sk_12, sk_13, sk_14, sk_15, sk_16, sk_17, ls_0, ls_1, ls_2, ls_3, ls_4, ls_5, ls_6, ls_7, ls_8, ls_9, ls_10, ls_11, ls_12, ls_13, ls_14, ls_15, ls_16, ls_17, ct1_i, ct1_r, wd8_0, wd8_i1, wd8_r1, wd8_i2, wd8_r2, wd8_i3, wd8_r3, wd8_i4, wd8_r4, wd8_i5, wd8_r5, wd8_i6, wd8_r6, wd8_i7, wd8_r7, wd8_i8, wd8_r8, wd8_l2, wd8_l3, wd8_l4, wd8_l5, wd8_l6, wd8_l7, wd8_l8, tl_s, tl_n, inR_t, bd_t, true_and, and_true, true_or, or_true, if_true_x, if_false_x, if_pos, if_neg, Int.toNat_natCast, natL, bI_0, bI_1, bI_ft, eq_self, b_tf, b_ft, not_true_eq_false, not_false_eq_true, tn_3, e3, hc.t70, hc.r70_4, hc.r70_5, hc.r70_6, hc.r70_7, hc.r70_8, hc.r70_10, hc.r70_11, hc.r70_12, hc.r70_14, hc.r70_15, hc.r70_16, hc.r70_17, hc.r70_19, hc.r70_21, hc.r70_23, hc.r70_24, hc.r70_26, hc.r70_27, hc.r70_28, hc.r70_29, hc.r70_30, hc.r70_31, hc.r70_32, hc.r70_33, hc.r70_36, hc.t73, hc.z73])
    | succ m ih =>
      intro i so hm
      have e3 : h.1 73 3 = vm h 19 0 := rfl
      have il : (i : Int) < vm h 19 0 := by omega
      rw [e_258_4, srch]
      cases so with
      | true =>
        have := ih (i + 1) true (by omega)
        rw [Bool.true_or] at this ⊢
        rw [← this]
        simp (disch := first | assumption | omega) only [e_258_5, e_258_6, e_258_7, e_258_8, e_258_9, e_258_10, e_258_11, e_258_24, e_258_25, e_258_27, e_258_28, e_258_29, onI_s, onR_s, onL_s, gl_0, gl_n, gl_1, gl_2, gl_3, gl_4, gl_5, gl_6, gl_7, gl_8, gl_9, gl_10, gl_11, gl_12, gl_13, gl_14, gl_15, gl_16, gl_17, sk0i, sk0r, sk0n, sk1i, sk1r, sk1n, sk_2, sk_3, sk_4, sk_5, sk_6, sk_7, sk_8, sk_9, sk_10, sk_11, sk_12, sk_13, sk_14, sk_15, sk_16, sk_17, ls_0, ls_1, ls_2, ls_3, ls_4, ls_5, ls_6, ls_7, ls_8, ls_9, ls_10, ls_11, ls_12, ls_13, ls_14, ls_15, ls_16, ls_17, ct1_i, ct1_r, wd8_0, wd8_i1, wd8_r1, wd8_i2, wd8_r2, wd8_i3, wd8_r3, wd8_i4, wd8_r4, wd8_i5, wd8_r5, wd8_i6, wd8_r6, wd8_i7, wd8_r7, wd8_i8, wd8_r8, wd8_l2, wd8_l3, wd8_l4, wd8_l5, wd8_l6, wd8_l7, wd8_l8, tl_s, tl_n, inR_t, bd_t, true_and, and_true, true_or, or_true, if_true_x, if_false_x, if_pos, if_neg, Int.toNat_natCast, natL, bI_0, bI_1, bI_ft, eq_self, b_tf, b_ft, not_true_eq_false, not_false_eq_true, tn_3, e3, cast_s, hc.t70, hc.r70_4, hc.r70_5, hc.r70_6, hc.r70_7, hc.r70_8, hc.r70_10, hc.r70_11, hc.r70_12, hc.r70_14, hc.r70_15, hc.r70_16, hc.r70_17, hc.r70_19, hc.r70_21, hc.r70_23, hc.r70_24, hc.r70_26, hc.r70_27, hc.r70_28, hc.r70_29, hc.r70_30, hc.r70_31, hc.r70_32, hc.r70_33, hc.r70_36, hc.t73, hc.z73]
        rfl
      | false =>
        rw [Bool.false_or]
        have p1 : shB (vm h) a b i = (!decide (pnO (vm h) i a = -1) && !decide (pnO (vm h) i b = -1)) := rfl
        by_cases c1 : pnO (vm h) i a = -1
        · have pf : shB (vm h) a b i = false := by rw [p1, decide_eq_true c1]; rfl
          have := ih (i + 1) false (by omega)
          rw [Bool.false_or] at this
          rw [pf, if_neg (by decide), ← this]
          simp (disch := first | assumption | omega) only [e_258_5, e_258_6, e_258_7, e_258_8, e_258_9, e_258_10, e_258_11, e_258_12, e_258_13, e_258_14, e_258_15, e_258_16, e_258_17, e_258_26, e_258_27, e_258_28, e_258_29, onI_s, onR_s, onL_s, gl_0, gl_n, gl_1, gl_2, gl_3, gl_4, gl_5, gl_6, gl_7, gl_8, gl_9, gl_10, gl_11, gl_12, gl_13, gl_14, gl_15, gl_16, gl_17, sk0i, sk0r, sk0n, sk1i, sk1r, sk1n, sk_2, sk_3, sk_4, sk_5, sk_6, sk_7, sk_8, sk_9, sk_10, sk_11, sk_12, sk_13, sk_14, sk_15, sk_16, sk_17, ls_0, ls_1, ls_2, ls_3, ls_4, ls_5, ls_6, ls_7, ls_8, ls_9, ls_10, ls_11, ls_12, ls_13, ls_14, ls_15, ls_16, ls_17, ct1_i, ct1_r, wd8_0, wd8_i1, wd8_r1, wd8_i2, wd8_r2, wd8_i3, wd8_r3, wd8_i4, wd8_r4, wd8_i5, wd8_r5, wd8_i6, wd8_r6, wd8_i7, wd8_r7, wd8_i8, wd8_r8, wd8_l2, wd8_l3, wd8_l4, wd8_l5, wd8_l6, wd8_l7, wd8_l8, tl_s, tl_n, inR_t, bd_t, true_and, and_true, true_or, or_true, if_true_x, if_false_x, if_pos, if_neg, Int.toNat_natCast, natL, bI_0, bI_1, bI_ft, eq_self, b_tf, b_ft, not_true_eq_false, not_false_eq_true, tn_3, e3, m_223 hc hw nd il ha, c1, cast_s, hc.t70, hc.r70_4, hc.r70_5, hc.r70_6, hc.r70_7, hc.r70_8, hc.r70_10, hc.r70_11, hc.r70_12, hc.r70_14, hc.r70_15, hc.r70_16, hc.r70_17, hc.r70_19, hc.r70_21, hc.r70_23, hc.r70_24, hc.r70_26, hc.r70_27, hc.r70_28, hc.r70_29, hc.r70_30, hc.r70_31, hc.r70_32, hc.r70_33, hc.r70_36, hc.t73, hc.z73]
          rfl
        · by_cases c2 : pnO (vm h) i b = -1
          · have pf : shB (vm h) a b i = false := by rw [p1, decide_eq_true c2]; simp
            have := ih (i + 1) false (by omega)
            rw [Bool.false_or] at this
            rw [pf, if_neg (by decide), ← this]
            simp (disch := first | assumption | omega) only [e_258_5, e_258_6, e_258_7, e_258_8, e_258_9, e_258_10, e_258_11, e_258_12, e_258_13, e_258_14, e_258_15, e_258_16, e_258_17, e_258_18, e_258_19, e_258_20, e_258_21, e_258_22, e_258_23, e_258_26, e_258_27, e_258_28, e_258_29, onI_s, onR_s, onL_s, gl_0, gl_n, gl_1, gl_2, gl_3, gl_4, gl_5, gl_6, gl_7, gl_8, gl_9, gl_10, gl_11, gl_12, gl_13, gl_14, gl_15, gl_16, gl_17, sk0i, sk0r, sk0n, sk1i, sk1r, sk1n, sk_2, sk_3, sk_4, sk_5, sk_6, sk_7, sk_8, sk_9, sk_10, sk_11, sk_12, sk_13, sk_14, sk_15, sk_16, sk_17, ls_0, ls_1, ls_2, ls_3, ls_4, ls_5, ls_6, ls_7, ls_8, ls_9, ls_10, ls_11, ls_12, ls_13, ls_14, ls_15, ls_16, ls_17, ct1_i, ct1_r, wd8_0, wd8_i1, wd8_r1, wd8_i2, wd8_r2, wd8_i3, wd8_r3, wd8_i4, wd8_r4, wd8_i5, wd8_r5, wd8_i6, wd8_r6, wd8_i7, wd8_r7, wd8_i8, wd8_r8, wd8_l2, wd8_l3, wd8_l4, wd8_l5, wd8_l6, wd8_l7, wd8_l8, tl_s, tl_n, inR_t, bd_t, true_and, and_true, true_or, or_true, if_true_x, if_false_x, if_pos, if_neg, Int.toNat_natCast, natL, bI_0, bI_1, bI_ft, eq_self, b_tf, b_ft, not_true_eq_false, not_false_eq_true, tn_3, e3, m_223 hc hw nd il ha, m_223 hc hw nd il hb, c1, c2, cast_s, hc.t70, hc.r70_4, hc.r70_5, hc.r70_6, hc.r70_7, hc.r70_8, hc.r70_10, hc.r70_11, hc.r70_12, hc.r70_14, hc.r70_15, hc.r70_16, hc.r70_17, hc.r70_19, hc.r70_21, hc.r70_23, hc.r70_24, hc.r70_26, hc.r70_27, hc.r70_28, hc.r70_29, hc.r70_30, hc.r70_31, hc.r70_32, hc.r70_33, hc.r70_36, hc.t73, hc.z73]
            rfl
          · have pf : shB (vm h) a b i = true := by rw [p1, decide_eq_false c1, decide_eq_false c2]; rfl
            have := ih (i + 1) true (by omega)
            rw [Bool.true_or] at this
            rw [pf, if_pos rfl, ← this]
            simp (disch := first | assumption | omega) only [e_258_5, e_258_6, e_258_7, e_258_8, e_258_9, e_258_10, e_258_11, e_258_12, e_258_13, e_258_14, e_258_15, e_258_16, e_258_17, e_258_18, e_258_19, e_258_20, e_258_21, e_258_22, e_258_23, e_258_24, e_258_25, e_258_27, e_258_28, e_258_29, onI_s, onR_s, onL_s, gl_0, gl_n, gl_1, gl_2, gl_3, gl_4, gl_5, gl_6, gl_7, gl_8, gl_9, gl_10, gl_11, gl_12, gl_13, gl_14, gl_15, gl_16, gl_17, sk0i, sk0r, sk0n, sk1i, sk1r, sk1n, sk_2, sk_3, sk_4, sk_5, sk_6, sk_7, sk_8, sk_9, sk_10, sk_11, sk_12, sk_13, sk_14, sk_15, sk_16, sk_17, ls_0, ls_1, ls_2, ls_3, ls_4, ls_5, ls_6, ls_7, ls_8, ls_9, ls_10, ls_11, ls_12, ls_13, ls_14, ls_15, ls_16, ls_17, ct1_i, ct1_r, wd8_0, wd8_i1, wd8_r1, wd8_i2, wd8_r2, wd8_i3, wd8_r3, wd8_i4, wd8_r4, wd8_i5, wd8_r5, wd8_i6, wd8_r6, wd8_i7, wd8_r7, wd8_i8, wd8_r8, wd8_l2, wd8_l3, wd8_l4, wd8_l5, wd8_l6, wd8_l7, wd8_l8, tl_s, tl_n, inR_t, bd_t, true_and, and_true, true_or, or_true, if_true_x, if_false_x, if_pos, if_neg, Int.toNat_natCast, natL, bI_0, bI_1, bI_ft, eq_self, b_tf, b_ft, not_true_eq_false, not_false_eq_true, tn_3, e3, m_223 hc hw nd il ha, m_223 hc hw nd il hb, c1, c2, cast_s, hc.t70, hc.r70_4, hc.r70_5, hc.r70_6, hc.r70_7, hc.r70_8, hc.r70_10, hc.r70_11, hc.r70_12, hc.r70_14, hc.r70_15, hc.r70_16, hc.r70_17, hc.r70_19, hc.r70_21, hc.r70_23, hc.r70_24, hc.r70_26, hc.r70_27, hc.r70_28, hc.r70_29, hc.r70_30, hc.r70_31, hc.r70_32, hc.r70_33, hc.r70_36, hc.t73, hc.z73]
            rfl
  rw [c_258]
  simp (disch := first | assumption | omega) only [e_258_0, e_258_1, e_258_2, e_258_3, onI_s, onR_s, onL_s, gl_0, gl_n, gl_1, gl_2, gl_3, gl_4, gl_5, gl_6, gl_7, gl_8, gl_9, gl_10, gl_11, gl_12, gl_13, gl_14, gl_15, gl_16, gl_17, sk0i, sk0r, sk0n, sk1i, sk1r, sk1n, sk_2, sk_3, sk_4, sk_5, sk_6, sk_7, sk_8, sk_9, sk_10, sk_11, sk_12, sk_13, sk_14, sk_15, sk_16, sk_17, ls_0, ls_1, ls_2, ls_3, ls_4, ls_5, ls_6, ls_7, ls_8, ls_9, ls_10, ls_11, ls_12, ls_13, ls_14, ls_15, ls_16, ls_17, ct1_i, ct1_r, wd8_0, wd8_i1, wd8_r1, wd8_i2, wd8_r2, wd8_i3, wd8_r3, wd8_i4, wd8_r4, wd8_i5, wd8_r5, wd8_i6, wd8_r6, wd8_i7, wd8_r7, wd8_i8, wd8_r8, wd8_l2, wd8_l3, wd8_l4, wd8_l5, wd8_l6, wd8_l7, wd8_l8, tl_s, tl_n, inR_t, bd_t, true_and, and_true, true_or, or_true, if_true_x, if_false_x, if_pos, if_neg, Int.toNat_natCast, natL, bI_0, bI_1, bI_ft, eq_self, b_tf, b_ft, not_true_eq_false, not_false_eq_true]
  have := lp (vm h 19 0).toNat 0 false (by omega)
  rw [Bool.false_or] at this
  exact this
theorem GSm.snoc (hc : CT X ns nb ln) {v : Nat → Nat → Int} {G : List Nat} {c : Nat} (s : GSm h v G) (z : NZ X h) (l5 : G.length < 5) : NZ X (up2 (up2 (up2 h.1 92 G.length c) 93 G.length (v 17 c)) 94 G.length (v 18 c), up2 h.2 70 34 ((G.length : Int) + 1)) ∧ GGp h (up2 (up2 (up2 h.1 92 G.length c) 93 G.length (v 17 c)) 94 G.length (v 18 c), up2 h.2 70 34 ((G.length : Int) + 1)) ∧ GSm (up2 (up2 (up2 h.1 92 G.length c) 93 G.length (v 17 c)) 94 G.length (v 18 c), up2 h.2 70 34 ((G.length : Int) + 1)) v (G ++ [c]) := by
  refine ⟨NZ.up (F := h.2) (NZ.up (F := h.2) (NZ.up (I := h.1) (F := h.2) z (by rw [hc.z92]; omega)) (by rw [hc.z93]; omega)) (by rw [hc.z94]; omega), ⟨fun a q1 q2 q3 => ?_, fun a k q => ?_⟩, ?_, ?_, ?_⟩
  · dsimp only
    rw [up2_of q3, up2_of q2, up2_of q1]
  · dsimp only
    rw [up2_eq, if_neg q]
  · dsimp only
    rw [up2_self]
    simp
  · refine R1.snoc s.2.1 (fun k => ?_)
    dsimp only
    rw [up2_of (by omega), up2_of (by omega), up2_same]
  · intro j hj
    dsimp only
    rw [up2_of (by omega), up2_same, up2_same, up2_of (by omega), up2_of (by omega), up2_of (by omega)]
    rw [List.length_append, List.length_singleton] at hj
    by_cases e : j = G.length
    · have gd : (G ++ [c]).getD j 0 = c := by rw [e]; simp
      rw [if_pos e, if_pos e, gd]
      exact ⟨rfl, rfl⟩
    · have gd : (G ++ [c]).getD j 0 = G.getD j 0 := by
        rw [List.getD_eq_getElem?_getD, List.getElem?_append_left (by omega), ← List.getD_eq_getElem?_getD]
      rw [if_neg e, if_neg e, gd]
      exact s.2.2 j (by omega)
set_option maxHeartbeats 8000000 in
theorem l_259i (hc : CT X ns nb ln) (hw : RGv (vm h)) (nd : NDv (vm h)) {c : Nat} {f ww : Int} (c20 : c < 20) {G : List Nat} (g5 : G.length ≤ 5) (gc : ∀ d, d ∈ G → d < 20) (hn : h.2 70 34 = G.length) (r : R1 (h.1 92) G) : ∀ (M : List Nat) (i : Nat) (may : Bool), G.drop i = M → i + M.length = G.length → (∀ x5, Ev X 259 55 [some (vr 70), some (vi f), some (vi ww), some (vi c), some (vi (bI (may && !shG (vm h) c M))), x5] [] h Q) → Ev X 259 35 [some (vr 70), some (vi f), some (vi ww), some (vi c), some (vi (bI may)), some (vi i)] [] h Q := by
  intro M
  induction M with
  | nil =>
    intro i may hd hk hq
    simp at hk
    rw [shG, Bool.not_false, Bool.and_true] at hq
    rw [e_259_35]
    simp (disch := first | assumption | omega) only [e_259_36, e_259_37, e_259_38, onI_s, onR_s, onL_s, gl_0, gl_n, gl_1, gl_2, gl_3, gl_4, gl_5, gl_6, gl_7, gl_8, gl_9, gl_10, gl_11, gl_12, gl_13, gl_14, gl_15, gl_16, gl_17, sk0i, sk0r, sk0n, sk1i, sk1r, sk1n, sk_2, sk_3, sk_4, sk_5, sk_6, sk_7, sk_8, sk_9, sk_10, sk_11, sk_12, sk_13, sk_14, sk_15, sk_16, sk_17, ls_0, ls_1, ls_2, ls_3, ls_4, ls_5, ls_6, ls_7, ls_8, ls_9, ls_10, ls_11, ls_12, ls_13, ls_14, ls_15, ls_16, ls_17, ct1_i, ct1_r, wd8_0, wd8_i1, wd8_r1, wd8_i2, wd8_r2, wd8_i3, wd8_r3, wd8_i4, wd8_r4, wd8_i5, wd8_r5, wd8_i6, wd8_r6, wd8_i7, wd8_r7, wd8_i8, wd8_r8, wd8_l2, wd8_l3, wd8_l4, wd8_l5, wd8_l6, wd8_l7, wd8_l8, tl_s, tl_n, inR_t, bd_t, true_and, and_true, true_or, or_true, if_true_x, if_false_x, if_pos, if_neg, Int.toNat_natCast, natL, bI_0, bI_1, bI_ft, eq_self, b_tf, b_ft, not_true_eq_false, not_false_eq_true, hn, hc.t70, hc.r70_4, hc.r70_5, hc.r70_6, hc.r70_7, hc.r70_8, hc.r70_10, hc.r70_11, hc.r70_12, hc.r70_14, hc.r70_15, hc.r70_16, hc.r70_17, hc.r70_19, hc.r70_21, hc.r70_23, hc.r70_24, hc.r70_26, hc.r70_27, hc.r70_28, hc.r70_29, hc.r70_30, hc.r70_31, hc.r70_32, hc.r70_33, hc.r70_36]
    exact hq _
  | cons d M ih =>
    intro i may hd hk hq
    rw [List.length_cons] at hk
    have hx : G[i]? = some d := by
      have := List.getElem?_drop (xs := G) (i := i) (j := 0)
      rw [hd] at this
      simpa using this.symm
    have hd2 : G.drop (i + 1) = M := by
      rw [← List.drop_drop, hd]
      rfl
    have ed := r i d hx
    have d20 := gc d (List.mem_of_getElem? hx)
    rw [shG] at hq
    rw [e_259_35]
    cases may with
    | false =>
      simp (disch := first | assumption | omega) only [e_259_36, e_259_37, e_259_38, e_259_39, e_259_40, e_259_51, e_259_52, e_259_53, e_259_54, onI_s, onR_s, onL_s, gl_0, gl_n, gl_1, gl_2, gl_3, gl_4, gl_5, gl_6, gl_7, gl_8, gl_9, gl_10, gl_11, gl_12, gl_13, gl_14, gl_15, gl_16, gl_17, sk0i, sk0r, sk0n, sk1i, sk1r, sk1n, sk_2, sk_3, sk_4, sk_5, sk_6, sk_7, sk_8, sk_9, sk_10, sk_11, sk_12, sk_13, sk_14, sk_15, sk_16, sk_17, ls_0, ls_1, ls_2, ls_3, ls_4, ls_5, ls_6, ls_7, ls_8, ls_9, ls_10, ls_11, ls_12, ls_13, ls_14, ls_15, ls_16, ls_17, ct1_i, ct1_r, wd8_0, wd8_i1, wd8_r1, wd8_i2, wd8_r2, wd8_i3, wd8_r3, wd8_i4, wd8_r4, wd8_i5, wd8_r5, wd8_i6, wd8_r6, wd8_i7, wd8_r7, wd8_i8, wd8_r8, wd8_l2, wd8_l3, wd8_l4, wd8_l5, wd8_l6, wd8_l7, wd8_l8, tl_s, tl_n, inR_t, bd_t, true_and, and_true, true_or, or_true, if_true_x, if_false_x, if_pos, if_neg, Int.toNat_natCast, natL, bI_0, bI_1, bI_ft, eq_self, b_tf, b_ft, not_true_eq_false, not_false_eq_true, hn, cast_s, hc.t70, hc.r70_4, hc.r70_5, hc.r70_6, hc.r70_7, hc.r70_8, hc.r70_10, hc.r70_11, hc.r70_12, hc.r70_14, hc.r70_15, hc.r70_16, hc.r70_17, hc.r70_19, hc.r70_21, hc.r70_23, hc.r70_24, hc.r70_26, hc.r70_27, hc.r70_28, hc.r70_29, hc.r70_30, hc.r70_31, hc.r70_32, hc.r70_33, hc.r70_36]
      exact ih (i + 1) false hd2 (by omega) (fun x5 => by have := hq x5; rw [Bool.false_and] at this ⊢; exact this)
    | true =>
      by_cases e : shP (vm h) c d = true
      · simp (disch := first | assumption | omega) only [e_259_36, e_259_37, e_259_38, e_259_39, e_259_40, e_259_41, e_259_42, e_259_43, e_259_44, e_259_45, e_259_46, e_259_47, e_259_48, e_259_51, e_259_52, e_259_53, e_259_54, onI_s, onR_s, onL_s, gl_0, gl_n, gl_1, gl_2, gl_3, gl_4, gl_5, gl_6, gl_7, gl_8, gl_9, gl_10, gl_11, gl_12, gl_13, gl_14, gl_15, gl_16, gl_17, sk0i, sk0r, sk0n, sk1i, sk1r, sk1n, sk_2, sk_3, sk_4, sk_5, sk_6, sk_7, sk_8, sk_9, sk_10, sk_11, sk_12, sk_13, sk_14, sk_15, sk_16, sk_17, ls_0, ls_1, ls_2, ls_3, ls_4, ls_5, ls_6, ls_7, ls_8, ls_9, ls_10, ls_11, ls_12, ls_13, ls_14, ls_15, ls_16, ls_17, ct1_i, ct1_r, wd8_0, wd8_i1, wd8_r1, wd8_i2, wd8_r2, wd8_i3, wd8_r3, wd8_i4, wd8_r4, wd8_i5, wd8_r5, wd8_i6, wd8_r6, wd8_i7, wd8_r7, wd8_i8, wd8_r8, wd8_l2, wd8_l3, wd8_l4, wd8_l5, wd8_l6, wd8_l7, wd8_l8, tl_s, tl_n, inR_t, bd_t, true_and, and_true, true_or, or_true, if_true_x, if_false_x, if_pos, if_neg, Int.toNat_natCast, natL, bI_0, bI_1, bI_ft, eq_self, b_tf, b_ft, not_true_eq_false, not_false_eq_true, hn, ed, m_258 hc hw nd (show c < 200 by omega) (show d < 200 by omega), e, cast_s, hc.t70, hc.r70_4, hc.r70_5, hc.r70_6, hc.r70_7, hc.r70_8, hc.r70_10, hc.r70_11, hc.r70_12, hc.r70_14, hc.r70_15, hc.r70_16, hc.r70_17, hc.r70_19, hc.r70_21, hc.r70_23, hc.r70_24, hc.r70_26, hc.r70_27, hc.r70_28, hc.r70_29, hc.r70_30, hc.r70_31, hc.r70_32, hc.r70_33, hc.r70_36, hc.t92, hc.z92]
        exact ih (i + 1) false hd2 (by omega) (fun x5 => by have := hq x5; rw [e, Bool.true_or, Bool.not_true, Bool.and_false] at this; rw [Bool.false_and]; exact this)
      · have e2 : shP (vm h) c d = false := by simpa using e
        simp (disch := first | assumption | omega) only [e_259_36, e_259_37, e_259_38, e_259_39, e_259_40, e_259_41, e_259_42, e_259_43, e_259_44, e_259_45, e_259_46, e_259_47, e_259_48, e_259_49, e_259_50, e_259_52, e_259_53, e_259_54, onI_s, onR_s, onL_s, gl_0, gl_n, gl_1, gl_2, gl_3, gl_4, gl_5, gl_6, gl_7, gl_8, gl_9, gl_10, gl_11, gl_12, gl_13, gl_14, gl_15, gl_16, gl_17, sk0i, sk0r, sk0n, sk1i, sk1r, sk1n, sk_2, sk_3, sk_4, sk_5, sk_6, sk_7, sk_8, sk_9, sk_10, sk_11, sk_12, sk_13, sk_14, sk_15, sk_16, sk_17, ls_0, ls_1, ls_2, ls_3, ls_4, ls_5, ls_6, ls_7, ls_8, ls_9, ls_10, ls_11, ls_12, ls_13, ls_14, ls_15, ls_16, ls_17, ct1_i, ct1_r, wd8_0, wd8_i1, wd8_r1, wd8_i2, wd8_r2, wd8_i3, wd8_r3, wd8_i4, wd8_r4, wd8_i5, wd8_r5, wd8_i6, wd8_r6, wd8_i7, wd8_r7, wd8_i8, wd8_r8, wd8_l2, wd8_l3, wd8_l4, wd8_l5, wd8_l6, wd8_l7, wd8_l8, tl_s, tl_n, inR_t, bd_t, true_and, and_true, true_or, or_true, if_true_x, if_false_x, if_pos, if_neg, Int.toNat_natCast, natL, bI_0, bI_1, bI_ft, eq_self, b_tf, b_ft, not_true_eq_false, not_false_eq_true, hn, ed, m_258 hc hw nd (show c < 200 by omega) (show d < 200 by omega), e2, cast_s, hc.t70, hc.r70_4, hc.r70_5, hc.r70_6, hc.r70_7, hc.r70_8, hc.r70_10, hc.r70_11, hc.r70_12, hc.r70_14, hc.r70_15, hc.r70_16, hc.r70_17, hc.r70_19, hc.r70_21, hc.r70_23, hc.r70_24, hc.r70_26, hc.r70_27, hc.r70_28, hc.r70_29, hc.r70_30, hc.r70_31, hc.r70_32, hc.r70_33, hc.r70_36, hc.t92, hc.z92]
        exact ih (i + 1) true hd2 (by omega) (fun x5 => by have := hq x5; rw [e2, Bool.false_or] at this; exact this)
set_option maxHeartbeats 8000000 in
theorem m_259 (hc : CT X ns nb ln) {h0 : xH} {v : Nat → Nat → Int} (ev : vm h0 = v) (w : RGv v) (nd : NDv v) (z : NZ X h0) {f ww : Int} (hq : ∀ h2, NZ X h2 → GGp h0 h2 → GSm h2 v (gpA v f ww) → Q none h2) : Cl X 259 [vr 70, vi f, vi ww] h0 Q := by
  have nC := w.nC
  obtain ⟨N, hN⟩ : ∃ N : Nat, v 11 0 = N := ⟨(v 11 0).toNat, by omega⟩
  unfold gpA at hq
  rw [hN, Int.toNat_natCast] at hq
  have lp : ∀ (m c : Nat) (h : xH) (x4 x5 : Option xV), c + m = N → NZ X h → GGp h0 h → GSm h v (grp v f ww c) → Ev X 259 5 [some (vr 70), some (vi f), some (vi ww), some (vi c), x4, x5] [] h Q := by
    intro m
    induction m with
    | zero =>
      intro c h x4 x5 hm z g s
      have evh : vm h = v := g.vm.trans ev
      rw [e_259_5]
      simp (disch := first | assumption | omega) only [e_259_6, e_259_7, e_259_8, e_259_9, e_259_10, e_259_95, onI_s, onR_s, onL_s, gl_0, gl_n, gl_1, gl_2, gl_3, gl_4, gl_5, gl_6, gl_7, gl_8, gl_9, gl_10, gl_11, gl_12, gl_13, gl_14, gl_15, gl_16, gl_17, sk0i, sk0r, sk0n, sk1i, sk1r, sk1n, sk_2, sk_3, sk_4, sk_5, sk_6, sk_7, sk_8, sk_9, sk_10, sk_11, sk_12, sk_13, sk_14, sk_15, sk_16, sk_17, ls_0, ls_1, ls_2, ls_3, ls_4, ls_5, ls_6, ls_7, ls_8, ls_9, ls_10, ls_11, ls_12, ls_13, ls_14, ls_15, ls_16, ls_17, ct1_i, ct1_r, wd8_0, wd8_i1, wd8_r1, wd8_i2, wd8_r2, wd8_i3, wd8_r3, wd8_i4, wd8_r4, wd8_i5, wd8_r5, wd8_i6, wd8_r6, wd8_i7, wd8_r7, wd8_i8, wd8_r8, wd8_l2, wd8_l3, wd8_l4, wd8_l5, wd8_l6, wd8_l7, wd8_l8, tl_s, tl_n, inR_t, bd_t, true_and, and_true, true_or, or_true, if_true_x, if_false_x, if_pos, if_neg, Int.toNat_natCast, natL, bI_0, bI_1, bI_ft, eq_self, b_tf, b_ft, not_true_eq_false, not_false_eq_true, tn_2, vm_nC, evh, hN, hc.t70, hc.r70_4, hc.r70_5, hc.r70_6, hc.r70_7, hc.r70_8, hc.r70_10, hc.r70_11, hc.r70_12, hc.r70_14, hc.r70_15, hc.r70_16, hc.r70_17, hc.r70_19, hc.r70_21, hc.r70_23, hc.r70_24, hc.r70_26, hc.r70_27, hc.r70_28, hc.r70_29, hc.r70_30, hc.r70_31, hc.r70_32, hc.r70_33, hc.r70_36, hc.t73, hc.z73]
      rw [show N = c by omega] at hq
      exact hq h z g s
    | succ m ih =>
      intro c h x4 x5 hm z g s
      have evh : vm h = v := g.vm.trans ev
      have wh : RGv (vm h) := by rw [evh]; exact w
      have ndh : NDv (vm h) := by rw [evh]; exact nd
      have c20 : c < 20 := by omega
      have gl := grp_len (v := v) (f := f) (w := ww) c
      have gc : ∀ d, d ∈ grp v f ww c → d < 20 := fun d hd => by have := (grp_in c d hd).1; omega
      have n34 := s.1
      obtain ⟨may, hmay⟩ : ∃ may : Bool, may = (gpC v f ww c && decide ((grp v f ww c).length < 5)) := ⟨_, rfl⟩
      have rest : ∀ x5, Ev X 259 55 [some (vr 70), some (vi f), some (vi ww), some (vi c), some (vi (bI (may && !shG v c (grp v f ww c)))), x5] [] h Q := by
        intro x5
        by_cases e : (may && !shG v c (grp v f ww c)) = true
        · rw [e]
          simp only [hmay, Bool.and_eq_true, Bool.not_eq_true', decide_eq_true_eq] at e
          have eg : grp v f ww (c + 1) = grp v f ww c ++ [c] := by rw [grp, if_pos ⟨e.1.1, e.1.2, e.2⟩]
          have l5 := e.1.2
          have sn := GSm.snoc hc (c := c) s z l5
          rw [e_259_55]
          simp (disch := first | assumption | omega) only [e_259_56, e_259_57, e_259_58, e_259_59, e_259_60, e_259_61, e_259_62, onI_s, onR_s, onL_s, gl_0, gl_n, gl_1, gl_2, gl_3, gl_4, gl_5, gl_6, gl_7, gl_8, gl_9, gl_10, gl_11, gl_12, gl_13, gl_14, gl_15, gl_16, gl_17, sk0i, sk0r, sk0n, sk1i, sk1r, sk1n, sk_2, sk_3, sk_4, sk_5, sk_6, sk_7, sk_8, sk_9, sk_10, sk_11, sk_12, sk_13, sk_14, sk_15, sk_16, sk_17, ls_0, ls_1, ls_2, ls_3, ls_4, ls_5, ls_6, ls_7, ls_8, ls_9, ls_10, ls_11, ls_12, ls_13, ls_14, ls_15, ls_16, ls_17, ct1_i, ct1_r, wd8_0, wd8_i1, wd8_r1, wd8_i2, wd8_r2, wd8_i3, wd8_r3, wd8_i4, wd8_r4, wd8_i5, wd8_r5, wd8_i6, wd8_r6, wd8_i7, wd8_r7, wd8_i8, wd8_r8, wd8_l2, wd8_l3, wd8_l4, wd8_l5, wd8_l6, wd8_l7, wd8_l8, tl_s, tl_n, inR_t, bd_t, true_and, and_true, true_or, or_true, if_true_x, if_false_x, if_pos, if_neg, Int.toNat_natCast, natL, bI_0, bI_1, bI_ft, eq_self, b_tf, b_ft, not_true_eq_false, not_false_eq_true, n34, hc.t70, hc.r70_4, hc.r70_5, hc.r70_6, hc.r70_7, hc.r70_8, hc.r70_10, hc.r70_11, hc.r70_12, hc.r70_14, hc.r70_15, hc.r70_16, hc.r70_17, hc.r70_19, hc.r70_21, hc.r70_23, hc.r70_24, hc.r70_26, hc.r70_27, hc.r70_28, hc.r70_29, hc.r70_30, hc.r70_31, hc.r70_32, hc.r70_33, hc.r70_36, hc.t92, hc.z92]
          obtain ⟨h1, e1⟩ : ∃ h1 : xH, h1 = (up2 h.1 92 (grp v f ww c).length c, h.2) := ⟨_, rfl⟩
          rw [← e1]
          have o1 : ∀ a, a ≠ 92 → h1.1 a = h.1 a := fun a q => by rw [e1]; exact up2_of q
          have f1 : h1.2 = h.2 := by rw [e1]
          have ev1 : vm h1 = v := by
            rw [← evh]
            show rv (h1.1 73) (h1.2 70 2) (h1.2 70 3) = rv (h.1 73) (h.2 70 2) (h.2 70 3)
            rw [o1 73 (by omega), f1]
          have n1 : h1.2 70 34 = (grp v f ww c).length := by rw [f1]; exact n34
          simp (disch := first | assumption | omega) only [e_259_63, e_259_64, e_259_65, e_259_66, e_259_67, e_259_68, e_259_69, e_259_70, e_259_71, e_259_72, e_259_73, e_259_74, onI_s, onR_s, onL_s, gl_0, gl_n, gl_1, gl_2, gl_3, gl_4, gl_5, gl_6, gl_7, gl_8, gl_9, gl_10, gl_11, gl_12, gl_13, gl_14, gl_15, gl_16, gl_17, sk0i, sk0r, sk0n, sk1i, sk1r, sk1n, sk_2, sk_3, sk_4, sk_5, sk_6, sk_7, sk_8, sk_9, sk_10, sk_11, sk_12, sk_13, sk_14, sk_15, sk_16, sk_17, ls_0, ls_1, ls_2, ls_3, ls_4, ls_5, ls_6, ls_7, ls_8, ls_9, ls_10, ls_11, ls_12, ls_13, ls_14, ls_15, ls_16, ls_17, ct1_i, ct1_r, wd8_0, wd8_i1, wd8_r1, wd8_i2, wd8_r2, wd8_i3, wd8_r3, wd8_i4, wd8_r4, wd8_i5, wd8_r5, wd8_i6, wd8_r6, wd8_i7, wd8_r7, wd8_i8, wd8_r8, wd8_l2, wd8_l3, wd8_l4, wd8_l5, wd8_l6, wd8_l7, wd8_l8, tl_s, tl_n, inR_t, bd_t, true_and, and_true, true_or, or_true, if_true_x, if_false_x, if_pos, if_neg, Int.toNat_natCast, natL, bI_0, bI_1, bI_ft, eq_self, b_tf, b_ft, not_true_eq_false, not_false_eq_true, n1, m_158, vm_17, ev1, Int.toNat_natCast, hc.t70, hc.r70_4, hc.r70_5, hc.r70_6, hc.r70_7, hc.r70_8, hc.r70_10, hc.r70_11, hc.r70_12, hc.r70_14, hc.r70_15, hc.r70_16, hc.r70_17, hc.r70_19, hc.r70_21, hc.r70_23, hc.r70_24, hc.r70_26, hc.r70_27, hc.r70_28, hc.r70_29, hc.r70_30, hc.r70_31, hc.r70_32, hc.r70_33, hc.r70_36, hc.t73, hc.z73, hc.t93, hc.z93]
          obtain ⟨h2, e2⟩ : ∃ h2 : xH, h2 = (up2 h1.1 93 (grp v f ww c).length (v 17 c), h1.2) := ⟨_, rfl⟩
          rw [← e2]
          have o2 : ∀ a, a ≠ 93 → h2.1 a = h1.1 a := fun a q => by rw [e2]; exact up2_of q
          have f2 : h2.2 = h.2 := by rw [e2]; exact f1
          have ev2 : vm h2 = v := by
            rw [← ev1]
            show rv (h2.1 73) (h2.2 70 2) (h2.2 70 3) = rv (h1.1 73) (h1.2 70 2) (h1.2 70 3)
            rw [o2 73 (by omega), f2, f1]
          have n2 : h2.2 70 34 = (grp v f ww c).length := by rw [f2]; exact n34
          simp (disch := first | assumption | omega) only [e_259_75, e_259_76, e_259_77, e_259_78, e_259_79, e_259_80, e_259_81, e_259_82, e_259_83, e_259_84, e_259_85, e_259_86, e_259_87, e_259_88, e_259_89, e_259_90, e_259_91, e_259_92, onI_s, onR_s, onL_s, gl_0, gl_n, gl_1, gl_2, gl_3, gl_4, gl_5, gl_6, gl_7, gl_8, gl_9, gl_10, gl_11, gl_12, gl_13, gl_14, gl_15, gl_16, gl_17, sk0i, sk0r, sk0n, sk1i, sk1r, sk1n, sk_2, sk_3, sk_4, sk_5, sk_6, sk_7, sk_8, sk_9, sk_10, sk_11, sk_12, sk_13, sk_14, sk_15, sk_16, sk_17, ls_0, ls_1, ls_2, ls_3, ls_4, ls_5, ls_6, ls_7, ls_8, ls_9, ls_10, ls_11, ls_12, ls_13, ls_14, ls_15, ls_16, ls_17, ct1_i, ct1_r, wd8_0, wd8_i1, wd8_r1, wd8_i2, wd8_r2, wd8_i3, wd8_r3, wd8_i4, wd8_r4, wd8_i5, wd8_r5, wd8_i6, wd8_r6, wd8_i7, wd8_r7, wd8_i8, wd8_r8, wd8_l2, wd8_l3, wd8_l4, wd8_l5, wd8_l6, wd8_l7, wd8_l8, tl_s, tl_n, inR_t, bd_t, true_and, and_true, true_or, or_true, if_true_x, if_false_x, if_pos, if_neg, Int.toNat_natCast, natL, bI_0, bI_1, bI_ft, eq_self, b_tf, b_ft, not_true_eq_false, not_false_eq_true, n2, m_158, vm_18, ev2, Int.toNat_natCast, hc.t70, hc.r70_4, hc.r70_5, hc.r70_6, hc.r70_7, hc.r70_8, hc.r70_10, hc.r70_11, hc.r70_12, hc.r70_14, hc.r70_15, hc.r70_16, hc.r70_17, hc.r70_19, hc.r70_21, hc.r70_23, hc.r70_24, hc.r70_26, hc.r70_27, hc.r70_28, hc.r70_29, hc.r70_30, hc.r70_31, hc.r70_32, hc.r70_33, hc.r70_36, hc.t73, hc.z73, hc.t94, hc.z94]
          rw [e_259_93]
          simp (disch := first | assumption | omega) only [e_259_94, onI_s, onR_s, onL_s, gl_0, gl_n, gl_1, gl_2, gl_3, gl_4, gl_5, gl_6, gl_7, gl_8, gl_9, gl_10, gl_11, gl_12, gl_13, gl_14, gl_15, gl_16, gl_17, sk0i, sk0r, sk0n, sk1i, sk1r, sk1n, sk_2, sk_3, sk_4, sk_5, sk_6, sk_7, sk_8, sk_9, sk_10, sk_11, sk_12, sk_13, sk_14, sk_15, sk_16, sk_17, ls_0, ls_1, ls_2, ls_3, ls_4, ls_5, ls_6, ls_7, ls_8, ls_9, ls_10, ls_11, ls_12, ls_13, ls_14, ls_15, ls_16, ls_17, ct1_i, ct1_r, wd8_0, wd8_i1, wd8_r1, wd8_i2, wd8_r2, wd8_i3, wd8_r3, wd8_i4, wd8_r4, wd8_i5, wd8_r5, wd8_i6, wd8_r6, wd8_i7, wd8_r7, wd8_i8, wd8_r8, wd8_l2, wd8_l3, wd8_l4, wd8_l5, wd8_l6, wd8_l7, wd8_l8, tl_s, tl_n, inR_t, bd_t, true_and, and_true, true_or, or_true, if_true_x, if_false_x, if_pos, if_neg, Int.toNat_natCast, natL, bI_0, bI_1, bI_ft, eq_self, b_tf, b_ft, not_true_eq_false, not_false_eq_true, cast_s]
          have eh : ((up2 h2.1 94 (grp v f ww c).length (v 18 c), up2 h2.2 70 34 (((grp v f ww c).length + 1 : Nat) : Int)) : xH) = (up2 (up2 (up2 h.1 92 (grp v f ww c).length c) 93 (grp v f ww c).length (v 17 c)) 94 (grp v f ww c).length (v 18 c), up2 h.2 70 34 (((grp v f ww c).length : Int) + 1)) := by rw [f2, e2, e1]; rfl
          exact ih (c + 1) _ _ _ (by omega) (by rw [eh]; exact sn.1) (by rw [eh]; exact g.tr sn.2.1) (by rw [eh, eg]; exact sn.2.2)
        · have ef : (may && !shG v c (grp v f ww c)) = false := by simpa using e
          have eg : grp v f ww (c + 1) = grp v f ww c := by
            rw [grp, if_neg]
            rintro ⟨q1, q2, q3⟩
            rw [hmay, q1, decide_eq_true q2, q3] at ef
            cases ef
          rw [ef, e_259_55]
          simp (disch := first | assumption | omega) only [e_259_56, e_259_93, e_259_94, onI_s, onR_s, onL_s, gl_0, gl_n, gl_1, gl_2, gl_3, gl_4, gl_5, gl_6, gl_7, gl_8, gl_9, gl_10, gl_11, gl_12, gl_13, gl_14, gl_15, gl_16, gl_17, sk0i, sk0r, sk0n, sk1i, sk1r, sk1n, sk_2, sk_3, sk_4, sk_5, sk_6, sk_7, sk_8, sk_9, sk_10, sk_11, sk_12, sk_13, sk_14, sk_15, sk_16, sk_17, ls_0, ls_1, ls_2, ls_3, ls_4, ls_5, ls_6, ls_7, ls_8, ls_9, ls_10, ls_11, ls_12, ls_13, ls_14, ls_15, ls_16, ls_17, ct1_i, ct1_r, wd8_0, wd8_i1, wd8_r1, wd8_i2, wd8_r2, wd8_i3, wd8_r3, wd8_i4, wd8_r4, wd8_i5, wd8_r5, wd8_i6, wd8_r6, wd8_i7, wd8_r7, wd8_i8, wd8_r8, wd8_l2, wd8_l3, wd8_l4, wd8_l5, wd8_l6, wd8_l7, wd8_l8, tl_s, tl_n, inR_t, bd_t, true_and, and_true, true_or, or_true, if_true_x, if_false_x, if_pos, if_neg, Int.toNat_natCast, natL, bI_0, bI_1, bI_ft, eq_self, b_tf, b_ft, not_true_eq_false, not_false_eq_true, cast_s]
          exact ih (c + 1) h _ _ (by omega) z g (by rw [eg]; exact s)
      have mid : Ev X 259 32 [some (vr 70), some (vi f), some (vi ww), some (vi c), x4, x5] [vi (bI may)] h Q := by
        simp (disch := first | assumption | omega) only [e_259_32, e_259_33, e_259_34, onI_s, onR_s, onL_s, gl_0, gl_n, gl_1, gl_2, gl_3, gl_4, gl_5, gl_6, gl_7, gl_8, gl_9, gl_10, gl_11, gl_12, gl_13, gl_14, gl_15, gl_16, gl_17, sk0i, sk0r, sk0n, sk1i, sk1r, sk1n, sk_2, sk_3, sk_4, sk_5, sk_6, sk_7, sk_8, sk_9, sk_10, sk_11, sk_12, sk_13, sk_14, sk_15, sk_16, sk_17, ls_0, ls_1, ls_2, ls_3, ls_4, ls_5, ls_6, ls_7, ls_8, ls_9, ls_10, ls_11, ls_12, ls_13, ls_14, ls_15, ls_16, ls_17, ct1_i, ct1_r, wd8_0, wd8_i1, wd8_r1, wd8_i2, wd8_r2, wd8_i3, wd8_r3, wd8_i4, wd8_r4, wd8_i5, wd8_r5, wd8_i6, wd8_r6, wd8_i7, wd8_r7, wd8_i8, wd8_r8, wd8_l2, wd8_l3, wd8_l4, wd8_l5, wd8_l6, wd8_l7, wd8_l8, tl_s, tl_n, inR_t, bd_t, true_and, and_true, true_or, or_true, if_true_x, if_false_x, if_pos, if_neg, Int.toNat_natCast, natL, bI_0, bI_1, bI_ft, eq_self, b_tf, b_ft, not_true_eq_false, not_false_eq_true]
        refine l_259i hc wh ndh c20 gl gc n34 s.2.1 (grp v f ww c) 0 may (by simp) (by omega) (fun x5 => ?_)
        rw [evh]
        exact rest x5
      rw [e_259_5]
      have b5 : gpC v f ww c = (lpB v c && decide (v 13 c = f) && decide (v 12 c = ww)) := rfl
      by_cases c1 : lpB v c = true
      · by_cases c2 : v 13 c = f
        · by_cases c3 : v 12 c = ww
          · by_cases c4 : (grp v f ww c).length < 5
            · have mt : may = true := by rw [hmay, b5, c1, decide_eq_true c2, decide_eq_true c3, decide_eq_true c4]; rfl
              rw [mt] at mid
              simp (disch := first | assumption | omega) only [e_259_6, e_259_7, e_259_8, e_259_9, e_259_10, e_259_11, e_259_12, e_259_13, e_259_14, e_259_15, e_259_16, e_259_17, e_259_18, e_259_19, e_259_20, e_259_21, e_259_22, e_259_23, e_259_24, e_259_25, e_259_26, e_259_27, e_259_28, e_259_29, e_259_30, onI_s, onR_s, onL_s, gl_0, gl_n, gl_1, gl_2, gl_3, gl_4, gl_5, gl_6, gl_7, gl_8, gl_9, gl_10, gl_11, gl_12, gl_13, gl_14, gl_15, gl_16, gl_17, sk0i, sk0r, sk0n, sk1i, sk1r, sk1n, sk_2, sk_3, sk_4, sk_5, sk_6, sk_7, sk_8, sk_9, sk_10, sk_11, sk_12, sk_13, sk_14, sk_15, sk_16, sk_17, ls_0, ls_1, ls_2, ls_3, ls_4, ls_5, ls_6, ls_7, ls_8, ls_9, ls_10, ls_11, ls_12, ls_13, ls_14, ls_15, ls_16, ls_17, ct1_i, ct1_r, wd8_0, wd8_i1, wd8_r1, wd8_i2, wd8_r2, wd8_i3, wd8_r3, wd8_i4, wd8_r4, wd8_i5, wd8_r5, wd8_i6, wd8_r6, wd8_i7, wd8_r7, wd8_i8, wd8_r8, wd8_l2, wd8_l3, wd8_l4, wd8_l5, wd8_l6, wd8_l7, wd8_l8, tl_s, tl_n, inR_t, bd_t, true_and, and_true, true_or, or_true, if_true_x, if_false_x, if_pos, if_neg, Int.toNat_natCast, natL, bI_0, bI_1, bI_ft, eq_self, b_tf, b_ft, not_true_eq_false, not_false_eq_true, tn_2, vm_nC, evh, hN, m_164 hc wh, m_161 hc, m_160 hc, c1, c2, c3, n34, Int.toNat_natCast, hc.t70, hc.r70_4, hc.r70_5, hc.r70_6, hc.r70_7, hc.r70_8, hc.r70_10, hc.r70_11, hc.r70_12, hc.r70_14, hc.r70_15, hc.r70_16, hc.r70_17, hc.r70_19, hc.r70_21, hc.r70_23, hc.r70_24, hc.r70_26, hc.r70_27, hc.r70_28, hc.r70_29, hc.r70_30, hc.r70_31, hc.r70_32, hc.r70_33, hc.r70_36, hc.t73, hc.z73]
              exact mid
            · have mt : may = false := by rw [hmay, decide_eq_false c4, Bool.and_false]
              rw [mt] at mid
              simp (disch := first | assumption | omega) only [e_259_6, e_259_7, e_259_8, e_259_9, e_259_10, e_259_11, e_259_12, e_259_13, e_259_14, e_259_15, e_259_16, e_259_17, e_259_18, e_259_19, e_259_20, e_259_21, e_259_22, e_259_23, e_259_24, e_259_25, e_259_26, e_259_27, e_259_28, e_259_31, onI_s, onR_s, onL_s, gl_0, gl_n, gl_1, gl_2, gl_3, gl_4, gl_5, gl_6, gl_7, gl_8, gl_9, gl_10, gl_11, gl_12, gl_13, gl_14, gl_15, gl_16, gl_17, sk0i, sk0r, sk0n, sk1i, sk1r, sk1n, sk_2, sk_3, sk_4, sk_5, sk_6, sk_7, sk_8, sk_9, sk_10, sk_11, sk_12, sk_13, sk_14, sk_15, sk_16, sk_17, ls_0, ls_1, ls_2, ls_3, ls_4, ls_5, ls_6, ls_7, ls_8, ls_9, ls_10, ls_11, ls_12, ls_13, ls_14, ls_15, ls_16, ls_17, ct1_i, ct1_r, wd8_0, wd8_i1, wd8_r1, wd8_i2, wd8_r2, wd8_i3, wd8_r3, wd8_i4, wd8_r4, wd8_i5, wd8_r5, wd8_i6, wd8_r6, wd8_i7, wd8_r7, wd8_i8, wd8_r8, wd8_l2, wd8_l3, wd8_l4, wd8_l5, wd8_l6, wd8_l7, wd8_l8, tl_s, tl_n, inR_t, bd_t, true_and, and_true, true_or, or_true, if_true_x, if_false_x, if_pos, if_neg, Int.toNat_natCast, natL, bI_0, bI_1, bI_ft, eq_self, b_tf, b_ft, not_true_eq_false, not_false_eq_true, tn_2, vm_nC, evh, hN, m_164 hc wh, m_161 hc, m_160 hc, c1, c2, c3, n34, Int.toNat_natCast, hc.t70, hc.r70_4, hc.r70_5, hc.r70_6, hc.r70_7, hc.r70_8, hc.r70_10, hc.r70_11, hc.r70_12, hc.r70_14, hc.r70_15, hc.r70_16, hc.r70_17, hc.r70_19, hc.r70_21, hc.r70_23, hc.r70_24, hc.r70_26, hc.r70_27, hc.r70_28, hc.r70_29, hc.r70_30, hc.r70_31, hc.r70_32, hc.r70_33, hc.r70_36, hc.t73, hc.z73]
              exact mid
          · have mt : may = false := by rw [hmay, b5, decide_eq_false c3, Bool.and_false, Bool.false_and]
            rw [mt] at mid
            simp (disch := first | assumption | omega) only [e_259_6, e_259_7, e_259_8, e_259_9, e_259_10, e_259_11, e_259_12, e_259_13, e_259_14, e_259_15, e_259_16, e_259_17, e_259_18, e_259_19, e_259_20, e_259_21, e_259_22, e_259_23, e_259_24, e_259_31, onI_s, onR_s, onL_s, gl_0, gl_n, gl_1, gl_2, gl_3, gl_4, gl_5, gl_6, gl_7, gl_8, gl_9, gl_10, gl_11, gl_12, gl_13, gl_14, gl_15, gl_16, gl_17, sk0i, sk0r, sk0n, sk1i, sk1r, sk1n, sk_2, sk_3, sk_4, sk_5, sk_6, sk_7, sk_8, sk_9, sk_10, sk_11, sk_12, sk_13, sk_14, sk_15, sk_16, sk_17, ls_0, ls_1, ls_2, ls_3, ls_4, ls_5, ls_6, ls_7, ls_8, ls_9, ls_10, ls_11, ls_12, ls_13, ls_14, ls_15, ls_16, ls_17, ct1_i, ct1_r, wd8_0, wd8_i1, wd8_r1, wd8_i2, wd8_r2, wd8_i3, wd8_r3, wd8_i4, wd8_r4, wd8_i5, wd8_r5, wd8_i6, wd8_r6, wd8_i7, wd8_r7, wd8_i8, wd8_r8, wd8_l2, wd8_l3, wd8_l4, wd8_l5, wd8_l6, wd8_l7, wd8_l8, tl_s, tl_n, inR_t, bd_t, true_and, and_true, true_or, or_true, if_true_x, if_false_x, if_pos, if_neg, Int.toNat_natCast, natL, bI_0, bI_1, bI_ft, eq_self, b_tf, b_ft, not_true_eq_false, not_false_eq_true, tn_2, vm_nC, evh, hN, m_164 hc wh, m_161 hc, m_160 hc, c1, c2, c3, Int.toNat_natCast, hc.t70, hc.r70_4, hc.r70_5, hc.r70_6, hc.r70_7, hc.r70_8, hc.r70_10, hc.r70_11, hc.r70_12, hc.r70_14, hc.r70_15, hc.r70_16, hc.r70_17, hc.r70_19, hc.r70_21, hc.r70_23, hc.r70_24, hc.r70_26, hc.r70_27, hc.r70_28, hc.r70_29, hc.r70_30, hc.r70_31, hc.r70_32, hc.r70_33, hc.r70_36, hc.t73, hc.z73]
            exact mid
        · have mt : may = false := by rw [hmay, b5, decide_eq_false c2, Bool.and_false, Bool.false_and, Bool.false_and]
          rw [mt] at mid
          simp (disch := first | assumption | omega) only [e_259_6, e_259_7, e_259_8, e_259_9, e_259_10, e_259_11, e_259_12, e_259_13, e_259_14, e_259_15, e_259_16, e_259_17, e_259_18, e_259_19, e_259_31, onI_s, onR_s, onL_s, gl_0, gl_n, gl_1, gl_2, gl_3, gl_4, gl_5, gl_6, gl_7, gl_8, gl_9, gl_10, gl_11, gl_12, gl_13, gl_14, gl_15, gl_16, gl_17, sk0i, sk0r, sk0n, sk1i, sk1r, sk1n, sk_2, sk_3, sk_4, sk_5, sk_6, sk_7, sk_8, sk_9, sk_10, sk_11, sk_12, sk_13, sk_14, sk_15, sk_16, sk_17, ls_0, ls_1, ls_2, ls_3, ls_4, ls_5, ls_6, ls_7, ls_8, ls_9, ls_10, ls_11, ls_12, ls_13, ls_14, ls_15, ls_16, ls_17, ct1_i, ct1_r, wd8_0, wd8_i1, wd8_r1, wd8_i2, wd8_r2, wd8_i3, wd8_r3, wd8_i4, wd8_r4, wd8_i5, wd8_r5, wd8_i6, wd8_r6, wd8_i7, wd8_r7, wd8_i8, wd8_r8, wd8_l2, wd8_l3, wd8_l4, wd8_l5, wd8_l6, wd8_l7, wd8_l8, tl_s, tl_n, inR_t, bd_t, true_and, and_true, true_or, or_true, if_true_x, if_false_x, if_pos, if_neg, Int.toNat_natCast, natL, bI_0, bI_1, bI_ft, eq_self, b_tf, b_ft, not_true_eq_false, not_false_eq_true, tn_2, vm_nC, evh, hN, m_164 hc wh, m_161 hc, c1, c2, Int.toNat_natCast, hc.t70, hc.r70_4, hc.r70_5, hc.r70_6, hc.r70_7, hc.r70_8, hc.r70_10, hc.r70_11, hc.r70_12, hc.r70_14, hc.r70_15, hc.r70_16, hc.r70_17, hc.r70_19, hc.r70_21, hc.r70_23, hc.r70_24, hc.r70_26, hc.r70_27, hc.r70_28, hc.r70_29, hc.r70_30, hc.r70_31, hc.r70_32, hc.r70_33, hc.r70_36, hc.t73, hc.z73]
          exact mid
      · have c1' : lpB v c = false := by simpa using c1
        have mt : may = false := by rw [hmay, b5, c1', Bool.false_and, Bool.false_and, Bool.false_and]
        rw [mt] at mid
        simp (disch := first | assumption | omega) only [e_259_6, e_259_7, e_259_8, e_259_9, e_259_10, e_259_11, e_259_12, e_259_13, e_259_14, e_259_31, onI_s, onR_s, onL_s, gl_0, gl_n, gl_1, gl_2, gl_3, gl_4, gl_5, gl_6, gl_7, gl_8, gl_9, gl_10, gl_11, gl_12, gl_13, gl_14, gl_15, gl_16, gl_17, sk0i, sk0r, sk0n, sk1i, sk1r, sk1n, sk_2, sk_3, sk_4, sk_5, sk_6, sk_7, sk_8, sk_9, sk_10, sk_11, sk_12, sk_13, sk_14, sk_15, sk_16, sk_17, ls_0, ls_1, ls_2, ls_3, ls_4, ls_5, ls_6, ls_7, ls_8, ls_9, ls_10, ls_11, ls_12, ls_13, ls_14, ls_15, ls_16, ls_17, ct1_i, ct1_r, wd8_0, wd8_i1, wd8_r1, wd8_i2, wd8_r2, wd8_i3, wd8_r3, wd8_i4, wd8_r4, wd8_i5, wd8_r5, wd8_i6, wd8_r6, wd8_i7, wd8_r7, wd8_i8, wd8_r8, wd8_l2, wd8_l3, wd8_l4, wd8_l5, wd8_l6, wd8_l7, wd8_l8, tl_s, tl_n, inR_t, bd_t, true_and, and_true, true_or, or_true, if_true_x, if_false_x, if_pos, if_neg, Int.toNat_natCast, natL, bI_0, bI_1, bI_ft, eq_self, b_tf, b_ft, not_true_eq_false, not_false_eq_true, tn_2, vm_nC, evh, hN, m_164 hc wh, c1', Int.toNat_natCast, hc.t70, hc.r70_4, hc.r70_5, hc.r70_6, hc.r70_7, hc.r70_8, hc.r70_10, hc.r70_11, hc.r70_12, hc.r70_14, hc.r70_15, hc.r70_16, hc.r70_17, hc.r70_19, hc.r70_21, hc.r70_23, hc.r70_24, hc.r70_26, hc.r70_27, hc.r70_28, hc.r70_29, hc.r70_30, hc.r70_31, hc.r70_32, hc.r70_33, hc.r70_36, hc.t73, hc.z73]
        exact mid
  rw [c_259]
  simp (disch := first | assumption | omega) only [e_259_0, e_259_1, e_259_2, e_259_3, e_259_4, onI_s, onR_s, onL_s, gl_0, gl_n, gl_1, gl_2, gl_3, gl_4, gl_5, gl_6, gl_7, gl_8, gl_9, gl_10, gl_11, gl_12, gl_13, gl_14, gl_15, gl_16, gl_17, sk0i, sk0r, sk0n, sk1i, sk1r, sk1n, sk_2, sk_3, sk_4, sk_5, sk_6, sk_7, sk_8, sk_9, sk_10, sk_11, sk_12, sk_13, sk_14, sk_15, sk_16, sk_17, ls_0, ls_1, ls_2, ls_3, ls_4, ls_5, ls_6, ls_7, ls_8, ls_9, ls_10, ls_11, ls_12, ls_13, ls_14, ls_15, ls_16, ls_17, ct1_i, ct1_r, wd8_0, wd8_i1, wd8_r1, wd8_i2, wd8_r2, wd8_i3, wd8_r3, wd8_i4, wd8_r4, wd8_i5, wd8_r5, wd8_i6, wd8_r6, wd8_i7, wd8_r7, wd8_i8, wd8_r8, wd8_l2, wd8_l3, wd8_l4, wd8_l5, wd8_l6, wd8_l7, wd8_l8, tl_s, tl_n, inR_t, bd_t, true_and, and_true, true_or, or_true, if_true_x, if_false_x, if_pos, if_neg, Int.toNat_natCast, natL, bI_0, bI_1, bI_ft, eq_self, b_tf, b_ft, not_true_eq_false, not_false_eq_true, hc.t70, hc.r70_4, hc.r70_5, hc.r70_6, hc.r70_7, hc.r70_8, hc.r70_10, hc.r70_11, hc.r70_12, hc.r70_14, hc.r70_15, hc.r70_16, hc.r70_17, hc.r70_19, hc.r70_21, hc.r70_23, hc.r70_24, hc.r70_26, hc.r70_27, hc.r70_28, hc.r70_29, hc.r70_30, hc.r70_31, hc.r70_32, hc.r70_33, hc.r70_36]
  refine lp N 0 (h0.1, up2 h0.2 70 34 0) none none (by omega) z ⟨fun _ _ _ _ => rfl, fun a k q => by dsimp only; rw [up2_eq, if_neg q]⟩ ⟨?_, R1.nil, fun j hj => by simp [grp] at hj⟩
  dsimp only
  rw [up2_self]
  rfl
end SRA
