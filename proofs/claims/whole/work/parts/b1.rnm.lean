/-! RUNS of the reference -/
def GR (h h2 : xH) : Prop := (∀ a, a < 79 ∨ 82 < a → h2.1 a = h.1 a) ∧ (∀ a k, ¬ (a = 70 ∧ k = 18) → h2.2 a k = h.2 a k)
theorem GR.refl {h : xH} : GR h h := ⟨fun _ _ => rfl, fun _ _ _ => rfl⟩
theorem GR.tr {h h2 h3 : xH} (g : GR h h2) (k : GR h2 h3) : GR h h3 := ⟨fun a q => (k.1 a q).trans (g.1 a q), fun a j q => (k.2 a j q).trans (g.2 a j q)⟩
theorem GR.vm {h h2 : xH} (g : GR h h2) : vm h2 = vm h := by
  show rv (h2.1 73) (h2.2 70 2) (h2.2 70 3) = rv (h.1 73) (h.2 70 2) (h.2 70 3)
  rw [g.1 73 (by omega), g.2 70 2 (by decide), g.2 70 3 (by decide)]
def SM (X : xL) (h0 h : xH) (L : List Rn) : Prop := NZ X h ∧ GR h0 h ∧ h.2 70 18 = L.length ∧ RO (h.1 79) (h.1 80) (h.1 81) (h.1 82) L
section RNM
variable {X : xL} {Q : Option xV → xH → Prop} {ns nb ln : Nat}
theorem SM.snoc (hc : CT X ns nb ln) {h0 h : xH} {L : List Rn} (s : SM X h0 h L) (hn : L.length < 256) {r a n : Nat} {f : Int} : SM X h0 (up2 (up2 (up2 (up2 h.1 79 L.length r) 80 L.length f) 81 L.length a) 82 L.length n, up2 h.2 70 18 ((L.length : Int) + 1)) (L ++ [(r, f, a, n)]) := by
  refine ⟨?_, ⟨fun b q => ?_, fun b k q => ?_⟩, ?_, ?_⟩
  · exact NZ.up (F := h.2) (NZ.up (F := h.2) (NZ.up (F := h.2) (NZ.up (F := h.2) s.1 (by rw [hc.z79]; exact hn)) (by rw [hc.z80]; exact hn)) (by rw [hc.z81]; exact hn)) (by rw [hc.z82]; exact hn)
  · dsimp only
    rw [up2_of (by omega), up2_of (by omega), up2_of (by omega), up2_of (by omega)]
    exact s.2.1.1 b q
  · dsimp only
    rw [up2_eq, if_neg q]
    exact s.2.1.2 b k q
  · dsimp only
    rw [up2_self]
    simp
  · dsimp only
    refine RO.snoc s.2.2.2 (r, f, a, n) (fun k => ?_) (fun k => ?_) (fun k => ?_) (fun k => ?_)
    · rw [up2_of (by decide), up2_of (by decide), up2_of (by decide), up2_same]
    · rw [up2_of (by decide), up2_of (by decide), up2_same, up2_of (by decide)]
    · rw [up2_of (by decide), up2_same, up2_of (by decide), up2_of (by decide)]
    · rw [up2_same, up2_of (by decide), up2_of (by decide), up2_of (by decide)]
theorem SM0 {h0 : xH} (z : NZ X h0) : SM X h0 (h0.1, up2 h0.2 70 18 0) [] := by
  refine ⟨z, ⟨fun _ _ => rfl, fun b k q => ?_⟩, ?_, RO.nil⟩
  · dsimp only
    rw [up2_eq, if_neg q]
  · dsimp only
    rw [up2_self]
    rfl
def oAt (a s : Nat) : Option Nat := if a < s then some a else none
set_option maxHeartbeats 8000000 in
theorem w_231 (hc : CT X ns nb ln) {h0 h : xH} {r s a : Nat} {f : Int} {L0 : List Rn} {M : List (Nat × Nat)} (sm : SM X h0 h (L0 ++ M.map (tgR r f))) (s32 : s ≤ 32) (hl : L0.length + M.length + (opn (oAt a s) s).length ≤ 256) (hq : ∀ h2, SM X h0 h2 (L0 ++ (M ++ opn (oAt a s) s).map (tgR r f)) → Ev X 231 19 [some (vr 70), some (vi r), some (vi f), some (vi ((s + 1 : Nat) : Int)), some (vi a)] [] h2 Q) : Ev X 231 33 [some (vr 70), some (vi r), some (vi f), some (vi s), some (vi a)] [] h Q := by
  rw [e_231_33]
  by_cases e : a < s
  · have eo : oAt a s = some a := if_pos e
    rw [eo] at hl hq
    have ln0 := sm.2.2.1
    obtain ⟨L, eL⟩ : ∃ L : List Rn, L = L0 ++ M.map (tgR r f) := ⟨_, rfl⟩
    rw [← eL] at sm ln0
    have hL : L.length = L0.length + M.length := by rw [eL]; simp
    have hn : L.length < 256 := by simp [opn] at hl; omega
    have es : (s : Int) - (a : Int) = ((s - a : Nat) : Int) := by omega
    simp (disch := first | assumption | omega) only [e_231_34, e_231_35, e_231_36, e_231_37, e_231_38, e_231_39, e_231_40, e_231_41, e_231_42, e_231_43, e_231_44, e_231_45, e_231_46, e_231_47, e_231_48, e_231_49, e_231_50, e_231_51, e_231_52, e_231_53, e_231_54, e_231_55, e_231_56, e_231_57, e_231_58, e_231_59, e_231_60, e_231_61, e_231_62, e_231_63, e_231_64, e_231_65, e_231_66, e_231_67, e_231_68, onI_s, onR_s, onL_s, gl_0, gl_n, gl_1, gl_2, gl_3, gl_4, gl_5, gl_6, gl_7, gl_8, gl_9, gl_10, gl_11, gl_12, gl_13, gl_14, gl_15, gl_16, gl_17, sk0i, sk0r, sk0n, sk1i, sk1r, sk1n, sk_2, sk_3, sk_4, sk_5, sk_6, sk_7, sk_8, sk_9, sk_10, sk_11, sk_12, sk_13, sk_14, sk_15, sk_16, sk_17, ls_0, ls_1, ls_2, ls_3, ls_4, ls_5, ls_6, ls_7, ls_8, ls_9, ls_10, ls_11, ls_12, ls_13, ls_14, ls_15, ls_16, ls_17, ct1_i, ct1_r, wd8_0, wd8_i1, wd8_r1, wd8_i2, wd8_r2, wd8_i3, wd8_r3, wd8_i4, wd8_r4, wd8_i5, wd8_r5, wd8_i6, wd8_r6, wd8_i7, wd8_r7, wd8_i8, wd8_r8, wd8_l2, wd8_l3, wd8_l4, wd8_l5, wd8_l6, wd8_l7, wd8_l8, tl_s, tl_n, inR_t, bd_t, true_and, and_true, true_or, or_true, if_true_x, if_false_x, if_pos, if_neg, Int.toNat_natCast, natL, bI_0, bI_1, bI_ft, eq_self, b_tf, b_ft, not_true_eq_false, not_false_eq_true, ln0, es, hc.t70, hc.r70_4, hc.r70_5, hc.r70_6, hc.r70_7, hc.r70_8, hc.r70_10, hc.r70_11, hc.r70_12, hc.r70_14, hc.r70_15, hc.r70_16, hc.r70_17, hc.r70_19, hc.r70_21, hc.r70_23, hc.r70_24, hc.r70_26, hc.r70_27, hc.r70_28, hc.r70_29, hc.r70_30, hc.r70_31, hc.r70_32, hc.r70_33, hc.r70_36, hc.t79, hc.z79, hc.t80, hc.z80, hc.t81, hc.z81, hc.t82, hc.z82]
    have s2 := SM.snoc hc sm hn (r := r) (a := a) (n := s - a) (f := f)
    have : L0 ++ List.map (tgR r f) (M ++ opn (some a) s) = L ++ [(r, f, a, s - a)] := by
      rw [eL]
      simp [tgR, opn]
    rw [this] at hq
    rw [e_231_69]
    exact hq _ s2
  · have eo : oAt a s = none := if_neg e
    rw [eo, show opn none s = [] from rfl, List.append_nil] at hq
    simp (disch := first | assumption | omega) only [e_231_34, e_231_35, e_231_68, e_231_69, onI_s, onR_s, onL_s, gl_0, gl_n, gl_1, gl_2, gl_3, gl_4, gl_5, gl_6, gl_7, gl_8, gl_9, gl_10, gl_11, gl_12, gl_13, gl_14, gl_15, gl_16, gl_17, sk0i, sk0r, sk0n, sk1i, sk1r, sk1n, sk_2, sk_3, sk_4, sk_5, sk_6, sk_7, sk_8, sk_9, sk_10, sk_11, sk_12, sk_13, sk_14, sk_15, sk_16, sk_17, ls_0, ls_1, ls_2, ls_3, ls_4, ls_5, ls_6, ls_7, ls_8, ls_9, ls_10, ls_11, ls_12, ls_13, ls_14, ls_15, ls_16, ls_17, ct1_i, ct1_r, wd8_0, wd8_i1, wd8_r1, wd8_i2, wd8_r2, wd8_i3, wd8_r3, wd8_i4, wd8_r4, wd8_i5, wd8_r5, wd8_i6, wd8_r6, wd8_i7, wd8_r7, wd8_i8, wd8_r8, wd8_l2, wd8_l3, wd8_l4, wd8_l5, wd8_l6, wd8_l7, wd8_l8, tl_s, tl_n, inR_t, bd_t, true_and, and_true, true_or, or_true, if_true_x, if_false_x, if_pos, if_neg, Int.toNat_natCast, natL, bI_0, bI_1, bI_ft, eq_self, b_tf, b_ft, not_true_eq_false, not_false_eq_true, cast_s]
    exact hq h sm
set_option maxHeartbeats 8000000 in
theorem l_231s (hc : CT X ns nb ln) {h0 : xH} {v : Nat → Nat → Int} {R S r : Nat} {f : Int} {L0 : List Rn} (ev : vm h0 = v) (w : RGv v) (hb : RBm h0) (hR : v 0 0 = R) (hS : v 0 1 = S) (hr : r < R) (f1 : -1 ≤ f) : ∀ (m s a : Nat) (M : List (Nat × Nat)) (h : xH), SM X h0 h (L0 ++ M.map (tgR r f)) → s + m = S → a ≤ s → ((L0.length : Int) + M.length + (opn (oAt a s) s).length ≤ ((r * S : Nat) : Int) + cntB (spT v r f s) S 0) → (∀ h2 x3 x4, SM X h0 h2 (L0 ++ (grS (fun s => decide (own v r s = f)) m s (oAt a s) M).map (tgR r f)) → Ev X 231 70 [some (vr 70), some (vi r), some (vi f), x3, x4] [] h2 Q) → Ev X 231 25 [some (vr 70), some (vi r), some (vi f), some (vi s), some (vi a)] [] h Q := by
  have ws := w.sites
  have wr := w.rows
  have hRS : R * S ≤ 8 * 32 := Nat.mul_le_mul (by omega) (by omega)
  have hr1 := Nat.mul_le_mul_right S (show r + 1 ≤ R from hr)
  rw [Nat.succ_mul] at hr1
  have sF : ∀ h L, SM X h0 h L → vm h = v ∧ RBm h ∧ h.2 70 3 = S := fun h L sm => by
    have evh : vm h = v := sm.2.1.vm.trans ev
    exact ⟨evh, by unfold RBm; rw [sm.2.1.1 73 (by omega)]; exact hb, by rw [← hS, ← evh]; rfl⟩
  intro m
  induction m with
  | zero =>
    intro s a M h sm hm ha hl hq
    obtain ⟨evh, hbh, h3⟩ := sF h _ sm
    have p : rsB v f r s = false := decide_eq_false (fun q => by omega)
    have c2 := (cntB_bd (p := spT v r f s) S 0).2
    rw [e_231_25]
    simp (disch := first | assumption | omega) only [e_231_26, e_231_27, e_231_28, e_231_29, e_231_30, onI_s, onR_s, onL_s, gl_0, gl_n, gl_1, gl_2, gl_3, gl_4, gl_5, gl_6, gl_7, gl_8, gl_9, gl_10, gl_11, gl_12, gl_13, gl_14, gl_15, gl_16, gl_17, sk0i, sk0r, sk0n, sk1i, sk1r, sk1n, sk_2, sk_3, sk_4, sk_5, sk_6, sk_7, sk_8, sk_9, sk_10, sk_11, sk_12, sk_13, sk_14, sk_15, sk_16, sk_17, ls_0, ls_1, ls_2, ls_3, ls_4, ls_5, ls_6, ls_7, ls_8, ls_9, ls_10, ls_11, ls_12, ls_13, ls_14, ls_15, ls_16, ls_17, ct1_i, ct1_r, wd8_0, wd8_i1, wd8_r1, wd8_i2, wd8_r2, wd8_i3, wd8_r3, wd8_i4, wd8_r4, wd8_i5, wd8_r5, wd8_i6, wd8_r6, wd8_i7, wd8_r7, wd8_i8, wd8_r8, wd8_l2, wd8_l3, wd8_l4, wd8_l5, wd8_l6, wd8_l7, wd8_l8, tl_s, tl_n, inR_t, bd_t, true_and, and_true, true_or, or_true, if_true_x, if_false_x, if_pos, if_neg, Int.toNat_natCast, natL, bI_0, bI_1, bI_ft, eq_self, b_tf, b_ft, not_true_eq_false, not_false_eq_true, m_230 hc (show RGv (vm h) by rw [evh]; exact w) hbh f1, evh, p, hc.t70, hc.r70_4, hc.r70_5, hc.r70_6, hc.r70_7, hc.r70_8, hc.r70_10, hc.r70_11, hc.r70_12, hc.r70_14, hc.r70_15, hc.r70_16, hc.r70_17, hc.r70_19, hc.r70_21, hc.r70_23, hc.r70_24, hc.r70_26, hc.r70_27, hc.r70_28, hc.r70_29, hc.r70_30, hc.r70_31, hc.r70_32, hc.r70_33, hc.r70_36]
    refine w_231 hc sm (by omega) (by omega) (fun h2 s2 => ?_)
    obtain ⟨_, _, h32⟩ := sF h2 _ s2
    rw [e_231_19]
    simp (disch := first | assumption | omega) only [e_231_20, e_231_21, e_231_22, onI_s, onR_s, onL_s, gl_0, gl_n, gl_1, gl_2, gl_3, gl_4, gl_5, gl_6, gl_7, gl_8, gl_9, gl_10, gl_11, gl_12, gl_13, gl_14, gl_15, gl_16, gl_17, sk0i, sk0r, sk0n, sk1i, sk1r, sk1n, sk_2, sk_3, sk_4, sk_5, sk_6, sk_7, sk_8, sk_9, sk_10, sk_11, sk_12, sk_13, sk_14, sk_15, sk_16, sk_17, ls_0, ls_1, ls_2, ls_3, ls_4, ls_5, ls_6, ls_7, ls_8, ls_9, ls_10, ls_11, ls_12, ls_13, ls_14, ls_15, ls_16, ls_17, ct1_i, ct1_r, wd8_0, wd8_i1, wd8_r1, wd8_i2, wd8_r2, wd8_i3, wd8_r3, wd8_i4, wd8_r4, wd8_i5, wd8_r5, wd8_i6, wd8_r6, wd8_i7, wd8_r7, wd8_i8, wd8_r8, wd8_l2, wd8_l3, wd8_l4, wd8_l5, wd8_l6, wd8_l7, wd8_l8, tl_s, tl_n, inR_t, bd_t, true_and, and_true, true_or, or_true, if_true_x, if_false_x, if_pos, if_neg, Int.toNat_natCast, natL, bI_0, bI_1, bI_ft, eq_self, b_tf, b_ft, not_true_eq_false, not_false_eq_true, h32, hc.t70, hc.r70_4, hc.r70_5, hc.r70_6, hc.r70_7, hc.r70_8, hc.r70_10, hc.r70_11, hc.r70_12, hc.r70_14, hc.r70_15, hc.r70_16, hc.r70_17, hc.r70_19, hc.r70_21, hc.r70_23, hc.r70_24, hc.r70_26, hc.r70_27, hc.r70_28, hc.r70_29, hc.r70_30, hc.r70_31, hc.r70_32, hc.r70_33, hc.r70_36]
    refine hq h2 _ _ ?_
    rw [show grS (fun s => decide (own v r s = f)) 0 s (oAt a s) M = M ++ opn (oAt a s) s by cases oAt a s <;> simp [grS, opn]]
    exact s2
  | succ m ih =>
    intro s a M h sm hm ha hl hq
    obtain ⟨evh, hbh, h3⟩ := sF h _ sm
    have hs : s < S := by omega
    rw [e_231_25]
    by_cases e : own v r s = f
    · have p : rsB v f r s = true := decide_eq_true ⟨by omega, by omega, e⟩
      simp (disch := first | assumption | omega) only [e_231_26, e_231_27, e_231_28, e_231_29, e_231_30, e_231_31, e_231_32, onI_s, onR_s, onL_s, gl_0, gl_n, gl_1, gl_2, gl_3, gl_4, gl_5, gl_6, gl_7, gl_8, gl_9, gl_10, gl_11, gl_12, gl_13, gl_14, gl_15, gl_16, gl_17, sk0i, sk0r, sk0n, sk1i, sk1r, sk1n, sk_2, sk_3, sk_4, sk_5, sk_6, sk_7, sk_8, sk_9, sk_10, sk_11, sk_12, sk_13, sk_14, sk_15, sk_16, sk_17, ls_0, ls_1, ls_2, ls_3, ls_4, ls_5, ls_6, ls_7, ls_8, ls_9, ls_10, ls_11, ls_12, ls_13, ls_14, ls_15, ls_16, ls_17, ct1_i, ct1_r, wd8_0, wd8_i1, wd8_r1, wd8_i2, wd8_r2, wd8_i3, wd8_r3, wd8_i4, wd8_r4, wd8_i5, wd8_r5, wd8_i6, wd8_r6, wd8_i7, wd8_r7, wd8_i8, wd8_r8, wd8_l2, wd8_l3, wd8_l4, wd8_l5, wd8_l6, wd8_l7, wd8_l8, tl_s, tl_n, inR_t, bd_t, true_and, and_true, true_or, or_true, if_true_x, if_false_x, if_pos, if_neg, Int.toNat_natCast, natL, bI_0, bI_1, bI_ft, eq_self, b_tf, b_ft, not_true_eq_false, not_false_eq_true, m_230 hc (show RGv (vm h) by rw [evh]; exact w) hbh f1, evh, p, cast_s, hc.t70, hc.r70_4, hc.r70_5, hc.r70_6, hc.r70_7, hc.r70_8, hc.r70_10, hc.r70_11, hc.r70_12, hc.r70_14, hc.r70_15, hc.r70_16, hc.r70_17, hc.r70_19, hc.r70_21, hc.r70_23, hc.r70_24, hc.r70_26, hc.r70_27, hc.r70_28, hc.r70_29, hc.r70_30, hc.r70_31, hc.r70_32, hc.r70_33, hc.r70_36]
      refine ih (s + 1) a M h sm (by omega) (by omega) ?_ (fun h2 x3 x4 s2 => hq h2 x3 x4 ?_)
      · rw [spT_in hs e, show oAt a (s + 1) = some a from if_pos (by omega)]
        simp [opn]
        omega
      · rw [show oAt a (s + 1) = some a from if_pos (by omega)] at s2
        by_cases c : a < s
        · rw [show oAt a s = some a from if_pos c, grS, if_pos (decide_eq_true e)]
          exact s2
        · rw [show oAt a s = none from if_neg c, grS, if_pos (decide_eq_true e), show s = a by omega]
          rw [show s = a by omega] at s2
          exact s2
    · have p : rsB v f r s = false := decide_eq_false (fun q => e q.2.2)
      have c2 := (cntB_bd (p := spT v r f s) S 0).2
      have gs : grS (fun s => decide (own v r s = f)) (m + 1) s (oAt a s) M = grS (fun s => decide (own v r s = f)) m (s + 1) none (M ++ opn (oAt a s) s) := by
        cases oAt a s with
        | none => rw [grS, if_neg (by simp [e])]; simp [opn]
        | some b => rw [grS, if_neg (by simp [e])]; rfl
      rw [gs] at hq
      simp (disch := first | assumption | omega) only [e_231_26, e_231_27, e_231_28, e_231_29, e_231_30, onI_s, onR_s, onL_s, gl_0, gl_n, gl_1, gl_2, gl_3, gl_4, gl_5, gl_6, gl_7, gl_8, gl_9, gl_10, gl_11, gl_12, gl_13, gl_14, gl_15, gl_16, gl_17, sk0i, sk0r, sk0n, sk1i, sk1r, sk1n, sk_2, sk_3, sk_4, sk_5, sk_6, sk_7, sk_8, sk_9, sk_10, sk_11, sk_12, sk_13, sk_14, sk_15, sk_16, sk_17, ls_0, ls_1, ls_2, ls_3, ls_4, ls_5, ls_6, ls_7, ls_8, ls_9, ls_10, ls_11, ls_12, ls_13, ls_14, ls_15, ls_16, ls_17, ct1_i, ct1_r, wd8_0, wd8_i1, wd8_r1, wd8_i2, wd8_r2, wd8_i3, wd8_r3, wd8_i4, wd8_r4, wd8_i5, wd8_r5, wd8_i6, wd8_r6, wd8_i7, wd8_r7, wd8_i8, wd8_r8, wd8_l2, wd8_l3, wd8_l4, wd8_l5, wd8_l6, wd8_l7, wd8_l8, tl_s, tl_n, inR_t, bd_t, true_and, and_true, true_or, or_true, if_true_x, if_false_x, if_pos, if_neg, Int.toNat_natCast, natL, bI_0, bI_1, bI_ft, eq_self, b_tf, b_ft, not_true_eq_false, not_false_eq_true, m_230 hc (show RGv (vm h) by rw [evh]; exact w) hbh f1, evh, p, hc.t70, hc.r70_4, hc.r70_5, hc.r70_6, hc.r70_7, hc.r70_8, hc.r70_10, hc.r70_11, hc.r70_12, hc.r70_14, hc.r70_15, hc.r70_16, hc.r70_17, hc.r70_19, hc.r70_21, hc.r70_23, hc.r70_24, hc.r70_26, hc.r70_27, hc.r70_28, hc.r70_29, hc.r70_30, hc.r70_31, hc.r70_32, hc.r70_33, hc.r70_36]
      refine w_231 hc sm (by omega) (by omega) (fun h2 s2 => ?_)
      obtain ⟨_, _, h32⟩ := sF h2 _ s2
      rw [e_231_19]
      by_cases c : s + 1 < S
      · simp (disch := first | assumption | omega) only [e_231_20, e_231_21, e_231_22, e_231_23, e_231_24, onI_s, onR_s, onL_s, gl_0, gl_n, gl_1, gl_2, gl_3, gl_4, gl_5, gl_6, gl_7, gl_8, gl_9, gl_10, gl_11, gl_12, gl_13, gl_14, gl_15, gl_16, gl_17, sk0i, sk0r, sk0n, sk1i, sk1r, sk1n, sk_2, sk_3, sk_4, sk_5, sk_6, sk_7, sk_8, sk_9, sk_10, sk_11, sk_12, sk_13, sk_14, sk_15, sk_16, sk_17, ls_0, ls_1, ls_2, ls_3, ls_4, ls_5, ls_6, ls_7, ls_8, ls_9, ls_10, ls_11, ls_12, ls_13, ls_14, ls_15, ls_16, ls_17, ct1_i, ct1_r, wd8_0, wd8_i1, wd8_r1, wd8_i2, wd8_r2, wd8_i3, wd8_r3, wd8_i4, wd8_r4, wd8_i5, wd8_r5, wd8_i6, wd8_r6, wd8_i7, wd8_r7, wd8_i8, wd8_r8, wd8_l2, wd8_l3, wd8_l4, wd8_l5, wd8_l6, wd8_l7, wd8_l8, tl_s, tl_n, inR_t, bd_t, true_and, and_true, true_or, or_true, if_true_x, if_false_x, if_pos, if_neg, Int.toNat_natCast, natL, bI_0, bI_1, bI_ft, eq_self, b_tf, b_ft, not_true_eq_false, not_false_eq_true, h32, hc.t70, hc.r70_4, hc.r70_5, hc.r70_6, hc.r70_7, hc.r70_8, hc.r70_10, hc.r70_11, hc.r70_12, hc.r70_14, hc.r70_15, hc.r70_16, hc.r70_17, hc.r70_19, hc.r70_21, hc.r70_23, hc.r70_24, hc.r70_26, hc.r70_27, hc.r70_28, hc.r70_29, hc.r70_30, hc.r70_31, hc.r70_32, hc.r70_33, hc.r70_36]
        refine ih (s + 1) (s + 1) _ h2 s2 (by omega) (by omega) ?_ (fun h4 x3 x4 s4 => hq h4 x3 x4 ?_)
        · rw [spT_out e, show oAt (s + 1) (s + 1) = none from if_neg (by omega)]
          rw [show opn none (s + 1) = [] from rfl, List.length_nil, List.length_append]
          omega
        · rw [show oAt (s + 1) (s + 1) = none from if_neg (by omega)] at s4
          exact s4
      · simp (disch := first | assumption | omega) only [e_231_20, e_231_21, e_231_22, onI_s, onR_s, onL_s, gl_0, gl_n, gl_1, gl_2, gl_3, gl_4, gl_5, gl_6, gl_7, gl_8, gl_9, gl_10, gl_11, gl_12, gl_13, gl_14, gl_15, gl_16, gl_17, sk0i, sk0r, sk0n, sk1i, sk1r, sk1n, sk_2, sk_3, sk_4, sk_5, sk_6, sk_7, sk_8, sk_9, sk_10, sk_11, sk_12, sk_13, sk_14, sk_15, sk_16, sk_17, ls_0, ls_1, ls_2, ls_3, ls_4, ls_5, ls_6, ls_7, ls_8, ls_9, ls_10, ls_11, ls_12, ls_13, ls_14, ls_15, ls_16, ls_17, ct1_i, ct1_r, wd8_0, wd8_i1, wd8_r1, wd8_i2, wd8_r2, wd8_i3, wd8_r3, wd8_i4, wd8_r4, wd8_i5, wd8_r5, wd8_i6, wd8_r6, wd8_i7, wd8_r7, wd8_i8, wd8_r8, wd8_l2, wd8_l3, wd8_l4, wd8_l5, wd8_l6, wd8_l7, wd8_l8, tl_s, tl_n, inR_t, bd_t, true_and, and_true, true_or, or_true, if_true_x, if_false_x, if_pos, if_neg, Int.toNat_natCast, natL, bI_0, bI_1, bI_ft, eq_self, b_tf, b_ft, not_true_eq_false, not_false_eq_true, h32, hc.t70, hc.r70_4, hc.r70_5, hc.r70_6, hc.r70_7, hc.r70_8, hc.r70_10, hc.r70_11, hc.r70_12, hc.r70_14, hc.r70_15, hc.r70_16, hc.r70_17, hc.r70_19, hc.r70_21, hc.r70_23, hc.r70_24, hc.r70_26, hc.r70_27, hc.r70_28, hc.r70_29, hc.r70_30, hc.r70_31, hc.r70_32, hc.r70_33, hc.r70_36]
        refine hq h2 _ _ ?_
        rw [show m = 0 by omega, grS]
        exact s2
set_option maxHeartbeats 4000000 in
theorem m_231 (hc : CT X ns nb ln) {h0 : xH} {v : Nat → Nat → Int} (ev : vm h0 = v) (w : RGv v) (hb : RBm h0) (z : NZ X h0) (hq : ∀ h2, SM X h0 h2 (rnL v) → Q none h2) : Cl X 231 [vr 70] h0 Q := by
  have ws := w.sites
  have wr := w.rows
  have wf := w.nF
  obtain ⟨R, hR⟩ : ∃ R : Nat, v 0 0 = R := ⟨(v 0 0).toNat, by omega⟩
  obtain ⟨S, hS⟩ : ∃ S : Nat, v 0 1 = S := ⟨(v 0 1).toNat, by omega⟩
  obtain ⟨N, hN⟩ : ∃ N : Nat, v 6 0 = N := ⟨(v 6 0).toNat, by omega⟩
  have sF : ∀ h L, SM X h0 h L → h.2 70 2 = R ∧ h.2 70 3 = S ∧ h.1 73 1 = N := fun h L sm => by
    have evh : vm h = v := sm.2.1.vm.trans ev
    exact ⟨by rw [← hR, ← evh]; rfl, by rw [← hS, ← evh]; rfl, by rw [← hN, ← evh]; rfl⟩
  have fl : ∀ (r : Nat), r < R → ∀ (m n : Nat) (h : xH) (x3 x4 : Option xV), n + m = N + 1 → SM X h0 h (rnA v r ++ rnF v r n) → (∀ h2 x3 x4, SM X h0 h2 (rnA v (r + 1)) → Ev X 231 72 [some (vr 70), some (vi r), some (vi N), x3, x4] [] h2 Q) → Ev X 231 11 [some (vr 70), some (vi r), some (vi ((n : Int) - 1)), x3, x4] [] h Q := by
    intro r hr m
    induction m with
    | zero =>
      intro n h x3 x4 hm s hq
      obtain ⟨e2, e3, e6⟩ := sF h _ s
      rw [show n = N + 1 by omega] at s ⊢
      rw [show (((N + 1 : Nat) : Int) - 1) = N by omega]
      rw [e_231_11]
      simp (disch := first | assumption | omega) only [e_231_12, e_231_13, e_231_14, e_231_15, e_231_16, onI_s, onR_s, onL_s, gl_0, gl_n, gl_1, gl_2, gl_3, gl_4, gl_5, gl_6, gl_7, gl_8, gl_9, gl_10, gl_11, gl_12, gl_13, gl_14, gl_15, gl_16, gl_17, sk0i, sk0r, sk0n, sk1i, sk1r, sk1n, sk_2, sk_3, sk_4, sk_5, sk_6, sk_7, sk_8, sk_9, sk_10, sk_11, sk_12, sk_13, sk_14, sk_15, sk_16, sk_17, ls_0, ls_1, ls_2, ls_3, ls_4, ls_5, ls_6, ls_7, ls_8, ls_9, ls_10, ls_11, ls_12, ls_13, ls_14, ls_15, ls_16, ls_17, ct1_i, ct1_r, wd8_0, wd8_i1, wd8_r1, wd8_i2, wd8_r2, wd8_i3, wd8_r3, wd8_i4, wd8_r4, wd8_i5, wd8_r5, wd8_i6, wd8_r6, wd8_i7, wd8_r7, wd8_i8, wd8_r8, wd8_l2, wd8_l3, wd8_l4, wd8_l5, wd8_l6, wd8_l7, wd8_l8, tl_s, tl_n, inR_t, bd_t, true_and, and_true, true_or, or_true, if_true_x, if_false_x, if_pos, if_neg, Int.toNat_natCast, natL, bI_0, bI_1, bI_ft, eq_self, b_tf, b_ft, not_true_eq_false, not_false_eq_true, e6, tn_1, hc.t70, hc.r70_4, hc.r70_5, hc.r70_6, hc.r70_7, hc.r70_8, hc.r70_10, hc.r70_11, hc.r70_12, hc.r70_14, hc.r70_15, hc.r70_16, hc.r70_17, hc.r70_19, hc.r70_21, hc.r70_23, hc.r70_24, hc.r70_26, hc.r70_27, hc.r70_28, hc.r70_29, hc.r70_30, hc.r70_31, hc.r70_32, hc.r70_33, hc.r70_36, hc.t73, hc.z73]
      refine hq h _ _ ?_
      rw [rnA, hN, Int.toNat_natCast]
      exact s
    | succ m ih =>
      intro n h x3 x4 hm s hq
      obtain ⟨e2, e3, e6⟩ := sF h _ s
      have a := rnF_len (v := v) (r := r) hS n
      have b := rnA_len (v := v) hS r
      rw [e_231_11]
      simp (disch := first | assumption | omega) only [e_231_12, e_231_13, e_231_14, e_231_15, e_231_16, e_231_17, e_231_18, e_231_19, e_231_20, e_231_21, e_231_22, e_231_23, e_231_24, onI_s, onR_s, onL_s, gl_0, gl_n, gl_1, gl_2, gl_3, gl_4, gl_5, gl_6, gl_7, gl_8, gl_9, gl_10, gl_11, gl_12, gl_13, gl_14, gl_15, gl_16, gl_17, sk0i, sk0r, sk0n, sk1i, sk1r, sk1n, sk_2, sk_3, sk_4, sk_5, sk_6, sk_7, sk_8, sk_9, sk_10, sk_11, sk_12, sk_13, sk_14, sk_15, sk_16, sk_17, ls_0, ls_1, ls_2, ls_3, ls_4, ls_5, ls_6, ls_7, ls_8, ls_9, ls_10, ls_11, ls_12, ls_13, ls_14, ls_15, ls_16, ls_17, ct1_i, ct1_r, wd8_0, wd8_i1, wd8_r1, wd8_i2, wd8_r2, wd8_i3, wd8_r3, wd8_i4, wd8_r4, wd8_i5, wd8_r5, wd8_i6, wd8_r6, wd8_i7, wd8_r7, wd8_i8, wd8_r8, wd8_l2, wd8_l3, wd8_l4, wd8_l5, wd8_l6, wd8_l7, wd8_l8, tl_s, tl_n, inR_t, bd_t, true_and, and_true, true_or, or_true, if_true_x, if_false_x, if_pos, if_neg, Int.toNat_natCast, natL, bI_0, bI_1, bI_ft, eq_self, b_tf, b_ft, not_true_eq_false, not_false_eq_true, e6, e3, tn_1, hc.t70, hc.r70_4, hc.r70_5, hc.r70_6, hc.r70_7, hc.r70_8, hc.r70_10, hc.r70_11, hc.r70_12, hc.r70_14, hc.r70_15, hc.r70_16, hc.r70_17, hc.r70_19, hc.r70_21, hc.r70_23, hc.r70_24, hc.r70_26, hc.r70_27, hc.r70_28, hc.r70_29, hc.r70_30, hc.r70_31, hc.r70_32, hc.r70_33, hc.r70_36, hc.t73, hc.z73]
      refine l_231s (L0 := rnA v r ++ rnF v r n) hc ev w hb hR hS hr (by omega) S 0 0 [] h (by simpa using s) (by omega) (by omega) (by simp [opn, oAt]; omega) (fun h2 x3 x4 s2 => ?_)
      rw [e_231_70]
      simp (disch := first | assumption | omega) only [e_231_71, onI_s, onR_s, onL_s, gl_0, gl_n, gl_1, gl_2, gl_3, gl_4, gl_5, gl_6, gl_7, gl_8, gl_9, gl_10, gl_11, gl_12, gl_13, gl_14, gl_15, gl_16, gl_17, sk0i, sk0r, sk0n, sk1i, sk1r, sk1n, sk_2, sk_3, sk_4, sk_5, sk_6, sk_7, sk_8, sk_9, sk_10, sk_11, sk_12, sk_13, sk_14, sk_15, sk_16, sk_17, ls_0, ls_1, ls_2, ls_3, ls_4, ls_5, ls_6, ls_7, ls_8, ls_9, ls_10, ls_11, ls_12, ls_13, ls_14, ls_15, ls_16, ls_17, ct1_i, ct1_r, wd8_0, wd8_i1, wd8_r1, wd8_i2, wd8_r2, wd8_i3, wd8_r3, wd8_i4, wd8_r4, wd8_i5, wd8_r5, wd8_i6, wd8_r6, wd8_i7, wd8_r7, wd8_i8, wd8_r8, wd8_l2, wd8_l3, wd8_l4, wd8_l5, wd8_l6, wd8_l7, wd8_l8, tl_s, tl_n, inR_t, bd_t, true_and, and_true, true_or, or_true, if_true_x, if_false_x, if_pos, if_neg, Int.toNat_natCast, natL, bI_0, bI_1, bI_ft, eq_self, b_tf, b_ft, not_true_eq_false, not_false_eq_true, show (n : Int) - 1 + 1 = ((n + 1 : Nat) : Int) - 1 by omega]
      refine ih (n + 1) h2 _ _ (by omega) ?_ hq
      rw [rnF, ← List.append_assoc, rnR, hS, Int.toNat_natCast]
      exact s2
  have rl : ∀ (m r : Nat) (h : xH) (x2 x3 x4 : Option xV), r + m = R → SM X h0 h (rnA v r) → Ev X 231 5 [some (vr 70), some (vi r), x2, x3, x4] [] h Q := by
    intro m
    induction m with
    | zero =>
      intro r h x2 x3 x4 hm s
      obtain ⟨e2, e3, e6⟩ := sF h _ s
      rw [e_231_5]
      simp (disch := first | assumption | omega) only [e_231_6, e_231_7, e_231_8, e_231_74, onI_s, onR_s, onL_s, gl_0, gl_n, gl_1, gl_2, gl_3, gl_4, gl_5, gl_6, gl_7, gl_8, gl_9, gl_10, gl_11, gl_12, gl_13, gl_14, gl_15, gl_16, gl_17, sk0i, sk0r, sk0n, sk1i, sk1r, sk1n, sk_2, sk_3, sk_4, sk_5, sk_6, sk_7, sk_8, sk_9, sk_10, sk_11, sk_12, sk_13, sk_14, sk_15, sk_16, sk_17, ls_0, ls_1, ls_2, ls_3, ls_4, ls_5, ls_6, ls_7, ls_8, ls_9, ls_10, ls_11, ls_12, ls_13, ls_14, ls_15, ls_16, ls_17, ct1_i, ct1_r, wd8_0, wd8_i1, wd8_r1, wd8_i2, wd8_r2, wd8_i3, wd8_r3, wd8_i4, wd8_r4, wd8_i5, wd8_r5, wd8_i6, wd8_r6, wd8_i7, wd8_r7, wd8_i8, wd8_r8, wd8_l2, wd8_l3, wd8_l4, wd8_l5, wd8_l6, wd8_l7, wd8_l8, tl_s, tl_n, inR_t, bd_t, true_and, and_true, true_or, or_true, if_true_x, if_false_x, if_pos, if_neg, Int.toNat_natCast, natL, bI_0, bI_1, bI_ft, eq_self, b_tf, b_ft, not_true_eq_false, not_false_eq_true, e2, hc.t70, hc.r70_4, hc.r70_5, hc.r70_6, hc.r70_7, hc.r70_8, hc.r70_10, hc.r70_11, hc.r70_12, hc.r70_14, hc.r70_15, hc.r70_16, hc.r70_17, hc.r70_19, hc.r70_21, hc.r70_23, hc.r70_24, hc.r70_26, hc.r70_27, hc.r70_28, hc.r70_29, hc.r70_30, hc.r70_31, hc.r70_32, hc.r70_33, hc.r70_36]
      refine hq h ?_
      rw [rnL, hR, Int.toNat_natCast, show R = r by omega]
      exact s
    | succ m ih =>
      intro r h x2 x3 x4 hm s
      obtain ⟨e2, e3, e6⟩ := sF h _ s
      rw [e_231_5]
      simp (disch := first | assumption | omega) only [e_231_6, e_231_7, e_231_8, e_231_9, e_231_10, onI_s, onR_s, onL_s, gl_0, gl_n, gl_1, gl_2, gl_3, gl_4, gl_5, gl_6, gl_7, gl_8, gl_9, gl_10, gl_11, gl_12, gl_13, gl_14, gl_15, gl_16, gl_17, sk0i, sk0r, sk0n, sk1i, sk1r, sk1n, sk_2, sk_3, sk_4, sk_5, sk_6, sk_7, sk_8, sk_9, sk_10, sk_11, sk_12, sk_13, sk_14, sk_15, sk_16, sk_17, ls_0, ls_1, ls_2, ls_3, ls_4, ls_5, ls_6, ls_7, ls_8, ls_9, ls_10, ls_11, ls_12, ls_13, ls_14, ls_15, ls_16, ls_17, ct1_i, ct1_r, wd8_0, wd8_i1, wd8_r1, wd8_i2, wd8_r2, wd8_i3, wd8_r3, wd8_i4, wd8_r4, wd8_i5, wd8_r5, wd8_i6, wd8_r6, wd8_i7, wd8_r7, wd8_i8, wd8_r8, wd8_l2, wd8_l3, wd8_l4, wd8_l5, wd8_l6, wd8_l7, wd8_l8, tl_s, tl_n, inR_t, bd_t, true_and, and_true, true_or, or_true, if_true_x, if_false_x, if_pos, if_neg, Int.toNat_natCast, natL, bI_0, bI_1, bI_ft, eq_self, b_tf, b_ft, not_true_eq_false, not_false_eq_true, e2, hc.t70, hc.r70_4, hc.r70_5, hc.r70_6, hc.r70_7, hc.r70_8, hc.r70_10, hc.r70_11, hc.r70_12, hc.r70_14, hc.r70_15, hc.r70_16, hc.r70_17, hc.r70_19, hc.r70_21, hc.r70_23, hc.r70_24, hc.r70_26, hc.r70_27, hc.r70_28, hc.r70_29, hc.r70_30, hc.r70_31, hc.r70_32, hc.r70_33, hc.r70_36]
      refine fl r (by omega) (N + 1) 0 h _ _ (by omega) (by rw [rnF, List.append_nil]; exact s) (fun h2 x3 x4 s2 => ?_)
      rw [e_231_72]
      simp (disch := first | assumption | omega) only [e_231_73, onI_s, onR_s, onL_s, gl_0, gl_n, gl_1, gl_2, gl_3, gl_4, gl_5, gl_6, gl_7, gl_8, gl_9, gl_10, gl_11, gl_12, gl_13, gl_14, gl_15, gl_16, gl_17, sk0i, sk0r, sk0n, sk1i, sk1r, sk1n, sk_2, sk_3, sk_4, sk_5, sk_6, sk_7, sk_8, sk_9, sk_10, sk_11, sk_12, sk_13, sk_14, sk_15, sk_16, sk_17, ls_0, ls_1, ls_2, ls_3, ls_4, ls_5, ls_6, ls_7, ls_8, ls_9, ls_10, ls_11, ls_12, ls_13, ls_14, ls_15, ls_16, ls_17, ct1_i, ct1_r, wd8_0, wd8_i1, wd8_r1, wd8_i2, wd8_r2, wd8_i3, wd8_r3, wd8_i4, wd8_r4, wd8_i5, wd8_r5, wd8_i6, wd8_r6, wd8_i7, wd8_r7, wd8_i8, wd8_r8, wd8_l2, wd8_l3, wd8_l4, wd8_l5, wd8_l6, wd8_l7, wd8_l8, tl_s, tl_n, inR_t, bd_t, true_and, and_true, true_or, or_true, if_true_x, if_false_x, if_pos, if_neg, Int.toNat_natCast, natL, bI_0, bI_1, bI_ft, eq_self, b_tf, b_ft, not_true_eq_false, not_false_eq_true, cast_s]
      exact ih (r + 1) h2 _ _ _ (by omega) s2
  rw [c_231]
  simp (disch := first | assumption | omega) only [e_231_0, e_231_1, e_231_2, e_231_3, e_231_4, onI_s, onR_s, onL_s, gl_0, gl_n, gl_1, gl_2, gl_3, gl_4, gl_5, gl_6, gl_7, gl_8, gl_9, gl_10, gl_11, gl_12, gl_13, gl_14, gl_15, gl_16, gl_17, sk0i, sk0r, sk0n, sk1i, sk1r, sk1n, sk_2, sk_3, sk_4, sk_5, sk_6, sk_7, sk_8, sk_9, sk_10, sk_11, sk_12, sk_13, sk_14, sk_15, sk_16, sk_17, ls_0, ls_1, ls_2, ls_3, ls_4, ls_5, ls_6, ls_7, ls_8, ls_9, ls_10, ls_11, ls_12, ls_13, ls_14, ls_15, ls_16, ls_17, ct1_i, ct1_r, wd8_0, wd8_i1, wd8_r1, wd8_i2, wd8_r2, wd8_i3, wd8_r3, wd8_i4, wd8_r4, wd8_i5, wd8_r5, wd8_i6, wd8_r6, wd8_i7, wd8_r7, wd8_i8, wd8_r8, wd8_l2, wd8_l3, wd8_l4, wd8_l5, wd8_l6, wd8_l7, wd8_l8, tl_s, tl_n, inR_t, bd_t, true_and, and_true, true_or, or_true, if_true_x, if_false_x, if_pos, if_neg, Int.toNat_natCast, natL, bI_0, bI_1, bI_ft, eq_self, b_tf, b_ft, not_true_eq_false, not_false_eq_true, hc.t70, hc.r70_4, hc.r70_5, hc.r70_6, hc.r70_7, hc.r70_8, hc.r70_10, hc.r70_11, hc.r70_12, hc.r70_14, hc.r70_15, hc.r70_16, hc.r70_17, hc.r70_19, hc.r70_21, hc.r70_23, hc.r70_24, hc.r70_26, hc.r70_27, hc.r70_28, hc.r70_29, hc.r70_30, hc.r70_31, hc.r70_32, hc.r70_33, hc.r70_36]
  exact rl R 0 _ none none none (by omega) (SM0 z)
end RNM
