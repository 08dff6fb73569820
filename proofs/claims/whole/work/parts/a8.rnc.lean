/-! RUNS of the class -/
def G9 (h h2 : xH) : Prop := (∀ a, a ≠ 9 → a ≠ 10 → a ≠ 11 → a ≠ 12 → h2.1 a = h.1 a) ∧ (∀ a k, ¬ (a = 7 ∧ k = 3) → h2.2 a k = h.2 a k)
theorem G9.refl {h : xH} : G9 h h := ⟨fun _ _ _ _ _ => rfl, fun _ _ _ => rfl⟩
theorem G9.tr {h h2 h3 : xH} (g : G9 h h2) (k : G9 h2 h3) : G9 h h3 := ⟨fun a q1 q2 q3 q4 => (k.1 a q1 q2 q3 q4).trans (g.1 a q1 q2 q3 q4), fun a j q => (k.2 a j q).trans (g.2 a j q)⟩
def SG (X : xL) (h0 h : xH) (L : List Rn) : Prop := NZ X h ∧ G9 h0 h ∧ h.2 7 3 = L.length ∧ RO (h.1 9) (h.1 10) (h.1 11) (h.1 12) L
section RNC
variable {X : xL} {Q : Option xV → xH → Prop} {ns nb ln : Nat}
/-- one more run is written -/
theorem SG.snoc (hc : CT X ns nb ln) {h0 h : xH} {L : List Rn} (s : SG X h0 h L) (hn : L.length < ns) {r a n : Nat} {f : Int} : SG X h0 (up2 (up2 (up2 (up2 h.1 9 L.length r) 10 L.length f) 11 L.length a) 12 L.length n, up2 h.2 7 3 ((L.length : Int) + 1)) (L ++ [(r, f, a, n)]) := by
  refine ⟨?_, ⟨fun b q1 q2 q3 q4 => ?_, fun b k q => ?_⟩, ?_, ?_⟩
  · exact NZ.up (F := h.2) (NZ.up (F := h.2) (NZ.up (F := h.2) (NZ.up (F := h.2) s.1 (by rw [hc.z9]; exact hn)) (by rw [hc.z10]; exact hn)) (by rw [hc.z11]; exact hn)) (by rw [hc.z12]; exact hn)
  · dsimp only
    rw [up2_of q4, up2_of q3, up2_of q2, up2_of q1]
    exact s.2.1.1 b q1 q2 q3 q4
  · dsimp only
    rw [up2_eq, if_neg q]
    exact s.2.1.2 b k q
  · dsimp only
    rw [up2_self]
    simp
  · dsimp only
    refine RO.snoc s.2.2.2 (r, f, a, n) (fun k => ?_) (fun k => ?_) (fun k => ?_) (fun k => ?_)
    · rw [up2_of (by decide), up2_of (by decide), up2_of (by decide), up2_same]
    · rw [up2_of (by decide), up2_of (by decide), up2_same, up2_of (by decide)]
    · rw [up2_of (by decide), up2_same, up2_of (by decide), up2_of (by decide)]
    · rw [up2_same, up2_of (by decide), up2_of (by decide), up2_of (by decide)]
theorem SG.last (hc : CT X ns nb ln) {h0 h : xH} {L : List Rn} {x : Rn} (s : SG X h0 h (L ++ [x])) (hn : L.length < ns) {n : Nat} : SG X h0 (up2 h.1 12 L.length n, h.2) (L ++ [(x.1, x.2.1, x.2.2.1, n)]) := by
  refine ⟨NZ.up (F := h.2) s.1 (by rw [hc.z12]; exact hn), ⟨fun b q1 q2 q3 q4 => ?_, fun b k q => s.2.1.2 b k q⟩, ?_, ?_⟩
  · dsimp only
    rw [up2_of q4]
    exact s.2.1.1 b q1 q2 q3 q4
  · have := s.2.2.1
    simp at this ⊢
    exact this
  · dsimp only
    rw [up2_of (by decide), up2_of (by decide), up2_of (by decide)]
    exact RO.last s.2.2.2 n (fun k => by rw [up2_same])
theorem SG.len {h0 h : xH} {L : List Rn} {x : Rn} (s : SG X h0 h (L ++ [x])) : h.1 12 L.length = x.2.2.2 := (s.2.2.2 L.length x (by simp)).2.2.2
set_option maxHeartbeats 8000000 in
theorem l_38 (hc : CT X ns nb ln) {h0 : xH} {v : Nat → Nat → Int} {R S r : Nat} {f : Int} {L0 : List Rn} (hns : ns = R * S) (R8 : R ≤ 8) (S32 : S ≤ 32) (hr : r < R) (h7 : h0.2 7 1 = S) (p8 : PTo (h0.1 8) R S (own v)) : ∀ (m s : Nat) (o : Option Nat) (M : List (Nat × Nat)) (h : xH) (x5 : Option xV), SG X h0 h (L0 ++ (M ++ opn o s).map (tgR r f)) → s + m = S → (∀ a, o = some a → a < s) → ((L0.length : Int) + M.length + (opn o s).length ≤ ((r * S : Nat) : Int) + cntB (spT v r f s) S 0) → (∀ h2, SG X h0 h2 (L0 ++ (grS (fun s => decide (own v r s = f)) m s o M).map (tgR r f)) → Q none h2) → Ev X 38 4 [some (vr 7), some (vi r), some (vi f), some (vi (bI o.isSome)), some (vi s), x5] [] h Q := by
  intro m
  induction m with
  | zero =>
    intro s o M h x5 sg hm ho hl hq
    have e7 : h.2 7 1 = S := (sg.2.1.2 7 1 (by decide)).trans h7
    rw [e_38_4]
    simp (disch := first | assumption | omega) only [e_38_5, e_38_6, e_38_7, e_38_74, onI_s, onR_s, onL_s, gl_0, gl_n, gl_1, gl_2, gl_3, gl_4, gl_5, gl_6, gl_7, gl_8, gl_9, gl_10, gl_11, gl_12, gl_13, gl_14, gl_15, gl_16, gl_17, sk0i, sk0r, sk0n, sk1i, sk1r, sk1n, sk_2, sk_3, sk_4, sk_5, sk_6, sk_7, sk_8, sk_9, sk_10, sk_11, sk_12, sk_13, sk_14, sk_15, sk_16, sk_17, ls_0, ls_1, ls_2, ls_3, ls_4, ls_5, ls_6, ls_7, ls_8, ls_9, ls_10, ls_11, ls_12, ls_13, ls_14, ls_15, ls_16, ls_17, ct1_i, ct1_r, wd8_0, wd8_i1, wd8_r1, wd8_i2, wd8_r2, wd8_i3, wd8_r3, wd8_i4, wd8_r4, wd8_i5, wd8_r5, wd8_i6, wd8_r6, wd8_i7, wd8_r7, wd8_i8, wd8_r8, wd8_l2, wd8_l3, wd8_l4, wd8_l5, wd8_l6, wd8_l7, wd8_l8, tl_s, tl_n, inR_t, bd_t, true_and, and_true, true_or, or_true, if_true_x, if_false_x, if_pos, if_neg, Int.toNat_natCast, natL, bI_0, bI_1, bI_ft, eq_self, b_tf, b_ft, not_true_eq_false, not_false_eq_true, e7, hc.t7, hc.r7_2, hc.r7_4, hc.r7_5, hc.r7_6, hc.r7_7, hc.r7_8]
    refine hq h ?_
    cases o with
    | none => rw [grS]; simpa [opn] using sg
    | some a => rw [grS]; exact sg
  | succ m ih =>
    intro s o M h x5 sg hm ho hl hq
    have e7 : h.2 7 1 = S := (sg.2.1.2 7 1 (by decide)).trans h7
    have hs : s < S := by omega
    have hi := ix_in hr hs
    have mb := mul_bd (a := (r : Int)) (b := (S : Int)) (A := 8) (B := 32) (by omega) (by omega) (by omega) (by omega)
    have t1 : ((r : Int) * (S : Int) + (s : Int)).toNat = r * S + s := by
      rw [← Int.natCast_mul, ← Int.natCast_add, Int.toNat_natCast]
    have hb : (r : Int) * (S : Int) + (s : Int) < (ns : Int) := by
      rw [← Int.natCast_mul, ← Int.natCast_add, hns]
      omega
    have rv : h.1 8 (r * S + s) = own v r s := by
      rw [sg.2.1.1 8 (by decide) (by decide) (by decide) (by decide)]
      exact p8 r s hr hs
    have ns256 : ns ≤ 256 := by rw [hns]; exact Nat.mul_le_mul R8 S32
    have hR := Nat.mul_le_mul_right S (show r + 1 ≤ R from hr)
    rw [Nat.succ_mul] at hR
    rw [e_38_4]
    by_cases e : own v r s = f
    · have c1 := spT_in (v := v) (r := r) (f := f) hs e
      have c2 := (cntB_bd (p := spT v r f (s + 1)) S 0).2
      cases o with
      | none =>
        have ln0 : h.2 7 3 = ((L0 ++ (M ++ opn none s).map (tgR r f)).length : Nat) := sg.2.2.1
        obtain ⟨L, eL⟩ : ∃ L : List Rn, L = L0 ++ (M ++ opn none s).map (tgR r f) := ⟨_, rfl⟩
        rw [← eL] at sg ln0
        have hL : L.length = L0.length + M.length := by rw [eL]; simp [opn]
        have hn : L.length < ns := by simp [opn] at hl; omega
        simp (disch := first | assumption | omega) only [e_38_5, e_38_6, e_38_7, e_38_8, e_38_9, e_38_10, e_38_11, e_38_12, e_38_13, e_38_14, e_38_15, e_38_16, e_38_17, e_38_18, e_38_19, e_38_20, e_38_22, e_38_23, e_38_24, e_38_25, e_38_26, e_38_27, e_38_28, e_38_29, e_38_30, e_38_31, e_38_32, e_38_33, e_38_34, e_38_35, e_38_36, e_38_37, e_38_38, e_38_39, e_38_40, e_38_41, e_38_42, e_38_43, e_38_44, e_38_45, e_38_46, e_38_47, e_38_48, e_38_49, e_38_50, e_38_51, e_38_52, e_38_53, e_38_54, e_38_55, e_38_56, onI_s, onR_s, onL_s, gl_0, gl_n, gl_1, gl_2, gl_3, gl_4, gl_5, gl_6, gl_7, gl_8, gl_9, gl_10, gl_11, gl_12, gl_13, gl_14, gl_15, gl_16, gl_17, sk0i, sk0r, sk0n, sk1i, sk1r, sk1n, sk_2, sk_3, sk_4, sk_5, sk_6, sk_7, sk_8, sk_9, sk_10, sk_11, sk_12, sk_13, sk_14, sk_15, sk_16, sk_17, ls_0, ls_1, ls_2, ls_3, ls_4, ls_5, ls_6, ls_7, ls_8, ls_9, ls_10, ls_11, ls_12, ls_13, ls_14, ls_15, ls_16, ls_17, ct1_i, ct1_r, wd8_0, wd8_i1, wd8_r1, wd8_i2, wd8_r2, wd8_i3, wd8_r3, wd8_i4, wd8_r4, wd8_i5, wd8_r5, wd8_i6, wd8_r6, wd8_i7, wd8_r7, wd8_i8, wd8_r8, wd8_l2, wd8_l3, wd8_l4, wd8_l5, wd8_l6, wd8_l7, wd8_l8, tl_s, tl_n, inR_t, bd_t, true_and, and_true, true_or, or_true, if_true_x, if_false_x, if_pos, if_neg, Int.toNat_natCast, natL, bI_0, bI_1, bI_ft, eq_self, b_tf, b_ft, not_true_eq_false, not_false_eq_true, e7, t1, rv, e, ln0, Option.isSome_none, hc.t7, hc.r7_2, hc.r7_4, hc.r7_5, hc.r7_6, hc.r7_7, hc.r7_8, hc.t8, hc.z8, hc.t9, hc.z9, hc.t10, hc.z10, hc.t11, hc.z11, hc.t12, hc.z12]
        obtain ⟨h3, e3⟩ : ∃ h3 : xH, h3 = (up2 (up2 (up2 (up2 h.1 9 L.length r) 10 L.length f) 11 L.length s) 12 L.length 0, up2 h.2 7 3 ((L.length : Int) + 1)) := ⟨_, rfl⟩
        have s1 : SG X h0 h3 (L ++ [(r, f, s, 0)]) := by
          rw [e3]
          exact SG.snoc hc sg hn
        rw [← e3]
        have f3 : h3.2 7 3 = ((L.length + 1 : Nat) : Int) := by rw [s1.2.2.1]; simp
        have g3 : h3.1 12 L.length = 0 := SG.len s1
        have t2 : (((L.length + 1 : Nat) : Int) - 1).toNat = L.length := by omega
        simp (disch := first | assumption | omega) only [e_38_57, e_38_58, e_38_59, e_38_60, e_38_61, e_38_62, e_38_63, e_38_64, e_38_65, e_38_66, e_38_67, e_38_68, e_38_69, e_38_70, e_38_71, e_38_72, e_38_73, onI_s, onR_s, onL_s, gl_0, gl_n, gl_1, gl_2, gl_3, gl_4, gl_5, gl_6, gl_7, gl_8, gl_9, gl_10, gl_11, gl_12, gl_13, gl_14, gl_15, gl_16, gl_17, sk0i, sk0r, sk0n, sk1i, sk1r, sk1n, sk_2, sk_3, sk_4, sk_5, sk_6, sk_7, sk_8, sk_9, sk_10, sk_11, sk_12, sk_13, sk_14, sk_15, sk_16, sk_17, ls_0, ls_1, ls_2, ls_3, ls_4, ls_5, ls_6, ls_7, ls_8, ls_9, ls_10, ls_11, ls_12, ls_13, ls_14, ls_15, ls_16, ls_17, ct1_i, ct1_r, wd8_0, wd8_i1, wd8_r1, wd8_i2, wd8_r2, wd8_i3, wd8_r3, wd8_i4, wd8_r4, wd8_i5, wd8_r5, wd8_i6, wd8_r6, wd8_i7, wd8_r7, wd8_i8, wd8_r8, wd8_l2, wd8_l3, wd8_l4, wd8_l5, wd8_l6, wd8_l7, wd8_l8, tl_s, tl_n, inR_t, bd_t, true_and, and_true, true_or, or_true, if_true_x, if_false_x, if_pos, if_neg, Int.toNat_natCast, natL, bI_0, bI_1, bI_ft, eq_self, b_tf, b_ft, not_true_eq_false, not_false_eq_true, f3, g3, t2, cast_s, hc.t7, hc.r7_2, hc.r7_4, hc.r7_5, hc.r7_6, hc.r7_7, hc.r7_8, hc.t8, hc.z8, hc.t9, hc.z9, hc.t10, hc.z10, hc.t11, hc.z11, hc.t12, hc.z12]
        refine ih (s + 1) (some s) M (up2 h3.1 12 L.length ((1 : Nat) : Int), h3.2) _ (by
          have s2 := SG.last hc s1 hn (n := 1)
          have : L0 ++ List.map (tgR r f) (M ++ opn (some s) (s + 1)) = L ++ [(r, f, s, 1)] := by
            rw [eL]
            simp [opn, tgR]
          rw [this]
          exact s2) (by omega) (fun a q => by cases q; omega) (by simp [opn] at hl ⊢; omega) (fun h2 s2 => hq h2 (by rw [grS, if_pos (decide_eq_true e)]; exact s2))
      | some a =>
        have ha := ho a rfl
        obtain ⟨L, eL⟩ : ∃ L : List Rn, L = L0 ++ M.map (tgR r f) := ⟨_, rfl⟩
        have eM : L0 ++ List.map (tgR r f) (M ++ opn (some a) s) = L ++ [(r, f, a, s - a)] := by
          rw [eL]
          simp [opn, tgR]
        rw [eM] at sg
        have hL : L.length = L0.length + M.length := by rw [eL]; simp
        have hn : L.length < ns := by simp [opn] at hl; omega
        have f3 : h.2 7 3 = ((L.length + 1 : Nat) : Int) := by rw [sg.2.2.1]; simp
        have g3 : h.1 12 L.length = ((s - a : Nat) : Int) := SG.len sg
        have t2 : (((L.length + 1 : Nat) : Int) - 1).toNat = L.length := by omega
        simp (disch := first | assumption | omega) only [e_38_5, e_38_6, e_38_7, e_38_8, e_38_9, e_38_10, e_38_11, e_38_12, e_38_13, e_38_14, e_38_15, e_38_16, e_38_17, e_38_18, e_38_19, e_38_20, e_38_22, e_38_23, e_38_24, e_38_25, e_38_26, e_38_57, e_38_58, e_38_59, e_38_60, e_38_61, e_38_62, e_38_63, e_38_64, e_38_65, e_38_66, e_38_67, e_38_68, e_38_69, e_38_70, e_38_71, e_38_72, e_38_73, onI_s, onR_s, onL_s, gl_0, gl_n, gl_1, gl_2, gl_3, gl_4, gl_5, gl_6, gl_7, gl_8, gl_9, gl_10, gl_11, gl_12, gl_13, gl_14, gl_15, gl_16, gl_17, sk0i, sk0r, sk0n, sk1i, sk1r, sk1n, sk_2, sk_3, sk_4, sk_5, sk_6, sk_7, sk_8, sk_9, sk_10, sk_11, sk_12, sk_13, sk_14, sk_15, sk_16, sk_17, ls_0, ls_1, ls_2, ls_3, ls_4, ls_5, ls_6, ls_7, ls_8, ls_9, ls_10, ls_11, ls_12, ls_13, ls_14, ls_15, ls_16, ls_17, ct1_i, ct1_r, wd8_0, wd8_i1, wd8_r1, wd8_i2, wd8_r2, wd8_i3, wd8_r3, wd8_i4, wd8_r4, wd8_i5, wd8_r5, wd8_i6, wd8_r6, wd8_i7, wd8_r7, wd8_i8, wd8_r8, wd8_l2, wd8_l3, wd8_l4, wd8_l5, wd8_l6, wd8_l7, wd8_l8, tl_s, tl_n, inR_t, bd_t, true_and, and_true, true_or, or_true, if_true_x, if_false_x, if_pos, if_neg, Int.toNat_natCast, natL, bI_0, bI_1, bI_ft, eq_self, b_tf, b_ft, not_true_eq_false, not_false_eq_true, e7, t1, rv, e, Option.isSome_some, f3, g3, t2, cast_s, hc.t7, hc.r7_2, hc.r7_4, hc.r7_5, hc.r7_6, hc.r7_7, hc.r7_8, hc.t8, hc.z8, hc.t9, hc.z9, hc.t10, hc.z10, hc.t11, hc.z11, hc.t12, hc.z12]
        refine ih (s + 1) (some a) M _ _ (by
          have s2 := SG.last hc sg hn (n := s - a + 1)
          have : L0 ++ List.map (tgR r f) (M ++ opn (some a) (s + 1)) = L ++ [(r, f, a, s - a + 1)] := by
            rw [eL]
            simp [opn, tgR]
            omega
          rw [this]
          exact s2) (by omega) (fun b q => by cases q; omega) (by simp [opn] at hl ⊢; omega) (fun h2 s2 => hq h2 (by rw [grS, if_pos (decide_eq_true e)]; exact s2))
    · have c1 := spT_out (v := v) (r := r) (s := s) (S := S) e
      have x : ∀ o : Option Nat, Ev X 38 4 [some (vr 7), some (vi r), some (vi f), some (vi 0), some (vi ((s + 1 : Nat) : Int)), some (vi 0)] [] h Q → Ev X 38 5 [some (vr 7), some (vi r), some (vi f), some (vi (bI o.isSome)), some (vi s), x5] [vi s] h Q := fun o q => by
        simp (disch := first | assumption | omega) only [e_38_5, e_38_6, e_38_7, e_38_8, e_38_9, e_38_10, e_38_11, e_38_12, e_38_13, e_38_14, e_38_15, e_38_16, e_38_17, e_38_18, e_38_21, e_38_22, e_38_23, e_38_24, e_38_57, e_38_58, e_38_70, e_38_71, e_38_72, e_38_73, onI_s, onR_s, onL_s, gl_0, gl_n, gl_1, gl_2, gl_3, gl_4, gl_5, gl_6, gl_7, gl_8, gl_9, gl_10, gl_11, gl_12, gl_13, gl_14, gl_15, gl_16, gl_17, sk0i, sk0r, sk0n, sk1i, sk1r, sk1n, sk_2, sk_3, sk_4, sk_5, sk_6, sk_7, sk_8, sk_9, sk_10, sk_11, sk_12, sk_13, sk_14, sk_15, sk_16, sk_17, ls_0, ls_1, ls_2, ls_3, ls_4, ls_5, ls_6, ls_7, ls_8, ls_9, ls_10, ls_11, ls_12, ls_13, ls_14, ls_15, ls_16, ls_17, ct1_i, ct1_r, wd8_0, wd8_i1, wd8_r1, wd8_i2, wd8_r2, wd8_i3, wd8_r3, wd8_i4, wd8_r4, wd8_i5, wd8_r5, wd8_i6, wd8_r6, wd8_i7, wd8_r7, wd8_i8, wd8_r8, wd8_l2, wd8_l3, wd8_l4, wd8_l5, wd8_l6, wd8_l7, wd8_l8, tl_s, tl_n, inR_t, bd_t, true_and, and_true, true_or, or_true, if_true_x, if_false_x, if_pos, if_neg, Int.toNat_natCast, natL, bI_0, bI_1, bI_ft, eq_self, b_tf, b_ft, not_true_eq_false, not_false_eq_true, e7, t1, rv, e, cast_s, hc.t7, hc.r7_2, hc.r7_4, hc.r7_5, hc.r7_6, hc.r7_7, hc.r7_8, hc.t8, hc.z8, hc.t9, hc.z9, hc.t10, hc.z10, hc.t11, hc.z11, hc.t12, hc.z12]
        exact q
      cases o with
      | none =>
        refine x none (ih (s + 1) none M h _ (by simpa [opn] using sg) (by omega) (fun a q => by cases q) (by simp [opn] at hl ⊢; omega) (fun h2 s2 => hq h2 (by rw [grS, if_neg (by simp [e])]; exact s2)))
      | some a =>
        refine x (some a) (ih (s + 1) none (M ++ [(a, s - a)]) h _ (by simpa [opn] using sg) (by omega) (fun b q => by cases q) (by simp [opn] at hl ⊢; omega) (fun h2 s2 => hq h2 (by rw [grS, if_neg (by simp [e])]; exact s2)))
/-- the runs of a row and fence behind those that are there -/
theorem m_38 (hc : CT X ns nb ln) {h0 h : xH} {v : Nat → Nat → Int} {R S r : Nat} {f : Int} {L0 : List Rn} (hns : ns = R * S) (R8 : R ≤ 8) (S32 : S ≤ 32) (hr : r < R) (h7 : h0.2 7 1 = S) (hS : v 0 1 = S) (p8 : PTo (h0.1 8) R S (own v)) (sg : SG X h0 h L0) (hl : (L0.length : Int) ≤ ((r * S : Nat) : Int) + cntB (spT v r f 0) S 0) (hq : ∀ h2, SG X h0 h2 (L0 ++ (rnR v r f).map (tgR r f)) → Q none h2) : Cl X 38 [vr 7, vi r, vi f] h Q := by
  rw [c_38]
  simp (disch := first | assumption | omega) only [e_38_0, e_38_1, e_38_2, e_38_3, onI_s, onR_s, onL_s, gl_0, gl_n, gl_1, gl_2, gl_3, gl_4, gl_5, gl_6, gl_7, gl_8, gl_9, gl_10, gl_11, gl_12, gl_13, gl_14, gl_15, gl_16, gl_17, sk0i, sk0r, sk0n, sk1i, sk1r, sk1n, sk_2, sk_3, sk_4, sk_5, sk_6, sk_7, sk_8, sk_9, sk_10, sk_11, sk_12, sk_13, sk_14, sk_15, sk_16, sk_17, ls_0, ls_1, ls_2, ls_3, ls_4, ls_5, ls_6, ls_7, ls_8, ls_9, ls_10, ls_11, ls_12, ls_13, ls_14, ls_15, ls_16, ls_17, ct1_i, ct1_r, wd8_0, wd8_i1, wd8_r1, wd8_i2, wd8_r2, wd8_i3, wd8_r3, wd8_i4, wd8_r4, wd8_i5, wd8_r5, wd8_i6, wd8_r6, wd8_i7, wd8_r7, wd8_i8, wd8_r8, wd8_l2, wd8_l3, wd8_l4, wd8_l5, wd8_l6, wd8_l7, wd8_l8, tl_s, tl_n, inR_t, bd_t, true_and, and_true, true_or, or_true, if_true_x, if_false_x, if_pos, if_neg, Int.toNat_natCast, natL, bI_0, bI_1, bI_ft, eq_self, b_tf, b_ft, not_true_eq_false, not_false_eq_true]
  refine l_38 hc hns R8 S32 hr h7 p8 S 0 none [] h _ (by simpa [opn] using sg) (by omega) (fun a q => by cases q) (by simpa [opn] using hl) (fun h2 s2 => hq h2 ?_)
  unfold rnR
  rw [hS, Int.toNat_natCast]
  exact s2
theorem SG0 (hc : CT X ns nb ln) {h0 : xH} (z : NZ X h0) : SG X h0 (h0.1, up2 h0.2 7 3 0) [] := by
  refine ⟨z, ⟨fun _ _ _ _ _ => rfl, fun b k q => ?_⟩, ?_, RO.nil⟩
  · dsimp only
    rw [up2_eq, if_neg q]
  · dsimp only
    rw [up2_self]
    rfl
theorem m_36 (hc : CT X ns nb ln) {h0 : xH} {v : Nat → Nat → Int} {R S r : Nat} {f : Int} (hns : ns = R * S) (R8 : R ≤ 8) (S32 : S ≤ 32) (hr : r < R) (h7 : h0.2 7 1 = S) (hS : v 0 1 = S) (p8 : PTo (h0.1 8) R S (own v)) (z : NZ X h0) (hq : ∀ h2, SG X h0 h2 ((rnR v r f).map (tgR r f)) → Q none h2) : Cl X 36 [vr 7, vi r, vi f] h0 Q := by
  rw [c_36]
  simp (disch := first | assumption | omega) only [e_36_0, e_36_1, e_36_2, e_36_3, e_36_4, e_36_5, onI_s, onR_s, onL_s, gl_0, gl_n, gl_1, gl_2, gl_3, gl_4, gl_5, gl_6, gl_7, gl_8, gl_9, gl_10, gl_11, gl_12, gl_13, gl_14, gl_15, gl_16, gl_17, sk0i, sk0r, sk0n, sk1i, sk1r, sk1n, sk_2, sk_3, sk_4, sk_5, sk_6, sk_7, sk_8, sk_9, sk_10, sk_11, sk_12, sk_13, sk_14, sk_15, sk_16, sk_17, ls_0, ls_1, ls_2, ls_3, ls_4, ls_5, ls_6, ls_7, ls_8, ls_9, ls_10, ls_11, ls_12, ls_13, ls_14, ls_15, ls_16, ls_17, ct1_i, ct1_r, wd8_0, wd8_i1, wd8_r1, wd8_i2, wd8_r2, wd8_i3, wd8_r3, wd8_i4, wd8_r4, wd8_i5, wd8_r5, wd8_i6, wd8_r6, wd8_i7, wd8_r7, wd8_i8, wd8_r8, wd8_l2, wd8_l3, wd8_l4, wd8_l5, wd8_l6, wd8_l7, wd8_l8, tl_s, tl_n, inR_t, bd_t, true_and, and_true, true_or, or_true, if_true_x, if_false_x, if_pos, if_neg, Int.toNat_natCast, natL, bI_0, bI_1, bI_ft, eq_self, b_tf, b_ft, not_true_eq_false, not_false_eq_true, hc.t7, hc.r7_2, hc.r7_4, hc.r7_5, hc.r7_6, hc.r7_7, hc.r7_8]
  (rw [e_36_6]; refine ⟨⟨hc.t7, by simp [wd_i, wd_r, wd_l, wd_0]⟩, ?_⟩)
  refine m_38 hc hns R8 S32 hr h7 hS p8 (SG0 hc z) (by
    have := (cntB_bd (p := spT v r f 0) S 0).1
    rw [List.length_nil]
    omega) (fun h2 s2 => ?_)
  simp (disch := first | assumption | omega) only [e_36_7, onI_s, onR_s, onL_s, gl_0, gl_n, gl_1, gl_2, gl_3, gl_4, gl_5, gl_6, gl_7, gl_8, gl_9, gl_10, gl_11, gl_12, gl_13, gl_14, gl_15, gl_16, gl_17, sk0i, sk0r, sk0n, sk1i, sk1r, sk1n, sk_2, sk_3, sk_4, sk_5, sk_6, sk_7, sk_8, sk_9, sk_10, sk_11, sk_12, sk_13, sk_14, sk_15, sk_16, sk_17, ls_0, ls_1, ls_2, ls_3, ls_4, ls_5, ls_6, ls_7, ls_8, ls_9, ls_10, ls_11, ls_12, ls_13, ls_14, ls_15, ls_16, ls_17, ct1_i, ct1_r, wd8_0, wd8_i1, wd8_r1, wd8_i2, wd8_r2, wd8_i3, wd8_r3, wd8_i4, wd8_r4, wd8_i5, wd8_r5, wd8_i6, wd8_r6, wd8_i7, wd8_r7, wd8_i8, wd8_r8, wd8_l2, wd8_l3, wd8_l4, wd8_l5, wd8_l6, wd8_l7, wd8_l8, tl_s, tl_n, inR_t, bd_t, true_and, and_true, true_or, or_true, if_true_x, if_false_x, if_pos, if_neg, Int.toNat_natCast, natL, bI_0, bI_1, bI_ft, eq_self, b_tf, b_ft, not_true_eq_false, not_false_eq_true]
  exact hq h2 (by simpa using s2)
end RNC
