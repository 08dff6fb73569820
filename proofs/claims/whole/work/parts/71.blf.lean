/-! block and fence -/
def adB (v : Nat → Nat → Int) (a b c d : Int) : Nat → Nat → Int := up2 (up2 (up2 (up2 (up2 v 2 (v 1 0).toNat a) 3 (v 1 0).toNat b) 4 (v 1 0).toNat c) 5 (v 1 0).toNat d) 1 0 (v 1 0 + 1)
def adF (v : Nat → Nat → Int) (a b c d : Int) : Nat → Nat → Int := up2 (up2 (up2 (up2 (up2 v 7 (v 6 0).toNat a) 8 (v 6 0).toNat b) 9 (v 6 0).toNat c) 10 (v 6 0).toNat d) 6 0 (v 6 0 + 1)
def spBlock (s : AS) (lo hi f l ha : Int) : Int × AS := if ¬ ((0 ≤ lo ∧ lo ≤ hi ∧ hi < s.1 0 0 ∧ 0 ≤ f ∧ f ≤ l ∧ l < s.1 0 1) ∧ (0 ≤ ha ∧ ha ≤ 4)) then refS s (-1) else if anyB (afB s.1 lo hi (max 0 (f - ha)) (min (s.1 0 1 - 1) (l + ha))) (s.1 11 0).toNat = true then refS s (-4) else if s.1 1 0 = 4 then refS s (-5) else actS s 0 (s.1 1 0) (loS (s.1 11 0).toNat 0 (adB s.1 lo hi (max 0 (f - ha)) (min (s.1 0 1 - 1) (l + ha))))
def spFence (s : AS) (lo hi f l : Int) : Int × AS := if ¬ (0 ≤ lo ∧ lo ≤ hi ∧ hi < s.1 0 0 ∧ 0 ≤ f ∧ f ≤ l ∧ l < s.1 0 1) then refS s (-1) else if anyB (ovV s.1 7 lo hi f l) (s.1 6 0).toNat = true ∨ anyB (afB s.1 lo hi f l) (s.1 11 0).toNat = true then refS s (-4) else if s.1 6 0 = 3 then refS s (-5) else actS s 1 (s.1 6 0) (loS (s.1 11 0).toNat 0 (adF s.1 lo hi f l))
section BLF
variable {v : Nat → Nat → Int} {a b c d : Int} {n : Nat}
theorem adB_o {j : Nat} (hj : j ≠ 1 ∧ j ≠ 2 ∧ j ≠ 3 ∧ j ≠ 4 ∧ j ≠ 5) : adB v a b c d j = v j := by
  unfold adB
  rw [up2_of (by omega), up2_of (by omega), up2_of (by omega), up2_of (by omega), up2_of (by omega)]
theorem adF_o {j : Nat} (hj : j ≠ 6 ∧ j ≠ 7 ∧ j ≠ 8 ∧ j ≠ 9 ∧ j ≠ 10) : adF v a b c d j = v j := by
  unfold adF
  rw [up2_of (by omega), up2_of (by omega), up2_of (by omega), up2_of (by omega), up2_of (by omega)]
theorem DIS.cg {v2 : Nat → Nat → Int} (g : DIS v) (e : ∀ j, j = 11 ∨ j = 12 ∨ j = 17 ∨ j = 18 → v2 j = v j) : DIS v2 := by
  unfold DIS
  rw [e 11 (by omega), e 12 (by omega), e 17 (by omega), e 18 (by omega)]
  exact g
theorem adB_rg (w : RGv v) (h0 : v 1 0 < 4) (ha : 0 ≤ a ∧ a ≤ 31) (hb : 0 ≤ b ∧ b ≤ 31) (hc : 0 ≤ c ∧ c ≤ 31) (hd : 0 ≤ d ∧ d ≤ 31) : RGv (adB v a b c d) := by
  have := w.nB
  exact ((((w.u (by unfold rgP; omega)).u (by unfold rgP; omega)).u (by unfold rgP; omega)).u (by unfold rgP; omega)).u (by unfold rgP; omega)
theorem adF_rg (w : RGv v) (h0 : v 6 0 < 3) (ha : 0 ≤ a ∧ a ≤ 31) (hb : 0 ≤ b ∧ b ≤ 31) (hc : 0 ≤ c ∧ c ≤ 31) (hd : 0 ≤ d ∧ d ≤ 31) : RGv (adF v a b c d) := by
  have := w.nF
  exact ((((w.u (by unfold rgP; omega)).u (by unfold rgP; omega)).u (by unfold rgP; omega)).u (by unfold rgP; omega)).u (by unfold rgP; omega)
theorem adB_g0 (g : GEO0 v) (w : RGv v) (h1 : a ≤ b ∧ b < v 0 0 ∧ c ≤ d ∧ d < v 0 1) : GEO0 (adB v a b c d) := by
  have nB := w.nB
  obtain ⟨g1, g2, g3, g4⟩ := g
  unfold GEO0
  rw [adB_o (j := 11) (by omega), adB_o (j := 12) (by omega), adB_o (j := 13) (by omega), adB_o (j := 6) (by omega), adB_o (j := 7) (by omega), adB_o (j := 8) (by omega), adB_o (j := 9) (by omega), adB_o (j := 10) (by omega), adB_o (j := 0) (by omega)]
  refine ⟨g1, g2, g3, fun k hk => ?_⟩
  unfold adB at hk ⊢
  simp only [up2_eq] at hk ⊢
  by_cases e : k = (v 1 0).toNat
  · simp [e]
    omega
  · simp [e] at hk ⊢
    exact g4 k (by omega)
theorem adF_g0 (g : GEO0 v) (w : RGv v) (h1 : a ≤ b ∧ b < v 0 0 ∧ c ≤ d ∧ d < v 0 1) (h2 : anyB (ovV v 7 a b c d) (v 6 0).toNat = false) : GEO0 (adF v a b c d) := by
  have nF := w.nF
  obtain ⟨g1, g2, g3, g4⟩ := g
  have h3 := anyB_f.mp h2
  have ov : ∀ k : Nat, (k : Int) < v 6 0 → ¬ (v 7 k ≤ b ∧ a ≤ v 8 k ∧ v 9 k ≤ d ∧ c ≤ v 10 k) := by
    intro k hk q
    have := h3 k (by omega)
    unfold ovV at this
    rw [Bool.eq_false_iff] at this
    apply this
    simp only [Bool.and_eq_true, decide_eq_true_eq, Nat.reduceAdd]
    omega
  unfold GEO0
  rw [adF_o (j := 11) (by omega), adF_o (j := 12) (by omega), adF_o (j := 13) (by omega), adF_o (j := 1) (by omega), adF_o (j := 2) (by omega), adF_o (j := 3) (by omega), adF_o (j := 4) (by omega), adF_o (j := 5) (by omega), adF_o (j := 0) (by omega)]
  have e6 : adF v a b c d 6 0 = v 6 0 + 1 := up2_self
  have e7 : ∀ k, adF v a b c d 7 k = if k = (v 6 0).toNat then a else v 7 k := fun k => by simp [adF, up2_eq]
  have e8 : ∀ k, adF v a b c d 8 k = if k = (v 6 0).toNat then b else v 8 k := fun k => by simp [adF, up2_eq]
  have e9 : ∀ k, adF v a b c d 9 k = if k = (v 6 0).toNat then c else v 9 k := fun k => by simp [adF, up2_eq]
  have e10 : ∀ k, adF v a b c d 10 k = if k = (v 6 0).toNat then d else v 10 k := fun k => by simp [adF, up2_eq]
  simp only [e6, e7, e8, e9, e10]
  refine ⟨fun k hk => ⟨(g1 k hk).1, by have := (g1 k hk).2; omega⟩, fun k hk => ?_, fun k l hk hl hn => ?_, g4⟩
  · by_cases e : k = (v 6 0).toNat
    · simp only [e, if_true_x]
      exact h1
    · simp only [e, if_false_x]
      exact g2 k (by omega)
  · by_cases e : k = (v 6 0).toNat
    · by_cases e2 : l = (v 6 0).toNat
      · omega
      · simp only [e, e2, if_true_x, if_false_x]
        have := ov l (by omega)
        omega
    · by_cases e2 : l = (v 6 0).toNat
      · simp only [e, e2, if_true_x, if_false_x]
        have := ov k (by omega)
        omega
      · simp only [e, e2, if_false_x]
        exact g3 k l (by omega) (by omega) hn
theorem RBr.u {R : Nat → Int} {j : Nat} {x : Int} (r : RBr R) (h : ∀ k, k < 4 → (j = 6 + 5 * k ∨ j = 7 + 5 * k → 0 ≤ x ∧ x ≤ 31) ∧ (j = 8 + 5 * k → 0 ≤ x ∧ x ≤ 4)) : RBr (up R j x) := by
  intro k hk
  have h1 := r k hk
  have h2 := h k hk
  unfold up
  refine ⟨?_, ?_, ?_⟩
  · by_cases e : 6 + 5 * k = j
    · rw [if_pos e]; exact h2.1 (Or.inl e.symm)
    · rw [if_neg e]; exact h1.1
  · by_cases e : 7 + 5 * k = j
    · rw [if_pos e]; exact h2.1 (Or.inr e.symm)
    · rw [if_neg e]; exact h1.2.1
  · by_cases e : 8 + 5 * k = j
    · rw [if_pos e]; exact h2.2 e.symm
    · rw [if_neg e]; exact h1.2.2
theorem Fm.I73b {X : xL} {h : xH} {I F : Nat → Nat → Int} {j : Nat} {x : Int} (f : Fm X h (I, F)) (h4 : ∀ k, k < 4 → (j = 6 + 5 * k ∨ j = 7 + 5 * k → 0 ≤ x ∧ x ≤ 31) ∧ (j = 8 + 5 * k → 0 ≤ x ∧ x ≤ 4)) (hj : j < X.2.1 73) : Fm X h (up2 I 73 j x, F) := by
  obtain ⟨f1, f2, f3, f4, f5⟩ := f
  refine ⟨NZ.up f1 hj, fun k q => ⟨(up2_of (by omega)).trans (f2 k q).1, (f2 k q).2⟩, fun k q => (up2_of (by omega)).trans (f3 k q), f4, ?_⟩
  dsimp only
  rw [up2_73]
  exact RBr.u f5 h4
theorem rv_ab {R : Nat → Int} {ro si e : Int} {k : Nat} (hk : k < 4) : rv (up (up (up (up (up R (4 + 5 * k) a) (4 + 5 * k + 1) b) (4 + 5 * k + 2) c) (4 + 5 * k + 3) d) (4 + 5 * k + 4) e) ro si = up2 (up2 (up2 (up2 (rv R ro si) 2 k a) 3 k b) 4 k (max 0 (c - e))) 5 k (min (si - 1) (d + e)) := by
  funext j2 i2
  by_cases q : i2 = k ∧ (j2 = 2 ∨ j2 = 3 ∨ j2 = 4 ∨ j2 = 5)
  · obtain ⟨rfl, q⟩ := q
    rcases q with rfl | rfl | rfl | rfl
    · simp (disch := omega) [rv, up2_eq, hk, up]
    · simp (disch := omega) [rv, up2_eq, hk, up]
      rw [if_neg (by omega), if_neg (by omega), if_neg (by omega), if_pos (by omega)]
    · simp (disch := omega) [rv, up2_eq, hk, up]
      rw [if_neg (by omega), if_neg (by omega), if_pos (by omega), if_pos (by omega)]
    · simp (disch := omega) [rv, up2_eq, hk, up]
      rw [if_neg (by omega), if_pos (by omega), if_pos (by omega)]
  · rw [up2_eq, if_neg (by omega), up2_eq, if_neg (by omega), up2_eq, if_neg (by omega), up2_eq, if_neg (by omega)]
    unfold rv
    repeat' (refine ifc (fun _ => ?_) (fun _ => ?_))
    all_goals first | rfl | (simp (disch := omega) only [up, if_neg]; done)
theorem loS_o {j : Nat} (hj : j ≠ 17 ∧ j ≠ 18) : ∀ (m i : Nat) (v : Nat → Nat → Int), loS m i v j = v j
  | 0, _, _ => rfl
  | m + 1, i, v => by
    rw [loS, loS_o hj m (i + 1)]
    split
    · exact lsV_o hj
    · rfl
end BLF
