/-! SMOOTH -/
def shr (q : Int) : Int := (Int32.ofInt 4096 >>> (Int32.ofInt q &&& 31)).toInt
def shA (gm d : Int) : Int := if 12 < d / gm then 0 else shr (d / gm)
def shS2 (f : Nat → Int) (pl gm : Int) (k : Nat) : Int := shA gm ((pl - f k).natAbs : Int)
def faS (f : Nat → Int) (pl gm : Int) (k : Nat) : Int := ((pl - f k).natAbs : Int) * shA gm ((pl - f k).natAbs : Int)
def mea (f : Nat → Int) (p : Nat) (pl gm : Int) : Int := if sumF (shS2 f pl gm) p 0 = 0 then 0 else sumF (faS f pl gm) p 0 / sumF (shS2 f pl gm) p 0
def smF (f : Nat → Int) (p : Nat) (gm : Int) : Int := mxF f p 0 (-100000000) - mea f p (mxF f p 0 (-100000000)) gm - (mnF f p 0 100000000 + mea f p (mnF f p 0 100000000) gm)
def smN (v : Nat → Nat → Int) (t gm : Int) (n : Nat) : Int := smF (pwX v n) (v 21 n).toNat gm + t * smF (pwY v n) (v 21 n).toNat gm
def smO (v : Nat → Nat → Int) (t gm : Int) : Int := sumF (fun n => v 20 n * smN v t gm n) (v 19 0).toNat 0
theorem shr_bd {q : Int} (h0 : 0 ≤ q) (h1 : q ≤ 12) : 1 ≤ shr q ∧ shr q ≤ 4096 := by
  rcases (show q = 0 ∨ q = 1 ∨ q = 2 ∨ q = 3 ∨ q = 4 ∨ q = 5 ∨ q = 6 ∨ q = 7 ∨ q = 8 ∨ q = 9 ∨ q = 10 ∨ q = 11 ∨ q = 12 by omega) with rfl | rfl | rfl | rfl | rfl | rfl | rfl | rfl | rfl | rfl | rfl | rfl | rfl <;> decide
theorem shA_bd {gm d : Int} (hg : 0 < gm) (hd : 0 ≤ d) : 0 ≤ shA gm d ∧ shA gm d ≤ 4096 := by
  have := Int.ediv_nonneg hd (Int.le_of_lt hg)
  unfold shA
  by_cases e : 12 < d / gm
  · rw [if_pos e]; omega
  · rw [if_neg e]
    have := shr_bd (q := d / gm) (by omega) (by omega)
    omega
theorem shA_0 {gm : Int} : shA gm 0 = 4096 := by
  unfold shA
  rw [Int.zero_ediv]
  decide
def pR (f : Nat → Int) (p : Nat) : Prop := ∀ k, k < p → -8 ≤ f k ∧ f k ≤ 1016
section SMO
variable {f : Nat → Int} {p : Nat} {pl gm : Int}
theorem mea_bd (hg : 0 < gm) (hf : pR f p) (h0 : -8 ≤ pl) (h1 : pl ≤ 1016) (hp : p ≤ 6) : (0 ≤ sumF (shS2 f pl gm) p 0 ∧ sumF (shS2 f pl gm) p 0 ≤ 24576) ∧ (0 ≤ sumF (faS f pl gm) p 0 ∧ sumF (faS f pl gm) p 0 ≤ 25165824) ∧ 0 ≤ mea f p pl gm ∧ mea f p pl gm ≤ 1024 := by
  have a1 := sumF_bd (f := shS2 f pl gm) (B := 4096) (by decide) p 0 (fun j _ _ => shA_bd hg (by omega))
  have a2 := sumF_bd (f := faS f pl gm) (B := 4194304) (by decide) p 0 (fun j h2 h3 => by
    have := hf j (by omega)
    exact mul_bd (A := 1024) (B := 4096) (by omega) (by omega) (shA_bd hg (by omega)).1 (shA_bd hg (by omega)).2)
  have a3 : ∀ m i, i + m ≤ p → sumF (faS f pl gm) m i ≤ 1024 * sumF (shS2 f pl gm) m i := by
    intro m
    induction m with
    | zero => intro i _; rw [sumF, sumF]; omega
    | succ m ih =>
      intro i hi
      have := ih (i + 1) (by omega)
      have r := hf i (by omega)
      have b := (shA_bd (d := ((pl - f i).natAbs : Int)) hg (by omega)).1
      have c := Int.mul_le_mul_of_nonneg_right (show ((pl - f i).natAbs : Int) ≤ 1024 by omega) b
      rw [sumF, sumF]
      unfold faS shS2 at *
      omega
  refine ⟨by omega, by omega, ?_⟩
  unfold mea
  by_cases e : sumF (shS2 f pl gm) p 0 = 0
  · rw [if_pos e]; omega
  · rw [if_neg e]
    have a4 := a3 p 0 (by omega)
    refine ⟨Int.ediv_nonneg a2.1 a1.1, ?_⟩
    exact Int.ediv_le_of_le_mul (by omega) (by omega)
theorem mnF_rg {lo hi : Int} : ∀ (m i : Nat) (a : Int), (∀ k, i ≤ k → k < i + m → lo ≤ f k ∧ f k ≤ hi) → lo ≤ a → lo ≤ mnF f m i a ∧ mnF f m i a ≤ a
  | 0, _, _, _, h => ⟨h, Int.le_refl _⟩
  | m + 1, i, a, h, h1 => by
    have h2 := h i (by omega) (by omega)
    have := mnF_rg m (i + 1) (min a (f i)) (fun k h3 h4 => h k (by omega) (by omega)) (by omega)
    rw [mnF]
    omega
theorem mxF_rg {lo hi : Int} : ∀ (m i : Nat) (a : Int), (∀ k, i ≤ k → k < i + m → lo ≤ f k ∧ f k ≤ hi) → a ≤ hi → a ≤ mxF f m i a ∧ mxF f m i a ≤ hi
  | 0, _, _, _, h => ⟨Int.le_refl _, h⟩
  | m + 1, i, a, h, h1 => by
    have h2 := h i (by omega) (by omega)
    have := mxF_rg m (i + 1) (max a (f i)) (fun k h3 h4 => h k (by omega) (by omega)) (by omega)
    rw [mxF]
    omega
/-- least and greatest are some pins' -/
theorem mnF_at : ∀ (m i : Nat) (a : Int), mnF f m i a = a ∨ ∃ k, i ≤ k ∧ k < i + m ∧ mnF f m i a = f k
  | 0, _, _ => Or.inl rfl
  | m + 1, i, a => by
    rw [mnF]
    rcases mnF_at m (i + 1) (min a (f i)) with e | ⟨k, h1, h2, h3⟩
    · rw [e]
      rcases (show min a (f i) = a ∨ min a (f i) = f i by omega) with q | q
      · exact Or.inl q
      · exact Or.inr ⟨i, by omega, by omega, q⟩
    · exact Or.inr ⟨k, by omega, by omega, h3⟩
theorem mxF_at : ∀ (m i : Nat) (a : Int), mxF f m i a = a ∨ ∃ k, i ≤ k ∧ k < i + m ∧ mxF f m i a = f k
  | 0, _, _ => Or.inl rfl
  | m + 1, i, a => by
    rw [mxF]
    rcases mxF_at m (i + 1) (max a (f i)) with e | ⟨k, h1, h2, h3⟩
    · rw [e]
      rcases (show max a (f i) = a ∨ max a (f i) = f i by omega) with q | q
      · exact Or.inl q
      · exact Or.inr ⟨i, by omega, by omega, q⟩
    · exact Or.inr ⟨k, by omega, by omega, h3⟩
theorem mn_pR (hf : pR f p) (h1 : 1 ≤ p) : (∃ k, k < p ∧ mnF f p 0 100000000 = f k) ∧ (∃ k, k < p ∧ mxF f p 0 (-100000000) = f k) ∧ (∀ k, k < p → mnF f p 0 100000000 ≤ f k ∧ f k ≤ mxF f p 0 (-100000000)) := by
  have key : ∀ m i a, (∀ k, i ≤ k → k < i + m → mnF f m i a ≤ f k) ∧ mnF f m i a ≤ a := by
    intro m
    induction m with
    | zero => intro i a; exact ⟨fun k h1 h2 => by omega, Int.le_refl _⟩
    | succ m ih =>
      intro i a
      rw [mnF]
      have := ih (i + 1) (min a (f i))
      refine ⟨fun k h1 h2 => ?_, by omega⟩
      by_cases e : k = i
      · subst e; omega
      · exact this.1 k (by omega) (by omega)
  have kex : ∀ m i a, (∀ k, i ≤ k → k < i + m → f k ≤ mxF f m i a) ∧ a ≤ mxF f m i a := by
    intro m
    induction m with
    | zero => intro i a; exact ⟨fun k h1 h2 => by omega, Int.le_refl _⟩
    | succ m ih =>
      intro i a
      rw [mxF]
      have := ih (i + 1) (max a (f i))
      refine ⟨fun k h1 h2 => ?_, by omega⟩
      by_cases e : k = i
      · subst e; omega
      · exact this.1 k (by omega) (by omega)
  have h0 := hf 0 (by omega)
  have a0 := (key p 0 100000000).1 0 (by omega) (by omega)
  have b0 := (kex p 0 (-100000000)).1 0 (by omega) (by omega)
  refine ⟨?_, ?_, fun k hk => ⟨(key p 0 100000000).1 k (by omega) (by omega), (kex p 0 (-100000000)).1 k (by omega) (by omega)⟩⟩
  · rcases mnF_at (f := f) p 0 100000000 with e | ⟨k, q1, q2, q3⟩
    · omega
    · exact ⟨k, by omega, q3⟩
  · rcases mxF_at (f := f) p 0 (-100000000) with e | ⟨k, q1, q2, q3⟩
    · omega
    · exact ⟨k, by omega, q3⟩
theorem sh_pos (hg : 0 < gm) {k : Nat} (hk : k < p) (e : pl = f k) : 4096 ≤ sumF (shS2 f pl gm) p 0 := by
  have key : ∀ m i, i ≤ k → k < i + m → 4096 ≤ sumF (shS2 f pl gm) m i := by
    intro m
    induction m with
    | zero => intro i h1 h2; omega
    | succ m ih =>
      intro i h1 h2
      have nn := sumF_bd (f := shS2 f pl gm) (B := 4096) (by decide) m (i + 1) (fun j _ _ => shA_bd hg (by omega))
      have si : 0 ≤ shS2 f pl gm i := (shA_bd (d := ((pl - f i).natAbs : Int)) hg (by omega)).1
      rw [sumF]
      by_cases q : i = k
      · subst q
        have : shS2 f pl gm i = 4096 := by
          unfold shS2
          rw [e, show (((f i - f i).natAbs : Nat) : Int) = 0 by omega, shA_0]
        omega
      · have := ih (i + 1) (by omega) (by omega)
        omega
  exact key p 0 (by omega) (by omega)
theorem smF_bd (hg : 0 < gm) (hf : pR f p) (h1 : 1 ≤ p) (h6 : p ≤ 6) : -3100 ≤ smF f p gm ∧ smF f p gm ≤ 3100 := by
  obtain ⟨⟨k1, q1, e1⟩, ⟨k2, q2, e2⟩, _⟩ := mn_pR hf h1
  have r1 := hf k1 q1
  have r2 := hf k2 q2
  have m1 := (mea_bd (pl := mnF f p 0 100000000) hg hf (by omega) (by omega) h6).2.2
  have m2 := (mea_bd (pl := mxF f p 0 (-100000000)) hg hf (by omega) (by omega) h6).2.2
  unfold smF
  omega
end SMO
theorem pw_pR {v : Nat → Nat → Int} (w : RGv v) (n p : Nat) : pR (pwX v n) p ∧ pR (pwY v n) p := ⟨fun k _ => pwX_bd w n k, fun k _ => by have := pwY_bd w n k; omega⟩
theorem smN_bd {v : Nat → Nat → Int} {t gm : Int} (w : RGv v) (h2 : N2v v) {n : Nat} (hn : (n : Int) < v 19 0) (t0 : 0 ≤ t) (t1 : t ≤ 8) (hg : 0 < gm) : (-24800 ≤ t * smF (pwY v n) (v 21 n).toNat gm ∧ t * smF (pwY v n) (v 21 n).toNat gm ≤ 24800) ∧ -27900 ≤ smN v t gm n ∧ smN v t gm n ≤ 27900 := by
  have p2 := h2 n hn
  have p6 := w.pin n
  have a := smF_bd (gm := gm) hg (pw_pR w n (v 21 n).toNat).1 (by omega) (by omega)
  have b := smF_bd (gm := gm) hg (pw_pR w n (v 21 n).toNat).2 (by omega) (by omega)
  have c1 := mul_bd (a := t) (b := smF (pwY v n) (v 21 n).toNat gm + 3100) (A := 8) (B := 6200) t0 t1 (by omega) (by omega)
  have c2 : t * (smF (pwY v n) (v 21 n).toNat gm + 3100) = t * smF (pwY v n) (v 21 n).toNat gm + t * 3100 := Int.mul_add _ _ _
  have c3 := mul_bd (a := t) (b := 3100 - smF (pwY v n) (v 21 n).toNat gm) (A := 8) (B := 6200) t0 t1 (by omega) (by omega)
  have c4 : t * (3100 - smF (pwY v n) (v 21 n).toNat gm) = t * 3100 - t * smF (pwY v n) (v 21 n).toNat gm := Int.mul_sub _ _ _
  unfold smN
  omega
