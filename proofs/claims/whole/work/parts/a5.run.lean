/-! RUNS: of one row, as a list of (first, length) -/
def grS (p : Nat → Bool) : Nat → Nat → Option Nat → List (Nat × Nat) → List (Nat × Nat)
  | 0, _, none, L => L
  | 0, s, some a, L => L ++ [(a, s - a)]
  | m + 1, s, none, L => if p s = true then grS p m (s + 1) (some s) L else grS p m (s + 1) none L
  | m + 1, s, some a, L => if p s = true then grS p m (s + 1) (some a) L else grS p m (s + 1) none (L ++ [(a, s - a)])
theorem grS_cg {p q : Nat → Bool} : ∀ (m s : Nat) (o : Option Nat) (L : List (Nat × Nat)), (∀ k, s ≤ k → k < s + m → p k = q k) → grS p m s o L = grS q m s o L
  | 0, _, none, _, _ => rfl
  | 0, _, some _, _, _ => rfl
  | m + 1, s, none, L, h => by
    rw [grS, grS, h s (by omega) (by omega), grS_cg m (s + 1) (some s) L (fun k a b => h k (by omega) (by omega)), grS_cg m (s + 1) none L (fun k a b => h k (by omega) (by omega))]
  | m + 1, s, some a, L, h => by
    rw [grS, grS, h s (by omega) (by omega), grS_cg m (s + 1) (some a) L (fun k a b => h k (by omega) (by omega)), grS_cg m (s + 1) none (L ++ [(a, s - a)]) (fun k a b => h k (by omega) (by omega))]
theorem grS_app {p : Nat → Bool} : ∀ (m s : Nat) (o : Option Nat) (L M : List (Nat × Nat)), grS p m s o (L ++ M) = L ++ grS p m s o M
  | 0, _, none, _, _ => rfl
  | 0, _, some _, L, M => by rw [grS, grS, List.append_assoc]
  | m + 1, s, none, L, M => by
    rw [grS, grS, grS_app m (s + 1), grS_app m (s + 1)]
    by_cases e : p s = true
    · rw [if_pos e, if_pos e]
    · rw [if_neg e, if_neg e]
  | m + 1, s, some a, L, M => by
    rw [grS, grS, grS_app m (s + 1), List.append_assoc, grS_app m (s + 1)]
    by_cases e : p s = true
    · rw [if_pos e, if_pos e]
    · rw [if_neg e, if_neg e]
/-- no more runs than sites that are left -/
theorem grS_len {p : Nat → Bool} : ∀ (m s : Nat) (o : Option Nat) (L : List (Nat × Nat)), (grS p m s o L).length ≤ L.length + m + (if o = none then 0 else 1)
  | 0, _, none, L => by rw [grS]; simp
  | 0, _, some _, L => by rw [grS]; simp
  | m + 1, s, none, L => by
    have a := grS_len (p := p) m (s + 1) (some s) L
    have b := grS_len (p := p) m (s + 1) none L
    rw [grS]
    simp at a b ⊢
    split <;> omega
  | m + 1, s, some x, L => by
    have a := grS_len (p := p) m (s + 1) (some x) L
    have b := grS_len (p := p) m (s + 1) none (L ++ [(x, s - x)])
    rw [grS]
    simp at a b ⊢
    split <;> omega
