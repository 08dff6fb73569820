/-! ORDERS: the next one, as words stand in a lexicon -/
def fiI (L : List Nat) : Nat → Nat
  | 0 => 0
  | m + 1 => if L.getD (m + 1) 0 < L.getD m 0 then fiI L m else m + 1
def fiJ (L : List Nat) (x : Nat) : Nat → Nat
  | 0 => 0
  | j + 1 => if L.getD (j + 1) 0 < x then fiJ L x j else j + 1
def swp (L : List Nat) (i j : Nat) : List Nat := (L.set i (L.getD j 0)).set j (L.getD i 0)
def rvS : Nat → Nat → Nat → List Nat → List Nat
  | 0, _, _, L => L
  | m + 1, a, b, L => if a < b then rvS m (a + 1) (b - 1) (swp L a b) else L
def nxt (L : List Nat) : Option (List Nat) := if fiI L (L.length - 1) = 0 then none else some (rvS L.length (fiI L (L.length - 1)) (L.length - 1) (swp L (fiI L (L.length - 1) - 1) (fiJ L (L.getD (fiI L (L.length - 1) - 1) 0) (L.length - 1))))
def itr : Nat → List Nat → List (List Nat)
  | 0, _ => []
  | m + 1, L => match nxt L with
    | none => []
    | some M => M :: itr m M
def ords (n : Nat) : List (List Nat) := itr 119 (List.range n)
def chB : List Nat → List (List Nat) → Bool
  | L, [] => decide (nxt L = none)
  | L, M :: Os => decide (nxt L = some M) && chB M Os
def ndB : List Nat → Bool
  | [] => true
  | x :: L => !(L.contains x) && ndB L
def okO (n : Nat) : Bool := chB (List.range n) (ords n) && decide ((ords n).length ≤ 119) && (ords n).all (fun L => decide (L.length = n) && L.all (fun x => decide (x < n)) && ndB L)
set_option maxRecDepth 100000 in
theorem okO_5 : ∀ n, n ≤ 5 → okO n = true := by
  intro n hn
  rcases (show n = 0 ∨ n = 1 ∨ n = 2 ∨ n = 3 ∨ n = 4 ∨ n = 5 by omega) with rfl | rfl | rfl | rfl | rfl | rfl <;> decide +kernel
theorem swp_len {L : List Nat} {i j : Nat} : (swp L i j).length = L.length := by
  unfold swp
  simp
theorem rvS_len : ∀ (m a b : Nat) (L : List Nat), (rvS m a b L).length = L.length
  | 0, _, _, _ => rfl
  | m + 1, a, b, L => by
    rw [rvS]
    split
    · rw [rvS_len m, swp_len]
    · rfl
theorem fiI_le {L : List Nat} : ∀ m, fiI L m ≤ m
  | 0 => Nat.le_refl _
  | m + 1 => by
    have := fiI_le (L := L) m
    rw [fiI]
    split <;> omega
theorem fiI_sp {L : List Nat} : ∀ m, fiI L m ≠ 0 → ¬ L.getD (fiI L m) 0 < L.getD (fiI L m - 1) 0
  | 0, h => absurd rfl h
  | m + 1, h => by
    rw [fiI] at h ⊢
    by_cases e : L.getD (m + 1) 0 < L.getD m 0
    · rw [if_pos e] at h ⊢
      exact fiI_sp m h
    · rw [if_neg e]
      exact e
theorem fiJ_bd {L : List Nat} {x i : Nat} (hi : ¬ L.getD (i + 1) 0 < x) : ∀ j, i + 1 ≤ j → i + 1 ≤ fiJ L x j ∧ fiJ L x j ≤ j
  | 0, h => by omega
  | j + 1, h => by
    rw [fiJ]
    by_cases e : L.getD (j + 1) 0 < x
    · rw [if_pos e]
      by_cases d : j = i
      · rw [d] at e
        exact absurd e hi
      · have := fiJ_bd hi j (by omega)
        omega
    · rw [if_neg e]
      omega
theorem R1.set {A A2 : Nat → Int} {L : List Nat} {i x : Nat} (h : R1 A L) (hA : ∀ k, A2 k = if k = i then (x : Int) else A k) : R1 A2 (L.set i x) := by
  intro k y e
  rw [hA]
  rw [List.getElem?_set] at e
  by_cases d : i = k
  · rw [if_pos d] at e
    by_cases d2 : i < L.length
    · rw [if_pos d2] at e
      rw [if_pos d.symm, ← Option.some.inj e]
    · rw [if_neg d2] at e
      cases e
  · rw [if_neg d] at e
    rw [if_neg (fun q => d q.symm)]
    exact h k y e
/-- what is kept of the orders: each is one -/
def OKO (n : Nat) (L : List Nat) : Prop := L.length = n ∧ (∀ x, x ∈ L → x < n) ∧ ndB L = true
theorem ord_all {n : Nat} (hn : n ≤ 5) : chB (List.range n) (ords n) = true ∧ (ords n).length ≤ 119 ∧ ∀ L, L ∈ ords n → OKO n L := by
  have := okO_5 n hn
  unfold okO at this
  simp only [Bool.and_eq_true, decide_eq_true_eq, List.all_eq_true] at this
  refine ⟨this.1.1, this.1.2, fun L hL => ?_⟩
  have q := this.2 L hL
  exact ⟨q.1.1, q.1.2, q.2⟩
theorem okO_rg {n : Nat} (hn : n ≤ 5) : OKO n (List.range n) := by
  rcases (show n = 0 ∨ n = 1 ∨ n = 2 ∨ n = 3 ∨ n = 4 ∨ n = 5 by omega) with rfl | rfl | rfl | rfl | rfl | rfl <;> exact ⟨by decide, by decide, by decide⟩
