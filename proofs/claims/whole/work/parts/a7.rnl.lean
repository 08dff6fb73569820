/-! RUNS: all of them, as a list of (row, fence, first, length) -/
abbrev Rn := Nat × Int × Nat × Nat
def RO (A B C D : Nat → Int) (L : List Rn) : Prop := ∀ k x, L[k]? = some x → A k = x.1 ∧ B k = x.2.1 ∧ C k = x.2.2.1 ∧ D k = x.2.2.2
def tgR (r : Nat) (f : Int) (q : Nat × Nat) : Rn := (r, f, q.1, q.2)
def opn : Option Nat → Nat → List (Nat × Nat)
  | none, _ => []
  | some a, s => [(a, s - a)]
theorem snoc_get {α : Type} {L : List α} {x y : α} {k : Nat} (e : (L ++ [x])[k]? = some y) : (k < L.length ∧ L[k]? = some y) ∨ (k = L.length ∧ y = x) := by
  rcases Nat.lt_trichotomy k L.length with c | c | c
  · rw [List.getElem?_append_left c] at e
    exact Or.inl ⟨c, e⟩
  · subst c
    simp at e
    exact Or.inr ⟨rfl, e.symm⟩
  · rw [List.getElem?_eq_none (by simp; omega)] at e
    cases e
theorem RO.nil {A B C D : Nat → Int} : RO A B C D [] := fun k x e => by simp at e
theorem RO.snoc {A B C D A2 B2 C2 D2 : Nat → Int} {L : List Rn} (h : RO A B C D L) (x : Rn) (hA : ∀ k, A2 k = if k = L.length then (x.1 : Int) else A k) (hB : ∀ k, B2 k = if k = L.length then x.2.1 else B k) (hC : ∀ k, C2 k = if k = L.length then (x.2.2.1 : Int) else C k) (hD : ∀ k, D2 k = if k = L.length then (x.2.2.2 : Int) else D k) : RO A2 B2 C2 D2 (L ++ [x]) := by
  intro k y e
  rw [hA, hB, hC, hD]
  rcases snoc_get e with ⟨c, e⟩ | ⟨c, e⟩
  · rw [if_neg (by omega), if_neg (by omega), if_neg (by omega), if_neg (by omega)]
    exact h k y e
  · rw [if_pos c, if_pos c, if_pos c, if_pos c, e]
    exact ⟨rfl, rfl, rfl, rfl⟩
theorem RO.last {A B C D D2 : Nat → Int} {L : List Rn} {x : Rn} (h : RO A B C D (L ++ [x])) (n : Nat) (hD : ∀ k, D2 k = if k = L.length then (n : Int) else D k) : RO A B C D2 (L ++ [(x.1, x.2.1, x.2.2.1, n)]) := by
  intro k y e
  rw [hD]
  rcases snoc_get e with ⟨c, e⟩ | ⟨c, e⟩
  · rw [if_neg (by omega)]
    exact h k y (by rw [List.getElem?_append_left c]; exact e)
  · have := h k x (by subst c; simp)
    rw [if_pos c, e]
    exact ⟨this.1, this.2.1, this.2.2.1, rfl⟩
/-- the runs of one row and fence -/
def rnR (v : Nat → Nat → Int) (r : Nat) (f : Int) : List (Nat × Nat) := grS (fun s => decide (own v r s = f)) (v 0 1).toNat 0 none []
/-- those of a row, of the fences up to n - 1 (n = 0: none, the first is -1) -/
def rnF (v : Nat → Nat → Int) (r : Nat) : Nat → List Rn
  | 0 => []
  | n + 1 => rnF v r n ++ (rnR v r ((n : Int) - 1)).map (tgR r ((n : Int) - 1))
def rnA (v : Nat → Nat → Int) : Nat → List Rn
  | 0 => []
  | n + 1 => rnA v n ++ rnF v n ((v 6 0).toNat + 1)
def rnL (v : Nat → Nat → Int) : List Rn := rnA v (v 0 0).toNat
/-- how many sites are spent before a site of a row for a fence -/
def spT (v : Nat → Nat → Int) (r : Nat) (f : Int) (s k : Nat) : Bool := decide (own v r k < f ∨ (own v r k = f ∧ k < s))
theorem spT_in {v : Nat → Nat → Int} {r s S : Nat} {f : Int} (hs : s < S) (e : own v r s = f) : cntB (spT v r f (s + 1)) S 0 = cntB (spT v r f s) S 0 + 1 := by
  rw [← cntB_add (d := s) (by unfold spT; exact decide_eq_false (by omega)) S 0 (by omega) (by omega)]
  refine cntB_cg S 0 (fun d _ _ => ?_)
  unfold spT
  rw [Bool.eq_iff_iff]
  simp only [Bool.or_eq_true, decide_eq_true_eq]
  constructor
  · intro q
    rcases q with q | q
    · exact Or.inl (Or.inl q)
    · by_cases c : d = s
      · exact Or.inr c
      · exact Or.inl (Or.inr ⟨q.1, by omega⟩)
  · intro q
    rcases q with (q | q) | q
    · exact Or.inl q
    · exact Or.inr ⟨q.1, by omega⟩
    · subst q
      exact Or.inr ⟨e, by omega⟩
theorem spT_out {v : Nat → Nat → Int} {r s S : Nat} {f : Int} (e : ¬ own v r s = f) : cntB (spT v r f (s + 1)) S 0 = cntB (spT v r f s) S 0 := by
  refine cntB_cg S 0 (fun d _ _ => ?_)
  unfold spT
  rw [Bool.eq_iff_iff]
  simp only [decide_eq_true_eq]
  by_cases c : d = s
  · subst c
    constructor <;> intro q
    · exact q.elim Or.inl (fun q => absurd q.1 e)
    · exact q.elim Or.inl (fun q => absurd q.1 e)
  · constructor <;> intro q
    · exact q.elim Or.inl (fun q => Or.inr ⟨q.1, by omega⟩)
    · exact q.elim Or.inl (fun q => Or.inr ⟨q.1, by omega⟩)
theorem spT_nx {v : Nat → Nat → Int} {r S : Nat} {f : Int} : cntB (spT v r f S) S 0 = cntB (spT v r (f + 1) 0) S 0 := by
  refine cntB_cg S 0 (fun d _ _ => ?_)
  unfold spT
  rw [Bool.eq_iff_iff]
  simp only [decide_eq_true_eq]
  omega
/-- a row's scan never finds more runs than sites -/
theorem grS_sp {v : Nat → Nat → Int} {r S : Nat} {f : Int} : ∀ (m s : Nat) (o : Option Nat) (M : List (Nat × Nat)) (N : Int), s + m = S → N + (M.length : Int) + ((opn o s).length : Int) ≤ cntB (spT v r f s) S 0 → N + ((grS (fun s => decide (own v r s = f)) m s o M).length : Int) ≤ cntB (spT v r f S) S 0
  | 0, s, none, M, N, hm, hl => by
    rw [grS]
    simp [opn] at hl
    rw [show s = S by omega] at hl
    omega
  | 0, s, some a, M, N, hm, hl => by
    rw [grS]
    simp [opn] at hl
    rw [show s = S by omega] at hl
    simp
    omega
  | m + 1, s, none, M, N, hm, hl => by
    rw [grS]
    simp [opn] at hl
    by_cases e : own v r s = f
    · rw [if_pos (decide_eq_true e)]
      refine grS_sp m (s + 1) (some s) M N (by omega) ?_
      rw [spT_in (by omega) e]
      simp [opn]
      omega
    · rw [if_neg (by simp [e])]
      refine grS_sp m (s + 1) none M N (by omega) ?_
      rw [spT_out e]
      simp [opn]
      omega
  | m + 1, s, some a, M, N, hm, hl => by
    rw [grS]
    simp [opn] at hl
    by_cases e : own v r s = f
    · rw [if_pos (decide_eq_true e)]
      refine grS_sp m (s + 1) (some a) M N (by omega) ?_
      rw [spT_in (by omega) e]
      simp [opn]
      omega
    · rw [if_neg (by simp [e])]
      refine grS_sp m (s + 1) none _ N (by omega) ?_
      rw [spT_out e]
      simp [opn]
      omega
