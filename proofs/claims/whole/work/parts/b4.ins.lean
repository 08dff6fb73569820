/-! LISTS in rows; to put one into its place -/
def R1 (A : Nat → Int) (L : List Nat) : Prop := ∀ (k x : Nat), L[k]? = some x → A k = (x : Int)
theorem R1.nil {A : Nat → Int} : R1 A [] := fun k x e => by simp at e
theorem R1.snoc {A A2 : Nat → Int} {L : List Nat} {x : Nat} (h : R1 A L) (hA : ∀ k, A2 k = if k = L.length then (x : Int) else A k) : R1 A2 (L ++ [x]) := by
  intro k y e
  rw [hA]
  rcases snoc_get e with ⟨c, e⟩ | ⟨c, e⟩
  · rw [if_neg (by omega)]
    exact h k y e
  · rw [if_pos c, e]
def insR (key : Nat → Int) (c : Nat) : List Nat → List Nat → List Nat
  | [], B => c :: B
  | y :: A, B => if key c < key y then insR key c A (y :: B) else (y :: A).reverse ++ c :: B
def insL (key : Nat → Int) (c : Nat) (M : List Nat) : List Nat := insR key c M.reverse []
def HB (row : Nat → Int) (RA B : List Nat) : Prop := R1 row RA.reverse ∧ ∀ (k x : Nat), B[k]? = some x → row (RA.length + 1 + k) = (x : Int)
theorem HB.top {row : Nat → Int} {RA B : List Nat} {y : Nat} (h : HB row (y :: RA) B) : row RA.length = y := h.1 RA.length y (by simp)
theorem HB.step {row row2 : Nat → Int} {RA B : List Nat} {y : Nat} (h : HB row (y :: RA) B) (e : ∀ k, row2 k = if k = RA.length + 1 then (y : Int) else row k) : HB row2 RA (y :: B) := by
  refine ⟨fun k x q => ?_, fun k x q => ?_⟩
  · have kl : k < RA.reverse.length := by
      rcases Nat.lt_or_ge k RA.reverse.length with c | c
      · exact c
      · rw [List.getElem?_eq_none c] at q
        cases q
    rw [e, if_neg (by simp at kl; omega)]
    refine h.1 k x ?_
    rw [List.reverse_cons, List.getElem?_append_left kl]
    exact q
  · rw [e]
    cases k with
    | zero =>
      simp at q
      rw [if_pos (by omega), q]
    | succ k =>
      rw [List.getElem?_cons_succ] at q
      rw [if_neg (by omega)]
      have := h.2 k x q
      rw [List.length_cons] at this
      rw [show RA.length + 1 + (k + 1) = RA.length + 1 + 1 + k by omega]
      exact this
theorem HB.fin {row row2 : Nat → Int} {RA B : List Nat} {c : Nat} (h : HB row RA B) (e : ∀ k, row2 k = if k = RA.length then (c : Int) else row k) : R1 row2 (RA.reverse ++ c :: B) := by
  intro k x q
  rw [e]
  rcases Nat.lt_trichotomy k RA.length with d | d | d
  · rw [List.getElem?_append_left (by simpa using d)] at q
    rw [if_neg (by omega)]
    exact h.1 k x q
  · subst d
    rw [List.getElem?_append_right (by simp)] at q
    simp at q
    rw [if_pos rfl, q]
  · rw [List.getElem?_append_right (by simp; omega)] at q
    rw [if_neg (by omega)]
    obtain ⟨j, rfl⟩ : ∃ j, k = RA.length + 1 + j := ⟨k - RA.length - 1, by omega⟩
    rw [List.length_reverse, show RA.length + 1 + j - RA.length = j + 1 by omega, List.getElem?_cons_succ] at q
    exact h.2 j x q
theorem insR_len {key : Nat → Int} {c : Nat} : ∀ (A B : List Nat), (insR key c A B).length = A.length + B.length + 1
  | [], B => by rw [insR]; simp
  | y :: A, B => by
    rw [insR]
    split
    · rw [insR_len A (y :: B)]
      simp
      omega
    · simp
      omega
theorem insL_len {key : Nat → Int} {c : Nat} {M : List Nat} : (insL key c M).length = M.length + 1 := by
  rw [insL, insR_len]
  simp
theorem insR_mem {key : Nat → Int} {c x : Nat} : ∀ (A B : List Nat), x ∈ insR key c A B ↔ x = c ∨ x ∈ A ∨ x ∈ B
  | [], B => by rw [insR]; simp
  | y :: A, B => by
    rw [insR]
    split
    · rw [insR_mem A (y :: B)]
      simp only [List.mem_cons]
      constructor
      · rintro (q | q | q | q)
        · exact Or.inl q
        · exact Or.inr (Or.inl (Or.inr q))
        · exact Or.inr (Or.inl (Or.inl q))
        · exact Or.inr (Or.inr q)
      · rintro (q | (q | q) | q)
        · exact Or.inl q
        · exact Or.inr (Or.inr (Or.inl q))
        · exact Or.inr (Or.inl q)
        · exact Or.inr (Or.inr (Or.inr q))
    · simp only [List.mem_append, List.mem_reverse, List.mem_cons]
      constructor
      · rintro (q | q | q)
        · exact Or.inr (Or.inl q)
        · exact Or.inl q
        · exact Or.inr (Or.inr q)
      · rintro (q | q | q)
        · exact Or.inr (Or.inl q)
        · exact Or.inl q
        · exact Or.inr (Or.inr q)
theorem insL_mem {key : Nat → Int} {c x : Nat} {M : List Nat} : x ∈ insL key c M ↔ x = c ∨ x ∈ M := by
  rw [insL, insR_mem]
  simp
theorem insR_srt {key : Nat → Int} {c : Nat} : ∀ (A B : List Nat), (A.reverse ++ B).Pairwise (fun x y => key x < key y) → (∀ x, x ∈ B → key c < key x) → (∀ x, x ∈ A → key x ≠ key c) → (insR key c A B).Pairwise (fun x y => key x < key y)
  | [], B, h1, h2, _ => by
    rw [insR]
    exact List.pairwise_cons.mpr ⟨h2, by simpa using h1⟩
  | y :: A, B, h1, h2, h3 => by
    rw [insR]
    by_cases e : key c < key y
    · rw [if_pos e]
      refine insR_srt A (y :: B) (by simpa using h1) (fun x hx => ?_) (fun x hx => h3 x (by simp [hx]))
      rcases List.mem_cons.mp hx with q | q
      · rw [q]; exact e
      · exact h2 x q
    · rw [if_neg e]
      have h3y := h3 y (by simp)
      rw [List.pairwise_append] at h1 ⊢
      refine ⟨h1.1, List.pairwise_cons.mpr ⟨h2, h1.2.1⟩, fun x hx z hz => ?_⟩
      have xc : key x < key c := by
        have h4 := h1.1
        rw [List.reverse_cons, List.pairwise_append] at h4
        rw [List.reverse_cons] at hx
        rcases List.mem_append.mp hx with q | q
        · have := h4.2.2 x q y (by simp)
          omega
        · simp at q
          rw [q]
          omega
      rcases List.mem_cons.mp hz with q | q
      · rw [q]; exact xc
      · have := h2 z q
        omega
theorem insL_srt {key : Nat → Int} {c : Nat} {M : List Nat} (h1 : M.Pairwise (fun x y => key x < key y)) (h3 : ∀ x, x ∈ M → key x ≠ key c) : (insL key c M).Pairwise (fun x y => key x < key y) := insR_srt M.reverse [] (by simpa using h1) (fun x hx => by simp at hx) (fun x hx => h3 x (by simpa using hx))
theorem srt_u {key : Nat → Int} : ∀ (A B : List Nat), A.Pairwise (fun x y => key x < key y) → B.Pairwise (fun x y => key x < key y) → (∀ x, x ∈ A ↔ x ∈ B) → A = B
  | [], [], _, _, _ => rfl
  | [], y :: B, _, _, h => by
    have := (h y).mpr (by simp)
    simp at this
  | x :: A, [], _, _, h => by
    have := (h x).mp (by simp)
    simp at this
  | x :: A, y :: B, h1, h2, h => by
    have p1 := List.pairwise_cons.mp h1
    have p2 := List.pairwise_cons.mp h2
    have e : x = y := by
      by_cases e : x = y
      · exact e
      · have a := (h x).mp (by simp)
        have b := (h y).mpr (by simp)
        rcases List.mem_cons.mp a with a | a
        · exact a
        · rcases List.mem_cons.mp b with b | b
          · exact b.symm
          · have := p1.1 y b
            have := p2.1 x a
            omega
    subst e
    rw [srt_u A B p1.2 p2.2 (fun z => ⟨fun hz => ?_, fun hz => ?_⟩)]
    · rcases List.mem_cons.mp ((h z).mp (by simp [hz])) with q | q
      · have := p1.1 z hz
        rw [q] at this
        omega
      · exact q
    · rcases List.mem_cons.mp ((h z).mpr (by simp [hz])) with q | q
      · have := p2.1 z hz
        rw [q] at this
        omega
      · exact q
/-- what a run is -/
def gdR (p : Nat → Bool) (S : Nat) (x : Nat × Nat) : Prop := 1 ≤ x.2 ∧ x.1 + x.2 ≤ S ∧ (∀ k, x.1 ≤ k → k < x.1 + x.2 → p k = true) ∧ (x.1 = 0 ∨ p (x.1 - 1) = false) ∧ (x.1 + x.2 = S ∨ p (x.1 + x.2) = false)
def opG (p : Nat → Bool) : Option Nat → Nat → Prop
  | none, s => s = 0 ∨ p (s - 1) = false
  | some a, s => a < s ∧ (∀ k, a ≤ k → k < s → p k = true) ∧ (a = 0 ∨ p (a - 1) = false)
theorem grS_gd {p : Nat → Bool} {S : Nat} : ∀ (m s : Nat) (o : Option Nat) (M : List (Nat × Nat)), s + m = S → (∀ x, x ∈ M → gdR p S x) → opG p o s → ∀ x, x ∈ grS p m s o M → gdR p S x
  | 0, _, none, M, _, h, _ => h
  | 0, s, some a, M, hm, h, ho => by
    intro x hx
    rw [grS] at hx
    rcases List.mem_append.mp hx with q | q
    · exact h x q
    · simp at q
      obtain ⟨o1, o2, o3⟩ := ho
      rw [q]
      refine ⟨by dsimp only; omega, by dsimp only; omega, fun k h1 h2 => o2 k h1 (by dsimp only at h2; omega), o3, Or.inl (by dsimp only; omega)⟩
  | m + 1, s, none, M, hm, h, ho => by
    rw [grS]
    by_cases e : p s = true
    · rw [if_pos e]
      exact grS_gd m (s + 1) (some s) M (by omega) h ⟨by omega, fun k h1 h2 => by rw [show k = s by omega]; exact e, ho⟩
    · rw [if_neg e]
      exact grS_gd m (s + 1) none M (by omega) h (Or.inr (by simpa using e))
  | m + 1, s, some a, M, hm, h, ho => by
    obtain ⟨o1, o2, o3⟩ := ho
    rw [grS]
    by_cases e : p s = true
    · rw [if_pos e]
      exact grS_gd m (s + 1) (some a) M (by omega) h ⟨by omega, fun k h1 h2 => by
        by_cases c : k = s
        · rw [c]; exact e
        · exact o2 k h1 (by omega), o3⟩
    · rw [if_neg e]
      have e' : p s = false := by simpa using e
      refine grS_gd m (s + 1) none _ (by omega) (fun x hx => ?_) (Or.inr e')
      rcases List.mem_append.mp hx with q | q
      · exact h x q
      · simp at q
        rw [q]
        refine ⟨by dsimp only; omega, by dsimp only; omega, fun k h1 h2 => o2 k h1 (by dsimp only at h2; omega), o3, Or.inr (by dsimp only; rw [show a + (s - a) = s by omega]; exact e')⟩
theorem rnR_gd {v : Nat → Nat → Int} {r : Nat} {f : Int} : ∀ x, x ∈ rnR v r f → gdR (fun s => decide (own v r s = f)) (v 0 1).toNat x := grS_gd (v 0 1).toNat 0 none [] (by omega) (fun x hx => by simp at hx) (Or.inl rfl)
