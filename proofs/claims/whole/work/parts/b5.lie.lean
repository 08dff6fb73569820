/-! LYING: the loose cells of a run, from the left -/
theorem own_cell {v : Nat → Nat → Int} (g : GEO v) (w : RGv v) {c : Nat} (hc : (c : Int) < v 11 0) (hl : v 14 c = 0) (hp : v 17 c ≠ -1) {r s : Nat} (hr : v 17 c = r) (h1 : v 18 c ≤ s) (h2 : (s : Int) < v 18 c + v 12 c) : own v r s = v 13 c := by
  have q := (gf_sites0 g.g0 w hc).mp (g.gnd hc hp)
  obtain ⟨q1, q2⟩ := q
  obtain ⟨j, hj⟩ : ∃ j : Nat, (s : Int) = v 18 c + j := ⟨((s : Int) - v 18 c).toNat, by omega⟩
  have q3 := q2 j (by omega)
  rw [← hj, hr] at q3
  unfold own
  rw [if_neg, q3.2]
  rintro (x | x)
  · obtain ⟨b, hb, hx⟩ := anyB_iff.mp x
    rw [q3.1 b hb] at hx
    cases hx
  · obtain ⟨d, hd, hx⟩ := anyB_iff.mp x
    unfold fxB laB at hx
    simp only [Bool.and_eq_true, Bool.not_eq_true', decide_eq_true_eq, decide_eq_false_iff_not] at hx
    have := g.dis hc (by omega : (d : Int) < v 11 0) (fun e => hx.1 (by rw [← e]; exact hl)) hp (by omega)
    omega
/-- a loose cell that reaches into a run lies in it -/
theorem in_run {v : Nat → Nat → Int} (g : GEO v) (w : RGv v) {r a n c : Nat} {f : Int} (hr : gdR (fun s => decide (own v r s = f)) (v 0 1).toNat (a, n)) (hc : (c : Int) < v 11 0) (hl : v 14 c = 0) (hx : laB v r a ((a : Int) + n - 1) c = true) : v 17 c = r ∧ (a : Int) ≤ v 18 c ∧ v 18 c + v 12 c ≤ a + n ∧ v 13 c = f := by
  obtain ⟨r1, r2, r3, r4, r5⟩ := hr
  dsimp only at r1 r2 r3 r4 r5
  unfold laB at hx
  simp only [Bool.and_eq_true, decide_eq_true_eq] at hx
  obtain ⟨⟨x1, x2⟩, x3⟩ := hx
  have hp : v 17 c ≠ -1 := by omega
  have q1 := ((gf_sites0 g.g0 w hc).mp (g.gnd hc hp)).1
  have cw := (g.cel hc).1
  have oc : ∀ s : Nat, v 18 c ≤ s → (s : Int) < v 18 c + v 12 c → own v r s = v 13 c := fun s h1 h2 => own_cell g w hc hl hp x1 h1 h2
  have ef : v 13 c = f := by
    obtain ⟨k, hk⟩ : ∃ k : Nat, (k : Int) = max (a : Int) (v 18 c) := ⟨(max (a : Int) (v 18 c)).toNat, by omega⟩
    have e1 := oc k (by omega) (by omega)
    have e2 := of_decide_eq_true (r3 k (by omega) (by omega))
    rw [← e1, e2]
  refine ⟨x1, ?_, ?_, ef⟩
  · by_cases e : (a : Int) ≤ v 18 c
    · exact e
    · exfalso
      have a0 : a ≠ 0 := by omega
      have e1 := oc (a - 1) (by omega) (by omega)
      rcases r4 with q | q
      · omega
      · have := of_decide_eq_false q
        exact this (e1.trans ef)
  · by_cases e : v 18 c + v 12 c ≤ a + n
    · exact e
    · exfalso
      have e1 := oc (a + n) (by omega) (by omega)
      rcases r5 with q | q
      · omega
      · have := of_decide_eq_false q
        exact this (e1.trans ef)
theorem in_run2 {v : Nat → Nat → Int} (g : GEO v) {r a n c : Nat} {f : Int} (f1 : -1 ≤ f) (w : RGv v) (hr : gdR (fun s => decide (own v r s = f)) (v 0 1).toNat (a, n)) (hc : (c : Int) < v 11 0) (x1 : v 17 c = r) (x2 : (a : Int) ≤ v 18 c) (x3 : v 18 c < (a : Int) + n) : v 14 c = 0 ∧ laB v r a ((a : Int) + n - 1) c = true := by
  obtain ⟨r1, r2, r3, r4, r5⟩ := hr
  dsimp only at r1 r2 r3 r4 r5
  have cw := (g.cel hc).1
  constructor
  · rcases w.fix c with e | e
    · exact e
    · exfalso
      obtain ⟨k, hk⟩ : ∃ k : Nat, (k : Int) = v 18 c := ⟨(v 18 c).toNat, by omega⟩
      have e2 := of_decide_eq_true (r3 k (by omega) (by omega))
      have : own v r k = -2 := by
        unfold own
        rw [if_pos (Or.inr (anyB_iff.mpr ⟨c, by omega, by
          unfold fxB laB
          simp only [Bool.and_eq_true, Bool.not_eq_true', decide_eq_true_eq, decide_eq_false_iff_not]
          omega⟩))]
      omega
  · unfold laB
    simp only [Bool.and_eq_true, decide_eq_true_eq]
    omega
/-- the reference's list -/
def lyL (v : Nat → Nat → Int) (r : Nat) : Nat → Nat → List Nat
  | 0, _ => []
  | m + 1, s => if lst (ctB v r s (-1) 0) (v 11 0).toNat 0 (-1) ≠ -1 ∧ v 18 (lst (ctB v r s (-1) 0) (v 11 0).toNat 0 (-1)).toNat = s then (lst (ctB v r s (-1) 0) (v 11 0).toNat 0 (-1)).toNat :: lyL v r m (s + 1) else lyL v r m (s + 1)
theorem ct_is {v : Nat → Nat → Int} (g : GEO v) {c r s : Nat} (hc : (c : Int) < v 11 0) (x1 : v 17 c = r) (x2 : v 18 c ≤ s) (x3 : (s : Int) < v 18 c + v 12 c) : lst (ctB v r s (-1) 0) (v 11 0).toNat 0 (-1) = c := by
  refine lst_is (by omega) ?_ (fun k hk q => ?_)
  · unfold ctB laB
    rw [decide_eq_false (show ¬ (c : Int) = -1 by omega), decide_eq_true x1, decide_eq_true x2, decide_eq_true x3]
    rfl
  · unfold ctB laB at q
    simp only [Bool.and_eq_true, Bool.or_eq_true, Bool.not_eq_true', decide_eq_true_eq, decide_eq_false_iff_not] at q
    by_cases e : k = c
    · exact e
    · have := g.dis hc (by omega : (k : Int) < v 11 0) (fun z => e z.symm) (by omega) (by omega)
      omega
theorem ct_at {v : Nat → Nat → Int} {r s : Nat} (q : lst (ctB v r s (-1) 0) (v 11 0).toNat 0 (-1) ≠ -1) : ∃ c : Nat, lst (ctB v r s (-1) 0) (v 11 0).toNat 0 (-1) = c ∧ c < (v 11 0).toNat ∧ v 17 c = r ∧ v 18 c ≤ s ∧ (s : Int) < v 18 c + v 12 c := by
  rcases lst_spec (p := ctB v r s (-1) 0) (v 11 0).toNat 0 (-1) with ⟨h1, h2⟩ | ⟨c, h1, h2, h3, h4, h5⟩
  · exact absurd h1 q
  · refine ⟨c, h4, by omega, ?_⟩
    unfold ctB laB at h3
    simp only [Bool.and_eq_true, Bool.or_eq_true, Bool.not_eq_true', decide_eq_true_eq, decide_eq_false_iff_not] at h3
    omega
theorem ly_mem {v : Nat → Nat → Int} (g : GEO v) {r x : Nat} : ∀ (m s : Nat), x ∈ lyL v r m s ↔ (x : Int) < v 11 0 ∧ v 17 x = r ∧ (s : Int) ≤ v 18 x ∧ v 18 x < (s : Int) + m
  | 0, s => by
    rw [lyL]
    constructor
    · intro q
      simp at q
    · intro q
      omega
  | m + 1, s => by
    have ih := ly_mem g (r := r) (x := x) m (s + 1)
    rw [lyL]
    by_cases e : lst (ctB v r s (-1) 0) (v 11 0).toNat 0 (-1) ≠ -1 ∧ v 18 (lst (ctB v r s (-1) 0) (v 11 0).toNat 0 (-1)).toNat = s
    · rw [if_pos e, List.mem_cons, ih]
      obtain ⟨c, e1, e2, e3, e4, e5⟩ := ct_at e.1
      rw [e1, Int.toNat_natCast] at e ⊢
      constructor
      · rintro (q | q)
        · rw [q]
          omega
        · omega
      · intro q
        by_cases d : v 18 x = s
        · left
          have cw := (g.cel q.1).1
          have := ct_is g q.1 q.2.1 (s := s) (by omega) (by omega)
          omega
        · right
          omega
    · rw [if_neg e, ih]
      constructor
      · intro q
        omega
      · intro q
        refine ⟨q.1, q.2.1, ?_, by omega⟩
        by_cases d : v 18 x = s
        · exfalso
          have cw := (g.cel q.1).1
          have := ct_is g q.1 q.2.1 (s := s) (by omega) (by omega)
          exact e (by rw [this, Int.toNat_natCast]; exact ⟨by omega, d⟩)
        · omega
theorem ly_srt {v : Nat → Nat → Int} (g : GEO v) {r : Nat} : ∀ (m s : Nat), (lyL v r m s).Pairwise (fun x y => v 18 x < v 18 y)
  | 0, s => by
    rw [lyL]
    exact List.Pairwise.nil
  | m + 1, s => by
    have ih := ly_srt g (r := r) m (s + 1)
    rw [lyL]
    by_cases e : lst (ctB v r s (-1) 0) (v 11 0).toNat 0 (-1) ≠ -1 ∧ v 18 (lst (ctB v r s (-1) 0) (v 11 0).toNat 0 (-1)).toNat = s
    · rw [if_pos e]
      refine List.pairwise_cons.mpr ⟨fun y hy => ?_, ih⟩
      have := (ly_mem g m (s + 1)).mp hy
      omega
    · rw [if_neg e]
      exact ih
/-- the class's list -/
def lyI (v : Nat → Nat → Int) (r f l : Int) : Nat → List Nat
  | 0 => []
  | c + 1 => if v 14 c = 0 ∧ laB v r f l c = true then insL (v 18) c (lyI v r f l c) else lyI v r f l c
theorem lyI_len {v : Nat → Nat → Int} {r f l : Int} : ∀ c, (lyI v r f l c).length ≤ c
  | 0 => by rw [lyI]; simp
  | c + 1 => by
    have := lyI_len (v := v) (r := r) (f := f) (l := l) c
    rw [lyI]
    split
    · rw [insL_len]; omega
    · omega
theorem lyI_mem {v : Nat → Nat → Int} {r f l : Int} {x : Nat} : ∀ c, x ∈ lyI v r f l c ↔ x < c ∧ v 14 x = 0 ∧ laB v r f l x = true
  | 0 => by rw [lyI]; simp
  | c + 1 => by
    have ih := lyI_mem (v := v) (r := r) (f := f) (l := l) (x := x) c
    rw [lyI]
    by_cases e : v 14 c = 0 ∧ laB v r f l c = true
    · rw [if_pos e, insL_mem, ih]
      constructor
      · rintro (q | q)
        · rw [q]; exact ⟨by omega, e⟩
        · exact ⟨by omega, q.2⟩
      · intro q
        by_cases d : x = c
        · exact Or.inl d
        · exact Or.inr ⟨by omega, q.2⟩
    · rw [if_neg e, ih]
      constructor
      · intro q
        exact ⟨by omega, q.2⟩
      · intro q
        refine ⟨?_, q.2⟩
        by_cases d : x = c
        · rw [d] at q
          exact absurd q.2 e
        · omega
theorem lyI_srt {v : Nat → Nat → Int} (g : GEO v) {r : Nat} {f l : Int} : ∀ c : Nat, (c : Int) ≤ v 11 0 → (lyI v r f l c).Pairwise (fun x y => v 18 x < v 18 y)
  | 0, _ => by
    rw [lyI]
    exact List.Pairwise.nil
  | c + 1, hc => by
    have ih := lyI_srt g (r := r) (f := f) (l := l) c (by omega)
    rw [lyI]
    by_cases e : v 14 c = 0 ∧ laB v r f l c = true
    · rw [if_pos e]
      refine insL_srt ih (fun x hx => ?_)
      have q := lyI_mem c |>.mp hx
      have q2 := q.2.2
      have e2 := e.2
      unfold laB at q2 e2
      simp only [Bool.and_eq_true, decide_eq_true_eq] at q2 e2
      have := g.dis (c := c) (d := x) (by omega) (by omega) (by omega) (by omega) (by omega)
      have c1 := (g.cel (c := c) (by omega)).1
      have c2 := (g.cel (c := x) (by omega)).1
      omega
    · rw [if_neg e]
      exact ih
/-- they are the same -/
theorem ly_eq {v : Nat → Nat → Int} (g : GEO v) (w : RGv v) {r a n : Nat} {f : Int} (f1 : -1 ≤ f) (hr : gdR (fun s => decide (own v r s = f)) (v 0 1).toNat (a, n)) : lyI v r a ((a : Int) + n - 1) (v 11 0).toNat = lyL v r n a := by
  have nC := w.nC
  refine srt_u _ _ (lyI_srt g _ (by omega)) (ly_srt g n a) (fun x => ?_)
  rw [lyI_mem, ly_mem g]
  constructor
  · intro q
    have := in_run g w hr (by omega) q.2.1 q.2.2
    have cw := (g.cel (c := x) (by omega)).1
    omega
  · intro q
    have := in_run2 g f1 w hr q.1 q.2.1 q.2.2.1 q.2.2.2
    exact ⟨by omega, this⟩
