/-! what holds of a plan at all times -/
def GEO (v : Nat → Nat → Int) : Prop :=
  (∀ c : Nat, (c : Int) < v 11 0 → 1 ≤ v 12 c ∧ v 13 c < v 6 0 ∧ v 15 c ≤ 16 * (v 0 1 - v 12 c) ∧ v 16 c ≤ 16 * (v 0 0 - 1)) ∧
  (∀ c : Nat, (c : Int) < v 11 0 → v 17 c = -1 → v 18 c = -1) ∧
  (∀ c : Nat, (c : Int) < v 11 0 → v 17 c ≠ -1 → gfB v c (v 17 c) (v 18 c) = true) ∧
  (∀ c d : Nat, (c : Int) < v 11 0 → (d : Int) < v 11 0 → c ≠ d → v 17 c ≠ -1 → v 17 d = v 17 c → v 18 c + v 12 c ≤ v 18 d ∨ v 18 d + v 12 d ≤ v 18 c) ∧
  (∀ c : Nat, (c : Int) < v 11 0 → v 14 c = 1 → v 17 c ≠ -1 ∧ v 15 c = 16 * v 18 c ∧ v 16 c = 16 * v 17 c) ∧
  (∀ f : Nat, (f : Int) < v 6 0 → v 7 f ≤ v 8 f ∧ v 8 f < v 0 0 ∧ v 9 f ≤ v 10 f ∧ v 10 f < v 0 1) ∧
  (∀ f g : Nat, (f : Int) < v 6 0 → (g : Int) < v 6 0 → f ≠ g → ¬ (v 7 f ≤ v 8 g ∧ v 7 g ≤ v 8 f ∧ v 9 f ≤ v 10 g ∧ v 9 g ≤ v 10 f)) ∧
  (∀ b : Nat, (b : Int) < v 1 0 → v 2 b ≤ v 3 b ∧ v 3 b < v 0 0 ∧ v 4 b ≤ v 5 b ∧ v 5 b < v 0 1)
section GEOS
variable {v : Nat → Nat → Int}
theorem GEO.cel (g : GEO v) {c : Nat} (hc : (c : Int) < v 11 0) : 1 ≤ v 12 c ∧ v 13 c < v 6 0 ∧ v 15 c ≤ 16 * (v 0 1 - v 12 c) ∧ v 16 c ≤ 16 * (v 0 0 - 1) := g.1 c hc
theorem GEO.non (g : GEO v) {c : Nat} (hc : (c : Int) < v 11 0) (h : v 17 c = -1) : v 18 c = -1 := g.2.1 c hc h
theorem GEO.gnd (g : GEO v) {c : Nat} (hc : (c : Int) < v 11 0) (h : v 17 c ≠ -1) : gfB v c (v 17 c) (v 18 c) = true := g.2.2.1 c hc h
theorem GEO.dis (g : GEO v) {c d : Nat} (hc : (c : Int) < v 11 0) (hd : (d : Int) < v 11 0) (hn : c ≠ d) (h : v 17 c ≠ -1) (e : v 17 d = v 17 c) : v 18 c + v 12 c ≤ v 18 d ∨ v 18 d + v 12 d ≤ v 18 c := g.2.2.2.1 c d hc hd hn h e
theorem GEO.fxd (g : GEO v) {c : Nat} (hc : (c : Int) < v 11 0) (h : v 14 c = 1) : v 17 c ≠ -1 ∧ v 15 c = 16 * v 18 c ∧ v 16 c = 16 * v 17 c := g.2.2.2.2.1 c hc h
theorem GEO.fen (g : GEO v) {f : Nat} (hf : (f : Int) < v 6 0) : v 7 f ≤ v 8 f ∧ v 8 f < v 0 0 ∧ v 9 f ≤ v 10 f ∧ v 10 f < v 0 1 := g.2.2.2.2.2.1 f hf
theorem GEO.fdj (g : GEO v) {f k : Nat} (hf : (f : Int) < v 6 0) (hk : (k : Int) < v 6 0) (hn : f ≠ k) : ¬ (v 7 f ≤ v 8 k ∧ v 7 k ≤ v 8 f ∧ v 9 f ≤ v 10 k ∧ v 9 k ≤ v 10 f) := g.2.2.2.2.2.2.1 f k hf hk hn
theorem GEO.blk (g : GEO v) {b : Nat} (hb : (b : Int) < v 1 0) : v 2 b ≤ v 3 b ∧ v 3 b < v 0 0 ∧ v 4 b ≤ v 5 b ∧ v 5 b < v 0 1 := g.2.2.2.2.2.2.2 b hb
theorem lst_spec {p : Nat → Bool} : ∀ (m i : Nat) (a : Int), (lst p m i a = a ∧ ∀ j, i ≤ j → j < i + m → p j = false) ∨ ∃ j, i ≤ j ∧ j < i + m ∧ p j = true ∧ lst p m i a = j ∧ ∀ k, j < k → k < i + m → p k = false
  | 0, i, a => Or.inl ⟨rfl, fun j h1 h2 => by omega⟩
  | m + 1, i, a => by
    rw [lst]
    rcases lst_spec m (i + 1) (if p i = true then (i : Int) else a) with ⟨h1, h2⟩ | ⟨j, h1, h2, h3, h4, h5⟩
    · rw [h1]
      by_cases e : p i = true
      · rw [if_pos e]
        exact Or.inr ⟨i, Nat.le_refl i, by omega, e, rfl, fun k hk1 hk2 => h2 k (by omega) (by omega)⟩
      · rw [if_neg e]
        refine Or.inl ⟨rfl, fun j hj1 hj2 => ?_⟩
        by_cases e2 : j = i
        · rw [e2]; exact Bool.eq_false_iff.mpr e
        · exact h2 j (by omega) (by omega)
    · exact Or.inr ⟨j, by omega, by omega, h3, h4, fun k hk1 hk2 => h5 k hk1 (by omega)⟩
theorem lst_no {p : Nat → Bool} {n : Nat} : lst p n 0 (-1) = -1 ↔ ∀ j, j < n → p j = false := by
  rcases lst_spec (p := p) n 0 (-1) with ⟨h1, h2⟩ | ⟨j, h1, h2, h3, h4, h5⟩
  · exact ⟨fun _ j hj => h2 j (by omega) (by omega), fun _ => h1⟩
  · constructor
    · intro e; omega
    · intro e
      rw [e j (by omega)] at h3
      cases h3
theorem lst_is {p : Nat → Bool} {n j : Nat} (hj : j < n) (hp : p j = true) (hu : ∀ k, k < n → p k = true → k = j) : lst p n 0 (-1) = j := by
  rcases lst_spec (p := p) n 0 (-1) with ⟨h1, h2⟩ | ⟨k, h1, h2, h3, h4, h5⟩
  · rw [h2 j (by omega) (by omega)] at hp; cases hp
  · rw [h4, hu k (by omega) h3]
theorem lst_eq {p : Nat → Bool} {n : Nat} {j : Nat} (h : lst p n 0 (-1) = j) : j < n ∧ p j = true := by
  rcases lst_spec (p := p) n 0 (-1) with ⟨h1, h2⟩ | ⟨k, h1, h2, h3, h4, h5⟩
  · omega
  · have : k = j := by omega
    subst this
    exact ⟨by omega, h3⟩
theorem anyB_f {p : Nat → Bool} {n : Nat} : anyB p n = false ↔ ∀ j, j < n → p j = false := by
  rw [← Bool.not_eq_true, anyB_iff]
  exact ⟨fun h j hj => Bool.eq_false_iff.mpr (fun z => h ⟨j, hj, z⟩), fun h ⟨j, hj, z⟩ => by rw [h j hj] at z; cases z⟩
theorem ov7_u (g : GEO v) {r k : Int} {f f2 : Nat} (hf : (f : Int) < v 6 0) (hf2 : (f2 : Int) < v 6 0) (h1 : ovV v 7 r r k k f = true) (h2 : ovV v 7 r r k k f2 = true) : f = f2 := by
  by_cases e : f = f2
  · exact e
  · exfalso
    refine g.fdj hf hf2 e ?_
    simp only [ovV, Bool.and_eq_true, decide_eq_true_eq, Nat.reduceAdd] at h1 h2
    omega
theorem srch_f0 {p : Nat → Bool} {n : Nat} : srch p n 0 = false ↔ ∀ j, j < n → p j = false := anyB_f
/-- a lawful site, in words -/
theorem stB1_iff {c : Nat} {r fa k : Int} : stB1 v c r fa k = true ↔ (∀ b, b < (v 1 0).toNat → ovV v 2 r r k k b = false) ∧ lst (ovV v 7 r r k k) (v 6 0).toNat 0 (-1) = v 13 c ∧ (∀ d, d < (v 11 0).toNat → ctB v r k c fa d = false) := by
  unfold stB1
  rw [Bool.and_eq_true, Bool.and_eq_true, decide_eq_true_eq, decide_eq_true_eq, lst_no, Bool.not_eq_true', anyB_f, and_assoc]
theorem lwM_iff {c : Nat} {r s fa : Int} : lwM v c r s fa = true ↔ (0 ≤ r ∧ r < v 0 0 ∧ 0 ≤ s ∧ s < v 0 1 ∧ s + v 12 c ≤ v 0 1) ∧ ∀ j : Nat, j < (v 12 c).toNat → stB1 v c r fa (s + j) = true := by
  unfold lwM
  rw [Bool.and_eq_true, Bool.not_eq_true', srch_f0]
  simp only [Bool.and_eq_true, decide_eq_true_eq, Bool.not_eq_false', and_assoc]
theorem gfB_iff {c : Nat} {r s : Int} : gfB v c r s = true ↔ (0 ≤ r ∧ r < v 0 0 ∧ 0 ≤ s ∧ s ≤ v 0 1 - v 12 c) ∧ (∀ b, b < (v 1 0).toNat → ovV v 2 r r s (s + v 12 c - 1) b = false) ∧ (if v 13 c = -1 then (∀ f, f < (v 6 0).toNat → ovV v 7 r r s (s + v 12 c - 1) f = false) else ovV v 7 r r (s + v 12 c - 1) s (v 13 c).toNat = true) := by
  unfold gfB icB
  rw [Bool.and_eq_true, Bool.and_eq_true, Bool.not_eq_true', anyB_f]
  by_cases e : v 13 c = -1
  · rw [if_pos e, if_pos e, Bool.not_eq_true', anyB_f]
    simp only [Bool.and_eq_true, decide_eq_true_eq, and_assoc]
  · rw [if_neg e, if_neg e]
    simp only [Bool.and_eq_true, decide_eq_true_eq, and_assoc]
theorem ov_iv {j0 i : Nat} {r s w : Int} (hb : v (j0 + 2) i ≤ v (j0 + 3) i) (hw : 1 ≤ w) : ovV v j0 r r s (s + w - 1) i = true ↔ ∃ j : Nat, (j : Int) < w ∧ ovV v j0 r r (s + j) (s + j) i = true := by
  simp only [ovV, Bool.and_eq_true, decide_eq_true_eq]
  constructor
  · intro h
    exact ⟨(max s (v (j0 + 2) i) - s).toNat, by omega, by omega⟩
  · intro ⟨j, h1, h2⟩
    omega
theorem la_iv {d : Nat} {r s w : Int} (hd : 1 ≤ v 12 d) (hw : 1 ≤ w) : laB v r s (s + w - 1) d = true ↔ ∃ j : Nat, (j : Int) < w ∧ laB v r (s + j) (s + j) d = true := by
  simp only [laB, Bool.and_eq_true, decide_eq_true_eq]
  constructor
  · intro h
    exact ⟨(max s (v 18 d) - s).toNat, by omega, by omega⟩
  · intro ⟨j, h1, h2⟩
    omega
theorem b_ff {a b : Bool} (h : a = true → b = true) (e : b = false) : a = false := by
  cases a
  · rfl
  · rw [h rfl] at e; cases e
/-- ground for a cell, seen site by site -/
theorem gf_sites (g : GEO v) (w : RGv v) {c : Nat} (hc : (c : Int) < v 11 0) {r s : Int} : gfB v c r s = true ↔ (0 ≤ r ∧ r < v 0 0 ∧ 0 ≤ s ∧ s + v 12 c ≤ v 0 1) ∧ ∀ j : Nat, (j : Int) < v 12 c → (∀ b, b < (v 1 0).toNat → ovV v 2 r r (s + j) (s + j) b = false) ∧ lst (ovV v 7 r r (s + j) (s + j)) (v 6 0).toNat 0 (-1) = v 13 c := by
  have c1 := g.cel hc
  have nB := w.nB
  have nF := w.nF
  have fc := w.fen c
  rw [gfB_iff]
  constructor
  · intro ⟨h1, h2, h3⟩
    refine ⟨by omega, fun j hj => ⟨fun b hb => ?_, ?_⟩⟩
    · exact b_ff (fun z => (ov_iv (g.blk (by omega)).2.2.1 c1.1).mpr ⟨j, hj, z⟩) (h2 b hb)
    · by_cases e : v 13 c = -1
      · rw [if_pos e] at h3
        rw [e]
        refine lst_no.mpr (fun f hf => ?_)
        exact b_ff (fun z => (ov_iv (g.fen (by omega)).2.2.1 c1.1).mpr ⟨j, hj, z⟩) (h3 f hf)
      · rw [if_neg e] at h3
        have hin : ovV v 7 r r (s + j) (s + j) (v 13 c).toNat = true := by
          simp only [ovV, Bool.and_eq_true, decide_eq_true_eq] at h3 ⊢
          omega
        rw [lst_is (j := (v 13 c).toNat) (by omega) hin (fun k hk hk2 => ov7_u g (by omega) (by omega) hk2 hin)]
        omega
  · intro ⟨h1, h2⟩
    refine ⟨by omega, fun b hb => ?_, ?_⟩
    · refine Bool.eq_false_iff.mpr (fun z => ?_)
      obtain ⟨j, hj, z2⟩ := (ov_iv (g.blk (by omega)).2.2.1 c1.1).mp z
      rw [(h2 j hj).1 b hb] at z2
      cases z2
    · by_cases e : v 13 c = -1
      · rw [if_pos e]
        intro f hf
        refine Bool.eq_false_iff.mpr (fun z => ?_)
        obtain ⟨j, hj, z2⟩ := (ov_iv (g.fen (by omega)).2.2.1 c1.1).mp z
        have h3 := (h2 j hj).2
        rw [e] at h3
        rw [lst_no.mp h3 f hf] at z2
        cases z2
      · rw [if_neg e]
        have a := (h2 0 (by omega)).2
        have b := (h2 (v 12 c - 1).toNat (by omega)).2
        rw [show v 13 c = ((v 13 c).toNat : Int) by omega] at a b
        have a2 := (lst_eq a).2
        have b2 := (lst_eq b).2
        simp only [ovV, Bool.and_eq_true, decide_eq_true_eq] at a2 b2 ⊢
        omega
theorem lwM_0 (g : GEO v) (w : RGv v) {c : Nat} (hc : (c : Int) < v 11 0) {r s : Int} : lwM v c r s 0 = lwB v c r s := by
  have c1 := g.cel hc
  have nC := w.nC
  rw [Bool.eq_iff_iff, lwM_iff]
  unfold lwB
  rw [Bool.and_eq_true, Bool.not_eq_true', anyB_f, gf_sites g w hc]
  constructor
  · intro ⟨h1, h2⟩
    refine ⟨⟨by omega, fun j hj => ?_⟩, fun d hd => ?_⟩
    · have := stB1_iff.mp (h2 j (by omega))
      exact ⟨this.1, this.2.1⟩
    · refine Bool.eq_false_iff.mpr (fun z => ?_)
      unfold aoB at z
      rw [Bool.and_eq_true] at z
      obtain ⟨j, hj, z2⟩ := (la_iv (g.cel (c := d) (by omega)).1 c1.1).mp z.2
      have := (stB1_iff.mp (h2 j (by omega))).2.2 d hd
      unfold ctB at this
      rw [z.1, z2] at this
      simp at this
  · intro ⟨⟨h1, h2⟩, h3⟩
    refine ⟨by omega, fun j hj => stB1_iff.mpr ⟨(h2 j (by omega)).1, (h2 j (by omega)).2, fun d hd => ?_⟩⟩
    refine b_ff (fun z => ?_) (h3 d hd)
    unfold ctB at z
    unfold aoB
    rw [Bool.and_eq_true, Bool.and_eq_true] at z
    rw [Bool.and_eq_true]
    exact ⟨z.1.1, (la_iv (g.cel (c := d) (by omega)).1 c1.1).mpr ⟨j, by omega, z.1.2⟩⟩
theorem lwM_1 (g : GEO v) (w : RGv v) {c : Nat} (hc : (c : Int) < v 11 0) {r s : Int} (hx : v 14 c = 0) : lwM v c r s 1 = (gfB v c r s && !anyB (afB v r r s (s + v 12 c - 1)) (v 11 0).toNat) := by
  have c1 := g.cel hc
  have nC := w.nC
  rw [Bool.eq_iff_iff, lwM_iff, Bool.and_eq_true, Bool.not_eq_true', anyB_f, gf_sites g w hc]
  constructor
  · intro ⟨h1, h2⟩
    refine ⟨⟨by omega, fun j hj => ?_⟩, fun d hd => ?_⟩
    · have := stB1_iff.mp (h2 j (by omega))
      exact ⟨this.1, this.2.1⟩
    · refine Bool.eq_false_iff.mpr (fun z => ?_)
      unfold afB at z
      simp only [Bool.and_eq_true, Bool.not_eq_true', decide_eq_false_iff_not, decide_eq_true_eq] at z
      have e1 : v 17 d = r := by omega
      rw [e1] at z
      obtain ⟨j, hj, z2⟩ := (la_iv (g.cel (c := d) (by omega)).1 c1.1).mp z.2
      have := (stB1_iff.mp (h2 j (by omega))).2.2 d hd
      unfold ctB at this
      rw [z2] at this
      have fd := w.fix d
      have e2 : v 14 d = 1 := by omega
      have e3 : ¬ (d : Int) = c := fun q => by
        have : d = c := by omega
        rw [this] at e2
        omega
      simp [e2, e3] at this
  · intro ⟨⟨h1, h2⟩, h3⟩
    refine ⟨by omega, fun j hj => stB1_iff.mpr ⟨(h2 j (by omega)).1, (h2 j (by omega)).2, fun d hd => ?_⟩⟩
    refine b_ff (fun z => ?_) (h3 d hd)
    unfold ctB at z
    unfold afB
    simp only [Bool.and_eq_true, Bool.or_eq_true, Bool.not_eq_true', decide_eq_false_iff_not, decide_eq_true_eq] at z ⊢
    have z4 := z.1.2
    unfold laB at z4
    simp only [Bool.and_eq_true, decide_eq_true_eq] at z4
    refine ⟨⟨⟨by omega, by omega⟩, by omega⟩, ?_⟩
    rw [z4.1.1]
    exact (la_iv (g.cel (c := d) (by omega)).1 c1.1).mpr ⟨j, by omega, z.1.2⟩
end GEOS
