/-! spots that are lost; what is taken -/
def GEO0 (v : Nat → Nat → Int) : Prop :=
  (∀ c : Nat, (c : Int) < v 11 0 → 1 ≤ v 12 c ∧ v 13 c < v 6 0) ∧
  (∀ f : Nat, (f : Int) < v 6 0 → v 7 f ≤ v 8 f ∧ v 8 f < v 0 0 ∧ v 9 f ≤ v 10 f ∧ v 10 f < v 0 1) ∧
  (∀ f g : Nat, (f : Int) < v 6 0 → (g : Int) < v 6 0 → f ≠ g → ¬ (v 7 f ≤ v 8 g ∧ v 7 g ≤ v 8 f ∧ v 9 f ≤ v 10 g ∧ v 9 g ≤ v 10 f)) ∧
  (∀ b : Nat, (b : Int) < v 1 0 → v 2 b ≤ v 3 b ∧ v 3 b < v 0 0 ∧ v 4 b ≤ v 5 b ∧ v 5 b < v 0 1)
def DIS (v : Nat → Nat → Int) : Prop := ∀ c d : Nat, (c : Int) < v 11 0 → (d : Int) < v 11 0 → c ≠ d → v 17 c ≠ -1 → v 17 d = v 17 c → v 18 c + v 12 c ≤ v 18 d ∨ v 18 d + v 12 d ≤ v 18 c
def lsV (v : Nat → Nat → Int) (c : Nat) : Nat → Nat → Int := up2 (up2 v 17 c (-1)) 18 c (-1)
/-- loose cells of m from i on lose spots that are no ground -/
def loS : Nat → Nat → (Nat → Nat → Int) → (Nat → Nat → Int)
  | 0, _, v => v
  | m + 1, i, v => loS m (i + 1) (if lpB v i = true ∧ gfB v i (v 17 i) (v 18 i) = false then lsV v i else v)
/-- the same without spots -/
def unp (v : Nat → Nat → Int) : Nat → Nat → Int := fun j i => if j = 17 ∨ j = 18 then -1 else if j = 14 ∨ j = 15 ∨ j = 16 then 0 else v j i
def tkS (v : Nat → Nat → Int) (fe r s : Int) : Bool := (decide (0 ≤ r) && decide (r < v 0 0) && decide (0 ≤ s) && decide (s < v 0 1)) && (!decide (lst (ctB v r s (-1) 1) (v 11 0).toNat 0 (-1) = -1) || (!decide (fe = 0) && !decide (lst (ovV v 7 r r s s) (v 6 0).toNat 0 (-1) = -1)))
def tkR (v : Nat → Nat → Int) (fe r f : Int) (n : Nat) : Bool := anyB (fun j => tkS v fe r (f + (j : Int))) n
def tkB (v : Nat → Nat → Int) (lo hi f l fe : Int) : Bool := anyB (fun i => tkR v fe (lo + (i : Int)) f (l - f + 1).toNat) (hi - lo + 1).toNat
section LOS
variable {v : Nat → Nat → Int}
theorem GEO.g0 (g : GEO v) : GEO0 v := ⟨fun c hc => ⟨(g.cel hc).1, (g.cel hc).2.1⟩, fun f hf => g.fen hf, fun f k hf hk hn => g.fdj hf hk hn, fun b hb => g.blk hb⟩
theorem GEO.ds (g : GEO v) : DIS v := fun c d hc hd hn h e => g.dis hc hd hn h e
theorem unp_g (g : GEO0 v) (w : RGv v) : GEO (unp v) ∧ RGv (unp v) := by
  have ws := w.sites
  have wr := w.rows
  refine ⟨⟨fun c hc => ?_, fun c hc _ => rfl, fun c hc h => absurd rfl h, fun c d hc hd hn h => absurd rfl h, fun c hc h => ?_, fun f hf => g.2.1 f hf, fun f k hf hk hn => g.2.2.1 f k hf hk hn, fun b hb => g.2.2.2 b hb⟩, ?_⟩
  · have h1 := g.1 c hc
    have w1 := w.wid c
    refine ⟨h1.1, h1.2, ?_, ?_⟩
    · show (0 : Int) ≤ 16 * (v 0 1 - v 12 c)
      omega
    · show (0 : Int) ≤ 16 * (v 0 0 - 1)
      omega
  · have h2 : (0 : Int) = 1 := h
    omega
  · refine ⟨⟨w.wid, w.fen, fun c => Or.inl rfl, fun c => ?_, fun c => ?_, fun c => ?_, fun c => ?_⟩, ⟨w.wgt, w.pin, w.hed, w.tai⟩, w.nB, w.nF, w.nC, w.nN, w.rows, w.sites, fun j i hj => ?_⟩
    · show (0 : Int) ≤ 0 ∧ (0 : Int) ≤ 512
      omega
    · show (0 : Int) ≤ 0 ∧ (0 : Int) ≤ 128
      omega
    · show (-1 : Int) ≤ -1 ∧ (-1 : Int) ≤ 7
      omega
    · show (-1 : Int) ≤ -1 ∧ (-1 : Int) ≤ 31
      omega
    · have e : unp v j i = v j i := by
        unfold unp
        rw [if_neg (by omega), if_neg (by omega)]
      rw [e]
      exact w.box j i hj
theorem gf_sites0 (g : GEO0 v) (w : RGv v) {c : Nat} (hc : (c : Int) < v 11 0) {r s : Int} : gfB v c r s = true ↔ (0 ≤ r ∧ r < v 0 0 ∧ 0 ≤ s ∧ s + v 12 c ≤ v 0 1) ∧ ∀ j : Nat, (j : Int) < v 12 c → (∀ b, b < (v 1 0).toNat → ovV v 2 r r (s + j) (s + j) b = false) ∧ lst (ovV v 7 r r (s + j) (s + j)) (v 6 0).toNat 0 (-1) = v 13 c := gf_sites (unp_g g w).1 (unp_g g w).2 (v := unp v) hc
theorem lw_own (g : GEO0 v) (w : RGv v) (ds : DIS v) {c : Nat} (hc : (c : Int) < v 11 0) (hp : v 17 c ≠ -1) : lwM v c (v 17 c) (v 18 c) 0 = gfB v c (v 17 c) (v 18 c) := by
  have c1 := g.1 c hc
  have nC := w.nC
  rw [Bool.eq_iff_iff, lwM_iff, gf_sites0 g w hc]
  constructor
  · intro ⟨h1, h2⟩
    refine ⟨by omega, fun j hj => ?_⟩
    have := stB1_iff.mp (h2 j (by omega))
    exact ⟨this.1, this.2.1⟩
  · intro ⟨h1, h2⟩
    refine ⟨by omega, fun j hj => stB1_iff.mpr ⟨(h2 j (by omega)).1, (h2 j (by omega)).2, fun d hd => ?_⟩⟩
    rw [Bool.eq_false_iff]
    intro z
    unfold ctB laB at z
    simp only [Bool.and_eq_true, Bool.or_eq_true, Bool.not_eq_true', decide_eq_false_iff_not, decide_eq_true_eq] at z
    have := ds c d hc (by omega) (fun e => z.1.1 (by rw [e])) hp z.1.2.1.1
    omega
theorem lsV_o {c j : Nat} (hj : j ≠ 17 ∧ j ≠ 18) : lsV v c j = v j := by
  unfold lsV
  rw [up2_of (by omega), up2_of (by omega)]
theorem lsV_17 {c d : Nat} : lsV v c 17 d = if d = c then -1 else v 17 d := by
  unfold lsV
  rw [up2_oth (by omega), up2_same]
theorem lsV_18 {c d : Nat} : lsV v c 18 d = if d = c then -1 else v 18 d := by
  unfold lsV
  rw [up2_same, up2_oth (by omega)]
theorem GEO0.cg {v2 : Nat → Nat → Int} (g : GEO0 v) (e : ∀ j, j ≠ 17 → j ≠ 18 → v2 j = v j) : GEO0 v2 := by
  unfold GEO0
  rw [e 11 (by omega) (by omega), e 12 (by omega) (by omega), e 13 (by omega) (by omega), e 6 (by omega) (by omega), e 7 (by omega) (by omega), e 8 (by omega) (by omega), e 9 (by omega) (by omega), e 10 (by omega) (by omega), e 0 (by omega) (by omega), e 1 (by omega) (by omega), e 2 (by omega) (by omega), e 3 (by omega) (by omega), e 4 (by omega) (by omega), e 5 (by omega) (by omega)]
  exact g
theorem gfB_cg {v2 : Nat → Nat → Int} (e : ∀ j, j ≠ 17 → j ≠ 18 → v2 j = v j) {c : Nat} {r s : Int} : gfB v2 c r s = gfB v c r s := by
  unfold gfB icB ovV
  rw [e 12 (by omega) (by omega), e 13 (by omega) (by omega), e 6 (by omega) (by omega), e 0 (by omega) (by omega), e 1 (by omega) (by omega)]
  simp only [Nat.reduceAdd]
  rw [e 7 (by omega) (by omega), e 8 (by omega) (by omega), e 9 (by omega) (by omega), e 10 (by omega) (by omega), e 2 (by omega) (by omega), e 3 (by omega) (by omega), e 4 (by omega) (by omega), e 5 (by omega) (by omega)]
theorem lsV_dis (ds : DIS v) (c : Nat) : DIS (lsV v c) := by
  intro a b ha hb hn h e
  rw [lsV_o (by omega)] at ha hb
  rw [lsV_17] at h
  rw [lsV_17, lsV_17] at e
  rw [lsV_18, lsV_18, lsV_o (j := 12) (by omega)]
  by_cases h1 : a = c
  · rw [if_pos h1] at h; exact absurd rfl h
  · rw [if_neg h1] at h e
    by_cases h2 : b = c
    · rw [if_pos h2] at e
      exact absurd e.symm h
    · rw [if_neg h2] at e
      rw [if_neg h1, if_neg h2]
      exact ds a b ha hb hn h e
theorem lsV_rg (w : RGv v) (c : Nat) : RGv (lsV v c) := (w.u (by unfold rgP; omega)).u (by unfold rgP; omega)
theorem tk_f (g : GEO0 v) (w : RGv v) {lo hi f l fe : Int} (h0 : 0 ≤ lo) (h1 : hi < v 0 0) (h3 : lo ≤ hi) (h2 : max 0 f ≤ min (v 0 1 - 1) l) : tkB v lo hi f l fe = true ↔ anyB (afB v lo hi (max 0 f) (min (v 0 1 - 1) l)) (v 11 0).toNat = true ∨ (fe ≠ 0 ∧ anyB (ovV v 7 lo hi (max 0 f) (min (v 0 1 - 1) l)) (v 6 0).toNat = true) := by
  have nC := w.nC
  have nF := w.nF
  unfold tkB tkR
  rw [anyB_iff]
  simp only [anyB_iff]
  constructor
  · intro ⟨i, hi1, j, hj1, z⟩
    unfold tkS at z
    simp only [Bool.and_eq_true, Bool.or_eq_true, Bool.not_eq_true', decide_eq_false_iff_not, decide_eq_true_eq] at z
    rcases z.2 with q | ⟨q1, q2⟩
    · left
      rcases lst_spec (p := ctB v (lo + i) (f + j) (-1) 1) (v 11 0).toNat 0 (-1) with ⟨e1, e2⟩ | ⟨d, d1, d2, d3, d4, d5⟩
      · exact absurd e1 q
      · refine ⟨d, by omega, ?_⟩
        unfold ctB laB at d3
        unfold afB laB
        simp only [Bool.and_eq_true, Bool.or_eq_true, Bool.not_eq_true', decide_eq_false_iff_not, decide_eq_true_eq] at d3 ⊢
        refine ⟨⟨⟨?_, ?_⟩, ?_⟩, ⟨trivial, ?_⟩, ?_⟩ <;> omega
    · right
      refine ⟨q1, ?_⟩
      rcases lst_spec (p := ovV v 7 (lo + i) (lo + i) (f + j) (f + j)) (v 6 0).toNat 0 (-1) with ⟨e1, e2⟩ | ⟨d, d1, d2, d3, d4, d5⟩
      · exact absurd e1 q2
      · refine ⟨d, by omega, ?_⟩
        unfold ovV at d3 ⊢
        simp only [Bool.and_eq_true, decide_eq_true_eq] at d3 ⊢
        refine ⟨⟨⟨?_, ?_⟩, ?_⟩, ?_⟩ <;> omega
  · intro q
    rcases q with ⟨d, d1, d2⟩ | ⟨q, d, d1, d2⟩
    · have cd := g.1 d (by omega)
      have fd := w.fix d
      unfold afB laB at d2
      simp only [Bool.and_eq_true, Bool.not_eq_true', decide_eq_false_iff_not, decide_eq_true_eq] at d2
      refine ⟨(v 17 d - lo).toNat, by omega, (max (max 0 f) (v 18 d) - f).toNat, by omega, ?_⟩
      have er : lo + (((v 17 d - lo).toNat : Nat) : Int) = v 17 d := by omega
      have es : f + (((max (max 0 f) (v 18 d) - f).toNat : Nat) : Int) = max (max 0 f) (v 18 d) := by omega
      rw [er, es]
      unfold tkS
      simp only [Bool.and_eq_true, Bool.or_eq_true, Bool.not_eq_true', decide_eq_false_iff_not, decide_eq_true_eq]
      refine ⟨⟨⟨⟨by omega, by omega⟩, by omega⟩, by omega⟩, Or.inl (fun e => ?_)⟩
      have := lst_no.mp e d d1
      rw [Bool.eq_false_iff] at this
      apply this
      unfold ctB laB
      simp only [Bool.and_eq_true, Bool.or_eq_true, Bool.not_eq_true', decide_eq_false_iff_not, decide_eq_true_eq]
      refine ⟨⟨?_, ⟨trivial, ?_⟩, ?_⟩, ?_⟩ <;> omega
    · have cd := g.2.1 d (by omega)
      unfold ovV at d2
      simp only [Bool.and_eq_true, decide_eq_true_eq, Nat.reduceAdd] at d2
      refine ⟨(max lo (v 7 d) - lo).toNat, by omega, (max (max 0 f) (v 9 d) - f).toNat, by omega, ?_⟩
      have er : lo + (((max lo (v 7 d) - lo).toNat : Nat) : Int) = max lo (v 7 d) := by omega
      have es : f + (((max (max 0 f) (v 9 d) - f).toNat : Nat) : Int) = max (max 0 f) (v 9 d) := by omega
      rw [er, es]
      unfold tkS
      simp only [Bool.and_eq_true, Bool.or_eq_true, Bool.not_eq_true', decide_eq_false_iff_not, decide_eq_true_eq]
      refine ⟨⟨⟨⟨by omega, by omega⟩, by omega⟩, by omega⟩, Or.inr ⟨q, fun e => ?_⟩⟩
      have := lst_no.mp e d d1
      rw [Bool.eq_false_iff] at this
      apply this
      unfold ovV
      simp only [Bool.and_eq_true, decide_eq_true_eq, Nat.reduceAdd]
      refine ⟨⟨⟨?_, ?_⟩, ?_⟩, ?_⟩ <;> omega
end LOS
