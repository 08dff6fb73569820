/-! GOOD: free, take, cell -/
section GDC
variable {u v : Nat → Nat → Int}
/-- a plan from its parts -/
theorem GEO_mk (g0 : GEO0 u) (h1 : ∀ c : Nat, (c : Int) < u 11 0 → u 15 c ≤ 16 * (u 0 1 - u 12 c) ∧ u 16 c ≤ 16 * (u 0 0 - 1)) (h2 : ∀ c : Nat, (c : Int) < u 11 0 → (u 17 c = -1 ∧ u 18 c = -1) ∨ gfB u c (u 17 c) (u 18 c) = true) (h3 : DIS u) (h4 : ∀ c : Nat, (c : Int) < u 11 0 → u 14 c = 1 → u 17 c ≠ -1 ∧ u 15 c = 16 * u 18 c ∧ u 16 c = 16 * u 17 c) : GEO u := by
  refine ⟨fun c hc => ⟨(g0.1 c hc).1, (g0.1 c hc).2, (h1 c hc).1, (h1 c hc).2⟩, fun c hc e => ?_, fun c hc e => ?_, h3, h4, g0.2.1, g0.2.2.1, g0.2.2.2⟩
  · rcases h2 c hc with q | q
    · exact q.2
    · exfalso
      have := (gfB_iff.mp q).1
      omega
  · rcases h2 c hc with q | q
    · exact absurd q.1 e
    · exact q
theorem GEO_14 (g : GEO v) (e : ∀ j, j ≠ 14 → u j = v j) (h : ∀ c, u 14 c = 1 → v 14 c = 1) : GEO u := by
  have s : ∀ c r s, gfB u c r s = gfB v c r s := fun c r st => by
    unfold gfB icB ovV
    rw [e 0 (by decide), e 1 (by decide), e 6 (by decide), e 12 (by decide), e 13 (by decide), e 2 (by decide), e (2 + 1) (by decide), e (2 + 2) (by decide), e (2 + 3) (by decide), e 7 (by decide), e (7 + 1) (by decide), e (7 + 2) (by decide), e (7 + 3) (by decide)]
  unfold GEO at g ⊢
  rw [e 0 (by decide), e 1 (by decide), e 2 (by decide), e 3 (by decide), e 4 (by decide), e 5 (by decide), e 6 (by decide), e 7 (by decide), e 8 (by decide), e 9 (by decide), e 10 (by decide), e 11 (by decide), e 12 (by decide), e 13 (by decide), e 15 (by decide), e 16 (by decide), e 17 (by decide), e 18 (by decide)]
  refine ⟨g.1, g.2.1, fun c hc q => ?_, g.2.2.2.1, fun c hc q => g.2.2.2.2.1 c hc (h c q), g.2.2.2.2.2⟩
  rw [s]
  exact g.2.2.1 c hc q
theorem free_gd {c : Nat} (g : Gd v) : Gd (up2 v 14 c 0) := by
  have e : ∀ j, j ≠ 14 → up2 v 14 c 0 j = v j := fun j h => up2_of h
  refine ⟨g.rg.u (by unfold rgP; omega), ?_, ?_, ?_, GEO_14 g.geo e (fun d q => ?_)⟩
  · have := g.n2
    unfold N2v at this ⊢
    rw [e 19 (by decide), e 21 (by decide)]
    exact this
  · have := g.nd
    unfold NDv at this ⊢
    rw [e 19 (by decide), e 21 (by decide), e 22 (by decide)]
    exact this
  · have := g.nt
    unfold NTv at this ⊢
    rw [e 19 (by decide), e 21 (by decide), e 22 (by decide), e 23 (by decide), e 0 (by decide), e 11 (by decide), e 12 (by decide)]
    exact this
  · rw [up2_same] at q
    split at q
    · omega
    · exact q
/-- some loose cells lose their spots -/
theorem lose_gd (gd : Gd v) (s : SJ u v) (H : ∀ c : Nat, (u 17 c = v 17 c ∧ u 18 c = v 18 c) ∨ (v 14 c = 0 ∧ u 17 c = -1 ∧ u 18 c = -1)) (w : RGv u) : Gd u := by
  have s11 := s 11 (by decide) (by decide)
  have s12 := s 12 (by decide) (by decide)
  have s14 := s 14 (by decide) (by decide)
  have s15 := s 15 (by decide) (by decide)
  have s16 := s 16 (by decide) (by decide)
  have s0 := s 0 (by decide) (by decide)
  refine s.gd w (GEO_mk (GEO0.cg gd.geo.g0 (fun j h1 h2 => s j h1 h2)) (fun c hc => ?_) (fun c hc => ?_) (fun c d hc hd hn hp he => ?_) (fun c hc hx => ?_)) gd
  · rw [s11] at hc
    rw [s15, s16, s0, s12]
    exact ⟨(gd.geo.cel hc).2.2.1, (gd.geo.cel hc).2.2.2⟩
  · rw [s11] at hc
    rcases H c with q | q
    · rw [q.1, q.2, gfB_sj s]
      by_cases e : v 17 c = -1
      · exact Or.inl ⟨e, gd.geo.non hc e⟩
      · exact Or.inr (gd.geo.gnd hc e)
    · exact Or.inl q.2
  · rw [s11] at hc hd
    rw [s12]
    rcases H c with q | q
    · rcases H d with q2 | q2
      · rw [q.1] at hp he
        rw [q2.1] at he
        rw [q.2, q2.2]
        exact gd.geo.dis hc hd hn hp he
      · rw [q2.2.1] at he
        exact absurd he.symm hp
    · exact absurd q.2.1 hp
  · rw [s11] at hc
    rw [s14] at hx
    rw [s15, s16]
    rcases H c with q | q
    · rw [q.1, q.2]
      exact gd.geo.fxd hc hx
    · omega
theorem take_gd {c : Nat} (g : Gd v) (h : v 14 c = 0) : Gd (lsV v c) := by
  refine lose_gd g (fun j h1 h2 => lsV_o ⟨h1, h2⟩) (fun d => ?_) (lsV_rg g.rg c)
  rw [lsV_17, lsV_18]
  by_cases e : d = c
  · rw [if_pos e, if_pos e, e]
    exact Or.inr ⟨h, rfl, rfl⟩
  · rw [if_neg e, if_neg e]
    exact Or.inl ⟨rfl, rfl⟩
theorem adC_o {w f : Int} {j c : Nat} (hc : (c : Int) < v 11 0) (hj : j ≠ 11) : adC v w f j c = v j c := by
  unfold adC
  have n : ∀ k, ¬ (j = k ∧ c = (v 11 0).toNat) := fun k q => by omega
  rw [up2_eq, if_neg (fun q => hj q.1), up2_eq, if_neg (n _), up2_eq, if_neg (n _), up2_eq, if_neg (n _), up2_eq, if_neg (n _), up2_eq, if_neg (n _), up2_eq, if_neg (n _), up2_eq, if_neg (n _)]
theorem adC_r {w f : Int} {j : Nat} (hj : j < 11 ∨ 18 < j) : adC v w f j = v j := by
  unfold adC
  rw [up2_of (by omega), up2_of (by omega), up2_of (by omega), up2_of (by omega), up2_of (by omega), up2_of (by omega), up2_of (by omega), up2_of (by omega)]
theorem cell_gd {w f : Int} (g : Gd v) (w1 : 1 ≤ w ∧ w ≤ 6) (hf : f = -1 ∨ (0 ≤ f ∧ f < v 6 0)) (hn : v 11 0 ≠ 20) : Gd (adC v w f) := by
  have nC := g.rg.nC
  have nF := g.rg.nF
  have rows := g.rg.rows
  have sites := g.rg.sites
  have e11 : adC v w f 11 0 = v 11 0 + 1 := by unfold adC; rw [up2_self]
  have e0 : adC v w f 0 = v 0 := adC_r (by omega)
  have e1 : adC v w f 1 = v 1 := adC_r (by omega)
  have e6 : adC v w f 6 = v 6 := adC_r (by omega)
  have e19 : adC v w f 19 = v 19 := adC_r (by omega)
  have e21 : adC v w f 21 = v 21 := adC_r (by omega)
  have e22 : adC v w f 22 = v 22 := adC_r (by omega)
  have e23 : adC v w f 23 = v 23 := adC_r (by omega)
  have N12 : adC v w f 12 (v 11 0).toNat = w := by unfold adC; simp [up2_eq]
  have N13 : adC v w f 13 (v 11 0).toNat = f := by unfold adC; simp [up2_eq]
  have N14 : adC v w f 14 (v 11 0).toNat = 0 := by unfold adC; simp [up2_eq]
  have N15 : adC v w f 15 (v 11 0).toNat = 8 * (v 0 1 - w) := by unfold adC; simp [up2_eq]
  have N16 : adC v w f 16 (v 11 0).toNat = 8 * (v 0 0 - 1) := by unfold adC; simp [up2_eq]
  have N17 : adC v w f 17 (v 11 0).toNat = -1 := by unfold adC; simp [up2_eq]
  have N18 : adC v w f 18 (v 11 0).toNat = -1 := by unfold adC; simp [up2_eq]
  have old : ∀ (c j : Nat), (c : Int) < v 11 0 → j ≠ 11 → adC v w f j c = v j c := fun c j hc hj => adC_o hc hj
  have cs : ∀ c : Nat, (c : Int) < v 11 0 + 1 → (c : Int) < v 11 0 ∨ c = (v 11 0).toNat := fun c hc => by omega
  have rg : RGv (adC v w f) := by
    unfold adC
    exact (((((((g.rg.u (by unfold rgP; omega)).u (by unfold rgP; omega)).u (by unfold rgP; omega)).u (by unfold rgP; omega)).u (by unfold rgP; omega)).u (by unfold rgP; omega)).u (by unfold rgP; omega)).u (by unfold rgP; omega)
  have gf : ∀ (c : Nat) (r s : Int), (c : Int) < v 11 0 → gfB (adC v w f) c r s = gfB v c r s := fun c r s hc => by
    unfold gfB icB ovV
    rw [old c 12 hc (by omega), old c 13 hc (by omega), e0, e1, e6, adC_r (j := 2) (by omega), adC_r (j := 2 + 1) (by omega), adC_r (j := 2 + 2) (by omega), adC_r (j := 2 + 3) (by omega), adC_r (j := 7) (by omega), adC_r (j := 7 + 1) (by omega), adC_r (j := 7 + 2) (by omega), adC_r (j := 7 + 3) (by omega)]
  refine ⟨rg, ?_, ?_, ?_, GEO_mk ⟨fun c hc => ?_, ?_, ?_, ?_⟩ (fun c hc => ?_) (fun c hc => ?_) (fun c d hc hd hne hp he => ?_) (fun c hc hx => ?_)⟩
  · have := g.n2
    unfold N2v at this ⊢
    rw [e19, e21]
    exact this
  · have := g.nd
    unfold NDv at this ⊢
    rw [e19, e21, e22]
    exact this
  · have := g.nt
    unfold NTv at this ⊢
    rw [e19, e21, e22, e23, e0, e11]
    intro n k h1 h2
    have q := this n k h1 h2
    have hd := g.rg.hed (n * 6 + k)
    refine ⟨q.1, fun h3 => ?_⟩
    have q2 := q.2 h3
    rw [old _ 12 (by omega) (by omega)]
    exact ⟨by omega, q2.2⟩
  · rw [e11] at hc
    rw [e6]
    rcases cs c hc with q | q
    · rw [old c 12 q (by omega), old c 13 q (by omega)]
      exact g.geo.g0.1 c q
    · rw [q, N12, N13]
      omega
  · rw [e6, adC_r (j := 7) (by omega), adC_r (j := 8) (by omega), adC_r (j := 9) (by omega), adC_r (j := 10) (by omega), e0]
    exact g.geo.g0.2.1
  · rw [e6, adC_r (j := 7) (by omega), adC_r (j := 8) (by omega), adC_r (j := 9) (by omega), adC_r (j := 10) (by omega)]
    exact g.geo.g0.2.2.1
  · rw [e1, adC_r (j := 2) (by omega), adC_r (j := 3) (by omega), adC_r (j := 4) (by omega), adC_r (j := 5) (by omega), e0]
    exact g.geo.g0.2.2.2
  · rw [e11] at hc
    rw [e0]
    rcases cs c hc with q | q
    · rw [old c 15 q (by omega), old c 16 q (by omega), old c 12 q (by omega)]
      exact ⟨(g.geo.cel q).2.2.1, (g.geo.cel q).2.2.2⟩
    · rw [q, N15, N16, N12]
      omega
  · rw [e11] at hc
    rcases cs c hc with q | q
    · rw [gf c _ _ q, old c 17 q (by omega), old c 18 q (by omega)]
      by_cases e : v 17 c = -1
      · exact Or.inl ⟨e, g.geo.non q e⟩
      · exact Or.inr (g.geo.gnd q e)
    · rw [q, N17, N18]
      exact Or.inl ⟨rfl, rfl⟩
  · rw [e11] at hc hd
    rcases cs c hc with q | q
    · rcases cs d hd with q2 | q2
      · rw [old c 17 q (by omega)] at hp he
        rw [old d 17 q2 (by omega)] at he
        rw [old c 18 q (by omega), old d 18 q2 (by omega), old c 12 q (by omega), old d 12 q2 (by omega)]
        exact g.geo.dis q q2 hne hp he
      · rw [q2, N17] at he
        exact absurd he.symm hp
    · rw [q, N17] at hp
      exact absurd rfl hp
  · rw [e11] at hc
    rcases cs c hc with q | q
    · rw [old c 14 q (by omega)] at hx
      rw [old c 15 q (by omega), old c 16 q (by omega), old c 17 q (by omega), old c 18 q (by omega)]
      exact g.geo.fxd q hx
    · rw [q, N14] at hx
      omega
end GDC
