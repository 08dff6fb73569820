/-! GOOD: block, fence, fix -/
section GDB
variable {b u v : Nat → Nat → Int}
theorem loS_sp : ∀ (m i : Nat) (v : Nat → Nat → Int) (c : Nat), (loS m i v 17 c = -1 ∧ loS m i v 18 c = -1 ∧ v 14 c = 0) ∨ (loS m i v 17 c = v 17 c ∧ loS m i v 18 c = v 18 c ∧ (i ≤ c → c < i + m → lpB v c = true → gfB v c (v 17 c) (v 18 c) = true))
  | 0, i, v, c => Or.inr ⟨rfl, rfl, fun _ _ => by omega⟩
  | m + 1, i, v, c => by
    rw [loS]
    by_cases e : lpB v i = true ∧ gfB v i (v 17 i) (v 18 i) = false
    · rw [if_pos e]
      have v14 : v 14 i = 0 := by
        have := e.1
        unfold lpB at this
        simp only [Bool.and_eq_true, decide_eq_true_eq] at this
        exact this.1
      rcases loS_sp m (i + 1) (lsV v i) c with q | q
      · rw [lsV_o (by omega)] at q
        exact Or.inl q
      · by_cases d : c = i
        · left
          rw [lsV_17, lsV_18, if_pos d, if_pos d] at q
          rw [d] at q ⊢
          exact ⟨q.1, q.2.1, v14⟩
        · right
          have e17 : lsV v i 17 c = v 17 c := by rw [lsV_17, if_neg d]
          have e18 : lsV v i 18 c = v 18 c := by rw [lsV_18, if_neg d]
          have el : lpB (lsV v i) c = lpB v c := by unfold lpB; rw [e17, lsV_o (by omega)]
          rw [e17, e18, el, gfB_cg (fun j h1 h2 => lsV_o ⟨h1, h2⟩)] at q
          exact ⟨q.1, q.2.1, fun h1 h2 => q.2.2 (by omega) (by omega)⟩
    · rw [if_neg e]
      rcases loS_sp m (i + 1) v c with q | q
      · exact Or.inl q
      · right
        refine ⟨q.1, q.2.1, fun h1 h2 hl => ?_⟩
        by_cases d : c = i
        · rw [d] at hl ⊢
          by_cases z : gfB v i (v 17 i) (v 18 i) = true
          · exact z
          · exact absurd ⟨hl, by simpa using z⟩ e
        · exact q.2.2 (by omega) (by omega) hl
theorem loS_rg : ∀ (m i : Nat) (v : Nat → Nat → Int), RGv v → RGv (loS m i v)
  | 0, _, _, w => w
  | m + 1, i, v, w => by
    rw [loS]
    refine loS_rg m (i + 1) _ ?_
    split
    · exact lsV_rg w i
    · exact w
/-- those that have no ground now lose their spots -/
theorem los_gd (w : RGv b) (n2 : N2v b) (nd : NDv b) (nt : NTv b) (g0 : GEO0 b) (ds : DIS b) (h1 : ∀ c : Nat, (c : Int) < b 11 0 → b 15 c ≤ 16 * (b 0 1 - b 12 c) ∧ b 16 c ≤ 16 * (b 0 0 - 1)) (hn : ∀ c : Nat, (c : Int) < b 11 0 → b 17 c = -1 → b 18 c = -1) (hx : ∀ c : Nat, (c : Int) < b 11 0 → b 14 c = 1 → (b 17 c ≠ -1 ∧ b 15 c = 16 * b 18 c ∧ b 16 c = 16 * b 17 c) ∧ gfB b c (b 17 c) (b 18 c) = true) : Gd (loS (b 11 0).toNat 0 b) := by
  have nC := w.nC
  have s : SJ (loS (b 11 0).toNat 0 b) b := fun j h1 h2 => loS_o ⟨h1, h2⟩ _ _ _
  have H := fun c => loS_sp (b 11 0).toNat 0 b c
  have rg := loS_rg (b 11 0).toNat 0 b w
  obtain ⟨u, hu⟩ : ∃ u, u = loS (b 11 0).toNat 0 b := ⟨_, rfl⟩
  rw [← hu] at s H rg ⊢
  have s11 := s 11 (by decide) (by decide)
  have s12 := s 12 (by decide) (by decide)
  have s14 := s 14 (by decide) (by decide)
  have s15 := s 15 (by decide) (by decide)
  have s16 := s 16 (by decide) (by decide)
  have s0 := s 0 (by decide) (by decide)
  have s19 := s 19 (by decide) (by decide)
  have s21 := s 21 (by decide) (by decide)
  have s22 := s 22 (by decide) (by decide)
  have s23 := s 23 (by decide) (by decide)
  refine ⟨rg, ?_, s.nd nd, ?_, GEO_mk (GEO0.cg g0 (fun j h1 h2 => s j h1 h2)) (fun c hc => ?_) (fun c hc => ?_) (fun c d hc hd hn hp he => ?_) (fun c hc hx2 => ?_)⟩
  · unfold N2v at n2 ⊢
    rw [s19, s21]
    exact n2
  · unfold NTv at nt ⊢
    rw [s19, s21, s22, s23, s0, s11, s12]
    exact nt
  · rw [s11] at hc
    rw [s15, s16, s0, s12]
    exact h1 c hc
  · rw [s11] at hc
    rcases H c with q | q
    · exact Or.inl ⟨q.1, q.2.1⟩
    · rw [q.1, q.2.1, gfB_sj s]
      by_cases e : b 17 c = -1
      · exact Or.inl ⟨e, hn c hc e⟩
      · right
        rcases w.fix c with f | f
        · exact q.2.2 (by omega) (by omega) (by unfold lpB; rw [decide_eq_true f, decide_eq_false e]; rfl)
        · exact (hx c hc f).2
  · rw [s11] at hc hd
    rw [s12]
    rcases H c with q | q
    · exact absurd q.1 hp
    · rcases H d with q2 | q2
      · rw [q2.1] at he
        exact absurd he.symm hp
      · rw [q.1] at hp he
        rw [q2.1] at he
        rw [q.2.1, q2.2.1]
        exact ds c d hc hd hn hp he
  · rw [s11] at hc
    rw [s14] at hx2
    rw [s15, s16]
    rcases H c with q | q
    · omega
    · rw [q.1, q.2.1]
      exact (hx c hc hx2).1
theorem adB_at {p q r t : Int} {i : Nat} : adB v p q r t 2 i = (if i = (v 1 0).toNat then p else v 2 i) ∧ adB v p q r t 3 i = (if i = (v 1 0).toNat then q else v 3 i) ∧ adB v p q r t 4 i = (if i = (v 1 0).toNat then r else v 4 i) ∧ adB v p q r t 5 i = (if i = (v 1 0).toNat then t else v 5 i) ∧ adB v p q r t 1 0 = v 1 0 + 1 := by
  unfold adB
  refine ⟨?_, ?_, ?_, ?_, ?_⟩ <;> simp [up2_eq]
theorem adF_at {p q r t : Int} {i : Nat} : adF v p q r t 7 i = (if i = (v 6 0).toNat then p else v 7 i) ∧ adF v p q r t 8 i = (if i = (v 6 0).toNat then q else v 8 i) ∧ adF v p q r t 9 i = (if i = (v 6 0).toNat then r else v 9 i) ∧ adF v p q r t 10 i = (if i = (v 6 0).toNat then t else v 10 i) ∧ adF v p q r t 6 0 = v 6 0 + 1 := by
  unfold adF
  refine ⟨?_, ?_, ?_, ?_, ?_⟩ <;> simp [up2_eq]
theorem af_no {lo hi f l : Int} (h : anyB (afB v lo hi f l) (v 11 0).toNat = false) {c : Nat} (hc : (c : Int) < v 11 0) (hx : v 14 c = 1) : ¬ ((lo ≤ v 17 c ∧ v 17 c ≤ hi) ∧ v 18 c ≤ l ∧ f < v 18 c + v 12 c) := by
  have := anyB_f.mp h c (by omega)
  unfold afB laB at this
  intro q
  rw [decide_eq_false (show ¬ v 14 c = 0 by omega), decide_eq_true q.1.1, decide_eq_true q.1.2, decide_eq_true (show v 17 c = v 17 c from rfl), decide_eq_true q.2.1, decide_eq_true q.2.2] at this
  cases this
theorem block_gd {lo hi f l : Int} (g : Gd v) (hb : 0 ≤ lo ∧ lo ≤ hi ∧ hi < v 0 0 ∧ 0 ≤ f ∧ f ≤ l ∧ l < v 0 1) (h4 : v 1 0 ≠ 4) (ha : anyB (afB v lo hi f l) (v 11 0).toNat = false) : Gd (loS (v 11 0).toNat 0 (adB v lo hi f l)) := by
  have nB := g.rg.nB
  have rows := g.rg.rows
  have sites := g.rg.sites
  have o : ∀ j, j ≠ 1 ∧ j ≠ 2 ∧ j ≠ 3 ∧ j ≠ 4 ∧ j ≠ 5 → adB v lo hi f l j = v j := fun j hj => adB_o hj
  have e11 := o 11 (by omega)
  have e12 := o 12 (by omega)
  have e13 := o 13 (by omega)
  have e14 := o 14 (by omega)
  have e15 := o 15 (by omega)
  have e16 := o 16 (by omega)
  have e17 := o 17 (by omega)
  have e18 := o 18 (by omega)
  have e0 := o 0 (by omega)
  have e6 := o 6 (by omega)
  have e19 := o 19 (by omega)
  have e21 := o 21 (by omega)
  have e22 := o 22 (by omega)
  have e23 := o 23 (by omega)
  rw [← e11]
  refine los_gd (adB_rg g.rg (by omega) (by omega) (by omega) (by omega) (by omega)) ?_ ?_ ?_ (adB_g0 g.geo.g0 g.rg (by omega)) (g.geo.ds.cg (fun j hj => o j (by omega))) (fun c hc => ?_) (fun c hc hp => ?_) (fun c hc hx => ?_)
  · have := g.n2
    unfold N2v at this ⊢
    rw [e19, e21]
    exact this
  · have := g.nd
    unfold NDv at this ⊢
    rw [e19, e21, e22]
    exact this
  · have := g.nt
    unfold NTv at this ⊢
    rw [e19, e21, e22, e23, e0, e11, e12]
    exact this
  · rw [e11] at hc
    rw [e15, e16, e0, e12]
    exact ⟨(g.geo.cel hc).2.2.1, (g.geo.cel hc).2.2.2⟩
  · rw [e11] at hc
    rw [e17] at hp
    rw [e18]
    exact g.geo.non hc hp
  · rw [e11] at hc
    rw [e14] at hx
    rw [e15, e16, e17, e18]
    have fx := g.geo.fxd hc hx
    refine ⟨fx, ?_⟩
    have q := gfB_iff.mp (g.geo.gnd hc fx.1)
    have an := af_no ha hc hx
    have cw := (g.geo.cel hc).1
    refine gfB_iff.mpr ⟨?_, fun i hi2 => ?_, ?_⟩
    · rw [e0, e12]
      exact q.1
    · obtain ⟨a1, a2, a3, a4, a5⟩ := adB_at (v := v) (p := lo) (q := hi) (r := f) (t := l) (i := i)
      rw [a5] at hi2
      rw [e12]
      by_cases z : i = (v 1 0).toNat
      · unfold ovV
        rw [a1, show (2 + 1 : Nat) = 3 from rfl, show (2 + 2 : Nat) = 4 from rfl, show (2 + 3 : Nat) = 5 from rfl, a2, a3, a4, if_pos z, if_pos z, if_pos z, if_pos z]
        rw [Bool.eq_false_iff]
        intro k
        simp only [Bool.and_eq_true, decide_eq_true_eq] at k
        exact an ⟨⟨k.1.1.1, k.1.1.2⟩, by omega, by omega⟩
      · have := q.2.1 i (by omega)
        unfold ovV at this ⊢
        rw [a1, show (2 + 1 : Nat) = 3 from rfl, show (2 + 2 : Nat) = 4 from rfl, show (2 + 3 : Nat) = 5 from rfl, a2, a3, a4, if_neg z, if_neg z, if_neg z, if_neg z]
        exact this
    · rw [e13, e6, e12]
      have e7 : ovV (adB v lo hi f l) 7 = ovV v 7 := by
        funext x1 x2 x3 x4 x5
        unfold ovV
        rw [o 7 (by omega), o (7 + 1) (by omega), o (7 + 2) (by omega), o (7 + 3) (by omega)]
      rw [e7]
      exact q.2.2
theorem fence_gd {lo hi f l : Int} (g : Gd v) (hb : 0 ≤ lo ∧ lo ≤ hi ∧ hi < v 0 0 ∧ 0 ≤ f ∧ f ≤ l ∧ l < v 0 1) (h3 : v 6 0 ≠ 3) (h2 : anyB (ovV v 7 lo hi f l) (v 6 0).toNat = false) (ha : anyB (afB v lo hi f l) (v 11 0).toNat = false) : Gd (loS (v 11 0).toNat 0 (adF v lo hi f l)) := by
  have nF := g.rg.nF
  have rows := g.rg.rows
  have sites := g.rg.sites
  have o : ∀ j, j ≠ 6 ∧ j ≠ 7 ∧ j ≠ 8 ∧ j ≠ 9 ∧ j ≠ 10 → adF v lo hi f l j = v j := fun j hj => adF_o hj
  have e11 := o 11 (by omega)
  have e12 := o 12 (by omega)
  have e13 := o 13 (by omega)
  have e14 := o 14 (by omega)
  have e15 := o 15 (by omega)
  have e16 := o 16 (by omega)
  have e17 := o 17 (by omega)
  have e18 := o 18 (by omega)
  have e0 := o 0 (by omega)
  have e1 := o 1 (by omega)
  have e19 := o 19 (by omega)
  have e21 := o 21 (by omega)
  have e22 := o 22 (by omega)
  have e23 := o 23 (by omega)
  rw [← e11]
  refine los_gd (adF_rg g.rg (by omega) (by omega) (by omega) (by omega) (by omega)) ?_ ?_ ?_ (adF_g0 g.geo.g0 g.rg (by omega) h2) (g.geo.ds.cg (fun j hj => o j (by omega))) (fun c hc => ?_) (fun c hc hp => ?_) (fun c hc hx => ?_)
  · have := g.n2
    unfold N2v at this ⊢
    rw [e19, e21]
    exact this
  · have := g.nd
    unfold NDv at this ⊢
    rw [e19, e21, e22]
    exact this
  · have := g.nt
    unfold NTv at this ⊢
    rw [e19, e21, e22, e23, e0, e11, e12]
    exact this
  · rw [e11] at hc
    rw [e15, e16, e0, e12]
    exact ⟨(g.geo.cel hc).2.2.1, (g.geo.cel hc).2.2.2⟩
  · rw [e11] at hc
    rw [e17] at hp
    rw [e18]
    exact g.geo.non hc hp
  · rw [e11] at hc
    rw [e14] at hx
    rw [e15, e16, e17, e18]
    have fx := g.geo.fxd hc hx
    refine ⟨fx, ?_⟩
    have q := gfB_iff.mp (g.geo.gnd hc fx.1)
    have an := af_no ha hc hx
    have cw := (g.geo.cel hc).1
    have cf := (g.geo.cel hc).2.1
    have wf := g.rg.fen c
    refine gfB_iff.mpr ⟨?_, fun i hi2 => ?_, ?_⟩
    · rw [e0, e12]
      exact q.1
    · rw [e1] at hi2
      rw [e12]
      have e7 : ovV (adF v lo hi f l) 2 = ovV v 2 := by
        funext x1 x2 x3 x4 x5
        unfold ovV
        rw [o 2 (by omega), o (2 + 1) (by omega), o (2 + 2) (by omega), o (2 + 3) (by omega)]
      rw [e7]
      exact q.2.1 i hi2
    · rw [e13, e12]
      by_cases z0 : v 13 c = -1
      · have q3 := q.2.2
        rw [if_pos z0] at q3 ⊢
        intro i hi2
        obtain ⟨a1, a2, a3, a4, a5⟩ := adF_at (v := v) (p := lo) (q := hi) (r := f) (t := l) (i := i)
        rw [a5] at hi2
        by_cases z : i = (v 6 0).toNat
        · unfold ovV
          rw [a1, show (7 + 1 : Nat) = 8 from rfl, show (7 + 2 : Nat) = 9 from rfl, show (7 + 3 : Nat) = 10 from rfl, a2, a3, a4, if_pos z, if_pos z, if_pos z, if_pos z]
          rw [Bool.eq_false_iff]
          intro k
          simp only [Bool.and_eq_true, decide_eq_true_eq] at k
          exact an ⟨⟨k.1.1.1, k.1.1.2⟩, by omega, by omega⟩
        · have := q3 i (by omega)
          unfold ovV at this ⊢
          rw [a1, show (7 + 1 : Nat) = 8 from rfl, show (7 + 2 : Nat) = 9 from rfl, show (7 + 3 : Nat) = 10 from rfl, a2, a3, a4, if_neg z, if_neg z, if_neg z, if_neg z]
          exact this
      · have q3 := q.2.2
        rw [if_neg z0] at q3 ⊢
        obtain ⟨a1, a2, a3, a4, a5⟩ := adF_at (v := v) (p := lo) (q := hi) (r := f) (t := l) (i := (v 13 c).toNat)
        have z : ¬ (v 13 c).toNat = (v 6 0).toNat := by omega
        unfold ovV at q3 ⊢
        rw [a1, show (7 + 1 : Nat) = 8 from rfl, show (7 + 2 : Nat) = 9 from rfl, show (7 + 3 : Nat) = 10 from rfl, a2, a3, a4, if_neg z, if_neg z, if_neg z, if_neg z]
        exact q3
end GDB
