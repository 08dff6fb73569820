/-! GOOD: net, drop -/
section GDM
variable {u v : Nat → Nat → Int}
theorem GEO_19 (g : GEO v) (e : ∀ j, j < 19 → u j = v j) : GEO u := by
  have s : ∀ c r s, gfB u c r s = gfB v c r s := fun c r st => by
    unfold gfB icB ovV
    rw [e 0 (by decide), e 1 (by decide), e 6 (by decide), e 12 (by decide), e 13 (by decide), e 2 (by decide), e (2 + 1) (by decide), e (2 + 2) (by decide), e (2 + 3) (by decide), e 7 (by decide), e (7 + 1) (by decide), e (7 + 2) (by decide), e (7 + 3) (by decide)]
  unfold GEO at g ⊢
  rw [e 0 (by decide), e 1 (by decide), e 2 (by decide), e 3 (by decide), e 4 (by decide), e 5 (by decide), e 6 (by decide), e 7 (by decide), e 8 (by decide), e 9 (by decide), e 10 (by decide), e 11 (by decide), e 12 (by decide), e 13 (by decide), e 14 (by decide), e 15 (by decide), e 16 (by decide), e 17 (by decide), e 18 (by decide)]
  refine ⟨g.1, g.2.1, fun c hc q => ?_, g.2.2.2⟩
  rw [s]
  exact g.2.2.1 c hc q
theorem pnW_at {n : Nat} {T : Nat → Int} : ∀ (m k : Nat) (v : Nat → Nat → Int) (i : Nat), pnW n T m k v 22 i = (if n * 6 + k ≤ i ∧ i < n * 6 + k + m then T (2 * (i - n * 6)) else v 22 i) ∧ pnW n T m k v 23 i = (if n * 6 + k ≤ i ∧ i < n * 6 + k + m then T (2 * (i - n * 6) + 1) else v 23 i)
  | 0, k, v, i => by
    rw [pnW, if_neg (by omega), if_neg (by omega)]
    exact ⟨rfl, rfl⟩
  | m + 1, k, v, i => by
    have ih := pnW_at (n := n) (T := T) m (k + 1) (up2 (up2 v 22 (n * 6 + k) (T (2 * k))) 23 (n * 6 + k) (T (2 * k + 1))) i
    rw [pnW, ih.1, ih.2, up2_oth (by decide), up2_same, up2_same, up2_oth (by decide)]
    by_cases e : i = n * 6 + k
    · have c1 : ¬ (n * 6 + (k + 1) ≤ i ∧ i < n * 6 + (k + 1) + m) := by omega
      have c2 : n * 6 + k ≤ i ∧ i < n * 6 + k + (m + 1) := by omega
      rw [if_neg c1, if_neg c1, if_pos e, if_pos e, if_pos c2, if_pos c2, show i - n * 6 = k by omega]
      exact ⟨rfl, rfl⟩
    · rw [if_neg e, if_neg e]
      by_cases e2 : n * 6 + (k + 1) ≤ i ∧ i < n * 6 + (k + 1) + m
      · rw [if_pos e2, if_pos e2, if_pos (by omega), if_pos (by omega)]
        exact ⟨rfl, rfl⟩
      · rw [if_neg e2, if_neg e2, if_neg (by omega), if_neg (by omega)]
        exact ⟨rfl, rfl⟩
theorem pnW_rg {n : Nat} {T : Nat → Int} : ∀ (m k : Nat) (v : Nat → Nat → Int), RGv v → (∀ i, k ≤ i → i < k + m → (0 ≤ T (2 * i) ∧ T (2 * i) ≤ 207) ∧ (0 ≤ T (2 * i + 1) ∧ T (2 * i + 1) ≤ 31)) → RGv (pnW n T m k v)
  | 0, _, _, w, _ => w
  | m + 1, k, v, w, h => by
    have q := h k (by omega) (by omega)
    rw [pnW]
    exact pnW_rg m (k + 1) _ ((w.u (by unfold rgP; omega)).u (by unfold rgP; omega)) (fun i h1 h2 => h i (by omega) (by omega))
theorem pin_ok {T : Nat → Int} {k : Nat} (g : Gd v) (tb : TPb T) (h : pnK v T k = true) : ((0 ≤ T (2 * k) ∧ T (2 * k) ≤ 207) ∧ (0 ≤ T (2 * k + 1) ∧ T (2 * k + 1) ≤ 31)) ∧ (200 ≤ T (2 * k) → T (2 * k) - 200 < v 0 0 ∧ T (2 * k + 1) < v 0 1) ∧ (T (2 * k) < 200 → T (2 * k) < v 11 0 ∧ T (2 * k + 1) < v 12 (T (2 * k)).toNat) ∧ ∀ j, j < k → T (2 * k) < 200 → T (2 * j) ≠ T (2 * k) := by
  have rows := g.rg.rows
  have sites := g.rg.sites
  have t1 := tb (2 * k)
  have t2 := tb (2 * k + 1)
  have wd := g.rg.wid (T (2 * k)).toNat
  unfold pnK at h
  rw [Bool.and_eq_true, Bool.not_eq_true', srch_f0] at h
  obtain ⟨h1, h2⟩ := h
  have h3 : ∀ j, j < k → T (2 * k) < 200 → T (2 * j) ≠ T (2 * k) := fun j hj hl e => by
    have := h2 j hj
    unfold pnD at this
    rw [decide_eq_true hl, decide_eq_true e] at this
    cases this
  unfold pnB at h1
  by_cases e : 200 ≤ T (2 * k)
  · rw [if_pos e] at h1
    simp only [Bool.and_eq_true, decide_eq_true_eq] at h1
    exact ⟨by omega, fun _ => by omega, fun _ => by omega, h3⟩
  · rw [if_neg e] at h1
    simp only [Bool.and_eq_true, decide_eq_true_eq] at h1
    exact ⟨by omega, fun _ => by omega, fun _ => by omega, h3⟩
theorem net_gd {w n : Int} {T : Nat → Int} (g : Gd v) (tb : TPb T) (w1 : 1 ≤ w ∧ w ≤ 9) (h16 : v 19 0 ≠ 16) (h : ntB v T n = true) : Gd (adN v w T (n / 2)) := by
  have nN := g.rg.nN
  unfold ntB at h
  rw [Bool.and_eq_true, Bool.and_eq_true, Bool.and_eq_true, Bool.not_eq_true', srch_f0, decide_eq_true_eq, decide_eq_true_eq, decide_eq_true_eq] at h
  obtain ⟨⟨h1, h2, h3⟩, h4⟩ := h
  obtain ⟨p, hp⟩ : ∃ p : Nat, n / 2 = p := ⟨(n / 2).toNat, by omega⟩
  rw [hp, Int.toNat_natCast] at h4
  have p2 : 2 ≤ p ∧ p ≤ 6 := by omega
  have pk : ∀ k, k < p → pnK v T k = true := fun k hk => by
    have := h4 k hk
    simpa using this
  have po := fun k hk => pin_ok (k := k) g tb (pk k hk)
  obtain ⟨N, hN⟩ : ∃ N : Nat, v 19 0 = N := ⟨(v 19 0).toNat, by omega⟩
  rw [hp]
  obtain ⟨u, hu⟩ : ∃ u, u = adN v w T p := ⟨_, rfl⟩
  rw [← hu]
  have u0 : u = up2 (pnW N T p 0 (up2 (up2 v 20 N w) 21 N p)) 19 0 ((N : Int) + 1) := by
    rw [hu]
    unfold adN
    rw [hN, Int.toNat_natCast, Int.toNat_natCast]
  have low : ∀ j, j < 19 → u j = v j := fun j hj => by
    rw [u0, up2_of (by omega), pnW_o (by omega), up2_of (by omega), up2_of (by omega)]
  have u19 : u 19 0 = (N : Int) + 1 := by rw [u0, up2_self]
  have u21 : ∀ i, u 21 i = if i = N then (p : Int) else v 21 i := fun i => by
    rw [u0, up2_oth (by decide), pnW_o (by omega), up2_same, up2_oth (by decide)]
  have u22 : ∀ i, u 22 i = if N * 6 ≤ i ∧ i < N * 6 + p then T (2 * (i - N * 6)) else v 22 i := fun i => by
    rw [u0, up2_oth (by decide), (pnW_at p 0 _ i).1, up2_oth (by decide), up2_oth (by decide), Nat.add_zero]
  have u23 : ∀ i, u 23 i = if N * 6 ≤ i ∧ i < N * 6 + p then T (2 * (i - N * 6) + 1) else v 23 i := fun i => by
    rw [u0, up2_oth (by decide), (pnW_at p 0 _ i).2, up2_oth (by decide), up2_oth (by decide), Nat.add_zero]
  have pw := g.rg.pin
  have e0 := low 0 (by omega)
  have e11 := low 11 (by omega)
  have e12 := low 12 (by omega)
  have rg : RGv u := by
    rw [u0]
    exact (pnW_rg p 0 _ ((g.rg.u (by unfold rgP; omega)).u (by unfold rgP; omega)) (fun i _ hi => (po i (by omega)).1)).u (by unfold rgP; omega)
  refine ⟨rg, fun m hm => ?_, fun m k l hm hkl hl hh => ?_, fun m k hm hk => ?_, GEO_19 g.geo low⟩
  · rw [u19] at hm
    rw [u21]
    by_cases e : m = N
    · rw [if_pos e]
      omega
    · rw [if_neg e]
      exact g.n2 m (by omega)
  · rw [u19] at hm
    rw [u21] at hl
    rw [u22] at hh ⊢
    rw [u22]
    by_cases e : m = N
    · rw [if_pos e] at hl
      rw [e] at hh ⊢
      rw [if_pos (by omega), show N * 6 + k - N * 6 = k by omega] at hh
      rw [if_pos (by omega), if_pos (by omega), show N * 6 + k - N * 6 = k by omega, show N * 6 + l - N * 6 = l by omega]
      intro z
      exact (po l (by omega)).2.2.2 k hkl (by omega) z.symm
    · rw [if_neg e] at hl
      have := pw m
      rw [if_neg (by omega)] at hh
      rw [if_neg (by omega), if_neg (by omega)]
      exact g.nd m k l (by omega) hkl hl hh
  · rw [u19] at hm
    rw [u21] at hk
    rw [u22, u23, e0, e11, e12]
    by_cases e : m = N
    · rw [if_pos e] at hk
      rw [e, if_pos (by omega), if_pos (by omega), show N * 6 + k - N * 6 = k by omega]
      exact ⟨(po k (by omega)).2.1, (po k (by omega)).2.2.1⟩
    · rw [if_neg e] at hk
      have := pw m
      rw [if_neg (by omega), if_neg (by omega)]
      exact g.nt m k (by omega) hk
theorem drop_gd {n : Nat} (g : Gd v) (hn : (n : Int) < v 19 0) : Gd (dpV v n) := by
  have nN := g.rg.nN
  obtain ⟨N, hN⟩ : ∃ N : Nat, v 19 0 = N := ⟨(v 19 0).toNat, by omega⟩
  have low : ∀ j, j < 19 → dpV v n j = v j := fun j hj => by
    funext i
    unfold dpV
    rw [if_neg (by omega), if_neg (by omega), if_neg (by omega)]
  have u19 : dpV v n 19 0 = (N : Int) - 1 := by
    unfold dpV
    rw [if_neg (by omega), if_neg (by omega), if_pos ⟨rfl, rfl⟩, hN]
  have uA : ∀ j i, j = 20 ∨ j = 21 → dpV v n j i = if n ≤ i ∧ i < N - 1 then v j (i + 1) else v j i := fun j i hj => by
    unfold dpV shf
    rw [if_pos hj, hN, Int.toNat_natCast]
  have uB : ∀ j i, j = 22 ∨ j = 23 → dpV v n j i = if n * 6 ≤ i ∧ i < (N - 1) * 6 then v j (i + 6) else v j i := fun j i hj => by
    unfold dpV shf
    rw [if_neg (by omega), if_pos hj, hN, Int.toNat_natCast]
  have e0 := low 0 (by omega)
  have e11 := low 11 (by omega)
  have e12 := low 12 (by omega)
  have pw := g.rg.pin
  /- each net that is left is one of those that were -/
  have old : ∀ m : Nat, (m : Int) < (N : Int) - 1 → ∃ q : Nat, (q : Int) < v 19 0 ∧ dpV v n 21 m = v 21 q ∧ ∀ k : Nat, k < 6 → dpV v n 22 (m * 6 + k) = v 22 (q * 6 + k) ∧ dpV v n 23 (m * 6 + k) = v 23 (q * 6 + k) := fun m hm => by
    by_cases e : n ≤ m
    · refine ⟨m + 1, by omega, by rw [uA 21 m (by omega), if_pos (by omega)], fun k hk => ?_⟩
      rw [uB 22 _ (by omega), uB 23 _ (by omega), if_pos (by omega), if_pos (by omega), show m * 6 + k + 6 = (m + 1) * 6 + k by omega]
      exact ⟨rfl, rfl⟩
    · refine ⟨m, by omega, by rw [uA 21 m (by omega), if_neg (by omega)], fun k hk => ?_⟩
      rw [uB 22 _ (by omega), uB 23 _ (by omega), if_neg (by omega), if_neg (by omega)]
      exact ⟨rfl, rfl⟩
  refine ⟨?_, fun m hm => ?_, fun m k l hm hkl hl hh => ?_, fun m k hm hk => ?_, GEO_19 g.geo low⟩
  · have w := g.rg
    unfold RGv at w ⊢
    rw [low 12 (by omega), low 13 (by omega), low 14 (by omega), low 15 (by omega), low 16 (by omega), low 17 (by omega), low 18 (by omega), low 1 (by omega), low 6 (by omega), low 11 (by omega), low 0 (by omega), u19]
    refine ⟨w.1, ⟨fun i => ?_, fun i => ?_, fun i => ?_, fun i => ?_⟩, w.2.2.1, w.2.2.2.1, w.2.2.2.2.1, by omega, w.2.2.2.2.2.2.1, w.2.2.2.2.2.2.2.1, fun j i hj => ?_⟩
    · rw [uA 20 i (by omega)]
      split
      · exact w.2.1.1 _
      · exact w.2.1.1 _
    · rw [uA 21 i (by omega)]
      split
      · exact w.2.1.2.1 _
      · exact w.2.1.2.1 _
    · rw [uB 22 i (by omega)]
      split
      · exact w.2.1.2.2.1 _
      · exact w.2.1.2.2.1 _
    · rw [uB 23 i (by omega)]
      split
      · exact w.2.1.2.2.2 _
      · exact w.2.1.2.2.2 _
    · rw [low j (by omega)]
      exact w.2.2.2.2.2.2.2.2 j i hj
  · rw [u19] at hm
    obtain ⟨q, q1, q2, q3⟩ := old m hm
    rw [q2]
    exact g.n2 q q1
  · rw [u19] at hm
    obtain ⟨q, q1, q2, q3⟩ := old m hm
    have := pw q
    rw [q2] at hl
    rw [(q3 k (by omega)).1] at hh ⊢
    rw [(q3 l (by omega)).1]
    exact g.nd q k l q1 hkl hl hh
  · rw [u19] at hm
    obtain ⟨q, q1, q2, q3⟩ := old m hm
    have := pw q
    rw [q2] at hk
    rw [(q3 k (by omega)).1, (q3 k (by omega)).2, e0, e11, e12]
    exact g.nt q k q1 hk
end GDM
