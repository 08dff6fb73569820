/-! PACKING: what is changed by it -/
section PAG
variable {v : Nat → Nat → Int}
def AGP (P : Nat → Prop) (u u2 : Nat → Nat → Int) : Prop := ∀ j d, (j ≠ 17 ∧ j ≠ 18) ∨ ¬ P d → u j d = u2 j d
theorem AGP.gv {P : Nat → Prop} {u u2 : Nat → Nat → Int} (h : AGP P u u2) (c : Nat) (r s : Int) : AGP (fun d => P d ∧ d ≠ c) (gvP u c r s) (gvP u2 c r s) := by
  intro j d q
  unfold gvP
  simp only [up2_eq]
  by_cases e1 : j = 18 ∧ d = c
  · rw [if_pos e1, if_pos e1]
  · rw [if_neg e1, if_neg e1]
    by_cases e2 : j = 17 ∧ d = c
    · rw [if_pos e2, if_pos e2]
    · rw [if_neg e2, if_neg e2]
      refine h j d ?_
      by_cases e3 : j ≠ 17 ∧ j ≠ 18
      · exact Or.inl e3
      · right
        intro pd
        rcases q with q | q
        · exact e3 q
        · exact q ⟨pd, fun e => by omega⟩
theorem AGP.mono {P P2 : Nat → Prop} {u u2 : Nat → Nat → Int} (h : AGP P u u2) (i : ∀ d, P d → P2 d) : AGP P2 u u2 := fun j d q => h j d (q.elim Or.inl (fun n => Or.inr (fun p => n (i d p))))
theorem plR_ag {r a n : Nat} : ∀ (M : List Nat) (s : Nat) (P : Nat → Prop) (u u2 : Nat → Nat → Int), AGP P u u2 → AGP (fun d => P d ∧ d ∉ M) (plR v r a n M s u) (plR v r a n M s u2)
  | [], s, P, u, u2, h => by
    rw [plR, plR]
    exact h.mono (fun d p => ⟨p, by simp⟩)
  | c :: M, s, P, u, u2, h => by
    rw [plR, plR]
    refine (plR_ag M _ _ _ _ (h.gv c r _)).mono (fun d p => ⟨p.1.1, fun q => ?_⟩)
    rcases List.mem_cons.mp q with q | q
    · exact p.1.2 q
    · exact p.2 q
theorem plA_ag {go : List (Nat × Nat)} : ∀ (L : List Rn) (k : Nat) (P : Nat → Prop) (u u2 : Nat → Nat → Int), AGP P u u2 → AGP (fun d => P d ∧ ∀ i, i < L.length → d ∉ smK go (k + i)) (plA v go L k u) (plA v go L k u2)
  | [], k, P, u, u2, h => by
    rw [plA, plA]
    exact h.mono (fun d p => ⟨p, fun i hi => by simp at hi⟩)
  | x :: L, k, P, u, u2, h => by
    rw [plA, plA]
    refine (plA_ag L (k + 1) _ _ _ (plR_ag (smK go k) 0 P u u2 h)).mono (fun d p => ⟨p.1.1, fun i hi => ?_⟩)
    cases i with
    | zero => exact p.1.2
    | succ i =>
      rw [List.length_cons] at hi
      have := p.2 i (by omega)
      rw [show k + 1 + i = k + (i + 1) by omega] at this
      exact this
theorem plR_o {r a n d j : Nat} : ∀ (M : List Nat) (s : Nat) (u : Nat → Nat → Int), d ∉ M → plR v r a n M s u j d = u j d
  | [], s, u, _ => rfl
  | c :: M, s, u, h => by
    rw [plR, plR_o M _ _ (fun q => h (by simp [q]))]
    unfold gvP
    have : d ≠ c := fun q => h (by simp [q])
    rw [up2_eq, if_neg (fun q => this q.2), up2_eq, if_neg (fun q => this q.2)]
theorem plA_o {go : List (Nat × Nat)} {d j : Nat} (hd : ∀ x, x ∈ go → x.1 ≠ d) : ∀ (L : List Rn) (k : Nat) (u : Nat → Nat → Int), plA v go L k u j d = u j d
  | [], k, u => rfl
  | x :: L, k, u => by
    rw [plA, plA_o hd L, plR_o _ _ _ (fun q => hd _ (smK_mem q) rfl)]
theorem smK_in {go : List (Nat × Nat)} {x : Nat × Nat} (h : x ∈ go) : x.1 ∈ smK go x.2 := by
  unfold smK
  exact List.mem_map.mpr ⟨x, List.mem_filter.mpr ⟨h, by simp⟩, rfl⟩
theorem asg_ok {tl : Int} : ∀ (rest : List Nat) (go go2 : List (Nat × Nat)), asg v tl rest go = some go2 → (∀ x, x ∈ go → x.2 < (rnL v).length) → FT v go → go2.map (fun x => x.1) = go.map (fun x => x.1) ++ rest ∧ (∀ x, x ∈ go2 → x.2 < (rnL v).length) ∧ FT v go2
  | [], go, go2, e, h, ft => by
    rw [asg] at e
    cases e
    exact ⟨by simp, h, ft⟩
  | c :: rest, go, go2, e, h, ft => by
    rw [asg] at e
    by_cases ch : chR v tl go c = -1
    · rw [if_pos ch] at e
      cases e
    · rw [if_neg ch] at e
      obtain ⟨k, x, hk, hx, xf, xs⟩ := chR_in ch
      rw [hk, Int.toNat_natCast] at e
      have ih := asg_ok rest (go ++ [(c, k)]) go2 e (fun y hy => by
        rcases List.mem_append.mp hy with q | q
        · exact h y q
        · simp at q
          rw [q]
          rcases Nat.lt_or_ge k (rnL v).length with d | d
          · exact d
          · rw [List.getElem?_eq_none d] at hx
            cases hx) (ft.snoc hx xs)
      refine ⟨?_, ih.2⟩
      rw [ih.1]
      simp
/-- it does not matter whether their spots were lost before -/
theorem plA_ls {tl : Int} {go : List (Nat × Nat)} {q : List Nat} {u : Nat → Nat → Int} (e : asg v tl q [] = some go) (h : AGP (fun d => d ∈ q) u v) : plA v go (rnL v) 0 u = plA v go (rnL v) 0 v := by
  obtain ⟨a1, a2, _⟩ := asg_ok q [] go e (fun x hx => by simp at hx) (fun k x hx => by show (0 : Int) ≤ _; omega)
  have ag := plA_ag (v := v) (go := go) (rnL v) 0 _ u v h
  funext j d
  refine ag j d (Or.inr (fun p => ?_))
  have : d ∈ go.map (fun x => x.1) := by rw [a1]; simpa using p.1
  obtain ⟨x, hx, rfl⟩ := List.mem_map.mp this
  have := p.2 x.2 (a2 x hx)
  rw [Nat.zero_add] at this
  exact this (smK_in hx)
theorem ls_ag {u : Nat → Nat → Int} {P : Nat → Prop} (h : AGP P u v) (c : Nat) : AGP (fun d => P d ∨ d = c) (lsV u c) v := by
  intro j d q
  by_cases e3 : j ≠ 17 ∧ j ≠ 18
  · rw [lsV_o e3]
    exact h j d (Or.inl e3)
  · rcases q with q | q
    · exact absurd q e3
    · have dc : d ≠ c := fun z => q (Or.inr z)
      unfold lsV
      rw [up2_eq, if_neg (fun z => dc z.2), up2_eq, if_neg (fun z => dc z.2)]
      exact h j d (Or.inr (fun z => q (Or.inl z)))
def FX (u : Nat → Nat → Int) : Prop := ∀ c : Nat, (c : Int) < u 11 0 → u 14 c = 1 → u 15 c = 16 * u 18 c ∧ u 16 c = 16 * u 17 c
theorem mkV_fx {tl : Int} {u : Nat → Nat → Int} (g : GEO v) (sj : SJ u v) (e : mkV v tl = some u) : FX u := by
  unfold mkV at e
  generalize ha : asg v tl (ordQ v (v 11 0).toNat) [] = o at e
  cases o with
  | none => cases e
  | some go =>
    dsimp only at e
    have eu : plA v go (rnL v) 0 v = u := Option.some.inj e
    obtain ⟨a1, a2, _⟩ := asg_ok _ [] go ha (fun x hx => by simp at hx) (fun k x hx => by show (0 : Int) ≤ _; omega)
    intro c hc hx
    rw [sj 14 (by decide) (by decide)] at hx
    rw [sj 11 (by decide) (by decide)] at hc
    have ne : ∀ x, x ∈ go → x.1 ≠ c := fun x hx2 ec => by
      have : x.1 ∈ ordQ v (v 11 0).toNat := by
        have : x.1 ∈ go.map (fun x => x.1) := List.mem_map.mpr ⟨x, hx2, rfl⟩
        rw [a1] at this
        simpa using this
      have := (ordQ_mem _).mp this
      rw [ec] at this
      omega
    rw [sj 15 (by decide) (by decide), sj 16 (by decide) (by decide), ← eu, plA_o ne, plA_o ne]
    exact (g.fxd hc hx).2
end PAG
theorem fdS_mn {v : Nat → Nat → Int} {a n c : Nat} {T : Nat → Int} {goal : Int} : ∀ (m s t : Nat), s ≤ t → t < fdS v a n c T goal m s → ¬ ((t : Int) + v 12 c ≤ n ∧ cAt v c (a + t) + T (t + (v 12 c).toNat) = goal)
  | 0, s, t, h1, h2 => by
    rw [fdS] at h2
    omega
  | m + 1, s, t, h1, h2 => by
    rw [fdS] at h2
    by_cases e : (s : Int) + v 12 c ≤ n ∧ cAt v c (a + s) + T (s + (v 12 c).toNat) = goal
    · rw [if_pos e] at h2
      omega
    · rw [if_neg e] at h2
      by_cases d : t = s
      · rw [d]; exact e
      · exact fdS_mn m (s + 1) t (by omega) h2
