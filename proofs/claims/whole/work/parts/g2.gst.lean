/-! GOOD: each call keeps the state good -/
def GSt (n : Nat) (s : AS) : Prop := Gd s.1 ∧ TMb s.2.1 ∧ TPb s.2.2.1 ∧ (0 ≤ s.2.2.2.1 ∧ s.2.2.2.1 ≤ 100) ∧ (∀ j, j < 7 → 0 ≤ s.2.2.2.2.1 j ∧ s.2.2.2.2.1 j ≤ n) ∧ s.2.2.2.2.2.2.1 ≤ 12 ∧ ∀ j, j < s.2.2.2.2.2.2.1 → Gd (s.2.2.2.2.2.2.2.1 j)
section GST
variable {n : Nat} {s : AS}
theorem GSt.le (h : GSt n s) : GSt (n + 1) s := ⟨h.1, h.2.1, h.2.2.1, h.2.2.2.1, fun j hj => by have := h.2.2.2.2.1 j hj; omega, h.2.2.2.2.2⟩
theorem GSt.ref (h : GSt n s) {k : Int} (k1 : -6 ≤ k ∧ k ≤ 0) : GSt (n + 1) (refS s k).2 := by
  refine ⟨h.1, h.2.1, h.2.2.1, h.2.2.2.1, fun j hj => ?_, h.2.2.2.2.2⟩
  have := h.2.2.2.2.1 j hj
  have h2 := h.2.2.2.2.1 (-k).toNat (by omega)
  show 0 ≤ up s.2.2.2.2.1 (-k).toNat (s.2.2.2.2.1 (-k).toNat + 1) j ∧ up s.2.2.2.2.1 (-k).toNat (s.2.2.2.2.1 (-k).toNat + 1) j ≤ ((n + 1 : Nat) : Int)
  unfold up
  split <;> omega
theorem kpH_gd {H : Nat × (Nat → Nat → Nat → Int) × (Nat → Int)} {v : Nat → Nat → Int} {k : Int} (h1 : H.1 ≤ 12) (h2 : ∀ j, j < H.1 → Gd (H.2.1 j)) (g : Gd v) : (kpH H v k).1 ≤ 12 ∧ ∀ j, j < (kpH H v k).1 → Gd ((kpH H v k).2.1 j) := by
  unfold kpH
  by_cases e : H.1 = 12
  · rw [if_pos e]
    refine ⟨Nat.le_refl _, fun j hj => ?_⟩
    dsimp only at hj ⊢
    by_cases e2 : j < 11
    · rw [if_pos e2]
      exact h2 (j + 1) (by omega)
    · rw [if_neg e2, if_pos (by omega)]
      exact g
  · rw [if_neg e]
    refine ⟨by dsimp only; omega, fun j hj => ?_⟩
    dsimp only at hj ⊢
    by_cases e2 : j = H.1
    · rw [if_pos e2]
      exact g
    · rw [if_neg e2]
      exact h2 j (by omega)
theorem GSt.act (h : GSt n s) {k a : Int} {p : Nat → Nat → Int} (g : Gd p) : GSt (n + 1) (actS s k a p).2 := by
  have q := kpH_gd (k := k) h.2.2.2.2.2.1 h.2.2.2.2.2.2 h.1
  exact ⟨g, h.le.2.1, h.le.2.2.1, h.le.2.2.2.1, h.le.2.2.2.2.1, q⟩
theorem byR_rg (x sh : Int) : 0 ≤ byR x sh ∧ byR x sh ≤ 255 := byR_bd x sh
theorem up_tp {T : Nat → Int} {j : Nat} {x : Int} (t : TPb T) (h : 0 ≤ x ∧ x ≤ 255) : TPb (up T j x) := by
  intro i
  unfold up
  split
  · exact h
  · exact t i
theorem fd4_tp {p : (Nat → Int) × Int} {x : Int} (t : TPb p.1) : TPb (fd4 p x).1 := up_tp (up_tp (up_tp (up_tp t (byR_rg _ _)) (byR_rg _ _)) (byR_rg _ _)) (byR_rg _ _)
theorem fd20_ok {p : (Nat → Int) × Int} {a b c d e : Int} (t : TPb p.1) : TPb (fd20 p a b c d e).1 ∧ (fd20 p a b c d e).2 = p.2 + 20 := by
  refine ⟨fd4_tp (fd4_tp (fd4_tp (fd4_tp (fd4_tp t)))), ?_⟩
  unfold fd20 fd4
  dsimp only
  omega
theorem gs_terms {w x : Int} (h : GSt n s) : GSt (n + 1) (spTerms s w x).2 := by
  unfold spTerms
  split
  · rename_i q
    have l := h.le
    refine ⟨l.1, fun i hi => ?_, l.2.2⟩
    show tlo i ≤ up s.2.1 w.toNat x i ∧ up s.2.1 w.toNat x i ≤ thi i
    unfold up
    split
    · rename_i e
      rw [e]
      exact q.2
    · exact h.2.1 i hi
  · exact h.ref (by omega)
theorem gs_feed {a b c d e : Int} (h : GSt n s) : GSt (n + 1) (spFeed s a b c d e).2 := by
  unfold spFeed
  have l := h.le
  split
  · exact l
  · have q := fd20_ok (p := (s.2.2.1, s.2.2.2.1)) (a := a) (b := b) (c := c) (d := d) (e := e) h.2.2.1
    have q2 := q.2
    have t := h.2.2.2.1
    refine ⟨l.1, l.2.1, q.1, ?_, l.2.2.2.2⟩
    dsimp only
    rw [q2]
    dsimp only
    omega
theorem gs_end {m : Int} (h : GSt n s) : GSt (n + 1) (spEnd s m).2 := by
  unfold spEnd
  have l := h.le
  have t := h.2.2.2.1
  split
  · exact l
  · exact ⟨l.1, l.2.1, l.2.2.1, by dsimp only; omega, l.2.2.2.2⟩
theorem gs_want {c x y : Int} (h : GSt n s) : GSt (n + 1) (spWant s c x y).2 := by
  unfold spWant
  split
  · exact h.ref (by omega)
  · split
    · exact h.ref (by omega)
    · split
      · exact h.ref (by omega)
      · rename_i q1 q2 q3
        refine h.act (Gd_wt h.1 ?_ ?_ ?_ ?_ ?_)
        · exact Classical.byContradiction (fun z => q3 (Or.inl z))
        · omega
        · omega
        · omega
        · omega
theorem gs_free {c : Int} (h : GSt n s) : GSt (n + 1) (spFree s c).2 := by
  unfold spFree
  split
  · exact h.ref (by omega)
  · split
    · exact h.ref (by omega)
    · exact h.act (free_gd h.1)
theorem lpB_14 {v : Nat → Nat → Int} {c : Nat} (h : lpB v c = true) : v 14 c = 0 := by
  unfold lpB at h
  simp only [Bool.and_eq_true, decide_eq_true_eq] at h
  exact h.1
theorem gs_take {c : Int} (h : GSt n s) : GSt (n + 1) (spTake s c).2 := by
  unfold spTake
  split
  · exact h.ref (by omega)
  · split
    · exact h.ref (by omega)
    · rename_i q1 q2
      exact h.act (take_gd h.1 (lpB_14 (by simpa using q2)))
theorem gs_put {c r st : Int} (h : GSt n s) : GSt (n + 1) (spPut s c r st).2 := by
  unfold spPut
  split
  · exact h.ref (by omega)
  · split
    · exact h.ref (by omega)
    · split
      · exact h.ref (by omega)
      · rename_i q1 q2 q3
        refine h.act (Gd_gv h.1 ?_ ?_ ?_)
        · omega
        · exact Classical.byContradiction (fun z => q3 (Or.inl z))
        · by_cases z : lwB s.1 c.toNat r st = true
          · exact z
          · exact absurd (Or.inr (by simpa using z)) q3
theorem gs_cell {w f : Int} (h : GSt n s) : GSt (n + 1) (spCell s w f).2 := by
  unfold spCell
  split
  · exact h.ref (by omega)
  · split
    · exact h.ref (by omega)
    · split
      · exact h.ref (by omega)
      · rename_i q1 q2 q3
        exact h.act (cell_gd h.1 (Classical.not_not.mp q1) (Classical.not_not.mp q2) q3)
theorem gs_block {lo hi f l ha : Int} (h : GSt n s) : GSt (n + 1) (spBlock s lo hi f l ha).2 := by
  have sites := h.1.rg.sites
  unfold spBlock
  split
  · exact h.ref (by omega)
  · split
    · exact h.ref (by omega)
    · split
      · exact h.ref (by omega)
      · rename_i q1 q2 q3
        have q1 := Classical.not_not.mp q1
        exact h.act (block_gd h.1 (by omega) q3 (by simpa using q2))
theorem gs_fence {lo hi f l : Int} (h : GSt n s) : GSt (n + 1) (spFence s lo hi f l).2 := by
  unfold spFence
  split
  · exact h.ref (by omega)
  · split
    · exact h.ref (by omega)
    · split
      · exact h.ref (by omega)
      · rename_i q1 q2 q3
        refine h.act (fence_gd h.1 (Classical.not_not.mp q1) q3 ?_ ?_)
        · rw [Bool.eq_false_iff]
          exact fun z => q2 (Or.inl z)
        · rw [Bool.eq_false_iff]
          exact fun z => q2 (Or.inr z)
theorem gs_fix {c r st : Int} (h : GSt n s) : GSt (n + 1) (spFix s c r st).2 := by
  unfold spFix
  split
  · exact h.ref (by omega)
  · split
    · exact h.ref (by omega)
    · split
      · exact h.ref (by omega)
      · rename_i q1 q2 q3
        have q4 : (gfB s.1 c.toNat r st && !anyB (afB s.1 r r st (st + s.1 12 c.toNat - 1)) (s.1 11 0).toNat) = true := by
          by_cases z : (gfB s.1 c.toNat r st && !anyB (afB s.1 r r st (st + s.1 12 c.toNat - 1)) (s.1 11 0).toNat) = true
          · exact z
          · exact absurd (Or.inr (by simpa using z)) q3
        rw [Bool.and_eq_true, Bool.not_eq_true'] at q4
        exact h.act (fix_gd h.1 (by omega) (Classical.byContradiction (fun z => q3 (Or.inl z))) q4.1 q4.2)
theorem GSt.tp0 (h : GSt n s) : GSt n (tp0 s) := ⟨h.1, h.2.1, h.2.2.1, ⟨Int.le_refl _, by show (0 : Int) ≤ 100; omega⟩, h.2.2.2.2⟩
theorem gs_net {w : Int} (h : GSt n s) : GSt (n + 1) (spNet s w).2 := by
  unfold spNet
  split
  · exact h.ref (by omega)
  · split
    · exact h.ref (by omega)
    · split
      · exact h.tp0.ref (by omega)
      · rename_i q1 q2 q3
        exact h.tp0.act (net_gd h.1 h.2.2.1 (Classical.not_not.mp q1) q2 (by simpa using q3))
theorem gs_drop {m : Int} (h : GSt n s) : GSt (n + 1) (spDrop s m).2 := by
  unfold spDrop
  split
  · exact h.ref (by omega)
  · rename_i q1
    exact h.act (drop_gd h.1 (by omega))
theorem gs_start {m : Int} (h : GSt n s) : GSt (n + 1) (spStart s m).2 := by
  unfold spStart
  split
  · exact h.ref (by omega)
  · exact h.act (stN_gd _ _ h.1)
theorem gs_spread {m : Int} (h : GSt n s) : GSt (n + 1) (spSpread s m).2 := by
  unfold spSpread
  split
  · exact h.ref (by omega)
  · exact h.act (sdN_gd _ _ _ _ h.1)
theorem gs_legal (h : GSt n s) : GSt (n + 1) (spLegal s).2 := by
  unfold spLegal
  split
  · exact h.ref (by omega)
  · rename_i u e
    exact h.act (mkV_gd h.1 e)
theorem gs_win {k : Int} (h : GSt n s) : GSt (n + 1) (spWin s k).2 := by
  unfold spWin
  split
  · exact h.ref (by omega)
  · rename_i q
    have q := Classical.not_not.mp q
    exact h.act (wnR_gd (by omega) h.1 _ _ (fun x hx => hx) h.1.geo h.1.rg SJ.refl (fun _ _ _ => ⟨rfl, rfl⟩))
theorem gs_swaps (h : GSt n s) : GSt (n + 1) (spSwaps s).2 := h.act (swV_gd h.1)
theorem gs_hops (h : GSt n s) : GSt (n + 1) (spHops s).2 := by
  have nC := h.1.rg.nC
  exact h.act (hpA_gd _ _ _ h.1 (by omega))
theorem gs_sorts (h : GSt n s) : GSt (n + 1) (spSorts s).2 := h.act (srF_gd _ _ _ h.1)
theorem gs_shake {sd m he : Int} (h : GSt n s) : GSt (n + 1) (spShake s sd m he).2 := by
  unfold spShake
  split
  · exact h.ref (by omega)
  · split
    · exact h.ref (by omega)
    · rename_i q1 q2
      exact h.act (shk_gd q2 _ _ _ _ _ _ h.1 rfl h.1)
theorem gs_undo (h : GSt n s) : GSt (n + 1) (spUndo s).2 := by
  unfold spUndo
  split
  · exact h.ref (by omega)
  · rename_i q
    have l := h.le
    refine ⟨h.2.2.2.2.2.2 _ (by omega), l.2.1, l.2.2.1, l.2.2.2.1, l.2.2.2.2.1, ?_, fun j hj => ?_⟩
    · have := h.2.2.2.2.2.1
      show s.2.2.2.2.2.2.1 - 1 ≤ 12
      omega
    · have hj : j < s.2.2.2.2.2.2.1 - 1 := hj
      show Gd (if j < s.2.2.2.2.2.2.1 - 1 then s.2.2.2.2.2.2.2.1 j else fun _ _ => 0)
      rw [if_pos hj]
      exact h.2.2.2.2.2.2 j (by omega)
end GST
