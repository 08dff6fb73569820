/-! PACKING: where each comes to lie -/
section FDP
variable {v : Nat → Nat → Int} {a n c : Nat}
theorem dn_at {f : Nat → Int} {F : Int} : ∀ k, dn f F n k < F → ∃ j, j < k ∧ f (n - j) = dn f F n k
  | 0, h => by rw [dn] at h; omega
  | k + 1, h => by
    rw [dn] at h ⊢
    by_cases e : f (n - k) ≤ dn f F n k
    · exact ⟨k, by omega, by omega⟩
    · obtain ⟨j, h1, h2⟩ := dn_at (f := f) (F := F) k (by omega)
      exact ⟨j, by omega, by omega⟩
theorem fdS_ok {T : Nat → Int} {goal : Int} : ∀ (m s t : Nat), s ≤ t → t ≤ s + m → (t : Int) + v 12 c ≤ n → cAt v c (a + t) + T (t + (v 12 c).toNat) = goal → s ≤ fdS v a n c T goal m s ∧ (fdS v a n c T goal m s : Int) + v 12 c ≤ n ∧ cAt v c (a + fdS v a n c T goal m s) + T (fdS v a n c T goal m s + (v 12 c).toNat) = goal
  | 0, s, t, h1, h2, h3, h4 => by
    rw [fdS, show s = t by omega]
    exact ⟨by omega, h3, h4⟩
  | m + 1, s, t, h1, h2, h3, h4 => by
    rw [fdS]
    by_cases e : (s : Int) + v 12 c ≤ n ∧ cAt v c (a + s) + T (s + (v 12 c).toNat) = goal
    · rw [if_pos e]
      exact ⟨by omega, e⟩
    · rw [if_neg e]
      have : t ≠ s := fun q => by rw [q] at h3 h4; exact e ⟨h3, h4⟩
      have ih := fdS_ok (T := T) (goal := goal) m (s + 1) t (by omega) (by omega) h3 h4
      exact ⟨by omega, ih.2⟩
theorem fdS_cg {T T2 : Nat → Int} {goal goal2 : Int} (h : ∀ s : Nat, (s : Int) + v 12 c ≤ n → (cAt v c (a + s) + T (s + (v 12 c).toNat) = goal ↔ cAt v c (a + s) + T2 (s + (v 12 c).toNat) = goal2)) : ∀ (m s : Nat), fdS v a n c T goal m s = fdS v a n c T2 goal2 m s
  | 0, s => rfl
  | m + 1, s => by
    rw [fdS, fdS, fdS_cg h m (s + 1)]
    by_cases e : (s : Int) + v 12 c ≤ n
    · simp only [h s e]
    · rw [if_neg (fun q => e q.1), if_neg (fun q => e q.1)]
/-- there is a place that is as good as can be -/
theorem plS_ex (w : RGv v) (an : a + n ≤ 32) {L : List Nat} {s : Nat} {F : Int} (hs : s ≤ n) (h : tb v a n F (c :: L) s < F) : ∃ t : Nat, s ≤ t ∧ (t : Int) + v 12 c ≤ n ∧ cAt v c (a + t) + tb v a n F L (t + (v 12 c).toNat) = tb v a n F (c :: L) s := by
  rw [tb] at h ⊢
  obtain ⟨j, h1, h2⟩ := dn_at _ h
  refine ⟨n - j, by omega, ?_⟩
  rw [← h2]
  rw [← h2] at h
  unfold tbF at h ⊢
  by_cases e : ((n - j : Nat) : Int) + v 12 c ≤ n
  · rw [if_pos e] at h ⊢
    by_cases e2 : tb v a n F L (n - j + (v 12 c).toNat) = F
    · rw [if_pos e2] at h
      omega
    · rw [if_neg e2]
      exact ⟨e, rfl⟩
  · rw [if_neg e] at h
    omega
theorem plS_ok (w : RGv v) (an : a + n ≤ 32) {L : List Nat} {s : Nat} (hs : s ≤ n) (h : tb v a n fRp (c :: L) s < 90000) : s ≤ plS v a n c L s ∧ (plS v a n c L s : Int) + v 12 c ≤ n ∧ tb v a n fRp L (plS v a n c L s + (v 12 c).toNat) < 90000 ∧ (s : Int) + v 12 c ≤ n := by
  have wc := w.wid c
  obtain ⟨t, h1, h2, h3⟩ := plS_ex (c := c) (L := L) w an (F := fRp) hs (by have : fRp = 100000000 := rfl; omega)
  have := fdS_ok (v := v) (a := a) (n := n) (c := c) (T := tb v a n fRp L) (goal := tb v a n fRp (c :: L) s) (n - (v 12 c).toNat - s) s t h1 (by omega) h2 h3
  have cb := cAt_bd w (c := c) (s := a + plS v a n c L s) (by have := this.2.1; unfold plS; omega)
  unfold plS at cb ⊢
  refine ⟨this.1, this.2.1, ?_, by omega⟩
  have := this.2.2
  omega
/-- the same with the other measure -/
theorem plS_C (w : RGv v) (an : a + n ≤ 32) {L : List Nat} {s : Nat} (hl : L.length ≤ 20) (h : tb v a n fRp (c :: L) s < 90000) : fdS v a n c (tb v a n fC L) (tb v a n fC (c :: L) s) (n - (v 12 c).toNat - s) s = plS v a n c L s := by
  unfold plS
  have hF : fC = 268435456 := rfl
  have hG : fRp = 100000000 := rfl
  have r1 := tb_rel (F := fC) (G := fRp) w an (by decide) (by decide) (c :: L) s (by simp; omega)
  have e1 : tb v a n fC (c :: L) s = tb v a n fRp (c :: L) s := by
    rcases r1 with q | q
    · exact q.1
    · omega
  rw [e1]
  refine fdS_cg (fun t ht => ?_) _ _
  have wc := w.wid c
  have cb := cAt_bd w (c := c) (s := a + t) (by omega)
  have r2 := tb_rel (F := fC) (G := fRp) w an (by decide) (by decide) L (t + (v 12 c).toNat) (by omega)
  rcases r2 with q | q
  · rw [q.1]
  · rw [q.1, q.2]
    omega
end FDP
