/-! would, best, HOPS -/
def spWould (s : AS) (c r st : Int) : Int := if (0 ≤ c ∧ c < s.1 11 0) ∧ icB s.1 c.toNat r st = true then wir (gvP s.1 c.toNat r st) (s.2.1 4) else -1
def bst (f : Nat → Int) : Nat → Nat → Int × Int × Int → Int × Int × Int
  | 0, _, q => q
  | m + 1, i, q => bst f m (i + 1) (if f i < q.2.2 then (i : Int) else q.1, if f i ≤ q.2.2 then (i : Int) else q.2.1, if f i < q.2.2 then f i else q.2.2)
def bsW (v : Nat → Nat → Int) (t : Int) (c : Nat) : Int × Int × Int := bst (fun s => wir (gvP v c (v 17 c) s) t) (v 0 1 - v 12 c + 1).toNat 0 (-1, -1, 100000000)
def spBest (s : AS) (c w : Int) : Int := if (0 ≤ c ∧ c < s.1 11 0) ∧ ¬ s.1 17 c.toNat = -1 ∧ (0 ≤ w ∧ w ≤ 2) then (if w = 0 then (bsW s.1 (s.2.1 4) c.toNat).1 else if w = 1 then (bsW s.1 (s.2.1 4) c.toNat).2.1 else (bsW s.1 (s.2.1 4) c.toNat).2.2) else -1
def hpI (f : Nat → Int) (ok : Nat → Bool) (r : Nat) : Nat → Nat → Int × Int × Int → Int × Int × Int
  | 0, _, q => q
  | m + 1, i, q => hpI f ok r m (i + 1) (if f i < q.1 ∧ ok i = true then (f i, (r : Int), (i : Int)) else q)
def hpO (f : Nat → Nat → Int) (ok : Nat → Nat → Bool) (S : Nat) : Nat → Nat → Int × Int × Int → Int × Int × Int
  | 0, _, q => q
  | m + 1, r, q => hpO f ok S m (r + 1) (hpI (f r) (ok r) r S 0 q)
def hpQ (v : Nat → Nat → Int) (t : Int) (c : Nat) : Int × Int × Int := hpO (fun r s => wir (gvP v c r s) t) (fun r s => lwB v c r s) (v 0 1).toNat (v 0 0).toNat 0 (wir v t, v 17 c, v 18 c)
def hpV (v : Nat → Nat → Int) (t : Int) (c : Nat) : Nat → Nat → Int := gvP v c (hpQ v t c).2.1 (hpQ v t c).2.2
def hpA (t : Int) : Nat → Nat → (Nat → Nat → Int) → (Nat → Nat → Int)
  | 0, _, v => v
  | m + 1, i, v => hpA t m (i + 1) (if lpB v i = true then hpV v t i else v)
def spHops (s : AS) : Int × AS := actS s 15 (wir s.1 (s.2.1 4) - wir (hpA (s.2.1 4) (s.1 11 0).toNat 0 s.1) (s.2.1 4)) (hpA (s.2.1 4) (s.1 11 0).toNat 0 s.1)
section HPP
variable {v : Nat → Nat → Int} {t K : Int} {c : Nat} {r s : Int}
theorem gv_gv : gvP (gvP v c r s) c (v 17 c) (v 18 c) = v := by
  funext j i
  unfold gvP
  simp only [up2_eq]
  by_cases h1 : j = 18 ∧ i = c
  · simp [h1]
  · by_cases h2 : j = 17 ∧ i = c
    · simp [h2]
    · simp [h1, h2]
theorem gv_2 {r2 s2 : Int} : gvP (gvP v c r s) c r2 s2 = gvP v c r2 s2 := by
  funext j i
  unfold gvP
  simp only [up2_eq]
  by_cases h1 : j = 18 ∧ i = c
  · simp [h1]
  · by_cases h2 : j = 17 ∧ i = c
    · simp [h2]
    · simp [h1, h2]
theorem gv_id : gvP v c (v 17 c) (v 18 c) = v := by
  funext j i
  unfold gvP
  simp only [up2_eq]
  by_cases h1 : j = 18 ∧ i = c
  · simp [h1]
  · by_cases h2 : j = 17 ∧ i = c
    · simp [h2]
    · simp [h1, h2]
theorem gv_o {j : Nat} (hj : j ≠ 17 ∧ j ≠ 18) : gvP v c r s j = v j := by
  unfold gvP
  rw [up2_of (by omega), up2_of (by omega)]
theorem gv_17 {d : Nat} : gvP v c r s 17 d = if d = c then r else v 17 d := by
  unfold gvP
  rw [up2_oth (by omega), up2_same]
theorem gv_18 {d : Nat} : gvP v c r s 18 d = if d = c then s else v 18 d := by
  unfold gvP
  rw [up2_same, up2_oth (by omega)]
theorem lwM_gv {a b : Int} : lwM (gvP v c a b) c r s 0 = lwM v c r s 0 := by
  have e : ∀ k d, ctB (gvP v c a b) r k c 0 d = ctB v r k c 0 d := by
    intro k d
    unfold ctB laB
    rw [gv_17, gv_18, gv_o (j := 12) (by omega), gv_o (j := 14) (by omega)]
    by_cases q : d = c
    · simp [q]
    · simp [q]
  have e2 : ∀ k, ovV (gvP v c a b) 2 r r k k = ovV v 2 r r k k := fun k => by
    funext j
    unfold ovV
    simp only [Nat.reduceAdd]
    rw [gv_o (j := 2) (by omega), gv_o (j := 3) (by omega), gv_o (j := 4) (by omega), gv_o (j := 5) (by omega)]
  have e7 : ∀ k, ovV (gvP v c a b) 7 r r k k = ovV v 7 r r k k := fun k => by
    funext j
    unfold ovV
    simp only [Nat.reduceAdd]
    rw [gv_o (j := 7) (by omega), gv_o (j := 8) (by omega), gv_o (j := 9) (by omega), gv_o (j := 10) (by omega)]
  unfold lwM stB1
  simp only [funext (e _), e2, e7]
  rw [gv_o (j := 0) (by omega), gv_o (j := 1) (by omega), gv_o (j := 6) (by omega), gv_o (j := 11) (by omega), gv_o (j := 12) (by omega), gv_o (j := 13) (by omega)]
theorem GEO_gv (g : GEO v) (w : RGv v) (hc : (c : Int) < v 11 0) (hx : v 14 c = 0) (l : lwB v c r s = true) : GEO (gvP v c r s) := by
  have lr := lwB_rg w l
  have nC := w.nC
  unfold lwB at l
  rw [Bool.and_eq_true, Bool.not_eq_true', anyB_f] at l
  have eo : ∀ j, j ≠ 17 → j ≠ 18 → gvP v c r s j = v j := fun j h1 h2 => gv_o ⟨h1, h2⟩
  have ao : ∀ d : Nat, (d : Int) < v 11 0 → d ≠ c → v 17 d = r → s + v 12 c ≤ v 18 d ∨ v 18 d + v 12 d ≤ s := by
    intro d hd hn hr
    have := l.2 d (by omega)
    unfold aoB laB at this
    rw [Bool.eq_false_iff] at this
    by_cases q : s + v 12 c ≤ v 18 d ∨ v 18 d + v 12 d ≤ s
    · exact q
    · exfalso
      apply this
      simp only [Bool.and_eq_true, Bool.not_eq_true', decide_eq_false_iff_not, decide_eq_true_eq]
      refine ⟨by omega, ⟨hr, by omega⟩, by omega⟩
  obtain ⟨g1, g2, g3, g4, g5, g6, g7, g8⟩ := g
  refine ⟨?_, ?_, ?_, ?_, ?_, ?_, ?_, ?_⟩
  · rw [eo 11 (by omega) (by omega), eo 12 (by omega) (by omega), eo 13 (by omega) (by omega), eo 6 (by omega) (by omega), eo 15 (by omega) (by omega), eo 16 (by omega) (by omega), eo 0 (by omega) (by omega)]
    exact g1
  · rw [eo 11 (by omega) (by omega)]
    intro d hd h
    rw [gv_17] at h
    rw [gv_18]
    by_cases q : d = c
    · rw [if_pos q] at h; omega
    · rw [if_neg q] at h ⊢; exact g2 d hd h
  · rw [eo 11 (by omega) (by omega)]
    intro d hd h
    rw [gfB_cg eo]
    rw [gv_17] at h ⊢
    rw [gv_18]
    by_cases q : d = c
    · rw [if_pos q, if_pos q, q]; exact l.1
    · rw [if_neg q] at h ⊢; rw [if_neg q]; exact g3 d hd h
  · rw [eo 11 (by omega) (by omega), eo 12 (by omega) (by omega)]
    intro d e hd he hn h hh
    rw [gv_17] at h
    rw [gv_17, gv_17] at hh
    rw [gv_18, gv_18]
    by_cases q : d = c
    · rw [if_pos q] at hh ⊢
      rw [if_neg (show ¬ e = c by omega)] at hh ⊢
      rw [q]
      exact ao e he (by omega) hh
    · rw [if_neg q] at hh h ⊢
      by_cases q2 : e = c
      · rw [if_pos q2] at hh ⊢
        rw [q2]
        exact (ao d hd q hh.symm).symm
      · rw [if_neg q2] at hh ⊢
        exact g4 d e hd he hn h hh
  · rw [eo 11 (by omega) (by omega), eo 14 (by omega) (by omega), eo 15 (by omega) (by omega), eo 16 (by omega) (by omega)]
    intro d hd h
    have q : ¬ d = c := fun q => by rw [q, hx] at h; omega
    rw [gv_17, gv_18, if_neg q, if_neg q]
    exact g5 d hd h
  · rw [eo 6 (by omega) (by omega), eo 7 (by omega) (by omega), eo 8 (by omega) (by omega), eo 9 (by omega) (by omega), eo 10 (by omega) (by omega), eo 0 (by omega) (by omega)]
    exact g6
  · rw [eo 6 (by omega) (by omega), eo 7 (by omega) (by omega), eo 8 (by omega) (by omega), eo 9 (by omega) (by omega), eo 10 (by omega) (by omega)]
    exact g7
  · rw [eo 1 (by omega) (by omega), eo 2 (by omega) (by omega), eo 3 (by omega) (by omega), eo 4 (by omega) (by omega), eo 5 (by omega) (by omega), eo 0 (by omega) (by omega)]
    exact g8
theorem Gd_gv (g : Gd v) (hc : (c : Int) < v 11 0) (hx : v 14 c = 0) (l : lwB v c r s = true) : Gd (gvP v c r s) := by
  have lr := lwB_rg g.rg l
  have cw := (g.geo.cel hc).1
  have ws := g.rg.sites
  exact ⟨(g.rg.u (by unfold rgP; omega)).u (by unfold rgP; omega), (g.n2.u (by omega)).u (by omega), (g.nd.u (by omega)).u (by omega), (g.nt.u (by omega)).u (by omega), GEO_gv g.geo g.rg hc hx l⟩
theorem bst_sh {f : Nat → Int} : ∀ (m i : Nat) (a b l : Int), bst (fun s => K + f s) m i (a, b, K + l) = ((bst f m i (a, b, l)).1, (bst f m i (a, b, l)).2.1, K + (bst f m i (a, b, l)).2.2)
  | 0, _, _, _, _ => rfl
  | m + 1, i, a, b, l => by
    rw [bst, bst]
    dsimp only
    rw [show (if K + f i < K + l then K + f i else K + l) = K + (if f i < l then f i else l) by split <;> split <;> omega, bst_sh m (i + 1)]
    rw [show (if K + f i < K + l then (i : Int) else a) = if f i < l then (i : Int) else a by split <;> split <;> omega, show (if K + f i ≤ K + l then (i : Int) else b) = if f i ≤ l then (i : Int) else b by split <;> split <;> omega]
theorem bst_cg {f f2 : Nat → Int} : ∀ (m i : Nat) (q : Int × Int × Int), (∀ k, i ≤ k → k < i + m → f k = f2 k) → bst f m i q = bst f2 m i q
  | 0, _, _, _ => rfl
  | m + 1, i, q, h => by rw [bst, bst, h i (by omega) (by omega), bst_cg m (i + 1) _ (fun k h1 h2 => h k (by omega) (by omega))]
theorem bst_far {f : Nat → Int} {m i : Nat} {a b a2 b2 l l2 : Int} (h1 : f i < l) (h2 : f i < l2) : bst f (m + 1) i (a, b, l) = bst f (m + 1) i (a2, b2, l2) := by
  rw [bst, bst]
  dsimp only
  have h3 : f i ≤ l := by omega
  have h4 : f i ≤ l2 := by omega
  simp only [h1, h2, h3, h4, if_true_x]
theorem bst_bd {f : Nat → Int} {B : Int} : ∀ (m i : Nat) (q : Int × Int × Int), (∀ k, i ≤ k → k < i + m → 0 ≤ f k ∧ f k ≤ B) → 0 ≤ q.2.2 → q.2.2 ≤ B → 0 ≤ (bst f m i q).2.2 ∧ (bst f m i q).2.2 ≤ B
  | 0, _, _, _, h1, h2 => ⟨h1, h2⟩
  | m + 1, i, q, h, h1, h2 => by
    have := h i (by omega) (by omega)
    rw [bst]
    refine bst_bd m (i + 1) _ (fun k h3 h4 => h k (by omega) (by omega)) ?_ ?_
    · dsimp only; split <;> omega
    · dsimp only; split <;> omega
theorem hpI_sh {f : Nat → Int} {ok : Nat → Bool} {r : Nat} : ∀ (m i : Nat) (l a b : Int), hpI (fun s => K + f s) ok r m i (K + l, a, b) = (K + (hpI f ok r m i (l, a, b)).1, (hpI f ok r m i (l, a, b)).2)
  | 0, _, _, _, _ => rfl
  | m + 1, i, l, a, b => by
    rw [hpI, hpI]
    dsimp only
    by_cases e : f i < l ∧ ok i = true
    · rw [if_pos ⟨by omega, e.2⟩, if_pos e, hpI_sh m (i + 1)]
    · rw [if_neg (fun q => e ⟨by omega, q.2⟩), if_neg e, hpI_sh m (i + 1)]
theorem hpO_sh {f : Nat → Nat → Int} {ok : Nat → Nat → Bool} {S : Nat} : ∀ (m i : Nat) (l a b : Int), hpO (fun r s => K + f r s) ok S m i (K + l, a, b) = (K + (hpO f ok S m i (l, a, b)).1, (hpO f ok S m i (l, a, b)).2)
  | 0, _, _, _, _ => rfl
  | m + 1, i, l, a, b => by
    rw [hpO, hpO, hpI_sh]
    obtain ⟨l2, a2, b2, e⟩ : ∃ l2 a2 b2, hpI (f i) (ok i) i S 0 (l, a, b) = (l2, a2, b2) := ⟨_, _, _, rfl⟩
    rw [e]
    exact hpO_sh m (i + 1) l2 a2 b2
theorem hpI_no {f : Nat → Int} {ok : Nat → Bool} {r : Nat} : ∀ (m i : Nat) (q : Int × Int × Int), (∀ k, i ≤ k → ok k = false) → hpI f ok r m i q = q
  | 0, _, _, _ => rfl
  | m + 1, i, q, h => by
    rw [hpI, if_neg (fun z => by rw [h i (by omega)] at z; cases z.2), hpI_no m (i + 1) q (fun k hk => h k (by omega))]
theorem hpI_ap {f : Nat → Int} {ok : Nat → Bool} {r : Nat} : ∀ (m d i : Nat) (q : Int × Int × Int), hpI f ok r (m + d) i q = hpI f ok r d (i + m) (hpI f ok r m i q)
  | 0, d, i, q => by rw [Nat.zero_add, Nat.add_zero]; rfl
  | m + 1, d, i, q => by
    rw [show m + 1 + d = (m + d) + 1 by omega, hpI, hpI_ap m d (i + 1), hpI, show i + 1 + m = i + (m + 1) by omega]
theorem hpI_sp {f : Nat → Int} {ok : Nat → Bool} {r : Nat} : ∀ (m i : Nat) (q : Int × Int × Int), hpI f ok r m i q = q ∨ ∃ k, i ≤ k ∧ k < i + m ∧ ok k = true ∧ hpI f ok r m i q = (f k, (r : Int), (k : Int))
  | 0, _, _ => Or.inl rfl
  | m + 1, i, q => by
    rw [hpI]
    rcases hpI_sp (f := f) (ok := ok) (r := r) m (i + 1) (if f i < q.1 ∧ ok i = true then (f i, (r : Int), (i : Int)) else q) with e | ⟨k, k1, k2, k3, k4⟩
    · rw [e]
      by_cases z : f i < q.1 ∧ ok i = true
      · rw [if_pos z]; exact Or.inr ⟨i, by omega, by omega, z.2, rfl⟩
      · rw [if_neg z]; exact Or.inl rfl
    · exact Or.inr ⟨k, by omega, by omega, k3, k4⟩
theorem hpO_sp {f : Nat → Nat → Int} {ok : Nat → Nat → Bool} {S : Nat} : ∀ (m i : Nat) (q : Int × Int × Int), hpO f ok S m i q = q ∨ ∃ r k, i ≤ r ∧ r < i + m ∧ k < S ∧ ok r k = true ∧ hpO f ok S m i q = (f r k, (r : Int), (k : Int))
  | 0, _, _ => Or.inl rfl
  | m + 1, i, q => by
    rw [hpO]
    rcases hpO_sp (f := f) (ok := ok) (S := S) m (i + 1) (hpI (f i) (ok i) i S 0 q) with e | ⟨r, k, k1, k2, k3, k4, k5⟩
    · rw [e]
      rcases hpI_sp (f := f i) (ok := ok i) (r := i) S 0 q with e2 | ⟨k, k1, k2, k3, k4⟩
      · exact Or.inl e2
      · exact Or.inr ⟨i, k, by omega, by omega, by omega, k3, k4⟩
    · exact Or.inr ⟨r, k, by omega, by omega, k3, k4, k5⟩
/-- a cell that hops: its plan stays good -/
theorem hpV_gd (g : Gd v) (hc : (c : Int) < v 11 0) (hx : lpB v c = true) : Gd (hpV v t c) := by
  have hx2 : v 14 c = 0 := by
    unfold lpB at hx
    simp only [Bool.and_eq_true, decide_eq_true_eq] at hx
    exact hx.1
  unfold hpV hpQ
  rcases hpO_sp (f := fun r s => wir (gvP v c r s) t) (ok := fun r s => lwB v c r s) (S := (v 0 1).toNat) (v 0 0).toNat 0 (wir v t, v 17 c, v 18 c) with e | ⟨r, k, k1, k2, k3, k4, k5⟩
  · rw [e]
    dsimp only
    rw [gv_id]
    exact g
  · rw [k5]
    exact Gd_gv g hc hx2 k4
theorem hpV_o {j : Nat} (hj : j ≠ 17 ∧ j ≠ 18) : hpV v t c j = v j := gv_o hj
end HPP
