/-! fix: those that lie there lose their spots -/
def clP (v : Nat → Nat → Int) (c : Nat) (r s w : Int) (d : Nat) : Bool := !decide (d = c) && decide (v 14 d = 0) && laB v r s (s + w - 1) d
def clSp (c : Nat) (r s w : Int) : Nat → Nat → (Nat → Nat → Int) → (Nat → Nat → Int)
  | 0, _, v => v
  | m + 1, i, v => clSp c r s w m (i + 1) (if clP v c r s w i = true then lsV v i else v)
def lsM (v : Nat → Nat → Int) (p : Nat → Bool) : Nat → Nat → Int := fun j i => if (j = 17 ∨ j = 18) ∧ p i = true then -1 else v j i
def ctR (v : Nat → Nat → Int) (c : Nat) (r k : Int) : Int := lst (ctB v r k c 0) (v 11 0).toNat 0 (-1)
/-- the reference goes site by site -/
def rfS (c : Nat) (r s : Int) : Nat → Nat → (Nat → Nat → Int) × Int → (Nat → Nat → Int) × Int
  | 0, _, q => q
  | m + 1, k, q => rfS c r s m (k + 1) (if ctR q.1 c r (s + k) = -1 then q else (lsV q.1 (ctR q.1 c r (s + k)).toNat, q.2 + 1))
def fxQ (v : Nat → Nat → Int) (c : Nat) (r s : Int) : Nat → Nat → Int := up2 (up2 (up2 (up2 (up2 v 17 c r) 18 c s) 14 c 1) 15 c (16 * s)) 16 c (16 * r)
def fxV (v : Nat → Nat → Int) (c : Nat) (r s : Int) : Nat → Nat → Int := fxQ (clSp c r s (v 12 c) (v 11 0).toNat 0 v) c r s
def spFix (s : AS) (c r st : Int) : Int × AS := if ¬ (0 ≤ r ∧ r < s.1 0 0 ∧ 0 ≤ st ∧ st < s.1 0 1) then refS s (-1) else if ¬ (0 ≤ c ∧ c < s.1 11 0) then refS s (-2) else if ¬ s.1 14 c.toNat = 0 ∨ (gfB s.1 c.toNat r st && !anyB (afB s.1 r r st (st + s.1 12 c.toNat - 1)) (s.1 11 0).toNat) = false then refS s (-4) else actS s 6 (cntB (clP s.1 c.toNat r st (s.1 12 c.toNat)) (s.1 11 0).toNat 0) (fxV s.1 c.toNat r st)
section FIX
variable {v : Nat → Nat → Int} {c : Nat} {r s w : Int}
theorem lsM_o {p : Nat → Bool} {j : Nat} (hj : j ≠ 17 ∧ j ≠ 18) : lsM v p j = v j := by
  funext i
  unfold lsM
  rw [if_neg (by omega)]
theorem lsM_s {p : Nat → Bool} {j i : Nat} (hj : j = 17 ∨ j = 18) : lsM v p j i = if p i = true then -1 else v j i := by
  unfold lsM
  by_cases e : p i = true
  · rw [if_pos ⟨hj, e⟩, if_pos e]
  · rw [if_neg (fun q => e q.2), if_neg e]
theorem lsM_lsV {p : Nat → Bool} {d : Nat} : lsV (lsM v p) d = lsM v (fun i => p i || decide (i = d)) := by
  funext j i
  by_cases hj : j = 17 ∨ j = 18
  · rw [lsM_s hj]
    have e : lsV (lsM v p) d j i = if i = d then -1 else lsM v p j i := by
      rcases hj with rfl | rfl
      · exact lsV_17
      · exact lsV_18
    rw [e, lsM_s hj]
    by_cases e2 : i = d <;> simp [e2]
  · rw [lsV_o (by omega), lsM_o (by omega), lsM_o (by omega)]
theorem lsM_cg {p q : Nat → Bool} (e : ∀ i, p i = q i) : lsM v p = lsM v q := by rw [funext e]
theorem lsV_lsM {d : Nat} : lsV v d = lsM v (fun i => decide (i = d)) := by
  have := lsM_lsV (v := v) (p := fun _ => false) (d := d)
  rw [show lsM v (fun _ => false) = v by funext j i; unfold lsM; simp] at this
  rw [this]
  exact lsM_cg (fun i => by simp)
theorem clP_cg {v2 : Nat → Nat → Int} {d : Nat} (e12 : v2 12 d = v 12 d) (e14 : v2 14 d = v 14 d) (e17 : v2 17 d = v 17 d) (e18 : v2 18 d = v 18 d) : clP v2 c r s w d = clP v c r s w d := by
  unfold clP laB
  rw [e12, e14, e17, e18]
theorem clSp_eq : ∀ (m i : Nat) (v : Nat → Nat → Int), clSp c r s w m i v = lsM v (fun d => decide (i ≤ d) && decide (d < i + m) && clP v c r s w d)
  | 0, i, v => by
    rw [clSp]
    funext j d
    unfold lsM
    rw [if_neg (by simp; omega)]
  | m + 1, i, v => by
    rw [clSp]
    by_cases e : clP v c r s w i = true
    · rw [if_pos e, clSp_eq m (i + 1), lsV_lsM]
      funext j d
      by_cases hj : j = 17 ∨ j = 18
      · rw [lsM_s hj, lsM_s hj, lsM_s hj]
        by_cases e2 : d = i
        · subst e2
          simp [e]
        · have e3 : clP (lsM v (fun k => decide (k = i))) c r s w d = clP v c r s w d := clP_cg (by rw [lsM_o (by omega)]) (by rw [lsM_o (by omega)]) (by rw [lsM_s (by omega)]; simp [e2]) (by rw [lsM_s (by omega)]; simp [e2])
          rw [e3]
          have e4 : (decide (i + 1 ≤ d) && decide (d < i + 1 + m)) = (decide (i ≤ d) && decide (d < i + (m + 1))) := by
            rw [Bool.eq_iff_iff]
            simp
            omega
          rw [e4]
          simp [e2]
      · rw [lsM_o (by omega), lsM_o (by omega), lsM_o (by omega)]
    · rw [if_neg e, clSp_eq m (i + 1)]
      refine lsM_cg (fun d => ?_)
      by_cases e2 : d = i
      · subst e2
        simp [e]
      · have e4 : (decide (i + 1 ≤ d) && decide (d < i + 1 + m)) = (decide (i ≤ d) && decide (d < i + (m + 1))) := by
          rw [Bool.eq_iff_iff]
          simp
          omega
        rw [e4]
theorem cntB_cg {p q : Nat → Bool} : ∀ (m i : Nat), (∀ d, i ≤ d → d < i + m → p d = q d) → cntB p m i = cntB q m i
  | 0, _, _ => rfl
  | m + 1, i, h => by
    rw [cntB, cntB, h i (by omega) (by omega), cntB_cg m (i + 1) (fun d h1 h2 => h d (by omega) (by omega))]
theorem cntB_add {p : Nat → Bool} {d : Nat} (hp : p d = false) : ∀ (m i : Nat), i ≤ d → d < i + m → cntB (fun k => p k || decide (k = d)) m i = cntB p m i + 1
  | 0, _, h1, h2 => by omega
  | m + 1, i, h1, h2 => by
    rw [cntB, cntB]
    by_cases e : i = d
    · subst e
      have hk : ∀ k, i + 1 ≤ k → k < i + 1 + m → (p k || decide (k = i)) = p k := fun k h3 h4 => by rw [decide_eq_false (show ¬ k = i by omega), Bool.or_false]
      rw [cntB_cg (q := p) m (i + 1) hk]
      simp [hp]
      omega
    · rw [cntB_add hp m (i + 1) (by omega) (by omega)]
      simp [e]
      omega
/-- who lies at one of the first k sites -/
def rfP (v : Nat → Nat → Int) (c : Nat) (r s : Int) (k : Nat) (d : Nat) : Bool := decide (d < (v 11 0).toNat) && !decide (d = c) && decide (0 < k) && laB v r s (s + k - 1) d
theorem rfP_s (g : GEO0 v) {k d : Nat} (hs : 0 ≤ s) (hd : (d : Int) < v 11 0) : rfP v c r s (k + 1) d = true ↔ rfP v c r s k d = true ∨ (d ≠ c ∧ laB v r (s + k) (s + k) d = true) := by
  have := (g.1 d hd).1
  unfold rfP laB
  simp only [Bool.and_eq_true, Bool.not_eq_true', decide_eq_false_iff_not, decide_eq_true_eq]
  omega
theorem rfS_eq (g : GEO0 v) (ds : DIS v) (hr : 0 ≤ r) (hs : 0 ≤ s) : ∀ (m k : Nat), rfS c r s m k (lsM v (rfP v c r s k), cntB (rfP v c r s k) (v 11 0).toNat 0) = (lsM v (rfP v c r s (k + m)), cntB (rfP v c r s (k + m)) (v 11 0).toNat 0)
  | 0, k => rfl
  | m + 1, k => by
    rw [rfS]
    have e11 : lsM v (rfP v c r s k) 11 0 = v 11 0 := by rw [lsM_o (by omega)]
    have key : (if ctR (lsM v (rfP v c r s k)) c r (s + k) = -1 then ((lsM v (rfP v c r s k), cntB (rfP v c r s k) (v 11 0).toNat 0) : (Nat → Nat → Int) × Int) else (lsV (lsM v (rfP v c r s k)) (ctR (lsM v (rfP v c r s k)) c r (s + k)).toNat, cntB (rfP v c r s k) (v 11 0).toNat 0 + 1)) = (lsM v (rfP v c r s (k + 1)), cntB (rfP v c r s (k + 1)) (v 11 0).toNat 0) := by
      unfold ctR
      rw [e11]
      rcases lst_spec (p := ctB (lsM v (rfP v c r s k)) r (s + k) c 0) (v 11 0).toNat 0 (-1) with ⟨e1, e2⟩ | ⟨d, d1, d2, d3, d4, d5⟩
      · rw [e1, if_pos rfl]
        have e : ∀ d, rfP v c r s k d = rfP v c r s (k + 1) d := by
          intro d
          by_cases hd : d < (v 11 0).toNat
          · rw [Bool.eq_iff_iff, rfP_s g hs (by omega)]
            refine ⟨Or.inl, fun q => q.elim (fun z => z) (fun ⟨q1, q2⟩ => ?_)⟩
            have e3 := e2 d (by omega) (by omega)
            by_cases e4 : rfP v c r s k d = true
            · exact e4
            · exfalso
              unfold ctB laB at e3
              rw [lsM_s (by omega), lsM_s (by omega), lsM_o (j := 12) (by omega), if_neg e4, if_neg e4] at e3
              unfold laB at q2
              rw [Bool.eq_false_iff] at e3
              apply e3
              simp only [Bool.and_eq_true, Bool.or_eq_true, Bool.not_eq_true', decide_eq_false_iff_not, decide_eq_true_eq] at q2 ⊢
              exact ⟨⟨by omega, q2⟩, Or.inl trivial⟩
          · unfold rfP
            simp [hd]
        rw [lsM_cg e, funext e]
      · have hd : (d : Int) < v 11 0 := by omega
        unfold ctB laB at d3
        rw [lsM_s (by omega), lsM_s (by omega), lsM_o (j := 12) (by omega)] at d3
        have e4 : rfP v c r s k d = false := by
          rw [Bool.eq_false_iff]
          intro z
          rw [if_pos z] at d3
          simp only [Bool.and_eq_true, Bool.or_eq_true, Bool.not_eq_true', decide_eq_false_iff_not, decide_eq_true_eq] at d3
          omega
        rw [e4] at d3
        simp only [Bool.and_eq_true, Bool.or_eq_true, Bool.not_eq_true', decide_eq_false_iff_not, decide_eq_true_eq, b_ft, if_false_x] at d3
        rw [d4, if_neg (by omega), Int.toNat_natCast, lsM_lsV]
        have e : ∀ i, (rfP v c r s k i || decide (i = d)) = rfP v c r s (k + 1) i := by
          intro i
          by_cases hi : i < (v 11 0).toNat
          · rw [Bool.eq_iff_iff, rfP_s g hs (by omega), Bool.or_eq_true, decide_eq_true_eq]
            constructor
            · rintro (q | rfl)
              · exact Or.inl q
              · refine Or.inr ⟨by omega, ?_⟩
                unfold laB
                simp only [Bool.and_eq_true, decide_eq_true_eq]
                omega
            · rintro (q | ⟨q1, q2⟩)
              · exact Or.inl q
              · right
                unfold laB at q2
                simp only [Bool.and_eq_true, decide_eq_true_eq] at q2
                by_cases z : i = d
                · exact z
                · exfalso
                  have := ds d i hd (by omega) (fun y => z y.symm) (by omega) (by omega)
                  omega
          · have : ¬ i = d := by omega
            unfold rfP
            simp [hi, this]
        rw [lsM_cg e]
        refine Prod.ext rfl ?_
        show cntB (rfP v c r s k) (v 11 0).toNat 0 + 1 = _
        rw [← cntB_add e4 (v 11 0).toNat 0 (by omega) (by omega)]
        exact congrArg (fun p => cntB p (v 11 0).toNat 0) (funext e)
    dsimp only at key ⊢
    rw [key, rfS_eq g ds hr hs m (k + 1), show k + 1 + m = k + (m + 1) by omega]
/-- both ways the same ones lose their spots -/
theorem fix_same (g : GEO0 v) (rg : RGv v) (ds : DIS v) (hc : (c : Int) < v 11 0) (hr : 0 ≤ r) (hs : 0 ≤ s) (hf : anyB (afB v r r s (s + v 12 c - 1)) (v 11 0).toNat = false) : rfS c r s (v 12 c).toNat 0 (v, 0) = (clSp c r s (v 12 c) (v 11 0).toNat 0 v, cntB (clP v c r s (v 12 c)) (v 11 0).toNat 0) := by
  have nC := rg.nC
  have c1 := (g.1 c hc).1
  have e0 : ∀ d, rfP v c r s 0 d = false := fun d => by unfold rfP; simp
  have a := rfS_eq (c := c) g ds hr hs (v 12 c).toNat 0
  have z0 : lsM v (rfP v c r s 0) = v := by funext j i; unfold lsM; rw [e0]; simp
  have z1 : cntB (rfP v c r s 0) (v 11 0).toNat 0 = 0 := by
    rw [cntB_cg (q := fun _ => false) _ _ (fun d _ _ => e0 d)]
    generalize (v 11 0).toNat = n
    have : ∀ m i, cntB (fun _ => false) m i = 0 := by
      intro m
      induction m with
      | zero => intro i; rfl
      | succ m ih => intro i; rw [cntB, ih]; rfl
    exact this n 0
  rw [z0, z1, Nat.zero_add] at a
  rw [a, clSp_eq]
  have e : ∀ d, d < (v 11 0).toNat → rfP v c r s (v 12 c).toNat d = clP v c r s (v 12 c) d := by
    intro d hd
    have fd := rg.fix d
    have h3 := anyB_f.mp hf d hd
    unfold afB at h3
    rw [Bool.eq_false_iff] at h3
    unfold rfP clP
    rw [show s + ((v 12 c).toNat : Int) - 1 = s + v 12 c - 1 by omega]
    rw [Bool.eq_iff_iff]
    simp only [Bool.and_eq_true, Bool.not_eq_true', decide_eq_false_iff_not, decide_eq_true_eq]
    constructor
    · rintro ⟨⟨⟨q1, q2⟩, q3⟩, q4⟩
      refine ⟨⟨q2, ?_⟩, q4⟩
      have q5 := q4
      unfold laB at q5
      simp only [Bool.and_eq_true, decide_eq_true_eq] at q5
      by_cases z : v 14 d = 0
      · exact z
      · exfalso
        apply h3
        simp only [Bool.and_eq_true, Bool.not_eq_true', decide_eq_false_iff_not, decide_eq_true_eq]
        refine ⟨⟨⟨z, by omega⟩, by omega⟩, ?_⟩
        rw [q5.1.1]
        exact q4
    · rintro ⟨⟨q2, q3⟩, q4⟩
      exact ⟨⟨⟨hd, q2⟩, by omega⟩, q4⟩
  refine Prod.ext ?_ (cntB_cg _ _ (fun d h1 h2 => e d (by omega)))
  refine lsM_cg (fun d => ?_)
  by_cases hd : d < (v 11 0).toNat
  · rw [e d hd]
    simp [hd]
  · unfold rfP
    simp [hd]
end FIX
