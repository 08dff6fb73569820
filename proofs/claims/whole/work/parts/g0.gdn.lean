/-! GOOD: fix, net, drop -/
section GDN
variable {u v : Nat → Nat → Int}
theorem lsM_rg (w : RGv v) (p : Nat → Bool) : RGv (lsM v p) := by
  have key : ∀ j i, lsM v p j i = v j i ∨ ((j = 17 ∨ j = 18) ∧ lsM v p j i = -1) := fun j i => by
    unfold lsM
    split
    · rename_i q
      exact Or.inr ⟨q.1, rfl⟩
    · exact Or.inl rfl
  have o : ∀ j, j ≠ 17 ∧ j ≠ 18 → lsM v p j = v j := fun j hj => lsM_o hj
  unfold RGv at w ⊢
  rw [o 12 (by omega), o 13 (by omega), o 14 (by omega), o 15 (by omega), o 16 (by omega), o 20 (by omega), o 21 (by omega), o 22 (by omega), o 23 (by omega), o 1 (by omega), o 6 (by omega), o 11 (by omega), o 19 (by omega), o 0 (by omega)]
  refine ⟨⟨w.1.1, w.1.2.1, w.1.2.2.1, w.1.2.2.2.1, w.1.2.2.2.2.1, fun c => ?_, fun c => ?_⟩, w.2.1, w.2.2.1, w.2.2.2.1, w.2.2.2.2.1, w.2.2.2.2.2.1, w.2.2.2.2.2.2.1, w.2.2.2.2.2.2.2.1, fun j i hj => ?_⟩
  · have := w.1.2.2.2.2.2.1 c
    rcases key 17 c with q | q
    · rw [q]; exact this
    · rw [q.2]; omega
  · have := w.1.2.2.2.2.2.2 c
    rcases key 18 c with q | q
    · rw [q]; exact this
    · rw [q.2]; omega
  · rw [o j (by omega)]
    exact w.2.2.2.2.2.2.2.2 j i hj
theorem fix_gd {c : Nat} {r s : Int} (g : Gd v) (hc : (c : Int) < v 11 0) (hl : v 14 c = 0) (hg : gfB v c r s = true) (ha : anyB (afB v r r s (s + v 12 c - 1)) (v 11 0).toNat = false) : Gd (fxV v c r s) := by
  have nC := g.rg.nC
  have rows := g.rg.rows
  have sites := g.rg.sites
  have q := (gfB_iff.mp hg).1
  have cw := (g.geo.cel hc).1
  have e : clSp c r s (v 12 c) (v 11 0).toNat 0 v = lsM v (fun d => decide (0 ≤ d) && decide (d < 0 + (v 11 0).toNat) && clP v c r s (v 12 c) d) := clSp_eq _ _ _
  obtain ⟨P, hP⟩ : ∃ P : Nat → Bool, P = (fun d => decide (0 ≤ d) && decide (d < 0 + (v 11 0).toNat) && clP v c r s (v 12 c) d) := ⟨_, rfl⟩
  rw [← hP] at e
  have eu : fxV v c r s = fxQ (lsM v P) c r s := by
    unfold fxV
    rw [e]
  rw [eu]
  obtain ⟨u, hu⟩ : ∃ u, u = fxQ (lsM v P) c r s := ⟨_, rfl⟩
  rw [← hu]
  have oj : ∀ j, j ≠ 14 → j ≠ 15 → j ≠ 16 → j ≠ 17 → j ≠ 18 → u j = v j := fun j h1 h2 h3 h4 h5 => by
    rw [hu]
    unfold fxQ
    rw [up2_of h3, up2_of h2, up2_of h1, up2_of h5, up2_of h4, lsM_o ⟨h4, h5⟩]
  have at14 : ∀ d, u 14 d = if d = c then 1 else v 14 d := fun d => by
    rw [hu]
    unfold fxQ
    rw [up2_oth (by decide), up2_oth (by decide), up2_same, up2_oth (by decide), up2_oth (by decide), lsM_o (by omega)]
  have at15 : ∀ d, u 15 d = if d = c then 16 * s else v 15 d := fun d => by
    rw [hu]
    unfold fxQ
    rw [up2_oth (by decide), up2_same, up2_oth (by decide), up2_oth (by decide), up2_oth (by decide), lsM_o (by omega)]
  have at16 : ∀ d, u 16 d = if d = c then 16 * r else v 16 d := fun d => by
    rw [hu]
    unfold fxQ
    rw [up2_same, up2_oth (by decide), up2_oth (by decide), up2_oth (by decide), up2_oth (by decide), lsM_o (by omega)]
  have at17 : ∀ d, u 17 d = if d = c then r else if P d = true then -1 else v 17 d := fun d => by
    rw [hu]
    unfold fxQ
    rw [up2_oth (by decide), up2_oth (by decide), up2_oth (by decide), up2_oth (by decide), up2_same, lsM_s (by omega)]
  have at18 : ∀ d, u 18 d = if d = c then s else if P d = true then -1 else v 18 d := fun d => by
    rw [hu]
    unfold fxQ
    rw [up2_oth (by decide), up2_oth (by decide), up2_oth (by decide), up2_same, up2_oth (by decide), lsM_s (by omega)]
  have Pl : ∀ d, P d = true → v 14 d = 0 := fun d h => by
    rw [hP] at h
    unfold clP at h
    simp only [Bool.and_eq_true, decide_eq_true_eq] at h
    exact h.2.1.2
  have e0 := oj 0 (by omega) (by omega) (by omega) (by omega) (by omega)
  have e6 := oj 6 (by omega) (by omega) (by omega) (by omega) (by omega)
  have e11 := oj 11 (by omega) (by omega) (by omega) (by omega) (by omega)
  have e12 := oj 12 (by omega) (by omega) (by omega) (by omega) (by omega)
  have e13 := oj 13 (by omega) (by omega) (by omega) (by omega) (by omega)
  have e19 := oj 19 (by omega) (by omega) (by omega) (by omega) (by omega)
  have e21 := oj 21 (by omega) (by omega) (by omega) (by omega) (by omega)
  have e22 := oj 22 (by omega) (by omega) (by omega) (by omega) (by omega)
  have e23 := oj 23 (by omega) (by omega) (by omega) (by omega) (by omega)
  have gfe : ∀ (d : Nat) (x y : Int), gfB u d x y = gfB v d x y := fun d x y => by
    unfold gfB icB ovV
    rw [e0, e6, e12, e13, oj 1 (by omega) (by omega) (by omega) (by omega) (by omega), oj 2 (by omega) (by omega) (by omega) (by omega) (by omega), oj (2 + 1) (by omega) (by omega) (by omega) (by omega) (by omega), oj (2 + 2) (by omega) (by omega) (by omega) (by omega) (by omega), oj (2 + 3) (by omega) (by omega) (by omega) (by omega) (by omega), oj 7 (by omega) (by omega) (by omega) (by omega) (by omega), oj (7 + 1) (by omega) (by omega) (by omega) (by omega) (by omega), oj (7 + 2) (by omega) (by omega) (by omega) (by omega) (by omega), oj (7 + 3) (by omega) (by omega) (by omega) (by omega) (by omega)]
  have rg : RGv u := by
    rw [hu]
    unfold fxQ
    exact (((((lsM_rg g.rg P).u (by unfold rgP; omega)).u (by unfold rgP; omega)).u (by unfold rgP; omega)).u (by unfold rgP; omega)).u (by unfold rgP; omega)
  /- who stays does not reach there -/
  have stay : ∀ d : Nat, (d : Int) < v 11 0 → d ≠ c → P d ≠ true → v 17 d = r → s + v 12 c ≤ v 18 d ∨ v 18 d + v 12 d ≤ s := fun d hd hdc hp hr => by
    by_cases z : s + v 12 c ≤ v 18 d ∨ v 18 d + v 12 d ≤ s
    · exact z
    · exfalso
      rcases g.rg.fix d with f | f
      · apply hp
        rw [hP]
        unfold clP laB
        simp only [Bool.and_eq_true, Bool.not_eq_true', decide_eq_true_eq, decide_eq_false_iff_not]
        omega
      · exact af_no ha hd f ⟨by omega, by omega, by omega⟩
  refine ⟨rg, ?_, ?_, ?_, GEO_mk ⟨fun d hd => ?_, ?_, ?_, ?_⟩ (fun d hd => ?_) (fun d hd => ?_) (fun a d hA hd hne hp he => ?_) (fun d hd hx => ?_)⟩
  · have := g.n2
    unfold N2v at this ⊢
    rw [e19, e21]
    exact this
  · have := g.nd
    unfold NDv at this ⊢
    rw [e19, e21, e22]
    exact this
  · have := g.nt
    unfold NTv at this ⊢
    rw [e19, e21, e22, e23, e0, e11, e12]
    exact this
  · rw [e11] at hd
    rw [e12, e13, e6]
    exact g.geo.g0.1 d hd
  · rw [e6, oj 7 (by omega) (by omega) (by omega) (by omega) (by omega), oj 8 (by omega) (by omega) (by omega) (by omega) (by omega), oj 9 (by omega) (by omega) (by omega) (by omega) (by omega), oj 10 (by omega) (by omega) (by omega) (by omega) (by omega), e0]
    exact g.geo.g0.2.1
  · rw [e6, oj 7 (by omega) (by omega) (by omega) (by omega) (by omega), oj 8 (by omega) (by omega) (by omega) (by omega) (by omega), oj 9 (by omega) (by omega) (by omega) (by omega) (by omega), oj 10 (by omega) (by omega) (by omega) (by omega) (by omega)]
    exact g.geo.g0.2.2.1
  · rw [oj 1 (by omega) (by omega) (by omega) (by omega) (by omega), oj 2 (by omega) (by omega) (by omega) (by omega) (by omega), oj 3 (by omega) (by omega) (by omega) (by omega) (by omega), oj 4 (by omega) (by omega) (by omega) (by omega) (by omega), oj 5 (by omega) (by omega) (by omega) (by omega) (by omega), e0]
    exact g.geo.g0.2.2.2
  · rw [e11] at hd
    rw [at15, at16, e0, e12]
    by_cases z : d = c
    · rw [if_pos z, if_pos z, z]
      omega
    · rw [if_neg z, if_neg z]
      exact ⟨(g.geo.cel hd).2.2.1, (g.geo.cel hd).2.2.2⟩
  · rw [e11] at hd
    rw [gfe, at17, at18]
    by_cases z : d = c
    · rw [if_pos z, if_pos z, z]
      exact Or.inr hg
    · rw [if_neg z, if_neg z]
      by_cases p : P d = true
      · rw [if_pos p, if_pos p]
        exact Or.inl ⟨rfl, rfl⟩
      · rw [if_neg p, if_neg p]
        by_cases k : v 17 d = -1
        · exact Or.inl ⟨k, g.geo.non hd k⟩
        · exact Or.inr (g.geo.gnd hd k)
  · rw [e11] at hA hd
    rw [at17] at hp he
    rw [at17] at he
    rw [at18, at18, e12]
    by_cases za : a = c
    · have zd : d ≠ c := fun k => hne (za.trans k.symm)
      rw [if_pos za] at hp he ⊢
      rw [if_neg zd] at he ⊢
      by_cases p : P d = true
      · rw [if_pos p] at he
        omega
      · rw [if_neg p] at he ⊢
        rw [za]
        exact stay d hd zd p he
    · rw [if_neg za] at hp he ⊢
      by_cases pa : P a = true
      · rw [if_pos pa] at hp
        exact absurd rfl hp
      · rw [if_neg pa] at hp he ⊢
        by_cases zd : d = c
        · rw [if_pos zd] at he ⊢
          rw [zd]
          exact (stay a hA za pa he.symm).symm
        · rw [if_neg zd] at he ⊢
          by_cases p : P d = true
          · rw [if_pos p] at he
            exact absurd he.symm hp
          · rw [if_neg p] at he ⊢
            exact g.geo.dis hA hd hne hp he
  · rw [e11] at hd
    rw [at14] at hx
    rw [at15, at16, at17, at18]
    by_cases z : d = c
    · rw [if_pos z, if_pos z, if_pos z, if_pos z]
      exact ⟨by omega, rfl, rfl⟩
    · rw [if_neg z] at hx
      have p : ¬ P d = true := fun k => by have := Pl d k; omega
      rw [if_neg z, if_neg z, if_neg z, if_neg z, if_neg p, if_neg p]
      exact g.geo.fxd hd hx
end GDN
