/-! TO MAKE LAWFUL: what it comes to -/
def ordQ (v : Nat → Nat → Int) : Nat → List Nat
  | 0 => []
  | n + 1 => if v 14 n = 0 then insL (v 15) n (ordQ v n) else ordQ v n
def smK (go : List (Nat × Nat)) (k : Nat) : List Nat := (go.filter (fun x => decide (x.2 = k))).map (fun x => x.1)
def pY (v : Nat → Nat → Int) (tl : Int) (c r : Nat) : Int := v 12 c * tl * ((16 * (r : Int) - v 16 c).natAbs : Int)
def prc (v : Nat → Nat → Int) (tl : Int) (x : Rn) (M : List Nat) (c : Nat) : Int := tb v x.2.2.1 x.2.2.2 fRp (M ++ [c]) 0 - tb v x.2.2.1 x.2.2.2 fRp M 0 + pY v tl c x.1
def chE (v : Nat → Nat → Int) (M : List Nat) (c : Nat) (x : Rn) : Bool := decide (x.2.1 = v 13 c ∧ sW v M + v 12 c ≤ x.2.2.2)
def chS (v : Nat → Nat → Int) (tl : Int) (go : List (Nat × Nat)) (c : Nat) : List Rn → Nat → Int → Int → Int
  | [], _, its, _ => its
  | x :: L, k, its, lea => if chE v (smK go k) c x = true ∧ prc v tl x (smK go k) c < lea then chS v tl go c L (k + 1) k (prc v tl x (smK go k) c) else chS v tl go c L (k + 1) its lea
def chR (v : Nat → Nat → Int) (tl : Int) (go : List (Nat × Nat)) (c : Nat) : Int := chS v tl go c (rnL v) 0 (-1) fRp
def asg (v : Nat → Nat → Int) (tl : Int) : List Nat → List (Nat × Nat) → Option (List (Nat × Nat))
  | [], go => some go
  | c :: q, go => if chR v tl go c = -1 then none else asg v tl q (go ++ [(c, (chR v tl go c).toNat)])
def fdS (v : Nat → Nat → Int) (a n c : Nat) (T : Nat → Int) (goal : Int) : Nat → Nat → Nat
  | 0, s => s
  | m + 1, s => if (s : Int) + v 12 c ≤ n ∧ cAt v c (a + s) + T (s + (v 12 c).toNat) = goal then s else fdS v a n c T goal m (s + 1)
def plS (v : Nat → Nat → Int) (a n c : Nat) (L : List Nat) (s : Nat) : Nat := fdS v a n c (tb v a n fRp L) (tb v a n fRp (c :: L) s) (n - (v 12 c).toNat - s) s
def plR (v : Nat → Nat → Int) (r a n : Nat) : List Nat → Nat → (Nat → Nat → Int) → (Nat → Nat → Int)
  | [], _, u => u
  | c :: L, s, u => plR v r a n L (plS v a n c L s + (v 12 c).toNat) (gvP u c r ((a + plS v a n c L s : Nat) : Int))
def plA (v : Nat → Nat → Int) (go : List (Nat × Nat)) : List Rn → Nat → (Nat → Nat → Int) → (Nat → Nat → Int)
  | [], _, u => u
  | x :: L, k, u => plA v go L (k + 1) (plR v x.1 x.2.2.1 x.2.2.2 (smK go k) 0 u)
def mkV (v : Nat → Nat → Int) (tl : Int) : Option (Nat → Nat → Int) := match asg v tl (ordQ v (v 11 0).toNat) [] with
  | none => none
  | some go => some (plA v go (rnL v) 0 v)
section MKP
variable {v : Nat → Nat → Int}
theorem ordQ_mem {x : Nat} : ∀ n, x ∈ ordQ v n ↔ x < n ∧ v 14 x = 0
  | 0 => by rw [ordQ]; simp
  | n + 1 => by
    have ih := ordQ_mem (x := x) n
    rw [ordQ]
    by_cases e : v 14 n = 0
    · rw [if_pos e, insL_mem, ih]
      constructor
      · rintro (q | q)
        · rw [q]; exact ⟨by omega, e⟩
        · exact ⟨by omega, q.2⟩
      · intro q
        by_cases d : x = n
        · exact Or.inl d
        · exact Or.inr ⟨by omega, q.2⟩
    · rw [if_neg e, ih]
      constructor
      · intro q
        exact ⟨by omega, q.2⟩
      · intro q
        refine ⟨?_, q.2⟩
        by_cases d : x = n
        · rw [d] at q
          exact absurd q.2 e
        · omega
theorem ordQ_len : ∀ n, (ordQ v n).length ≤ n
  | 0 => by rw [ordQ]; simp
  | n + 1 => by
    have := ordQ_len n
    rw [ordQ]
    split
    · rw [insL_len]; omega
    · omega
theorem insR_nd {key : Nat → Int} {c : Nat} : ∀ (A B : List Nat), (A.reverse ++ B).Nodup → c ∉ A → c ∉ B → (insR key c A B).Nodup
  | [], B, h1, _, h3 => by
    rw [insR]
    exact List.nodup_cons.mpr ⟨h3, by simpa using h1⟩
  | y :: A, B, h1, h2, h3 => by
    rw [insR]
    have yc : y ≠ c := fun e => h2 (by simp [e])
    split
    · refine insR_nd A (y :: B) (by simpa using h1) (fun q => h2 (by simp [q])) (fun q => ?_)
      rcases List.mem_cons.mp q with q | q
      · exact yc q.symm
      · exact h3 q
    · rw [List.nodup_append] at h1 ⊢
      refine ⟨h1.1, List.nodup_cons.mpr ⟨h3, h1.2.1⟩, fun a ha b hb => ?_⟩
      rcases List.mem_cons.mp hb with q | q
      · rw [q]
        intro z
        rw [z] at ha
        exact h2 (List.mem_reverse.mp ha)
      · exact h1.2.2 a ha b q
theorem ordQ_nd : ∀ n, (ordQ v n).Nodup
  | 0 => by rw [ordQ]; exact List.nodup_nil
  | n + 1 => by
    have ih := ordQ_nd n
    rw [ordQ]
    split
    · have nn : n ∉ ordQ v n := fun q => by have := (ordQ_mem n).mp q; omega
      exact insR_nd _ [] (by simpa using ih) (by simpa using nn) (by simp)
    · exact ih
theorem smK_app {go : List (Nat × Nat)} {c k j : Nat} : smK (go ++ [(c, k)]) j = if k = j then smK go j ++ [c] else smK go j := by
  unfold smK
  rw [List.filter_append]
  by_cases e : k = j
  · rw [if_pos e]
    simp [e]
  · rw [if_neg e]
    simp [e]
theorem smK_len {go : List (Nat × Nat)} {k : Nat} : (smK go k).length ≤ go.length := by
  unfold smK
  rw [List.length_map]
  exact List.length_filter_le _ _
theorem smK_mem {go : List (Nat × Nat)} {k c : Nat} (h : c ∈ smK go k) : (c, k) ∈ go := by
  unfold smK at h
  obtain ⟨x, hx, rfl⟩ := List.mem_map.mp h
  have := List.mem_filter.mp hx
  have e := of_decide_eq_true this.2
  rw [← e]
  exact this.1
def FT (v : Nat → Nat → Int) (go : List (Nat × Nat)) : Prop := ∀ (k : Nat) (x : Rn), (rnL v)[k]? = some x → sW v (smK go k) ≤ x.2.2.2
theorem chS_in {tl : Int} {go : List (Nat × Nat)} {c : Nat} : ∀ (L : List Rn) (k : Nat) (its lea : Int), chS v tl go c L k its lea = its ∨ ∃ (j : Nat) (x : Rn), chS v tl go c L k its lea = ((k + j : Nat) : Int) ∧ L[j]? = some x ∧ chE v (smK go (k + j)) c x = true
  | [], k, its, lea => by rw [chS]; exact Or.inl rfl
  | x :: L, k, its, lea => by
    rw [chS]
    by_cases e : chE v (smK go k) c x = true ∧ prc v tl x (smK go k) c < lea
    · rw [if_pos e]
      rcases chS_in L (k + 1) k (prc v tl x (smK go k) c) with q | ⟨j, y, q1, q2, q3⟩
      · exact Or.inr ⟨0, x, by rw [q]; rfl, rfl, e.1⟩
      · exact Or.inr ⟨j + 1, y, by rw [q1, show k + 1 + j = k + (j + 1) by omega], by simpa using q2, by rw [show k + (j + 1) = k + 1 + j by omega]; exact q3⟩
    · rw [if_neg e]
      rcases chS_in L (k + 1) its lea with q | ⟨j, y, q1, q2, q3⟩
      · exact Or.inl q
      · exact Or.inr ⟨j + 1, y, by rw [q1, show k + 1 + j = k + (j + 1) by omega], by simpa using q2, by rw [show k + (j + 1) = k + 1 + j by omega]; exact q3⟩
theorem chR_in {tl : Int} {go : List (Nat × Nat)} {c : Nat} (h : ¬ chR v tl go c = -1) : ∃ (k : Nat) (x : Rn), chR v tl go c = (k : Int) ∧ (rnL v)[k]? = some x ∧ x.2.1 = v 13 c ∧ sW v (smK go k) + v 12 c ≤ x.2.2.2 := by
  rcases chS_in (v := v) (tl := tl) (go := go) (c := c) (rnL v) 0 (-1) fRp with q | ⟨j, y, q1, q2, q3⟩
  · exact absurd q h
  · have := of_decide_eq_true q3
    rw [Nat.zero_add] at q1 this
    exact ⟨j, y, q1, q2, this⟩
theorem FT.snoc {go : List (Nat × Nat)} {c k : Nat} {x : Rn} (h : FT v go) (hx : (rnL v)[k]? = some x) (e : sW v (smK go k) + v 12 c ≤ x.2.2.2) : FT v (go ++ [(c, k)]) := by
  intro j y hy
  rw [smK_app]
  by_cases d : k = j
  · rw [if_pos d]
    subst d
    rw [hx] at hy
    cases hy
    rw [sW_app]
    show sW v (smK go k) + (v 12 c + 0) ≤ _
    omega
  · rw [if_neg d]
    exact h j y hy
theorem pY_bd (w : RGv v) {tl : Int} (t0 : 0 ≤ tl) (t1 : tl ≤ 8) {c r : Nat} (r8 : r ≤ 8) : 0 ≤ pY v tl c r ∧ pY v tl c r ≤ 6144 ∧ 0 ≤ v 12 c * tl ∧ v 12 c * tl ≤ 48 := by
  have a1 := w.wid c
  have a2 := w.wy c
  have b := mul_bd (a := v 12 c) (b := tl) (A := 6) (B := 8) (by omega) (by omega) (by omega) (by omega)
  have := mul_bd (a := v 12 c * tl) (b := ((16 * (r : Int) - v 16 c).natAbs : Int)) (A := 48) (B := 128) (by omega) (by omega) (by omega) (by omega)
  unfold pY
  omega
/-- what a lawful price is at most -/
theorem prc_bd (w : RGv v) {tl : Int} (t0 : 0 ≤ tl) (t1 : tl ≤ 8) {x : Rn} {M : List Nat} {c : Nat} (hr : x.1 ≤ 8) (an : x.2.2.1 + x.2.2.2 ≤ 32) (hM : M.length ≤ 20) (hf : sW v M + v 12 c ≤ x.2.2.2) : -70000 ≤ prc v tl x M c ∧ prc v tl x M c ≤ 80000 := by
  have wc := w.wid c
  have a := tb_fit (F := fRp) w an (by decide) (M ++ [c]) 0 (by simp; omega) (by rw [sW_app]; show _ + (_ + (v 12 c + 0)) ≤ _; omega)
  have b := tb_fit (F := fRp) w an (by decide) M 0 (by omega) (by omega)
  have a0 := tb_ge (F := fRp) w an (by decide) (M ++ [c]) 0
  have b0 := tb_ge (F := fRp) w an (by decide) M 0
  have p := pY_bd w t0 t1 (c := c) hr
  rw [List.length_append] at a
  simp at a
  unfold prc
  omega
theorem chS_far (w : RGv v) {tl : Int} (t0 : 0 ≤ tl) (t1 : tl ≤ 8) {go : List (Nat × Nat)} {c : Nat} (hg : go.length ≤ 20) {its F G : Int} (hF : 100000 ≤ F) (hG : 100000 ≤ G) : ∀ (L : List Rn) (k : Nat), (∀ x, x ∈ L → x.1 ≤ 8 ∧ x.2.2.1 + x.2.2.2 ≤ 32) → chS v tl go c L k its F = chS v tl go c L k its G
  | [], k, _ => by rw [chS, chS]
  | x :: L, k, h => by
    have ih := chS_far w t0 t1 (c := c) hg hF hG (its := its) L (k + 1) (fun y hy => h y (by simp [hy]))
    have hx := h x (by simp)
    rw [chS, chS]
    by_cases e : chE v (smK go k) c x = true
    · have ee := of_decide_eq_true e
      have sl := smK_len (go := go) (k := k)
      have p := prc_bd w t0 t1 (x := x) (M := smK go k) (c := c) hx.1 hx.2 (by omega) ee.2
      rw [if_pos ⟨e, by omega⟩, if_pos ⟨e, by omega⟩]
    · rw [if_neg (fun q => e q.1), if_neg (fun q => e q.1)]
      exact ih
theorem rnL_ok (w : RGv v) : ∀ x, x ∈ rnL v → x.1 ≤ 8 ∧ x.2.2.1 + x.2.2.2 ≤ 32 := fun x hx => by
  have q := rnL_gd hx
  have ws := w.sites
  have wr := w.rows
  have := q.2.2.2.2.1
  dsimp only at this
  omega
end MKP
