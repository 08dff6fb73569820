/-! LEAST: the table of a run with some cells in their order; F stands for 'no room' -/
def cAt (v : Nat → Nat → Int) (c s : Nat) : Int := v 12 c * ((16 * (s : Int) - v 15 c).natAbs : Int)
def tbF (v : Nat → Nat → Int) (a n : Nat) (F : Int) (c : Nat) (T : Nat → Int) (s : Nat) : Int := if (s : Int) + v 12 c ≤ n then (if T (s + (v 12 c).toNat) = F then F else cAt v c (a + s) + T (s + (v 12 c).toNat)) else F
def dn (f : Nat → Int) (F : Int) (n : Nat) : Nat → Int
  | 0 => F
  | k + 1 => min (dn f F n k) (f (n - k))
def tb (v : Nat → Nat → Int) (a n : Nat) (F : Int) : List Nat → Nat → Int
  | [], _ => 0
  | c :: L, s => dn (tbF v a n F c (tb v a n F L)) F n (n - s + 1)
section TB
variable {v : Nat → Nat → Int} {a n : Nat} {F G : Int}
theorem dn_le {f : Nat → Int} : ∀ k, dn f F n k ≤ F
  | 0 => by rw [dn]; omega
  | k + 1 => by
    have := dn_le (f := f) k
    rw [dn]
    omega
theorem dn_ge {f : Nat → Int} {B : Int} (hF : B ≤ F) (h : ∀ s, B ≤ f s) : ∀ k, B ≤ dn f F n k
  | 0 => by rw [dn]; exact hF
  | k + 1 => by
    have := dn_ge (f := f) hF h k
    have := h (n - k)
    rw [dn]
    omega
theorem cAt_bd (w : RGv v) {c s : Nat} (hs : s ≤ 32) : 0 ≤ cAt v c s ∧ cAt v c s ≤ 3072 := by
  have a1 := w.wid c
  have a2 := w.wx c
  have := mul_bd (a := v 12 c) (b := ((16 * (s : Int) - v 15 c).natAbs : Int)) (A := 6) (B := 512) (by omega) (by omega) (by omega) (by omega)
  unfold cAt
  omega
theorem tb_le : ∀ (L : List Nat) (s : Nat), 0 ≤ F → tb v a n F L s ≤ F
  | [], s, h => by rw [tb]; exact h
  | c :: L, s, h => by rw [tb]; exact dn_le _
theorem tb_ge (w : RGv v) (an : a + n ≤ 32) (hF : 0 ≤ F) : ∀ (L : List Nat) (s : Nat), 0 ≤ tb v a n F L s
  | [], s => by rw [tb]; omega
  | c :: L, s => by
    rw [tb]
    refine dn_ge hF (fun s => ?_) _
    have ih := tb_ge w an hF L (s + (v 12 c).toNat)
    unfold tbF
    split
    · have wc := w.wid c
      have := cAt_bd w (c := c) (s := a + s) (by omega)
      split
      · exact hF
      · omega
    · exact hF
/-- one with two measures of 'no room' -/
theorem dn_rel {f g : Nat → Int} {B : Int} (BF : B < F) (BG : B < G) (h : ∀ s, (f s = g s ∧ f s ≤ B) ∨ (f s = F ∧ g s = G)) : ∀ k, (dn f F n k = dn g G n k ∧ dn f F n k ≤ B) ∨ (dn f F n k = F ∧ dn g G n k = G)
  | 0 => Or.inr ⟨rfl, rfl⟩
  | k + 1 => by
    have ih := dn_rel BF BG h k
    have := h (n - k)
    rw [dn, dn]
    omega
theorem tb_rel (w : RGv v) (an : a + n ≤ 32) (hF : 100000 ≤ F) (hG : 100000 ≤ G) : ∀ (L : List Nat) (s : Nat), L.length ≤ 21 → (tb v a n F L s = tb v a n G L s ∧ tb v a n F L s ≤ 3072 * L.length) ∨ (tb v a n F L s = F ∧ tb v a n G L s = G)
  | [], s, _ => by
    rw [tb, tb]
    simp
  | c :: L, s, hl => by
    rw [List.length_cons] at hl
    have ih := fun s => tb_rel w an hF hG L s (by omega)
    rw [tb, tb]
    refine dn_rel (B := 3072 * ((c :: L).length : Int)) (by rw [List.length_cons]; omega) (by rw [List.length_cons]; omega) (fun s => ?_) _
    rw [List.length_cons]
    have wc := w.wid c
    have ih := ih (s + (v 12 c).toNat)
    unfold tbF
    by_cases e : (s : Int) + v 12 c ≤ n
    · have := cAt_bd w (c := c) (s := a + s) (by omega)
      rw [if_pos e, if_pos e]
      rcases ih with ih | ih
      · rw [if_neg (by omega), if_neg (by omega)]
        left
        omega
      · rw [if_pos ih.1, if_pos ih.2]
        right
        exact ⟨rfl, rfl⟩
    · rw [if_neg e, if_neg e]
      right
      exact ⟨rfl, rfl⟩
theorem dn_mn {f : Nat → Int} : ∀ (k j : Nat), j < k → dn f F n k ≤ f (n - j)
  | 0, j, h => by omega
  | k + 1, j, h => by
    rw [dn]
    by_cases e : j = k
    · rw [e]
      omega
    · have := dn_mn (f := f) k j (by omega)
      omega
/-- where they fit, there is room -/
def sW (v : Nat → Nat → Int) : List Nat → Int
  | [] => 0
  | c :: L => v 12 c + sW v L
theorem sW_ge (w : RGv v) : ∀ L, 0 ≤ sW v L
  | [] => Int.le_refl _
  | c :: L => by
    have := sW_ge w L
    have := w.wid c
    rw [sW]
    omega
theorem sW_app {L : List Nat} : ∀ M : List Nat, sW v (M ++ L) = sW v M + sW v L
  | [] => by rw [sW, Int.zero_add]; rfl
  | c :: M => by rw [List.cons_append, sW, sW, sW_app M]; omega
theorem tb_fit (w : RGv v) (an : a + n ≤ 32) (hF : 100000 ≤ F) : ∀ (L : List Nat) (s : Nat), L.length ≤ 21 → (s : Int) + sW v L ≤ n → tb v a n F L s ≤ 3072 * L.length
  | [], s, _, _ => by
    rw [tb]
    simp
  | c :: L, s, hl, hf => by
    rw [List.length_cons] at hl
    rw [sW] at hf
    have wc := w.wid c
    have sg := sW_ge w L
    have ih := tb_fit w an hF L (s + (v 12 c).toNat) (by omega) (by omega)
    have := cAt_bd w (c := c) (s := a + s) (by omega)
    have m := dn_mn (f := tbF v a n F c (tb v a n F L)) (F := F) (n := n) (n - s + 1) (n - s) (by omega)
    rw [show n - (n - s) = s by omega] at m
    rw [tb, List.length_cons]
    refine Int.le_trans m ?_
    unfold tbF
    rw [if_pos (by omega), if_neg (by omega)]
    omega
theorem tb_same (w : RGv v) (an : a + n ≤ 32) (hF : 100000 ≤ F) (hG : 100000 ≤ G) {L : List Nat} {s : Nat} (hl : L.length ≤ 21) (hf : (s : Int) + sW v L ≤ n) : tb v a n F L s = tb v a n G L s := by
  have h1 := tb_fit (F := F) w an hF L s hl hf
  have h2 := tb_rel (F := F) (G := G) w an hF hG L s hl
  omega
end TB
