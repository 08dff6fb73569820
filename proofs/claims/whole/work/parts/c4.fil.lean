/-! FILLERS -/
def fG (w : Int) (gap : Nat) : Int := if w = 4 then ((gap / 4 : Nat) : Int) else if w = 2 then ((gap % 4 / 2 : Nat) : Int) else ((gap % 2 : Nat) : Int)
def fgS (v : Nat → Nat → Int) (r : Nat) (w : Int) : Nat → Nat → Nat → Int
  | 0, _, gap => fG w gap
  | m + 1, s, gap => if lst (ctB v r s (-1) 0) (v 11 0).toNat 0 (-1) = -1 then fgS v r w m (s + 1) (gap + 1) else fG w gap + fgS v r w m (s + 1) 0
def fgL (v : Nat → Nat → Int) (w : Int) (e : Nat) : List Nat → Nat → Int
  | [], fr => fG w (e - fr)
  | c :: L, fr => fG w ((v 18 c).toNat - fr) + fgL v w e L (v 18 c + v 12 c).toNat
def fgR (v : Nat → Nat → Int) (w : Int) : List Rn → Int
  | [] => 0
  | x :: L => fgS v x.1 w x.2.2.2 x.2.2.1 0 + fgR v w L
def spFill (s : AS) (w : Int) : Int := if w = 1 ∨ w = 2 ∨ w = 4 then fgR s.1 w (rnL s.1) else -1
theorem fG_bd {w : Int} {gap : Nat} : 0 ≤ fG w gap ∧ fG w gap ≤ gap := by
  unfold fG
  split
  · omega
  · split <;> omega
theorem fG_0 {w : Int} : fG w 0 = 0 := by
  unfold fG
  split
  · rfl
  · split <;> rfl
theorem fgS_bd {v : Nat → Nat → Int} {r : Nat} {w : Int} : ∀ (m s gap : Nat), 0 ≤ fgS v r w m s gap ∧ fgS v r w m s gap ≤ (m : Int) + gap
  | 0, s, gap => by
    have := fG_bd (w := w) (gap := gap)
    rw [fgS]
    omega
  | m + 1, s, gap => by
    have a := fgS_bd (v := v) (r := r) (w := w) m (s + 1) (gap + 1)
    have b := fgS_bd (v := v) (r := r) (w := w) m (s + 1) 0
    have := fG_bd (w := w) (gap := gap)
    rw [fgS]
    split <;> omega
theorem fg_B {v : Nat → Nat → Int} (g : GEO v) {w : Int} {r c : Nat} (hc : (c : Int) < v 11 0) (hr : v 17 c = r) : ∀ (k t m : Nat), v 18 c < t → (t : Int) + k = v 18 c + v 12 c → fgS v r w (k + m) t 0 = fgS v r w m (t + k) 0 ∧ lyL v r (k + m) t = lyL v r m (t + k)
  | 0, t, m, _, _ => by
    rw [Nat.zero_add, Nat.add_zero]
    exact ⟨rfl, rfl⟩
  | k + 1, t, m, h1, h2 => by
    have ih := fg_B g (w := w) hc hr k (t + 1) m (by omega) (by omega)
    have e := ct_is g hc hr (s := t) (by omega) (by omega)
    rw [show k + 1 + m = k + m + 1 by omega, fgS, lyL, e, if_neg (by omega), if_neg (fun q => by have := q.2; rw [Int.toNat_natCast] at this; omega), fG_0, Int.zero_add, ih.1, ih.2, show t + 1 + k = t + (k + 1) by omega]
    exact ⟨rfl, rfl⟩
theorem fg_A {v : Nat → Nat → Int} (g : GEO v) {w : Int} {r e : Nat} : ∀ (M m s gap : Nat), m ≤ M → s + m = e → gap ≤ s → (∀ x : Nat, (x : Int) < v 11 0 → v 17 x = r → v 18 x < e → (s : Int) < v 18 x + v 12 x → (s : Int) ≤ v 18 x ∧ v 18 x + v 12 x ≤ e) → fgS v r w m s gap = fgL v w e (lyL v r m s) (s - gap)
  | M, 0, s, gap, _, hs, hg, _ => by
    rw [fgS, lyL, fgL, show e - (s - gap) = gap by omega]
  | 0, m + 1, s, gap, hM, hs, hg, H => by omega
  | M + 1, m + 1, s, gap, hM, hs, hg, H => by
    by_cases e1 : lst (ctB v r s (-1) 0) (v 11 0).toNat 0 (-1) = -1
    · have ih := fg_A g (w := w) (r := r) (e := e) M m (s + 1) (gap + 1) (by omega) (by omega) (by omega) (fun x hx hr he hs2 => by
        have := H x hx hr he (by omega)
        refine ⟨?_, this.2⟩
        by_cases d : v 18 x = s
        · exfalso
          have cw := (g.cel hx).1
          have := ct_is g hx hr (s := s) (by omega) (by omega)
          omega
        · omega)
      rw [fgS, lyL, if_pos e1, if_neg (fun q => q.1 e1), ih, show s + 1 - (gap + 1) = s - gap by omega]
    · obtain ⟨c, c1, c2, c3, c4, c5⟩ := ct_at e1
      have cN : (c : Int) < v 11 0 := by omega
      have cw := (g.cel cN).1
      have h1 := H c cN c3 (by omega) (by omega)
      have es : v 18 c = s := by omega
      obtain ⟨k, hk⟩ : ∃ k : Nat, v 12 c = (k : Int) + 1 := ⟨(v 12 c - 1).toNat, by omega⟩
      obtain ⟨m2, hm2⟩ : ∃ m2, m = k + m2 := ⟨m - k, by omega⟩
      have B := fg_B g (w := w) cN c3 k (s + 1) m2 (by omega) (by omega)
      have ih := fg_A g (w := w) (r := r) (e := e) M m2 (s + 1 + k) 0 (by omega) (by omega) (by omega) (fun x hx hr he hs2 => by
        have := H x hx hr he (by omega)
        refine ⟨?_, this.2⟩
        by_cases d : ((s + 1 + k : Nat) : Int) ≤ v 18 x
        · exact d
        · exfalso
          have xc : x ≠ c := fun q => by rw [q] at hs2; omega
          have := g.dis hx cN xc (by omega) (by omega)
          omega)
      rw [fgS, lyL, if_neg e1, c1, Int.toNat_natCast, if_pos ⟨by omega, es⟩, fgL, hm2, B.1, B.2, ih, show (v 18 c).toNat - (s - gap) = gap by omega, show (v 18 c + v 12 c).toNat = s + 1 + k - 0 by omega]
theorem fg_eq {v : Nat → Nat → Int} (g : GEO v) (w : RGv v) {ww : Int} {r a n : Nat} {f : Int} (f1 : -1 ≤ f) (hr : gdR (fun s => decide (own v r s = f)) (v 0 1).toNat (a, n)) : fgS v r ww n a 0 = fgL v ww (a + n) (lyL v r n a) a := by
  refine fg_A g n n a 0 (by omega) rfl (by omega) (fun x hx hx2 he hs => ?_)
  have xl : v 14 x = 0 := by
    rcases w.fix x with q | q
    · exact q
    · exfalso
      obtain ⟨r1, r2, r3, r4, r5⟩ := hr
      dsimp only at r1 r2 r3 r4 r5
      obtain ⟨k, hk⟩ : ∃ k : Nat, (k : Int) = max (a : Int) (v 18 x) := ⟨(max (a : Int) (v 18 x)).toNat, by omega⟩
      have e2 := of_decide_eq_true (r3 k (by omega) (by omega))
      have cw := (g.cel hx).1
      have : own v r k = -2 := by
        unfold own
        rw [if_pos (Or.inr (anyB_iff.mpr ⟨x, by omega, by
          unfold fxB laB
          simp only [Bool.and_eq_true, Bool.not_eq_true', decide_eq_true_eq, decide_eq_false_iff_not]
          omega⟩))]
      omega
  have := in_run g w hr hx xl (by
    unfold laB
    simp only [Bool.and_eq_true, decide_eq_true_eq]
    omega)
  omega
theorem fgR_bd {v : Nat → Nat → Int} {w : Int} : ∀ L : List Rn, (∀ x, x ∈ L → x.2.2.2 ≤ 32) → 0 ≤ fgR v w L ∧ fgR v w L ≤ 32 * (L.length : Int)
  | [], _ => by rw [fgR]; simp
  | x :: L, h => by
    have a := fgS_bd (v := v) (r := x.1) (w := w) x.2.2.2 x.2.2.1 0
    have b := fgR_bd (v := v) (w := w) L (fun y hy => h y (by simp [hy]))
    have := h x (by simp)
    rw [fgR, List.length_cons]
    omega
theorem fgR_app {v : Nat → Nat → Int} {w : Int} {B : List Rn} : ∀ A : List Rn, fgR v w (A ++ B) = fgR v w A + fgR v w B
  | [] => by rw [fgR, Int.zero_add]; rfl
  | x :: A => by rw [List.cons_append, fgR, fgR, fgR_app A]; omega
/-- each run of the plan is one -/
theorem rnL_gd {v : Nat → Nat → Int} {x : Rn} (hx : x ∈ rnL v) : x.1 < (v 0 0).toNat ∧ -1 ≤ x.2.1 ∧ x.2.1 < max 0 (v 6 0) ∧ gdR (fun s => decide (own v x.1 s = x.2.1)) (v 0 1).toNat (x.2.2.1, x.2.2.2) := by
  have a := rnA_in _ x hx
  have b := rnF_in _ x a.2
  refine ⟨a.1, b.2.2.1, by omega, rnR_gd _ b.2.2.2⟩
