/-! what one cell brings to WIRE -/
def bxs (v : Nat → Nat → Int) (n p : Nat) : Int × Int × Int × Int := bx4 (pnX v n) (pnY v n) (p : Int) (v 21 n).toNat 0 bx0
def spA (v : Nat → Nat → Int) (t : Int) (n p : Nat) (x y : Int) : Int := max (bxs v n p).2.1 (x + 16 * v 23 (n * 6 + p) + 8) - min (bxs v n p).1 (x + 16 * v 23 (n * 6 + p) + 8) + t * (max (bxs v n p).2.2.2 (y + 8) - min (bxs v n p).2.2.1 (y + 8))
def waT (v : Nat → Nat → Int) (t : Int) (c : Nat) (x y : Int) (n : Nat) : Int := if pnO v n c = -1 then 0 else v 20 n * spA v t n (pnO v n c).toNat x y
def wat (v : Nat → Nat → Int) (t : Int) (c : Nat) (x y : Int) : Int := sumF (waT v t c x y) (v 19 0).toNat 0
def rst (v : Nat → Nat → Int) (t : Int) (c : Nat) : Int := sumF (fun n => if pnO v n c = -1 then v 20 n * spn v t n else 0) (v 19 0).toNat 0
/-- the same but for where one cell is -/
def AG (v w : Nat → Nat → Int) (c : Nat) : Prop := (∀ j, j ≠ 15 → j ≠ 16 → j ≠ 17 → j ≠ 18 → w j = v j) ∧ ∀ d, d ≠ c → coX w d = coX v d ∧ coY w d = coY v d
section DEC
variable {v w : Nat → Nat → Int} {t x y : Int} {c : Nat}
theorem sumF_add {f g : Nat → Int} : ∀ (m i : Nat), sumF f m i + sumF g m i = sumF (fun n => f n + g n) m i
  | 0, _ => rfl
  | m + 1, i => by
    have := sumF_add (f := f) (g := g) m (i + 1)
    rw [sumF, sumF, sumF]
    omega
theorem sumF_cg {f g : Nat → Int} : ∀ (m i : Nat), (∀ k, i ≤ k → k < i + m → f k = g k) → sumF f m i = sumF g m i
  | 0, _, _ => rfl
  | m + 1, i, h => by rw [sumF, sumF, h i (by omega) (by omega), sumF_cg m (i + 1) (fun k h1 h2 => h k (by omega) (by omega))]
theorem sumF_sn {f : Nat → Int} : ∀ (m i : Nat), sumF f (m + 1) i = sumF f m i + f (i + m)
  | 0, i => by rw [sumF, sumF, sumF]; simp
  | m + 1, i => by
    rw [sumF, sumF_sn m (i + 1), sumF, show i + 1 + m = i + (m + 1) by omega]
    omega
theorem bx4_ag {f g f2 g2 : Nat → Int} {sk : Int} : ∀ (m i : Nat) (q : Int × Int × Int × Int), (∀ k, i ≤ k → k < i + m → ¬ (k : Int) = sk → f2 k = f k ∧ g2 k = g k) → bx4 f2 g2 sk m i q = bx4 f g sk m i q
  | 0, _, _, _ => rfl
  | m + 1, i, q, h => by
    rw [bx4, bx4, bx4_ag m (i + 1) _ (fun k h1 h2 h3 => h k (by omega) (by omega) h3)]
    by_cases e : (i : Int) = sk
    · rw [if_pos e, if_pos e]
    · have := h i (by omega) (by omega) e
      rw [if_neg e, if_neg e, this.1, this.2]
/-- a pin left aside comes in at the end -/
def bxP (q : Int × Int × Int × Int) (px py : Int) : Int × Int × Int × Int := (min q.1 px, max q.2.1 px, min q.2.2.1 py, max q.2.2.2 py)
theorem bx4_P {f g : Nat → Int} {sk px py : Int} : ∀ (m i : Nat) (q : Int × Int × Int × Int), bx4 f g sk m i (bxP q px py) = bxP (bx4 f g sk m i q) px py
  | 0, _, _ => rfl
  | m + 1, i, q => by
    rw [bx4, bx4]
    by_cases e : (i : Int) = sk
    · rw [if_pos e, if_pos e, bx4_P m (i + 1)]
    · rw [if_neg e, if_neg e, ← bx4_P m (i + 1)]
      refine congrArg (bx4 f g sk m (i + 1)) ?_
      unfold bxP
      dsimp only
      refine Prod.ext ?_ (Prod.ext ?_ (Prod.ext ?_ ?_)) <;> dsimp only <;> omega
theorem bx4_no {f g : Nat → Int} {sk : Int} : ∀ (m i : Nat) (q : Int × Int × Int × Int), (∀ k, i ≤ k → k < i + m → ¬ (k : Int) = sk) → bx4 f g sk m i q = bx4 f g (-1) m i q
  | 0, _, _, _ => rfl
  | m + 1, i, q, h => by
    rw [bx4, bx4, if_neg (h i (by omega) (by omega)), if_neg (by omega), bx4_no m (i + 1) _ (fun k h1 h2 => h k (by omega) (by omega))]
theorem bx4_in {f g : Nat → Int} {p : Nat} : ∀ (m i : Nat) (q : Int × Int × Int × Int), i ≤ p → p < i + m → bx4 f g (-1) m i q = bxP (bx4 f g (p : Int) m i q) (f p) (g p)
  | 0, _, _, h1, h2 => by omega
  | m + 1, i, q, h1, h2 => by
    rw [bx4, bx4, if_neg (by omega)]
    by_cases e : i = p
    · subst e
      rw [if_pos rfl, bx4_no (sk := (i : Int)) m (i + 1) q (fun k h3 h4 => by omega), ← bx4_P]
      rfl
    · rw [if_neg (by omega), bx4_in (p := p) m (i + 1) _ (by omega) (by omega)]
theorem pnO_rg (n : Nat) : pnO v n c = -1 ∨ ∃ p : Nat, (p : Int) < v 21 n ∧ pnO v n c = p ∧ v 22 (n * 6 + p) = c := by
  unfold pnO
  rcases fnd_rng (p := phB v n c) (v 21 n).toNat 0 with e | ⟨j, h1, h2, h3, h4, h5⟩
  · exact Or.inl e
  · refine Or.inr ⟨j, by omega, h4, ?_⟩
    unfold phB at h3
    simpa using h3
theorem pnO_no {n k : Nat} (h : pnO v n c = -1) (hk : (k : Int) < v 21 n) : ¬ v 22 (n * 6 + k) = c := by
  unfold pnO at h
  rcases fnd_rng (p := phB v n c) (v 21 n).toNat 0 with e | ⟨j, h1, h2, h3, h4, h5⟩
  · have : ∀ (m i : Nat), fnd (phB v n c) m i = -1 → ∀ k, i ≤ k → k < i + m → ¬ phB v n c k = true := by
      intro m
      induction m with
      | zero => intro i _ k h1 h2; omega
      | succ m ih =>
        intro i hf k h1 h2
        by_cases e2 : phB v n c i = true
        · rw [fnd_t e2] at hf; omega
        · rw [fnd_f e2] at hf
          by_cases e3 : k = i
          · rw [e3]; exact e2
          · exact ih (i + 1) hf k (by omega) (by omega)
    intro z
    apply this _ _ h k (by omega) (by omega)
    unfold phB
    simp [z]
  · omega
theorem pnO_cg (e : ∀ j, j = 21 ∨ j = 22 → w j = v j) (n : Nat) : pnO w n c = pnO v n c := by
  unfold pnO phB
  rw [e 21 (by omega), e 22 (by omega)]
theorem bxs_good (hw : RGv v) (h2 : N2v v) {n p : Nat} (hn : (n : Int) < v 19 0) : bxG (bxs v n p) := by
  have := h2 n hn
  unfold bxs
  obtain ⟨m, hm⟩ : ∃ m, (v 21 n).toNat = m + 2 := ⟨(v 21 n).toNat - 2, by omega⟩
  rw [hm]
  by_cases e : p = 0
  · subst e
    rw [bx4, if_pos rfl]
    exact bx4_first (fun k => pnX_bd hw n k) (fun k => pnY_bd hw n k) (by omega)
  · exact bx4_first (fun k => pnX_bd hw n k) (fun k => pnY_bd hw n k) (by omega)
theorem spn_at (hw : RGv v) (a : AG v w c) (nd : NDv v) (hc : c < 200) {n : Nat} (hn : (n : Int) < v 19 0) : v 20 n * spn w t n = (if pnO v n c = -1 then v 20 n * spn v t n else 0) + waT v t c (coX w c) (coY w c) n := by
  have e21 : w 21 = v 21 := a.1 21 (by omega) (by omega) (by omega) (by omega)
  have e22 : w 22 = v 22 := a.1 22 (by omega) (by omega) (by omega) (by omega)
  have e23 : w 23 = v 23 := a.1 23 (by omega) (by omega) (by omega) (by omega)
  have hX : ∀ k, ¬ v 22 (n * 6 + k) = c → pnX w n k = pnX v n k ∧ pnY w n k = pnY v n k := by
    intro k hk
    have hd := hw.hed (n * 6 + k)
    unfold pnX pnY
    rw [e22, e23]
    by_cases e : 200 ≤ v 22 (n * 6 + k)
    · rw [if_pos e, if_pos e, if_pos e, if_pos e]; exact ⟨rfl, rfl⟩
    · rw [if_neg e, if_neg e, if_neg e, if_neg e]
      have := a.2 (v 22 (n * 6 + k)).toNat (by omega)
      rw [this.1, this.2]; exact ⟨rfl, rfl⟩
  unfold waT
  rcases pnO_rg (v := v) (c := c) n with e | ⟨p, hp, e, hh⟩
  · rw [e, if_pos rfl, if_pos rfl, Int.add_zero]
    have eb : bxn w n = bxn v n := by
      unfold bxn
      rw [e21]
      exact bx4_ag _ _ _ (fun k h1 h2 h3 => hX k (pnO_no e (by omega)))
    unfold spn
    rw [eb]
  · rw [e, if_neg (by omega), if_neg (by omega), Int.zero_add, Int.toNat_natCast]
    have hk : ∀ k : Nat, (k : Int) < v 21 n → k ≠ p → ¬ v 22 (n * 6 + k) = c := by
      intro k h1 h2 h3
      rcases Nat.lt_or_ge k p with q | q
      · exact nd n k p hn q hp (by omega) (by omega)
      · exact nd n p k hn (by omega) h1 (by omega) (by omega)
    have eb : bxn w n = bxP (bxs v n p) (pnX w n p) (pnY w n p) := by
      unfold bxn bxs
      rw [e21, bx4_in (p := p) _ _ _ (by omega) (by omega), bx4_ag (f := pnX v n) (g := pnY v n) _ _ _ (fun k h1 h2 h3 => hX k (hk k (by omega) (by omega)))]
    have ex : pnX w n p = coX w c + (16 * v 23 (n * 6 + p) + 8) := by
      unfold pnX
      rw [e22, e23, hh, if_neg (by omega), Int.toNat_natCast]
    have ey : pnY w n p = coY w c + 8 := by
      unfold pnY
      rw [e22, hh, if_neg (by omega), Int.toNat_natCast]
    unfold spn spA
    rw [eb, ex, ey]
    unfold bxP
    dsimp only
    rw [Int.add_assoc (coX w c)]
theorem wir_at (hw : RGv v) (a : AG v w c) (nd : NDv v) (hc : c < 200) : wir w t = rst v t c + wat v t c (coX w c) (coY w c) := by
  have nN := hw.nN
  unfold wir rst wat
  rw [a.1 19 (by omega) (by omega) (by omega) (by omega), a.1 20 (by omega) (by omega) (by omega) (by omega), sumF_add]
  exact sumF_cg _ _ (fun k h1 h2 => spn_at hw a nd hc (by omega))
theorem AG.refl : AG v v c := ⟨fun _ _ _ _ _ => rfl, fun _ _ => ⟨rfl, rfl⟩⟩
theorem AG_gv {r s : Int} : AG v (gvP v c r s) c := by
  refine ⟨fun j h1 h2 h3 h4 => ?_, fun d hd => ?_⟩
  · unfold gvP
    rw [up2_of (by omega), up2_of (by omega)]
  · unfold coX coY gvP
    simp only [up2_eq]
    simp [hd]
theorem gv_co {r s : Int} (hr : r ≠ -1) : coX (gvP v c r s) c = 16 * s ∧ coY (gvP v c r s) c = 16 * r := by
  unfold coX coY gvP
  simp only [up2_eq]
  simp [hr]
/-- WIRE, were a cell's spot there -/
theorem wir_gv (hw : RGv v) (nd : NDv v) (hc : c < 200) {r s : Int} (hr : r ≠ -1) : wir (gvP v c r s) t = wir v t - wat v t c (coX v c) (coY v c) + wat v t c (16 * s) (16 * r) := by
  have a := wir_at (t := t) hw (AG_gv (r := r) (s := s)) nd hc
  have b := wir_at (t := t) hw (AG.refl (c := c)) nd hc
  rw [(gv_co hr).1, (gv_co hr).2] at a
  omega
theorem spA_bd (hw : RGv v) (h2 : N2v v) {n p : Nat} (hn : (n : Int) < v 19 0) (t0 : 0 ≤ t) (t1 : t ≤ 8) (x0 : -16 ≤ x) (x1 : x ≤ 512) (y0 : -16 ≤ y) (y1 : y ≤ 128) : 0 ≤ spA v t n p x y ∧ spA v t n p x y ≤ 2176 := by
  obtain ⟨a1, a2, a3, a4, a5, a6⟩ := bxs_good (p := p) hw h2 hn
  have tb := hw.tai (n * 6 + p)
  have := mul_bd (a := t) (b := max (bxs v n p).2.2.2 (y + 8) - min (bxs v n p).2.2.1 (y + 8)) (A := 8) (B := 144) t0 t1 (by omega) (by omega)
  unfold spA
  omega
theorem wat_bd (g : WG v) (t0 : 0 ≤ t) (t1 : t ≤ 8) (x0 : -16 ≤ x) (x1 : x ≤ 512) (y0 : -16 ≤ y) (y1 : y ≤ 128) : 0 ≤ wat v t c x y ∧ wat v t c x y ≤ 313344 := by
  have nN := g.1.nN
  have := sumF_bd (f := waT v t c x y) (B := 19584) (by decide) (v 19 0).toNat 0 (fun j h1 h2 => by
    unfold waT
    by_cases e : pnO v j c = -1
    · rw [if_pos e]; omega
    · rw [if_neg e]
      have w1 := g.1.wgt j
      have w2 := spA_bd (p := (pnO v j c).toNat) g.1 g.2.2 (n := j) (t := t) (by omega) t0 t1 x0 x1 y0 y1
      exact mul_bd w1.1 w1.2 w2.1 w2.2)
  unfold wat
  omega
end DEC
