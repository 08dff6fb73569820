/-! TO START -/
theorem xor_sg {x y : Int} (hx : inR x) (hy : inR y) (y0 : 0 ≤ y) : (0 ≤ (Int32.ofInt x ^^^ Int32.ofInt y).toInt) ↔ 0 ≤ x := by
  have m := BitVec.msb_eq_toInt (x := (Int32.ofInt x ^^^ Int32.ofInt y).toBitVec)
  rw [Int32.toBitVec_xor, BitVec.msb_xor, BitVec.msb_eq_toInt, BitVec.msb_eq_toInt, ← Int32.toBitVec_xor, Int32.toInt_toBitVec, Int32.toInt_toBitVec, Int32.toInt_toBitVec, i32_in hx, i32_in hy, decide_eq_false (show ¬ y < 0 by omega), Bool.xor_false, decide_eq_decide] at m
  omega
theorem ed_neg {x y : Int} (hx : x < 0) (hy : 0 < y) : ∃ e r : Int, (0 ≤ e ∧ 0 ≤ r ∧ r < y ∧ -x = y * e + r) ∧ x.tdiv y = -e ∧ (y - 1 - x) / y = (if r = 0 then e else e + 1) ∧ x / y = -(if r = 0 then e else e + 1) := by
  refine ⟨(-x) / y, (-x) % y, ⟨Int.ediv_nonneg (by omega) (by omega), Int.emod_nonneg _ (by omega), Int.emod_lt_of_pos _ hy, (Int.mul_ediv_add_emod (-x) y).symm⟩, ?_, ?_, ?_⟩
  · have : (-(-x)).tdiv y = -((-x).tdiv y) := Int.neg_tdiv (-x) y
    rw [Int.neg_neg] at this
    rw [this, td_n (by omega)]
  all_goals
    have h0 := Int.mul_ediv_add_emod (-x) y
    have h1 := Int.emod_nonneg (-x) (show y ≠ 0 by omega)
    have h2 := Int.emod_lt_of_pos (-x) hy
    generalize (-x) / y = e at *
    generalize (-x) % y = r at *
  · by_cases q : r = 0
    · rw [if_pos q]
      exact ((Int.ediv_emod_unique (q := e) (r := y - 1) hy).mpr ⟨by omega, by omega, by omega⟩).1
    · rw [if_neg q]
      refine ((Int.ediv_emod_unique (q := e + 1) (r := r - 1) hy).mpr ⟨?_, by omega, by omega⟩).1
      rw [Int.mul_add]; omega
  · by_cases q : r = 0
    · rw [if_pos q]
      refine ((Int.ediv_emod_unique (q := -e) (r := 0) hy).mpr ⟨?_, by omega, by omega⟩).1
      rw [Int.mul_neg]; omega
    · rw [if_neg q]
      refine ((Int.ediv_emod_unique (q := -(e + 1)) (r := y - r) hy).mpr ⟨?_, by omega, by omega⟩).1
      rw [Int.mul_neg, Int.mul_add]; omega
def stI (v : Nat → Nat → Int) (n p : Nat) : Nat → Nat → Int × Int × Int → Int × Int × Int
  | 0, _, q => q
  | m + 1, k, q => stI v n p m (k + 1) (if k = p then q else (q.1 + v 20 n, q.2.1 + v 20 n * (pwX v n k - (16 * v 23 (n * 6 + p) + 8)), q.2.2 + v 20 n * (pwY v n k - 8)))
def stO (v : Nat → Nat → Int) (c : Nat) : Nat → Nat → Int × Int × Int → Int × Int × Int
  | 0, _, q => q
  | m + 1, n, q => stO v c m (n + 1) (if pnO v n c = -1 then q else stI v n (pnO v n c).toNat (v 21 n).toNat 0 q)
def stQ (v : Nat → Nat → Int) (c : Nat) : Int × Int × Int := stO v c (v 19 0).toNat 0 (0, 0, 0)
def sttC (v : Nat → Nat → Int) (c : Nat) : Nat → Nat → Int := if 0 < (stQ v c).1 then up2 (up2 v 15 c (hdX v c ((stQ v c).2.1 / (stQ v c).1))) 16 c (hdY v c ((stQ v c).2.2 / (stQ v c).1)) else v
def stRp : Nat → Nat → (Nat → Nat → Int) → (Nat → Nat → Int)
  | 0, _, v => v
  | m + 1, i, v => stRp m (i + 1) (if v 14 i = 0 then sttC v i else v)
def stN : Nat → (Nat → Nat → Int) → (Nat → Nat → Int)
  | 0, v => v
  | m + 1, v => stN m (stRp (v 11 0).toNat 0 v)
def dfB (v w : Nat → Nat → Int) (c : Nat) : Bool := !(decide (w 15 c = v 15 c) && decide (w 16 c = v 16 c))
def spStart (s : AS) (n : Int) : Int × AS := if ¬ (1 ≤ n ∧ n ≤ 20) then refS s (-1) else actS s 10 (cntB (dfB s.1 (stN n.toNat s.1)) (s.1 11 0).toNat 0) (stN n.toNat s.1)
/-- the sums stay small -/
def qB (q : Int × Int × Int) (k : Int) : Prop := (0 ≤ q.1 ∧ q.1 ≤ k * 9) ∧ (-(k * 13896) ≤ q.2.1 ∧ q.2.1 ≤ k * 13896) ∧ (-(k * 13896) ≤ q.2.2 ∧ q.2.2 ≤ k * 13896)
section STP
variable {v : Nat → Nat → Int} {c n p : Nat}
theorem stI_1 {q : Int × Int × Int} {K : Int} (g : RGv v) {k : Nat} (hq : qB q K) : (-13896 ≤ v 20 n * (pwX v n k - (16 * v 23 (n * 6 + p) + 8)) ∧ v 20 n * (pwX v n k - (16 * v 23 (n * 6 + p) + 8)) ≤ 13896) ∧ (-13896 ≤ v 20 n * (pwY v n k - 8) ∧ v 20 n * (pwY v n k - 8) ≤ 13896) ∧ qB (q.1 + v 20 n, q.2.1 + v 20 n * (pwX v n k - (16 * v 23 (n * 6 + p) + 8)), q.2.2 + v 20 n * (pwY v n k - 8)) (K + 1) := by
  have w := g.wgt n
  have a := pwX_bd g n k
  have b := pwY_bd g n k
  have t := g.tai (n * 6 + p)
  generalize hz : pwX v n k - (16 * v 23 (n * 6 + p) + 8) = z
  generalize hy : pwY v n k - 8 = y
  have c1 := mul_bd (a := v 20 n) (b := z + 1544) (A := 9) (B := 3088) w.1 w.2 (by omega) (by omega)
  have c2 : v 20 n * (z + 1544) = v 20 n * z + v 20 n * 1544 := Int.mul_add _ _ _
  have c3 := mul_bd (a := v 20 n) (b := 1544 - z) (A := 9) (B := 3088) w.1 w.2 (by omega) (by omega)
  have c4 : v 20 n * (1544 - z) = v 20 n * 1544 - v 20 n * z := Int.mul_sub _ _ _
  have d1 := mul_bd (a := v 20 n) (b := y + 1544) (A := 9) (B := 3088) w.1 w.2 (by omega) (by omega)
  have d2 : v 20 n * (y + 1544) = v 20 n * y + v 20 n * 1544 := Int.mul_add _ _ _
  have d3 := mul_bd (a := v 20 n) (b := 1544 - y) (A := 9) (B := 3088) w.1 w.2 (by omega) (by omega)
  have d4 : v 20 n * (1544 - y) = v 20 n * 1544 - v 20 n * y := Int.mul_sub _ _ _
  obtain ⟨q1, q2, q3⟩ := hq
  refine ⟨by omega, by omega, ?_, ?_, ?_⟩ <;> dsimp only <;> rw [Int.add_mul] <;> omega
theorem qB_m {q : Int × Int × Int} {K L : Int} (h : qB q K) (hl : K ≤ L) : qB q L := by
  obtain ⟨q1, q2, q3⟩ := h
  refine ⟨?_, ?_, ?_⟩ <;> omega
theorem stI_b (g : RGv v) : ∀ (m k : Nat) (q : Int × Int × Int) (K : Int), qB q K → qB (stI v n p m k q) (K + m)
  | 0, _, q, K, h => by rw [stI]; exact qB_m h (by omega)
  | m + 1, k, q, K, h => by
    rw [stI]
    by_cases e : k = p
    · rw [if_pos e]
      exact qB_m (stI_b g m (k + 1) q K h) (by omega)
    · rw [if_neg e]
      exact qB_m (stI_b g m (k + 1) _ (K + 1) (stI_1 g h).2.2) (by omega)
theorem hdX_bd (g : RGv v) (x : Int) : 0 ≤ hdX v c x ∧ hdX v c x ≤ 16 * (v 0 1 - v 12 c) ∧ 16 * (v 0 1 - v 12 c) ≤ 512 := by
  have a := g.sites
  have b := g.wid c
  unfold hdX
  omega
theorem hdY_bd (g : RGv v) (x : Int) : 0 ≤ hdY v c x ∧ hdY v c x ≤ 16 * (v 0 0 - 1) ∧ 16 * (v 0 0 - 1) ≤ 128 := by
  have a := g.rows
  unfold hdY
  omega
theorem GEO_wt (g : GEO v) {x y : Int} (hx : v 14 c = 0) (h1 : x ≤ 16 * (v 0 1 - v 12 c)) (h2 : y ≤ 16 * (v 0 0 - 1)) : GEO (up2 (up2 v 15 c x) 16 c y) := by
  have eo : ∀ j, j ≠ 15 → j ≠ 16 → up2 (up2 v 15 c x) 16 c y j = v j := fun j q1 q2 => by rw [up2_of q2, up2_of q1]
  have e15 : ∀ d, up2 (up2 v 15 c x) 16 c y 15 d = if d = c then x else v 15 d := fun d => by rw [up2_oth (by omega), up2_same]
  have e16 : ∀ d, up2 (up2 v 15 c x) 16 c y 16 d = if d = c then y else v 16 d := fun d => by rw [up2_same, up2_oth (by omega)]
  have gf : ∀ d r s, gfB (up2 (up2 v 15 c x) 16 c y) d r s = gfB v d r s := by
    intro d r s
    unfold gfB icB ovV
    simp only [Nat.reduceAdd]
    rw [eo 12 (by omega) (by omega), eo 13 (by omega) (by omega), eo 6 (by omega) (by omega), eo 0 (by omega) (by omega), eo 1 (by omega) (by omega), eo 7 (by omega) (by omega), eo 8 (by omega) (by omega), eo 9 (by omega) (by omega), eo 10 (by omega) (by omega), eo 2 (by omega) (by omega), eo 3 (by omega) (by omega), eo 4 (by omega) (by omega), eo 5 (by omega) (by omega)]
  obtain ⟨g1, g2, g3, g4, g5, g6, g7, g8⟩ := g
  unfold GEO
  simp only [gf, e15, e16]
  rw [eo 11 (by omega) (by omega), eo 12 (by omega) (by omega), eo 13 (by omega) (by omega), eo 6 (by omega) (by omega), eo 0 (by omega) (by omega), eo 1 (by omega) (by omega), eo 7 (by omega) (by omega), eo 8 (by omega) (by omega), eo 9 (by omega) (by omega), eo 10 (by omega) (by omega), eo 2 (by omega) (by omega), eo 3 (by omega) (by omega), eo 4 (by omega) (by omega), eo 5 (by omega) (by omega), eo 14 (by omega) (by omega), eo 17 (by omega) (by omega), eo 18 (by omega) (by omega)]
  refine ⟨fun d hd => ?_, g2, g3, g4, fun d hd h => ?_, g6, g7, g8⟩
  · have := g1 d hd
    by_cases q : d = c
    · subst q
      simp only [if_true_x]
      exact ⟨this.1, this.2.1, h1, h2⟩
    · simp only [q, if_false_x]
      exact this
  · have q : ¬ d = c := fun q => by rw [q, hx] at h; omega
    simp only [q, if_false_x]
    exact g5 d hd h
theorem Gd_wt (g : Gd v) {x y : Int} (hx : v 14 c = 0) (x0 : 0 ≤ x) (y0 : 0 ≤ y) (h1 : x ≤ 16 * (v 0 1 - v 12 c)) (h2 : y ≤ 16 * (v 0 0 - 1)) : Gd (up2 (up2 v 15 c x) 16 c y) := by
  have a := g.rg.sites
  have b := g.rg.wid c
  have d := g.rg.rows
  exact ⟨(g.rg.u (by unfold rgP; omega)).u (by unfold rgP; omega), (g.n2.u (by omega)).u (by omega), (g.nd.u (by omega)).u (by omega), (g.nt.u (by omega)).u (by omega), GEO_wt g.geo hx h1 h2⟩
theorem sttC_gd (g : Gd v) (hx : v 14 c = 0) : Gd (sttC v c) := by
  unfold sttC
  by_cases e : 0 < (stQ v c).1
  · rw [if_pos e]
    have a := hdX_bd (c := c) g.rg ((stQ v c).2.1 / (stQ v c).1)
    have b := hdY_bd (c := c) g.rg ((stQ v c).2.2 / (stQ v c).1)
    exact Gd_wt g hx a.1 b.1 a.2.1 b.2.1
  · rw [if_neg e]; exact g
theorem sttC_o {j : Nat} (hj : j ≠ 15 ∧ j ≠ 16) : sttC v c j = v j := by
  unfold sttC
  by_cases e : 0 < (stQ v c).1
  · rw [if_pos e, up2_of (by omega), up2_of (by omega)]
  · rw [if_neg e]
theorem stRp_gd : ∀ (m i : Nat) (v : Nat → Nat → Int), Gd v → Gd (stRp m i v)
  | 0, _, _, g => g
  | m + 1, i, v, g => by
    rw [stRp]
    refine stRp_gd m (i + 1) _ ?_
    by_cases e : v 14 i = 0
    · rw [if_pos e]; exact sttC_gd g e
    · rw [if_neg e]; exact g
theorem stRp_o {j : Nat} (hj : j ≠ 15 ∧ j ≠ 16) : ∀ (m i : Nat) (v : Nat → Nat → Int), stRp m i v j = v j
  | 0, _, _ => rfl
  | m + 1, i, v => by
    rw [stRp, stRp_o hj m (i + 1)]
    by_cases e : v 14 i = 0
    · rw [if_pos e, sttC_o hj]
    · rw [if_neg e]
theorem stN_gd : ∀ (m : Nat) (v : Nat → Nat → Int), Gd v → Gd (stN m v)
  | 0, _, g => g
  | m + 1, v, g => by rw [stN]; exact stN_gd m _ (stRp_gd _ _ _ g)
theorem stN_o {j : Nat} (hj : j ≠ 15 ∧ j ≠ 16) : ∀ (m : Nat) (v : Nat → Nat → Int), stN m v j = v j
  | 0, _ => rfl
  | m + 1, v => by rw [stN, stN_o hj m, stRp_o hj]
end STP
