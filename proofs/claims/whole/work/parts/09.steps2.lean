section SND
variable {p : Program} {l : Launch} {e : Env} {R : Room} {s : State} {m : MethodId} {args : Array Value} {below : List Frame} {meth : Method} {c : Code} {H : Heap} {locs : List Loc} {cells slots : Nat} {Q : State → Prop}
variable {G : xG} {X : xL} {k ip : Nat} {i : xI} {ls : List (Option xV)} {st : List xV} {h : xH} {q : xS} {arr : Array Slot}
theorem i32_add {x y : Int} : Int32.ofInt x + Int32.ofInt y = Int32.ofInt (x + y) := (Int32.ofInt_add x y).symm
theorem i32_rem {x y : Int} (hx : inR x) (hy : inR y) : Int32.ofInt x - Int32.ofInt x / Int32.ofInt y * Int32.ofInt y = Int32.ofInt (x.tmod y) := by
  rw [← Int32.ofInt_tdiv (by show -2147483648 ≤ x; omega) (by show x ≤ 2147483647; omega) (by show -2147483648 ≤ y; omega) (by show y ≤ 2147483647; omega), ← Int32.ofInt_mul, ← Int32.ofInt_sub]
  congr 1
  have := Int.tmod_add_mul_tdiv x y
  rw [Int.mul_comm] at this
  omega
theorem i64_rem {x y : Int} (hx : inL x) (hy : inL y) : Int64.ofInt x - Int64.ofInt x / Int64.ofInt y * Int64.ofInt y = Int64.ofInt (x.tmod y) := by
  rw [← Int64.ofInt_tdiv (by show -9223372036854775808 ≤ x; omega) (by show x ≤ 9223372036854775807; omega) (by show -9223372036854775808 ≤ y; omega) (by show y ≤ 9223372036854775807; omega), ← Int64.ofInt_mul, ← Int64.ofInt_sub]
  congr 1
  have := Int.tmod_add_mul_tdiv x y
  rw [Int.mul_comm] at this
  omega
theorem tmod_in {x y : Int} (hx : inR x) : inR (x.tmod y) := by
  have h1 := Int.natAbs_tmod x y
  have h2 : x.natAbs % y.natAbs ≤ x.natAbs := Nat.mod_le _ _
  rcases Int.lt_or_le x 0 with h | h
  · have h3 := Int.tmod_nonneg (a := -x) y (by omega)
    rw [Int.neg_tmod] at h3
    constructor <;> omega
  · have h3 := Int.tmod_nonneg (a := x) y h
    constructor <;> omega
theorem tmod_inL {x y : Int} (hx : inL x) : inL (x.tmod y) := by
  have h1 := Int.natAbs_tmod x y
  have h2 : x.natAbs % y.natAbs ≤ x.natAbs := Nat.mod_le _ _
  rcases Int.lt_or_le x 0 with h | h
  · have h3 := Int.tmod_nonneg (a := -x) y (by omega)
    rw [Int.neg_tmod] at h3
    constructor <;> omega
  · have h3 := Int.tmod_nonneg (a := x) y h
    constructor <;> omega
theorem fb_bmod0 {z : Int} (h : inR z) : z.bmod (2 ^ 32) = z := by
  have := i32_in h
  rw [Int32.toInt_ofInt] at this
  exact this
theorem i32_ne0 {x : Int} (hx : inR x) (h : x ≠ 0) : ¬ Int32.ofInt x = 0 := by
  intro e
  rw [show (0 : Int32) = Int32.ofInt 0 from rfl, i32_eq hx ⟨by omega, by omega⟩] at e
  exact h e
theorem i64_ne0 {x : Int} (hx : inL x) (h : x ≠ 0) : ¬ Int64.ofInt x = 0 := by
  intro e
  have := congrArg Int64.toInt e
  rw [i64_in hx] at this
  exact h this
theorem i64_lt {x y : Int} (hx : inL x) (hy : inL y) : Int64.ofInt x < Int64.ofInt y ↔ x < y := by
  rw [Int64.lt_iff_toInt_lt, i64_in hx, i64_in hy]
theorem i64_eq {x y : Int} (hx : inL x) (hy : inL y) : Int64.ofInt x = Int64.ofInt y ↔ x = y := by
  rw [← Int64.toInt_inj, i64_in hx, i64_in hy]
theorem cm3_in (x y : Int) : inR (if y < x then 1 else if x = y then 0 else -1) := by
  by_cases h1 : y < x
  · rw [if_pos h1]; decide
  · rw [if_neg h1]
    by_cases h2 : x = y
    · rw [if_pos h2]; decide
    · rw [if_neg h2]; decide
theorem lcm_mv {x y : Int} (hx : inL x) (hy : inL y) : lg_cmp (Int64.ofInt x) (Int64.ofInt y) = Int32.ofInt (if y < x then 1 else if x = y then 0 else -1) := by
  unfold lg_cmp
  by_cases h1 : y < x
  · rw [if_pos (show Int64.ofInt x > Int64.ofInt y from (i64_lt hy hx).mpr h1), if_pos h1]; rfl
  · rw [if_neg (fun z => h1 ((i64_lt hy hx).mp z)), if_neg h1]
    by_cases h2 : x = y
    · rw [if_pos ((i64_eq hx hy).mpr h2), if_pos h2]; rfl
    · rw [if_neg (fun z => h2 ((i64_eq hx hy).mp z)), if_neg h2]; rfl
set_option maxHeartbeats 2000000 in
theorem snd_C (C : xCx p s m args meth c k) (hok : okI k ip i = true) (hop : 18 ≤ i.1 ∧ i.1 < 28) (hs : stC i ip ls st h = some q) (hl : xLR G arr ls (mxl k)) (hv : ∀ v ∈ st, okv v)
    (kk : ∀ arr2, xLR G arr2 q.2.1 (mxl k) → (∀ v ∈ q.2.2.1, okv v) → q.2.2.2 = h → W p l e R s m args below meth c H locs cells slots Q (F0 m (pcs k q.1) arr2 (q.2.2.1.map (mv G)))) : W p l e R s m args below meth c H locs cells slots Q (F0 m (pcs k ip) arr (st.map (mv G))) := by
  obtain ⟨hx, hb, hml, hown, hts, hlk⟩ := C
  obtain ⟨op, a, b, z, js⟩ := i
  replace hop : 18 ≤ op ∧ op < 28 := hop
  obtain ⟨hd, hn, hw⟩ := okI_d hok (by show op ≠ 99; omega)
  have hc : op = 18 ∨ op = 19 ∨ op = 20 ∨ op = 21 ∨ op = 22 ∨ op = 23 ∨ op = 24 ∨ op = 25 ∨ op = 26 ∨ op = 27 := by omega
  rcases hc with rfl | rfl | rfl | rfl | rfl | rfl | rfl | rfl | rfl | rfl
  · replace hs : (match (generalizing := false) st with | .inl y :: .inl x :: st => if a = 1 then some (ip + 1, ls, vi (Int32.ofInt (x + y)).toInt :: st, h) else if inR (x + y) then some (ip + 1, ls, vi (x + y) :: st, h) else none | _ => none) = some q := hs
    split at hs
    · rename_i y x st0
      have hy : inR y := hv _ List.mem_cons_self
      have hxx : inR x := hv _ (List.mem_cons_of_mem _ List.mem_cons_self)
      have hv0 : ∀ v ∈ st0, okv v := tail_ok (tail_ok hv)
      split at hs
      · cases hs
        refine lv_iadd hx hb hd ?_
        have := kk arr hl (cons_ok (i32_any _) hv0) rfl
        rw [show pcs k (ip + 1) = pcs k ip + 1 from hn] at this
        simp only [List.map_cons, mv, Int32.ofInt_toInt] at this
        rw [← Int32.ofInt_add]
        exact this
      · split at hs
        · rename_i hz
          cases hs
          refine lv_iadd hx hb hd ?_
          have := kk arr hl (cons_ok hz hv0) rfl
          rw [show pcs k (ip + 1) = pcs k ip + 1 from hn] at this
          rw [← Int32.ofInt_add]
          exact this
        · cases hs
    · cases hs
  · replace hs : (match (generalizing := false) st with | .inl y :: .inl x :: st => if inR (x - y) then some (ip + 1, ls, vi (x - y) :: st, h) else none | _ => none) = some q := hs
    split at hs
    · rename_i y x st0
      have hy : inR y := hv _ List.mem_cons_self
      have hxx : inR x := hv _ (List.mem_cons_of_mem _ List.mem_cons_self)
      have hv0 : ∀ v ∈ st0, okv v := tail_ok (tail_ok hv)
      split at hs
      · rename_i hz
        cases hs
        refine lv_isub hx hb hd ?_
        have := kk arr hl (cons_ok hz hv0) rfl
        rw [show pcs k (ip + 1) = pcs k ip + 1 from hn] at this
        rw [← Int32.ofInt_sub]
        exact this
      · cases hs
    · cases hs
  · replace hs : (match (generalizing := false) st with | .inl y :: .inl x :: st => if inR (x * y) then some (ip + 1, ls, vi (x * y) :: st, h) else none | _ => none) = some q := hs
    split at hs
    · rename_i y x st0
      have hy : inR y := hv _ List.mem_cons_self
      have hxx : inR x := hv _ (List.mem_cons_of_mem _ List.mem_cons_self)
      have hv0 : ∀ v ∈ st0, okv v := tail_ok (tail_ok hv)
      split at hs
      · rename_i hz
        cases hs
        refine lv_imul hx hb hd ?_
        have := kk arr hl (cons_ok hz hv0) rfl
        rw [show pcs k (ip + 1) = pcs k ip + 1 from hn] at this
        rw [← Int32.ofInt_mul]
        exact this
      · cases hs
    · cases hs
  · replace hs : (match (generalizing := false) st with | .inl y :: .inl x :: st => if y ≠ 0 ∧ inR (x.tdiv y) then some (ip + 1, ls, vi (x.tdiv y) :: st, h) else none | _ => none) = some q := hs
    split at hs
    · rename_i y x st0
      have hy : inR y := hv _ List.mem_cons_self
      have hxx : inR x := hv _ (List.mem_cons_of_mem _ List.mem_cons_self)
      have hv0 : ∀ v ∈ st0, okv v := tail_ok (tail_ok hv)
      split at hs
      · rename_i hz
        cases hs
        refine lv_idiv hx hb hd (i32_ne0 hy hz.1) ?_
        have := kk arr hl (cons_ok hz.2 hv0) rfl
        rw [show pcs k (ip + 1) = pcs k ip + 1 from hn] at this
        rw [← Int32.ofInt_tdiv (by show -2147483648 ≤ x; omega) (by show x ≤ 2147483647; omega) (by show -2147483648 ≤ y; omega) (by show y ≤ 2147483647; omega)]
        exact this
      · cases hs
    · cases hs
  · replace hs : (match (generalizing := false) st with | .inl y :: .inl x :: st => if y ≠ 0 ∧ inR (x.tdiv y) then some (ip + 1, ls, vi (x.tmod y) :: st, h) else none | _ => none) = some q := hs
    split at hs
    · rename_i y x st0
      have hy : inR y := hv _ List.mem_cons_self
      have hxx : inR x := hv _ (List.mem_cons_of_mem _ List.mem_cons_self)
      have hv0 : ∀ v ∈ st0, okv v := tail_ok (tail_ok hv)
      split at hs
      · rename_i hz
        cases hs
        refine lv_irem hx hb hd (i32_ne0 hy hz.1) ?_
        have := kk arr hl (cons_ok (tmod_in hxx) hv0) rfl
        rw [show pcs k (ip + 1) = pcs k ip + 1 from hn] at this
        rw [i32_rem hxx hy]
        exact this
      · cases hs
    · cases hs
  · replace hs : (match (generalizing := false) st with | .inl x :: st => if inR (-x) then some (ip + 1, ls, vi (-x) :: st, h) else none | _ => none) = some q := hs
    split at hs
    · rename_i x st0
      split at hs
      · rename_i hz
        cases hs
        refine lv_ineg hx hb hd ?_
        have := kk arr hl (cons_ok hz (tail_ok hv)) rfl
        rw [show pcs k (ip + 1) = pcs k ip + 1 from hn] at this
        rw [← Int32.ofInt_neg]
        exact this
      · cases hs
    · cases hs
  · replace hs : (match (generalizing := false) st with | .inl y :: .inl x :: st => some (ip + 1, ls, vi (Int32.ofInt x &&& Int32.ofInt y).toInt :: st, h) | _ => none) = some q := hs
    split at hs
    · rename_i y x st0
      have hy : inR y := hv _ List.mem_cons_self
      have hxx : inR x := hv _ (List.mem_cons_of_mem _ List.mem_cons_self)
      have hv0 : ∀ v ∈ st0, okv v := tail_ok (tail_ok hv)
      cases hs
      refine lv_iand hx hb hd ?_
      have := kk arr hl (cons_ok (i32_any _) hv0) rfl
      rw [show pcs k (ip + 1) = pcs k ip + 1 from hn] at this
      simp only [List.map_cons, mv, Int32.ofInt_toInt] at this
      exact this
    · cases hs
  · replace hs : (match (generalizing := false) st with | .inl y :: .inl x :: st => some (ip + 1, ls, vi (Int32.ofInt x >>> (Int32.ofInt y &&& 31)).toInt :: st, h) | _ => none) = some q := hs
    split at hs
    · rename_i y x st0
      have hy : inR y := hv _ List.mem_cons_self
      have hxx : inR x := hv _ (List.mem_cons_of_mem _ List.mem_cons_self)
      have hv0 : ∀ v ∈ st0, okv v := tail_ok (tail_ok hv)
      cases hs
      refine lv_ishr hx hb hd ?_
      have := kk arr hl (cons_ok (i32_any _) hv0) rfl
      rw [show pcs k (ip + 1) = pcs k ip + 1 from hn] at this
      simp only [List.map_cons, mv, Int32.ofInt_toInt] at this
      exact this
    · cases hs
  · replace hs : (match (generalizing := false) st with | .inl y :: .inl x :: st => some (ip + 1, ls, vi ((Int32.ofInt x).toUInt32 >>> ((Int32.ofInt y).toUInt32 &&& Int32.toUInt32 31)).toInt32.toInt :: st, h) | _ => none) = some q := hs
    split at hs
    · rename_i y x st0
      have hy : inR y := hv _ List.mem_cons_self
      have hxx : inR x := hv _ (List.mem_cons_of_mem _ List.mem_cons_self)
      have hv0 : ∀ v ∈ st0, okv v := tail_ok (tail_ok hv)
      cases hs
      refine lv_iushr hx hb hd rfl ?_
      have := kk arr hl (cons_ok (i32_any _) hv0) rfl
      rw [show pcs k (ip + 1) = pcs k ip + 1 from hn] at this
      simp only [List.map_cons, mv, Int32.ofInt_toInt] at this
      exact this
    · cases hs
  · replace hs : (match (generalizing := false) st with | .inl y :: .inl x :: st => some (ip + 1, ls, vi (Int32.ofInt x ^^^ Int32.ofInt y).toInt :: st, h) | _ => none) = some q := hs
    split at hs
    · rename_i y x st0
      have hy : inR y := hv _ List.mem_cons_self
      have hxx : inR x := hv _ (List.mem_cons_of_mem _ List.mem_cons_self)
      have hv0 : ∀ v ∈ st0, okv v := tail_ok (tail_ok hv)
      cases hs
      refine lv_ixor hx hb hd ?_
      have := kk arr hl (cons_ok (i32_any _) hv0) rfl
      rw [show pcs k (ip + 1) = pcs k ip + 1 from hn] at this
      simp only [List.map_cons, mv, Int32.ofInt_toInt] at this
      exact this
    · cases hs
set_option maxHeartbeats 2000000 in
theorem snd_D (C : xCx p s m args meth c k) (hok : okI k ip i = true) (hop : 28 ≤ i.1 ∧ i.1 < 35) (hs : stD i ip ls st h = some q) (hl : xLR G arr ls (mxl k)) (hv : ∀ v ∈ st, okv v)
    (kk : ∀ arr2, xLR G arr2 q.2.1 (mxl k) → (∀ v ∈ q.2.2.1, okv v) → q.2.2.2 = h → W p l e R s m args below meth c H locs cells slots Q (F0 m (pcs k q.1) arr2 (q.2.2.1.map (mv G)))) : W p l e R s m args below meth c H locs cells slots Q (F0 m (pcs k ip) arr (st.map (mv G))) := by
  obtain ⟨hx, hb, hml, hown, hts, hlk⟩ := C
  obtain ⟨op, a, b, z, js⟩ := i
  replace hop : 28 ≤ op ∧ op < 35 := hop
  obtain ⟨hd, hn, hw⟩ := okI_d hok (by show op ≠ 99; omega)
  have hc : op = 28 ∨ op = 29 ∨ op = 30 ∨ op = 31 ∨ op = 32 ∨ op = 33 ∨ op = 34 := by omega
  rcases hc with rfl | rfl | rfl | rfl | rfl | rfl | rfl
  · replace hs : (match (generalizing := false) st with | .inl x :: st => some (ip + 1, ls, vl x :: st, h) | _ => none) = some q := hs
    split at hs
    · rename_i x st0
      cases hs
      have hxx : inR x := hv _ List.mem_cons_self
      have hL : inL x := ⟨by omega, by omega⟩
      refine lv_i2l hx hb (v := Int64.ofInt x) hd ?_ ?_
      · apply Int64.toInt_inj.mp
        rw [Int32.toInt_toInt64, i32_in hxx, i64_in hL]
      have := kk arr hl (cons_ok hL (tail_ok hv)) rfl
      rw [show pcs k (ip + 1) = pcs k ip + 1 from hn] at this
      exact this
    · cases hs
  · replace hs : (match (generalizing := false) st with | .inr (.inr x) :: st => if inR x then some (ip + 1, ls, vi x :: st, h) else none | _ => none) = some q := hs
    split at hs
    · rename_i x st0
      split at hs
      · rename_i hz
        cases hs
        have hL : inL x := hv _ List.mem_cons_self
        refine lv_l2i hx hb (v := Int32.ofInt x) hd ?_ ?_
        · apply Int32.toInt_inj.mp
          rw [Int64.toInt_toInt32, i32_in hz, i64_in hL]
          exact fb_bmod0 hz
        have := kk arr hl (cons_ok hz (tail_ok hv)) rfl
        rw [show pcs k (ip + 1) = pcs k ip + 1 from hn] at this
        exact this
      · cases hs
    · cases hs
  · replace hs : (match (generalizing := false) st with | .inr (.inr y) :: .inr (.inr x) :: st => if inL (x + y) then some (ip + 1, ls, vl (x + y) :: st, h) else none | _ => none) = some q := hs
    split at hs
    · rename_i y x st0
      have hy : inL y := hv _ List.mem_cons_self
      have hxx : inL x := hv _ (List.mem_cons_of_mem _ List.mem_cons_self)
      have hv0 : ∀ v ∈ st0, okv v := tail_ok (tail_ok hv)
      split at hs
      · rename_i hz
        cases hs
        refine lv_ladd hx hb hd ?_
        have := kk arr hl (cons_ok hz hv0) rfl
        rw [show pcs k (ip + 1) = pcs k ip + 1 from hn] at this
        rw [← Int64.ofInt_add]
        exact this
      · cases hs
    · cases hs
  · replace hs : (match (generalizing := false) st with | .inr (.inr y) :: .inr (.inr x) :: st => if inL (x - y) then some (ip + 1, ls, vl (x - y) :: st, h) else none | _ => none) = some q := hs
    split at hs
    · rename_i y x st0
      have hy : inL y := hv _ List.mem_cons_self
      have hxx : inL x := hv _ (List.mem_cons_of_mem _ List.mem_cons_self)
      have hv0 : ∀ v ∈ st0, okv v := tail_ok (tail_ok hv)
      split at hs
      · rename_i hz
        cases hs
        refine lv_lsub hx hb hd ?_
        have := kk arr hl (cons_ok hz hv0) rfl
        rw [show pcs k (ip + 1) = pcs k ip + 1 from hn] at this
        rw [← Int64.ofInt_sub]
        exact this
      · cases hs
    · cases hs
  · replace hs : (match (generalizing := false) st with | .inr (.inr y) :: .inr (.inr x) :: st => if inL (x * y) then some (ip + 1, ls, vl (x * y) :: st, h) else none | _ => none) = some q := hs
    split at hs
    · rename_i y x st0
      have hy : inL y := hv _ List.mem_cons_self
      have hxx : inL x := hv _ (List.mem_cons_of_mem _ List.mem_cons_self)
      have hv0 : ∀ v ∈ st0, okv v := tail_ok (tail_ok hv)
      split at hs
      · rename_i hz
        cases hs
        refine lv_lmul hx hb hd ?_
        have := kk arr hl (cons_ok hz hv0) rfl
        rw [show pcs k (ip + 1) = pcs k ip + 1 from hn] at this
        rw [← Int64.ofInt_mul]
        exact this
      · cases hs
    · cases hs
  · replace hs : (match (generalizing := false) st with | .inr (.inr y) :: .inr (.inr x) :: st => if y ≠ 0 ∧ inL (x.tdiv y) then some (ip + 1, ls, vl (x.tmod y) :: st, h) else none | _ => none) = some q := hs
    split at hs
    · rename_i y x st0
      have hy : inL y := hv _ List.mem_cons_self
      have hxx : inL x := hv _ (List.mem_cons_of_mem _ List.mem_cons_self)
      have hv0 : ∀ v ∈ st0, okv v := tail_ok (tail_ok hv)
      split at hs
      · rename_i hz
        cases hs
        refine lv_lrem hx hb hd (i64_ne0 hy hz.1) ?_
        have := kk arr hl (cons_ok (tmod_inL hxx) hv0) rfl
        rw [show pcs k (ip + 1) = pcs k ip + 1 from hn] at this
        rw [i64_rem hxx hy]
        exact this
      · cases hs
    · cases hs
  · replace hs : (match (generalizing := false) st with | .inr (.inr y) :: .inr (.inr x) :: st => some (ip + 1, ls, vi (if y < x then 1 else if x = y then 0 else -1) :: st, h) | _ => none) = some q := hs
    split at hs
    · rename_i y x st0
      have hy : inL y := hv _ List.mem_cons_self
      have hxx : inL x := hv _ (List.mem_cons_of_mem _ List.mem_cons_self)
      have hv0 : ∀ v ∈ st0, okv v := tail_ok (tail_ok hv)
      cases hs
      refine W.lcmp hx hb hd ?_
      have := kk arr hl (cons_ok (cm3_in x y) hv0) rfl
      rw [show pcs k (ip + 1) = pcs k ip + 1 from hn] at this
      rw [lcm_mv hxx hy]
      exact this
    · cases hs
end SND
