/-! THE CONSTRUCTORS, VII: the class itself -/
def tm0 (j : Nat) : Int := if j = 0 then 16 else if j = 1 then 80 else if j = 2 then 4 else if j = 3 then 16 else if j = 4 then 4 else if j = 5 then 6 else 0
def clR (z : Int) : Int := if z < 1 then 1 else if 8 < z then 8 else z
def clS (z : Int) : Int := if z < 8 then 8 else if 32 < z then 32 else z
theorem clR_bd (z : Int) : 1 ≤ clR z ∧ clR z ≤ 8 := by
  unfold clR
  split
  · omega
  · split <;> omega
theorem clS_bd (z : Int) : 8 ≤ clS z ∧ clS z ≤ 32 := by
  unfold clS
  split
  · omega
  · split <;> omega
theorem cl_mm {z lo hi : Int} (h : inR z) (h1 : 0 ≤ lo ∧ lo ≤ hi ∧ hi ≤ 100) : (if Int32.ofInt lo < (if Int32.ofInt z < Int32.ofInt hi then Int32.ofInt z else Int32.ofInt hi) then (if Int32.ofInt z < Int32.ofInt hi then Int32.ofInt z else Int32.ofInt hi) else Int32.ofInt lo) = Int32.ofInt (if z < lo then lo else if hi < z then hi else z) := by
  by_cases a : z < hi
  · rw [if_pos ((i32_lt h (by omega)).mpr a)]
    by_cases b : lo < z
    · rw [if_pos ((i32_lt (by omega) h).mpr b), if_neg (by omega), if_neg (by omega)]
    · rw [if_neg (fun q => b ((i32_lt (by omega) h).mp q))]
      by_cases d : z < lo
      · rw [if_pos d]
      · rw [if_neg d, if_neg (by omega), show z = lo by omega]
  · rw [if_neg (fun q => a ((i32_lt h (by omega)).mp q)), if_neg (show ¬ z < lo by omega)]
    have e1 : (if hi < z then hi else z) = hi := by
      split <;> omega
    rw [e1]
    by_cases b : lo < hi
    · rw [if_pos ((i32_lt (by omega) (by omega)).mpr b)]
    · rw [if_neg (fun q => b ((i32_lt (by omega) (by omega)).mp q)), show lo = hi by omega]
def tfE (cs : Nat → ClassId) (t0 a : Nat) (U : State) : Prop := va_Z "CellRows" "TERM_FIRST" "[I" (.ref t0) (fun q => a ≤ q) U U.heap ∧ stR cs t0 6 (fun j => Int32.ofInt (tm0 j)) U.heap ∧ t0 < a
theorem wl_ne {A : Nat → Prop} {X : va_W} {x y : Nat × va_E} {k : Nat} (hD : va_D A (X ++ [y])) (hk : X[k]? = some x) : x.1 ≠ y.1 := by
  intro h
  have h1 := hD.1 k (X.length + 0) x y (app_L hk) (app_R (k := 0) rfl) h
  have h2 := (List.getElem?_eq_some_iff.mp hk).1
  omega
def wRows (cs : Nat → ClassId) (ro si : Int) (f : Nat → Nat → Nat) : va_W := ((((((((([(f 0 0, .inr (11, [.ref (f 0 1), .ref (f 0 2), .int 0, .ref (f 0 3), .int 0, .ref (f 1 0), .ref (f 2 0), .ref (f 3 0), .ref (f 4 0), .ref (f 5 0), .ref (f 6 0), .ref (f 7 0), .ref (f 8 0), .ref (f 9 0)])), (f 0 2, aI cs 100), (f 0 3, aI cs 7), (f 0 1, .inl (cs 13, 6, .inl (fun j => Int32.ofInt (tm0 j))))]) ++ (wPlan cs ro si (f 1))) ++ (wPlan cs ro si (f 2))) ++ (wHistory cs ro si (f 3))) ++ (wGround cs ro si (f 4))) ++ (wWire cs (f 0 1) (f 5))) ++ (wBins cs ro si (f 0 1) (f 6))) ++ (wAnalytic cs (f 0 1) (f 5 0) (f 6 0) (f 7))) ++ (wPacking cs ro si (f 0 1) (f 4 0) (fun j => some (f 8 (7 + j))) (f 8))) ++ (wPasses cs (f 5 0) (f 4 0) (f 9))
abbrev rmRows : Room := { frames := 4, cells := 402, slots := 9017, locals := 130 }
/-- addresses of the parts in one row of numbers -/
def fR (r : Nat → Nat) : Nat → Nat → Nat := fun p k => r (10 * k + p)
def rF (f : Nat → Nat → Nat) : Nat → Nat := fun n => f (n % 10) (n / 10)
theorem fR_F (f : Nat → Nat → Nat) (p : Nat) (h : p < 10) : fR (rF f) p = f p := by
  funext k
  unfold fR rF
  rw [show (10 * k + p) % 10 = p by omega, show (10 * k + p) / 10 = k by omega]
theorem wRows_F {cs : Nat → ClassId} {ro si : Int} (f : Nat → Nat → Nat) : wRows cs ro si (fR (rF f)) = wRows cs ro si f := by
  unfold wRows
  rw [fR_F f 0 (by decide), fR_F f 1 (by decide), fR_F f 2 (by decide), fR_F f 3 (by decide), fR_F f 4 (by decide), fR_F f 5 (by decide), fR_F f 6 (by decide), fR_F f 7 (by decide), fR_F f 8 (by decide), fR_F f 9 (by decide)]
set_option maxHeartbeats 4000000 in
theorem k_Rows {l : Launch} {D : va_G} {cs : Nat → ClassId} {x y ro si : Int} {t0 : Nat} (er : ro = clR x) (es : si = clS y) (h1x : inR x) (h1y : inR y) : Ctor l D cs ⟨"CellRows", "<init>", "(II)V"⟩ prog_1_method_1_code 6 rmRows [.int (Int32.ofInt x), .int (Int32.ofInt y)] (fun a => [(a, nO 11)]) (fun r => wRows cs ro si (fR r)) (tfE cs t0) := by
  refine mk_met (by decide +kernel) rfl (Nat.le_of_ble_eq_true rfl) ?_
  intro p e s m args below meth c a A ls Q C hm Wl hX hA9 hl fin
  have hx := C.1
  have hb := C.2.1
  have hro : 1 ≤ ro ∧ ro ≤ 8 := by
    rw [er]
    exact clR_bd x
  have hsi : 8 ≤ si ∧ si ≤ 32 := by
    rw [es]
    exact clS_bd y
  have hal : a < s.heap.size := (Wl.1 0 _ rfl).lt
  have hAt : ¬ A t0 := by
    intro h
    rcases hA9 t0 h with ⟨k, e9, hk⟩ | h9
    · cases k with
      | zero =>
        cases hk
        exact Nat.lt_irrefl _ hX.2.2
      | succ k => cases hk
    · exact Nat.lt_irrefl _ (Nat.lt_of_lt_of_le (Nat.lt_trans hX.2.2 hal) h9)
  have hZ := hX.1.narrow (B := A) (fun q hq => by
    rcases hA9 q hq with ⟨k, e9, hk⟩ | h9
    · cases k with
      | zero =>
        cases hk
        exact Nat.le_refl _
      | succ k => cases hk
    · exact Nat.le_trans (Nat.le_of_lt hal) h9)
  replace Wl : mkW D cs A s ([(a, .inr (11, [.null, .null, .int 0, .null, .int 0, .null, .null, .null, .null, .null, .null, .null, .null, .null]))]) _ _ := Wl
  refine lv_aload_n hx hb (k := 0) (i := 0) (by decide +kernel) rfl (lv_at hl 0 rfl) ?_
  refine mk_obj (p1 := 2069) (idx := 1) C (by decide +kernel) hl.1 (Nat.le_of_ble_eq_true rfl) (Nat.le_of_ble_eq_true rfl) (by decide +kernel) ?_
  refine lv_aload_n hx hb (k := 0) (i := 0) (by decide +kernel) rfl (lv_at hl 0 rfl) ?_
  refine lv_bipush hx hb (n := 100) (v := Int32.ofInt 100) (by decide +kernel) (by decide +kernel) ?_
  refine mk_arr (N := 100) (nm := 100) (c2 := 1) (s2 := 100) C Wl (nn_ok (z := 100) (by decide) (by decide)).1 (nn_ok (z := 100) (by decide) (by decide)).2 (Nat.le_of_ble_eq_true rfl) (Nat.le_of_ble_eq_true rfl) (Nat.le_of_ble_eq_true rfl) (Nat.le_of_ble_eq_true rfl) (Nat.le_of_ble_eq_true rfl) (Nat.le_of_ble_eq_true rfl) (by decide +kernel) (fun q0 H1 Wl => ?_)
  replace Wl : mkW D cs A s ([(a, .inr (11, [.null, .null, .int 0, .null, .int 0, .null, .null, .null, .null, .null, .null, .null, .null, .null])), (q0, aI cs 100)]) _ _ := Wl
  refine mk_put (p1 := 2568) (idx := 9) (ty := .array .int) (v := .ref q0) C hm Wl (ci := 11) (by decide) rfl 0 rfl 1 (by decide) (by decide +kernel) rfl (by decide +kernel) rfl rfl (Nat.le_of_ble_eq_true rfl) (by decide +kernel) (fun H1 locs1 Wl => ?_)
  replace Wl : mkW D cs A s ([(a, .inr (11, [.null, .ref q0, .int 0, .null, .int 0, .null, .null, .null, .null, .null, .null, .null, .null, .null])), (q0, aI cs 100)]) _ _ := Wl
  refine lv_aload_n hx hb (k := 0) (i := 0) (by decide +kernel) rfl (lv_at hl 0 rfl) ?_
  refine lv_bipush hx hb (n := 7) (v := Int32.ofInt 7) (by decide +kernel) (by decide +kernel) ?_
  refine mk_arr (N := 7) (nm := 7) (c2 := 2) (s2 := 107) C Wl (nn_ok (z := 7) (by decide) (by decide)).1 (nn_ok (z := 7) (by decide) (by decide)).2 (Nat.le_of_ble_eq_true rfl) (Nat.le_of_ble_eq_true rfl) (Nat.le_of_ble_eq_true rfl) (Nat.le_of_ble_eq_true rfl) (Nat.le_of_ble_eq_true rfl) (Nat.le_of_ble_eq_true rfl) (by decide +kernel) (fun q1 H1 Wl => ?_)
  replace Wl : mkW D cs A s ([(a, .inr (11, [.null, .ref q0, .int 0, .null, .int 0, .null, .null, .null, .null, .null, .null, .null, .null, .null])), (q0, aI cs 100), (q1, aI cs 7)]) _ _ := Wl
  refine mk_put (p1 := 2570) (idx := 13) (ty := .array .int) (v := .ref q1) C hm Wl (ci := 11) (by decide) rfl 0 rfl 3 (by decide) (by decide +kernel) rfl (by decide +kernel) rfl rfl (Nat.le_of_ble_eq_true rfl) (by decide +kernel) (fun H1 locs1 Wl => ?_)
  replace Wl : mkW D cs A s ([(a, .inr (11, [.null, .ref q0, .int 0, .ref q1, .int 0, .null, .null, .null, .null, .null, .null, .null, .null, .null])), (q0, aI cs 100), (q1, aI cs 7)]) _ _ := Wl
  refine lv_iconst hx hb (n := 1) (v := Int32.ofInt 1) (by decide +kernel) rfl ?_
  refine lv_bipush hx hb (n := 8) (v := Int32.ofInt 8) (by decide +kernel) (by decide +kernel) ?_
  refine lv_iload_n hx hb (k := 1) (i := 1) (by decide +kernel) rfl (lv_at hl 1 rfl) ?_
  refine va_mmin hx hb (by rw [C.2.2.1]; exact hl.1.symm) (own := "CellRows") (index := 16) C.2.2.2.1 (C.2.2.2.2 _ (wAt_in (p := 2072) (by decide +kernel))) (C.2.2.2.2 _ (wAt_in (p := 2073) (by decide +kernel))) (C.2.2.2.2 _ (wAt_in (p := 2050) (by decide +kernel))) (C.2.2.2.2 _ (wAt_in (p := 2074) (by decide +kernel))) (Nat.le_of_ble_eq_true rfl) (Nat.le_of_ble_eq_true rfl) (Nat.le_of_ble_eq_true rfl) (Nat.le_of_ble_eq_true rfl) (by decide +kernel) ?_
  refine va_mmax hx hb (by rw [C.2.2.1]; exact hl.1.symm) (own := "CellRows") (index := 22) C.2.2.2.1 (C.2.2.2.2 _ (wAt_in (p := 2075) (by decide +kernel))) (C.2.2.2.2 _ (wAt_in (p := 2076) (by decide +kernel))) (C.2.2.2.2 _ (wAt_in (p := 2050) (by decide +kernel))) (C.2.2.2.2 _ (wAt_in (p := 2077) (by decide +kernel))) (Nat.le_of_ble_eq_true rfl) (Nat.le_of_ble_eq_true rfl) (Nat.le_of_ble_eq_true rfl) (Nat.le_of_ble_eq_true rfl) (by decide +kernel) ?_
  rw [cl_mm (z := x) (lo := 1) (hi := 8) h1x (by decide), show (if x < 1 then 1 else if 8 < x then 8 else x) = ro from er.symm]
  refine lv_istore_n hx hb (k := 3) (i := 3) (by decide +kernel) rfl hl (by decide) (lv' := [(3, .int (Int32.ofInt ro)), (0, .ref a), (1, .int (Int32.ofInt x)), (2, .int (Int32.ofInt y))]) rfl (fun ls hl => ?_)
  refine lv_bipush hx hb (n := 8) (v := Int32.ofInt 8) (by decide +kernel) (by decide +kernel) ?_
  refine lv_bipush hx hb (n := 32) (v := Int32.ofInt 32) (by decide +kernel) (by decide +kernel) ?_
  refine lv_iload_n hx hb (k := 2) (i := 2) (by decide +kernel) rfl (lv_at hl 3 rfl) ?_
  refine va_mmin hx hb (by rw [C.2.2.1]; exact hl.1.symm) (own := "CellRows") (index := 16) C.2.2.2.1 (C.2.2.2.2 _ (wAt_in (p := 2072) (by decide +kernel))) (C.2.2.2.2 _ (wAt_in (p := 2073) (by decide +kernel))) (C.2.2.2.2 _ (wAt_in (p := 2050) (by decide +kernel))) (C.2.2.2.2 _ (wAt_in (p := 2074) (by decide +kernel))) (Nat.le_of_ble_eq_true rfl) (Nat.le_of_ble_eq_true rfl) (Nat.le_of_ble_eq_true rfl) (Nat.le_of_ble_eq_true rfl) (by decide +kernel) ?_
  refine va_mmax hx hb (by rw [C.2.2.1]; exact hl.1.symm) (own := "CellRows") (index := 22) C.2.2.2.1 (C.2.2.2.2 _ (wAt_in (p := 2075) (by decide +kernel))) (C.2.2.2.2 _ (wAt_in (p := 2076) (by decide +kernel))) (C.2.2.2.2 _ (wAt_in (p := 2050) (by decide +kernel))) (C.2.2.2.2 _ (wAt_in (p := 2077) (by decide +kernel))) (Nat.le_of_ble_eq_true rfl) (Nat.le_of_ble_eq_true rfl) (Nat.le_of_ble_eq_true rfl) (Nat.le_of_ble_eq_true rfl) (by decide +kernel) ?_
  rw [cl_mm (z := y) (lo := 8) (hi := 32) h1y (by decide), show (if y < 8 then 8 else if 32 < y then 32 else y) = si from es.symm]
  refine lv_istore hx hb (i := 4) (by decide +kernel) hl (by decide) (lv' := [(4, .int (Int32.ofInt si)), (3, .int (Int32.ofInt ro)), (0, .ref a), (1, .int (Int32.ofInt x)), (2, .int (Int32.ofInt y))]) rfl (fun ls hl => ?_)
  refine va_gets hx hb (v := .ref t0) (C := "CellRows") (n := "TERM_FIRST") (d := "[I") (own := "CellRows") (ref := "CellRows") (index := 25) hZ Wl.2.2.2.1 C.2.2.2.1 (C.2.2.2.2 _ (wAt_in (p := 2078) (by decide +kernel))) (fun _ h9 => h9) (by decide +kernel) ?_
  refine mk_cl2 (N := 6) (c2 := 3) (s2 := 113) C Wl hX.2.1 hAt hl.1 (Nat.le_of_ble_eq_true rfl) (Nat.le_of_ble_eq_true rfl) (Nat.le_of_ble_eq_true rfl) (Nat.le_of_ble_eq_true rfl) (Nat.le_of_ble_eq_true rfl) (Nat.le_of_ble_eq_true rfl) (by decide +kernel) (fun qt H1 Wl => ?_)
  replace Wl : mkW D cs A s ([(a, .inr (11, [.null, .ref q0, .int 0, .ref q1, .int 0, .null, .null, .null, .null, .null, .null, .null, .null, .null])), (q0, aI cs 100), (q1, aI cs 7), (qt, .inl (cs 13, 6, .inl (fun j => Int32.ofInt (tm0 j))))]) _ _ := Wl
  refine va_castA hx hb (own := "CellRows") (nm := "[I") (index := 29) C.2.2.2.1 (C.2.2.2.2 _ (wAt_in (p := 2086) (by decide +kernel))) Wl.1 3 rfl (nm_i Wl.2.1.1) (by decide +kernel) ?_
  refine lv_astore hx hb (i := 5) (by decide +kernel) hl (by decide) (lv' := [(5, .ref qt), (4, .int (Int32.ofInt si)), (3, .int (Int32.ofInt ro)), (0, .ref a), (1, .int (Int32.ofInt x)), (2, .int (Int32.ofInt y))]) rfl (fun ls hl => ?_)
  refine lv_aload_n hx hb (k := 0) (i := 0) (by decide +kernel) rfl (lv_at hl 3 rfl) ?_
  refine lv_aload hx hb (i := 5) (by decide +kernel) (lv_at hl 0 rfl) ?_
  refine mk_put (p1 := 2567) (idx := 33) (ty := .array .int) (v := .ref qt) C hm Wl (ci := 11) (by decide) rfl 0 rfl 0 (by decide) (by decide +kernel) rfl (by decide +kernel) rfl rfl (Nat.le_of_ble_eq_true rfl) (by decide +kernel) (fun H1 locs1 Wl => ?_)
  replace Wl : mkW D cs A s ([(a, .inr (11, [.ref qt, .ref q0, .int 0, .ref q1, .int 0, .null, .null, .null, .null, .null, .null, .null, .null, .null])), (q0, aI cs 100), (q1, aI cs 7), (qt, .inl (cs 13, 6, .inl (fun j => Int32.ofInt (tm0 j))))]) _ _ := Wl
  refine lv_aload_n hx hb (k := 0) (i := 0) (by decide +kernel) rfl (lv_at hl 3 rfl) ?_
  refine mk_new (nam := "CellRows$Plan") (N := 6) (p1 := 2087) (p2 := 2088) (p3 := 2051) (idx := 36) (c2 := 4) (s2 := 119) C Wl 9 (by decide) rfl rfl (by decide +kernel) (by decide +kernel) (by decide +kernel) (Nat.le_of_ble_eq_true rfl) (Nat.le_of_ble_eq_true rfl) (Nat.le_of_ble_eq_true rfl) (Nat.le_of_ble_eq_true rfl) (by decide +kernel) (fun u1 H1 Wl => ?_)
  refine lv_dup hx hb (by decide +kernel) rfl ?_
  refine lv_iload_n hx hb (k := 3) (i := 3) (by decide +kernel) rfl (lv_at hl 2 rfl) ?_
  refine lv_iload hx hb (i := 4) (by decide +kernel) (lv_at hl 1 rfl) ?_
  refine mk_call (rest := [.ref u1, .ref a]) (a := u1) (wr := [(a, .inr (11, [.ref qt, .ref q0, .int 0, .ref q1, .int 0, .null, .null, .null, .null, .null, .null, .null, .null, .null])), (q0, aI cs 100), (q1, aI cs 7), (qt, .inl (cs 13, 6, .inl (fun j => Int32.ofInt (tm0 j))))]) (p0 := 2091) (p1 := 2089) (p2 := 2090) (p3 := 2051) (idx := 38) (c2 := 27) (s2 := 538) C (k_Plan (ro := ro) (si := si)) Wl (fun _ _ _ _ h9 => h9) (fun _ _ _ => trivial) ⟨(Nat.le_of_ble_eq_true rfl), (Nat.le_of_ble_eq_true rfl)⟩ rfl ⟨(by decide +kernel), (by decide +kernel), (by show _ = some 2; decide +kernel)⟩ (by decide +kernel) (by decide +kernel) (by decide +kernel) (by decide +kernel) hl.1 (Nat.le_of_ble_eq_true rfl) (by decide +kernel) (Nat.le_of_ble_eq_true rfl) (Nat.le_of_ble_eq_true rfl) (Nat.le_of_ble_eq_true rfl) (Nat.le_of_ble_eq_true rfl) (fun r1 H1 locs1 hr Wn => ?_)
  subst hr
  replace Wl : mkW D cs A s (([(a, .inr (11, [.ref qt, .ref q0, .int 0, .ref q1, .int 0, .null, .null, .null, .null, .null, .null, .null, .null, .null])), (q0, aI cs 100), (q1, aI cs 7), (qt, .inl (cs 13, 6, .inl (fun j => Int32.ofInt (tm0 j))))]) ++ (wPlan cs ro si r1)) _ _ := Wn
  refine mk_put (p1 := 2572) (idx := 41) (ty := .object "CellRows$Plan") (v := .ref (r1 0)) C hm Wl (ci := 11) (by decide) rfl 0 rfl 5 (by decide) (by decide +kernel) rfl (by decide +kernel) rfl rfl (Nat.le_of_ble_eq_true rfl) (by decide +kernel) (fun H1 locs1 Wl => ?_)
  replace Wl : mkW D cs A s (([(a, .inr (11, [.ref qt, .ref q0, .int 0, .ref q1, .int 0, .ref (r1 0), .null, .null, .null, .null, .null, .null, .null, .null])), (q0, aI cs 100), (q1, aI cs 7), (qt, .inl (cs 13, 6, .inl (fun j => Int32.ofInt (tm0 j))))]) ++ (wPlan cs ro si r1)) _ _ := Wl
  refine lv_aload_n hx hb (k := 0) (i := 0) (by decide +kernel) rfl (lv_at hl 3 rfl) ?_
  refine mk_new (nam := "CellRows$Plan") (N := 6) (p1 := 2087) (p2 := 2088) (p3 := 2051) (idx := 36) (c2 := 28) (s2 := 544) C Wl 9 (by decide) rfl rfl (by decide +kernel) (by decide +kernel) (by decide +kernel) (Nat.le_of_ble_eq_true rfl) (Nat.le_of_ble_eq_true rfl) (Nat.le_of_ble_eq_true rfl) (Nat.le_of_ble_eq_true rfl) (by decide +kernel) (fun u2 H1 Wl => ?_)
  refine lv_dup hx hb (by decide +kernel) rfl ?_
  refine lv_iload_n hx hb (k := 3) (i := 3) (by decide +kernel) rfl (lv_at hl 2 rfl) ?_
  refine lv_iload hx hb (i := 4) (by decide +kernel) (lv_at hl 1 rfl) ?_
  refine mk_call (rest := [.ref u2, .ref a]) (a := u2) (wr := ([(a, .inr (11, [.ref qt, .ref q0, .int 0, .ref q1, .int 0, .ref (r1 0), .null, .null, .null, .null, .null, .null, .null, .null])), (q0, aI cs 100), (q1, aI cs 7), (qt, .inl (cs 13, 6, .inl (fun j => Int32.ofInt (tm0 j))))]) ++ (wPlan cs ro si r1)) (p0 := 2091) (p1 := 2089) (p2 := 2090) (p3 := 2051) (idx := 38) (c2 := 51) (s2 := 963) C (k_Plan (ro := ro) (si := si)) Wl (fun _ _ _ _ h9 => h9) (fun _ _ _ => trivial) ⟨(Nat.le_of_ble_eq_true rfl), (Nat.le_of_ble_eq_true rfl)⟩ rfl ⟨(by decide +kernel), (by decide +kernel), (by show _ = some 2; decide +kernel)⟩ (by decide +kernel) (by decide +kernel) (by decide +kernel) (by decide +kernel) hl.1 (Nat.le_of_ble_eq_true rfl) (by decide +kernel) (Nat.le_of_ble_eq_true rfl) (Nat.le_of_ble_eq_true rfl) (Nat.le_of_ble_eq_true rfl) (Nat.le_of_ble_eq_true rfl) (fun r2 H1 locs1 hr Wn => ?_)
  subst hr
  replace Wl : mkW D cs A s ((([(a, .inr (11, [.ref qt, .ref q0, .int 0, .ref q1, .int 0, .ref (r1 0), .null, .null, .null, .null, .null, .null, .null, .null])), (q0, aI cs 100), (q1, aI cs 7), (qt, .inl (cs 13, 6, .inl (fun j => Int32.ofInt (tm0 j))))]) ++ (wPlan cs ro si r1)) ++ (wPlan cs ro si r2)) _ _ := Wn
  refine mk_put (p1 := 2573) (idx := 45) (ty := .object "CellRows$Plan") (v := .ref (r2 0)) C hm Wl (ci := 11) (by decide) rfl 0 rfl 6 (by decide) (by decide +kernel) rfl (by decide +kernel) rfl rfl (Nat.le_of_ble_eq_true rfl) (by decide +kernel) (fun H1 locs1 Wl => ?_)
  replace Wl : mkW D cs A s ((([(a, .inr (11, [.ref qt, .ref q0, .int 0, .ref q1, .int 0, .ref (r1 0), .ref (r2 0), .null, .null, .null, .null, .null, .null, .null])), (q0, aI cs 100), (q1, aI cs 7), (qt, .inl (cs 13, 6, .inl (fun j => Int32.ofInt (tm0 j))))]) ++ (wPlan cs ro si r1)) ++ (wPlan cs ro si r2)) _ _ := Wl
  refine lv_aload_n hx hb (k := 0) (i := 0) (by decide +kernel) rfl (lv_at hl 3 rfl) ?_
  refine mk_new (nam := "CellRows$History") (N := 4) (p1 := 2283) (p2 := 2284) (p3 := 2055) (idx := 48) (c2 := 52) (s2 := 967) C Wl 5 (by decide) rfl rfl (by decide +kernel) (by decide +kernel) (by decide +kernel) (Nat.le_of_ble_eq_true rfl) (Nat.le_of_ble_eq_true rfl) (Nat.le_of_ble_eq_true rfl) (Nat.le_of_ble_eq_true rfl) (by decide +kernel) (fun u3 H1 Wl => ?_)
  refine lv_dup hx hb (by decide +kernel) rfl ?_
  refine lv_iload_n hx hb (k := 3) (i := 3) (by decide +kernel) rfl (lv_at hl 2 rfl) ?_
  refine lv_iload hx hb (i := 4) (by decide +kernel) (lv_at hl 1 rfl) ?_
  refine mk_call (rest := [.ref u3, .ref a]) (a := u3) (wr := (([(a, .inr (11, [.ref qt, .ref q0, .int 0, .ref q1, .int 0, .ref (r1 0), .ref (r2 0), .null, .null, .null, .null, .null, .null, .null])), (q0, aI cs 100), (q1, aI cs 7), (qt, .inl (cs 13, 6, .inl (fun j => Int32.ofInt (tm0 j))))]) ++ (wPlan cs ro si r1)) ++ (wPlan cs ro si r2)) (p0 := 2287) (p1 := 2285) (p2 := 2286) (p3 := 2055) (idx := 50) (c2 := 342) (s2 := 6091) C (k_History (ro := ro) (si := si)) Wl (fun _ _ _ _ h9 => h9) (fun _ _ _ => trivial) ⟨(Nat.le_of_ble_eq_true rfl), (Nat.le_of_ble_eq_true rfl)⟩ rfl ⟨(by decide +kernel), (by decide +kernel), (by show _ = some 2; decide +kernel)⟩ (by decide +kernel) (by decide +kernel) (by decide +kernel) (by decide +kernel) hl.1 (Nat.le_of_ble_eq_true rfl) (by decide +kernel) (Nat.le_of_ble_eq_true rfl) (Nat.le_of_ble_eq_true rfl) (Nat.le_of_ble_eq_true rfl) (Nat.le_of_ble_eq_true rfl) (fun r3 H1 locs1 hr Wn => ?_)
  subst hr
  replace Wl : mkW D cs A s (((([(a, .inr (11, [.ref qt, .ref q0, .int 0, .ref q1, .int 0, .ref (r1 0), .ref (r2 0), .null, .null, .null, .null, .null, .null, .null])), (q0, aI cs 100), (q1, aI cs 7), (qt, .inl (cs 13, 6, .inl (fun j => Int32.ofInt (tm0 j))))]) ++ (wPlan cs ro si r1)) ++ (wPlan cs ro si r2)) ++ (wHistory cs ro si r3)) _ _ := Wn
  refine mk_put (p1 := 2574) (idx := 51) (ty := .object "CellRows$History") (v := .ref (r3 0)) C hm Wl (ci := 11) (by decide) rfl 0 rfl 7 (by decide) (by decide +kernel) rfl (by decide +kernel) rfl rfl (Nat.le_of_ble_eq_true rfl) (by decide +kernel) (fun H1 locs1 Wl => ?_)
  replace Wl : mkW D cs A s (((([(a, .inr (11, [.ref qt, .ref q0, .int 0, .ref q1, .int 0, .ref (r1 0), .ref (r2 0), .ref (r3 0), .null, .null, .null, .null, .null, .null])), (q0, aI cs 100), (q1, aI cs 7), (qt, .inl (cs 13, 6, .inl (fun j => Int32.ofInt (tm0 j))))]) ++ (wPlan cs ro si r1)) ++ (wPlan cs ro si r2)) ++ (wHistory cs ro si r3)) _ _ := Wl
  refine lv_aload_n hx hb (k := 0) (i := 0) (by decide +kernel) rfl (lv_at hl 3 rfl) ?_
  refine mk_new (nam := "CellRows$Ground") (N := 9) (p1 := 2322) (p2 := 2323) (p3 := 2056) (idx := 55) (c2 := 343) (s2 := 6100) C Wl 4 (by decide) rfl rfl (by decide +kernel) (by decide +kernel) (by decide +kernel) (Nat.le_of_ble_eq_true rfl) (Nat.le_of_ble_eq_true rfl) (Nat.le_of_ble_eq_true rfl) (Nat.le_of_ble_eq_true rfl) (by decide +kernel) (fun u4 H1 Wl => ?_)
  refine lv_dup hx hb (by decide +kernel) rfl ?_
  refine lv_iload_n hx hb (k := 3) (i := 3) (by decide +kernel) rfl (lv_at hl 2 rfl) ?_
  refine lv_iload hx hb (i := 4) (by decide +kernel) (lv_at hl 1 rfl) ?_
  refine mk_call (rest := [.ref u4, .ref a]) (a := u4) (wr := ((([(a, .inr (11, [.ref qt, .ref q0, .int 0, .ref q1, .int 0, .ref (r1 0), .ref (r2 0), .ref (r3 0), .null, .null, .null, .null, .null, .null])), (q0, aI cs 100), (q1, aI cs 7), (qt, .inl (cs 13, 6, .inl (fun j => Int32.ofInt (tm0 j))))]) ++ (wPlan cs ro si r1)) ++ (wPlan cs ro si r2)) ++ (wHistory cs ro si r3)) (p0 := 2326) (p1 := 2324) (p2 := 2325) (p3 := 2056) (idx := 57) (c2 := 349) (s2 := 7400) C (k_Ground (ro := ro) (si := si) hro hsi) Wl (fun _ _ _ _ h9 => h9) (fun _ _ _ => trivial) ⟨(Nat.le_of_ble_eq_true rfl), (Nat.le_of_ble_eq_true rfl)⟩ rfl ⟨(by decide +kernel), (by decide +kernel), (by show _ = some 2; decide +kernel)⟩ (by decide +kernel) (by decide +kernel) (by decide +kernel) (by decide +kernel) hl.1 (Nat.le_of_ble_eq_true rfl) (by decide +kernel) (Nat.le_of_ble_eq_true rfl) (Nat.le_of_ble_eq_true rfl) (Nat.le_of_ble_eq_true rfl) (Nat.le_of_ble_eq_true rfl) (fun r4 H1 locs1 hr Wn => ?_)
  subst hr
  replace Wl : mkW D cs A s ((((([(a, .inr (11, [.ref qt, .ref q0, .int 0, .ref q1, .int 0, .ref (r1 0), .ref (r2 0), .ref (r3 0), .null, .null, .null, .null, .null, .null])), (q0, aI cs 100), (q1, aI cs 7), (qt, .inl (cs 13, 6, .inl (fun j => Int32.ofInt (tm0 j))))]) ++ (wPlan cs ro si r1)) ++ (wPlan cs ro si r2)) ++ (wHistory cs ro si r3)) ++ (wGround cs ro si r4)) _ _ := Wn
  refine mk_put (p1 := 2575) (idx := 58) (ty := .object "CellRows$Ground") (v := .ref (r4 0)) C hm Wl (ci := 11) (by decide) rfl 0 rfl 8 (by decide) (by decide +kernel) rfl (by decide +kernel) rfl rfl (Nat.le_of_ble_eq_true rfl) (by decide +kernel) (fun H1 locs1 Wl => ?_)
  replace Wl : mkW D cs A s ((((([(a, .inr (11, [.ref qt, .ref q0, .int 0, .ref q1, .int 0, .ref (r1 0), .ref (r2 0), .ref (r3 0), .ref (r4 0), .null, .null, .null, .null, .null])), (q0, aI cs 100), (q1, aI cs 7), (qt, .inl (cs 13, 6, .inl (fun j => Int32.ofInt (tm0 j))))]) ++ (wPlan cs ro si r1)) ++ (wPlan cs ro si r2)) ++ (wHistory cs ro si r3)) ++ (wGround cs ro si r4)) _ _ := Wl
  refine lv_aload_n hx hb (k := 0) (i := 0) (by decide +kernel) rfl (lv_at hl 3 rfl) ?_
  refine mk_new (nam := "CellRows$Wire") (N := 13) (p1 := 2371) (p2 := 2372) (p3 := 2057) (idx := 62) (c2 := 350) (s2 := 7413) C Wl 10 (by decide) rfl rfl (by decide +kernel) (by decide +kernel) (by decide +kernel) (Nat.le_of_ble_eq_true rfl) (Nat.le_of_ble_eq_true rfl) (Nat.le_of_ble_eq_true rfl) (Nat.le_of_ble_eq_true rfl) (by decide +kernel) (fun u5 H1 Wl => ?_)
  refine lv_dup hx hb (by decide +kernel) rfl ?_
  refine lv_aload hx hb (i := 5) (by decide +kernel) (lv_at hl 0 rfl) ?_
  refine mk_call (rest := [.ref u5, .ref a]) (a := u5) (wr := (((([(a, .inr (11, [.ref qt, .ref q0, .int 0, .ref q1, .int 0, .ref (r1 0), .ref (r2 0), .ref (r3 0), .ref (r4 0), .null, .null, .null, .null, .null])), (q0, aI cs 100), (q1, aI cs 7), (qt, .inl (cs 13, 6, .inl (fun j => Int32.ofInt (tm0 j))))]) ++ (wPlan cs ro si r1)) ++ (wPlan cs ro si r2)) ++ (wHistory cs ro si r3)) ++ (wGround cs ro si r4)) (p0 := 2375) (p1 := 2373) (p2 := 2374) (p3 := 2057) (idx := 64) (c2 := 357) (s2 := 7515) C (k_Wire (t := qt)) Wl (fun _ _ _ _ h9 => h9) (fun _ _ _ => trivial) ⟨(Nat.le_of_ble_eq_true rfl), (Nat.le_of_ble_eq_true rfl)⟩ rfl ⟨(by decide +kernel), (by decide +kernel), (by show _ = some 1; decide +kernel)⟩ (by decide +kernel) (by decide +kernel) (by decide +kernel) (by decide +kernel) hl.1 (Nat.le_of_ble_eq_true rfl) (by decide +kernel) (Nat.le_of_ble_eq_true rfl) (Nat.le_of_ble_eq_true rfl) (Nat.le_of_ble_eq_true rfl) (Nat.le_of_ble_eq_true rfl) (fun r5 H1 locs1 hr Wn => ?_)
  subst hr
  replace Wl : mkW D cs A s (((((([(a, .inr (11, [.ref qt, .ref q0, .int 0, .ref q1, .int 0, .ref (r1 0), .ref (r2 0), .ref (r3 0), .ref (r4 0), .null, .null, .null, .null, .null])), (q0, aI cs 100), (q1, aI cs 7), (qt, .inl (cs 13, 6, .inl (fun j => Int32.ofInt (tm0 j))))]) ++ (wPlan cs ro si r1)) ++ (wPlan cs ro si r2)) ++ (wHistory cs ro si r3)) ++ (wGround cs ro si r4)) ++ (wWire cs qt r5)) _ _ := Wn
  refine mk_put (p1 := 2576) (idx := 67) (ty := .object "CellRows$Wire") (v := .ref (r5 0)) C hm Wl (ci := 11) (by decide) rfl 0 rfl 9 (by decide) (by decide +kernel) rfl (by decide +kernel) rfl rfl (Nat.le_of_ble_eq_true rfl) (by decide +kernel) (fun H1 locs1 Wl => ?_)
  replace Wl : mkW D cs A s (((((([(a, .inr (11, [.ref qt, .ref q0, .int 0, .ref q1, .int 0, .ref (r1 0), .ref (r2 0), .ref (r3 0), .ref (r4 0), .ref (r5 0), .null, .null, .null, .null])), (q0, aI cs 100), (q1, aI cs 7), (qt, .inl (cs 13, 6, .inl (fun j => Int32.ofInt (tm0 j))))]) ++ (wPlan cs ro si r1)) ++ (wPlan cs ro si r2)) ++ (wHistory cs ro si r3)) ++ (wGround cs ro si r4)) ++ (wWire cs qt r5)) _ _ := Wl
  refine lv_aload_n hx hb (k := 0) (i := 0) (by decide +kernel) rfl (lv_at hl 3 rfl) ?_
  refine mk_new (nam := "CellRows$Bins") (N := 6) (p1 := 2421) (p2 := 2422) (p3 := 2058) (idx := 71) (c2 := 358) (s2 := 7521) C Wl 1 (by decide) rfl rfl (by decide +kernel) (by decide +kernel) (by decide +kernel) (Nat.le_of_ble_eq_true rfl) (Nat.le_of_ble_eq_true rfl) (Nat.le_of_ble_eq_true rfl) (Nat.le_of_ble_eq_true rfl) (by decide +kernel) (fun u6 H1 Wl => ?_)
  refine lv_dup hx hb (by decide +kernel) rfl ?_
  refine lv_iload_n hx hb (k := 3) (i := 3) (by decide +kernel) rfl (lv_at hl 2 rfl) ?_
  refine lv_iload hx hb (i := 4) (by decide +kernel) (lv_at hl 1 rfl) ?_
  refine lv_aload hx hb (i := 5) (by decide +kernel) (lv_at hl 0 rfl) ?_
  refine mk_call (rest := [.ref u6, .ref a]) (a := u6) (wr := ((((([(a, .inr (11, [.ref qt, .ref q0, .int 0, .ref q1, .int 0, .ref (r1 0), .ref (r2 0), .ref (r3 0), .ref (r4 0), .ref (r5 0), .null, .null, .null, .null])), (q0, aI cs 100), (q1, aI cs 7), (qt, .inl (cs 13, 6, .inl (fun j => Int32.ofInt (tm0 j))))]) ++ (wPlan cs ro si r1)) ++ (wPlan cs ro si r2)) ++ (wHistory cs ro si r3)) ++ (wGround cs ro si r4)) ++ (wWire cs qt r5)) (p0 := 2425) (p1 := 2423) (p2 := 2424) (p3 := 2058) (idx := 73) (c2 := 361) (s2 := 7569) C (k_Bins (ro := ro) (si := si) (t := qt) hro hsi) Wl (fun _ _ _ _ h9 => h9) (fun _ _ _ => trivial) ⟨(Nat.le_of_ble_eq_true rfl), (Nat.le_of_ble_eq_true rfl)⟩ rfl ⟨(by decide +kernel), (by decide +kernel), (by show _ = some 3; decide +kernel)⟩ (by decide +kernel) (by decide +kernel) (by decide +kernel) (by decide +kernel) hl.1 (Nat.le_of_ble_eq_true rfl) (by decide +kernel) (Nat.le_of_ble_eq_true rfl) (Nat.le_of_ble_eq_true rfl) (Nat.le_of_ble_eq_true rfl) (Nat.le_of_ble_eq_true rfl) (fun r6 H1 locs1 hr Wn => ?_)
  subst hr
  replace Wl : mkW D cs A s ((((((([(a, .inr (11, [.ref qt, .ref q0, .int 0, .ref q1, .int 0, .ref (r1 0), .ref (r2 0), .ref (r3 0), .ref (r4 0), .ref (r5 0), .null, .null, .null, .null])), (q0, aI cs 100), (q1, aI cs 7), (qt, .inl (cs 13, 6, .inl (fun j => Int32.ofInt (tm0 j))))]) ++ (wPlan cs ro si r1)) ++ (wPlan cs ro si r2)) ++ (wHistory cs ro si r3)) ++ (wGround cs ro si r4)) ++ (wWire cs qt r5)) ++ (wBins cs ro si qt r6)) _ _ := Wn
  refine mk_put (p1 := 2577) (idx := 76) (ty := .object "CellRows$Bins") (v := .ref (r6 0)) C hm Wl (ci := 11) (by decide) rfl 0 rfl 10 (by decide) (by decide +kernel) rfl (by decide +kernel) rfl rfl (Nat.le_of_ble_eq_true rfl) (by decide +kernel) (fun H1 locs1 Wl => ?_)
  replace Wl : mkW D cs A s ((((((([(a, .inr (11, [.ref qt, .ref q0, .int 0, .ref q1, .int 0, .ref (r1 0), .ref (r2 0), .ref (r3 0), .ref (r4 0), .ref (r5 0), .ref (r6 0), .null, .null, .null])), (q0, aI cs 100), (q1, aI cs 7), (qt, .inl (cs 13, 6, .inl (fun j => Int32.ofInt (tm0 j))))]) ++ (wPlan cs ro si r1)) ++ (wPlan cs ro si r2)) ++ (wHistory cs ro si r3)) ++ (wGround cs ro si r4)) ++ (wWire cs qt r5)) ++ (wBins cs ro si qt r6)) _ _ := Wl
  refine lv_aload_n hx hb (k := 0) (i := 0) (by decide +kernel) rfl (lv_at hl 3 rfl) ?_
  refine mk_new (nam := "CellRows$Analytic") (N := 5) (p1 := 2450) (p2 := 2451) (p3 := 2059) (idx := 80) (c2 := 362) (s2 := 7574) C Wl 0 (by decide) rfl rfl (by decide +kernel) (by decide +kernel) (by decide +kernel) (Nat.le_of_ble_eq_true rfl) (Nat.le_of_ble_eq_true rfl) (Nat.le_of_ble_eq_true rfl) (Nat.le_of_ble_eq_true rfl) (by decide +kernel) (fun u7 H1 Wl => ?_)
  refine lv_dup hx hb (by decide +kernel) rfl ?_
  refine lv_aload hx hb (i := 5) (by decide +kernel) (lv_at hl 0 rfl) ?_
  refine lv_aload_n hx hb (k := 0) (i := 0) (by decide +kernel) rfl (lv_at hl 3 rfl) ?_
  refine mk_get (p1 := 2576) (idx := 67) C Wl (ci := 11) (by decide) 0 rfl 9 (by decide) (by decide +kernel) rfl (by decide +kernel) ?_
  refine lv_aload_n hx hb (k := 0) (i := 0) (by decide +kernel) rfl (lv_at hl 3 rfl) ?_
  refine mk_get (p1 := 2577) (idx := 76) C Wl (ci := 11) (by decide) 0 rfl 10 (by decide) (by decide +kernel) rfl (by decide +kernel) ?_
  refine mk_call (rest := [.ref u7, .ref a]) (a := u7) (wr := (((((([(a, .inr (11, [.ref qt, .ref q0, .int 0, .ref q1, .int 0, .ref (r1 0), .ref (r2 0), .ref (r3 0), .ref (r4 0), .ref (r5 0), .ref (r6 0), .null, .null, .null])), (q0, aI cs 100), (q1, aI cs 7), (qt, .inl (cs 13, 6, .inl (fun j => Int32.ofInt (tm0 j))))]) ++ (wPlan cs ro si r1)) ++ (wPlan cs ro si r2)) ++ (wHistory cs ro si r3)) ++ (wGround cs ro si r4)) ++ (wWire cs qt r5)) ++ (wBins cs ro si qt r6)) (p0 := 2454) (p1 := 2452) (p2 := 2453) (p3 := 2059) (idx := 82) (c2 := 364) (s2 := 7614) C (k_Analytic (t := qt) (w := r5 0) (b := r6 0)) Wl (fun _ _ _ _ h9 => h9) (fun _ _ _ => trivial) ⟨(Nat.le_of_ble_eq_true rfl), (Nat.le_of_ble_eq_true rfl)⟩ rfl ⟨(by decide +kernel), (by decide +kernel), (by show _ = some 3; decide +kernel)⟩ (by decide +kernel) (by decide +kernel) (by decide +kernel) (by decide +kernel) hl.1 (Nat.le_of_ble_eq_true rfl) (by decide +kernel) (Nat.le_of_ble_eq_true rfl) (Nat.le_of_ble_eq_true rfl) (Nat.le_of_ble_eq_true rfl) (Nat.le_of_ble_eq_true rfl) (fun r7 H1 locs1 hr Wn => ?_)
  subst hr
  replace Wl : mkW D cs A s (((((((([(a, .inr (11, [.ref qt, .ref q0, .int 0, .ref q1, .int 0, .ref (r1 0), .ref (r2 0), .ref (r3 0), .ref (r4 0), .ref (r5 0), .ref (r6 0), .null, .null, .null])), (q0, aI cs 100), (q1, aI cs 7), (qt, .inl (cs 13, 6, .inl (fun j => Int32.ofInt (tm0 j))))]) ++ (wPlan cs ro si r1)) ++ (wPlan cs ro si r2)) ++ (wHistory cs ro si r3)) ++ (wGround cs ro si r4)) ++ (wWire cs qt r5)) ++ (wBins cs ro si qt r6)) ++ (wAnalytic cs qt (r5 0) (r6 0) r7)) _ _ := Wn
  refine mk_put (p1 := 2578) (idx := 85) (ty := .object "CellRows$Analytic") (v := .ref (r7 0)) C hm Wl (ci := 11) (by decide) rfl 0 rfl 11 (by decide) (by decide +kernel) rfl (by decide +kernel) rfl rfl (Nat.le_of_ble_eq_true rfl) (by decide +kernel) (fun H1 locs1 Wl => ?_)
  replace Wl : mkW D cs A s (((((((([(a, .inr (11, [.ref qt, .ref q0, .int 0, .ref q1, .int 0, .ref (r1 0), .ref (r2 0), .ref (r3 0), .ref (r4 0), .ref (r5 0), .ref (r6 0), .ref (r7 0), .null, .null])), (q0, aI cs 100), (q1, aI cs 7), (qt, .inl (cs 13, 6, .inl (fun j => Int32.ofInt (tm0 j))))]) ++ (wPlan cs ro si r1)) ++ (wPlan cs ro si r2)) ++ (wHistory cs ro si r3)) ++ (wGround cs ro si r4)) ++ (wWire cs qt r5)) ++ (wBins cs ro si qt r6)) ++ (wAnalytic cs qt (r5 0) (r6 0) r7)) _ _ := Wl
  refine lv_aload_n hx hb (k := 0) (i := 0) (by decide +kernel) rfl (lv_at hl 3 rfl) ?_
  refine mk_new (nam := "CellRows$Packing") (N := 9) (p1 := 2472) (p2 := 2473) (p3 := 2060) (idx := 89) (c2 := 365) (s2 := 7623) C Wl 7 (by decide) rfl rfl (by decide +kernel) (by decide +kernel) (by decide +kernel) (Nat.le_of_ble_eq_true rfl) (Nat.le_of_ble_eq_true rfl) (Nat.le_of_ble_eq_true rfl) (Nat.le_of_ble_eq_true rfl) (by decide +kernel) (fun u8 H1 Wl => ?_)
  refine lv_dup hx hb (by decide +kernel) rfl ?_
  refine lv_aload hx hb (i := 5) (by decide +kernel) (lv_at hl 0 rfl) ?_
  refine lv_aload_n hx hb (k := 0) (i := 0) (by decide +kernel) rfl (lv_at hl 3 rfl) ?_
  refine mk_get (p1 := 2575) (idx := 58) C Wl (ci := 11) (by decide) 0 rfl 8 (by decide) (by decide +kernel) rfl (by decide +kernel) ?_
  have hgk := app_L (b := ((wAnalytic cs qt (r5 0) (r6 0) r7))) (app_L (b := ((wBins cs ro si qt r6))) (app_L (b := ((wWire cs qt r5))) (app_R (a := ((([(a, .inr (11, [.ref qt, .ref q0, .int 0, .ref q1, .int 0, .ref (r1 0), .ref (r2 0), .ref (r3 0), .ref (r4 0), .ref (r5 0), .ref (r6 0), .ref (r7 0), .null, .null])), (q0, aI cs 100), (q1, aI cs 7), (qt, .inl (cs 13, 6, .inl (fun j => Int32.ofInt (tm0 j))))] ++ (wPlan cs ro si r1)) ++ (wPlan cs ro si r2)) ++ (wHistory cs ro si r3))) (b := ((wGround cs ro si r4))) (k := 0) (q := ((r4 0, .inr (4, [.int (Int32.ofInt ro), .int (Int32.ofInt si), .ref (r4 1), .int 0, .ref (r4 2), .ref (r4 3), .ref (r4 4), .ref (r4 5), .ref (r4 6)])) : Nat × va_E)) rfl)))
  refine mk_call (rest := [.ref u8, .ref a]) (a := u8) (wr := ((((((([(a, .inr (11, [.ref qt, .ref q0, .int 0, .ref q1, .int 0, .ref (r1 0), .ref (r2 0), .ref (r3 0), .ref (r4 0), .ref (r5 0), .ref (r6 0), .ref (r7 0), .null, .null])), (q0, aI cs 100), (q1, aI cs 7), (qt, .inl (cs 13, 6, .inl (fun j => Int32.ofInt (tm0 j))))]) ++ (wPlan cs ro si r1)) ++ (wPlan cs ro si r2)) ++ (wHistory cs ro si r3)) ++ (wGround cs ro si r4)) ++ (wWire cs qt r5)) ++ (wBins cs ro si qt r6)) ++ (wAnalytic cs qt (r5 0) (r6 0) r7)) (p0 := 2476) (p1 := 2474) (p2 := 2475) (p3 := 2060) (idx := 91) (c2 := 392) (s2 := 8910) C (k_Packing (ro := ro) (si := si) (t := qt) (g := r4 0) (gf := [.int (Int32.ofInt ro), .int (Int32.ofInt si), .ref (r4 1), .int 0, .ref (r4 2), .ref (r4 3), .ref (r4 4), .ref (r4 5), .ref (r4 6)]) hro hsi rfl rfl) Wl (fun _ _ _ _ h9 => h9) (fun U hU _ => ⟨by rw [hU]; exact Wl.1 _ _ (app_L hgk), wl_ne Wl.2.2.1 hgk⟩) ⟨(Nat.le_of_ble_eq_true rfl), (Nat.le_of_ble_eq_true rfl)⟩ rfl ⟨(by decide +kernel), (by decide +kernel), (by show _ = some 2; decide +kernel)⟩ (by decide +kernel) (by decide +kernel) (by decide +kernel) (by decide +kernel) hl.1 (Nat.le_of_ble_eq_true rfl) (by decide +kernel) (Nat.le_of_ble_eq_true rfl) (Nat.le_of_ble_eq_true rfl) (Nat.le_of_ble_eq_true rfl) (Nat.le_of_ble_eq_true rfl) (fun r8 H1 locs1 hr Wn => ?_)
  subst hr
  replace Wl : mkW D cs A s ((((((((([(a, .inr (11, [.ref qt, .ref q0, .int 0, .ref q1, .int 0, .ref (r1 0), .ref (r2 0), .ref (r3 0), .ref (r4 0), .ref (r5 0), .ref (r6 0), .ref (r7 0), .null, .null])), (q0, aI cs 100), (q1, aI cs 7), (qt, .inl (cs 13, 6, .inl (fun j => Int32.ofInt (tm0 j))))]) ++ (wPlan cs ro si r1)) ++ (wPlan cs ro si r2)) ++ (wHistory cs ro si r3)) ++ (wGround cs ro si r4)) ++ (wWire cs qt r5)) ++ (wBins cs ro si qt r6)) ++ (wAnalytic cs qt (r5 0) (r6 0) r7)) ++ (wPacking cs ro si qt (r4 0) (fun j => some (r8 (7 + j))) r8)) _ _ := Wn
  refine mk_put (p1 := 2579) (idx := 94) (ty := .object "CellRows$Packing") (v := .ref (r8 0)) C hm Wl (ci := 11) (by decide) rfl 0 rfl 12 (by decide) (by decide +kernel) rfl (by decide +kernel) rfl rfl (Nat.le_of_ble_eq_true rfl) (by decide +kernel) (fun H1 locs1 Wl => ?_)
  replace Wl : mkW D cs A s ((((((((([(a, .inr (11, [.ref qt, .ref q0, .int 0, .ref q1, .int 0, .ref (r1 0), .ref (r2 0), .ref (r3 0), .ref (r4 0), .ref (r5 0), .ref (r6 0), .ref (r7 0), .ref (r8 0), .null])), (q0, aI cs 100), (q1, aI cs 7), (qt, .inl (cs 13, 6, .inl (fun j => Int32.ofInt (tm0 j))))]) ++ (wPlan cs ro si r1)) ++ (wPlan cs ro si r2)) ++ (wHistory cs ro si r3)) ++ (wGround cs ro si r4)) ++ (wWire cs qt r5)) ++ (wBins cs ro si qt r6)) ++ (wAnalytic cs qt (r5 0) (r6 0) r7)) ++ (wPacking cs ro si qt (r4 0) (fun j => some (r8 (7 + j))) r8)) _ _ := Wl
  refine lv_aload_n hx hb (k := 0) (i := 0) (by decide +kernel) rfl (lv_at hl 3 rfl) ?_
  refine mk_new (nam := "CellRows$Passes") (N := 12) (p1 := 2508) (p2 := 2509) (p3 := 2061) (idx := 98) (c2 := 393) (s2 := 8922) C Wl 8 (by decide) rfl rfl (by decide +kernel) (by decide +kernel) (by decide +kernel) (Nat.le_of_ble_eq_true rfl) (Nat.le_of_ble_eq_true rfl) (Nat.le_of_ble_eq_true rfl) (Nat.le_of_ble_eq_true rfl) (by decide +kernel) (fun u9 H1 Wl => ?_)
  refine lv_dup hx hb (by decide +kernel) rfl ?_
  refine lv_aload_n hx hb (k := 0) (i := 0) (by decide +kernel) rfl (lv_at hl 3 rfl) ?_
  refine mk_get (p1 := 2576) (idx := 67) C Wl (ci := 11) (by decide) 0 rfl 9 (by decide) (by decide +kernel) rfl (by decide +kernel) ?_
  refine lv_aload_n hx hb (k := 0) (i := 0) (by decide +kernel) rfl (lv_at hl 3 rfl) ?_
  refine mk_get (p1 := 2575) (idx := 58) C Wl (ci := 11) (by decide) 0 rfl 8 (by decide) (by decide +kernel) rfl (by decide +kernel) ?_
  refine mk_call (rest := [.ref u9, .ref a]) (a := u9) (wr := (((((((([(a, .inr (11, [.ref qt, .ref q0, .int 0, .ref q1, .int 0, .ref (r1 0), .ref (r2 0), .ref (r3 0), .ref (r4 0), .ref (r5 0), .ref (r6 0), .ref (r7 0), .ref (r8 0), .null])), (q0, aI cs 100), (q1, aI cs 7), (qt, .inl (cs 13, 6, .inl (fun j => Int32.ofInt (tm0 j))))]) ++ (wPlan cs ro si r1)) ++ (wPlan cs ro si r2)) ++ (wHistory cs ro si r3)) ++ (wGround cs ro si r4)) ++ (wWire cs qt r5)) ++ (wBins cs ro si qt r6)) ++ (wAnalytic cs qt (r5 0) (r6 0) r7)) ++ (wPacking cs ro si qt (r4 0) (fun j => some (r8 (7 + j))) r8)) (p0 := 2512) (p1 := 2510) (p2 := 2511) (p3 := 2061) (idx := 100) (c2 := 402) (s2 := 9017) C (k_Passes (w := r5 0) (g := r4 0)) Wl (fun _ _ _ _ h9 => h9) (fun _ _ _ => trivial) ⟨(Nat.le_of_ble_eq_true rfl), (Nat.le_of_ble_eq_true rfl)⟩ rfl ⟨(by decide +kernel), (by decide +kernel), (by show _ = some 2; decide +kernel)⟩ (by decide +kernel) (by decide +kernel) (by decide +kernel) (by decide +kernel) hl.1 (Nat.le_of_ble_eq_true rfl) (by decide +kernel) (Nat.le_of_ble_eq_true rfl) (Nat.le_of_ble_eq_true rfl) (Nat.le_of_ble_eq_true rfl) (Nat.le_of_ble_eq_true rfl) (fun r9 H1 locs1 hr Wn => ?_)
  subst hr
  replace Wl : mkW D cs A s (((((((((([(a, .inr (11, [.ref qt, .ref q0, .int 0, .ref q1, .int 0, .ref (r1 0), .ref (r2 0), .ref (r3 0), .ref (r4 0), .ref (r5 0), .ref (r6 0), .ref (r7 0), .ref (r8 0), .null])), (q0, aI cs 100), (q1, aI cs 7), (qt, .inl (cs 13, 6, .inl (fun j => Int32.ofInt (tm0 j))))]) ++ (wPlan cs ro si r1)) ++ (wPlan cs ro si r2)) ++ (wHistory cs ro si r3)) ++ (wGround cs ro si r4)) ++ (wWire cs qt r5)) ++ (wBins cs ro si qt r6)) ++ (wAnalytic cs qt (r5 0) (r6 0) r7)) ++ (wPacking cs ro si qt (r4 0) (fun j => some (r8 (7 + j))) r8)) ++ (wPasses cs (r5 0) (r4 0) r9)) _ _ := Wn
  refine mk_put (p1 := 2580) (idx := 103) (ty := .object "CellRows$Passes") (v := .ref (r9 0)) C hm Wl (ci := 11) (by decide) rfl 0 rfl 13 (by decide) (by decide +kernel) rfl (by decide +kernel) rfl rfl (Nat.le_of_ble_eq_true rfl) (by decide +kernel) (fun H1 locs1 Wl => ?_)
  replace Wl : mkW D cs A s (((((((((([(a, .inr (11, [.ref qt, .ref q0, .int 0, .ref q1, .int 0, .ref (r1 0), .ref (r2 0), .ref (r3 0), .ref (r4 0), .ref (r5 0), .ref (r6 0), .ref (r7 0), .ref (r8 0), .ref (r9 0)])), (q0, aI cs 100), (q1, aI cs 7), (qt, .inl (cs 13, 6, .inl (fun j => Int32.ofInt (tm0 j))))]) ++ (wPlan cs ro si r1)) ++ (wPlan cs ro si r2)) ++ (wHistory cs ro si r3)) ++ (wGround cs ro si r4)) ++ (wWire cs qt r5)) ++ (wBins cs ro si qt r6)) ++ (wAnalytic cs qt (r5 0) (r6 0) r7)) ++ (wPacking cs ro si qt (r4 0) (fun j => some (r8 (7 + j))) r8)) ++ (wPasses cs (r5 0) (r4 0) r9)) _ _ := Wl
  refine fin _ _ (rF (fun p => [fun k => [a, qt, q0, q1].getD k 0, r1, r2, r3, r4, r5, r6, r7, r8, r9].getD p (fun _ => 0))) _ _ ?_ rfl (by decide +kernel)
  show mkW D cs A s (wRows cs ro si (fR (rF _))) _ _
  rw [wRows_F]
  exact Wl
