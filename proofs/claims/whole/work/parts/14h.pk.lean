/-! THE CONSTRUCTORS, VI: packing -/
def gnE (D : va_G) (g : Nat) (gf : List Value) (a : Nat) (U : State) : Prop := va_at D xcl (g, .inr (4, gf)) U.heap ∧ g ≠ a
def rkP (a q0 q1 q2 q3 q4 qm : Nat) : Nat → Nat := fun k => if k < 7 then [a, q0, q1, q3, q4, q2, qm].getD k 0 else qm + 1 + (k - 7)
theorem rkP_hi {a q0 q1 q2 q3 q4 qm j : Nat} : rkP a q0 q1 q2 q3 q4 qm (7 + j) = qm + 1 + j := by
  unfold rkP
  rw [if_neg (by omega), Nat.add_sub_cancel_left]
def wPacking (cs : Nat → ClassId) (ro si : Int) (t g : Nat) (f : Nat → Option Nat) (r : Nat → Nat) : va_W := (([(r 0, .inr (7, [.ref t, .ref g, .ref (r 1), .int 0, .ref (r 2), .ref (r 3), .ref (r 4), .ref (r 5), .ref (r 6)])), (r 1, aI cs 20), (r 2, aI cs 20), (r 5, aI cs 21)] ++ (r 6, aQ (cs 16) 21 f) :: (List.range 21).map (fun j => (r (7 + j), aI cs 33))) ++ [(r 3, aI cs (ro * si).toNat)]) ++ [(r 4, aI cs (ro * si).toNat)]
abbrev rmPacking : Room := { frames := 1, cells := 27, slots := 1287, locals := 20 }
set_option maxHeartbeats 4000000 in
theorem k_Packing {l : Launch} {D : va_G} {cs : Nat → ClassId} {ro si : Int} {t g : Nat} {gf : List Value} (r1 : 1 ≤ ro ∧ ro ≤ 8) (s1 : 8 ≤ si ∧ si ≤ 32) (h0 : gf[0]? = some (.int (Int32.ofInt ro))) (h1 : gf[1]? = some (.int (Int32.ofInt si))) : Ctor l D cs ⟨"CellRows$Packing", "<init>", "([ILCellRows$Ground;)V"⟩ prog_9_method_1_code 3 rmPacking [.ref t, .ref g] (fun a => [(a, nO 7)]) (fun r => wPacking cs ro si t g (fun j => some (r (7 + j))) r) (gnE D g gf) := by
  refine mk_met (by decide +kernel) rfl (Nat.le_of_ble_eq_true rfl) ?_
  intro p e s m args below meth c a A ls Q C hm Wl hX hA9 hl fin
  have hx := C.1
  have hb := C.2.1
  have hp : 0 ≤ ro * si ∧ ro * si ≤ 256 := rs_bd r1 s1
  have hn := nn_ok hp.1 (by omega)
  have hAg : ¬ A g := by
    intro h
    rcases hA9 g h with ⟨k, e9, hk⟩ | h9
    · cases k with
      | zero =>
        cases hk
        exact hX.2 rfl
      | succ k => cases hk
    · have := hX.1.lt
      exact Nat.lt_irrefl _ (Nat.lt_of_lt_of_le this h9)
  replace Wl : mkW D cs A s ([(a, .inr (7, [.null, .null, .null, .int 0, .null, .null, .null, .null, .null]))]) _ _ := Wl
  refine lv_aload_n hx hb (k := 0) (i := 0) (by decide +kernel) rfl (lv_at hl 0 rfl) ?_
  refine mk_obj (p1 := 2477) (idx := 3) C (by decide +kernel) hl.1 (Nat.le_of_ble_eq_true rfl) (Nat.le_of_ble_eq_true rfl) (by decide +kernel) ?_
  refine lv_aload_n hx hb (k := 0) (i := 0) (by decide +kernel) rfl (lv_at hl 0 rfl) ?_
  refine lv_bipush hx hb (n := 20) (v := Int32.ofInt 20) (by decide +kernel) (by decide +kernel) ?_
  refine mk_arr (N := 20) (nm := 20) (c2 := 1) (s2 := 20) C Wl (nn_ok (z := 20) (by decide) (by decide)).1 (nn_ok (z := 20) (by decide) (by decide)).2 (Nat.le_of_ble_eq_true rfl) (Nat.le_of_ble_eq_true rfl) (Nat.le_of_ble_eq_true rfl) (Nat.le_of_ble_eq_true rfl) (Nat.le_of_ble_eq_true rfl) (Nat.le_of_ble_eq_true rfl) (by decide +kernel) (fun q0 H1 Wl => ?_)
  replace Wl : mkW D cs A s ([(a, .inr (7, [.null, .null, .null, .int 0, .null, .null, .null, .null, .null])), (q0, aI cs 20)]) _ _ := Wl
  refine mk_put (p1 := 2482) (idx := 9) (ty := .array .int) (v := .ref q0) C hm Wl (ci := 7) (by decide) rfl 0 rfl 2 (by decide) (by decide +kernel) rfl (by decide +kernel) rfl rfl (Nat.le_of_ble_eq_true rfl) (by decide +kernel) (fun H1 locs1 Wl => ?_)
  replace Wl : mkW D cs A s ([(a, .inr (7, [.null, .null, .ref q0, .int 0, .null, .null, .null, .null, .null])), (q0, aI cs 20)]) _ _ := Wl
  refine lv_aload_n hx hb (k := 0) (i := 0) (by decide +kernel) rfl (lv_at hl 0 rfl) ?_
  refine lv_bipush hx hb (n := 20) (v := Int32.ofInt 20) (by decide +kernel) (by decide +kernel) ?_
  refine mk_arr (N := 20) (nm := 20) (c2 := 2) (s2 := 40) C Wl (nn_ok (z := 20) (by decide) (by decide)).1 (nn_ok (z := 20) (by decide) (by decide)).2 (Nat.le_of_ble_eq_true rfl) (Nat.le_of_ble_eq_true rfl) (Nat.le_of_ble_eq_true rfl) (Nat.le_of_ble_eq_true rfl) (Nat.le_of_ble_eq_true rfl) (Nat.le_of_ble_eq_true rfl) (by decide +kernel) (fun q1 H1 Wl => ?_)
  replace Wl : mkW D cs A s ([(a, .inr (7, [.null, .null, .ref q0, .int 0, .null, .null, .null, .null, .null])), (q0, aI cs 20), (q1, aI cs 20)]) _ _ := Wl
  refine mk_put (p1 := 2484) (idx := 15) (ty := .array .int) (v := .ref q1) C hm Wl (ci := 7) (by decide) rfl 0 rfl 4 (by decide) (by decide +kernel) rfl (by decide +kernel) rfl rfl (Nat.le_of_ble_eq_true rfl) (by decide +kernel) (fun H1 locs1 Wl => ?_)
  replace Wl : mkW D cs A s ([(a, .inr (7, [.null, .null, .ref q0, .int 0, .ref q1, .null, .null, .null, .null])), (q0, aI cs 20), (q1, aI cs 20)]) _ _ := Wl
  refine lv_aload_n hx hb (k := 0) (i := 0) (by decide +kernel) rfl (lv_at hl 0 rfl) ?_
  refine lv_bipush hx hb (n := 21) (v := Int32.ofInt 21) (by decide +kernel) (by decide +kernel) ?_
  refine mk_arr (N := 21) (nm := 21) (c2 := 3) (s2 := 61) C Wl (nn_ok (z := 21) (by decide) (by decide)).1 (nn_ok (z := 21) (by decide) (by decide)).2 (Nat.le_of_ble_eq_true rfl) (Nat.le_of_ble_eq_true rfl) (Nat.le_of_ble_eq_true rfl) (Nat.le_of_ble_eq_true rfl) (Nat.le_of_ble_eq_true rfl) (Nat.le_of_ble_eq_true rfl) (by decide +kernel) (fun q2 H1 Wl => ?_)
  replace Wl : mkW D cs A s ([(a, .inr (7, [.null, .null, .ref q0, .int 0, .ref q1, .null, .null, .null, .null])), (q0, aI cs 20), (q1, aI cs 20), (q2, aI cs 21)]) _ _ := Wl
  refine mk_put (p1 := 2487) (idx := 18) (ty := .array .int) (v := .ref q2) C hm Wl (ci := 7) (by decide) rfl 0 rfl 7 (by decide) (by decide +kernel) rfl (by decide +kernel) rfl rfl (Nat.le_of_ble_eq_true rfl) (by decide +kernel) (fun H1 locs1 Wl => ?_)
  replace Wl : mkW D cs A s ([(a, .inr (7, [.null, .null, .ref q0, .int 0, .ref q1, .null, .null, .ref q2, .null])), (q0, aI cs 20), (q1, aI cs 20), (q2, aI cs 21)]) _ _ := Wl
  refine lv_aload_n hx hb (k := 0) (i := 0) (by decide +kernel) rfl (lv_at hl 0 rfl) ?_
  refine lv_bipush hx hb (n := 21) (v := Int32.ofInt 21) (by decide +kernel) (by decide +kernel) ?_
  refine lv_bipush hx hb (n := 33) (v := Int32.ofInt 33) (by decide +kernel) (by decide +kernel) ?_
  refine mk_mul (N := 21) (K := 33) (c2 := 25) (s2 := 775) (p1 := 2478) (idx := 21) C Wl (by decide +kernel) (nn_ok (z := 21) (by decide) (by decide)) (nn_ok (z := 33) (by decide) (by decide)) (Nat.le_of_ble_eq_true rfl) (Nat.le_of_ble_eq_true rfl) (Nat.le_of_ble_eq_true rfl) (Nat.le_of_ble_eq_true rfl) (Nat.le_of_ble_eq_true rfl) (Nat.le_of_ble_eq_true rfl) (by decide +kernel) (fun qm H1 locs1 Wl => ?_)
  replace Wl : mkW D cs A s ([(a, .inr (7, [.null, .null, .ref q0, .int 0, .ref q1, .null, .null, .ref q2, .null])), (q0, aI cs 20), (q1, aI cs 20), (q2, aI cs 21)] ++ (qm, aQ (cs 16) 21 (fun j => some (qm + 1 + j))) :: (List.range 21).map (fun j => (qm + 1 + j, aI cs 33))) _ _ := Wl
  refine mk_put (p1 := 2488) (idx := 23) (ty := .array (.array .int)) (v := .ref qm) C hm Wl (ci := 7) (by decide) rfl 0 rfl 8 (by decide) (by decide +kernel) rfl (by decide +kernel) rfl rfl (Nat.le_of_ble_eq_true rfl) (by decide +kernel) (fun H1 locs1 Wl => ?_)
  replace Wl : mkW D cs A s ([(a, .inr (7, [.null, .null, .ref q0, .int 0, .ref q1, .null, .null, .ref q2, .ref qm])), (q0, aI cs 20), (q1, aI cs 20), (q2, aI cs 21)] ++ (qm, aQ (cs 16) 21 (fun j => some (qm + 1 + j))) :: (List.range 21).map (fun j => (qm + 1 + j, aI cs 33))) _ _ := Wl
  refine lv_aload_n hx hb (k := 0) (i := 0) (by decide +kernel) rfl (lv_at hl 0 rfl) ?_
  refine lv_aload_n hx hb (k := 1) (i := 1) (by decide +kernel) rfl (lv_at hl 1 rfl) ?_
  refine mk_put (p1 := 2480) (idx := 26) (ty := .array .int) (v := .ref t) C hm Wl (ci := 7) (by decide) rfl 0 rfl 0 (by decide) (by decide +kernel) rfl (by decide +kernel) rfl rfl (Nat.le_of_ble_eq_true rfl) (by decide +kernel) (fun H1 locs1 Wl => ?_)
  replace Wl : mkW D cs A s ([(a, .inr (7, [.ref t, .null, .ref q0, .int 0, .ref q1, .null, .null, .ref q2, .ref qm])), (q0, aI cs 20), (q1, aI cs 20), (q2, aI cs 21)] ++ (qm, aQ (cs 16) 21 (fun j => some (qm + 1 + j))) :: (List.range 21).map (fun j => (qm + 1 + j, aI cs 33))) _ _ := Wl
  refine lv_aload_n hx hb (k := 0) (i := 0) (by decide +kernel) rfl (lv_at hl 0 rfl) ?_
  refine lv_aload_n hx hb (k := 2) (i := 2) (by decide +kernel) rfl (lv_at hl 2 rfl) ?_
  refine mk_put (p1 := 2481) (idx := 29) (ty := .object "CellRows$Ground") (v := .ref g) C hm Wl (ci := 7) (by decide) rfl 0 rfl 1 (by decide) (by decide +kernel) rfl (by decide +kernel) rfl rfl (Nat.le_of_ble_eq_true rfl) (by decide +kernel) (fun H1 locs1 Wl => ?_)
  replace Wl : mkW D cs A s ([(a, .inr (7, [.ref t, .ref g, .ref q0, .int 0, .ref q1, .null, .null, .ref q2, .ref qm])), (q0, aI cs 20), (q1, aI cs 20), (q2, aI cs 21)] ++ (qm, aQ (cs 16) 21 (fun j => some (qm + 1 + j))) :: (List.range 21).map (fun j => (qm + 1 + j, aI cs 33))) _ _ := Wl
  refine lv_aload_n hx hb (k := 0) (i := 0) (by decide +kernel) rfl (lv_at hl 0 rfl) ?_
  refine lv_aload_n hx hb (k := 2) (i := 2) (by decide +kernel) rfl (lv_at hl 2 rfl) ?_
  refine mk_gte (p1 := 2329) (idx := 33) C Wl (ci := 4) (by decide) hX.1 hAg 0 (by decide) (by decide +kernel) h0 (by decide +kernel) ?_
  refine lv_aload_n hx hb (k := 2) (i := 2) (by decide +kernel) rfl (lv_at hl 2 rfl) ?_
  refine mk_gte (p1 := 2332) (idx := 39) C Wl (ci := 4) (by decide) hX.1 hAg 1 (by decide) (by decide +kernel) h1 (by decide +kernel) ?_
  refine lv_imul hx hb (by decide +kernel) ?_
  rw [show Int32.ofInt ro * Int32.ofInt si = Int32.ofInt (ro * si) from (Int32.ofInt_mul _ _).symm]
  refine mk_arr (N := (ro * si).toNat) (nm := 256) (c2 := 26) (s2 := 1031) C Wl hn.1 hn.2 (by omega) (Nat.le_of_ble_eq_true rfl) (Nat.le_of_ble_eq_true rfl) (Nat.le_of_ble_eq_true rfl) (Nat.le_of_ble_eq_true rfl) (Nat.le_of_ble_eq_true rfl) (by decide +kernel) (fun q3 H1 Wl => ?_)
  replace Wl : mkW D cs A s (([(a, .inr (7, [.ref t, .ref g, .ref q0, .int 0, .ref q1, .null, .null, .ref q2, .ref qm])), (q0, aI cs 20), (q1, aI cs 20), (q2, aI cs 21)] ++ (qm, aQ (cs 16) 21 (fun j => some (qm + 1 + j))) :: (List.range 21).map (fun j => (qm + 1 + j, aI cs 33))) ++ [(q3, aI cs (ro * si).toNat)]) _ _ := Wl
  refine mk_put (p1 := 2485) (idx := 42) (ty := .array .int) (v := .ref q3) C hm Wl (ci := 7) (by decide) rfl 0 rfl 5 (by decide) (by decide +kernel) rfl (by decide +kernel) rfl rfl (Nat.le_of_ble_eq_true rfl) (by decide +kernel) (fun H1 locs1 Wl => ?_)
  replace Wl : mkW D cs A s (([(a, .inr (7, [.ref t, .ref g, .ref q0, .int 0, .ref q1, .ref q3, .null, .ref q2, .ref qm])), (q0, aI cs 20), (q1, aI cs 20), (q2, aI cs 21)] ++ (qm, aQ (cs 16) 21 (fun j => some (qm + 1 + j))) :: (List.range 21).map (fun j => (qm + 1 + j, aI cs 33))) ++ [(q3, aI cs (ro * si).toNat)]) _ _ := Wl
  refine lv_aload_n hx hb (k := 0) (i := 0) (by decide +kernel) rfl (lv_at hl 0 rfl) ?_
  refine lv_aload_n hx hb (k := 2) (i := 2) (by decide +kernel) rfl (lv_at hl 2 rfl) ?_
  refine mk_gte (p1 := 2329) (idx := 33) C Wl (ci := 4) (by decide) hX.1 hAg 0 (by decide) (by decide +kernel) h0 (by decide +kernel) ?_
  refine lv_aload_n hx hb (k := 2) (i := 2) (by decide +kernel) rfl (lv_at hl 2 rfl) ?_
  refine mk_gte (p1 := 2332) (idx := 39) C Wl (ci := 4) (by decide) hX.1 hAg 1 (by decide) (by decide +kernel) h1 (by decide +kernel) ?_
  refine lv_imul hx hb (by decide +kernel) ?_
  rw [show Int32.ofInt ro * Int32.ofInt si = Int32.ofInt (ro * si) from (Int32.ofInt_mul _ _).symm]
  refine mk_arr (N := (ro * si).toNat) (nm := 256) (c2 := 27) (s2 := 1287) C Wl hn.1 hn.2 (by omega) (Nat.le_of_ble_eq_true rfl) (Nat.le_of_ble_eq_true rfl) (Nat.le_of_ble_eq_true rfl) (Nat.le_of_ble_eq_true rfl) (Nat.le_of_ble_eq_true rfl) (by decide +kernel) (fun q4 H1 Wl => ?_)
  replace Wl : mkW D cs A s ((([(a, .inr (7, [.ref t, .ref g, .ref q0, .int 0, .ref q1, .ref q3, .null, .ref q2, .ref qm])), (q0, aI cs 20), (q1, aI cs 20), (q2, aI cs 21)] ++ (qm, aQ (cs 16) 21 (fun j => some (qm + 1 + j))) :: (List.range 21).map (fun j => (qm + 1 + j, aI cs 33))) ++ [(q3, aI cs (ro * si).toNat)]) ++ [(q4, aI cs (ro * si).toNat)]) _ _ := Wl
  refine mk_put (p1 := 2486) (idx := 45) (ty := .array .int) (v := .ref q4) C hm Wl (ci := 7) (by decide) rfl 0 rfl 6 (by decide) (by decide +kernel) rfl (by decide +kernel) rfl rfl (Nat.le_of_ble_eq_true rfl) (by decide +kernel) (fun H1 locs1 Wl => ?_)
  replace Wl : mkW D cs A s ((([(a, .inr (7, [.ref t, .ref g, .ref q0, .int 0, .ref q1, .ref q3, .ref q4, .ref q2, .ref qm])), (q0, aI cs 20), (q1, aI cs 20), (q2, aI cs 21)] ++ (qm, aQ (cs 16) 21 (fun j => some (qm + 1 + j))) :: (List.range 21).map (fun j => (qm + 1 + j, aI cs 33))) ++ [(q3, aI cs (ro * si).toNat)]) ++ [(q4, aI cs (ro * si).toNat)]) _ _ := Wl
  refine fin _ _ (rkP a q0 q1 q2 q3 q4 qm) _ _ ?_ rfl (by decide +kernel)
  have ew : wPacking cs ro si t g (fun j => some (rkP a q0 q1 q2 q3 q4 qm (7 + j))) (rkP a q0 q1 q2 q3 q4 qm) = (([(a, .inr (7, [.ref t, .ref g, .ref q0, .int 0, .ref q1, .ref q3, .ref q4, .ref q2, .ref qm])), (q0, aI cs 20), (q1, aI cs 20), (q2, aI cs 21)] ++ (qm, aQ (cs 16) 21 (fun j => some (qm + 1 + j))) :: (List.range 21).map (fun j => (qm + 1 + j, aI cs 33))) ++ [(q3, aI cs (ro * si).toNat)]) ++ [(q4, aI cs (ro * si).toNat)] := by
    unfold wPacking
    rw [show (fun j => some (rkP a q0 q1 q2 q3 q4 qm (7 + j))) = fun j => some (qm + 1 + j) from funext fun j => by rw [rkP_hi], show (fun j => (rkP a q0 q1 q2 q3 q4 qm (7 + j), aI cs 33)) = fun j => (qm + 1 + j, aI cs 33) from funext fun j => by rw [rkP_hi]]
    rfl
  show mkW D cs A s (wPacking cs ro si t g (fun j => some (rkP a q0 q1 q2 q3 q4 qm (7 + j))) (rkP a q0 q1 q2 q3 q4 qm)) _ _
  rw [ew]
  exact Wl
