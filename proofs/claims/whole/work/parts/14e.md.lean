/-! THE CONSTRUCTORS, III: the ground, the bins -/
theorem rs_bd {ro si : Int} (r1 : 1 ≤ ro ∧ ro ≤ 8) (s1 : 8 ≤ si ∧ si ≤ 32) : 0 ≤ ro * si ∧ ro * si ≤ 256 := by
  have a1 := Int.mul_le_mul_of_nonneg_right r1.2 (show 0 ≤ si by omega)
  have a2 := Int.mul_nonneg (show 0 ≤ ro by omega) (show 0 ≤ si by omega)
  omega
abbrev rmGround : Room := { frames := 1, cells := 6, slots := 1300, locals := 20 }
def wGround (cs : Nat → ClassId) (ro si : Int) (r : Nat → Nat) : va_W := [(r 0, .inr (4, [.int (Int32.ofInt ro), .int (Int32.ofInt si), .ref (r 1), .int 0, .ref (r 2), .ref (r 3), .ref (r 4), .ref (r 5), .ref (r 6)])), (r 6, aI cs 20), (r 1, aI cs (ro * si).toNat), (r 2, aI cs (ro * si).toNat), (r 3, aI cs (ro * si).toNat), (r 4, aI cs (ro * si).toNat), (r 5, aI cs (ro * si).toNat)]
set_option maxHeartbeats 4000000 in
theorem k_Ground {l : Launch} {D : va_G} {cs : Nat → ClassId} {ro si : Int} (r1 : 1 ≤ ro ∧ ro ≤ 8) (s1 : 8 ≤ si ∧ si ≤ 32) : Ctor l D cs ⟨"CellRows$Ground", "<init>", "(II)V"⟩ prog_6_method_1_code 3 rmGround [.int (Int32.ofInt ro), .int (Int32.ofInt si)] (fun a => [(a, nO 4)]) (wGround cs ro si) (fun _ _ => True) := by
  refine mk_met (by decide +kernel) rfl (Nat.le_of_ble_eq_true rfl) ?_
  intro p e s m args below meth c a A ls Q C hm Wl hX hA9 hl fin
  have hx := C.1
  have hb := C.2.1
  have hp : 0 ≤ ro * si ∧ ro * si ≤ 256 := rs_bd r1 s1
  have hn := nn_ok hp.1 (by omega)
  replace Wl : mkW D cs A s ([(a, .inr (4, [.int 0, .int 0, .null, .int 0, .null, .null, .null, .null, .null]))]) _ _ := Wl
  refine lv_aload_n hx hb (k := 0) (i := 0) (by decide +kernel) rfl (lv_at hl 0 rfl) ?_
  refine mk_obj (p1 := 2327) (idx := 3) C (by decide +kernel) hl.1 (Nat.le_of_ble_eq_true rfl) (Nat.le_of_ble_eq_true rfl) (by decide +kernel) ?_
  refine lv_aload_n hx hb (k := 0) (i := 0) (by decide +kernel) rfl (lv_at hl 0 rfl) ?_
  refine lv_bipush hx hb (n := 20) (v := Int32.ofInt 20) (by decide +kernel) (by decide +kernel) ?_
  refine mk_arr (N := 20) (nm := 20) (c2 := 1) (s2 := 20) C Wl (nn_ok (z := 20) (by decide) (by decide)).1 (nn_ok (z := 20) (by decide) (by decide)).2 (Nat.le_of_ble_eq_true rfl) (Nat.le_of_ble_eq_true rfl) (Nat.le_of_ble_eq_true rfl) (Nat.le_of_ble_eq_true rfl) (Nat.le_of_ble_eq_true rfl) (Nat.le_of_ble_eq_true rfl) (by decide +kernel) (fun q0 H1 Wl => ?_)
  replace Wl : mkW D cs A s ([(a, .inr (4, [.int 0, .int 0, .null, .int 0, .null, .null, .null, .null, .null])), (q0, aI cs 20)]) _ _ := Wl
  refine mk_put (p1 := 2349) (idx := 9) (ty := .array .int) (v := .ref q0) C hm Wl (ci := 4) (by decide) rfl 0 rfl 8 (by decide) (by decide +kernel) rfl (by decide +kernel) rfl rfl (Nat.le_of_ble_eq_true rfl) (by decide +kernel) (fun H1 locs1 Wl => ?_)
  replace Wl : mkW D cs A s ([(a, .inr (4, [.int 0, .int 0, .null, .int 0, .null, .null, .null, .null, .ref q0])), (q0, aI cs 20)]) _ _ := Wl
  refine lv_aload_n hx hb (k := 0) (i := 0) (by decide +kernel) rfl (lv_at hl 0 rfl) ?_
  refine lv_iload_n hx hb (k := 1) (i := 1) (by decide +kernel) rfl (lv_at hl 1 rfl) ?_
  refine mk_put (p1 := 2328) (idx := 15) (ty := .int) (v := .int (Int32.ofInt ro)) C hm Wl (ci := 4) (by decide) rfl 0 rfl 0 (by decide) (by decide +kernel) rfl (by decide +kernel) rfl rfl (Nat.le_of_ble_eq_true rfl) (by decide +kernel) (fun H1 locs1 Wl => ?_)
  replace Wl : mkW D cs A s ([(a, .inr (4, [.int (Int32.ofInt ro), .int 0, .null, .int 0, .null, .null, .null, .null, .ref q0])), (q0, aI cs 20)]) _ _ := Wl
  refine lv_aload_n hx hb (k := 0) (i := 0) (by decide +kernel) rfl (lv_at hl 0 rfl) ?_
  refine lv_iload_n hx hb (k := 2) (i := 2) (by decide +kernel) rfl (lv_at hl 2 rfl) ?_
  refine mk_put (p1 := 2331) (idx := 19) (ty := .int) (v := .int (Int32.ofInt si)) C hm Wl (ci := 4) (by decide) rfl 0 rfl 1 (by decide) (by decide +kernel) rfl (by decide +kernel) rfl rfl (Nat.le_of_ble_eq_true rfl) (by decide +kernel) (fun H1 locs1 Wl => ?_)
  replace Wl : mkW D cs A s ([(a, .inr (4, [.int (Int32.ofInt ro), .int (Int32.ofInt si), .null, .int 0, .null, .null, .null, .null, .ref q0])), (q0, aI cs 20)]) _ _ := Wl
  refine lv_aload_n hx hb (k := 0) (i := 0) (by decide +kernel) rfl (lv_at hl 0 rfl) ?_
  refine lv_iload_n hx hb (k := 1) (i := 1) (by decide +kernel) rfl (lv_at hl 1 rfl) ?_
  refine lv_iload_n hx hb (k := 2) (i := 2) (by decide +kernel) rfl (lv_at hl 2 rfl) ?_
  refine lv_imul hx hb (by decide +kernel) ?_
  rw [show Int32.ofInt ro * Int32.ofInt si = Int32.ofInt (ro * si) from (Int32.ofInt_mul _ _).symm]
  refine mk_arr (N := (ro * si).toNat) (nm := 256) (c2 := 2) (s2 := 276) C Wl hn.1 hn.2 (by omega) (Nat.le_of_ble_eq_true rfl) (Nat.le_of_ble_eq_true rfl) (Nat.le_of_ble_eq_true rfl) (Nat.le_of_ble_eq_true rfl) (Nat.le_of_ble_eq_true rfl) (by decide +kernel) (fun q1 H1 Wl => ?_)
  replace Wl : mkW D cs A s ([(a, .inr (4, [.int (Int32.ofInt ro), .int (Int32.ofInt si), .null, .int 0, .null, .null, .null, .null, .ref q0])), (q0, aI cs 20), (q1, aI cs (ro * si).toNat)]) _ _ := Wl
  refine mk_put (p1 := 2334) (idx := 22) (ty := .array .int) (v := .ref q1) C hm Wl (ci := 4) (by decide) rfl 0 rfl 2 (by decide) (by decide +kernel) rfl (by decide +kernel) rfl rfl (Nat.le_of_ble_eq_true rfl) (by decide +kernel) (fun H1 locs1 Wl => ?_)
  replace Wl : mkW D cs A s ([(a, .inr (4, [.int (Int32.ofInt ro), .int (Int32.ofInt si), .ref q1, .int 0, .null, .null, .null, .null, .ref q0])), (q0, aI cs 20), (q1, aI cs (ro * si).toNat)]) _ _ := Wl
  refine lv_aload_n hx hb (k := 0) (i := 0) (by decide +kernel) rfl (lv_at hl 0 rfl) ?_
  refine lv_iload_n hx hb (k := 1) (i := 1) (by decide +kernel) rfl (lv_at hl 1 rfl) ?_
  refine lv_iload_n hx hb (k := 2) (i := 2) (by decide +kernel) rfl (lv_at hl 2 rfl) ?_
  refine lv_imul hx hb (by decide +kernel) ?_
  rw [show Int32.ofInt ro * Int32.ofInt si = Int32.ofInt (ro * si) from (Int32.ofInt_mul _ _).symm]
  refine mk_arr (N := (ro * si).toNat) (nm := 256) (c2 := 3) (s2 := 532) C Wl hn.1 hn.2 (by omega) (Nat.le_of_ble_eq_true rfl) (Nat.le_of_ble_eq_true rfl) (Nat.le_of_ble_eq_true rfl) (Nat.le_of_ble_eq_true rfl) (Nat.le_of_ble_eq_true rfl) (by decide +kernel) (fun q2 H1 Wl => ?_)
  replace Wl : mkW D cs A s ([(a, .inr (4, [.int (Int32.ofInt ro), .int (Int32.ofInt si), .ref q1, .int 0, .null, .null, .null, .null, .ref q0])), (q0, aI cs 20), (q1, aI cs (ro * si).toNat), (q2, aI cs (ro * si).toNat)]) _ _ := Wl
  refine mk_put (p1 := 2339) (idx := 25) (ty := .array .int) (v := .ref q2) C hm Wl (ci := 4) (by decide) rfl 0 rfl 4 (by decide) (by decide +kernel) rfl (by decide +kernel) rfl rfl (Nat.le_of_ble_eq_true rfl) (by decide +kernel) (fun H1 locs1 Wl => ?_)
  replace Wl : mkW D cs A s ([(a, .inr (4, [.int (Int32.ofInt ro), .int (Int32.ofInt si), .ref q1, .int 0, .ref q2, .null, .null, .null, .ref q0])), (q0, aI cs 20), (q1, aI cs (ro * si).toNat), (q2, aI cs (ro * si).toNat)]) _ _ := Wl
  refine lv_aload_n hx hb (k := 0) (i := 0) (by decide +kernel) rfl (lv_at hl 0 rfl) ?_
  refine lv_iload_n hx hb (k := 1) (i := 1) (by decide +kernel) rfl (lv_at hl 1 rfl) ?_
  refine lv_iload_n hx hb (k := 2) (i := 2) (by decide +kernel) rfl (lv_at hl 2 rfl) ?_
  refine lv_imul hx hb (by decide +kernel) ?_
  rw [show Int32.ofInt ro * Int32.ofInt si = Int32.ofInt (ro * si) from (Int32.ofInt_mul _ _).symm]
  refine mk_arr (N := (ro * si).toNat) (nm := 256) (c2 := 4) (s2 := 788) C Wl hn.1 hn.2 (by omega) (Nat.le_of_ble_eq_true rfl) (Nat.le_of_ble_eq_true rfl) (Nat.le_of_ble_eq_true rfl) (Nat.le_of_ble_eq_true rfl) (Nat.le_of_ble_eq_true rfl) (by decide +kernel) (fun q3 H1 Wl => ?_)
  replace Wl : mkW D cs A s ([(a, .inr (4, [.int (Int32.ofInt ro), .int (Int32.ofInt si), .ref q1, .int 0, .ref q2, .null, .null, .null, .ref q0])), (q0, aI cs 20), (q1, aI cs (ro * si).toNat), (q2, aI cs (ro * si).toNat), (q3, aI cs (ro * si).toNat)]) _ _ := Wl
  refine mk_put (p1 := 2341) (idx := 28) (ty := .array .int) (v := .ref q3) C hm Wl (ci := 4) (by decide) rfl 0 rfl 5 (by decide) (by decide +kernel) rfl (by decide +kernel) rfl rfl (Nat.le_of_ble_eq_true rfl) (by decide +kernel) (fun H1 locs1 Wl => ?_)
  replace Wl : mkW D cs A s ([(a, .inr (4, [.int (Int32.ofInt ro), .int (Int32.ofInt si), .ref q1, .int 0, .ref q2, .ref q3, .null, .null, .ref q0])), (q0, aI cs 20), (q1, aI cs (ro * si).toNat), (q2, aI cs (ro * si).toNat), (q3, aI cs (ro * si).toNat)]) _ _ := Wl
  refine lv_aload_n hx hb (k := 0) (i := 0) (by decide +kernel) rfl (lv_at hl 0 rfl) ?_
  refine lv_iload_n hx hb (k := 1) (i := 1) (by decide +kernel) rfl (lv_at hl 1 rfl) ?_
  refine lv_iload_n hx hb (k := 2) (i := 2) (by decide +kernel) rfl (lv_at hl 2 rfl) ?_
  refine lv_imul hx hb (by decide +kernel) ?_
  rw [show Int32.ofInt ro * Int32.ofInt si = Int32.ofInt (ro * si) from (Int32.ofInt_mul _ _).symm]
  refine mk_arr (N := (ro * si).toNat) (nm := 256) (c2 := 5) (s2 := 1044) C Wl hn.1 hn.2 (by omega) (Nat.le_of_ble_eq_true rfl) (Nat.le_of_ble_eq_true rfl) (Nat.le_of_ble_eq_true rfl) (Nat.le_of_ble_eq_true rfl) (Nat.le_of_ble_eq_true rfl) (by decide +kernel) (fun q4 H1 Wl => ?_)
  replace Wl : mkW D cs A s ([(a, .inr (4, [.int (Int32.ofInt ro), .int (Int32.ofInt si), .ref q1, .int 0, .ref q2, .ref q3, .null, .null, .ref q0])), (q0, aI cs 20), (q1, aI cs (ro * si).toNat), (q2, aI cs (ro * si).toNat), (q3, aI cs (ro * si).toNat), (q4, aI cs (ro * si).toNat)]) _ _ := Wl
  refine mk_put (p1 := 2343) (idx := 31) (ty := .array .int) (v := .ref q4) C hm Wl (ci := 4) (by decide) rfl 0 rfl 6 (by decide) (by decide +kernel) rfl (by decide +kernel) rfl rfl (Nat.le_of_ble_eq_true rfl) (by decide +kernel) (fun H1 locs1 Wl => ?_)
  replace Wl : mkW D cs A s ([(a, .inr (4, [.int (Int32.ofInt ro), .int (Int32.ofInt si), .ref q1, .int 0, .ref q2, .ref q3, .ref q4, .null, .ref q0])), (q0, aI cs 20), (q1, aI cs (ro * si).toNat), (q2, aI cs (ro * si).toNat), (q3, aI cs (ro * si).toNat), (q4, aI cs (ro * si).toNat)]) _ _ := Wl
  refine lv_aload_n hx hb (k := 0) (i := 0) (by decide +kernel) rfl (lv_at hl 0 rfl) ?_
  refine lv_iload_n hx hb (k := 1) (i := 1) (by decide +kernel) rfl (lv_at hl 1 rfl) ?_
  refine lv_iload_n hx hb (k := 2) (i := 2) (by decide +kernel) rfl (lv_at hl 2 rfl) ?_
  refine lv_imul hx hb (by decide +kernel) ?_
  rw [show Int32.ofInt ro * Int32.ofInt si = Int32.ofInt (ro * si) from (Int32.ofInt_mul _ _).symm]
  refine mk_arr (N := (ro * si).toNat) (nm := 256) (c2 := 6) (s2 := 1300) C Wl hn.1 hn.2 (by omega) (Nat.le_of_ble_eq_true rfl) (Nat.le_of_ble_eq_true rfl) (Nat.le_of_ble_eq_true rfl) (Nat.le_of_ble_eq_true rfl) (Nat.le_of_ble_eq_true rfl) (by decide +kernel) (fun q5 H1 Wl => ?_)
  replace Wl : mkW D cs A s ([(a, .inr (4, [.int (Int32.ofInt ro), .int (Int32.ofInt si), .ref q1, .int 0, .ref q2, .ref q3, .ref q4, .null, .ref q0])), (q0, aI cs 20), (q1, aI cs (ro * si).toNat), (q2, aI cs (ro * si).toNat), (q3, aI cs (ro * si).toNat), (q4, aI cs (ro * si).toNat), (q5, aI cs (ro * si).toNat)]) _ _ := Wl
  refine mk_put (p1 := 2346) (idx := 34) (ty := .array .int) (v := .ref q5) C hm Wl (ci := 4) (by decide) rfl 0 rfl 7 (by decide) (by decide +kernel) rfl (by decide +kernel) rfl rfl (Nat.le_of_ble_eq_true rfl) (by decide +kernel) (fun H1 locs1 Wl => ?_)
  replace Wl : mkW D cs A s ([(a, .inr (4, [.int (Int32.ofInt ro), .int (Int32.ofInt si), .ref q1, .int 0, .ref q2, .ref q3, .ref q4, .ref q5, .ref q0])), (q0, aI cs 20), (q1, aI cs (ro * si).toNat), (q2, aI cs (ro * si).toNat), (q3, aI cs (ro * si).toNat), (q4, aI cs (ro * si).toNat), (q5, aI cs (ro * si).toNat)]) _ _ := Wl
  exact fin _ _ (fun k => [a, q1, q2, q3, q4, q5, q0].getD k 0) _ _ Wl rfl (by decide +kernel)
theorem bn_bd {ro si : Int} (r1 : 1 ≤ ro ∧ ro ≤ 8) (s1 : 8 ≤ si ∧ si ≤ 32) : 0 ≤ (((si + 8) - 1).tdiv 8) * (((ro + 2) - 1).tdiv 2) ∧ (((si + 8) - 1).tdiv 8) * (((ro + 2) - 1).tdiv 2) ≤ 16 := by
  have a1 : 0 ≤ (((si + 8) - 1).tdiv 8) ∧ (((si + 8) - 1).tdiv 8) ≤ 4 := by
    rw [Int.tdiv_eq_ediv_of_nonneg (by omega)]
    omega
  have a2 : 0 ≤ (((ro + 2) - 1).tdiv 2) ∧ (((ro + 2) - 1).tdiv 2) ≤ 4 := by
    rw [Int.tdiv_eq_ediv_of_nonneg (by omega)]
    omega
  have a3 := Int.mul_le_mul_of_nonneg_right a1.2 a2.1
  have a4 := Int.mul_nonneg a1.1 a2.1
  omega
abbrev rmBins : Room := { frames := 1, cells := 3, slots := 48, locals := 20 }
def wBins (cs : Nat → ClassId) (ro si : Int) (t : Nat) (r : Nat → Nat) : va_W := [(r 0, .inr (1, [.int (Int32.ofInt ((((si + 8) - 1).tdiv 8) * (((ro + 2) - 1).tdiv 2))), .int (Int32.ofInt (((si + 8) - 1).tdiv 8)), .ref t, .ref (r 1), .ref (r 2), .ref (r 3)])), (r 1, aI cs ((((si + 8) - 1).tdiv 8) * (((ro + 2) - 1).tdiv 2)).toNat), (r 2, aI cs ((((si + 8) - 1).tdiv 8) * (((ro + 2) - 1).tdiv 2)).toNat), (r 3, aI cs ((((si + 8) - 1).tdiv 8) * (((ro + 2) - 1).tdiv 2)).toNat)]
set_option maxHeartbeats 4000000 in
theorem k_Bins {l : Launch} {D : va_G} {cs : Nat → ClassId} {ro si : Int} {t : Nat} (r1 : 1 ≤ ro ∧ ro ≤ 8) (s1 : 8 ≤ si ∧ si ≤ 32) : Ctor l D cs ⟨"CellRows$Bins", "<init>", "(II[I)V"⟩ prog_3_method_1_code 4 rmBins [.int (Int32.ofInt ro), .int (Int32.ofInt si), .ref t] (fun a => [(a, nO 1)]) (wBins cs ro si t) (fun _ _ => True) := by
  refine mk_met (by decide +kernel) rfl (Nat.le_of_ble_eq_true rfl) ?_
  intro p e s m args below meth c a A ls Q C hm Wl hX hA9 hl fin
  have hx := C.1
  have hb := C.2.1
  have hp := bn_bd r1 s1
  have hn := nn_ok hp.1 (by omega)
  replace Wl : mkW D cs A s ([(a, .inr (1, [.int 0, .int 0, .null, .null, .null, .null]))]) _ _ := Wl
  refine lv_aload_n hx hb (k := 0) (i := 0) (by decide +kernel) rfl (lv_at hl 0 rfl) ?_
  refine mk_obj (p1 := 2426) (idx := 5) C (by decide +kernel) hl.1 (Nat.le_of_ble_eq_true rfl) (Nat.le_of_ble_eq_true rfl) (by decide +kernel) ?_
  refine lv_aload_n hx hb (k := 0) (i := 0) (by decide +kernel) rfl (lv_at hl 0 rfl) ?_
  refine lv_iload_n hx hb (k := 2) (i := 2) (by decide +kernel) rfl (lv_at hl 2 rfl) ?_
  refine lv_bipush hx hb (n := 8) (v := Int32.ofInt 8) (by decide +kernel) (by decide +kernel) ?_
  refine lv_iadd hx hb (by decide +kernel) ?_
  rw [show Int32.ofInt si + Int32.ofInt 8 = Int32.ofInt (si + 8) from (Int32.ofInt_add _ _).symm]
  refine lv_iconst hx hb (n := 1) (v := Int32.ofInt 1) (by decide +kernel) rfl ?_
  refine lv_isub hx hb (by decide +kernel) ?_
  rw [show Int32.ofInt (si + 8) - Int32.ofInt 1 = Int32.ofInt ((si + 8) - 1) from (Int32.ofInt_sub _ _).symm]
  refine lv_bipush hx hb (n := 8) (v := Int32.ofInt 8) (by decide +kernel) (by decide +kernel) ?_
  refine lv_idiv hx hb (by decide +kernel) (by decide +kernel) ?_
  rw [show Int32.ofInt ((si + 8) - 1) / Int32.ofInt 8 = Int32.ofInt (((si + 8) - 1).tdiv 8) from i32_div (by omega) (by omega)]
  refine mk_put (p1 := 2429) (idx := 11) (ty := .int) (v := .int (Int32.ofInt (((si + 8) - 1).tdiv 8))) C hm Wl (ci := 1) (by decide) rfl 0 rfl 1 (by decide) (by decide +kernel) rfl (by decide +kernel) rfl rfl (Nat.le_of_ble_eq_true rfl) (by decide +kernel) (fun H1 locs1 Wl => ?_)
  replace Wl : mkW D cs A s ([(a, .inr (1, [.int 0, .int (Int32.ofInt (((si + 8) - 1).tdiv 8)), .null, .null, .null, .null]))]) _ _ := Wl
  refine lv_aload_n hx hb (k := 0) (i := 0) (by decide +kernel) rfl (lv_at hl 0 rfl) ?_
  refine lv_aload_n hx hb (k := 0) (i := 0) (by decide +kernel) rfl (lv_at hl 0 rfl) ?_
  refine mk_get (p1 := 2429) (idx := 11) C Wl (ci := 1) (by decide) 0 rfl 1 (by decide) (by decide +kernel) rfl (by decide +kernel) ?_
  refine lv_iload_n hx hb (k := 1) (i := 1) (by decide +kernel) rfl (lv_at hl 1 rfl) ?_
  refine lv_iconst hx hb (n := 2) (v := Int32.ofInt 2) (by decide +kernel) rfl ?_
  refine lv_iadd hx hb (by decide +kernel) ?_
  rw [show Int32.ofInt ro + Int32.ofInt 2 = Int32.ofInt (ro + 2) from (Int32.ofInt_add _ _).symm]
  refine lv_iconst hx hb (n := 1) (v := Int32.ofInt 1) (by decide +kernel) rfl ?_
  refine lv_isub hx hb (by decide +kernel) ?_
  rw [show Int32.ofInt (ro + 2) - Int32.ofInt 1 = Int32.ofInt ((ro + 2) - 1) from (Int32.ofInt_sub _ _).symm]
  refine lv_iconst hx hb (n := 2) (v := Int32.ofInt 2) (by decide +kernel) rfl ?_
  refine lv_idiv hx hb (by decide +kernel) (by decide +kernel) ?_
  rw [show Int32.ofInt ((ro + 2) - 1) / Int32.ofInt 2 = Int32.ofInt (((ro + 2) - 1).tdiv 2) from i32_div (by omega) (by omega)]
  refine lv_imul hx hb (by decide +kernel) ?_
  rw [show Int32.ofInt (((si + 8) - 1).tdiv 8) * Int32.ofInt (((ro + 2) - 1).tdiv 2) = Int32.ofInt ((((si + 8) - 1).tdiv 8) * (((ro + 2) - 1).tdiv 2)) from (Int32.ofInt_mul _ _).symm]
  refine mk_put (p1 := 2427) (idx := 15) (ty := .int) (v := .int (Int32.ofInt ((((si + 8) - 1).tdiv 8) * (((ro + 2) - 1).tdiv 2)))) C hm Wl (ci := 1) (by decide) rfl 0 rfl 0 (by decide) (by decide +kernel) rfl (by decide +kernel) rfl rfl (Nat.le_of_ble_eq_true rfl) (by decide +kernel) (fun H1 locs1 Wl => ?_)
  replace Wl : mkW D cs A s ([(a, .inr (1, [.int (Int32.ofInt ((((si + 8) - 1).tdiv 8) * (((ro + 2) - 1).tdiv 2))), .int (Int32.ofInt (((si + 8) - 1).tdiv 8)), .null, .null, .null, .null]))]) _ _ := Wl
  refine lv_aload_n hx hb (k := 0) (i := 0) (by decide +kernel) rfl (lv_at hl 0 rfl) ?_
  refine lv_aload_n hx hb (k := 3) (i := 3) (by decide +kernel) rfl (lv_at hl 3 rfl) ?_
  refine mk_put (p1 := 2430) (idx := 18) (ty := .array .int) (v := .ref t) C hm Wl (ci := 1) (by decide) rfl 0 rfl 2 (by decide) (by decide +kernel) rfl (by decide +kernel) rfl rfl (Nat.le_of_ble_eq_true rfl) (by decide +kernel) (fun H1 locs1 Wl => ?_)
  replace Wl : mkW D cs A s ([(a, .inr (1, [.int (Int32.ofInt ((((si + 8) - 1).tdiv 8) * (((ro + 2) - 1).tdiv 2))), .int (Int32.ofInt (((si + 8) - 1).tdiv 8)), .ref t, .null, .null, .null]))]) _ _ := Wl
  refine lv_aload_n hx hb (k := 0) (i := 0) (by decide +kernel) rfl (lv_at hl 0 rfl) ?_
  refine lv_aload_n hx hb (k := 0) (i := 0) (by decide +kernel) rfl (lv_at hl 0 rfl) ?_
  refine mk_get (p1 := 2427) (idx := 15) C Wl (ci := 1) (by decide) 0 rfl 0 (by decide) (by decide +kernel) rfl (by decide +kernel) ?_
  refine mk_arr (N := ((((si + 8) - 1).tdiv 8) * (((ro + 2) - 1).tdiv 2)).toNat) (nm := 16) (c2 := 1) (s2 := 16) C Wl hn.1 hn.2 (by omega) (Nat.le_of_ble_eq_true rfl) (Nat.le_of_ble_eq_true rfl) (Nat.le_of_ble_eq_true rfl) (Nat.le_of_ble_eq_true rfl) (Nat.le_of_ble_eq_true rfl) (by decide +kernel) (fun q0 H1 Wl => ?_)
  replace Wl : mkW D cs A s ([(a, .inr (1, [.int (Int32.ofInt ((((si + 8) - 1).tdiv 8) * (((ro + 2) - 1).tdiv 2))), .int (Int32.ofInt (((si + 8) - 1).tdiv 8)), .ref t, .null, .null, .null])), (q0, aI cs ((((si + 8) - 1).tdiv 8) * (((ro + 2) - 1).tdiv 2)).toNat)]) _ _ := Wl
  refine mk_put (p1 := 2431) (idx := 22) (ty := .array .int) (v := .ref q0) C hm Wl (ci := 1) (by decide) rfl 0 rfl 3 (by decide) (by decide +kernel) rfl (by decide +kernel) rfl rfl (Nat.le_of_ble_eq_true rfl) (by decide +kernel) (fun H1 locs1 Wl => ?_)
  replace Wl : mkW D cs A s ([(a, .inr (1, [.int (Int32.ofInt ((((si + 8) - 1).tdiv 8) * (((ro + 2) - 1).tdiv 2))), .int (Int32.ofInt (((si + 8) - 1).tdiv 8)), .ref t, .ref q0, .null, .null])), (q0, aI cs ((((si + 8) - 1).tdiv 8) * (((ro + 2) - 1).tdiv 2)).toNat)]) _ _ := Wl
  refine lv_aload_n hx hb (k := 0) (i := 0) (by decide +kernel) rfl (lv_at hl 0 rfl) ?_
  refine lv_aload_n hx hb (k := 0) (i := 0) (by decide +kernel) rfl (lv_at hl 0 rfl) ?_
  refine mk_get (p1 := 2427) (idx := 15) C Wl (ci := 1) (by decide) 0 rfl 0 (by decide) (by decide +kernel) rfl (by decide +kernel) ?_
  refine mk_arr (N := ((((si + 8) - 1).tdiv 8) * (((ro + 2) - 1).tdiv 2)).toNat) (nm := 16) (c2 := 2) (s2 := 32) C Wl hn.1 hn.2 (by omega) (Nat.le_of_ble_eq_true rfl) (Nat.le_of_ble_eq_true rfl) (Nat.le_of_ble_eq_true rfl) (Nat.le_of_ble_eq_true rfl) (Nat.le_of_ble_eq_true rfl) (by decide +kernel) (fun q1 H1 Wl => ?_)
  replace Wl : mkW D cs A s ([(a, .inr (1, [.int (Int32.ofInt ((((si + 8) - 1).tdiv 8) * (((ro + 2) - 1).tdiv 2))), .int (Int32.ofInt (((si + 8) - 1).tdiv 8)), .ref t, .ref q0, .null, .null])), (q0, aI cs ((((si + 8) - 1).tdiv 8) * (((ro + 2) - 1).tdiv 2)).toNat), (q1, aI cs ((((si + 8) - 1).tdiv 8) * (((ro + 2) - 1).tdiv 2)).toNat)]) _ _ := Wl
  refine mk_put (p1 := 2433) (idx := 25) (ty := .array .int) (v := .ref q1) C hm Wl (ci := 1) (by decide) rfl 0 rfl 4 (by decide) (by decide +kernel) rfl (by decide +kernel) rfl rfl (Nat.le_of_ble_eq_true rfl) (by decide +kernel) (fun H1 locs1 Wl => ?_)
  replace Wl : mkW D cs A s ([(a, .inr (1, [.int (Int32.ofInt ((((si + 8) - 1).tdiv 8) * (((ro + 2) - 1).tdiv 2))), .int (Int32.ofInt (((si + 8) - 1).tdiv 8)), .ref t, .ref q0, .ref q1, .null])), (q0, aI cs ((((si + 8) - 1).tdiv 8) * (((ro + 2) - 1).tdiv 2)).toNat), (q1, aI cs ((((si + 8) - 1).tdiv 8) * (((ro + 2) - 1).tdiv 2)).toNat)]) _ _ := Wl
  refine lv_aload_n hx hb (k := 0) (i := 0) (by decide +kernel) rfl (lv_at hl 0 rfl) ?_
  refine lv_aload_n hx hb (k := 0) (i := 0) (by decide +kernel) rfl (lv_at hl 0 rfl) ?_
  refine mk_get (p1 := 2427) (idx := 15) C Wl (ci := 1) (by decide) 0 rfl 0 (by decide) (by decide +kernel) rfl (by decide +kernel) ?_
  refine mk_arr (N := ((((si + 8) - 1).tdiv 8) * (((ro + 2) - 1).tdiv 2)).toNat) (nm := 16) (c2 := 3) (s2 := 48) C Wl hn.1 hn.2 (by omega) (Nat.le_of_ble_eq_true rfl) (Nat.le_of_ble_eq_true rfl) (Nat.le_of_ble_eq_true rfl) (Nat.le_of_ble_eq_true rfl) (Nat.le_of_ble_eq_true rfl) (by decide +kernel) (fun q2 H1 Wl => ?_)
  replace Wl : mkW D cs A s ([(a, .inr (1, [.int (Int32.ofInt ((((si + 8) - 1).tdiv 8) * (((ro + 2) - 1).tdiv 2))), .int (Int32.ofInt (((si + 8) - 1).tdiv 8)), .ref t, .ref q0, .ref q1, .null])), (q0, aI cs ((((si + 8) - 1).tdiv 8) * (((ro + 2) - 1).tdiv 2)).toNat), (q1, aI cs ((((si + 8) - 1).tdiv 8) * (((ro + 2) - 1).tdiv 2)).toNat), (q2, aI cs ((((si + 8) - 1).tdiv 8) * (((ro + 2) - 1).tdiv 2)).toNat)]) _ _ := Wl
  refine mk_put (p1 := 2435) (idx := 28) (ty := .array .int) (v := .ref q2) C hm Wl (ci := 1) (by decide) rfl 0 rfl 5 (by decide) (by decide +kernel) rfl (by decide +kernel) rfl rfl (Nat.le_of_ble_eq_true rfl) (by decide +kernel) (fun H1 locs1 Wl => ?_)
  replace Wl : mkW D cs A s ([(a, .inr (1, [.int (Int32.ofInt ((((si + 8) - 1).tdiv 8) * (((ro + 2) - 1).tdiv 2))), .int (Int32.ofInt (((si + 8) - 1).tdiv 8)), .ref t, .ref q0, .ref q1, .ref q2])), (q0, aI cs ((((si + 8) - 1).tdiv 8) * (((ro + 2) - 1).tdiv 2)).toNat), (q1, aI cs ((((si + 8) - 1).tdiv 8) * (((ro + 2) - 1).tdiv 2)).toNat), (q2, aI cs ((((si + 8) - 1).tdiv 8) * (((ro + 2) - 1).tdiv 2)).toNat)]) _ _ := Wl
  exact fin _ _ (fun k => [a, q0, q1, q2].getD k 0) _ _ Wl rfl (by decide +kernel)
