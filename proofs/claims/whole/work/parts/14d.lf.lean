/-! THE CONSTRUCTORS, II: those that call none -/
theorem nn_ok {z : Int} (h0 : 0 ≤ z) (h1 : z ≤ 10000) : ¬ Int32.ofInt z < 0 ∧ (Int32.ofInt z).toNatClampNeg = z.toNat := by
  refine ⟨fun h => ?_, i32_nat (by omega)⟩
  have : Int32.ofInt z < Int32.ofInt 0 := h
  rw [i32_lt (by omega) (by omega)] at this
  omega
theorem i32_div {x y : Int} (h0 : 0 ≤ x ∧ x ≤ 10000) (h1 : 1 ≤ y ∧ y ≤ 10000) : Int32.ofInt x / Int32.ofInt y = Int32.ofInt (x.tdiv y) := by
  rw [← Int32.toInt_inj, Int32.toInt_div_of_ne_left, i32_in (by omega), i32_in (by omega), i32_in]
  · have a1 := Int.tdiv_nonneg h0.1 (show 0 ≤ y by omega)
    have a2 := Int.tdiv_le_self y h0.1
    omega
  · intro h
    have : (Int32.ofInt x).toInt = Int32.minValue.toInt := by rw [h]
    rw [i32_in (by omega), show Int32.minValue.toInt = -2147483648 by decide +kernel] at this
    omega
abbrev rmBoxes : Room := { frames := 1, cells := 4, slots := 16, locals := 20 }
def wBoxes (cs : Nat → ClassId) (n : Nat) (r : Nat → Nat) : va_W := [(r 0, .inr (2, [.int 0, .ref (r 1), .ref (r 2), .ref (r 3), .ref (r 4)])), (r 1, aI cs n), (r 2, aI cs n), (r 3, aI cs n), (r 4, aI cs n)]
set_option maxHeartbeats 4000000 in
theorem k_Boxes {l : Launch} {D : va_G} {cs : Nat → ClassId} {z : Int} (h0 : 0 ≤ z) (h1 : z ≤ 4) : Ctor l D cs ⟨"CellRows$Boxes", "<init>", "(I)V"⟩ prog_4_method_1_code 2 rmBoxes [.int (Int32.ofInt z)] (fun a => [(a, nO 2)]) (wBoxes cs z.toNat) (fun _ _ => True) := by
  refine mk_met (by decide +kernel) rfl (Nat.le_of_ble_eq_true rfl) ?_
  intro p e s m args below meth c a A ls Q C hm Wl hX hA9 hl fin
  have hx := C.1
  have hb := C.2.1
  have hn := nn_ok h0 (by omega)
  replace Wl : mkW D cs A s ([(a, .inr (2, [.int 0, .null, .null, .null, .null]))]) _ _ := Wl
  refine lv_aload_n hx hb (k := 0) (i := 0) (by decide +kernel) rfl (lv_at hl 0 rfl) ?_
  refine mk_obj (p1 := 2098) (idx := 1) C (by decide +kernel) hl.1 (Nat.le_of_ble_eq_true rfl) (Nat.le_of_ble_eq_true rfl) (by decide +kernel) ?_
  refine lv_aload_n hx hb (k := 0) (i := 0) (by decide +kernel) rfl (lv_at hl 0 rfl) ?_
  refine lv_iload_n hx hb (k := 1) (i := 1) (by decide +kernel) rfl (lv_at hl 1 rfl) ?_
  refine mk_arr (N := z.toNat) (nm := 4) (c2 := 1) (s2 := 4) C Wl hn.1 hn.2 (by omega) (Nat.le_of_ble_eq_true rfl) (Nat.le_of_ble_eq_true rfl) (Nat.le_of_ble_eq_true rfl) (Nat.le_of_ble_eq_true rfl) (Nat.le_of_ble_eq_true rfl) (by decide +kernel) (fun q0 H1 Wl => ?_)
  replace Wl : mkW D cs A s ([(a, .inr (2, [.int 0, .null, .null, .null, .null])), (q0, aI cs z.toNat)]) _ _ := Wl
  refine mk_put (p1 := 2105) (idx := 7) (ty := .array .int) (v := .ref q0) C hm Wl (ci := 2) (by decide) rfl 0 rfl 1 (by decide) (by decide +kernel) rfl (by decide +kernel) rfl rfl (Nat.le_of_ble_eq_true rfl) (by decide +kernel) (fun H1 locs1 Wl => ?_)
  replace Wl : mkW D cs A s ([(a, .inr (2, [.int 0, .ref q0, .null, .null, .null])), (q0, aI cs z.toNat)]) _ _ := Wl
  refine lv_aload_n hx hb (k := 0) (i := 0) (by decide +kernel) rfl (lv_at hl 0 rfl) ?_
  refine lv_iload_n hx hb (k := 1) (i := 1) (by decide +kernel) rfl (lv_at hl 1 rfl) ?_
  refine mk_arr (N := z.toNat) (nm := 4) (c2 := 2) (s2 := 8) C Wl hn.1 hn.2 (by omega) (Nat.le_of_ble_eq_true rfl) (Nat.le_of_ble_eq_true rfl) (Nat.le_of_ble_eq_true rfl) (Nat.le_of_ble_eq_true rfl) (Nat.le_of_ble_eq_true rfl) (by decide +kernel) (fun q1 H1 Wl => ?_)
  replace Wl : mkW D cs A s ([(a, .inr (2, [.int 0, .ref q0, .null, .null, .null])), (q0, aI cs z.toNat), (q1, aI cs z.toNat)]) _ _ := Wl
  refine mk_put (p1 := 2108) (idx := 13) (ty := .array .int) (v := .ref q1) C hm Wl (ci := 2) (by decide) rfl 0 rfl 2 (by decide) (by decide +kernel) rfl (by decide +kernel) rfl rfl (Nat.le_of_ble_eq_true rfl) (by decide +kernel) (fun H1 locs1 Wl => ?_)
  replace Wl : mkW D cs A s ([(a, .inr (2, [.int 0, .ref q0, .ref q1, .null, .null])), (q0, aI cs z.toNat), (q1, aI cs z.toNat)]) _ _ := Wl
  refine lv_aload_n hx hb (k := 0) (i := 0) (by decide +kernel) rfl (lv_at hl 0 rfl) ?_
  refine lv_iload_n hx hb (k := 1) (i := 1) (by decide +kernel) rfl (lv_at hl 1 rfl) ?_
  refine mk_arr (N := z.toNat) (nm := 4) (c2 := 3) (s2 := 12) C Wl hn.1 hn.2 (by omega) (Nat.le_of_ble_eq_true rfl) (Nat.le_of_ble_eq_true rfl) (Nat.le_of_ble_eq_true rfl) (Nat.le_of_ble_eq_true rfl) (Nat.le_of_ble_eq_true rfl) (by decide +kernel) (fun q2 H1 Wl => ?_)
  replace Wl : mkW D cs A s ([(a, .inr (2, [.int 0, .ref q0, .ref q1, .null, .null])), (q0, aI cs z.toNat), (q1, aI cs z.toNat), (q2, aI cs z.toNat)]) _ _ := Wl
  refine mk_put (p1 := 2111) (idx := 16) (ty := .array .int) (v := .ref q2) C hm Wl (ci := 2) (by decide) rfl 0 rfl 3 (by decide) (by decide +kernel) rfl (by decide +kernel) rfl rfl (Nat.le_of_ble_eq_true rfl) (by decide +kernel) (fun H1 locs1 Wl => ?_)
  replace Wl : mkW D cs A s ([(a, .inr (2, [.int 0, .ref q0, .ref q1, .ref q2, .null])), (q0, aI cs z.toNat), (q1, aI cs z.toNat), (q2, aI cs z.toNat)]) _ _ := Wl
  refine lv_aload_n hx hb (k := 0) (i := 0) (by decide +kernel) rfl (lv_at hl 0 rfl) ?_
  refine lv_iload_n hx hb (k := 1) (i := 1) (by decide +kernel) rfl (lv_at hl 1 rfl) ?_
  refine mk_arr (N := z.toNat) (nm := 4) (c2 := 4) (s2 := 16) C Wl hn.1 hn.2 (by omega) (Nat.le_of_ble_eq_true rfl) (Nat.le_of_ble_eq_true rfl) (Nat.le_of_ble_eq_true rfl) (Nat.le_of_ble_eq_true rfl) (Nat.le_of_ble_eq_true rfl) (by decide +kernel) (fun q3 H1 Wl => ?_)
  replace Wl : mkW D cs A s ([(a, .inr (2, [.int 0, .ref q0, .ref q1, .ref q2, .null])), (q0, aI cs z.toNat), (q1, aI cs z.toNat), (q2, aI cs z.toNat), (q3, aI cs z.toNat)]) _ _ := Wl
  refine mk_put (p1 := 2114) (idx := 19) (ty := .array .int) (v := .ref q3) C hm Wl (ci := 2) (by decide) rfl 0 rfl 4 (by decide) (by decide +kernel) rfl (by decide +kernel) rfl rfl (Nat.le_of_ble_eq_true rfl) (by decide +kernel) (fun H1 locs1 Wl => ?_)
  replace Wl : mkW D cs A s ([(a, .inr (2, [.int 0, .ref q0, .ref q1, .ref q2, .ref q3])), (q0, aI cs z.toNat), (q1, aI cs z.toNat), (q2, aI cs z.toNat), (q3, aI cs z.toNat)]) _ _ := Wl
  exact fin _ _ (fun k => [a, q0, q1, q2, q3].getD k 0) _ _ Wl rfl (by decide +kernel)
abbrev rmCells : Room := { frames := 1, cells := 7, slots := 140, locals := 20 }
def wCells (cs : Nat → ClassId) (r : Nat → Nat) : va_W := [(r 0, .inr (3, [.int 0, .ref (r 1), .ref (r 2), .ref (r 3), .ref (r 4), .ref (r 5), .ref (r 6), .ref (r 7)])), (r 1, aI cs 20), (r 2, aI cs 20), (r 3, aZ cs 20), (r 4, aI cs 20), (r 5, aI cs 20), (r 6, aI cs 20), (r 7, aI cs 20)]
set_option maxHeartbeats 4000000 in
theorem k_Cells {l : Launch} {D : va_G} {cs : Nat → ClassId}  : Ctor l D cs ⟨"CellRows$Cells", "<init>", "()V"⟩ prog_5_method_1_code 1 rmCells [] (fun a => [(a, nO 3)]) (wCells cs) (fun _ _ => True) := by
  refine mk_met (by decide +kernel) rfl (Nat.le_of_ble_eq_true rfl) ?_
  intro p e s m args below meth c a A ls Q C hm Wl hX hA9 hl fin
  have hx := C.1
  have hb := C.2.1
  replace Wl : mkW D cs A s ([(a, .inr (3, [.int 0, .null, .null, .null, .null, .null, .null, .null]))]) _ _ := Wl
  refine lv_aload_n hx hb (k := 0) (i := 0) (by decide +kernel) rfl (lv_at hl 0 rfl) ?_
  refine mk_obj (p1 := 2134) (idx := 3) C (by decide +kernel) hl.1 (Nat.le_of_ble_eq_true rfl) (Nat.le_of_ble_eq_true rfl) (by decide +kernel) ?_
  refine lv_aload_n hx hb (k := 0) (i := 0) (by decide +kernel) rfl (lv_at hl 0 rfl) ?_
  refine lv_bipush hx hb (n := 20) (v := Int32.ofInt 20) (by decide +kernel) (by decide +kernel) ?_
  refine mk_arr (N := 20) (nm := 20) (c2 := 1) (s2 := 20) C Wl (nn_ok (z := 20) (by decide) (by decide)).1 (nn_ok (z := 20) (by decide) (by decide)).2 (Nat.le_of_ble_eq_true rfl) (Nat.le_of_ble_eq_true rfl) (Nat.le_of_ble_eq_true rfl) (Nat.le_of_ble_eq_true rfl) (Nat.le_of_ble_eq_true rfl) (Nat.le_of_ble_eq_true rfl) (by decide +kernel) (fun q0 H1 Wl => ?_)
  replace Wl : mkW D cs A s ([(a, .inr (3, [.int 0, .null, .null, .null, .null, .null, .null, .null])), (q0, aI cs 20)]) _ _ := Wl
  refine mk_put (p1 := 2143) (idx := 9) (ty := .array .int) (v := .ref q0) C hm Wl (ci := 3) (by decide) rfl 0 rfl 1 (by decide) (by decide +kernel) rfl (by decide +kernel) rfl rfl (Nat.le_of_ble_eq_true rfl) (by decide +kernel) (fun H1 locs1 Wl => ?_)
  replace Wl : mkW D cs A s ([(a, .inr (3, [.int 0, .ref q0, .null, .null, .null, .null, .null, .null])), (q0, aI cs 20)]) _ _ := Wl
  refine lv_aload_n hx hb (k := 0) (i := 0) (by decide +kernel) rfl (lv_at hl 0 rfl) ?_
  refine lv_bipush hx hb (n := 20) (v := Int32.ofInt 20) (by decide +kernel) (by decide +kernel) ?_
  refine mk_arr (N := 20) (nm := 20) (c2 := 2) (s2 := 40) C Wl (nn_ok (z := 20) (by decide) (by decide)).1 (nn_ok (z := 20) (by decide) (by decide)).2 (Nat.le_of_ble_eq_true rfl) (Nat.le_of_ble_eq_true rfl) (Nat.le_of_ble_eq_true rfl) (Nat.le_of_ble_eq_true rfl) (Nat.le_of_ble_eq_true rfl) (Nat.le_of_ble_eq_true rfl) (by decide +kernel) (fun q1 H1 Wl => ?_)
  replace Wl : mkW D cs A s ([(a, .inr (3, [.int 0, .ref q0, .null, .null, .null, .null, .null, .null])), (q0, aI cs 20), (q1, aI cs 20)]) _ _ := Wl
  refine mk_put (p1 := 2150) (idx := 15) (ty := .array .int) (v := .ref q1) C hm Wl (ci := 3) (by decide) rfl 0 rfl 2 (by decide) (by decide +kernel) rfl (by decide +kernel) rfl rfl (Nat.le_of_ble_eq_true rfl) (by decide +kernel) (fun H1 locs1 Wl => ?_)
  replace Wl : mkW D cs A s ([(a, .inr (3, [.int 0, .ref q0, .ref q1, .null, .null, .null, .null, .null])), (q0, aI cs 20), (q1, aI cs 20)]) _ _ := Wl
  refine lv_aload_n hx hb (k := 0) (i := 0) (by decide +kernel) rfl (lv_at hl 0 rfl) ?_
  refine lv_bipush hx hb (n := 20) (v := Int32.ofInt 20) (by decide +kernel) (by decide +kernel) ?_
  refine mk_arz (N := 20) (nm := 20) (c2 := 3) (s2 := 60) C Wl (nn_ok (z := 20) (by decide) (by decide)).1 (nn_ok (z := 20) (by decide) (by decide)).2 (Nat.le_of_ble_eq_true rfl) (Nat.le_of_ble_eq_true rfl) (Nat.le_of_ble_eq_true rfl) (Nat.le_of_ble_eq_true rfl) (Nat.le_of_ble_eq_true rfl) (Nat.le_of_ble_eq_true rfl) (by decide +kernel) (fun q2 H1 Wl => ?_)
  replace Wl : mkW D cs A s ([(a, .inr (3, [.int 0, .ref q0, .ref q1, .null, .null, .null, .null, .null])), (q0, aI cs 20), (q1, aI cs 20), (q2, aZ cs 20)]) _ _ := Wl
  refine mk_put (p1 := 2155) (idx := 18) (ty := .array .boolean) (v := .ref q2) C hm Wl (ci := 3) (by decide) rfl 0 rfl 3 (by decide) (by decide +kernel) rfl (by decide +kernel) rfl rfl (Nat.le_of_ble_eq_true rfl) (by decide +kernel) (fun H1 locs1 Wl => ?_)
  replace Wl : mkW D cs A s ([(a, .inr (3, [.int 0, .ref q0, .ref q1, .ref q2, .null, .null, .null, .null])), (q0, aI cs 20), (q1, aI cs 20), (q2, aZ cs 20)]) _ _ := Wl
  refine lv_aload_n hx hb (k := 0) (i := 0) (by decide +kernel) rfl (lv_at hl 0 rfl) ?_
  refine lv_bipush hx hb (n := 20) (v := Int32.ofInt 20) (by decide +kernel) (by decide +kernel) ?_
  refine mk_arr (N := 20) (nm := 20) (c2 := 4) (s2 := 80) C Wl (nn_ok (z := 20) (by decide) (by decide)).1 (nn_ok (z := 20) (by decide) (by decide)).2 (Nat.le_of_ble_eq_true rfl) (Nat.le_of_ble_eq_true rfl) (Nat.le_of_ble_eq_true rfl) (Nat.le_of_ble_eq_true rfl) (Nat.le_of_ble_eq_true rfl) (Nat.le_of_ble_eq_true rfl) (by decide +kernel) (fun q3 H1 Wl => ?_)
  replace Wl : mkW D cs A s ([(a, .inr (3, [.int 0, .ref q0, .ref q1, .ref q2, .null, .null, .null, .null])), (q0, aI cs 20), (q1, aI cs 20), (q2, aZ cs 20), (q3, aI cs 20)]) _ _ := Wl
  refine mk_put (p1 := 2161) (idx := 22) (ty := .array .int) (v := .ref q3) C hm Wl (ci := 3) (by decide) rfl 0 rfl 4 (by decide) (by decide +kernel) rfl (by decide +kernel) rfl rfl (Nat.le_of_ble_eq_true rfl) (by decide +kernel) (fun H1 locs1 Wl => ?_)
  replace Wl : mkW D cs A s ([(a, .inr (3, [.int 0, .ref q0, .ref q1, .ref q2, .ref q3, .null, .null, .null])), (q0, aI cs 20), (q1, aI cs 20), (q2, aZ cs 20), (q3, aI cs 20)]) _ _ := Wl
  refine lv_aload_n hx hb (k := 0) (i := 0) (by decide +kernel) rfl (lv_at hl 0 rfl) ?_
  refine lv_bipush hx hb (n := 20) (v := Int32.ofInt 20) (by decide +kernel) (by decide +kernel) ?_
  refine mk_arr (N := 20) (nm := 20) (c2 := 5) (s2 := 100) C Wl (nn_ok (z := 20) (by decide) (by decide)).1 (nn_ok (z := 20) (by decide) (by decide)).2 (Nat.le_of_ble_eq_true rfl) (Nat.le_of_ble_eq_true rfl) (Nat.le_of_ble_eq_true rfl) (Nat.le_of_ble_eq_true rfl) (Nat.le_of_ble_eq_true rfl) (Nat.le_of_ble_eq_true rfl) (by decide +kernel) (fun q4 H1 Wl => ?_)
  replace Wl : mkW D cs A s ([(a, .inr (3, [.int 0, .ref q0, .ref q1, .ref q2, .ref q3, .null, .null, .null])), (q0, aI cs 20), (q1, aI cs 20), (q2, aZ cs 20), (q3, aI cs 20), (q4, aI cs 20)]) _ _ := Wl
  refine mk_put (p1 := 2168) (idx := 25) (ty := .array .int) (v := .ref q4) C hm Wl (ci := 3) (by decide) rfl 0 rfl 5 (by decide) (by decide +kernel) rfl (by decide +kernel) rfl rfl (Nat.le_of_ble_eq_true rfl) (by decide +kernel) (fun H1 locs1 Wl => ?_)
  replace Wl : mkW D cs A s ([(a, .inr (3, [.int 0, .ref q0, .ref q1, .ref q2, .ref q3, .ref q4, .null, .null])), (q0, aI cs 20), (q1, aI cs 20), (q2, aZ cs 20), (q3, aI cs 20), (q4, aI cs 20)]) _ _ := Wl
  refine lv_aload_n hx hb (k := 0) (i := 0) (by decide +kernel) rfl (lv_at hl 0 rfl) ?_
  refine lv_bipush hx hb (n := 20) (v := Int32.ofInt 20) (by decide +kernel) (by decide +kernel) ?_
  refine mk_arr (N := 20) (nm := 20) (c2 := 6) (s2 := 120) C Wl (nn_ok (z := 20) (by decide) (by decide)).1 (nn_ok (z := 20) (by decide) (by decide)).2 (Nat.le_of_ble_eq_true rfl) (Nat.le_of_ble_eq_true rfl) (Nat.le_of_ble_eq_true rfl) (Nat.le_of_ble_eq_true rfl) (Nat.le_of_ble_eq_true rfl) (Nat.le_of_ble_eq_true rfl) (by decide +kernel) (fun q5 H1 Wl => ?_)
  replace Wl : mkW D cs A s ([(a, .inr (3, [.int 0, .ref q0, .ref q1, .ref q2, .ref q3, .ref q4, .null, .null])), (q0, aI cs 20), (q1, aI cs 20), (q2, aZ cs 20), (q3, aI cs 20), (q4, aI cs 20), (q5, aI cs 20)]) _ _ := Wl
  refine mk_put (p1 := 2175) (idx := 28) (ty := .array .int) (v := .ref q5) C hm Wl (ci := 3) (by decide) rfl 0 rfl 6 (by decide) (by decide +kernel) rfl (by decide +kernel) rfl rfl (Nat.le_of_ble_eq_true rfl) (by decide +kernel) (fun H1 locs1 Wl => ?_)
  replace Wl : mkW D cs A s ([(a, .inr (3, [.int 0, .ref q0, .ref q1, .ref q2, .ref q3, .ref q4, .ref q5, .null])), (q0, aI cs 20), (q1, aI cs 20), (q2, aZ cs 20), (q3, aI cs 20), (q4, aI cs 20), (q5, aI cs 20)]) _ _ := Wl
  refine lv_aload_n hx hb (k := 0) (i := 0) (by decide +kernel) rfl (lv_at hl 0 rfl) ?_
  refine lv_bipush hx hb (n := 20) (v := Int32.ofInt 20) (by decide +kernel) (by decide +kernel) ?_
  refine mk_arr (N := 20) (nm := 20) (c2 := 7) (s2 := 140) C Wl (nn_ok (z := 20) (by decide) (by decide)).1 (nn_ok (z := 20) (by decide) (by decide)).2 (Nat.le_of_ble_eq_true rfl) (Nat.le_of_ble_eq_true rfl) (Nat.le_of_ble_eq_true rfl) (Nat.le_of_ble_eq_true rfl) (Nat.le_of_ble_eq_true rfl) (Nat.le_of_ble_eq_true rfl) (by decide +kernel) (fun q6 H1 Wl => ?_)
  replace Wl : mkW D cs A s ([(a, .inr (3, [.int 0, .ref q0, .ref q1, .ref q2, .ref q3, .ref q4, .ref q5, .null])), (q0, aI cs 20), (q1, aI cs 20), (q2, aZ cs 20), (q3, aI cs 20), (q4, aI cs 20), (q5, aI cs 20), (q6, aI cs 20)]) _ _ := Wl
  refine mk_put (p1 := 2180) (idx := 31) (ty := .array .int) (v := .ref q6) C hm Wl (ci := 3) (by decide) rfl 0 rfl 7 (by decide) (by decide +kernel) rfl (by decide +kernel) rfl rfl (Nat.le_of_ble_eq_true rfl) (by decide +kernel) (fun H1 locs1 Wl => ?_)
  replace Wl : mkW D cs A s ([(a, .inr (3, [.int 0, .ref q0, .ref q1, .ref q2, .ref q3, .ref q4, .ref q5, .ref q6])), (q0, aI cs 20), (q1, aI cs 20), (q2, aZ cs 20), (q3, aI cs 20), (q4, aI cs 20), (q5, aI cs 20), (q6, aI cs 20)]) _ _ := Wl
  exact fin _ _ (fun k => [a, q0, q1, q2, q3, q4, q5, q6].getD k 0) _ _ Wl rfl (by decide +kernel)
abbrev rmNets : Room := { frames := 1, cells := 4, slots := 224, locals := 20 }
def wNets (cs : Nat → ClassId) (r : Nat → Nat) : va_W := [(r 0, .inr (6, [.int 0, .ref (r 1), .ref (r 2), .ref (r 3), .ref (r 4)])), (r 1, aI cs 16), (r 2, aI cs 16), (r 3, aI cs 96), (r 4, aI cs 96)]
set_option maxHeartbeats 4000000 in
theorem k_Nets {l : Launch} {D : va_G} {cs : Nat → ClassId}  : Ctor l D cs ⟨"CellRows$Nets", "<init>", "()V"⟩ prog_8_method_1_code 1 rmNets [] (fun a => [(a, nO 6)]) (wNets cs) (fun _ _ => True) := by
  refine mk_met (by decide +kernel) rfl (Nat.le_of_ble_eq_true rfl) ?_
  intro p e s m args below meth c a A ls Q C hm Wl hX hA9 hl fin
  have hx := C.1
  have hb := C.2.1
  replace Wl : mkW D cs A s ([(a, .inr (6, [.int 0, .null, .null, .null, .null]))]) _ _ := Wl
  refine lv_aload_n hx hb (k := 0) (i := 0) (by decide +kernel) rfl (lv_at hl 0 rfl) ?_
  refine mk_obj (p1 := 2208) (idx := 3) C (by decide +kernel) hl.1 (Nat.le_of_ble_eq_true rfl) (Nat.le_of_ble_eq_true rfl) (by decide +kernel) ?_
  refine lv_aload_n hx hb (k := 0) (i := 0) (by decide +kernel) rfl (lv_at hl 0 rfl) ?_
  refine lv_bipush hx hb (n := 16) (v := Int32.ofInt 16) (by decide +kernel) (by decide +kernel) ?_
  refine mk_arr (N := 16) (nm := 16) (c2 := 1) (s2 := 16) C Wl (nn_ok (z := 16) (by decide) (by decide)).1 (nn_ok (z := 16) (by decide) (by decide)).2 (Nat.le_of_ble_eq_true rfl) (Nat.le_of_ble_eq_true rfl) (Nat.le_of_ble_eq_true rfl) (Nat.le_of_ble_eq_true rfl) (Nat.le_of_ble_eq_true rfl) (Nat.le_of_ble_eq_true rfl) (by decide +kernel) (fun q0 H1 Wl => ?_)
  replace Wl : mkW D cs A s ([(a, .inr (6, [.int 0, .null, .null, .null, .null])), (q0, aI cs 16)]) _ _ := Wl
  refine mk_put (p1 := 2215) (idx := 9) (ty := .array .int) (v := .ref q0) C hm Wl (ci := 6) (by decide) rfl 0 rfl 1 (by decide) (by decide +kernel) rfl (by decide +kernel) rfl rfl (Nat.le_of_ble_eq_true rfl) (by decide +kernel) (fun H1 locs1 Wl => ?_)
  replace Wl : mkW D cs A s ([(a, .inr (6, [.int 0, .ref q0, .null, .null, .null])), (q0, aI cs 16)]) _ _ := Wl
  refine lv_aload_n hx hb (k := 0) (i := 0) (by decide +kernel) rfl (lv_at hl 0 rfl) ?_
  refine lv_bipush hx hb (n := 16) (v := Int32.ofInt 16) (by decide +kernel) (by decide +kernel) ?_
  refine mk_arr (N := 16) (nm := 16) (c2 := 2) (s2 := 32) C Wl (nn_ok (z := 16) (by decide) (by decide)).1 (nn_ok (z := 16) (by decide) (by decide)).2 (Nat.le_of_ble_eq_true rfl) (Nat.le_of_ble_eq_true rfl) (Nat.le_of_ble_eq_true rfl) (Nat.le_of_ble_eq_true rfl) (Nat.le_of_ble_eq_true rfl) (Nat.le_of_ble_eq_true rfl) (by decide +kernel) (fun q1 H1 Wl => ?_)
  replace Wl : mkW D cs A s ([(a, .inr (6, [.int 0, .ref q0, .null, .null, .null])), (q0, aI cs 16), (q1, aI cs 16)]) _ _ := Wl
  refine mk_put (p1 := 2220) (idx := 15) (ty := .array .int) (v := .ref q1) C hm Wl (ci := 6) (by decide) rfl 0 rfl 2 (by decide) (by decide +kernel) rfl (by decide +kernel) rfl rfl (Nat.le_of_ble_eq_true rfl) (by decide +kernel) (fun H1 locs1 Wl => ?_)
  replace Wl : mkW D cs A s ([(a, .inr (6, [.int 0, .ref q0, .ref q1, .null, .null])), (q0, aI cs 16), (q1, aI cs 16)]) _ _ := Wl
  refine lv_aload_n hx hb (k := 0) (i := 0) (by decide +kernel) rfl (lv_at hl 0 rfl) ?_
  refine lv_bipush hx hb (n := 96) (v := Int32.ofInt 96) (by decide +kernel) (by decide +kernel) ?_
  refine mk_arr (N := 96) (nm := 96) (c2 := 3) (s2 := 128) C Wl (nn_ok (z := 96) (by decide) (by decide)).1 (nn_ok (z := 96) (by decide) (by decide)).2 (Nat.le_of_ble_eq_true rfl) (Nat.le_of_ble_eq_true rfl) (Nat.le_of_ble_eq_true rfl) (Nat.le_of_ble_eq_true rfl) (Nat.le_of_ble_eq_true rfl) (Nat.le_of_ble_eq_true rfl) (by decide +kernel) (fun q2 H1 Wl => ?_)
  replace Wl : mkW D cs A s ([(a, .inr (6, [.int 0, .ref q0, .ref q1, .null, .null])), (q0, aI cs 16), (q1, aI cs 16), (q2, aI cs 96)]) _ _ := Wl
  refine mk_put (p1 := 2224) (idx := 18) (ty := .array .int) (v := .ref q2) C hm Wl (ci := 6) (by decide) rfl 0 rfl 3 (by decide) (by decide +kernel) rfl (by decide +kernel) rfl rfl (Nat.le_of_ble_eq_true rfl) (by decide +kernel) (fun H1 locs1 Wl => ?_)
  replace Wl : mkW D cs A s ([(a, .inr (6, [.int 0, .ref q0, .ref q1, .ref q2, .null])), (q0, aI cs 16), (q1, aI cs 16), (q2, aI cs 96)]) _ _ := Wl
  refine lv_aload_n hx hb (k := 0) (i := 0) (by decide +kernel) rfl (lv_at hl 0 rfl) ?_
  refine lv_bipush hx hb (n := 96) (v := Int32.ofInt 96) (by decide +kernel) (by decide +kernel) ?_
  refine mk_arr (N := 96) (nm := 96) (c2 := 4) (s2 := 224) C Wl (nn_ok (z := 96) (by decide) (by decide)).1 (nn_ok (z := 96) (by decide) (by decide)).2 (Nat.le_of_ble_eq_true rfl) (Nat.le_of_ble_eq_true rfl) (Nat.le_of_ble_eq_true rfl) (Nat.le_of_ble_eq_true rfl) (Nat.le_of_ble_eq_true rfl) (Nat.le_of_ble_eq_true rfl) (by decide +kernel) (fun q3 H1 Wl => ?_)
  replace Wl : mkW D cs A s ([(a, .inr (6, [.int 0, .ref q0, .ref q1, .ref q2, .null])), (q0, aI cs 16), (q1, aI cs 16), (q2, aI cs 96), (q3, aI cs 96)]) _ _ := Wl
  refine mk_put (p1 := 2228) (idx := 21) (ty := .array .int) (v := .ref q3) C hm Wl (ci := 6) (by decide) rfl 0 rfl 4 (by decide) (by decide +kernel) rfl (by decide +kernel) rfl rfl (Nat.le_of_ble_eq_true rfl) (by decide +kernel) (fun H1 locs1 Wl => ?_)
  replace Wl : mkW D cs A s ([(a, .inr (6, [.int 0, .ref q0, .ref q1, .ref q2, .ref q3])), (q0, aI cs 16), (q1, aI cs 16), (q2, aI cs 96), (q3, aI cs 96)]) _ _ := Wl
  exact fin _ _ (fun k => [a, q0, q1, q2, q3].getD k 0) _ _ Wl rfl (by decide +kernel)
abbrev rmWire : Room := { frames := 1, cells := 7, slots := 102, locals := 20 }
def wWire (cs : Nat → ClassId) (t : Nat) (r : Nat → Nat) : va_W := [(r 0, .inr (10, [.ref t, .int 0, .int 0, .int 0, .int 0, .ref (r 1), .int 0, .ref (r 2), .ref (r 3), .ref (r 4), .ref (r 5), .ref (r 6), .ref (r 7)])), (r 1, aI cs 6), (r 2, aI cs 16), (r 3, aI cs 16), (r 4, aI cs 16), (r 5, aI cs 16), (r 6, aI cs 16), (r 7, aI cs 16)]
set_option maxHeartbeats 4000000 in
theorem k_Wire {l : Launch} {D : va_G} {cs : Nat → ClassId} {t : Nat} : Ctor l D cs ⟨"CellRows$Wire", "<init>", "([I)V"⟩ prog_12_method_1_code 2 rmWire [.ref t] (fun a => [(a, nO 10)]) (wWire cs t) (fun _ _ => True) := by
  refine mk_met (by decide +kernel) rfl (Nat.le_of_ble_eq_true rfl) ?_
  intro p e s m args below meth c a A ls Q C hm Wl hX hA9 hl fin
  have hx := C.1
  have hb := C.2.1
  replace Wl : mkW D cs A s ([(a, .inr (10, [.null, .int 0, .int 0, .int 0, .int 0, .null, .int 0, .null, .null, .null, .null, .null, .null]))]) _ _ := Wl
  refine lv_aload_n hx hb (k := 0) (i := 0) (by decide +kernel) rfl (lv_at hl 0 rfl) ?_
  refine mk_obj (p1 := 2376) (idx := 3) C (by decide +kernel) hl.1 (Nat.le_of_ble_eq_true rfl) (Nat.le_of_ble_eq_true rfl) (by decide +kernel) ?_
  refine lv_aload_n hx hb (k := 0) (i := 0) (by decide +kernel) rfl (lv_at hl 0 rfl) ?_
  refine lv_bipush hx hb (n := 6) (v := Int32.ofInt 6) (by decide +kernel) (by decide +kernel) ?_
  refine mk_arr (N := 6) (nm := 6) (c2 := 1) (s2 := 6) C Wl (nn_ok (z := 6) (by decide) (by decide)).1 (nn_ok (z := 6) (by decide) (by decide)).2 (Nat.le_of_ble_eq_true rfl) (Nat.le_of_ble_eq_true rfl) (Nat.le_of_ble_eq_true rfl) (Nat.le_of_ble_eq_true rfl) (Nat.le_of_ble_eq_true rfl) (Nat.le_of_ble_eq_true rfl) (by decide +kernel) (fun q0 H1 Wl => ?_)
  replace Wl : mkW D cs A s ([(a, .inr (10, [.null, .int 0, .int 0, .int 0, .int 0, .null, .int 0, .null, .null, .null, .null, .null, .null])), (q0, aI cs 6)]) _ _ := Wl
  refine mk_put (p1 := 2386) (idx := 9) (ty := .array .int) (v := .ref q0) C hm Wl (ci := 10) (by decide) rfl 0 rfl 5 (by decide) (by decide +kernel) rfl (by decide +kernel) rfl rfl (Nat.le_of_ble_eq_true rfl) (by decide +kernel) (fun H1 locs1 Wl => ?_)
  replace Wl : mkW D cs A s ([(a, .inr (10, [.null, .int 0, .int 0, .int 0, .int 0, .ref q0, .int 0, .null, .null, .null, .null, .null, .null])), (q0, aI cs 6)]) _ _ := Wl
  refine lv_aload_n hx hb (k := 0) (i := 0) (by decide +kernel) rfl (lv_at hl 0 rfl) ?_
  refine lv_bipush hx hb (n := 16) (v := Int32.ofInt 16) (by decide +kernel) (by decide +kernel) ?_
  refine mk_arr (N := 16) (nm := 16) (c2 := 2) (s2 := 22) C Wl (nn_ok (z := 16) (by decide) (by decide)).1 (nn_ok (z := 16) (by decide) (by decide)).2 (Nat.le_of_ble_eq_true rfl) (Nat.le_of_ble_eq_true rfl) (Nat.le_of_ble_eq_true rfl) (Nat.le_of_ble_eq_true rfl) (Nat.le_of_ble_eq_true rfl) (Nat.le_of_ble_eq_true rfl) (by decide +kernel) (fun q1 H1 Wl => ?_)
  replace Wl : mkW D cs A s ([(a, .inr (10, [.null, .int 0, .int 0, .int 0, .int 0, .ref q0, .int 0, .null, .null, .null, .null, .null, .null])), (q0, aI cs 6), (q1, aI cs 16)]) _ _ := Wl
  refine mk_put (p1 := 2388) (idx := 15) (ty := .array .int) (v := .ref q1) C hm Wl (ci := 10) (by decide) rfl 0 rfl 7 (by decide) (by decide +kernel) rfl (by decide +kernel) rfl rfl (Nat.le_of_ble_eq_true rfl) (by decide +kernel) (fun H1 locs1 Wl => ?_)
  replace Wl : mkW D cs A s ([(a, .inr (10, [.null, .int 0, .int 0, .int 0, .int 0, .ref q0, .int 0, .ref q1, .null, .null, .null, .null, .null])), (q0, aI cs 6), (q1, aI cs 16)]) _ _ := Wl
  refine lv_aload_n hx hb (k := 0) (i := 0) (by decide +kernel) rfl (lv_at hl 0 rfl) ?_
  refine lv_bipush hx hb (n := 16) (v := Int32.ofInt 16) (by decide +kernel) (by decide +kernel) ?_
  refine mk_arr (N := 16) (nm := 16) (c2 := 3) (s2 := 38) C Wl (nn_ok (z := 16) (by decide) (by decide)).1 (nn_ok (z := 16) (by decide) (by decide)).2 (Nat.le_of_ble_eq_true rfl) (Nat.le_of_ble_eq_true rfl) (Nat.le_of_ble_eq_true rfl) (Nat.le_of_ble_eq_true rfl) (Nat.le_of_ble_eq_true rfl) (Nat.le_of_ble_eq_true rfl) (by decide +kernel) (fun q2 H1 Wl => ?_)
  replace Wl : mkW D cs A s ([(a, .inr (10, [.null, .int 0, .int 0, .int 0, .int 0, .ref q0, .int 0, .ref q1, .null, .null, .null, .null, .null])), (q0, aI cs 6), (q1, aI cs 16), (q2, aI cs 16)]) _ _ := Wl
  refine mk_put (p1 := 2389) (idx := 18) (ty := .array .int) (v := .ref q2) C hm Wl (ci := 10) (by decide) rfl 0 rfl 8 (by decide) (by decide +kernel) rfl (by decide +kernel) rfl rfl (Nat.le_of_ble_eq_true rfl) (by decide +kernel) (fun H1 locs1 Wl => ?_)
  replace Wl : mkW D cs A s ([(a, .inr (10, [.null, .int 0, .int 0, .int 0, .int 0, .ref q0, .int 0, .ref q1, .ref q2, .null, .null, .null, .null])), (q0, aI cs 6), (q1, aI cs 16), (q2, aI cs 16)]) _ _ := Wl
  refine lv_aload_n hx hb (k := 0) (i := 0) (by decide +kernel) rfl (lv_at hl 0 rfl) ?_
  refine lv_bipush hx hb (n := 16) (v := Int32.ofInt 16) (by decide +kernel) (by decide +kernel) ?_
  refine mk_arr (N := 16) (nm := 16) (c2 := 4) (s2 := 54) C Wl (nn_ok (z := 16) (by decide) (by decide)).1 (nn_ok (z := 16) (by decide) (by decide)).2 (Nat.le_of_ble_eq_true rfl) (Nat.le_of_ble_eq_true rfl) (Nat.le_of_ble_eq_true rfl) (Nat.le_of_ble_eq_true rfl) (Nat.le_of_ble_eq_true rfl) (Nat.le_of_ble_eq_true rfl) (by decide +kernel) (fun q3 H1 Wl => ?_)
  replace Wl : mkW D cs A s ([(a, .inr (10, [.null, .int 0, .int 0, .int 0, .int 0, .ref q0, .int 0, .ref q1, .ref q2, .null, .null, .null, .null])), (q0, aI cs 6), (q1, aI cs 16), (q2, aI cs 16), (q3, aI cs 16)]) _ _ := Wl
  refine mk_put (p1 := 2390) (idx := 21) (ty := .array .int) (v := .ref q3) C hm Wl (ci := 10) (by decide) rfl 0 rfl 9 (by decide) (by decide +kernel) rfl (by decide +kernel) rfl rfl (Nat.le_of_ble_eq_true rfl) (by decide +kernel) (fun H1 locs1 Wl => ?_)
  replace Wl : mkW D cs A s ([(a, .inr (10, [.null, .int 0, .int 0, .int 0, .int 0, .ref q0, .int 0, .ref q1, .ref q2, .ref q3, .null, .null, .null])), (q0, aI cs 6), (q1, aI cs 16), (q2, aI cs 16), (q3, aI cs 16)]) _ _ := Wl
  refine lv_aload_n hx hb (k := 0) (i := 0) (by decide +kernel) rfl (lv_at hl 0 rfl) ?_
  refine lv_bipush hx hb (n := 16) (v := Int32.ofInt 16) (by decide +kernel) (by decide +kernel) ?_
  refine mk_arr (N := 16) (nm := 16) (c2 := 5) (s2 := 70) C Wl (nn_ok (z := 16) (by decide) (by decide)).1 (nn_ok (z := 16) (by decide) (by decide)).2 (Nat.le_of_ble_eq_true rfl) (Nat.le_of_ble_eq_true rfl) (Nat.le_of_ble_eq_true rfl) (Nat.le_of_ble_eq_true rfl) (Nat.le_of_ble_eq_true rfl) (Nat.le_of_ble_eq_true rfl) (by decide +kernel) (fun q4 H1 Wl => ?_)
  replace Wl : mkW D cs A s ([(a, .inr (10, [.null, .int 0, .int 0, .int 0, .int 0, .ref q0, .int 0, .ref q1, .ref q2, .ref q3, .null, .null, .null])), (q0, aI cs 6), (q1, aI cs 16), (q2, aI cs 16), (q3, aI cs 16), (q4, aI cs 16)]) _ _ := Wl
  refine mk_put (p1 := 2391) (idx := 24) (ty := .array .int) (v := .ref q4) C hm Wl (ci := 10) (by decide) rfl 0 rfl 10 (by decide) (by decide +kernel) rfl (by decide +kernel) rfl rfl (Nat.le_of_ble_eq_true rfl) (by decide +kernel) (fun H1 locs1 Wl => ?_)
  replace Wl : mkW D cs A s ([(a, .inr (10, [.null, .int 0, .int 0, .int 0, .int 0, .ref q0, .int 0, .ref q1, .ref q2, .ref q3, .ref q4, .null, .null])), (q0, aI cs 6), (q1, aI cs 16), (q2, aI cs 16), (q3, aI cs 16), (q4, aI cs 16)]) _ _ := Wl
  refine lv_aload_n hx hb (k := 0) (i := 0) (by decide +kernel) rfl (lv_at hl 0 rfl) ?_
  refine lv_bipush hx hb (n := 16) (v := Int32.ofInt 16) (by decide +kernel) (by decide +kernel) ?_
  refine mk_arr (N := 16) (nm := 16) (c2 := 6) (s2 := 86) C Wl (nn_ok (z := 16) (by decide) (by decide)).1 (nn_ok (z := 16) (by decide) (by decide)).2 (Nat.le_of_ble_eq_true rfl) (Nat.le_of_ble_eq_true rfl) (Nat.le_of_ble_eq_true rfl) (Nat.le_of_ble_eq_true rfl) (Nat.le_of_ble_eq_true rfl) (Nat.le_of_ble_eq_true rfl) (by decide +kernel) (fun q5 H1 Wl => ?_)
  replace Wl : mkW D cs A s ([(a, .inr (10, [.null, .int 0, .int 0, .int 0, .int 0, .ref q0, .int 0, .ref q1, .ref q2, .ref q3, .ref q4, .null, .null])), (q0, aI cs 6), (q1, aI cs 16), (q2, aI cs 16), (q3, aI cs 16), (q4, aI cs 16), (q5, aI cs 16)]) _ _ := Wl
  refine mk_put (p1 := 2392) (idx := 27) (ty := .array .int) (v := .ref q5) C hm Wl (ci := 10) (by decide) rfl 0 rfl 11 (by decide) (by decide +kernel) rfl (by decide +kernel) rfl rfl (Nat.le_of_ble_eq_true rfl) (by decide +kernel) (fun H1 locs1 Wl => ?_)
  replace Wl : mkW D cs A s ([(a, .inr (10, [.null, .int 0, .int 0, .int 0, .int 0, .ref q0, .int 0, .ref q1, .ref q2, .ref q3, .ref q4, .ref q5, .null])), (q0, aI cs 6), (q1, aI cs 16), (q2, aI cs 16), (q3, aI cs 16), (q4, aI cs 16), (q5, aI cs 16)]) _ _ := Wl
  refine lv_aload_n hx hb (k := 0) (i := 0) (by decide +kernel) rfl (lv_at hl 0 rfl) ?_
  refine lv_bipush hx hb (n := 16) (v := Int32.ofInt 16) (by decide +kernel) (by decide +kernel) ?_
  refine mk_arr (N := 16) (nm := 16) (c2 := 7) (s2 := 102) C Wl (nn_ok (z := 16) (by decide) (by decide)).1 (nn_ok (z := 16) (by decide) (by decide)).2 (Nat.le_of_ble_eq_true rfl) (Nat.le_of_ble_eq_true rfl) (Nat.le_of_ble_eq_true rfl) (Nat.le_of_ble_eq_true rfl) (Nat.le_of_ble_eq_true rfl) (Nat.le_of_ble_eq_true rfl) (by decide +kernel) (fun q6 H1 Wl => ?_)
  replace Wl : mkW D cs A s ([(a, .inr (10, [.null, .int 0, .int 0, .int 0, .int 0, .ref q0, .int 0, .ref q1, .ref q2, .ref q3, .ref q4, .ref q5, .null])), (q0, aI cs 6), (q1, aI cs 16), (q2, aI cs 16), (q3, aI cs 16), (q4, aI cs 16), (q5, aI cs 16), (q6, aI cs 16)]) _ _ := Wl
  refine mk_put (p1 := 2393) (idx := 30) (ty := .array .int) (v := .ref q6) C hm Wl (ci := 10) (by decide) rfl 0 rfl 12 (by decide) (by decide +kernel) rfl (by decide +kernel) rfl rfl (Nat.le_of_ble_eq_true rfl) (by decide +kernel) (fun H1 locs1 Wl => ?_)
  replace Wl : mkW D cs A s ([(a, .inr (10, [.null, .int 0, .int 0, .int 0, .int 0, .ref q0, .int 0, .ref q1, .ref q2, .ref q3, .ref q4, .ref q5, .ref q6])), (q0, aI cs 6), (q1, aI cs 16), (q2, aI cs 16), (q3, aI cs 16), (q4, aI cs 16), (q5, aI cs 16), (q6, aI cs 16)]) _ _ := Wl
  refine lv_aload_n hx hb (k := 0) (i := 0) (by decide +kernel) rfl (lv_at hl 0 rfl) ?_
  refine lv_aload_n hx hb (k := 1) (i := 1) (by decide +kernel) rfl (lv_at hl 1 rfl) ?_
  refine mk_put (p1 := 2377) (idx := 33) (ty := .array .int) (v := .ref t) C hm Wl (ci := 10) (by decide) rfl 0 rfl 0 (by decide) (by decide +kernel) rfl (by decide +kernel) rfl rfl (Nat.le_of_ble_eq_true rfl) (by decide +kernel) (fun H1 locs1 Wl => ?_)
  replace Wl : mkW D cs A s ([(a, .inr (10, [.ref t, .int 0, .int 0, .int 0, .int 0, .ref q0, .int 0, .ref q1, .ref q2, .ref q3, .ref q4, .ref q5, .ref q6])), (q0, aI cs 6), (q1, aI cs 16), (q2, aI cs 16), (q3, aI cs 16), (q4, aI cs 16), (q5, aI cs 16), (q6, aI cs 16)]) _ _ := Wl
  exact fin _ _ (fun k => [a, q0, q1, q2, q3, q4, q5, q6].getD k 0) _ _ Wl rfl (by decide +kernel)
abbrev rmAnalytic : Room := { frames := 1, cells := 2, slots := 40, locals := 20 }
def wAnalytic (cs : Nat → ClassId) (t w b : Nat) (r : Nat → Nat) : va_W := [(r 0, .inr (0, [.ref t, .ref w, .ref b, .ref (r 1), .ref (r 2)])), (r 1, aI cs 20), (r 2, aI cs 20)]
set_option maxHeartbeats 4000000 in
theorem k_Analytic {l : Launch} {D : va_G} {cs : Nat → ClassId} {t w b : Nat} : Ctor l D cs ⟨"CellRows$Analytic", "<init>", "([ILCellRows$Wire;LCellRows$Bins;)V"⟩ prog_2_method_1_code 4 rmAnalytic [.ref t, .ref w, .ref b] (fun a => [(a, nO 0)]) (wAnalytic cs t w b) (fun _ _ => True) := by
  refine mk_met (by decide +kernel) rfl (Nat.le_of_ble_eq_true rfl) ?_
  intro p e s m args below meth c a A ls Q C hm Wl hX hA9 hl fin
  have hx := C.1
  have hb := C.2.1
  replace Wl : mkW D cs A s ([(a, .inr (0, [.null, .null, .null, .null, .null]))]) _ _ := Wl
  refine lv_aload_n hx hb (k := 0) (i := 0) (by decide +kernel) rfl (lv_at hl 0 rfl) ?_
  refine mk_obj (p1 := 2455) (idx := 3) C (by decide +kernel) hl.1 (Nat.le_of_ble_eq_true rfl) (Nat.le_of_ble_eq_true rfl) (by decide +kernel) ?_
  refine lv_aload_n hx hb (k := 0) (i := 0) (by decide +kernel) rfl (lv_at hl 0 rfl) ?_
  refine lv_bipush hx hb (n := 20) (v := Int32.ofInt 20) (by decide +kernel) (by decide +kernel) ?_
  refine mk_arr (N := 20) (nm := 20) (c2 := 1) (s2 := 20) C Wl (nn_ok (z := 20) (by decide) (by decide)).1 (nn_ok (z := 20) (by decide) (by decide)).2 (Nat.le_of_ble_eq_true rfl) (Nat.le_of_ble_eq_true rfl) (Nat.le_of_ble_eq_true rfl) (Nat.le_of_ble_eq_true rfl) (Nat.le_of_ble_eq_true rfl) (Nat.le_of_ble_eq_true rfl) (by decide +kernel) (fun q0 H1 Wl => ?_)
  replace Wl : mkW D cs A s ([(a, .inr (0, [.null, .null, .null, .null, .null])), (q0, aI cs 20)]) _ _ := Wl
  refine mk_put (p1 := 2459) (idx := 9) (ty := .array .int) (v := .ref q0) C hm Wl (ci := 0) (by decide) rfl 0 rfl 3 (by decide) (by decide +kernel) rfl (by decide +kernel) rfl rfl (Nat.le_of_ble_eq_true rfl) (by decide +kernel) (fun H1 locs1 Wl => ?_)
  replace Wl : mkW D cs A s ([(a, .inr (0, [.null, .null, .null, .ref q0, .null])), (q0, aI cs 20)]) _ _ := Wl
  refine lv_aload_n hx hb (k := 0) (i := 0) (by decide +kernel) rfl (lv_at hl 0 rfl) ?_
  refine lv_bipush hx hb (n := 20) (v := Int32.ofInt 20) (by decide +kernel) (by decide +kernel) ?_
  refine mk_arr (N := 20) (nm := 20) (c2 := 2) (s2 := 40) C Wl (nn_ok (z := 20) (by decide) (by decide)).1 (nn_ok (z := 20) (by decide) (by decide)).2 (Nat.le_of_ble_eq_true rfl) (Nat.le_of_ble_eq_true rfl) (Nat.le_of_ble_eq_true rfl) (Nat.le_of_ble_eq_true rfl) (Nat.le_of_ble_eq_true rfl) (Nat.le_of_ble_eq_true rfl) (by decide +kernel) (fun q1 H1 Wl => ?_)
  replace Wl : mkW D cs A s ([(a, .inr (0, [.null, .null, .null, .ref q0, .null])), (q0, aI cs 20), (q1, aI cs 20)]) _ _ := Wl
  refine mk_put (p1 := 2460) (idx := 15) (ty := .array .int) (v := .ref q1) C hm Wl (ci := 0) (by decide) rfl 0 rfl 4 (by decide) (by decide +kernel) rfl (by decide +kernel) rfl rfl (Nat.le_of_ble_eq_true rfl) (by decide +kernel) (fun H1 locs1 Wl => ?_)
  replace Wl : mkW D cs A s ([(a, .inr (0, [.null, .null, .null, .ref q0, .ref q1])), (q0, aI cs 20), (q1, aI cs 20)]) _ _ := Wl
  refine lv_aload_n hx hb (k := 0) (i := 0) (by decide +kernel) rfl (lv_at hl 0 rfl) ?_
  refine lv_aload_n hx hb (k := 1) (i := 1) (by decide +kernel) rfl (lv_at hl 1 rfl) ?_
  refine mk_put (p1 := 2456) (idx := 18) (ty := .array .int) (v := .ref t) C hm Wl (ci := 0) (by decide) rfl 0 rfl 0 (by decide) (by decide +kernel) rfl (by decide +kernel) rfl rfl (Nat.le_of_ble_eq_true rfl) (by decide +kernel) (fun H1 locs1 Wl => ?_)
  replace Wl : mkW D cs A s ([(a, .inr (0, [.ref t, .null, .null, .ref q0, .ref q1])), (q0, aI cs 20), (q1, aI cs 20)]) _ _ := Wl
  refine lv_aload_n hx hb (k := 0) (i := 0) (by decide +kernel) rfl (lv_at hl 0 rfl) ?_
  refine lv_aload_n hx hb (k := 2) (i := 2) (by decide +kernel) rfl (lv_at hl 2 rfl) ?_
  refine mk_put (p1 := 2457) (idx := 21) (ty := .object "CellRows$Wire") (v := .ref w) C hm Wl (ci := 0) (by decide) rfl 0 rfl 1 (by decide) (by decide +kernel) rfl (by decide +kernel) rfl rfl (Nat.le_of_ble_eq_true rfl) (by decide +kernel) (fun H1 locs1 Wl => ?_)
  replace Wl : mkW D cs A s ([(a, .inr (0, [.ref t, .ref w, .null, .ref q0, .ref q1])), (q0, aI cs 20), (q1, aI cs 20)]) _ _ := Wl
  refine lv_aload_n hx hb (k := 0) (i := 0) (by decide +kernel) rfl (lv_at hl 0 rfl) ?_
  refine lv_aload_n hx hb (k := 3) (i := 3) (by decide +kernel) rfl (lv_at hl 3 rfl) ?_
  refine mk_put (p1 := 2458) (idx := 25) (ty := .object "CellRows$Bins") (v := .ref b) C hm Wl (ci := 0) (by decide) rfl 0 rfl 2 (by decide) (by decide +kernel) rfl (by decide +kernel) rfl rfl (Nat.le_of_ble_eq_true rfl) (by decide +kernel) (fun H1 locs1 Wl => ?_)
  replace Wl : mkW D cs A s ([(a, .inr (0, [.ref t, .ref w, .ref b, .ref q0, .ref q1])), (q0, aI cs 20), (q1, aI cs 20)]) _ _ := Wl
  exact fin _ _ (fun k => [a, q0, q1].getD k 0) _ _ Wl rfl (by decide +kernel)
abbrev rmPasses : Room := { frames := 1, cells := 9, slots := 95, locals := 20 }
def wPasses (cs : Nat → ClassId) (w g : Nat) (r : Nat → Nat) : va_W := [(r 0, .inr (8, [.ref w, .ref g, .ref (r 1), .ref (r 2), .ref (r 3), .ref (r 4), .ref (r 5), .ref (r 6), .ref (r 7), .ref (r 8), .ref (r 9), .int 0])), (r 1, aI cs 5), (r 2, aI cs 5), (r 3, aI cs 5), (r 4, aI cs 5), (r 5, aI cs 5), (r 6, aI cs 5), (r 7, aI cs 25), (r 8, aI cs 20), (r 9, aI cs 20)]
set_option maxHeartbeats 4000000 in
theorem k_Passes {l : Launch} {D : va_G} {cs : Nat → ClassId} {w g : Nat} : Ctor l D cs ⟨"CellRows$Passes", "<init>", "(LCellRows$Wire;LCellRows$Ground;)V"⟩ prog_10_method_1_code 3 rmPasses [.ref w, .ref g] (fun a => [(a, nO 8)]) (wPasses cs w g) (fun _ _ => True) := by
  refine mk_met (by decide +kernel) rfl (Nat.le_of_ble_eq_true rfl) ?_
  intro p e s m args below meth c a A ls Q C hm Wl hX hA9 hl fin
  have hx := C.1
  have hb := C.2.1
  replace Wl : mkW D cs A s ([(a, .inr (8, [.null, .null, .null, .null, .null, .null, .null, .null, .null, .null, .null, .int 0]))]) _ _ := Wl
  refine lv_aload_n hx hb (k := 0) (i := 0) (by decide +kernel) rfl (lv_at hl 0 rfl) ?_
  refine mk_obj (p1 := 2513) (idx := 3) C (by decide +kernel) hl.1 (Nat.le_of_ble_eq_true rfl) (Nat.le_of_ble_eq_true rfl) (by decide +kernel) ?_
  refine lv_aload_n hx hb (k := 0) (i := 0) (by decide +kernel) rfl (lv_at hl 0 rfl) ?_
  refine lv_iconst hx hb (n := 5) (v := Int32.ofInt 5) (by decide +kernel) rfl ?_
  refine mk_arr (N := 5) (nm := 5) (c2 := 1) (s2 := 5) C Wl (nn_ok (z := 5) (by decide) (by decide)).1 (nn_ok (z := 5) (by decide) (by decide)).2 (Nat.le_of_ble_eq_true rfl) (Nat.le_of_ble_eq_true rfl) (Nat.le_of_ble_eq_true rfl) (Nat.le_of_ble_eq_true rfl) (Nat.le_of_ble_eq_true rfl) (Nat.le_of_ble_eq_true rfl) (by decide +kernel) (fun q0 H1 Wl => ?_)
  replace Wl : mkW D cs A s ([(a, .inr (8, [.null, .null, .null, .null, .null, .null, .null, .null, .null, .null, .null, .int 0])), (q0, aI cs 5)]) _ _ := Wl
  refine mk_put (p1 := 2516) (idx := 9) (ty := .array .int) (v := .ref q0) C hm Wl (ci := 8) (by decide) rfl 0 rfl 2 (by decide) (by decide +kernel) rfl (by decide +kernel) rfl rfl (Nat.le_of_ble_eq_true rfl) (by decide +kernel) (fun H1 locs1 Wl => ?_)
  replace Wl : mkW D cs A s ([(a, .inr (8, [.null, .null, .ref q0, .null, .null, .null, .null, .null, .null, .null, .null, .int 0])), (q0, aI cs 5)]) _ _ := Wl
  refine lv_aload_n hx hb (k := 0) (i := 0) (by decide +kernel) rfl (lv_at hl 0 rfl) ?_
  refine lv_iconst hx hb (n := 5) (v := Int32.ofInt 5) (by decide +kernel) rfl ?_
  refine mk_arr (N := 5) (nm := 5) (c2 := 2) (s2 := 10) C Wl (nn_ok (z := 5) (by decide) (by decide)).1 (nn_ok (z := 5) (by decide) (by decide)).2 (Nat.le_of_ble_eq_true rfl) (Nat.le_of_ble_eq_true rfl) (Nat.le_of_ble_eq_true rfl) (Nat.le_of_ble_eq_true rfl) (Nat.le_of_ble_eq_true rfl) (Nat.le_of_ble_eq_true rfl) (by decide +kernel) (fun q1 H1 Wl => ?_)
  replace Wl : mkW D cs A s ([(a, .inr (8, [.null, .null, .ref q0, .null, .null, .null, .null, .null, .null, .null, .null, .int 0])), (q0, aI cs 5), (q1, aI cs 5)]) _ _ := Wl
  refine mk_put (p1 := 2517) (idx := 15) (ty := .array .int) (v := .ref q1) C hm Wl (ci := 8) (by decide) rfl 0 rfl 3 (by decide) (by decide +kernel) rfl (by decide +kernel) rfl rfl (Nat.le_of_ble_eq_true rfl) (by decide +kernel) (fun H1 locs1 Wl => ?_)
  replace Wl : mkW D cs A s ([(a, .inr (8, [.null, .null, .ref q0, .ref q1, .null, .null, .null, .null, .null, .null, .null, .int 0])), (q0, aI cs 5), (q1, aI cs 5)]) _ _ := Wl
  refine lv_aload_n hx hb (k := 0) (i := 0) (by decide +kernel) rfl (lv_at hl 0 rfl) ?_
  refine lv_iconst hx hb (n := 5) (v := Int32.ofInt 5) (by decide +kernel) rfl ?_
  refine mk_arr (N := 5) (nm := 5) (c2 := 3) (s2 := 15) C Wl (nn_ok (z := 5) (by decide) (by decide)).1 (nn_ok (z := 5) (by decide) (by decide)).2 (Nat.le_of_ble_eq_true rfl) (Nat.le_of_ble_eq_true rfl) (Nat.le_of_ble_eq_true rfl) (Nat.le_of_ble_eq_true rfl) (Nat.le_of_ble_eq_true rfl) (Nat.le_of_ble_eq_true rfl) (by decide +kernel) (fun q2 H1 Wl => ?_)
  replace Wl : mkW D cs A s ([(a, .inr (8, [.null, .null, .ref q0, .ref q1, .null, .null, .null, .null, .null, .null, .null, .int 0])), (q0, aI cs 5), (q1, aI cs 5), (q2, aI cs 5)]) _ _ := Wl
  refine mk_put (p1 := 2518) (idx := 18) (ty := .array .int) (v := .ref q2) C hm Wl (ci := 8) (by decide) rfl 0 rfl 4 (by decide) (by decide +kernel) rfl (by decide +kernel) rfl rfl (Nat.le_of_ble_eq_true rfl) (by decide +kernel) (fun H1 locs1 Wl => ?_)
  replace Wl : mkW D cs A s ([(a, .inr (8, [.null, .null, .ref q0, .ref q1, .ref q2, .null, .null, .null, .null, .null, .null, .int 0])), (q0, aI cs 5), (q1, aI cs 5), (q2, aI cs 5)]) _ _ := Wl
  refine lv_aload_n hx hb (k := 0) (i := 0) (by decide +kernel) rfl (lv_at hl 0 rfl) ?_
  refine lv_iconst hx hb (n := 5) (v := Int32.ofInt 5) (by decide +kernel) rfl ?_
  refine mk_arr (N := 5) (nm := 5) (c2 := 4) (s2 := 20) C Wl (nn_ok (z := 5) (by decide) (by decide)).1 (nn_ok (z := 5) (by decide) (by decide)).2 (Nat.le_of_ble_eq_true rfl) (Nat.le_of_ble_eq_true rfl) (Nat.le_of_ble_eq_true rfl) (Nat.le_of_ble_eq_true rfl) (Nat.le_of_ble_eq_true rfl) (Nat.le_of_ble_eq_true rfl) (by decide +kernel) (fun q3 H1 Wl => ?_)
  replace Wl : mkW D cs A s ([(a, .inr (8, [.null, .null, .ref q0, .ref q1, .ref q2, .null, .null, .null, .null, .null, .null, .int 0])), (q0, aI cs 5), (q1, aI cs 5), (q2, aI cs 5), (q3, aI cs 5)]) _ _ := Wl
  refine mk_put (p1 := 2519) (idx := 21) (ty := .array .int) (v := .ref q3) C hm Wl (ci := 8) (by decide) rfl 0 rfl 5 (by decide) (by decide +kernel) rfl (by decide +kernel) rfl rfl (Nat.le_of_ble_eq_true rfl) (by decide +kernel) (fun H1 locs1 Wl => ?_)
  replace Wl : mkW D cs A s ([(a, .inr (8, [.null, .null, .ref q0, .ref q1, .ref q2, .ref q3, .null, .null, .null, .null, .null, .int 0])), (q0, aI cs 5), (q1, aI cs 5), (q2, aI cs 5), (q3, aI cs 5)]) _ _ := Wl
  refine lv_aload_n hx hb (k := 0) (i := 0) (by decide +kernel) rfl (lv_at hl 0 rfl) ?_
  refine lv_iconst hx hb (n := 5) (v := Int32.ofInt 5) (by decide +kernel) rfl ?_
  refine mk_arr (N := 5) (nm := 5) (c2 := 5) (s2 := 25) C Wl (nn_ok (z := 5) (by decide) (by decide)).1 (nn_ok (z := 5) (by decide) (by decide)).2 (Nat.le_of_ble_eq_true rfl) (Nat.le_of_ble_eq_true rfl) (Nat.le_of_ble_eq_true rfl) (Nat.le_of_ble_eq_true rfl) (Nat.le_of_ble_eq_true rfl) (Nat.le_of_ble_eq_true rfl) (by decide +kernel) (fun q4 H1 Wl => ?_)
  replace Wl : mkW D cs A s ([(a, .inr (8, [.null, .null, .ref q0, .ref q1, .ref q2, .ref q3, .null, .null, .null, .null, .null, .int 0])), (q0, aI cs 5), (q1, aI cs 5), (q2, aI cs 5), (q3, aI cs 5), (q4, aI cs 5)]) _ _ := Wl
  refine mk_put (p1 := 2520) (idx := 24) (ty := .array .int) (v := .ref q4) C hm Wl (ci := 8) (by decide) rfl 0 rfl 6 (by decide) (by decide +kernel) rfl (by decide +kernel) rfl rfl (Nat.le_of_ble_eq_true rfl) (by decide +kernel) (fun H1 locs1 Wl => ?_)
  replace Wl : mkW D cs A s ([(a, .inr (8, [.null, .null, .ref q0, .ref q1, .ref q2, .ref q3, .ref q4, .null, .null, .null, .null, .int 0])), (q0, aI cs 5), (q1, aI cs 5), (q2, aI cs 5), (q3, aI cs 5), (q4, aI cs 5)]) _ _ := Wl
  refine lv_aload_n hx hb (k := 0) (i := 0) (by decide +kernel) rfl (lv_at hl 0 rfl) ?_
  refine lv_iconst hx hb (n := 5) (v := Int32.ofInt 5) (by decide +kernel) rfl ?_
  refine mk_arr (N := 5) (nm := 5) (c2 := 6) (s2 := 30) C Wl (nn_ok (z := 5) (by decide) (by decide)).1 (nn_ok (z := 5) (by decide) (by decide)).2 (Nat.le_of_ble_eq_true rfl) (Nat.le_of_ble_eq_true rfl) (Nat.le_of_ble_eq_true rfl) (Nat.le_of_ble_eq_true rfl) (Nat.le_of_ble_eq_true rfl) (Nat.le_of_ble_eq_true rfl) (by decide +kernel) (fun q5 H1 Wl => ?_)
  replace Wl : mkW D cs A s ([(a, .inr (8, [.null, .null, .ref q0, .ref q1, .ref q2, .ref q3, .ref q4, .null, .null, .null, .null, .int 0])), (q0, aI cs 5), (q1, aI cs 5), (q2, aI cs 5), (q3, aI cs 5), (q4, aI cs 5), (q5, aI cs 5)]) _ _ := Wl
  refine mk_put (p1 := 2521) (idx := 27) (ty := .array .int) (v := .ref q5) C hm Wl (ci := 8) (by decide) rfl 0 rfl 7 (by decide) (by decide +kernel) rfl (by decide +kernel) rfl rfl (Nat.le_of_ble_eq_true rfl) (by decide +kernel) (fun H1 locs1 Wl => ?_)
  replace Wl : mkW D cs A s ([(a, .inr (8, [.null, .null, .ref q0, .ref q1, .ref q2, .ref q3, .ref q4, .ref q5, .null, .null, .null, .int 0])), (q0, aI cs 5), (q1, aI cs 5), (q2, aI cs 5), (q3, aI cs 5), (q4, aI cs 5), (q5, aI cs 5)]) _ _ := Wl
  refine lv_aload_n hx hb (k := 0) (i := 0) (by decide +kernel) rfl (lv_at hl 0 rfl) ?_
  refine lv_bipush hx hb (n := 25) (v := Int32.ofInt 25) (by decide +kernel) (by decide +kernel) ?_
  refine mk_arr (N := 25) (nm := 25) (c2 := 7) (s2 := 55) C Wl (nn_ok (z := 25) (by decide) (by decide)).1 (nn_ok (z := 25) (by decide) (by decide)).2 (Nat.le_of_ble_eq_true rfl) (Nat.le_of_ble_eq_true rfl) (Nat.le_of_ble_eq_true rfl) (Nat.le_of_ble_eq_true rfl) (Nat.le_of_ble_eq_true rfl) (Nat.le_of_ble_eq_true rfl) (by decide +kernel) (fun q6 H1 Wl => ?_)
  replace Wl : mkW D cs A s ([(a, .inr (8, [.null, .null, .ref q0, .ref q1, .ref q2, .ref q3, .ref q4, .ref q5, .null, .null, .null, .int 0])), (q0, aI cs 5), (q1, aI cs 5), (q2, aI cs 5), (q3, aI cs 5), (q4, aI cs 5), (q5, aI cs 5), (q6, aI cs 25)]) _ _ := Wl
  refine mk_put (p1 := 2522) (idx := 30) (ty := .array .int) (v := .ref q6) C hm Wl (ci := 8) (by decide) rfl 0 rfl 8 (by decide) (by decide +kernel) rfl (by decide +kernel) rfl rfl (Nat.le_of_ble_eq_true rfl) (by decide +kernel) (fun H1 locs1 Wl => ?_)
  replace Wl : mkW D cs A s ([(a, .inr (8, [.null, .null, .ref q0, .ref q1, .ref q2, .ref q3, .ref q4, .ref q5, .ref q6, .null, .null, .int 0])), (q0, aI cs 5), (q1, aI cs 5), (q2, aI cs 5), (q3, aI cs 5), (q4, aI cs 5), (q5, aI cs 5), (q6, aI cs 25)]) _ _ := Wl
  refine lv_aload_n hx hb (k := 0) (i := 0) (by decide +kernel) rfl (lv_at hl 0 rfl) ?_
  refine lv_bipush hx hb (n := 20) (v := Int32.ofInt 20) (by decide +kernel) (by decide +kernel) ?_
  refine mk_arr (N := 20) (nm := 20) (c2 := 8) (s2 := 75) C Wl (nn_ok (z := 20) (by decide) (by decide)).1 (nn_ok (z := 20) (by decide) (by decide)).2 (Nat.le_of_ble_eq_true rfl) (Nat.le_of_ble_eq_true rfl) (Nat.le_of_ble_eq_true rfl) (Nat.le_of_ble_eq_true rfl) (Nat.le_of_ble_eq_true rfl) (Nat.le_of_ble_eq_true rfl) (by decide +kernel) (fun q7 H1 Wl => ?_)
  replace Wl : mkW D cs A s ([(a, .inr (8, [.null, .null, .ref q0, .ref q1, .ref q2, .ref q3, .ref q4, .ref q5, .ref q6, .null, .null, .int 0])), (q0, aI cs 5), (q1, aI cs 5), (q2, aI cs 5), (q3, aI cs 5), (q4, aI cs 5), (q5, aI cs 5), (q6, aI cs 25), (q7, aI cs 20)]) _ _ := Wl
  refine mk_put (p1 := 2523) (idx := 33) (ty := .array .int) (v := .ref q7) C hm Wl (ci := 8) (by decide) rfl 0 rfl 9 (by decide) (by decide +kernel) rfl (by decide +kernel) rfl rfl (Nat.le_of_ble_eq_true rfl) (by decide +kernel) (fun H1 locs1 Wl => ?_)
  replace Wl : mkW D cs A s ([(a, .inr (8, [.null, .null, .ref q0, .ref q1, .ref q2, .ref q3, .ref q4, .ref q5, .ref q6, .ref q7, .null, .int 0])), (q0, aI cs 5), (q1, aI cs 5), (q2, aI cs 5), (q3, aI cs 5), (q4, aI cs 5), (q5, aI cs 5), (q6, aI cs 25), (q7, aI cs 20)]) _ _ := Wl
  refine lv_aload_n hx hb (k := 0) (i := 0) (by decide +kernel) rfl (lv_at hl 0 rfl) ?_
  refine lv_bipush hx hb (n := 20) (v := Int32.ofInt 20) (by decide +kernel) (by decide +kernel) ?_
  refine mk_arr (N := 20) (nm := 20) (c2 := 9) (s2 := 95) C Wl (nn_ok (z := 20) (by decide) (by decide)).1 (nn_ok (z := 20) (by decide) (by decide)).2 (Nat.le_of_ble_eq_true rfl) (Nat.le_of_ble_eq_true rfl) (Nat.le_of_ble_eq_true rfl) (Nat.le_of_ble_eq_true rfl) (Nat.le_of_ble_eq_true rfl) (Nat.le_of_ble_eq_true rfl) (by decide +kernel) (fun q8 H1 Wl => ?_)
  replace Wl : mkW D cs A s ([(a, .inr (8, [.null, .null, .ref q0, .ref q1, .ref q2, .ref q3, .ref q4, .ref q5, .ref q6, .ref q7, .null, .int 0])), (q0, aI cs 5), (q1, aI cs 5), (q2, aI cs 5), (q3, aI cs 5), (q4, aI cs 5), (q5, aI cs 5), (q6, aI cs 25), (q7, aI cs 20), (q8, aI cs 20)]) _ _ := Wl
  refine mk_put (p1 := 2524) (idx := 36) (ty := .array .int) (v := .ref q8) C hm Wl (ci := 8) (by decide) rfl 0 rfl 10 (by decide) (by decide +kernel) rfl (by decide +kernel) rfl rfl (Nat.le_of_ble_eq_true rfl) (by decide +kernel) (fun H1 locs1 Wl => ?_)
  replace Wl : mkW D cs A s ([(a, .inr (8, [.null, .null, .ref q0, .ref q1, .ref q2, .ref q3, .ref q4, .ref q5, .ref q6, .ref q7, .ref q8, .int 0])), (q0, aI cs 5), (q1, aI cs 5), (q2, aI cs 5), (q3, aI cs 5), (q4, aI cs 5), (q5, aI cs 5), (q6, aI cs 25), (q7, aI cs 20), (q8, aI cs 20)]) _ _ := Wl
  refine lv_aload_n hx hb (k := 0) (i := 0) (by decide +kernel) rfl (lv_at hl 0 rfl) ?_
  refine lv_aload_n hx hb (k := 1) (i := 1) (by decide +kernel) rfl (lv_at hl 1 rfl) ?_
  refine mk_put (p1 := 2514) (idx := 39) (ty := .object "CellRows$Wire") (v := .ref w) C hm Wl (ci := 8) (by decide) rfl 0 rfl 0 (by decide) (by decide +kernel) rfl (by decide +kernel) rfl rfl (Nat.le_of_ble_eq_true rfl) (by decide +kernel) (fun H1 locs1 Wl => ?_)
  replace Wl : mkW D cs A s ([(a, .inr (8, [.ref w, .null, .ref q0, .ref q1, .ref q2, .ref q3, .ref q4, .ref q5, .ref q6, .ref q7, .ref q8, .int 0])), (q0, aI cs 5), (q1, aI cs 5), (q2, aI cs 5), (q3, aI cs 5), (q4, aI cs 5), (q5, aI cs 5), (q6, aI cs 25), (q7, aI cs 20), (q8, aI cs 20)]) _ _ := Wl
  refine lv_aload_n hx hb (k := 0) (i := 0) (by decide +kernel) rfl (lv_at hl 0 rfl) ?_
  refine lv_aload_n hx hb (k := 2) (i := 2) (by decide +kernel) rfl (lv_at hl 2 rfl) ?_
  refine mk_put (p1 := 2515) (idx := 43) (ty := .object "CellRows$Ground") (v := .ref g) C hm Wl (ci := 8) (by decide) rfl 0 rfl 1 (by decide) (by decide +kernel) rfl (by decide +kernel) rfl rfl (Nat.le_of_ble_eq_true rfl) (by decide +kernel) (fun H1 locs1 Wl => ?_)
  replace Wl : mkW D cs A s ([(a, .inr (8, [.ref w, .ref g, .ref q0, .ref q1, .ref q2, .ref q3, .ref q4, .ref q5, .ref q6, .ref q7, .ref q8, .int 0])), (q0, aI cs 5), (q1, aI cs 5), (q2, aI cs 5), (q3, aI cs 5), (q4, aI cs 5), (q5, aI cs 5), (q6, aI cs 25), (q7, aI cs 20), (q8, aI cs 20)]) _ _ := Wl
  exact fin _ _ (fun k => [a, q0, q1, q2, q3, q4, q5, q6, q7, q8].getD k 0) _ _ Wl rfl (by decide +kernel)
