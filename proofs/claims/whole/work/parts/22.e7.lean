section RUL
variable {X : xL} {ls : List (Option xV)} {st : List xV} {h : xH} {Q : Option xV → xH → Prop}
-- 263: CellRowsModel.draw(I)I
theorem e_263_0 : Ev X 263 0 ls st h Q ↔ onR (gl ls 0) (fun z => Ev X 263 1 ls (vr z :: st) h Q) := R_al rfl (Or.inl rfl)
theorem e_263_1 : Ev X 263 1 ls st h Q ↔ onR (gl ls 0) (fun z => Ev X 263 2 ls (vr z :: st) h Q) := R_al rfl (Or.inl rfl)
theorem e_263_2 {x : Nat} : Ev X 263 2 ls (vr x :: st) h Q ↔ (X.1 x = 12 ∧ Ev X 263 3 ls (vl (h.2 x 35) :: st) h Q) := R_gl rfl
theorem e_263_3 : Ev X 263 3 ls st h Q ↔ Ev X 263 4 ls (vl 1103 :: st) h Q := R_lc rfl ⟨Or.inr rfl, by decide⟩
theorem e_263_4 {x y : Int} : Ev X 263 4 ls (vl y :: vl x :: st) h Q ↔ ((inL (x * y)) ∧ Ev X 263 5 ls (vl (x * y) :: st) h Q) := R_lmul rfl
theorem e_263_5 : Ev X 263 5 ls st h Q ↔ Ev X 263 6 ls (vl 12345 :: st) h Q := R_lc rfl ⟨Or.inr rfl, by decide⟩
theorem e_263_6 {x y : Int} : Ev X 263 6 ls (vl y :: vl x :: st) h Q ↔ ((inL (x + y)) ∧ Ev X 263 7 ls (vl (x + y) :: st) h Q) := R_ladd rfl
theorem e_263_7 : Ev X 263 7 ls st h Q ↔ Ev X 263 8 ls (vl 1000003 :: st) h Q := R_lc rfl ⟨Or.inr rfl, by decide⟩
theorem e_263_8 {x y : Int} : Ev X 263 8 ls (vl y :: vl x :: st) h Q ↔ ((y ≠ 0 ∧ inL (x.tdiv y)) ∧ Ev X 263 9 ls (vl (x.tmod y) :: st) h Q) := R_lrem rfl
theorem e_263_9 {x : Nat} {v : Int} : Ev X 263 9 ls (vl v :: vr x :: st) h Q ↔ (X.1 x = 12 ∧ Ev X 263 10 ls st (h.1, up2 h.2 x 35 v) Q) := R_pl rfl
theorem e_263_10 : Ev X 263 10 ls st h Q ↔ onR (gl ls 0) (fun z => Ev X 263 11 ls (vr z :: st) h Q) := R_al rfl (Or.inl rfl)
theorem e_263_11 {x : Nat} : Ev X 263 11 ls (vr x :: st) h Q ↔ (X.1 x = 12 ∧ Ev X 263 12 ls (vl (h.2 x 35) :: st) h Q) := R_gl rfl
theorem e_263_12 : Ev X 263 12 ls st h Q ↔ onI (gl ls 1) (fun z => Ev X 263 13 ls (vi z :: st) h Q) := R_il rfl (Or.inl rfl)
theorem e_263_13 {x : Int} : Ev X 263 13 ls (vi x :: st) h Q ↔ Ev X 263 14 ls (vl x :: st) h Q := R_i2l rfl
theorem e_263_14 {x y : Int} : Ev X 263 14 ls (vl y :: vl x :: st) h Q ↔ ((y ≠ 0 ∧ inL (x.tdiv y)) ∧ Ev X 263 15 ls (vl (x.tmod y) :: st) h Q) := R_lrem rfl
theorem e_263_15 {x : Int} : Ev X 263 15 ls (vl x :: st) h Q ↔ (inR x ∧ Ev X 263 16 ls (vi x :: st) h Q) := R_l2i rfl
theorem e_263_16 {z : Int} : Ev X 263 16 ls [vi z] h Q ↔ Q (some (vi z)) h := R_ir rfl
-- 264: CellRowsModel.shake(III)I
theorem e_264_0 : Ev X 264 0 ls st h Q ↔ onR (gl ls 0) (fun z => Ev X 264 1 ls (vr z :: st) h Q) := R_al rfl (Or.inl rfl)
theorem e_264_1 : Ev X 264 1 ls st h Q ↔ Ev X 264 2 ls (vi 0 :: st) h Q := R_kc rfl (Or.inl ⟨Or.inl rfl, by decide⟩)
theorem e_264_2 {x : Nat} {v : Int} : Ev X 264 2 ls (vi v :: vr x :: st) h Q ↔ (X.1 x = 12 ∧ Ev X 264 3 ls st (h.1, up2 h.2 x 0 v) Q) := R_pi rfl
theorem e_264_3 : Ev X 264 3 ls st h Q ↔ onI (gl ls 1) (fun z => Ev X 264 4 ls (vi z :: st) h Q) := R_il rfl (Or.inl rfl)
theorem e_264_4 {x : Int} : Ev X 264 4 ls (vi x :: st) h Q ↔ Ev X 264 5 ls (vl x :: st) h Q := R_i2l rfl
theorem e_264_5 : Ev X 264 5 ls st h Q ↔ Ev X 264 6 ls (vl 0 :: st) h Q := R_lc rfl ⟨Or.inl rfl, by decide⟩
theorem e_264_6 : Ev X 264 6 ls st h Q ↔ Ev X 264 7 ls (vl 1000000 :: st) h Q := R_lc rfl ⟨Or.inr rfl, by decide⟩
theorem e_264_7 {rest : List xV} {a0 : Int} {a1 : Int} {a2 : Int} : Ev X 264 7 ls ((vl a2) :: (vl a1) :: (vl a0) :: rest) h Q ↔ (wd rest ≤ 8 ∧ Cl X 149 [vl a0, vl a1, vl a2] h (fun r h2 => Ev X 264 8 ls (r.toList ++ rest) h2 Q)) := R_cs (as := [vl a0, vl a1, vl a2]) (k2 := 149) rfl rfl (Nat.le_of_ble_eq_true rfl)
theorem e_264_8 {x : Int} : Ev X 264 8 ls (vi x :: st) h Q ↔ (if x = 0 then Ev X 264 21 ls st h Q else Ev X 264 9 ls st h Q) := R_ifeq rfl
theorem e_264_9 : Ev X 264 9 ls st h Q ↔ onI (gl ls 2) (fun z => Ev X 264 10 ls (vi z :: st) h Q) := R_il rfl (Or.inl rfl)
theorem e_264_10 {x : Int} : Ev X 264 10 ls (vi x :: st) h Q ↔ Ev X 264 11 ls (vl x :: st) h Q := R_i2l rfl
theorem e_264_11 : Ev X 264 11 ls st h Q ↔ Ev X 264 12 ls (vl 1 :: st) h Q := R_lc rfl ⟨Or.inl rfl, by decide⟩
theorem e_264_12 : Ev X 264 12 ls st h Q ↔ Ev X 264 13 ls (vl 60 :: st) h Q := R_lc rfl ⟨Or.inr rfl, by decide⟩
theorem e_264_13 {rest : List xV} {a0 : Int} {a1 : Int} {a2 : Int} : Ev X 264 13 ls ((vl a2) :: (vl a1) :: (vl a0) :: rest) h Q ↔ (wd rest ≤ 8 ∧ Cl X 149 [vl a0, vl a1, vl a2] h (fun r h2 => Ev X 264 14 ls (r.toList ++ rest) h2 Q)) := R_cs (as := [vl a0, vl a1, vl a2]) (k2 := 149) rfl rfl (Nat.le_of_ble_eq_true rfl)
theorem e_264_14 {x : Int} : Ev X 264 14 ls (vi x :: st) h Q ↔ (if x = 0 then Ev X 264 21 ls st h Q else Ev X 264 15 ls st h Q) := R_ifeq rfl
theorem e_264_15 : Ev X 264 15 ls st h Q ↔ onI (gl ls 3) (fun z => Ev X 264 16 ls (vi z :: st) h Q) := R_il rfl (Or.inl rfl)
theorem e_264_16 {x : Int} : Ev X 264 16 ls (vi x :: st) h Q ↔ Ev X 264 17 ls (vl x :: st) h Q := R_i2l rfl
theorem e_264_17 : Ev X 264 17 ls st h Q ↔ Ev X 264 18 ls (vl 0 :: st) h Q := R_lc rfl ⟨Or.inl rfl, by decide⟩
theorem e_264_18 : Ev X 264 18 ls st h Q ↔ Ev X 264 19 ls (vl 9999 :: st) h Q := R_lc rfl ⟨Or.inr rfl, by decide⟩
theorem e_264_19 {rest : List xV} {a0 : Int} {a1 : Int} {a2 : Int} : Ev X 264 19 ls ((vl a2) :: (vl a1) :: (vl a0) :: rest) h Q ↔ (wd rest ≤ 8 ∧ Cl X 149 [vl a0, vl a1, vl a2] h (fun r h2 => Ev X 264 20 ls (r.toList ++ rest) h2 Q)) := R_cs (as := [vl a0, vl a1, vl a2]) (k2 := 149) rfl rfl (Nat.le_of_ble_eq_true rfl)
theorem e_264_20 {x : Int} : Ev X 264 20 ls (vi x :: st) h Q ↔ (if ¬ x = 0 then Ev X 264 25 ls st h Q else Ev X 264 21 ls st h Q) := R_ifne rfl
theorem e_264_21 : Ev X 264 21 ls st h Q ↔ onR (gl ls 0) (fun z => Ev X 264 22 ls (vr z :: st) h Q) := R_al rfl (Or.inl rfl)
theorem e_264_22 : Ev X 264 22 ls st h Q ↔ Ev X 264 23 ls (vi (-1) :: st) h Q := R_kc rfl (Or.inl ⟨Or.inl rfl, by decide⟩)
theorem e_264_23 {rest : List xV} {a0 : Int} {o : Nat} : Ev X 264 23 ls ((vi a0) :: vr o :: rest) h Q ↔ ((X.1 o = 12 ∧ wd rest ≤ 8) ∧ Cl X 154 [vr o, vi a0] h (fun r h2 => Ev X 264 24 ls (r.toList ++ rest) h2 Q)) := R_cv (x := o) (as := [vi a0]) (k2 := 154) rfl rfl (Nat.le_of_ble_eq_true rfl)
theorem e_264_24 {z : Int} : Ev X 264 24 ls [vi z] h Q ↔ Q (some (vi z)) h := R_ir rfl
theorem e_264_25 : Ev X 264 25 ls st h Q ↔ onR (gl ls 0) (fun z => Ev X 264 26 ls (vr z :: st) h Q) := R_al rfl (Or.inl rfl)
theorem e_264_26 {x : Nat} : Ev X 264 26 ls (vr x :: st) h Q ↔ (X.1 x = 12 ∧ Ev X 264 27 ls (vr (X.2.2.1 x 6) :: st) h Q) := R_gr rfl
theorem e_264_27 : Ev X 264 27 ls st h Q ↔ Ev X 264 28 ls (vi 2 :: st) h Q := R_kc rfl (Or.inl ⟨Or.inl rfl, by decide⟩)
theorem e_264_28 {x : Nat} {j : Int} : Ev X 264 28 ls (vi j :: vr x :: st) h Q ↔ (((X.1 x = 13 ∨ X.1 x = 20) ∧ 0 ≤ j ∧ j < X.2.1 x) ∧ Ev X 264 29 ls (vi (h.1 x j.toNat) :: st) h Q) := R_ia rfl
theorem e_264_29 {x : Int} : Ev X 264 29 ls (vi x :: st) h Q ↔ (if ¬ x = 0 then Ev X 264 34 ls st h Q else Ev X 264 30 ls st h Q) := R_ifne rfl
theorem e_264_30 : Ev X 264 30 ls st h Q ↔ onR (gl ls 0) (fun z => Ev X 264 31 ls (vr z :: st) h Q) := R_al rfl (Or.inl rfl)
theorem e_264_31 : Ev X 264 31 ls st h Q ↔ Ev X 264 32 ls (vi (-4) :: st) h Q := R_kc rfl (Or.inr (Or.inl ⟨rfl, by decide⟩))
theorem e_264_32 {rest : List xV} {a0 : Int} {o : Nat} : Ev X 264 32 ls ((vi a0) :: vr o :: rest) h Q ↔ ((X.1 o = 12 ∧ wd rest ≤ 8) ∧ Cl X 154 [vr o, vi a0] h (fun r h2 => Ev X 264 33 ls (r.toList ++ rest) h2 Q)) := R_cv (x := o) (as := [vi a0]) (k2 := 154) rfl rfl (Nat.le_of_ble_eq_true rfl)
theorem e_264_33 {z : Int} : Ev X 264 33 ls [vi z] h Q ↔ Q (some (vi z)) h := R_ir rfl
theorem e_264_34 : Ev X 264 34 ls st h Q ↔ onR (gl ls 0) (fun z => Ev X 264 35 ls (vr z :: st) h Q) := R_al rfl (Or.inl rfl)
theorem e_264_35 : Ev X 264 35 ls st h Q ↔ Ev X 264 36 ls (vi 17 :: st) h Q := R_kc rfl (Or.inr (Or.inl ⟨rfl, by decide⟩))
theorem e_264_36 {rest : List xV} {a0 : Int} {o : Nat} : Ev X 264 36 ls ((vi a0) :: vr o :: rest) h Q ↔ ((X.1 o = 12 ∧ wd rest ≤ 8) ∧ Cl X 156 [vr o, vi a0] h (fun r h2 => Ev X 264 37 ls (r.toList ++ rest) h2 Q)) := R_cv (x := o) (as := [vi a0]) (k2 := 156) rfl rfl (Nat.le_of_ble_eq_true rfl)
theorem e_264_37 : Ev X 264 37 ls st h Q ↔ onR (gl ls 0) (fun z => Ev X 264 38 ls (vr z :: st) h Q) := R_al rfl (Or.inl rfl)
theorem e_264_38 : Ev X 264 38 ls st h Q ↔ onI (gl ls 1) (fun z => Ev X 264 39 ls (vi z :: st) h Q) := R_il rfl (Or.inl rfl)
theorem e_264_39 {x : Int} : Ev X 264 39 ls (vi x :: st) h Q ↔ Ev X 264 40 ls (vl x :: st) h Q := R_i2l rfl
theorem e_264_40 {x : Nat} {v : Int} : Ev X 264 40 ls (vl v :: vr x :: st) h Q ↔ (X.1 x = 12 ∧ Ev X 264 41 ls st (h.1, up2 h.2 x 35 v) Q) := R_pl rfl
theorem e_264_41 : Ev X 264 41 ls st h Q ↔ onI (gl ls 3) (fun z => Ev X 264 42 ls (vi z :: st) h Q) := R_il rfl (Or.inl rfl)
theorem e_264_42 {x : Int} : Ev X 264 42 ls (vi x :: st) h Q ↔ (stOK ls 4 = true ∧ Ev X 264 43 (ls.set 4 (some (vi x))) st h Q) := R_is rfl (Or.inr rfl)
theorem e_264_43 : Ev X 264 43 ls st h Q ↔ onR (gl ls 0) (fun z => Ev X 264 44 ls (vr z :: st) h Q) := R_al rfl (Or.inl rfl)
theorem e_264_44 {rest : List xV}  {o : Nat} : Ev X 264 44 ls (vr o :: rest) h Q ↔ ((X.1 o = 12 ∧ wd rest ≤ 8) ∧ Cl X 206 [vr o] h (fun r h2 => Ev X 264 45 ls (r.toList ++ rest) h2 Q)) := R_cv (x := o) (as := []) (k2 := 206) rfl rfl (Nat.le_of_ble_eq_true rfl)
theorem e_264_45 {x : Int} : Ev X 264 45 ls (vi x :: st) h Q ↔ (stOK ls 5 = true ∧ Ev X 264 46 (ls.set 5 (some (vi x))) st h Q) := R_is rfl (Or.inr rfl)
theorem e_264_46 : Ev X 264 46 ls st h Q ↔ onI (gl ls 5) (fun z => Ev X 264 47 ls (vi z :: st) h Q) := R_il rfl (Or.inr rfl)
theorem e_264_47 {x : Int} : Ev X 264 47 ls (vi x :: st) h Q ↔ (stOK ls 6 = true ∧ Ev X 264 48 (ls.set 6 (some (vi x))) st h Q) := R_is rfl (Or.inr rfl)
theorem e_264_48 : Ev X 264 48 ls st h Q ↔ onR (gl ls 0) (fun z => Ev X 264 49 ls (vr z :: st) h Q) := R_al rfl (Or.inl rfl)
theorem e_264_49 {x : Nat} : Ev X 264 49 ls (vr x :: st) h Q ↔ (X.1 x = 12 ∧ Ev X 264 50 ls (vr (X.2.2.1 x 6) :: st) h Q) := R_gr rfl
theorem e_264_50 : Ev X 264 50 ls st h Q ↔ Ev X 264 51 ls (vi 0 :: st) h Q := R_kc rfl (Or.inl ⟨Or.inl rfl, by decide⟩)
theorem e_264_51 : Ev X 264 51 ls st h Q ↔ onR (gl ls 0) (fun z => Ev X 264 52 ls (vr z :: st) h Q) := R_al rfl (Or.inl rfl)
theorem e_264_52 {x : Nat} : Ev X 264 52 ls (vr x :: st) h Q ↔ (X.1 x = 12 ∧ Ev X 264 53 ls (vr (X.2.2.1 x 11) :: st) h Q) := R_gr rfl
theorem e_264_53 : Ev X 264 53 ls st h Q ↔ Ev X 264 54 ls (vi 0 :: st) h Q := R_kc rfl (Or.inl ⟨Or.inl rfl, by decide⟩)
theorem e_264_54 {rest : List xV} {a0 : Nat} {a1 : Int} {a2 : Nat} {a3 : Int} : Ev X 264 54 ls ((vi a3) :: (vr a2) :: (vi a1) :: (vr a0) :: rest) h Q ↔ (wd rest ≤ 8 ∧ Cl X 155 [vr a0, vi a1, vr a2, vi a3] h (fun r h2 => Ev X 264 55 ls (r.toList ++ rest) h2 Q)) := R_cs (as := [vr a0, vi a1, vr a2, vi a3]) (k2 := 155) rfl rfl (Nat.le_of_ble_eq_true rfl)
theorem e_264_55 : Ev X 264 55 ls st h Q ↔ Ev X 264 56 ls (vi 0 :: st) h Q := R_kc rfl (Or.inl ⟨Or.inl rfl, by decide⟩)
theorem e_264_56 {x : Int} : Ev X 264 56 ls (vi x :: st) h Q ↔ (stOK ls 7 = true ∧ Ev X 264 57 (ls.set 7 (some (vi x))) st h Q) := R_is rfl (Or.inr rfl)
theorem e_264_57 : Ev X 264 57 ls st h Q ↔ onI (gl ls 7) (fun z => Ev X 264 58 ls (vi z :: st) h Q) := R_il rfl (Or.inr rfl)
theorem e_264_58 : Ev X 264 58 ls st h Q ↔ onI (gl ls 2) (fun z => Ev X 264 59 ls (vi z :: st) h Q) := R_il rfl (Or.inl rfl)
theorem e_264_59 {x y : Int} : Ev X 264 59 ls (vi y :: vi x :: st) h Q ↔ (if y ≤ x then Ev X 264 121 ls st h Q else Ev X 264 60 ls st h Q) := R_icge rfl
theorem e_264_60 : Ev X 264 60 ls st h Q ↔ onR (gl ls 0) (fun z => Ev X 264 61 ls (vr z :: st) h Q) := R_al rfl (Or.inl rfl)
theorem e_264_61 : Ev X 264 61 ls st h Q ↔ onR (gl ls 0) (fun z => Ev X 264 62 ls (vr z :: st) h Q) := R_al rfl (Or.inl rfl)
theorem e_264_62 {x : Nat} : Ev X 264 62 ls (vr x :: st) h Q ↔ (X.1 x = 12 ∧ Ev X 264 63 ls (vr (X.2.2.1 x 6) :: st) h Q) := R_gr rfl
theorem e_264_63 : Ev X 264 63 ls st h Q ↔ Ev X 264 64 ls (vi 2 :: st) h Q := R_kc rfl (Or.inl ⟨Or.inl rfl, by decide⟩)
theorem e_264_64 {x : Nat} {j : Int} : Ev X 264 64 ls (vi j :: vr x :: st) h Q ↔ (((X.1 x = 13 ∨ X.1 x = 20) ∧ 0 ≤ j ∧ j < X.2.1 x) ∧ Ev X 264 65 ls (vi (h.1 x j.toNat) :: st) h Q) := R_ia rfl
theorem e_264_65 {rest : List xV} {a0 : Int} {o : Nat} : Ev X 264 65 ls ((vi a0) :: vr o :: rest) h Q ↔ ((X.1 o = 12 ∧ wd rest ≤ 8) ∧ Cl X 263 [vr o, vi a0] h (fun r h2 => Ev X 264 66 ls (r.toList ++ rest) h2 Q)) := R_cv (x := o) (as := [vi a0]) (k2 := 263) rfl rfl (Nat.le_of_ble_eq_true rfl)
theorem e_264_66 {x : Int} : Ev X 264 66 ls (vi x :: st) h Q ↔ (stOK ls 8 = true ∧ Ev X 264 67 (ls.set 8 (some (vi x))) st h Q) := R_is rfl (Or.inr rfl)
theorem e_264_67 : Ev X 264 67 ls st h Q ↔ onR (gl ls 0) (fun z => Ev X 264 68 ls (vr z :: st) h Q) := R_al rfl (Or.inl rfl)
theorem e_264_68 : Ev X 264 68 ls st h Q ↔ onR (gl ls 0) (fun z => Ev X 264 69 ls (vr z :: st) h Q) := R_al rfl (Or.inl rfl)
theorem e_264_69 {x : Nat} : Ev X 264 69 ls (vr x :: st) h Q ↔ (X.1 x = 12 ∧ Ev X 264 70 ls (vr (X.2.2.1 x 6) :: st) h Q) := R_gr rfl
theorem e_264_70 : Ev X 264 70 ls st h Q ↔ Ev X 264 71 ls (vi 2 :: st) h Q := R_kc rfl (Or.inl ⟨Or.inl rfl, by decide⟩)
theorem e_264_71 {x : Nat} {j : Int} : Ev X 264 71 ls (vi j :: vr x :: st) h Q ↔ (((X.1 x = 13 ∨ X.1 x = 20) ∧ 0 ≤ j ∧ j < X.2.1 x) ∧ Ev X 264 72 ls (vi (h.1 x j.toNat) :: st) h Q) := R_ia rfl
theorem e_264_72 {rest : List xV} {a0 : Int} {o : Nat} : Ev X 264 72 ls ((vi a0) :: vr o :: rest) h Q ↔ ((X.1 o = 12 ∧ wd rest ≤ 8) ∧ Cl X 263 [vr o, vi a0] h (fun r h2 => Ev X 264 73 ls (r.toList ++ rest) h2 Q)) := R_cv (x := o) (as := [vi a0]) (k2 := 263) rfl rfl (Nat.le_of_ble_eq_true rfl)
theorem e_264_73 {x : Int} : Ev X 264 73 ls (vi x :: st) h Q ↔ (stOK ls 9 = true ∧ Ev X 264 74 (ls.set 9 (some (vi x))) st h Q) := R_is rfl (Or.inr rfl)
theorem e_264_74 : Ev X 264 74 ls st h Q ↔ onI (gl ls 8) (fun z => Ev X 264 75 ls (vi z :: st) h Q) := R_il rfl (Or.inr rfl)
theorem e_264_75 : Ev X 264 75 ls st h Q ↔ onI (gl ls 9) (fun z => Ev X 264 76 ls (vi z :: st) h Q) := R_il rfl (Or.inr rfl)
theorem e_264_76 {x y : Int} : Ev X 264 76 ls (vi y :: vi x :: st) h Q ↔ (if x = y then Ev X 264 99 ls st h Q else Ev X 264 77 ls st h Q) := R_iceq rfl
theorem e_264_77 : Ev X 264 77 ls st h Q ↔ onR (gl ls 0) (fun z => Ev X 264 78 ls (vr z :: st) h Q) := R_al rfl (Or.inl rfl)
theorem e_264_78 : Ev X 264 78 ls st h Q ↔ onI (gl ls 8) (fun z => Ev X 264 79 ls (vi z :: st) h Q) := R_il rfl (Or.inr rfl)
theorem e_264_79 : Ev X 264 79 ls st h Q ↔ onI (gl ls 9) (fun z => Ev X 264 80 ls (vi z :: st) h Q) := R_il rfl (Or.inr rfl)
theorem e_264_80 {rest : List xV} {a0 : Int} {a1 : Int} {o : Nat} : Ev X 264 80 ls ((vi a1) :: (vi a0) :: vr o :: rest) h Q ↔ ((X.1 o = 12 ∧ wd rest ≤ 8) ∧ Cl X 253 [vr o, vi a0, vi a1] h (fun r h2 => Ev X 264 81 ls (r.toList ++ rest) h2 Q)) := R_cv (x := o) (as := [vi a0, vi a1]) (k2 := 253) rfl rfl (Nat.le_of_ble_eq_true rfl)
theorem e_264_81 {x : Int} : Ev X 264 81 ls (vi x :: st) h Q ↔ (if x = 0 then Ev X 264 99 ls st h Q else Ev X 264 82 ls st h Q) := R_ifeq rfl
theorem e_264_82 : Ev X 264 82 ls st h Q ↔ onR (gl ls 0) (fun z => Ev X 264 83 ls (vr z :: st) h Q) := R_al rfl (Or.inl rfl)
theorem e_264_83 {rest : List xV}  {o : Nat} : Ev X 264 83 ls (vr o :: rest) h Q ↔ ((X.1 o = 12 ∧ wd rest ≤ 8) ∧ Cl X 206 [vr o] h (fun r h2 => Ev X 264 84 ls (r.toList ++ rest) h2 Q)) := R_cv (x := o) (as := []) (k2 := 206) rfl rfl (Nat.le_of_ble_eq_true rfl)
theorem e_264_84 {x : Int} : Ev X 264 84 ls (vi x :: st) h Q ↔ (stOK ls 10 = true ∧ Ev X 264 85 (ls.set 10 (some (vi x))) st h Q) := R_is rfl (Or.inr rfl)
theorem e_264_85 : Ev X 264 85 ls st h Q ↔ onR (gl ls 0) (fun z => Ev X 264 86 ls (vr z :: st) h Q) := R_al rfl (Or.inl rfl)
theorem e_264_86 : Ev X 264 86 ls st h Q ↔ onI (gl ls 8) (fun z => Ev X 264 87 ls (vi z :: st) h Q) := R_il rfl (Or.inr rfl)
theorem e_264_87 : Ev X 264 87 ls st h Q ↔ onI (gl ls 9) (fun z => Ev X 264 88 ls (vi z :: st) h Q) := R_il rfl (Or.inr rfl)
theorem e_264_88 {rest : List xV} {a0 : Int} {a1 : Int} {o : Nat} : Ev X 264 88 ls ((vi a1) :: (vi a0) :: vr o :: rest) h Q ↔ ((X.1 o = 12 ∧ wd rest ≤ 8) ∧ Cl X 254 [vr o, vi a0, vi a1] h (fun r h2 => Ev X 264 89 ls (r.toList ++ rest) h2 Q)) := R_cv (x := o) (as := [vi a0, vi a1]) (k2 := 254) rfl rfl (Nat.le_of_ble_eq_true rfl)
theorem e_264_89 : Ev X 264 89 ls st h Q ↔ onR (gl ls 0) (fun z => Ev X 264 90 ls (vr z :: st) h Q) := R_al rfl (Or.inl rfl)
theorem e_264_90 {rest : List xV}  {o : Nat} : Ev X 264 90 ls (vr o :: rest) h Q ↔ ((X.1 o = 12 ∧ wd rest ≤ 8) ∧ Cl X 206 [vr o] h (fun r h2 => Ev X 264 91 ls (r.toList ++ rest) h2 Q)) := R_cv (x := o) (as := []) (k2 := 206) rfl rfl (Nat.le_of_ble_eq_true rfl)
theorem e_264_91 : Ev X 264 91 ls st h Q ↔ onI (gl ls 10) (fun z => Ev X 264 92 ls (vi z :: st) h Q) := R_il rfl (Or.inr rfl)
theorem e_264_92 : Ev X 264 92 ls st h Q ↔ onI (gl ls 4) (fun z => Ev X 264 93 ls (vi z :: st) h Q) := R_il rfl (Or.inr rfl)
theorem e_264_93 {x y : Int} : Ev X 264 93 ls (vi y :: vi x :: st) h Q ↔ ((inR (x + y)) ∧ Ev X 264 94 ls (vi (x + y) :: st) h Q) := R_add rfl
theorem e_264_94 {x y : Int} : Ev X 264 94 ls (vi y :: vi x :: st) h Q ↔ (if x ≤ y then Ev X 264 99 ls st h Q else Ev X 264 95 ls st h Q) := R_icle rfl
theorem e_264_95 : Ev X 264 95 ls st h Q ↔ onR (gl ls 0) (fun z => Ev X 264 96 ls (vr z :: st) h Q) := R_al rfl (Or.inl rfl)
theorem e_264_96 : Ev X 264 96 ls st h Q ↔ onI (gl ls 8) (fun z => Ev X 264 97 ls (vi z :: st) h Q) := R_il rfl (Or.inr rfl)
theorem e_264_97 : Ev X 264 97 ls st h Q ↔ onI (gl ls 9) (fun z => Ev X 264 98 ls (vi z :: st) h Q) := R_il rfl (Or.inr rfl)
theorem e_264_98 {rest : List xV} {a0 : Int} {a1 : Int} {o : Nat} : Ev X 264 98 ls ((vi a1) :: (vi a0) :: vr o :: rest) h Q ↔ ((X.1 o = 12 ∧ wd rest ≤ 8) ∧ Cl X 254 [vr o, vi a0, vi a1] h (fun r h2 => Ev X 264 99 ls (r.toList ++ rest) h2 Q)) := R_cv (x := o) (as := [vi a0, vi a1]) (k2 := 254) rfl rfl (Nat.le_of_ble_eq_true rfl)
theorem e_264_99 : Ev X 264 99 ls st h Q ↔ Ev X 264 100 ls (vi 7 :: st) h Q := R_kc rfl (Or.inr (Or.inl ⟨rfl, by decide⟩))
theorem e_264_100 : Ev X 264 100 ls st h Q ↔ onI (gl ls 4) (fun z => Ev X 264 101 ls (vi z :: st) h Q) := R_il rfl (Or.inr rfl)
theorem e_264_101 {x y : Int} : Ev X 264 101 ls (vi y :: vi x :: st) h Q ↔ ((inR (x * y)) ∧ Ev X 264 102 ls (vi (x * y) :: st) h Q) := R_mul rfl
theorem e_264_102 : Ev X 264 102 ls st h Q ↔ Ev X 264 103 ls (vi 8 :: st) h Q := R_kc rfl (Or.inr (Or.inl ⟨rfl, by decide⟩))
theorem e_264_103 {x y : Int} : Ev X 264 103 ls (vi y :: vi x :: st) h Q ↔ ((y ≠ 0 ∧ inR (x.tdiv y)) ∧ Ev X 264 104 ls (vi (x.tdiv y) :: st) h Q) := R_div rfl
theorem e_264_104 {x : Int} : Ev X 264 104 ls (vi x :: st) h Q ↔ (stOK ls 4 = true ∧ Ev X 264 105 (ls.set 4 (some (vi x))) st h Q) := R_is rfl (Or.inr rfl)
theorem e_264_105 : Ev X 264 105 ls st h Q ↔ onR (gl ls 0) (fun z => Ev X 264 106 ls (vr z :: st) h Q) := R_al rfl (Or.inl rfl)
theorem e_264_106 {rest : List xV}  {o : Nat} : Ev X 264 106 ls (vr o :: rest) h Q ↔ ((X.1 o = 12 ∧ wd rest ≤ 8) ∧ Cl X 206 [vr o] h (fun r h2 => Ev X 264 107 ls (r.toList ++ rest) h2 Q)) := R_cv (x := o) (as := []) (k2 := 206) rfl rfl (Nat.le_of_ble_eq_true rfl)
theorem e_264_107 : Ev X 264 107 ls st h Q ↔ onI (gl ls 6) (fun z => Ev X 264 108 ls (vi z :: st) h Q) := R_il rfl (Or.inr rfl)
theorem e_264_108 {x y : Int} : Ev X 264 108 ls (vi y :: vi x :: st) h Q ↔ (if y ≤ x then Ev X 264 119 ls st h Q else Ev X 264 109 ls st h Q) := R_icge rfl
theorem e_264_109 : Ev X 264 109 ls st h Q ↔ onR (gl ls 0) (fun z => Ev X 264 110 ls (vr z :: st) h Q) := R_al rfl (Or.inl rfl)
theorem e_264_110 {rest : List xV}  {o : Nat} : Ev X 264 110 ls (vr o :: rest) h Q ↔ ((X.1 o = 12 ∧ wd rest ≤ 8) ∧ Cl X 206 [vr o] h (fun r h2 => Ev X 264 111 ls (r.toList ++ rest) h2 Q)) := R_cv (x := o) (as := []) (k2 := 206) rfl rfl (Nat.le_of_ble_eq_true rfl)
theorem e_264_111 {x : Int} : Ev X 264 111 ls (vi x :: st) h Q ↔ (stOK ls 6 = true ∧ Ev X 264 112 (ls.set 6 (some (vi x))) st h Q) := R_is rfl (Or.inr rfl)
theorem e_264_112 : Ev X 264 112 ls st h Q ↔ onR (gl ls 0) (fun z => Ev X 264 113 ls (vr z :: st) h Q) := R_al rfl (Or.inl rfl)
theorem e_264_113 {x : Nat} : Ev X 264 113 ls (vr x :: st) h Q ↔ (X.1 x = 12 ∧ Ev X 264 114 ls (vr (X.2.2.1 x 6) :: st) h Q) := R_gr rfl
theorem e_264_114 : Ev X 264 114 ls st h Q ↔ Ev X 264 115 ls (vi 0 :: st) h Q := R_kc rfl (Or.inl ⟨Or.inl rfl, by decide⟩)
theorem e_264_115 : Ev X 264 115 ls st h Q ↔ onR (gl ls 0) (fun z => Ev X 264 116 ls (vr z :: st) h Q) := R_al rfl (Or.inl rfl)
theorem e_264_116 {x : Nat} : Ev X 264 116 ls (vr x :: st) h Q ↔ (X.1 x = 12 ∧ Ev X 264 117 ls (vr (X.2.2.1 x 11) :: st) h Q) := R_gr rfl
theorem e_264_117 : Ev X 264 117 ls st h Q ↔ Ev X 264 118 ls (vi 0 :: st) h Q := R_kc rfl (Or.inl ⟨Or.inl rfl, by decide⟩)
theorem e_264_118 {rest : List xV} {a0 : Nat} {a1 : Int} {a2 : Nat} {a3 : Int} : Ev X 264 118 ls ((vi a3) :: (vr a2) :: (vi a1) :: (vr a0) :: rest) h Q ↔ (wd rest ≤ 8 ∧ Cl X 155 [vr a0, vi a1, vr a2, vi a3] h (fun r h2 => Ev X 264 119 ls (r.toList ++ rest) h2 Q)) := R_cs (as := [vr a0, vi a1, vr a2, vi a3]) (k2 := 155) rfl rfl (Nat.le_of_ble_eq_true rfl)
theorem e_264_119 : Ev X 264 119 ls st h Q ↔ onI (gl ls 7) (fun x => (stOK ls 7 = true ∧ inR (x + 1)) ∧ Ev X 264 120 (ls.set 7 (some (vi (x + 1)))) st h Q) := R_inc rfl
theorem e_264_120 : Ev X 264 120 ls st h Q ↔ Ev X 264 57 ls st h Q := R_go rfl
theorem e_264_121 : Ev X 264 121 ls st h Q ↔ onR (gl ls 0) (fun z => Ev X 264 122 ls (vr z :: st) h Q) := R_al rfl (Or.inl rfl)
theorem e_264_122 {x : Nat} : Ev X 264 122 ls (vr x :: st) h Q ↔ (X.1 x = 12 ∧ Ev X 264 123 ls (vr (X.2.2.1 x 11) :: st) h Q) := R_gr rfl
theorem e_264_123 : Ev X 264 123 ls st h Q ↔ Ev X 264 124 ls (vi 0 :: st) h Q := R_kc rfl (Or.inl ⟨Or.inl rfl, by decide⟩)
theorem e_264_124 : Ev X 264 124 ls st h Q ↔ onR (gl ls 0) (fun z => Ev X 264 125 ls (vr z :: st) h Q) := R_al rfl (Or.inl rfl)
theorem e_264_125 {x : Nat} : Ev X 264 125 ls (vr x :: st) h Q ↔ (X.1 x = 12 ∧ Ev X 264 126 ls (vr (X.2.2.1 x 6) :: st) h Q) := R_gr rfl
theorem e_264_126 : Ev X 264 126 ls st h Q ↔ Ev X 264 127 ls (vi 0 :: st) h Q := R_kc rfl (Or.inl ⟨Or.inl rfl, by decide⟩)
theorem e_264_127 {rest : List xV} {a0 : Nat} {a1 : Int} {a2 : Nat} {a3 : Int} : Ev X 264 127 ls ((vi a3) :: (vr a2) :: (vi a1) :: (vr a0) :: rest) h Q ↔ (wd rest ≤ 8 ∧ Cl X 155 [vr a0, vi a1, vr a2, vi a3] h (fun r h2 => Ev X 264 128 ls (r.toList ++ rest) h2 Q)) := R_cs (as := [vr a0, vi a1, vr a2, vi a3]) (k2 := 155) rfl rfl (Nat.le_of_ble_eq_true rfl)
theorem e_264_128 : Ev X 264 128 ls st h Q ↔ onR (gl ls 0) (fun z => Ev X 264 129 ls (vr z :: st) h Q) := R_al rfl (Or.inl rfl)
theorem e_264_129 : Ev X 264 129 ls st h Q ↔ onI (gl ls 5) (fun z => Ev X 264 130 ls (vi z :: st) h Q) := R_il rfl (Or.inr rfl)
theorem e_264_130 : Ev X 264 130 ls st h Q ↔ onI (gl ls 6) (fun z => Ev X 264 131 ls (vi z :: st) h Q) := R_il rfl (Or.inr rfl)
theorem e_264_131 {x y : Int} : Ev X 264 131 ls (vi y :: vi x :: st) h Q ↔ ((inR (x - y)) ∧ Ev X 264 132 ls (vi (x - y) :: st) h Q) := R_sub rfl
theorem e_264_132 {rest : List xV} {a0 : Int} {o : Nat} : Ev X 264 132 ls ((vi a0) :: vr o :: rest) h Q ↔ ((X.1 o = 12 ∧ wd rest ≤ 8) ∧ Cl X 153 [vr o, vi a0] h (fun r h2 => Ev X 264 133 ls (r.toList ++ rest) h2 Q)) := R_cv (x := o) (as := [vi a0]) (k2 := 153) rfl rfl (Nat.le_of_ble_eq_true rfl)
theorem e_264_133 {z : Int} : Ev X 264 133 ls [vi z] h Q ↔ Q (some (vi z)) h := R_ir rfl
-- 265: CellRowsModel.cellOf(II)I
theorem e_265_0 : Ev X 265 0 ls st h Q ↔ onR (gl ls 0) (fun z => Ev X 265 1 ls (vr z :: st) h Q) := R_al rfl (Or.inl rfl)
theorem e_265_1 : Ev X 265 1 ls st h Q ↔ Ev X 265 2 ls (vi 0 :: st) h Q := R_kc rfl (Or.inl ⟨Or.inl rfl, by decide⟩)
theorem e_265_2 {x : Nat} {v : Int} : Ev X 265 2 ls (vi v :: vr x :: st) h Q ↔ (X.1 x = 12 ∧ Ev X 265 3 ls st (h.1, up2 h.2 x 0 v) Q) := R_pi rfl
theorem e_265_3 : Ev X 265 3 ls st h Q ↔ onR (gl ls 0) (fun z => Ev X 265 4 ls (vr z :: st) h Q) := R_al rfl (Or.inl rfl)
theorem e_265_4 : Ev X 265 4 ls st h Q ↔ onI (gl ls 1) (fun z => Ev X 265 5 ls (vi z :: st) h Q) := R_il rfl (Or.inl rfl)
theorem e_265_5 {rest : List xV} {a0 : Int} {o : Nat} : Ev X 265 5 ls ((vi a0) :: vr o :: rest) h Q ↔ ((X.1 o = 12 ∧ wd rest ≤ 8) ∧ Cl X 167 [vr o, vi a0] h (fun r h2 => Ev X 265 6 ls (r.toList ++ rest) h2 Q)) := R_cv (x := o) (as := [vi a0]) (k2 := 167) rfl rfl (Nat.le_of_ble_eq_true rfl)
theorem e_265_6 {x : Int} : Ev X 265 6 ls (vi x :: st) h Q ↔ (if ¬ x = 0 then Ev X 265 9 ls st h Q else Ev X 265 7 ls st h Q) := R_ifne rfl
theorem e_265_7 : Ev X 265 7 ls st h Q ↔ Ev X 265 8 ls (vi (-1) :: st) h Q := R_kc rfl (Or.inl ⟨Or.inl rfl, by decide⟩)
theorem e_265_8 {z : Int} : Ev X 265 8 ls [vi z] h Q ↔ Q (some (vi z)) h := R_ir rfl
theorem e_265_9 : Ev X 265 9 ls st h Q ↔ Ev X 265 10 ls (vi 0 :: st) h Q := R_kc rfl (Or.inl ⟨Or.inl rfl, by decide⟩)
theorem e_265_10 {x : Int} : Ev X 265 10 ls (vi x :: st) h Q ↔ (stOK ls 3 = true ∧ Ev X 265 11 (ls.set 3 (some (vi x))) st h Q) := R_is rfl (Or.inl rfl)
theorem e_265_11 : Ev X 265 11 ls st h Q ↔ Ev X 265 12 ls (vi 0 :: st) h Q := R_kc rfl (Or.inl ⟨Or.inl rfl, by decide⟩)
theorem e_265_12 {x : Int} : Ev X 265 12 ls (vi x :: st) h Q ↔ (stOK ls 4 = true ∧ Ev X 265 13 (ls.set 4 (some (vi x))) st h Q) := R_is rfl (Or.inr rfl)
theorem e_265_13 : Ev X 265 13 ls st h Q ↔ onI (gl ls 4) (fun z => Ev X 265 14 ls (vi z :: st) h Q) := R_il rfl (Or.inr rfl)
theorem e_265_14 : Ev X 265 14 ls st h Q ↔ onR (gl ls 0) (fun z => Ev X 265 15 ls (vr z :: st) h Q) := R_al rfl (Or.inl rfl)
theorem e_265_15 {x : Nat} : Ev X 265 15 ls (vr x :: st) h Q ↔ (X.1 x = 12 ∧ Ev X 265 16 ls (vr (X.2.2.1 x 6) :: st) h Q) := R_gr rfl
theorem e_265_16 : Ev X 265 16 ls st h Q ↔ Ev X 265 17 ls (vi 3 :: st) h Q := R_kc rfl (Or.inl ⟨Or.inl rfl, by decide⟩)
theorem e_265_17 {x : Nat} {j : Int} : Ev X 265 17 ls (vi j :: vr x :: st) h Q ↔ (((X.1 x = 13 ∨ X.1 x = 20) ∧ 0 ≤ j ∧ j < X.2.1 x) ∧ Ev X 265 18 ls (vi (h.1 x j.toNat) :: st) h Q) := R_ia rfl
theorem e_265_18 {x y : Int} : Ev X 265 18 ls (vi y :: vi x :: st) h Q ↔ (if y ≤ x then Ev X 265 33 ls st h Q else Ev X 265 19 ls st h Q) := R_icge rfl
theorem e_265_19 : Ev X 265 19 ls st h Q ↔ onI (gl ls 3) (fun z => Ev X 265 20 ls (vi z :: st) h Q) := R_il rfl (Or.inl rfl)
theorem e_265_20 : Ev X 265 20 ls st h Q ↔ onR (gl ls 0) (fun z => Ev X 265 21 ls (vr z :: st) h Q) := R_al rfl (Or.inl rfl)
theorem e_265_21 : Ev X 265 21 ls st h Q ↔ onI (gl ls 4) (fun z => Ev X 265 22 ls (vi z :: st) h Q) := R_il rfl (Or.inr rfl)
theorem e_265_22 : Ev X 265 22 ls st h Q ↔ onI (gl ls 1) (fun z => Ev X 265 23 ls (vi z :: st) h Q) := R_il rfl (Or.inl rfl)
theorem e_265_23 {rest : List xV} {a0 : Int} {a1 : Int} {o : Nat} : Ev X 265 23 ls ((vi a1) :: (vi a0) :: vr o :: rest) h Q ↔ ((X.1 o = 12 ∧ wd rest ≤ 8) ∧ Cl X 223 [vr o, vi a0, vi a1] h (fun r h2 => Ev X 265 24 ls (r.toList ++ rest) h2 Q)) := R_cv (x := o) (as := [vi a0, vi a1]) (k2 := 223) rfl rfl (Nat.le_of_ble_eq_true rfl)
theorem e_265_24 : Ev X 265 24 ls st h Q ↔ Ev X 265 25 ls (vi (-1) :: st) h Q := R_kc rfl (Or.inl ⟨Or.inl rfl, by decide⟩)
theorem e_265_25 {x y : Int} : Ev X 265 25 ls (vi y :: vi x :: st) h Q ↔ (if x = y then Ev X 265 28 ls st h Q else Ev X 265 26 ls st h Q) := R_iceq rfl
theorem e_265_26 : Ev X 265 26 ls st h Q ↔ Ev X 265 27 ls (vi 1 :: st) h Q := R_kc rfl (Or.inl ⟨Or.inl rfl, by decide⟩)
theorem e_265_27 : Ev X 265 27 ls st h Q ↔ Ev X 265 29 ls st h Q := R_go rfl
theorem e_265_28 : Ev X 265 28 ls st h Q ↔ Ev X 265 29 ls (vi 0 :: st) h Q := R_kc rfl (Or.inl ⟨Or.inl rfl, by decide⟩)
theorem e_265_29 {x y : Int} : Ev X 265 29 ls (vi y :: vi x :: st) h Q ↔ ((inR (x + y)) ∧ Ev X 265 30 ls (vi (x + y) :: st) h Q) := R_add rfl
theorem e_265_30 {x : Int} : Ev X 265 30 ls (vi x :: st) h Q ↔ (stOK ls 3 = true ∧ Ev X 265 31 (ls.set 3 (some (vi x))) st h Q) := R_is rfl (Or.inl rfl)
theorem e_265_31 : Ev X 265 31 ls st h Q ↔ onI (gl ls 4) (fun x => (stOK ls 4 = true ∧ inR (x + 1)) ∧ Ev X 265 32 (ls.set 4 (some (vi (x + 1)))) st h Q) := R_inc rfl
theorem e_265_32 : Ev X 265 32 ls st h Q ↔ Ev X 265 13 ls st h Q := R_go rfl
theorem e_265_33 : Ev X 265 33 ls st h Q ↔ onI (gl ls 2) (fun z => Ev X 265 34 ls (vi z :: st) h Q) := R_il rfl (Or.inl rfl)
theorem e_265_34 {x : Int} : Ev X 265 34 ls (vi x :: st) h Q ↔ Ev X 265 35 ls (vl x :: st) h Q := R_i2l rfl
theorem e_265_35 : Ev X 265 35 ls st h Q ↔ Ev X 265 36 ls (vl 0 :: st) h Q := R_lc rfl ⟨Or.inl rfl, by decide⟩
theorem e_265_36 : Ev X 265 36 ls st h Q ↔ Ev X 265 37 ls (vl 6 :: st) h Q := R_lc rfl ⟨Or.inr rfl, by decide⟩
theorem e_265_37 {rest : List xV} {a0 : Int} {a1 : Int} {a2 : Int} : Ev X 265 37 ls ((vl a2) :: (vl a1) :: (vl a0) :: rest) h Q ↔ (wd rest ≤ 8 ∧ Cl X 149 [vl a0, vl a1, vl a2] h (fun r h2 => Ev X 265 38 ls (r.toList ++ rest) h2 Q)) := R_cs (as := [vl a0, vl a1, vl a2]) (k2 := 149) rfl rfl (Nat.le_of_ble_eq_true rfl)
theorem e_265_38 {x : Int} : Ev X 265 38 ls (vi x :: st) h Q ↔ (if x = 0 then Ev X 265 47 ls st h Q else Ev X 265 39 ls st h Q) := R_ifeq rfl
theorem e_265_39 : Ev X 265 39 ls st h Q ↔ onR (gl ls 0) (fun z => Ev X 265 40 ls (vr z :: st) h Q) := R_al rfl (Or.inl rfl)
theorem e_265_40 {x : Nat} : Ev X 265 40 ls (vr x :: st) h Q ↔ (X.1 x = 12 ∧ Ev X 265 41 ls (vr (X.2.2.1 x 6) :: st) h Q) := R_gr rfl
theorem e_265_41 : Ev X 265 41 ls st h Q ↔ onI (gl ls 1) (fun z => Ev X 265 42 ls (vi z :: st) h Q) := R_il rfl (Or.inl rfl)
theorem e_265_42 {rest : List xV} {a0 : Int} : Ev X 265 42 ls ((vi a0) :: rest) h Q ↔ (wd rest ≤ 8 ∧ Cl X 158 [vi a0] h (fun r h2 => Ev X 265 43 ls (r.toList ++ rest) h2 Q)) := R_cs (as := [vi a0]) (k2 := 158) rfl rfl (Nat.le_of_ble_eq_true rfl)
theorem e_265_43 : Ev X 265 43 ls st h Q ↔ onI (gl ls 2) (fun z => Ev X 265 44 ls (vi z :: st) h Q) := R_il rfl (Or.inl rfl)
theorem e_265_44 {x y : Int} : Ev X 265 44 ls (vi y :: vi x :: st) h Q ↔ ((inR (x + y)) ∧ Ev X 265 45 ls (vi (x + y) :: st) h Q) := R_add rfl
theorem e_265_45 {x : Nat} {j : Int} : Ev X 265 45 ls (vi j :: vr x :: st) h Q ↔ (((X.1 x = 13 ∨ X.1 x = 20) ∧ 0 ≤ j ∧ j < X.2.1 x) ∧ Ev X 265 46 ls (vi (h.1 x j.toNat) :: st) h Q) := R_ia rfl
theorem e_265_46 : Ev X 265 46 ls st h Q ↔ Ev X 265 64 ls st h Q := R_go rfl
theorem e_265_47 : Ev X 265 47 ls st h Q ↔ onI (gl ls 2) (fun z => Ev X 265 48 ls (vi z :: st) h Q) := R_il rfl (Or.inl rfl)
theorem e_265_48 : Ev X 265 48 ls st h Q ↔ Ev X 265 49 ls (vi 7 :: st) h Q := R_kc rfl (Or.inr (Or.inl ⟨rfl, by decide⟩))
theorem e_265_49 {x y : Int} : Ev X 265 49 ls (vi y :: vi x :: st) h Q ↔ (if ¬ x = y then Ev X 265 52 ls st h Q else Ev X 265 50 ls st h Q) := R_icne rfl
theorem e_265_50 : Ev X 265 50 ls st h Q ↔ onI (gl ls 3) (fun z => Ev X 265 51 ls (vi z :: st) h Q) := R_il rfl (Or.inl rfl)
theorem e_265_51 : Ev X 265 51 ls st h Q ↔ Ev X 265 64 ls st h Q := R_go rfl
theorem e_265_52 : Ev X 265 52 ls st h Q ↔ onI (gl ls 2) (fun z => Ev X 265 53 ls (vi z :: st) h Q) := R_il rfl (Or.inl rfl)
theorem e_265_53 : Ev X 265 53 ls st h Q ↔ Ev X 265 54 ls (vi 8 :: st) h Q := R_kc rfl (Or.inr (Or.inl ⟨rfl, by decide⟩))
theorem e_265_54 {x y : Int} : Ev X 265 54 ls (vi y :: vi x :: st) h Q ↔ (if ¬ x = y then Ev X 265 63 ls st h Q else Ev X 265 55 ls st h Q) := R_icne rfl
theorem e_265_55 : Ev X 265 55 ls st h Q ↔ onR (gl ls 0) (fun z => Ev X 265 56 ls (vr z :: st) h Q) := R_al rfl (Or.inl rfl)
theorem e_265_56 : Ev X 265 56 ls st h Q ↔ onI (gl ls 1) (fun z => Ev X 265 57 ls (vi z :: st) h Q) := R_il rfl (Or.inl rfl)
theorem e_265_57 {rest : List xV} {a0 : Int} {o : Nat} : Ev X 265 57 ls ((vi a0) :: vr o :: rest) h Q ↔ ((X.1 o = 12 ∧ wd rest ≤ 8) ∧ Cl X 163 [vr o, vi a0] h (fun r h2 => Ev X 265 58 ls (r.toList ++ rest) h2 Q)) := R_cv (x := o) (as := [vi a0]) (k2 := 163) rfl rfl (Nat.le_of_ble_eq_true rfl)
theorem e_265_58 {x : Int} : Ev X 265 58 ls (vi x :: st) h Q ↔ (if x = 0 then Ev X 265 63 ls st h Q else Ev X 265 59 ls st h Q) := R_ifeq rfl
theorem e_265_59 : Ev X 265 59 ls st h Q ↔ onR (gl ls 0) (fun z => Ev X 265 60 ls (vr z :: st) h Q) := R_al rfl (Or.inl rfl)
theorem e_265_60 : Ev X 265 60 ls st h Q ↔ onI (gl ls 1) (fun z => Ev X 265 61 ls (vi z :: st) h Q) := R_il rfl (Or.inl rfl)
theorem e_265_61 {rest : List xV} {a0 : Int} {o : Nat} : Ev X 265 61 ls ((vi a0) :: vr o :: rest) h Q ↔ ((X.1 o = 12 ∧ wd rest ≤ 8) ∧ Cl X 220 [vr o, vi a0] h (fun r h2 => Ev X 265 62 ls (r.toList ++ rest) h2 Q)) := R_cv (x := o) (as := [vi a0]) (k2 := 220) rfl rfl (Nat.le_of_ble_eq_true rfl)
theorem e_265_62 : Ev X 265 62 ls st h Q ↔ Ev X 265 64 ls st h Q := R_go rfl
theorem e_265_63 : Ev X 265 63 ls st h Q ↔ Ev X 265 64 ls (vi (-1) :: st) h Q := R_kc rfl (Or.inl ⟨Or.inl rfl, by decide⟩)
theorem e_265_64 {z : Int} : Ev X 265 64 ls [vi z] h Q ↔ Q (some (vi z)) h := R_ir rfl
-- 266: CellRowsModel.netOf(II)I
theorem e_266_0 : Ev X 266 0 ls st h Q ↔ onR (gl ls 0) (fun z => Ev X 266 1 ls (vr z :: st) h Q) := R_al rfl (Or.inl rfl)
theorem e_266_1 : Ev X 266 1 ls st h Q ↔ Ev X 266 2 ls (vi 0 :: st) h Q := R_kc rfl (Or.inl ⟨Or.inl rfl, by decide⟩)
theorem e_266_2 {x : Nat} {v : Int} : Ev X 266 2 ls (vi v :: vr x :: st) h Q ↔ (X.1 x = 12 ∧ Ev X 266 3 ls st (h.1, up2 h.2 x 0 v) Q) := R_pi rfl
theorem e_266_3 : Ev X 266 3 ls st h Q ↔ onR (gl ls 0) (fun z => Ev X 266 4 ls (vr z :: st) h Q) := R_al rfl (Or.inl rfl)
theorem e_266_4 : Ev X 266 4 ls st h Q ↔ onI (gl ls 1) (fun z => Ev X 266 5 ls (vi z :: st) h Q) := R_il rfl (Or.inl rfl)
theorem e_266_5 {rest : List xV} {a0 : Int} {o : Nat} : Ev X 266 5 ls ((vi a0) :: vr o :: rest) h Q ↔ ((X.1 o = 12 ∧ wd rest ≤ 8) ∧ Cl X 168 [vr o, vi a0] h (fun r h2 => Ev X 266 6 ls (r.toList ++ rest) h2 Q)) := R_cv (x := o) (as := [vi a0]) (k2 := 168) rfl rfl (Nat.le_of_ble_eq_true rfl)
theorem e_266_6 {x : Int} : Ev X 266 6 ls (vi x :: st) h Q ↔ (if ¬ x = 0 then Ev X 266 9 ls st h Q else Ev X 266 7 ls st h Q) := R_ifne rfl
theorem e_266_7 : Ev X 266 7 ls st h Q ↔ Ev X 266 8 ls (vi (-1) :: st) h Q := R_kc rfl (Or.inl ⟨Or.inl rfl, by decide⟩)
theorem e_266_8 {z : Int} : Ev X 266 8 ls [vi z] h Q ↔ Q (some (vi z)) h := R_ir rfl
theorem e_266_9 : Ev X 266 9 ls st h Q ↔ onI (gl ls 2) (fun z => Ev X 266 10 ls (vi z :: st) h Q) := R_il rfl (Or.inl rfl)
theorem e_266_10 {x : Int} : Ev X 266 10 ls (vi x :: st) h Q ↔ Ev X 266 (swt 0 [29, 11, 17, 21, 25] x) ls st h Q := R_sw rfl
theorem e_266_11 : Ev X 266 11 ls st h Q ↔ onR (gl ls 0) (fun z => Ev X 266 12 ls (vr z :: st) h Q) := R_al rfl (Or.inl rfl)
theorem e_266_12 {x : Nat} : Ev X 266 12 ls (vr x :: st) h Q ↔ (X.1 x = 12 ∧ Ev X 266 13 ls (vr (X.2.2.1 x 6) :: st) h Q) := R_gr rfl
theorem e_266_13 : Ev X 266 13 ls st h Q ↔ onI (gl ls 1) (fun z => Ev X 266 14 ls (vi z :: st) h Q) := R_il rfl (Or.inl rfl)
theorem e_266_14 {rest : List xV} {a0 : Int} : Ev X 266 14 ls ((vi a0) :: rest) h Q ↔ (wd rest ≤ 8 ∧ Cl X 159 [vi a0] h (fun r h2 => Ev X 266 15 ls (r.toList ++ rest) h2 Q)) := R_cs (as := [vi a0]) (k2 := 159) rfl rfl (Nat.le_of_ble_eq_true rfl)
theorem e_266_15 {x : Nat} {j : Int} : Ev X 266 15 ls (vi j :: vr x :: st) h Q ↔ (((X.1 x = 13 ∨ X.1 x = 20) ∧ 0 ≤ j ∧ j < X.2.1 x) ∧ Ev X 266 16 ls (vi (h.1 x j.toNat) :: st) h Q) := R_ia rfl
theorem e_266_16 {z : Int} : Ev X 266 16 ls [vi z] h Q ↔ Q (some (vi z)) h := R_ir rfl
theorem e_266_17 : Ev X 266 17 ls st h Q ↔ onR (gl ls 0) (fun z => Ev X 266 18 ls (vr z :: st) h Q) := R_al rfl (Or.inl rfl)
theorem e_266_18 : Ev X 266 18 ls st h Q ↔ onI (gl ls 1) (fun z => Ev X 266 19 ls (vi z :: st) h Q) := R_il rfl (Or.inl rfl)
theorem e_266_19 {rest : List xV} {a0 : Int} {o : Nat} : Ev X 266 19 ls ((vi a0) :: vr o :: rest) h Q ↔ ((X.1 o = 12 ∧ wd rest ≤ 8) ∧ Cl X 197 [vr o, vi a0] h (fun r h2 => Ev X 266 20 ls (r.toList ++ rest) h2 Q)) := R_cv (x := o) (as := [vi a0]) (k2 := 197) rfl rfl (Nat.le_of_ble_eq_true rfl)
theorem e_266_20 {z : Int} : Ev X 266 20 ls [vi z] h Q ↔ Q (some (vi z)) h := R_ir rfl
theorem e_266_21 : Ev X 266 21 ls st h Q ↔ onR (gl ls 0) (fun z => Ev X 266 22 ls (vr z :: st) h Q) := R_al rfl (Or.inl rfl)
theorem e_266_22 : Ev X 266 22 ls st h Q ↔ onI (gl ls 1) (fun z => Ev X 266 23 ls (vi z :: st) h Q) := R_il rfl (Or.inl rfl)
theorem e_266_23 {rest : List xV} {a0 : Int} {o : Nat} : Ev X 266 23 ls ((vi a0) :: vr o :: rest) h Q ↔ ((X.1 o = 12 ∧ wd rest ≤ 8) ∧ Cl X 205 [vr o, vi a0] h (fun r h2 => Ev X 266 24 ls (r.toList ++ rest) h2 Q)) := R_cv (x := o) (as := [vi a0]) (k2 := 205) rfl rfl (Nat.le_of_ble_eq_true rfl)
theorem e_266_24 {z : Int} : Ev X 266 24 ls [vi z] h Q ↔ Q (some (vi z)) h := R_ir rfl
theorem e_266_25 : Ev X 266 25 ls st h Q ↔ onR (gl ls 0) (fun z => Ev X 266 26 ls (vr z :: st) h Q) := R_al rfl (Or.inl rfl)
theorem e_266_26 : Ev X 266 26 ls st h Q ↔ onI (gl ls 1) (fun z => Ev X 266 27 ls (vi z :: st) h Q) := R_il rfl (Or.inl rfl)
theorem e_266_27 {rest : List xV} {a0 : Int} {o : Nat} : Ev X 266 27 ls ((vi a0) :: vr o :: rest) h Q ↔ ((X.1 o = 12 ∧ wd rest ≤ 8) ∧ Cl X 209 [vr o, vi a0] h (fun r h2 => Ev X 266 28 ls (r.toList ++ rest) h2 Q)) := R_cv (x := o) (as := [vi a0]) (k2 := 209) rfl rfl (Nat.le_of_ble_eq_true rfl)
theorem e_266_28 {z : Int} : Ev X 266 28 ls [vi z] h Q ↔ Q (some (vi z)) h := R_ir rfl
theorem e_266_29 : Ev X 266 29 ls st h Q ↔ onI (gl ls 2) (fun z => Ev X 266 30 ls (vi z :: st) h Q) := R_il rfl (Or.inl rfl)
theorem e_266_30 {x : Int} : Ev X 266 30 ls (vi x :: st) h Q ↔ Ev X 266 31 ls (vl x :: st) h Q := R_i2l rfl
theorem e_266_31 : Ev X 266 31 ls st h Q ↔ Ev X 266 32 ls (vl 10 :: st) h Q := R_lc rfl ⟨Or.inr rfl, by decide⟩
theorem e_266_32 : Ev X 266 32 ls st h Q ↔ Ev X 266 33 ls (vl 9 :: st) h Q := R_lc rfl ⟨Or.inr rfl, by decide⟩
theorem e_266_33 : Ev X 266 33 ls st h Q ↔ Ev X 266 34 ls (vi 2 :: st) h Q := R_kc rfl (Or.inl ⟨Or.inl rfl, by decide⟩)
theorem e_266_34 : Ev X 266 34 ls st h Q ↔ onR (gl ls 0) (fun z => Ev X 266 35 ls (vr z :: st) h Q) := R_al rfl (Or.inl rfl)
theorem e_266_35 : Ev X 266 35 ls st h Q ↔ onI (gl ls 1) (fun z => Ev X 266 36 ls (vi z :: st) h Q) := R_il rfl (Or.inl rfl)
theorem e_266_36 {rest : List xV} {a0 : Int} {o : Nat} : Ev X 266 36 ls ((vi a0) :: vr o :: rest) h Q ↔ ((X.1 o = 12 ∧ wd rest ≤ 8) ∧ Cl X 197 [vr o, vi a0] h (fun r h2 => Ev X 266 37 ls (r.toList ++ rest) h2 Q)) := R_cv (x := o) (as := [vi a0]) (k2 := 197) rfl rfl (Nat.le_of_ble_eq_true rfl)
theorem e_266_37 {x y : Int} : Ev X 266 37 ls (vi y :: vi x :: st) h Q ↔ ((inR (x * y)) ∧ Ev X 266 38 ls (vi (x * y) :: st) h Q) := R_mul rfl
theorem e_266_38 {x : Int} : Ev X 266 38 ls (vi x :: st) h Q ↔ Ev X 266 39 ls (vl x :: st) h Q := R_i2l rfl
theorem e_266_39 {x y : Int} : Ev X 266 39 ls (vl y :: vl x :: st) h Q ↔ ((inL (x + y)) ∧ Ev X 266 40 ls (vl (x + y) :: st) h Q) := R_ladd rfl
theorem e_266_40 {rest : List xV} {a0 : Int} {a1 : Int} {a2 : Int} : Ev X 266 40 ls ((vl a2) :: (vl a1) :: (vl a0) :: rest) h Q ↔ (wd rest ≤ 8 ∧ Cl X 149 [vl a0, vl a1, vl a2] h (fun r h2 => Ev X 266 41 ls (r.toList ++ rest) h2 Q)) := R_cs (as := [vl a0, vl a1, vl a2]) (k2 := 149) rfl rfl (Nat.le_of_ble_eq_true rfl)
theorem e_266_41 {x : Int} : Ev X 266 41 ls (vi x :: st) h Q ↔ (if x = 0 then Ev X 266 54 ls st h Q else Ev X 266 42 ls st h Q) := R_ifeq rfl
theorem e_266_42 : Ev X 266 42 ls st h Q ↔ onR (gl ls 0) (fun z => Ev X 266 43 ls (vr z :: st) h Q) := R_al rfl (Or.inl rfl)
theorem e_266_43 {x : Nat} : Ev X 266 43 ls (vr x :: st) h Q ↔ (X.1 x = 12 ∧ Ev X 266 44 ls (vr (X.2.2.1 x 6) :: st) h Q) := R_gr rfl
theorem e_266_44 : Ev X 266 44 ls st h Q ↔ onI (gl ls 1) (fun z => Ev X 266 45 ls (vi z :: st) h Q) := R_il rfl (Or.inl rfl)
theorem e_266_45 {rest : List xV} {a0 : Int} : Ev X 266 45 ls ((vi a0) :: rest) h Q ↔ (wd rest ≤ 8 ∧ Cl X 159 [vi a0] h (fun r h2 => Ev X 266 46 ls (r.toList ++ rest) h2 Q)) := R_cs (as := [vi a0]) (k2 := 159) rfl rfl (Nat.le_of_ble_eq_true rfl)
theorem e_266_46 : Ev X 266 46 ls st h Q ↔ Ev X 266 47 ls (vi 2 :: st) h Q := R_kc rfl (Or.inl ⟨Or.inl rfl, by decide⟩)
theorem e_266_47 {x y : Int} : Ev X 266 47 ls (vi y :: vi x :: st) h Q ↔ ((inR (x + y)) ∧ Ev X 266 48 ls (vi (x + y) :: st) h Q) := R_add rfl
theorem e_266_48 : Ev X 266 48 ls st h Q ↔ onI (gl ls 2) (fun z => Ev X 266 49 ls (vi z :: st) h Q) := R_il rfl (Or.inl rfl)
theorem e_266_49 {x y : Int} : Ev X 266 49 ls (vi y :: vi x :: st) h Q ↔ ((inR (x + y)) ∧ Ev X 266 50 ls (vi (x + y) :: st) h Q) := R_add rfl
theorem e_266_50 : Ev X 266 50 ls st h Q ↔ Ev X 266 51 ls (vi 10 :: st) h Q := R_kc rfl (Or.inr (Or.inl ⟨rfl, by decide⟩))
theorem e_266_51 {x y : Int} : Ev X 266 51 ls (vi y :: vi x :: st) h Q ↔ ((inR (x - y)) ∧ Ev X 266 52 ls (vi (x - y) :: st) h Q) := R_sub rfl
theorem e_266_52 {x : Nat} {j : Int} : Ev X 266 52 ls (vi j :: vr x :: st) h Q ↔ (((X.1 x = 13 ∨ X.1 x = 20) ∧ 0 ≤ j ∧ j < X.2.1 x) ∧ Ev X 266 53 ls (vi (h.1 x j.toNat) :: st) h Q) := R_ia rfl
theorem e_266_53 : Ev X 266 53 ls st h Q ↔ Ev X 266 55 ls st h Q := R_go rfl
theorem e_266_54 : Ev X 266 54 ls st h Q ↔ Ev X 266 55 ls (vi (-1) :: st) h Q := R_kc rfl (Or.inl ⟨Or.inl rfl, by decide⟩)
theorem e_266_55 {z : Int} : Ev X 266 55 ls [vi z] h Q ↔ Q (some (vi z)) h := R_ir rfl
-- 267: CellRowsModel.laySupply()V
theorem e_267_0 : Ev X 267 0 ls st h Q ↔ Ev X 267 1 ls (vi 0 :: st) h Q := R_kc rfl (Or.inl ⟨Or.inl rfl, by decide⟩)
theorem e_267_1 {x : Int} : Ev X 267 1 ls (vi x :: st) h Q ↔ (stOK ls 1 = true ∧ Ev X 267 2 (ls.set 1 (some (vi x))) st h Q) := R_is rfl (Or.inl rfl)
theorem e_267_2 : Ev X 267 2 ls st h Q ↔ onI (gl ls 1) (fun z => Ev X 267 3 ls (vi z :: st) h Q) := R_il rfl (Or.inl rfl)
theorem e_267_3 : Ev X 267 3 ls st h Q ↔ onR (gl ls 0) (fun z => Ev X 267 4 ls (vr z :: st) h Q) := R_al rfl (Or.inl rfl)
theorem e_267_4 {rest : List xV}  {o : Nat} : Ev X 267 4 ls (vr o :: rest) h Q ↔ ((X.1 o = 12 ∧ wd rest ≤ 8) ∧ Cl X 212 [vr o] h (fun r h2 => Ev X 267 5 ls (r.toList ++ rest) h2 Q)) := R_cv (x := o) (as := []) (k2 := 212) rfl rfl (Nat.le_of_ble_eq_true rfl)
theorem e_267_5 {x y : Int} : Ev X 267 5 ls (vi y :: vi x :: st) h Q ↔ (if y ≤ x then Ev X 267 15 ls st h Q else Ev X 267 6 ls st h Q) := R_icge rfl
theorem e_267_6 : Ev X 267 6 ls st h Q ↔ onR (gl ls 0) (fun z => Ev X 267 7 ls (vr z :: st) h Q) := R_al rfl (Or.inl rfl)
theorem e_267_7 {x : Nat} : Ev X 267 7 ls (vr x :: st) h Q ↔ (X.1 x = 12 ∧ Ev X 267 8 ls (vr (X.2.2.1 x 36) :: st) h Q) := R_gr rfl
theorem e_267_8 : Ev X 267 8 ls st h Q ↔ onI (gl ls 1) (fun z => Ev X 267 9 ls (vi z :: st) h Q) := R_il rfl (Or.inl rfl)
theorem e_267_9 : Ev X 267 9 ls st h Q ↔ onR (gl ls 0) (fun z => Ev X 267 10 ls (vr z :: st) h Q) := R_al rfl (Or.inl rfl)
theorem e_267_10 : Ev X 267 10 ls st h Q ↔ onI (gl ls 1) (fun z => Ev X 267 11 ls (vi z :: st) h Q) := R_il rfl (Or.inl rfl)
theorem e_267_11 {rest : List xV} {a0 : Int} {o : Nat} : Ev X 267 11 ls ((vi a0) :: vr o :: rest) h Q ↔ ((X.1 o = 12 ∧ wd rest ≤ 8) ∧ Cl X 213 [vr o, vi a0] h (fun r h2 => Ev X 267 12 ls (r.toList ++ rest) h2 Q)) := R_cv (x := o) (as := [vi a0]) (k2 := 213) rfl rfl (Nat.le_of_ble_eq_true rfl)
theorem e_267_12 {x : Nat} {j v : Int} : Ev X 267 12 ls (vi v :: vi j :: vr x :: st) h Q ↔ ((X.1 x = 13 ∧ 0 ≤ j ∧ j < X.2.1 x) ∧ Ev X 267 13 ls st (up2 h.1 x j.toNat v, h.2) Q) := R_ias rfl
theorem e_267_13 : Ev X 267 13 ls st h Q ↔ onI (gl ls 1) (fun x => (stOK ls 1 = true ∧ inR (x + 1)) ∧ Ev X 267 14 (ls.set 1 (some (vi (x + 1)))) st h Q) := R_inc rfl
theorem e_267_14 : Ev X 267 14 ls st h Q ↔ Ev X 267 2 ls st h Q := R_go rfl
theorem e_267_15 : Ev X 267 15 ls [] h Q ↔ Q none h := R_vr rfl
-- 268: CellRowsModel.bin(II)I
theorem e_268_0 : Ev X 268 0 ls st h Q ↔ onR (gl ls 0) (fun z => Ev X 268 1 ls (vr z :: st) h Q) := R_al rfl (Or.inl rfl)
theorem e_268_1 : Ev X 268 1 ls st h Q ↔ Ev X 268 2 ls (vi 0 :: st) h Q := R_kc rfl (Or.inl ⟨Or.inl rfl, by decide⟩)
theorem e_268_2 {x : Nat} {v : Int} : Ev X 268 2 ls (vi v :: vr x :: st) h Q ↔ (X.1 x = 12 ∧ Ev X 268 3 ls st (h.1, up2 h.2 x 0 v) Q) := R_pi rfl
theorem e_268_3 : Ev X 268 3 ls st h Q ↔ onI (gl ls 1) (fun z => Ev X 268 4 ls (vi z :: st) h Q) := R_il rfl (Or.inl rfl)
theorem e_268_4 {x : Int} : Ev X 268 4 ls (vi x :: st) h Q ↔ Ev X 268 5 ls (vl x :: st) h Q := R_i2l rfl
theorem e_268_5 : Ev X 268 5 ls st h Q ↔ Ev X 268 6 ls (vl 0 :: st) h Q := R_lc rfl ⟨Or.inl rfl, by decide⟩
theorem e_268_6 : Ev X 268 6 ls st h Q ↔ onR (gl ls 0) (fun z => Ev X 268 7 ls (vr z :: st) h Q) := R_al rfl (Or.inl rfl)
theorem e_268_7 {rest : List xV}  {o : Nat} : Ev X 268 7 ls (vr o :: rest) h Q ↔ ((X.1 o = 12 ∧ wd rest ≤ 8) ∧ Cl X 212 [vr o] h (fun r h2 => Ev X 268 8 ls (r.toList ++ rest) h2 Q)) := R_cv (x := o) (as := []) (k2 := 212) rfl rfl (Nat.le_of_ble_eq_true rfl)
theorem e_268_8 {x : Int} : Ev X 268 8 ls (vi x :: st) h Q ↔ Ev X 268 9 ls (vl x :: st) h Q := R_i2l rfl
theorem e_268_9 : Ev X 268 9 ls st h Q ↔ Ev X 268 10 ls (vl 1 :: st) h Q := R_lc rfl ⟨Or.inl rfl, by decide⟩
theorem e_268_10 {x y : Int} : Ev X 268 10 ls (vl y :: vl x :: st) h Q ↔ ((inL (x - y)) ∧ Ev X 268 11 ls (vl (x - y) :: st) h Q) := R_lsub rfl
theorem e_268_11 {rest : List xV} {a0 : Int} {a1 : Int} {a2 : Int} : Ev X 268 11 ls ((vl a2) :: (vl a1) :: (vl a0) :: rest) h Q ↔ (wd rest ≤ 8 ∧ Cl X 149 [vl a0, vl a1, vl a2] h (fun r h2 => Ev X 268 12 ls (r.toList ++ rest) h2 Q)) := R_cs (as := [vl a0, vl a1, vl a2]) (k2 := 149) rfl rfl (Nat.le_of_ble_eq_true rfl)
theorem e_268_12 {x : Int} : Ev X 268 12 ls (vi x :: st) h Q ↔ (if ¬ x = 0 then Ev X 268 15 ls st h Q else Ev X 268 13 ls st h Q) := R_ifne rfl
theorem e_268_13 : Ev X 268 13 ls st h Q ↔ Ev X 268 14 ls (vi (-1) :: st) h Q := R_kc rfl (Or.inl ⟨Or.inl rfl, by decide⟩)
theorem e_268_14 {z : Int} : Ev X 268 14 ls [vi z] h Q ↔ Q (some (vi z)) h := R_ir rfl
theorem e_268_15 : Ev X 268 15 ls st h Q ↔ onR (gl ls 0) (fun z => Ev X 268 16 ls (vr z :: st) h Q) := R_al rfl (Or.inl rfl)
theorem e_268_16 {rest : List xV}  {o : Nat} : Ev X 268 16 ls (vr o :: rest) h Q ↔ ((X.1 o = 12 ∧ wd rest ≤ 8) ∧ Cl X 267 [vr o] h (fun r h2 => Ev X 268 17 ls (r.toList ++ rest) h2 Q)) := R_cv (x := o) (as := []) (k2 := 267) rfl rfl (Nat.le_of_ble_eq_true rfl)
theorem e_268_17 : Ev X 268 17 ls st h Q ↔ onI (gl ls 2) (fun z => Ev X 268 18 ls (vi z :: st) h Q) := R_il rfl (Or.inl rfl)
theorem e_268_18 {x : Int} : Ev X 268 18 ls (vi x :: st) h Q ↔ Ev X 268 (swt 0 [36, 19, 24, 28, 32] x) ls st h Q := R_sw rfl
theorem e_268_19 : Ev X 268 19 ls st h Q ↔ onR (gl ls 0) (fun z => Ev X 268 20 ls (vr z :: st) h Q) := R_al rfl (Or.inl rfl)
theorem e_268_20 {x : Nat} : Ev X 268 20 ls (vr x :: st) h Q ↔ (X.1 x = 12 ∧ Ev X 268 21 ls (vr (X.2.2.1 x 36) :: st) h Q) := R_gr rfl
theorem e_268_21 : Ev X 268 21 ls st h Q ↔ onI (gl ls 1) (fun z => Ev X 268 22 ls (vi z :: st) h Q) := R_il rfl (Or.inl rfl)
theorem e_268_22 {x : Nat} {j : Int} : Ev X 268 22 ls (vi j :: vr x :: st) h Q ↔ (((X.1 x = 13 ∨ X.1 x = 20) ∧ 0 ≤ j ∧ j < X.2.1 x) ∧ Ev X 268 23 ls (vi (h.1 x j.toNat) :: st) h Q) := R_ia rfl
theorem e_268_23 {z : Int} : Ev X 268 23 ls [vi z] h Q ↔ Q (some (vi z)) h := R_ir rfl
theorem e_268_24 : Ev X 268 24 ls st h Q ↔ onR (gl ls 0) (fun z => Ev X 268 25 ls (vr z :: st) h Q) := R_al rfl (Or.inl rfl)
theorem e_268_25 : Ev X 268 25 ls st h Q ↔ onI (gl ls 1) (fun z => Ev X 268 26 ls (vi z :: st) h Q) := R_il rfl (Or.inl rfl)
theorem e_268_26 {rest : List xV} {a0 : Int} {o : Nat} : Ev X 268 26 ls ((vi a0) :: vr o :: rest) h Q ↔ ((X.1 o = 12 ∧ wd rest ≤ 8) ∧ Cl X 215 [vr o, vi a0] h (fun r h2 => Ev X 268 27 ls (r.toList ++ rest) h2 Q)) := R_cv (x := o) (as := [vi a0]) (k2 := 215) rfl rfl (Nat.le_of_ble_eq_true rfl)
theorem e_268_27 {z : Int} : Ev X 268 27 ls [vi z] h Q ↔ Q (some (vi z)) h := R_ir rfl
theorem e_268_28 : Ev X 268 28 ls st h Q ↔ onR (gl ls 0) (fun z => Ev X 268 29 ls (vr z :: st) h Q) := R_al rfl (Or.inl rfl)
theorem e_268_29 : Ev X 268 29 ls st h Q ↔ onI (gl ls 1) (fun z => Ev X 268 30 ls (vi z :: st) h Q) := R_il rfl (Or.inl rfl)
theorem e_268_30 {rest : List xV} {a0 : Int} {o : Nat} : Ev X 268 30 ls ((vi a0) :: vr o :: rest) h Q ↔ ((X.1 o = 12 ∧ wd rest ≤ 8) ∧ Cl X 216 [vr o, vi a0] h (fun r h2 => Ev X 268 31 ls (r.toList ++ rest) h2 Q)) := R_cv (x := o) (as := [vi a0]) (k2 := 216) rfl rfl (Nat.le_of_ble_eq_true rfl)
theorem e_268_31 {z : Int} : Ev X 268 31 ls [vi z] h Q ↔ Q (some (vi z)) h := R_ir rfl
theorem e_268_32 : Ev X 268 32 ls st h Q ↔ onR (gl ls 0) (fun z => Ev X 268 33 ls (vr z :: st) h Q) := R_al rfl (Or.inl rfl)
theorem e_268_33 : Ev X 268 33 ls st h Q ↔ onI (gl ls 1) (fun z => Ev X 268 34 ls (vi z :: st) h Q) := R_il rfl (Or.inl rfl)
theorem e_268_34 {rest : List xV} {a0 : Int} {o : Nat} : Ev X 268 34 ls ((vi a0) :: vr o :: rest) h Q ↔ ((X.1 o = 12 ∧ wd rest ≤ 8) ∧ Cl X 219 [vr o, vi a0] h (fun r h2 => Ev X 268 35 ls (r.toList ++ rest) h2 Q)) := R_cv (x := o) (as := [vi a0]) (k2 := 219) rfl rfl (Nat.le_of_ble_eq_true rfl)
theorem e_268_35 {z : Int} : Ev X 268 35 ls [vi z] h Q ↔ Q (some (vi z)) h := R_ir rfl
theorem e_268_36 : Ev X 268 36 ls st h Q ↔ Ev X 268 37 ls (vi (-1) :: st) h Q := R_kc rfl (Or.inl ⟨Or.inl rfl, by decide⟩)
theorem e_268_37 {z : Int} : Ev X 268 37 ls [vi z] h Q ↔ Q (some (vi z)) h := R_ir rfl
-- 269: CellRowsModel.spotMoves()I
theorem e_269_0 : Ev X 269 0 ls st h Q ↔ Ev X 269 1 ls (vi 0 :: st) h Q := R_kc rfl (Or.inl ⟨Or.inl rfl, by decide⟩)
theorem e_269_1 {x : Int} : Ev X 269 1 ls (vi x :: st) h Q ↔ (stOK ls 1 = true ∧ Ev X 269 2 (ls.set 1 (some (vi x))) st h Q) := R_is rfl (Or.inl rfl)
theorem e_269_2 : Ev X 269 2 ls st h Q ↔ Ev X 269 3 ls (vi 0 :: st) h Q := R_kc rfl (Or.inl ⟨Or.inl rfl, by decide⟩)
theorem e_269_3 {x : Int} : Ev X 269 3 ls (vi x :: st) h Q ↔ (stOK ls 2 = true ∧ Ev X 269 4 (ls.set 2 (some (vi x))) st h Q) := R_is rfl (Or.inl rfl)
theorem e_269_4 : Ev X 269 4 ls st h Q ↔ onI (gl ls 2) (fun z => Ev X 269 5 ls (vi z :: st) h Q) := R_il rfl (Or.inl rfl)
theorem e_269_5 : Ev X 269 5 ls st h Q ↔ onR (gl ls 0) (fun z => Ev X 269 6 ls (vr z :: st) h Q) := R_al rfl (Or.inl rfl)
theorem e_269_6 {x : Nat} : Ev X 269 6 ls (vr x :: st) h Q ↔ (X.1 x = 12 ∧ Ev X 269 7 ls (vr (X.2.2.1 x 6) :: st) h Q) := R_gr rfl
theorem e_269_7 : Ev X 269 7 ls st h Q ↔ Ev X 269 8 ls (vi 2 :: st) h Q := R_kc rfl (Or.inl ⟨Or.inl rfl, by decide⟩)
theorem e_269_8 {x : Nat} {j : Int} : Ev X 269 8 ls (vi j :: vr x :: st) h Q ↔ (((X.1 x = 13 ∨ X.1 x = 20) ∧ 0 ≤ j ∧ j < X.2.1 x) ∧ Ev X 269 9 ls (vi (h.1 x j.toNat) :: st) h Q) := R_ia rfl
theorem e_269_9 {x y : Int} : Ev X 269 9 ls (vi y :: vi x :: st) h Q ↔ (if y ≤ x then Ev X 269 24 ls st h Q else Ev X 269 10 ls st h Q) := R_icge rfl
theorem e_269_10 : Ev X 269 10 ls st h Q ↔ onI (gl ls 1) (fun z => Ev X 269 11 ls (vi z :: st) h Q) := R_il rfl (Or.inl rfl)
theorem e_269_11 : Ev X 269 11 ls st h Q ↔ onR (gl ls 0) (fun z => Ev X 269 12 ls (vr z :: st) h Q) := R_al rfl (Or.inl rfl)
theorem e_269_12 : Ev X 269 12 ls st h Q ↔ onI (gl ls 2) (fun z => Ev X 269 13 ls (vi z :: st) h Q) := R_il rfl (Or.inl rfl)
theorem e_269_13 {rest : List xV} {a0 : Int} {o : Nat} : Ev X 269 13 ls ((vi a0) :: vr o :: rest) h Q ↔ ((X.1 o = 12 ∧ wd rest ≤ 8) ∧ Cl X 163 [vr o, vi a0] h (fun r h2 => Ev X 269 14 ls (r.toList ++ rest) h2 Q)) := R_cv (x := o) (as := [vi a0]) (k2 := 163) rfl rfl (Nat.le_of_ble_eq_true rfl)
theorem e_269_14 {x : Int} : Ev X 269 14 ls (vi x :: st) h Q ↔ (if x = 0 then Ev X 269 19 ls st h Q else Ev X 269 15 ls st h Q) := R_ifeq rfl
theorem e_269_15 : Ev X 269 15 ls st h Q ↔ onR (gl ls 0) (fun z => Ev X 269 16 ls (vr z :: st) h Q) := R_al rfl (Or.inl rfl)
theorem e_269_16 : Ev X 269 16 ls st h Q ↔ onI (gl ls 2) (fun z => Ev X 269 17 ls (vi z :: st) h Q) := R_il rfl (Or.inl rfl)
theorem e_269_17 {rest : List xV} {a0 : Int} {o : Nat} : Ev X 269 17 ls ((vi a0) :: vr o :: rest) h Q ↔ ((X.1 o = 12 ∧ wd rest ≤ 8) ∧ Cl X 220 [vr o, vi a0] h (fun r h2 => Ev X 269 18 ls (r.toList ++ rest) h2 Q)) := R_cv (x := o) (as := [vi a0]) (k2 := 220) rfl rfl (Nat.le_of_ble_eq_true rfl)
theorem e_269_18 : Ev X 269 18 ls st h Q ↔ Ev X 269 20 ls st h Q := R_go rfl
theorem e_269_19 : Ev X 269 19 ls st h Q ↔ Ev X 269 20 ls (vi 0 :: st) h Q := R_kc rfl (Or.inl ⟨Or.inl rfl, by decide⟩)
theorem e_269_20 {x y : Int} : Ev X 269 20 ls (vi y :: vi x :: st) h Q ↔ ((inR (x + y)) ∧ Ev X 269 21 ls (vi (x + y) :: st) h Q) := R_add rfl
theorem e_269_21 {x : Int} : Ev X 269 21 ls (vi x :: st) h Q ↔ (stOK ls 1 = true ∧ Ev X 269 22 (ls.set 1 (some (vi x))) st h Q) := R_is rfl (Or.inl rfl)
theorem e_269_22 : Ev X 269 22 ls st h Q ↔ onI (gl ls 2) (fun x => (stOK ls 2 = true ∧ inR (x + 1)) ∧ Ev X 269 23 (ls.set 2 (some (vi (x + 1)))) st h Q) := R_inc rfl
theorem e_269_23 : Ev X 269 23 ls st h Q ↔ Ev X 269 4 ls st h Q := R_go rfl
theorem e_269_24 : Ev X 269 24 ls st h Q ↔ onI (gl ls 1) (fun z => Ev X 269 25 ls (vi z :: st) h Q) := R_il rfl (Or.inl rfl)
theorem e_269_25 {z : Int} : Ev X 269 25 ls [vi z] h Q ↔ Q (some (vi z)) h := R_ir rfl
-- 270: CellRowsModel.withoutSpot()I
theorem e_270_0 : Ev X 270 0 ls st h Q ↔ Ev X 270 1 ls (vi 0 :: st) h Q := R_kc rfl (Or.inl ⟨Or.inl rfl, by decide⟩)
theorem e_270_1 {x : Int} : Ev X 270 1 ls (vi x :: st) h Q ↔ (stOK ls 1 = true ∧ Ev X 270 2 (ls.set 1 (some (vi x))) st h Q) := R_is rfl (Or.inl rfl)
theorem e_270_2 : Ev X 270 2 ls st h Q ↔ Ev X 270 3 ls (vi 0 :: st) h Q := R_kc rfl (Or.inl ⟨Or.inl rfl, by decide⟩)
theorem e_270_3 {x : Int} : Ev X 270 3 ls (vi x :: st) h Q ↔ (stOK ls 2 = true ∧ Ev X 270 4 (ls.set 2 (some (vi x))) st h Q) := R_is rfl (Or.inl rfl)
theorem e_270_4 : Ev X 270 4 ls st h Q ↔ onI (gl ls 2) (fun z => Ev X 270 5 ls (vi z :: st) h Q) := R_il rfl (Or.inl rfl)
theorem e_270_5 : Ev X 270 5 ls st h Q ↔ onR (gl ls 0) (fun z => Ev X 270 6 ls (vr z :: st) h Q) := R_al rfl (Or.inl rfl)
theorem e_270_6 {x : Nat} : Ev X 270 6 ls (vr x :: st) h Q ↔ (X.1 x = 12 ∧ Ev X 270 7 ls (vr (X.2.2.1 x 6) :: st) h Q) := R_gr rfl
theorem e_270_7 : Ev X 270 7 ls st h Q ↔ Ev X 270 8 ls (vi 2 :: st) h Q := R_kc rfl (Or.inl ⟨Or.inl rfl, by decide⟩)
theorem e_270_8 {x : Nat} {j : Int} : Ev X 270 8 ls (vi j :: vr x :: st) h Q ↔ (((X.1 x = 13 ∨ X.1 x = 20) ∧ 0 ≤ j ∧ j < X.2.1 x) ∧ Ev X 270 9 ls (vi (h.1 x j.toNat) :: st) h Q) := R_ia rfl
theorem e_270_9 {x y : Int} : Ev X 270 9 ls (vi y :: vi x :: st) h Q ↔ (if y ≤ x then Ev X 270 22 ls st h Q else Ev X 270 10 ls st h Q) := R_icge rfl
theorem e_270_10 : Ev X 270 10 ls st h Q ↔ onI (gl ls 1) (fun z => Ev X 270 11 ls (vi z :: st) h Q) := R_il rfl (Or.inl rfl)
theorem e_270_11 : Ev X 270 11 ls st h Q ↔ onR (gl ls 0) (fun z => Ev X 270 12 ls (vr z :: st) h Q) := R_al rfl (Or.inl rfl)
theorem e_270_12 : Ev X 270 12 ls st h Q ↔ onI (gl ls 2) (fun z => Ev X 270 13 ls (vi z :: st) h Q) := R_il rfl (Or.inl rfl)
theorem e_270_13 {rest : List xV} {a0 : Int} {o : Nat} : Ev X 270 13 ls ((vi a0) :: vr o :: rest) h Q ↔ ((X.1 o = 12 ∧ wd rest ≤ 8) ∧ Cl X 163 [vr o, vi a0] h (fun r h2 => Ev X 270 14 ls (r.toList ++ rest) h2 Q)) := R_cv (x := o) (as := [vi a0]) (k2 := 163) rfl rfl (Nat.le_of_ble_eq_true rfl)
theorem e_270_14 {x : Int} : Ev X 270 14 ls (vi x :: st) h Q ↔ (if x = 0 then Ev X 270 17 ls st h Q else Ev X 270 15 ls st h Q) := R_ifeq rfl
theorem e_270_15 : Ev X 270 15 ls st h Q ↔ Ev X 270 16 ls (vi 0 :: st) h Q := R_kc rfl (Or.inl ⟨Or.inl rfl, by decide⟩)
theorem e_270_16 : Ev X 270 16 ls st h Q ↔ Ev X 270 18 ls st h Q := R_go rfl
theorem e_270_17 : Ev X 270 17 ls st h Q ↔ Ev X 270 18 ls (vi 1 :: st) h Q := R_kc rfl (Or.inl ⟨Or.inl rfl, by decide⟩)
theorem e_270_18 {x y : Int} : Ev X 270 18 ls (vi y :: vi x :: st) h Q ↔ ((inR (x + y)) ∧ Ev X 270 19 ls (vi (x + y) :: st) h Q) := R_add rfl
theorem e_270_19 {x : Int} : Ev X 270 19 ls (vi x :: st) h Q ↔ (stOK ls 1 = true ∧ Ev X 270 20 (ls.set 1 (some (vi x))) st h Q) := R_is rfl (Or.inl rfl)
theorem e_270_20 : Ev X 270 20 ls st h Q ↔ onI (gl ls 2) (fun x => (stOK ls 2 = true ∧ inR (x + 1)) ∧ Ev X 270 21 (ls.set 2 (some (vi (x + 1)))) st h Q) := R_inc rfl
theorem e_270_21 : Ev X 270 21 ls st h Q ↔ Ev X 270 4 ls st h Q := R_go rfl
theorem e_270_22 : Ev X 270 22 ls st h Q ↔ onI (gl ls 1) (fun z => Ev X 270 23 ls (vi z :: st) h Q) := R_il rfl (Or.inl rfl)
theorem e_270_23 {z : Int} : Ev X 270 23 ls [vi z] h Q ↔ Q (some (vi z)) h := R_ir rfl
-- 271: CellRowsModel.crowds(I)I
theorem e_271_0 : Ev X 271 0 ls st h Q ↔ Ev X 271 1 ls (vi (-1) :: st) h Q := R_kc rfl (Or.inl ⟨Or.inl rfl, by decide⟩)
theorem e_271_1 {x : Int} : Ev X 271 1 ls (vi x :: st) h Q ↔ (stOK ls 2 = true ∧ Ev X 271 2 (ls.set 2 (some (vi x))) st h Q) := R_is rfl (Or.inl rfl)
theorem e_271_2 : Ev X 271 2 ls st h Q ↔ Ev X 271 3 ls (vi (-1) :: st) h Q := R_kc rfl (Or.inl ⟨Or.inl rfl, by decide⟩)
theorem e_271_3 {x : Int} : Ev X 271 3 ls (vi x :: st) h Q ↔ (stOK ls 3 = true ∧ Ev X 271 4 (ls.set 3 (some (vi x))) st h Q) := R_is rfl (Or.inl rfl)
theorem e_271_4 : Ev X 271 4 ls st h Q ↔ Ev X 271 5 ls (vi 0 :: st) h Q := R_kc rfl (Or.inl ⟨Or.inl rfl, by decide⟩)
theorem e_271_5 {x : Int} : Ev X 271 5 ls (vi x :: st) h Q ↔ (stOK ls 4 = true ∧ Ev X 271 6 (ls.set 4 (some (vi x))) st h Q) := R_is rfl (Or.inr rfl)
theorem e_271_6 : Ev X 271 6 ls st h Q ↔ Ev X 271 7 ls (vi 0 :: st) h Q := R_kc rfl (Or.inl ⟨Or.inl rfl, by decide⟩)
theorem e_271_7 {x : Int} : Ev X 271 7 ls (vi x :: st) h Q ↔ (stOK ls 5 = true ∧ Ev X 271 8 (ls.set 5 (some (vi x))) st h Q) := R_is rfl (Or.inr rfl)
theorem e_271_8 : Ev X 271 8 ls st h Q ↔ onI (gl ls 5) (fun z => Ev X 271 9 ls (vi z :: st) h Q) := R_il rfl (Or.inr rfl)
theorem e_271_9 : Ev X 271 9 ls st h Q ↔ onR (gl ls 0) (fun z => Ev X 271 10 ls (vr z :: st) h Q) := R_al rfl (Or.inl rfl)
theorem e_271_10 {rest : List xV}  {o : Nat} : Ev X 271 10 ls (vr o :: rest) h Q ↔ ((X.1 o = 12 ∧ wd rest ≤ 8) ∧ Cl X 212 [vr o] h (fun r h2 => Ev X 271 11 ls (r.toList ++ rest) h2 Q)) := R_cv (x := o) (as := []) (k2 := 212) rfl rfl (Nat.le_of_ble_eq_true rfl)
theorem e_271_11 {x y : Int} : Ev X 271 11 ls (vi y :: vi x :: st) h Q ↔ (if y ≤ x then Ev X 271 44 ls st h Q else Ev X 271 12 ls st h Q) := R_icge rfl
theorem e_271_12 : Ev X 271 12 ls st h Q ↔ onR (gl ls 0) (fun z => Ev X 271 13 ls (vr z :: st) h Q) := R_al rfl (Or.inl rfl)
theorem e_271_13 : Ev X 271 13 ls st h Q ↔ onI (gl ls 5) (fun z => Ev X 271 14 ls (vi z :: st) h Q) := R_il rfl (Or.inr rfl)
theorem e_271_14 {rest : List xV} {a0 : Int} {o : Nat} : Ev X 271 14 ls ((vi a0) :: vr o :: rest) h Q ↔ ((X.1 o = 12 ∧ wd rest ≤ 8) ∧ Cl X 219 [vr o, vi a0] h (fun r h2 => Ev X 271 15 ls (r.toList ++ rest) h2 Q)) := R_cv (x := o) (as := [vi a0]) (k2 := 219) rfl rfl (Nat.le_of_ble_eq_true rfl)
theorem e_271_15 {x : Int} : Ev X 271 15 ls (vi x :: st) h Q ↔ (stOK ls 6 = true ∧ Ev X 271 16 (ls.set 6 (some (vi x))) st h Q) := R_is rfl (Or.inr rfl)
theorem e_271_16 : Ev X 271 16 ls st h Q ↔ onI (gl ls 6) (fun z => Ev X 271 17 ls (vi z :: st) h Q) := R_il rfl (Or.inr rfl)
theorem e_271_17 : Ev X 271 17 ls st h Q ↔ onI (gl ls 2) (fun z => Ev X 271 18 ls (vi z :: st) h Q) := R_il rfl (Or.inl rfl)
theorem e_271_18 {x y : Int} : Ev X 271 18 ls (vi y :: vi x :: st) h Q ↔ (if x ≤ y then Ev X 271 21 ls st h Q else Ev X 271 19 ls st h Q) := R_icle rfl
theorem e_271_19 : Ev X 271 19 ls st h Q ↔ onI (gl ls 5) (fun z => Ev X 271 20 ls (vi z :: st) h Q) := R_il rfl (Or.inr rfl)
theorem e_271_20 : Ev X 271 20 ls st h Q ↔ Ev X 271 22 ls st h Q := R_go rfl
theorem e_271_21 : Ev X 271 21 ls st h Q ↔ onI (gl ls 3) (fun z => Ev X 271 22 ls (vi z :: st) h Q) := R_il rfl (Or.inl rfl)
theorem e_271_22 {x : Int} : Ev X 271 22 ls (vi x :: st) h Q ↔ (stOK ls 3 = true ∧ Ev X 271 23 (ls.set 3 (some (vi x))) st h Q) := R_is rfl (Or.inl rfl)
theorem e_271_23 : Ev X 271 23 ls st h Q ↔ onI (gl ls 6) (fun z => Ev X 271 24 ls (vi z :: st) h Q) := R_il rfl (Or.inr rfl)
theorem e_271_24 : Ev X 271 24 ls st h Q ↔ onI (gl ls 2) (fun z => Ev X 271 25 ls (vi z :: st) h Q) := R_il rfl (Or.inl rfl)
theorem e_271_25 {x y : Int} : Ev X 271 25 ls (vi y :: vi x :: st) h Q ↔ (if x ≤ y then Ev X 271 28 ls st h Q else Ev X 271 26 ls st h Q) := R_icle rfl
theorem e_271_26 : Ev X 271 26 ls st h Q ↔ onI (gl ls 6) (fun z => Ev X 271 27 ls (vi z :: st) h Q) := R_il rfl (Or.inr rfl)
theorem e_271_27 : Ev X 271 27 ls st h Q ↔ Ev X 271 29 ls st h Q := R_go rfl
theorem e_271_28 : Ev X 271 28 ls st h Q ↔ onI (gl ls 2) (fun z => Ev X 271 29 ls (vi z :: st) h Q) := R_il rfl (Or.inl rfl)
theorem e_271_29 {x : Int} : Ev X 271 29 ls (vi x :: st) h Q ↔ (stOK ls 2 = true ∧ Ev X 271 30 (ls.set 2 (some (vi x))) st h Q) := R_is rfl (Or.inl rfl)
theorem e_271_30 : Ev X 271 30 ls st h Q ↔ onI (gl ls 4) (fun z => Ev X 271 31 ls (vi z :: st) h Q) := R_il rfl (Or.inr rfl)
theorem e_271_31 : Ev X 271 31 ls st h Q ↔ onI (gl ls 6) (fun z => Ev X 271 32 ls (vi z :: st) h Q) := R_il rfl (Or.inr rfl)
theorem e_271_32 : Ev X 271 32 ls st h Q ↔ onR (gl ls 0) (fun z => Ev X 271 33 ls (vr z :: st) h Q) := R_al rfl (Or.inl rfl)
theorem e_271_33 {x : Nat} : Ev X 271 33 ls (vr x :: st) h Q ↔ (X.1 x = 12 ∧ Ev X 271 34 ls (vr (X.2.2.1 x 5) :: st) h Q) := R_gr rfl
theorem e_271_34 : Ev X 271 34 ls st h Q ↔ Ev X 271 35 ls (vi 5 :: st) h Q := R_kc rfl (Or.inl ⟨Or.inl rfl, by decide⟩)
theorem e_271_35 {x : Nat} {j : Int} : Ev X 271 35 ls (vi j :: vr x :: st) h Q ↔ (((X.1 x = 13 ∨ X.1 x = 20) ∧ 0 ≤ j ∧ j < X.2.1 x) ∧ Ev X 271 36 ls (vi (h.1 x j.toNat) :: st) h Q) := R_ia rfl
theorem e_271_36 {x y : Int} : Ev X 271 36 ls (vi y :: vi x :: st) h Q ↔ (if x ≤ y then Ev X 271 39 ls st h Q else Ev X 271 37 ls st h Q) := R_icle rfl
theorem e_271_37 : Ev X 271 37 ls st h Q ↔ Ev X 271 38 ls (vi 1 :: st) h Q := R_kc rfl (Or.inl ⟨Or.inl rfl, by decide⟩)
theorem e_271_38 : Ev X 271 38 ls st h Q ↔ Ev X 271 40 ls st h Q := R_go rfl
theorem e_271_39 : Ev X 271 39 ls st h Q ↔ Ev X 271 40 ls (vi 0 :: st) h Q := R_kc rfl (Or.inl ⟨Or.inl rfl, by decide⟩)
theorem e_271_40 {x y : Int} : Ev X 271 40 ls (vi y :: vi x :: st) h Q ↔ ((inR (x + y)) ∧ Ev X 271 41 ls (vi (x + y) :: st) h Q) := R_add rfl
theorem e_271_41 {x : Int} : Ev X 271 41 ls (vi x :: st) h Q ↔ (stOK ls 4 = true ∧ Ev X 271 42 (ls.set 4 (some (vi x))) st h Q) := R_is rfl (Or.inr rfl)
theorem e_271_42 : Ev X 271 42 ls st h Q ↔ onI (gl ls 5) (fun x => (stOK ls 5 = true ∧ inR (x + 1)) ∧ Ev X 271 43 (ls.set 5 (some (vi (x + 1)))) st h Q) := R_inc rfl
theorem e_271_43 : Ev X 271 43 ls st h Q ↔ Ev X 271 8 ls st h Q := R_go rfl
theorem e_271_44 : Ev X 271 44 ls st h Q ↔ onI (gl ls 1) (fun z => Ev X 271 45 ls (vi z :: st) h Q) := R_il rfl (Or.inl rfl)
theorem e_271_45 {x : Int} : Ev X 271 45 ls (vi x :: st) h Q ↔ (if ¬ x = 0 then Ev X 271 48 ls st h Q else Ev X 271 46 ls st h Q) := R_ifne rfl
theorem e_271_46 : Ev X 271 46 ls st h Q ↔ onI (gl ls 2) (fun z => Ev X 271 47 ls (vi z :: st) h Q) := R_il rfl (Or.inl rfl)
theorem e_271_47 : Ev X 271 47 ls st h Q ↔ Ev X 271 54 ls st h Q := R_go rfl
theorem e_271_48 : Ev X 271 48 ls st h Q ↔ onI (gl ls 1) (fun z => Ev X 271 49 ls (vi z :: st) h Q) := R_il rfl (Or.inl rfl)
theorem e_271_49 : Ev X 271 49 ls st h Q ↔ Ev X 271 50 ls (vi 1 :: st) h Q := R_kc rfl (Or.inl ⟨Or.inl rfl, by decide⟩)
theorem e_271_50 {x y : Int} : Ev X 271 50 ls (vi y :: vi x :: st) h Q ↔ (if ¬ x = y then Ev X 271 53 ls st h Q else Ev X 271 51 ls st h Q) := R_icne rfl
theorem e_271_51 : Ev X 271 51 ls st h Q ↔ onI (gl ls 3) (fun z => Ev X 271 52 ls (vi z :: st) h Q) := R_il rfl (Or.inl rfl)
theorem e_271_52 : Ev X 271 52 ls st h Q ↔ Ev X 271 54 ls st h Q := R_go rfl
theorem e_271_53 : Ev X 271 53 ls st h Q ↔ onI (gl ls 4) (fun z => Ev X 271 54 ls (vi z :: st) h Q) := R_il rfl (Or.inr rfl)
theorem e_271_54 {z : Int} : Ev X 271 54 ls [vi z] h Q ↔ Q (some (vi z)) h := R_ir rfl
-- 272: CellRowsModel.measure(I)I
theorem e_272_0 : Ev X 272 0 ls st h Q ↔ onR (gl ls 0) (fun z => Ev X 272 1 ls (vr z :: st) h Q) := R_al rfl (Or.inl rfl)
theorem e_272_1 : Ev X 272 1 ls st h Q ↔ Ev X 272 2 ls (vi 0 :: st) h Q := R_kc rfl (Or.inl ⟨Or.inl rfl, by decide⟩)
theorem e_272_2 {x : Nat} {v : Int} : Ev X 272 2 ls (vi v :: vr x :: st) h Q ↔ (X.1 x = 12 ∧ Ev X 272 3 ls st (h.1, up2 h.2 x 0 v) Q) := R_pi rfl
theorem e_272_3 : Ev X 272 3 ls st h Q ↔ onR (gl ls 0) (fun z => Ev X 272 4 ls (vr z :: st) h Q) := R_al rfl (Or.inl rfl)
theorem e_272_4 {rest : List xV}  {o : Nat} : Ev X 272 4 ls (vr o :: rest) h Q ↔ ((X.1 o = 12 ∧ wd rest ≤ 8) ∧ Cl X 267 [vr o] h (fun r h2 => Ev X 272 5 ls (r.toList ++ rest) h2 Q)) := R_cv (x := o) (as := []) (k2 := 267) rfl rfl (Nat.le_of_ble_eq_true rfl)
theorem e_272_5 : Ev X 272 5 ls st h Q ↔ onI (gl ls 1) (fun z => Ev X 272 6 ls (vi z :: st) h Q) := R_il rfl (Or.inl rfl)
theorem e_272_6 {x : Int} : Ev X 272 6 ls (vi x :: st) h Q ↔ Ev X 272 (swt 0 [25, 7, 10, 13, 16, 19, 22] x) ls st h Q := R_sw rfl
theorem e_272_7 : Ev X 272 7 ls st h Q ↔ onR (gl ls 0) (fun z => Ev X 272 8 ls (vr z :: st) h Q) := R_al rfl (Or.inl rfl)
theorem e_272_8 {rest : List xV}  {o : Nat} : Ev X 272 8 ls (vr o :: rest) h Q ↔ ((X.1 o = 12 ∧ wd rest ≤ 8) ∧ Cl X 206 [vr o] h (fun r h2 => Ev X 272 9 ls (r.toList ++ rest) h2 Q)) := R_cv (x := o) (as := []) (k2 := 206) rfl rfl (Nat.le_of_ble_eq_true rfl)
theorem e_272_9 {z : Int} : Ev X 272 9 ls [vi z] h Q ↔ Q (some (vi z)) h := R_ir rfl
theorem e_272_10 : Ev X 272 10 ls st h Q ↔ onR (gl ls 0) (fun z => Ev X 272 11 ls (vr z :: st) h Q) := R_al rfl (Or.inl rfl)
theorem e_272_11 {rest : List xV}  {o : Nat} : Ev X 272 11 ls (vr o :: rest) h Q ↔ ((X.1 o = 12 ∧ wd rest ≤ 8) ∧ Cl X 210 [vr o] h (fun r h2 => Ev X 272 12 ls (r.toList ++ rest) h2 Q)) := R_cv (x := o) (as := []) (k2 := 210) rfl rfl (Nat.le_of_ble_eq_true rfl)
theorem e_272_12 {z : Int} : Ev X 272 12 ls [vi z] h Q ↔ Q (some (vi z)) h := R_ir rfl
theorem e_272_13 : Ev X 272 13 ls st h Q ↔ onR (gl ls 0) (fun z => Ev X 272 14 ls (vr z :: st) h Q) := R_al rfl (Or.inl rfl)
theorem e_272_14 {rest : List xV}  {o : Nat} : Ev X 272 14 ls (vr o :: rest) h Q ↔ ((X.1 o = 12 ∧ wd rest ≤ 8) ∧ Cl X 217 [vr o] h (fun r h2 => Ev X 272 15 ls (r.toList ++ rest) h2 Q)) := R_cv (x := o) (as := []) (k2 := 217) rfl rfl (Nat.le_of_ble_eq_true rfl)
theorem e_272_15 {z : Int} : Ev X 272 15 ls [vi z] h Q ↔ Q (some (vi z)) h := R_ir rfl
theorem e_272_16 : Ev X 272 16 ls st h Q ↔ onR (gl ls 0) (fun z => Ev X 272 17 ls (vr z :: st) h Q) := R_al rfl (Or.inl rfl)
theorem e_272_17 {rest : List xV}  {o : Nat} : Ev X 272 17 ls (vr o :: rest) h Q ↔ ((X.1 o = 12 ∧ wd rest ≤ 8) ∧ Cl X 218 [vr o] h (fun r h2 => Ev X 272 18 ls (r.toList ++ rest) h2 Q)) := R_cv (x := o) (as := []) (k2 := 218) rfl rfl (Nat.le_of_ble_eq_true rfl)
theorem e_272_18 {z : Int} : Ev X 272 18 ls [vi z] h Q ↔ Q (some (vi z)) h := R_ir rfl
theorem e_272_19 : Ev X 272 19 ls st h Q ↔ onR (gl ls 0) (fun z => Ev X 272 20 ls (vr z :: st) h Q) := R_al rfl (Or.inl rfl)
theorem e_272_20 {rest : List xV}  {o : Nat} : Ev X 272 20 ls (vr o :: rest) h Q ↔ ((X.1 o = 12 ∧ wd rest ≤ 8) ∧ Cl X 269 [vr o] h (fun r h2 => Ev X 272 21 ls (r.toList ++ rest) h2 Q)) := R_cv (x := o) (as := []) (k2 := 269) rfl rfl (Nat.le_of_ble_eq_true rfl)
theorem e_272_21 {z : Int} : Ev X 272 21 ls [vi z] h Q ↔ Q (some (vi z)) h := R_ir rfl
theorem e_272_22 : Ev X 272 22 ls st h Q ↔ onR (gl ls 0) (fun z => Ev X 272 23 ls (vr z :: st) h Q) := R_al rfl (Or.inl rfl)
theorem e_272_23 {rest : List xV}  {o : Nat} : Ev X 272 23 ls (vr o :: rest) h Q ↔ ((X.1 o = 12 ∧ wd rest ≤ 8) ∧ Cl X 270 [vr o] h (fun r h2 => Ev X 272 24 ls (r.toList ++ rest) h2 Q)) := R_cv (x := o) (as := []) (k2 := 270) rfl rfl (Nat.le_of_ble_eq_true rfl)
theorem e_272_24 {z : Int} : Ev X 272 24 ls [vi z] h Q ↔ Q (some (vi z)) h := R_ir rfl
theorem e_272_25 : Ev X 272 25 ls st h Q ↔ onI (gl ls 1) (fun z => Ev X 272 26 ls (vi z :: st) h Q) := R_il rfl (Or.inl rfl)
theorem e_272_26 {x : Int} : Ev X 272 26 ls (vi x :: st) h Q ↔ Ev X 272 27 ls (vl x :: st) h Q := R_i2l rfl
theorem e_272_27 : Ev X 272 27 ls st h Q ↔ Ev X 272 28 ls (vl 6 :: st) h Q := R_lc rfl ⟨Or.inr rfl, by decide⟩
theorem e_272_28 : Ev X 272 28 ls st h Q ↔ Ev X 272 29 ls (vl 8 :: st) h Q := R_lc rfl ⟨Or.inr rfl, by decide⟩
theorem e_272_29 {rest : List xV} {a0 : Int} {a1 : Int} {a2 : Int} : Ev X 272 29 ls ((vl a2) :: (vl a1) :: (vl a0) :: rest) h Q ↔ (wd rest ≤ 8 ∧ Cl X 149 [vl a0, vl a1, vl a2] h (fun r h2 => Ev X 272 30 ls (r.toList ++ rest) h2 Q)) := R_cs (as := [vl a0, vl a1, vl a2]) (k2 := 149) rfl rfl (Nat.le_of_ble_eq_true rfl)
theorem e_272_30 {x : Int} : Ev X 272 30 ls (vi x :: st) h Q ↔ (if x = 0 then Ev X 272 37 ls st h Q else Ev X 272 31 ls st h Q) := R_ifeq rfl
theorem e_272_31 : Ev X 272 31 ls st h Q ↔ onR (gl ls 0) (fun z => Ev X 272 32 ls (vr z :: st) h Q) := R_al rfl (Or.inl rfl)
theorem e_272_32 : Ev X 272 32 ls st h Q ↔ onI (gl ls 1) (fun z => Ev X 272 33 ls (vi z :: st) h Q) := R_il rfl (Or.inl rfl)
theorem e_272_33 : Ev X 272 33 ls st h Q ↔ Ev X 272 34 ls (vi 6 :: st) h Q := R_kc rfl (Or.inr (Or.inl ⟨rfl, by decide⟩))
theorem e_272_34 {x y : Int} : Ev X 272 34 ls (vi y :: vi x :: st) h Q ↔ ((inR (x - y)) ∧ Ev X 272 35 ls (vi (x - y) :: st) h Q) := R_sub rfl
theorem e_272_35 {rest : List xV} {a0 : Int} {o : Nat} : Ev X 272 35 ls ((vi a0) :: vr o :: rest) h Q ↔ ((X.1 o = 12 ∧ wd rest ≤ 8) ∧ Cl X 271 [vr o, vi a0] h (fun r h2 => Ev X 272 36 ls (r.toList ++ rest) h2 Q)) := R_cv (x := o) (as := [vi a0]) (k2 := 271) rfl rfl (Nat.le_of_ble_eq_true rfl)
theorem e_272_36 : Ev X 272 36 ls st h Q ↔ Ev X 272 38 ls st h Q := R_go rfl
theorem e_272_37 : Ev X 272 37 ls st h Q ↔ Ev X 272 38 ls (vi (-1) :: st) h Q := R_kc rfl (Or.inl ⟨Or.inl rfl, by decide⟩)
theorem e_272_38 {z : Int} : Ev X 272 38 ls [vi z] h Q ↔ Q (some (vi z)) h := R_ir rfl
-- 273: CellRowsModel.isRunKind(II)Z
theorem e_273_0 : Ev X 273 0 ls st h Q ↔ onI (gl ls 1) (fun z => Ev X 273 1 ls (vi z :: st) h Q) := R_il rfl (Or.inl rfl)
theorem e_273_1 {x : Int} : Ev X 273 1 ls (vi x :: st) h Q ↔ Ev X 273 2 ls (vl x :: st) h Q := R_i2l rfl
theorem e_273_2 : Ev X 273 2 ls st h Q ↔ Ev X 273 3 ls (vl 0 :: st) h Q := R_lc rfl ⟨Or.inl rfl, by decide⟩
theorem e_273_3 : Ev X 273 3 ls st h Q ↔ onR (gl ls 0) (fun z => Ev X 273 4 ls (vr z :: st) h Q) := R_al rfl (Or.inl rfl)
theorem e_273_4 {x : Nat} : Ev X 273 4 ls (vr x :: st) h Q ↔ (X.1 x = 12 ∧ Ev X 273 5 ls (vi (h.2 x 2) :: st) h Q) := R_gi rfl
theorem e_273_5 {x : Int} : Ev X 273 5 ls (vi x :: st) h Q ↔ Ev X 273 6 ls (vl x :: st) h Q := R_i2l rfl
theorem e_273_6 : Ev X 273 6 ls st h Q ↔ Ev X 273 7 ls (vl 1 :: st) h Q := R_lc rfl ⟨Or.inl rfl, by decide⟩
theorem e_273_7 {x y : Int} : Ev X 273 7 ls (vl y :: vl x :: st) h Q ↔ ((inL (x - y)) ∧ Ev X 273 8 ls (vl (x - y) :: st) h Q) := R_lsub rfl
theorem e_273_8 {rest : List xV} {a0 : Int} {a1 : Int} {a2 : Int} : Ev X 273 8 ls ((vl a2) :: (vl a1) :: (vl a0) :: rest) h Q ↔ (wd rest ≤ 8 ∧ Cl X 149 [vl a0, vl a1, vl a2] h (fun r h2 => Ev X 273 9 ls (r.toList ++ rest) h2 Q)) := R_cs (as := [vl a0, vl a1, vl a2]) (k2 := 149) rfl rfl (Nat.le_of_ble_eq_true rfl)
theorem e_273_9 {x : Int} : Ev X 273 9 ls (vi x :: st) h Q ↔ (if x = 0 then Ev X 273 19 ls st h Q else Ev X 273 10 ls st h Q) := R_ifeq rfl
theorem e_273_10 : Ev X 273 10 ls st h Q ↔ onI (gl ls 2) (fun z => Ev X 273 11 ls (vi z :: st) h Q) := R_il rfl (Or.inl rfl)
theorem e_273_11 : Ev X 273 11 ls st h Q ↔ Ev X 273 12 ls (vi (-1) :: st) h Q := R_kc rfl (Or.inl ⟨Or.inl rfl, by decide⟩)
theorem e_273_12 {x y : Int} : Ev X 273 12 ls (vi y :: vi x :: st) h Q ↔ (if x = y then Ev X 273 17 ls st h Q else Ev X 273 13 ls st h Q) := R_iceq rfl
theorem e_273_13 : Ev X 273 13 ls st h Q ↔ onR (gl ls 0) (fun z => Ev X 273 14 ls (vr z :: st) h Q) := R_al rfl (Or.inl rfl)
theorem e_273_14 : Ev X 273 14 ls st h Q ↔ onI (gl ls 2) (fun z => Ev X 273 15 ls (vi z :: st) h Q) := R_il rfl (Or.inl rfl)
theorem e_273_15 {rest : List xV} {a0 : Int} {o : Nat} : Ev X 273 15 ls ((vi a0) :: vr o :: rest) h Q ↔ ((X.1 o = 12 ∧ wd rest ≤ 8) ∧ Cl X 169 [vr o, vi a0] h (fun r h2 => Ev X 273 16 ls (r.toList ++ rest) h2 Q)) := R_cv (x := o) (as := [vi a0]) (k2 := 169) rfl rfl (Nat.le_of_ble_eq_true rfl)
theorem e_273_16 {x : Int} : Ev X 273 16 ls (vi x :: st) h Q ↔ (if x = 0 then Ev X 273 19 ls st h Q else Ev X 273 17 ls st h Q) := R_ifeq rfl
theorem e_273_17 : Ev X 273 17 ls st h Q ↔ Ev X 273 18 ls (vi 1 :: st) h Q := R_kc rfl (Or.inl ⟨Or.inl rfl, by decide⟩)
theorem e_273_18 : Ev X 273 18 ls st h Q ↔ Ev X 273 20 ls st h Q := R_go rfl
theorem e_273_19 : Ev X 273 19 ls st h Q ↔ Ev X 273 20 ls (vi 0 :: st) h Q := R_kc rfl (Or.inl ⟨Or.inl rfl, by decide⟩)
theorem e_273_20 {z : Int} : Ev X 273 20 ls [vi z] h Q ↔ ((z = 0 ∨ z = 1) ∧ Q (some (vi z)) h) := R_zr rfl
-- 274: CellRowsModel.runs(II)I
theorem e_274_0 : Ev X 274 0 ls st h Q ↔ onR (gl ls 0) (fun z => Ev X 274 1 ls (vr z :: st) h Q) := R_al rfl (Or.inl rfl)
theorem e_274_1 : Ev X 274 1 ls st h Q ↔ Ev X 274 2 ls (vi 0 :: st) h Q := R_kc rfl (Or.inl ⟨Or.inl rfl, by decide⟩)
theorem e_274_2 {x : Nat} {v : Int} : Ev X 274 2 ls (vi v :: vr x :: st) h Q ↔ (X.1 x = 12 ∧ Ev X 274 3 ls st (h.1, up2 h.2 x 0 v) Q) := R_pi rfl
theorem e_274_3 : Ev X 274 3 ls st h Q ↔ onR (gl ls 0) (fun z => Ev X 274 4 ls (vr z :: st) h Q) := R_al rfl (Or.inl rfl)
theorem e_274_4 : Ev X 274 4 ls st h Q ↔ onI (gl ls 1) (fun z => Ev X 274 5 ls (vi z :: st) h Q) := R_il rfl (Or.inl rfl)
theorem e_274_5 : Ev X 274 5 ls st h Q ↔ onI (gl ls 2) (fun z => Ev X 274 6 ls (vi z :: st) h Q) := R_il rfl (Or.inl rfl)
theorem e_274_6 {rest : List xV} {a0 : Int} {a1 : Int} {o : Nat} : Ev X 274 6 ls ((vi a1) :: (vi a0) :: vr o :: rest) h Q ↔ ((X.1 o = 12 ∧ wd rest ≤ 8) ∧ Cl X 273 [vr o, vi a0, vi a1] h (fun r h2 => Ev X 274 7 ls (r.toList ++ rest) h2 Q)) := R_cv (x := o) (as := [vi a0, vi a1]) (k2 := 273) rfl rfl (Nat.le_of_ble_eq_true rfl)
theorem e_274_7 {x : Int} : Ev X 274 7 ls (vi x :: st) h Q ↔ (if ¬ x = 0 then Ev X 274 10 ls st h Q else Ev X 274 8 ls st h Q) := R_ifne rfl
theorem e_274_8 : Ev X 274 8 ls st h Q ↔ Ev X 274 9 ls (vi (-1) :: st) h Q := R_kc rfl (Or.inl ⟨Or.inl rfl, by decide⟩)
theorem e_274_9 {z : Int} : Ev X 274 9 ls [vi z] h Q ↔ Q (some (vi z)) h := R_ir rfl
theorem e_274_10 : Ev X 274 10 ls st h Q ↔ onR (gl ls 0) (fun z => Ev X 274 11 ls (vr z :: st) h Q) := R_al rfl (Or.inl rfl)
theorem e_274_11 {rest : List xV}  {o : Nat} : Ev X 274 11 ls (vr o :: rest) h Q ↔ ((X.1 o = 12 ∧ wd rest ≤ 8) ∧ Cl X 231 [vr o] h (fun r h2 => Ev X 274 12 ls (r.toList ++ rest) h2 Q)) := R_cv (x := o) (as := []) (k2 := 231) rfl rfl (Nat.le_of_ble_eq_true rfl)
theorem e_274_12 : Ev X 274 12 ls st h Q ↔ Ev X 274 13 ls (vi 0 :: st) h Q := R_kc rfl (Or.inl ⟨Or.inl rfl, by decide⟩)
theorem e_274_13 {x : Int} : Ev X 274 13 ls (vi x :: st) h Q ↔ (stOK ls 3 = true ∧ Ev X 274 14 (ls.set 3 (some (vi x))) st h Q) := R_is rfl (Or.inl rfl)
theorem e_274_14 : Ev X 274 14 ls st h Q ↔ onR (gl ls 0) (fun z => Ev X 274 15 ls (vr z :: st) h Q) := R_al rfl (Or.inl rfl)
theorem e_274_15 : Ev X 274 15 ls st h Q ↔ onI (gl ls 1) (fun z => Ev X 274 16 ls (vi z :: st) h Q) := R_il rfl (Or.inl rfl)
theorem e_274_16 : Ev X 274 16 ls st h Q ↔ onI (gl ls 2) (fun z => Ev X 274 17 ls (vi z :: st) h Q) := R_il rfl (Or.inl rfl)
theorem e_274_17 : Ev X 274 17 ls st h Q ↔ onI (gl ls 3) (fun z => Ev X 274 18 ls (vi z :: st) h Q) := R_il rfl (Or.inl rfl)
theorem e_274_18 {rest : List xV} {a0 : Int} {a1 : Int} {a2 : Int} {o : Nat} : Ev X 274 18 ls ((vi a2) :: (vi a1) :: (vi a0) :: vr o :: rest) h Q ↔ ((X.1 o = 12 ∧ wd rest ≤ 8) ∧ Cl X 232 [vr o, vi a0, vi a1, vi a2] h (fun r h2 => Ev X 274 19 ls (r.toList ++ rest) h2 Q)) := R_cv (x := o) (as := [vi a0, vi a1, vi a2]) (k2 := 232) rfl rfl (Nat.le_of_ble_eq_true rfl)
theorem e_274_19 : Ev X 274 19 ls st h Q ↔ Ev X 274 20 ls (vi (-1) :: st) h Q := R_kc rfl (Or.inl ⟨Or.inl rfl, by decide⟩)
theorem e_274_20 {x y : Int} : Ev X 274 20 ls (vi y :: vi x :: st) h Q ↔ (if x = y then Ev X 274 23 ls st h Q else Ev X 274 21 ls st h Q) := R_iceq rfl
theorem e_274_21 : Ev X 274 21 ls st h Q ↔ onI (gl ls 3) (fun x => (stOK ls 3 = true ∧ inR (x + 1)) ∧ Ev X 274 22 (ls.set 3 (some (vi (x + 1)))) st h Q) := R_inc rfl
theorem e_274_22 : Ev X 274 22 ls st h Q ↔ Ev X 274 14 ls st h Q := R_go rfl
theorem e_274_23 : Ev X 274 23 ls st h Q ↔ onI (gl ls 3) (fun z => Ev X 274 24 ls (vi z :: st) h Q) := R_il rfl (Or.inl rfl)
theorem e_274_24 {z : Int} : Ev X 274 24 ls [vi z] h Q ↔ Q (some (vi z)) h := R_ir rfl
-- 275: CellRowsModel.run(IIII)I
theorem e_275_0 : Ev X 275 0 ls st h Q ↔ onR (gl ls 0) (fun z => Ev X 275 1 ls (vr z :: st) h Q) := R_al rfl (Or.inl rfl)
theorem e_275_1 : Ev X 275 1 ls st h Q ↔ Ev X 275 2 ls (vi 0 :: st) h Q := R_kc rfl (Or.inl ⟨Or.inl rfl, by decide⟩)
theorem e_275_2 {x : Nat} {v : Int} : Ev X 275 2 ls (vi v :: vr x :: st) h Q ↔ (X.1 x = 12 ∧ Ev X 275 3 ls st (h.1, up2 h.2 x 0 v) Q) := R_pi rfl
theorem e_275_3 : Ev X 275 3 ls st h Q ↔ onR (gl ls 0) (fun z => Ev X 275 4 ls (vr z :: st) h Q) := R_al rfl (Or.inl rfl)
theorem e_275_4 : Ev X 275 4 ls st h Q ↔ onI (gl ls 1) (fun z => Ev X 275 5 ls (vi z :: st) h Q) := R_il rfl (Or.inl rfl)
theorem e_275_5 : Ev X 275 5 ls st h Q ↔ onI (gl ls 2) (fun z => Ev X 275 6 ls (vi z :: st) h Q) := R_il rfl (Or.inl rfl)
theorem e_275_6 {rest : List xV} {a0 : Int} {a1 : Int} {o : Nat} : Ev X 275 6 ls ((vi a1) :: (vi a0) :: vr o :: rest) h Q ↔ ((X.1 o = 12 ∧ wd rest ≤ 8) ∧ Cl X 273 [vr o, vi a0, vi a1] h (fun r h2 => Ev X 275 7 ls (r.toList ++ rest) h2 Q)) := R_cv (x := o) (as := [vi a0, vi a1]) (k2 := 273) rfl rfl (Nat.le_of_ble_eq_true rfl)
theorem e_275_7 {x : Int} : Ev X 275 7 ls (vi x :: st) h Q ↔ (if ¬ x = 0 then Ev X 275 10 ls st h Q else Ev X 275 8 ls st h Q) := R_ifne rfl
theorem e_275_8 : Ev X 275 8 ls st h Q ↔ Ev X 275 9 ls (vi (-1) :: st) h Q := R_kc rfl (Or.inl ⟨Or.inl rfl, by decide⟩)
theorem e_275_9 {z : Int} : Ev X 275 9 ls [vi z] h Q ↔ Q (some (vi z)) h := R_ir rfl
theorem e_275_10 : Ev X 275 10 ls st h Q ↔ onR (gl ls 0) (fun z => Ev X 275 11 ls (vr z :: st) h Q) := R_al rfl (Or.inl rfl)
theorem e_275_11 {rest : List xV}  {o : Nat} : Ev X 275 11 ls (vr o :: rest) h Q ↔ ((X.1 o = 12 ∧ wd rest ≤ 8) ∧ Cl X 231 [vr o] h (fun r h2 => Ev X 275 12 ls (r.toList ++ rest) h2 Q)) := R_cv (x := o) (as := []) (k2 := 231) rfl rfl (Nat.le_of_ble_eq_true rfl)
theorem e_275_12 : Ev X 275 12 ls st h Q ↔ onR (gl ls 0) (fun z => Ev X 275 13 ls (vr z :: st) h Q) := R_al rfl (Or.inl rfl)
theorem e_275_13 : Ev X 275 13 ls st h Q ↔ onI (gl ls 1) (fun z => Ev X 275 14 ls (vi z :: st) h Q) := R_il rfl (Or.inl rfl)
theorem e_275_14 : Ev X 275 14 ls st h Q ↔ onI (gl ls 2) (fun z => Ev X 275 15 ls (vi z :: st) h Q) := R_il rfl (Or.inl rfl)
theorem e_275_15 : Ev X 275 15 ls st h Q ↔ onI (gl ls 3) (fun z => Ev X 275 16 ls (vi z :: st) h Q) := R_il rfl (Or.inl rfl)
theorem e_275_16 {rest : List xV} {a0 : Int} {a1 : Int} {a2 : Int} {o : Nat} : Ev X 275 16 ls ((vi a2) :: (vi a1) :: (vi a0) :: vr o :: rest) h Q ↔ ((X.1 o = 12 ∧ wd rest ≤ 8) ∧ Cl X 232 [vr o, vi a0, vi a1, vi a2] h (fun r h2 => Ev X 275 17 ls (r.toList ++ rest) h2 Q)) := R_cv (x := o) (as := [vi a0, vi a1, vi a2]) (k2 := 232) rfl rfl (Nat.le_of_ble_eq_true rfl)
theorem e_275_17 {x : Int} : Ev X 275 17 ls (vi x :: st) h Q ↔ (stOK ls 5 = true ∧ Ev X 275 18 (ls.set 5 (some (vi x))) st h Q) := R_is rfl (Or.inr rfl)
theorem e_275_18 : Ev X 275 18 ls st h Q ↔ onI (gl ls 5) (fun z => Ev X 275 19 ls (vi z :: st) h Q) := R_il rfl (Or.inr rfl)
theorem e_275_19 : Ev X 275 19 ls st h Q ↔ Ev X 275 20 ls (vi (-1) :: st) h Q := R_kc rfl (Or.inl ⟨Or.inl rfl, by decide⟩)
theorem e_275_20 {x y : Int} : Ev X 275 20 ls (vi y :: vi x :: st) h Q ↔ (if ¬ x = y then Ev X 275 23 ls st h Q else Ev X 275 21 ls st h Q) := R_icne rfl
theorem e_275_21 : Ev X 275 21 ls st h Q ↔ Ev X 275 22 ls (vi (-1) :: st) h Q := R_kc rfl (Or.inl ⟨Or.inl rfl, by decide⟩)
theorem e_275_22 {z : Int} : Ev X 275 22 ls [vi z] h Q ↔ Q (some (vi z)) h := R_ir rfl
theorem e_275_23 : Ev X 275 23 ls st h Q ↔ onR (gl ls 0) (fun z => Ev X 275 24 ls (vr z :: st) h Q) := R_al rfl (Or.inl rfl)
theorem e_275_24 : Ev X 275 24 ls st h Q ↔ onI (gl ls 5) (fun z => Ev X 275 25 ls (vi z :: st) h Q) := R_il rfl (Or.inr rfl)
theorem e_275_25 {rest : List xV} {a0 : Int} {o : Nat} : Ev X 275 25 ls ((vi a0) :: vr o :: rest) h Q ↔ ((X.1 o = 12 ∧ wd rest ≤ 8) ∧ Cl X 233 [vr o, vi a0] h (fun r h2 => Ev X 275 26 ls (r.toList ++ rest) h2 Q)) := R_cv (x := o) (as := [vi a0]) (k2 := 233) rfl rfl (Nat.le_of_ble_eq_true rfl)
theorem e_275_26 : Ev X 275 26 ls st h Q ↔ onR (gl ls 0) (fun z => Ev X 275 27 ls (vr z :: st) h Q) := R_al rfl (Or.inl rfl)
theorem e_275_27 : Ev X 275 27 ls st h Q ↔ onR (gl ls 0) (fun z => Ev X 275 28 ls (vr z :: st) h Q) := R_al rfl (Or.inl rfl)
theorem e_275_28 {x : Nat} : Ev X 275 28 ls (vr x :: st) h Q ↔ (X.1 x = 12 ∧ Ev X 275 29 ls (vi (h.2 x 20) :: st) h Q) := R_gi rfl
theorem e_275_29 {x : Nat} {v : Int} : Ev X 275 29 ls (vi v :: vr x :: st) h Q ↔ (X.1 x = 12 ∧ Ev X 275 30 ls st (h.1, up2 h.2 x 25 v) Q) := R_pi rfl
theorem e_275_30 : Ev X 275 30 ls st h Q ↔ Ev X 275 31 ls (vi 0 :: st) h Q := R_kc rfl (Or.inl ⟨Or.inl rfl, by decide⟩)
theorem e_275_31 {x : Int} : Ev X 275 31 ls (vi x :: st) h Q ↔ (stOK ls 6 = true ∧ Ev X 275 32 (ls.set 6 (some (vi x))) st h Q) := R_is rfl (Or.inr rfl)
theorem e_275_32 : Ev X 275 32 ls st h Q ↔ onI (gl ls 6) (fun z => Ev X 275 33 ls (vi z :: st) h Q) := R_il rfl (Or.inr rfl)
theorem e_275_33 : Ev X 275 33 ls st h Q ↔ onR (gl ls 0) (fun z => Ev X 275 34 ls (vr z :: st) h Q) := R_al rfl (Or.inl rfl)
theorem e_275_34 {x : Nat} : Ev X 275 34 ls (vr x :: st) h Q ↔ (X.1 x = 12 ∧ Ev X 275 35 ls (vi (h.2 x 20) :: st) h Q) := R_gi rfl
theorem e_275_35 {x y : Int} : Ev X 275 35 ls (vi y :: vi x :: st) h Q ↔ (if y ≤ x then Ev X 275 46 ls st h Q else Ev X 275 36 ls st h Q) := R_icge rfl
theorem e_275_36 : Ev X 275 36 ls st h Q ↔ onR (gl ls 0) (fun z => Ev X 275 37 ls (vr z :: st) h Q) := R_al rfl (Or.inl rfl)
theorem e_275_37 {x : Nat} : Ev X 275 37 ls (vr x :: st) h Q ↔ (X.1 x = 12 ∧ Ev X 275 38 ls (vr (X.2.2.1 x 24) :: st) h Q) := R_gr rfl
theorem e_275_38 : Ev X 275 38 ls st h Q ↔ onI (gl ls 6) (fun z => Ev X 275 39 ls (vi z :: st) h Q) := R_il rfl (Or.inr rfl)
theorem e_275_39 : Ev X 275 39 ls st h Q ↔ onR (gl ls 0) (fun z => Ev X 275 40 ls (vr z :: st) h Q) := R_al rfl (Or.inl rfl)
theorem e_275_40 {x : Nat} : Ev X 275 40 ls (vr x :: st) h Q ↔ (X.1 x = 12 ∧ Ev X 275 41 ls (vr (X.2.2.1 x 19) :: st) h Q) := R_gr rfl
theorem e_275_41 : Ev X 275 41 ls st h Q ↔ onI (gl ls 6) (fun z => Ev X 275 42 ls (vi z :: st) h Q) := R_il rfl (Or.inr rfl)
theorem e_275_42 {x : Nat} {j : Int} : Ev X 275 42 ls (vi j :: vr x :: st) h Q ↔ (((X.1 x = 13 ∨ X.1 x = 20) ∧ 0 ≤ j ∧ j < X.2.1 x) ∧ Ev X 275 43 ls (vi (h.1 x j.toNat) :: st) h Q) := R_ia rfl
theorem e_275_43 {x : Nat} {j v : Int} : Ev X 275 43 ls (vi v :: vi j :: vr x :: st) h Q ↔ ((X.1 x = 13 ∧ 0 ≤ j ∧ j < X.2.1 x) ∧ Ev X 275 44 ls st (up2 h.1 x j.toNat v, h.2) Q) := R_ias rfl
theorem e_275_44 : Ev X 275 44 ls st h Q ↔ onI (gl ls 6) (fun x => (stOK ls 6 = true ∧ inR (x + 1)) ∧ Ev X 275 45 (ls.set 6 (some (vi (x + 1)))) st h Q) := R_inc rfl
theorem e_275_45 : Ev X 275 45 ls st h Q ↔ Ev X 275 32 ls st h Q := R_go rfl
theorem e_275_46 : Ev X 275 46 ls st h Q ↔ onI (gl ls 4) (fun z => Ev X 275 47 ls (vi z :: st) h Q) := R_il rfl (Or.inr rfl)
theorem e_275_47 {x : Int} : Ev X 275 47 ls (vi x :: st) h Q ↔ Ev X 275 (swt 0 [73, 48, 53, 58, 61, 69] x) ls st h Q := R_sw rfl
theorem e_275_48 : Ev X 275 48 ls st h Q ↔ onR (gl ls 0) (fun z => Ev X 275 49 ls (vr z :: st) h Q) := R_al rfl (Or.inl rfl)
theorem e_275_49 {x : Nat} : Ev X 275 49 ls (vr x :: st) h Q ↔ (X.1 x = 12 ∧ Ev X 275 50 ls (vr (X.2.2.1 x 16) :: st) h Q) := R_gr rfl
theorem e_275_50 : Ev X 275 50 ls st h Q ↔ onI (gl ls 5) (fun z => Ev X 275 51 ls (vi z :: st) h Q) := R_il rfl (Or.inr rfl)
theorem e_275_51 {x : Nat} {j : Int} : Ev X 275 51 ls (vi j :: vr x :: st) h Q ↔ (((X.1 x = 13 ∨ X.1 x = 20) ∧ 0 ≤ j ∧ j < X.2.1 x) ∧ Ev X 275 52 ls (vi (h.1 x j.toNat) :: st) h Q) := R_ia rfl
theorem e_275_52 {z : Int} : Ev X 275 52 ls [vi z] h Q ↔ Q (some (vi z)) h := R_ir rfl
theorem e_275_53 : Ev X 275 53 ls st h Q ↔ onR (gl ls 0) (fun z => Ev X 275 54 ls (vr z :: st) h Q) := R_al rfl (Or.inl rfl)
theorem e_275_54 {x : Nat} : Ev X 275 54 ls (vr x :: st) h Q ↔ (X.1 x = 12 ∧ Ev X 275 55 ls (vr (X.2.2.1 x 17) :: st) h Q) := R_gr rfl
theorem e_275_55 : Ev X 275 55 ls st h Q ↔ onI (gl ls 5) (fun z => Ev X 275 56 ls (vi z :: st) h Q) := R_il rfl (Or.inr rfl)
theorem e_275_56 {x : Nat} {j : Int} : Ev X 275 56 ls (vi j :: vr x :: st) h Q ↔ (((X.1 x = 13 ∨ X.1 x = 20) ∧ 0 ≤ j ∧ j < X.2.1 x) ∧ Ev X 275 57 ls (vi (h.1 x j.toNat) :: st) h Q) := R_ia rfl
theorem e_275_57 {z : Int} : Ev X 275 57 ls [vi z] h Q ↔ Q (some (vi z)) h := R_ir rfl
theorem e_275_58 : Ev X 275 58 ls st h Q ↔ onR (gl ls 0) (fun z => Ev X 275 59 ls (vr z :: st) h Q) := R_al rfl (Or.inl rfl)
theorem e_275_59 {x : Nat} : Ev X 275 59 ls (vr x :: st) h Q ↔ (X.1 x = 12 ∧ Ev X 275 60 ls (vi (h.2 x 20) :: st) h Q) := R_gi rfl
theorem e_275_60 {z : Int} : Ev X 275 60 ls [vi z] h Q ↔ Q (some (vi z)) h := R_ir rfl
theorem e_275_61 : Ev X 275 61 ls st h Q ↔ onR (gl ls 0) (fun z => Ev X 275 62 ls (vr z :: st) h Q) := R_al rfl (Or.inl rfl)
theorem e_275_62 {x : Nat} : Ev X 275 62 ls (vr x :: st) h Q ↔ (X.1 x = 12 ∧ Ev X 275 63 ls (vr (X.2.2.1 x 17) :: st) h Q) := R_gr rfl
theorem e_275_63 : Ev X 275 63 ls st h Q ↔ onI (gl ls 5) (fun z => Ev X 275 64 ls (vi z :: st) h Q) := R_il rfl (Or.inr rfl)
theorem e_275_64 {x : Nat} {j : Int} : Ev X 275 64 ls (vi j :: vr x :: st) h Q ↔ (((X.1 x = 13 ∨ X.1 x = 20) ∧ 0 ≤ j ∧ j < X.2.1 x) ∧ Ev X 275 65 ls (vi (h.1 x j.toNat) :: st) h Q) := R_ia rfl
theorem e_275_65 : Ev X 275 65 ls st h Q ↔ onR (gl ls 0) (fun z => Ev X 275 66 ls (vr z :: st) h Q) := R_al rfl (Or.inl rfl)
theorem e_275_66 {rest : List xV}  {o : Nat} : Ev X 275 66 ls (vr o :: rest) h Q ↔ ((X.1 o = 12 ∧ wd rest ≤ 8) ∧ Cl X 237 [vr o] h (fun r h2 => Ev X 275 67 ls (r.toList ++ rest) h2 Q)) := R_cv (x := o) (as := []) (k2 := 237) rfl rfl (Nat.le_of_ble_eq_true rfl)
theorem e_275_67 {x y : Int} : Ev X 275 67 ls (vi y :: vi x :: st) h Q ↔ ((inR (x - y)) ∧ Ev X 275 68 ls (vi (x - y) :: st) h Q) := R_sub rfl
theorem e_275_68 {z : Int} : Ev X 275 68 ls [vi z] h Q ↔ Q (some (vi z)) h := R_ir rfl
theorem e_275_69 : Ev X 275 69 ls st h Q ↔ onR (gl ls 0) (fun z => Ev X 275 70 ls (vr z :: st) h Q) := R_al rfl (Or.inl rfl)
theorem e_275_70 : Ev X 275 70 ls st h Q ↔ onI (gl ls 5) (fun z => Ev X 275 71 ls (vi z :: st) h Q) := R_il rfl (Or.inr rfl)
theorem e_275_71 {rest : List xV} {a0 : Int} {o : Nat} : Ev X 275 71 ls ((vi a0) :: vr o :: rest) h Q ↔ ((X.1 o = 12 ∧ wd rest ≤ 8) ∧ Cl X 235 [vr o, vi a0] h (fun r h2 => Ev X 275 72 ls (r.toList ++ rest) h2 Q)) := R_cv (x := o) (as := [vi a0]) (k2 := 235) rfl rfl (Nat.le_of_ble_eq_true rfl)
theorem e_275_72 {z : Int} : Ev X 275 72 ls [vi z] h Q ↔ Q (some (vi z)) h := R_ir rfl
theorem e_275_73 : Ev X 275 73 ls st h Q ↔ onI (gl ls 4) (fun z => Ev X 275 74 ls (vi z :: st) h Q) := R_il rfl (Or.inr rfl)
theorem e_275_74 {x : Int} : Ev X 275 74 ls (vi x :: st) h Q ↔ Ev X 275 75 ls (vl x :: st) h Q := R_i2l rfl
theorem e_275_75 : Ev X 275 75 ls st h Q ↔ Ev X 275 76 ls (vl 10 :: st) h Q := R_lc rfl ⟨Or.inr rfl, by decide⟩
theorem e_275_76 : Ev X 275 76 ls st h Q ↔ Ev X 275 77 ls (vl 9 :: st) h Q := R_lc rfl ⟨Or.inr rfl, by decide⟩
theorem e_275_77 : Ev X 275 77 ls st h Q ↔ onR (gl ls 0) (fun z => Ev X 275 78 ls (vr z :: st) h Q) := R_al rfl (Or.inl rfl)
theorem e_275_78 {x : Nat} : Ev X 275 78 ls (vr x :: st) h Q ↔ (X.1 x = 12 ∧ Ev X 275 79 ls (vi (h.2 x 20) :: st) h Q) := R_gi rfl
theorem e_275_79 {x : Int} : Ev X 275 79 ls (vi x :: st) h Q ↔ Ev X 275 80 ls (vl x :: st) h Q := R_i2l rfl
theorem e_275_80 {x y : Int} : Ev X 275 80 ls (vl y :: vl x :: st) h Q ↔ ((inL (x + y)) ∧ Ev X 275 81 ls (vl (x + y) :: st) h Q) := R_ladd rfl
theorem e_275_81 {rest : List xV} {a0 : Int} {a1 : Int} {a2 : Int} : Ev X 275 81 ls ((vl a2) :: (vl a1) :: (vl a0) :: rest) h Q ↔ (wd rest ≤ 8 ∧ Cl X 149 [vl a0, vl a1, vl a2] h (fun r h2 => Ev X 275 82 ls (r.toList ++ rest) h2 Q)) := R_cs (as := [vl a0, vl a1, vl a2]) (k2 := 149) rfl rfl (Nat.le_of_ble_eq_true rfl)
theorem e_275_82 {x : Int} : Ev X 275 82 ls (vi x :: st) h Q ↔ (if x = 0 then Ev X 275 90 ls st h Q else Ev X 275 83 ls st h Q) := R_ifeq rfl
theorem e_275_83 : Ev X 275 83 ls st h Q ↔ onR (gl ls 0) (fun z => Ev X 275 84 ls (vr z :: st) h Q) := R_al rfl (Or.inl rfl)
theorem e_275_84 {x : Nat} : Ev X 275 84 ls (vr x :: st) h Q ↔ (X.1 x = 12 ∧ Ev X 275 85 ls (vr (X.2.2.1 x 19) :: st) h Q) := R_gr rfl
theorem e_275_85 : Ev X 275 85 ls st h Q ↔ onI (gl ls 4) (fun z => Ev X 275 86 ls (vi z :: st) h Q) := R_il rfl (Or.inr rfl)
theorem e_275_86 : Ev X 275 86 ls st h Q ↔ Ev X 275 87 ls (vi 10 :: st) h Q := R_kc rfl (Or.inr (Or.inl ⟨rfl, by decide⟩))
theorem e_275_87 {x y : Int} : Ev X 275 87 ls (vi y :: vi x :: st) h Q ↔ ((inR (x - y)) ∧ Ev X 275 88 ls (vi (x - y) :: st) h Q) := R_sub rfl
theorem e_275_88 {x : Nat} {j : Int} : Ev X 275 88 ls (vi j :: vr x :: st) h Q ↔ (((X.1 x = 13 ∨ X.1 x = 20) ∧ 0 ≤ j ∧ j < X.2.1 x) ∧ Ev X 275 89 ls (vi (h.1 x j.toNat) :: st) h Q) := R_ia rfl
theorem e_275_89 : Ev X 275 89 ls st h Q ↔ Ev X 275 91 ls st h Q := R_go rfl
theorem e_275_90 : Ev X 275 90 ls st h Q ↔ Ev X 275 91 ls (vi (-1) :: st) h Q := R_kc rfl (Or.inl ⟨Or.inl rfl, by decide⟩)
theorem e_275_91 {z : Int} : Ev X 275 91 ls [vi z] h Q ↔ Q (some (vi z)) h := R_ir rfl
-- 276: CellRowsModel.wireWith(III)I
theorem e_276_0 : Ev X 276 0 ls st h Q ↔ onR (gl ls 0) (fun z => Ev X 276 1 ls (vr z :: st) h Q) := R_al rfl (Or.inl rfl)
theorem e_276_1 {x : Nat} : Ev X 276 1 ls (vr x :: st) h Q ↔ (X.1 x = 12 ∧ Ev X 276 2 ls (vr (X.2.2.1 x 6) :: st) h Q) := R_gr rfl
theorem e_276_2 : Ev X 276 2 ls st h Q ↔ onI (gl ls 1) (fun z => Ev X 276 3 ls (vi z :: st) h Q) := R_il rfl (Or.inl rfl)
theorem e_276_3 {rest : List xV} {a0 : Int} : Ev X 276 3 ls ((vi a0) :: rest) h Q ↔ (wd rest ≤ 8 ∧ Cl X 158 [vi a0] h (fun r h2 => Ev X 276 4 ls (r.toList ++ rest) h2 Q)) := R_cs (as := [vi a0]) (k2 := 158) rfl rfl (Nat.le_of_ble_eq_true rfl)
theorem e_276_4 : Ev X 276 4 ls st h Q ↔ Ev X 276 5 ls (vi 5 :: st) h Q := R_kc rfl (Or.inl ⟨Or.inl rfl, by decide⟩)
theorem e_276_5 {x y : Int} : Ev X 276 5 ls (vi y :: vi x :: st) h Q ↔ ((inR (x + y)) ∧ Ev X 276 6 ls (vi (x + y) :: st) h Q) := R_add rfl
theorem e_276_6 {x : Nat} {j : Int} : Ev X 276 6 ls (vi j :: vr x :: st) h Q ↔ (((X.1 x = 13 ∨ X.1 x = 20) ∧ 0 ≤ j ∧ j < X.2.1 x) ∧ Ev X 276 7 ls (vi (h.1 x j.toNat) :: st) h Q) := R_ia rfl
theorem e_276_7 {x : Int} : Ev X 276 7 ls (vi x :: st) h Q ↔ (stOK ls 4 = true ∧ Ev X 276 8 (ls.set 4 (some (vi x))) st h Q) := R_is rfl (Or.inr rfl)
theorem e_276_8 : Ev X 276 8 ls st h Q ↔ onR (gl ls 0) (fun z => Ev X 276 9 ls (vr z :: st) h Q) := R_al rfl (Or.inl rfl)
theorem e_276_9 {x : Nat} : Ev X 276 9 ls (vr x :: st) h Q ↔ (X.1 x = 12 ∧ Ev X 276 10 ls (vr (X.2.2.1 x 6) :: st) h Q) := R_gr rfl
theorem e_276_10 : Ev X 276 10 ls st h Q ↔ onI (gl ls 1) (fun z => Ev X 276 11 ls (vi z :: st) h Q) := R_il rfl (Or.inl rfl)
theorem e_276_11 {rest : List xV} {a0 : Int} : Ev X 276 11 ls ((vi a0) :: rest) h Q ↔ (wd rest ≤ 8 ∧ Cl X 158 [vi a0] h (fun r h2 => Ev X 276 12 ls (r.toList ++ rest) h2 Q)) := R_cs (as := [vi a0]) (k2 := 158) rfl rfl (Nat.le_of_ble_eq_true rfl)
theorem e_276_12 : Ev X 276 12 ls st h Q ↔ Ev X 276 13 ls (vi 6 :: st) h Q := R_kc rfl (Or.inr (Or.inl ⟨rfl, by decide⟩))
theorem e_276_13 {x y : Int} : Ev X 276 13 ls (vi y :: vi x :: st) h Q ↔ ((inR (x + y)) ∧ Ev X 276 14 ls (vi (x + y) :: st) h Q) := R_add rfl
theorem e_276_14 {x : Nat} {j : Int} : Ev X 276 14 ls (vi j :: vr x :: st) h Q ↔ (((X.1 x = 13 ∨ X.1 x = 20) ∧ 0 ≤ j ∧ j < X.2.1 x) ∧ Ev X 276 15 ls (vi (h.1 x j.toNat) :: st) h Q) := R_ia rfl
theorem e_276_15 {x : Int} : Ev X 276 15 ls (vi x :: st) h Q ↔ (stOK ls 5 = true ∧ Ev X 276 16 (ls.set 5 (some (vi x))) st h Q) := R_is rfl (Or.inr rfl)
theorem e_276_16 : Ev X 276 16 ls st h Q ↔ onR (gl ls 0) (fun z => Ev X 276 17 ls (vr z :: st) h Q) := R_al rfl (Or.inl rfl)
theorem e_276_17 : Ev X 276 17 ls st h Q ↔ onI (gl ls 1) (fun z => Ev X 276 18 ls (vi z :: st) h Q) := R_il rfl (Or.inl rfl)
theorem e_276_18 : Ev X 276 18 ls st h Q ↔ onI (gl ls 2) (fun z => Ev X 276 19 ls (vi z :: st) h Q) := R_il rfl (Or.inl rfl)
theorem e_276_19 : Ev X 276 19 ls st h Q ↔ onI (gl ls 3) (fun z => Ev X 276 20 ls (vi z :: st) h Q) := R_il rfl (Or.inl rfl)
theorem e_276_20 {rest : List xV} {a0 : Int} {a1 : Int} {a2 : Int} {o : Nat} : Ev X 276 20 ls ((vi a2) :: (vi a1) :: (vi a0) :: vr o :: rest) h Q ↔ ((X.1 o = 12 ∧ wd rest ≤ 8) ∧ Cl X 166 [vr o, vi a0, vi a1, vi a2] h (fun r h2 => Ev X 276 21 ls (r.toList ++ rest) h2 Q)) := R_cv (x := o) (as := [vi a0, vi a1, vi a2]) (k2 := 166) rfl rfl (Nat.le_of_ble_eq_true rfl)
theorem e_276_21 : Ev X 276 21 ls st h Q ↔ onR (gl ls 0) (fun z => Ev X 276 22 ls (vr z :: st) h Q) := R_al rfl (Or.inl rfl)
theorem e_276_22 {rest : List xV}  {o : Nat} : Ev X 276 22 ls (vr o :: rest) h Q ↔ ((X.1 o = 12 ∧ wd rest ≤ 8) ∧ Cl X 206 [vr o] h (fun r h2 => Ev X 276 23 ls (r.toList ++ rest) h2 Q)) := R_cv (x := o) (as := []) (k2 := 206) rfl rfl (Nat.le_of_ble_eq_true rfl)
theorem e_276_23 {x : Int} : Ev X 276 23 ls (vi x :: st) h Q ↔ (stOK ls 6 = true ∧ Ev X 276 24 (ls.set 6 (some (vi x))) st h Q) := R_is rfl (Or.inr rfl)
theorem e_276_24 : Ev X 276 24 ls st h Q ↔ onR (gl ls 0) (fun z => Ev X 276 25 ls (vr z :: st) h Q) := R_al rfl (Or.inl rfl)
theorem e_276_25 : Ev X 276 25 ls st h Q ↔ onI (gl ls 1) (fun z => Ev X 276 26 ls (vi z :: st) h Q) := R_il rfl (Or.inl rfl)
theorem e_276_26 : Ev X 276 26 ls st h Q ↔ onI (gl ls 4) (fun z => Ev X 276 27 ls (vi z :: st) h Q) := R_il rfl (Or.inr rfl)
theorem e_276_27 : Ev X 276 27 ls st h Q ↔ onI (gl ls 5) (fun z => Ev X 276 28 ls (vi z :: st) h Q) := R_il rfl (Or.inr rfl)
theorem e_276_28 {rest : List xV} {a0 : Int} {a1 : Int} {a2 : Int} {o : Nat} : Ev X 276 28 ls ((vi a2) :: (vi a1) :: (vi a0) :: vr o :: rest) h Q ↔ ((X.1 o = 12 ∧ wd rest ≤ 8) ∧ Cl X 166 [vr o, vi a0, vi a1, vi a2] h (fun r h2 => Ev X 276 29 ls (r.toList ++ rest) h2 Q)) := R_cv (x := o) (as := [vi a0, vi a1, vi a2]) (k2 := 166) rfl rfl (Nat.le_of_ble_eq_true rfl)
theorem e_276_29 : Ev X 276 29 ls st h Q ↔ onI (gl ls 6) (fun z => Ev X 276 30 ls (vi z :: st) h Q) := R_il rfl (Or.inr rfl)
theorem e_276_30 {z : Int} : Ev X 276 30 ls [vi z] h Q ↔ Q (some (vi z)) h := R_ir rfl
-- 277: CellRowsModel.would(III)I
theorem e_277_0 : Ev X 277 0 ls st h Q ↔ onR (gl ls 0) (fun z => Ev X 277 1 ls (vr z :: st) h Q) := R_al rfl (Or.inl rfl)
theorem e_277_1 : Ev X 277 1 ls st h Q ↔ Ev X 277 2 ls (vi 0 :: st) h Q := R_kc rfl (Or.inl ⟨Or.inl rfl, by decide⟩)
theorem e_277_2 {x : Nat} {v : Int} : Ev X 277 2 ls (vi v :: vr x :: st) h Q ↔ (X.1 x = 12 ∧ Ev X 277 3 ls st (h.1, up2 h.2 x 0 v) Q) := R_pi rfl
theorem e_277_3 : Ev X 277 3 ls st h Q ↔ onR (gl ls 0) (fun z => Ev X 277 4 ls (vr z :: st) h Q) := R_al rfl (Or.inl rfl)
theorem e_277_4 : Ev X 277 4 ls st h Q ↔ onI (gl ls 1) (fun z => Ev X 277 5 ls (vi z :: st) h Q) := R_il rfl (Or.inl rfl)
theorem e_277_5 {rest : List xV} {a0 : Int} {o : Nat} : Ev X 277 5 ls ((vi a0) :: vr o :: rest) h Q ↔ ((X.1 o = 12 ∧ wd rest ≤ 8) ∧ Cl X 167 [vr o, vi a0] h (fun r h2 => Ev X 277 6 ls (r.toList ++ rest) h2 Q)) := R_cv (x := o) (as := [vi a0]) (k2 := 167) rfl rfl (Nat.le_of_ble_eq_true rfl)
theorem e_277_6 {x : Int} : Ev X 277 6 ls (vi x :: st) h Q ↔ (if x = 0 then Ev X 277 26 ls st h Q else Ev X 277 7 ls st h Q) := R_ifeq rfl
theorem e_277_7 : Ev X 277 7 ls st h Q ↔ onR (gl ls 0) (fun z => Ev X 277 8 ls (vr z :: st) h Q) := R_al rfl (Or.inl rfl)
theorem e_277_8 : Ev X 277 8 ls st h Q ↔ onI (gl ls 2) (fun z => Ev X 277 9 ls (vi z :: st) h Q) := R_il rfl (Or.inl rfl)
theorem e_277_9 : Ev X 277 9 ls st h Q ↔ onI (gl ls 3) (fun z => Ev X 277 10 ls (vi z :: st) h Q) := R_il rfl (Or.inl rfl)
theorem e_277_10 {rest : List xV} {a0 : Int} {a1 : Int} {o : Nat} : Ev X 277 10 ls ((vi a1) :: (vi a0) :: vr o :: rest) h Q ↔ ((X.1 o = 12 ∧ wd rest ≤ 8) ∧ Cl X 170 [vr o, vi a0, vi a1] h (fun r h2 => Ev X 277 11 ls (r.toList ++ rest) h2 Q)) := R_cv (x := o) (as := [vi a0, vi a1]) (k2 := 170) rfl rfl (Nat.le_of_ble_eq_true rfl)
theorem e_277_11 {x : Int} : Ev X 277 11 ls (vi x :: st) h Q ↔ (if x = 0 then Ev X 277 26 ls st h Q else Ev X 277 12 ls st h Q) := R_ifeq rfl
theorem e_277_12 : Ev X 277 12 ls st h Q ↔ onI (gl ls 3) (fun z => Ev X 277 13 ls (vi z :: st) h Q) := R_il rfl (Or.inl rfl)
theorem e_277_13 : Ev X 277 13 ls st h Q ↔ onR (gl ls 0) (fun z => Ev X 277 14 ls (vr z :: st) h Q) := R_al rfl (Or.inl rfl)
theorem e_277_14 : Ev X 277 14 ls st h Q ↔ onI (gl ls 1) (fun z => Ev X 277 15 ls (vi z :: st) h Q) := R_il rfl (Or.inl rfl)
theorem e_277_15 {rest : List xV} {a0 : Int} {o : Nat} : Ev X 277 15 ls ((vi a0) :: vr o :: rest) h Q ↔ ((X.1 o = 12 ∧ wd rest ≤ 8) ∧ Cl X 160 [vr o, vi a0] h (fun r h2 => Ev X 277 16 ls (r.toList ++ rest) h2 Q)) := R_cv (x := o) (as := [vi a0]) (k2 := 160) rfl rfl (Nat.le_of_ble_eq_true rfl)
theorem e_277_16 {x y : Int} : Ev X 277 16 ls (vi y :: vi x :: st) h Q ↔ ((inR (x + y)) ∧ Ev X 277 17 ls (vi (x + y) :: st) h Q) := R_add rfl
theorem e_277_17 : Ev X 277 17 ls st h Q ↔ onR (gl ls 0) (fun z => Ev X 277 18 ls (vr z :: st) h Q) := R_al rfl (Or.inl rfl)
theorem e_277_18 {x : Nat} : Ev X 277 18 ls (vr x :: st) h Q ↔ (X.1 x = 12 ∧ Ev X 277 19 ls (vi (h.2 x 3) :: st) h Q) := R_gi rfl
theorem e_277_19 {x y : Int} : Ev X 277 19 ls (vi y :: vi x :: st) h Q ↔ (if y < x then Ev X 277 26 ls st h Q else Ev X 277 20 ls st h Q) := R_icgt rfl
theorem e_277_20 : Ev X 277 20 ls st h Q ↔ onR (gl ls 0) (fun z => Ev X 277 21 ls (vr z :: st) h Q) := R_al rfl (Or.inl rfl)
theorem e_277_21 : Ev X 277 21 ls st h Q ↔ onI (gl ls 1) (fun z => Ev X 277 22 ls (vi z :: st) h Q) := R_il rfl (Or.inl rfl)
theorem e_277_22 : Ev X 277 22 ls st h Q ↔ onI (gl ls 2) (fun z => Ev X 277 23 ls (vi z :: st) h Q) := R_il rfl (Or.inl rfl)
theorem e_277_23 : Ev X 277 23 ls st h Q ↔ onI (gl ls 3) (fun z => Ev X 277 24 ls (vi z :: st) h Q) := R_il rfl (Or.inl rfl)
theorem e_277_24 {rest : List xV} {a0 : Int} {a1 : Int} {a2 : Int} {o : Nat} : Ev X 277 24 ls ((vi a2) :: (vi a1) :: (vi a0) :: vr o :: rest) h Q ↔ ((X.1 o = 12 ∧ wd rest ≤ 8) ∧ Cl X 276 [vr o, vi a0, vi a1, vi a2] h (fun r h2 => Ev X 277 25 ls (r.toList ++ rest) h2 Q)) := R_cv (x := o) (as := [vi a0, vi a1, vi a2]) (k2 := 276) rfl rfl (Nat.le_of_ble_eq_true rfl)
theorem e_277_25 : Ev X 277 25 ls st h Q ↔ Ev X 277 27 ls st h Q := R_go rfl
theorem e_277_26 : Ev X 277 26 ls st h Q ↔ Ev X 277 27 ls (vi (-1) :: st) h Q := R_kc rfl (Or.inl ⟨Or.inl rfl, by decide⟩)
theorem e_277_27 {z : Int} : Ev X 277 27 ls [vi z] h Q ↔ Q (some (vi z)) h := R_ir rfl
-- 278: CellRowsModel.best(II)I
theorem e_278_0 : Ev X 278 0 ls st h Q ↔ onR (gl ls 0) (fun z => Ev X 278 1 ls (vr z :: st) h Q) := R_al rfl (Or.inl rfl)
theorem e_278_1 : Ev X 278 1 ls st h Q ↔ Ev X 278 2 ls (vi 0 :: st) h Q := R_kc rfl (Or.inl ⟨Or.inl rfl, by decide⟩)
theorem e_278_2 {x : Nat} {v : Int} : Ev X 278 2 ls (vi v :: vr x :: st) h Q ↔ (X.1 x = 12 ∧ Ev X 278 3 ls st (h.1, up2 h.2 x 0 v) Q) := R_pi rfl
theorem e_278_3 : Ev X 278 3 ls st h Q ↔ onR (gl ls 0) (fun z => Ev X 278 4 ls (vr z :: st) h Q) := R_al rfl (Or.inl rfl)
theorem e_278_4 : Ev X 278 4 ls st h Q ↔ onI (gl ls 1) (fun z => Ev X 278 5 ls (vi z :: st) h Q) := R_il rfl (Or.inl rfl)
theorem e_278_5 {rest : List xV} {a0 : Int} {o : Nat} : Ev X 278 5 ls ((vi a0) :: vr o :: rest) h Q ↔ ((X.1 o = 12 ∧ wd rest ≤ 8) ∧ Cl X 167 [vr o, vi a0] h (fun r h2 => Ev X 278 6 ls (r.toList ++ rest) h2 Q)) := R_cv (x := o) (as := [vi a0]) (k2 := 167) rfl rfl (Nat.le_of_ble_eq_true rfl)
theorem e_278_6 {x : Int} : Ev X 278 6 ls (vi x :: st) h Q ↔ (if x = 0 then Ev X 278 17 ls st h Q else Ev X 278 7 ls st h Q) := R_ifeq rfl
theorem e_278_7 : Ev X 278 7 ls st h Q ↔ onR (gl ls 0) (fun z => Ev X 278 8 ls (vr z :: st) h Q) := R_al rfl (Or.inl rfl)
theorem e_278_8 : Ev X 278 8 ls st h Q ↔ onI (gl ls 1) (fun z => Ev X 278 9 ls (vi z :: st) h Q) := R_il rfl (Or.inl rfl)
theorem e_278_9 {rest : List xV} {a0 : Int} {o : Nat} : Ev X 278 9 ls ((vi a0) :: vr o :: rest) h Q ↔ ((X.1 o = 12 ∧ wd rest ≤ 8) ∧ Cl X 163 [vr o, vi a0] h (fun r h2 => Ev X 278 10 ls (r.toList ++ rest) h2 Q)) := R_cv (x := o) (as := [vi a0]) (k2 := 163) rfl rfl (Nat.le_of_ble_eq_true rfl)
theorem e_278_10 {x : Int} : Ev X 278 10 ls (vi x :: st) h Q ↔ (if x = 0 then Ev X 278 17 ls st h Q else Ev X 278 11 ls st h Q) := R_ifeq rfl
theorem e_278_11 : Ev X 278 11 ls st h Q ↔ onI (gl ls 2) (fun z => Ev X 278 12 ls (vi z :: st) h Q) := R_il rfl (Or.inl rfl)
theorem e_278_12 {x : Int} : Ev X 278 12 ls (vi x :: st) h Q ↔ Ev X 278 13 ls (vl x :: st) h Q := R_i2l rfl
theorem e_278_13 : Ev X 278 13 ls st h Q ↔ Ev X 278 14 ls (vl 0 :: st) h Q := R_lc rfl ⟨Or.inl rfl, by decide⟩
theorem e_278_14 : Ev X 278 14 ls st h Q ↔ Ev X 278 15 ls (vl 2 :: st) h Q := R_lc rfl ⟨Or.inr rfl, by decide⟩
theorem e_278_15 {rest : List xV} {a0 : Int} {a1 : Int} {a2 : Int} : Ev X 278 15 ls ((vl a2) :: (vl a1) :: (vl a0) :: rest) h Q ↔ (wd rest ≤ 8 ∧ Cl X 149 [vl a0, vl a1, vl a2] h (fun r h2 => Ev X 278 16 ls (r.toList ++ rest) h2 Q)) := R_cs (as := [vl a0, vl a1, vl a2]) (k2 := 149) rfl rfl (Nat.le_of_ble_eq_true rfl)
theorem e_278_16 {x : Int} : Ev X 278 16 ls (vi x :: st) h Q ↔ (if ¬ x = 0 then Ev X 278 19 ls st h Q else Ev X 278 17 ls st h Q) := R_ifne rfl
theorem e_278_17 : Ev X 278 17 ls st h Q ↔ Ev X 278 18 ls (vi (-1) :: st) h Q := R_kc rfl (Or.inl ⟨Or.inl rfl, by decide⟩)
theorem e_278_18 {z : Int} : Ev X 278 18 ls [vi z] h Q ↔ Q (some (vi z)) h := R_ir rfl
theorem e_278_19 : Ev X 278 19 ls st h Q ↔ Ev X 278 20 ls (vi (-1) :: st) h Q := R_kc rfl (Or.inl ⟨Or.inl rfl, by decide⟩)
theorem e_278_20 {x : Int} : Ev X 278 20 ls (vi x :: st) h Q ↔ (stOK ls 3 = true ∧ Ev X 278 21 (ls.set 3 (some (vi x))) st h Q) := R_is rfl (Or.inl rfl)
theorem e_278_21 : Ev X 278 21 ls st h Q ↔ Ev X 278 22 ls (vi (-1) :: st) h Q := R_kc rfl (Or.inl ⟨Or.inl rfl, by decide⟩)
theorem e_278_22 {x : Int} : Ev X 278 22 ls (vi x :: st) h Q ↔ (stOK ls 4 = true ∧ Ev X 278 23 (ls.set 4 (some (vi x))) st h Q) := R_is rfl (Or.inr rfl)
theorem e_278_23 : Ev X 278 23 ls st h Q ↔ Ev X 278 24 ls (vi 100000000 :: st) h Q := R_kc rfl (Or.inl ⟨Or.inr (Or.inl rfl), by decide⟩)
theorem e_278_24 {x : Int} : Ev X 278 24 ls (vi x :: st) h Q ↔ (stOK ls 5 = true ∧ Ev X 278 25 (ls.set 5 (some (vi x))) st h Q) := R_is rfl (Or.inr rfl)
theorem e_278_25 : Ev X 278 25 ls st h Q ↔ Ev X 278 26 ls (vi 0 :: st) h Q := R_kc rfl (Or.inl ⟨Or.inl rfl, by decide⟩)
theorem e_278_26 {x : Int} : Ev X 278 26 ls (vi x :: st) h Q ↔ (stOK ls 6 = true ∧ Ev X 278 27 (ls.set 6 (some (vi x))) st h Q) := R_is rfl (Or.inr rfl)
theorem e_278_27 : Ev X 278 27 ls st h Q ↔ onI (gl ls 6) (fun z => Ev X 278 28 ls (vi z :: st) h Q) := R_il rfl (Or.inr rfl)
theorem e_278_28 : Ev X 278 28 ls st h Q ↔ onR (gl ls 0) (fun z => Ev X 278 29 ls (vr z :: st) h Q) := R_al rfl (Or.inl rfl)
theorem e_278_29 : Ev X 278 29 ls st h Q ↔ onI (gl ls 1) (fun z => Ev X 278 30 ls (vi z :: st) h Q) := R_il rfl (Or.inl rfl)
theorem e_278_30 {rest : List xV} {a0 : Int} {o : Nat} : Ev X 278 30 ls ((vi a0) :: vr o :: rest) h Q ↔ ((X.1 o = 12 ∧ wd rest ≤ 8) ∧ Cl X 160 [vr o, vi a0] h (fun r h2 => Ev X 278 31 ls (r.toList ++ rest) h2 Q)) := R_cv (x := o) (as := [vi a0]) (k2 := 160) rfl rfl (Nat.le_of_ble_eq_true rfl)
theorem e_278_31 {x y : Int} : Ev X 278 31 ls (vi y :: vi x :: st) h Q ↔ ((inR (x + y)) ∧ Ev X 278 32 ls (vi (x + y) :: st) h Q) := R_add rfl
theorem e_278_32 : Ev X 278 32 ls st h Q ↔ onR (gl ls 0) (fun z => Ev X 278 33 ls (vr z :: st) h Q) := R_al rfl (Or.inl rfl)
theorem e_278_33 {x : Nat} : Ev X 278 33 ls (vr x :: st) h Q ↔ (X.1 x = 12 ∧ Ev X 278 34 ls (vi (h.2 x 3) :: st) h Q) := R_gi rfl
theorem e_278_34 {x y : Int} : Ev X 278 34 ls (vi y :: vi x :: st) h Q ↔ (if y < x then Ev X 278 70 ls st h Q else Ev X 278 35 ls st h Q) := R_icgt rfl
theorem e_278_35 : Ev X 278 35 ls st h Q ↔ onR (gl ls 0) (fun z => Ev X 278 36 ls (vr z :: st) h Q) := R_al rfl (Or.inl rfl)
theorem e_278_36 : Ev X 278 36 ls st h Q ↔ onI (gl ls 1) (fun z => Ev X 278 37 ls (vi z :: st) h Q) := R_il rfl (Or.inl rfl)
theorem e_278_37 : Ev X 278 37 ls st h Q ↔ onR (gl ls 0) (fun z => Ev X 278 38 ls (vr z :: st) h Q) := R_al rfl (Or.inl rfl)
theorem e_278_38 {x : Nat} : Ev X 278 38 ls (vr x :: st) h Q ↔ (X.1 x = 12 ∧ Ev X 278 39 ls (vr (X.2.2.1 x 6) :: st) h Q) := R_gr rfl
theorem e_278_39 : Ev X 278 39 ls st h Q ↔ onI (gl ls 1) (fun z => Ev X 278 40 ls (vi z :: st) h Q) := R_il rfl (Or.inl rfl)
theorem e_278_40 {rest : List xV} {a0 : Int} : Ev X 278 40 ls ((vi a0) :: rest) h Q ↔ (wd rest ≤ 8 ∧ Cl X 158 [vi a0] h (fun r h2 => Ev X 278 41 ls (r.toList ++ rest) h2 Q)) := R_cs (as := [vi a0]) (k2 := 158) rfl rfl (Nat.le_of_ble_eq_true rfl)
theorem e_278_41 : Ev X 278 41 ls st h Q ↔ Ev X 278 42 ls (vi 5 :: st) h Q := R_kc rfl (Or.inl ⟨Or.inl rfl, by decide⟩)
theorem e_278_42 {x y : Int} : Ev X 278 42 ls (vi y :: vi x :: st) h Q ↔ ((inR (x + y)) ∧ Ev X 278 43 ls (vi (x + y) :: st) h Q) := R_add rfl
theorem e_278_43 {x : Nat} {j : Int} : Ev X 278 43 ls (vi j :: vr x :: st) h Q ↔ (((X.1 x = 13 ∨ X.1 x = 20) ∧ 0 ≤ j ∧ j < X.2.1 x) ∧ Ev X 278 44 ls (vi (h.1 x j.toNat) :: st) h Q) := R_ia rfl
theorem e_278_44 : Ev X 278 44 ls st h Q ↔ onI (gl ls 6) (fun z => Ev X 278 45 ls (vi z :: st) h Q) := R_il rfl (Or.inr rfl)
theorem e_278_45 {rest : List xV} {a0 : Int} {a1 : Int} {a2 : Int} {o : Nat} : Ev X 278 45 ls ((vi a2) :: (vi a1) :: (vi a0) :: vr o :: rest) h Q ↔ ((X.1 o = 12 ∧ wd rest ≤ 8) ∧ Cl X 276 [vr o, vi a0, vi a1, vi a2] h (fun r h2 => Ev X 278 46 ls (r.toList ++ rest) h2 Q)) := R_cv (x := o) (as := [vi a0, vi a1, vi a2]) (k2 := 276) rfl rfl (Nat.le_of_ble_eq_true rfl)
theorem e_278_46 {x : Int} : Ev X 278 46 ls (vi x :: st) h Q ↔ (stOK ls 7 = true ∧ Ev X 278 47 (ls.set 7 (some (vi x))) st h Q) := R_is rfl (Or.inr rfl)
theorem e_278_47 : Ev X 278 47 ls st h Q ↔ onI (gl ls 7) (fun z => Ev X 278 48 ls (vi z :: st) h Q) := R_il rfl (Or.inr rfl)
theorem e_278_48 : Ev X 278 48 ls st h Q ↔ onI (gl ls 5) (fun z => Ev X 278 49 ls (vi z :: st) h Q) := R_il rfl (Or.inr rfl)
theorem e_278_49 {x y : Int} : Ev X 278 49 ls (vi y :: vi x :: st) h Q ↔ (if y ≤ x then Ev X 278 52 ls st h Q else Ev X 278 50 ls st h Q) := R_icge rfl
theorem e_278_50 : Ev X 278 50 ls st h Q ↔ onI (gl ls 6) (fun z => Ev X 278 51 ls (vi z :: st) h Q) := R_il rfl (Or.inr rfl)
theorem e_278_51 : Ev X 278 51 ls st h Q ↔ Ev X 278 53 ls st h Q := R_go rfl
theorem e_278_52 : Ev X 278 52 ls st h Q ↔ onI (gl ls 3) (fun z => Ev X 278 53 ls (vi z :: st) h Q) := R_il rfl (Or.inl rfl)
theorem e_278_53 {x : Int} : Ev X 278 53 ls (vi x :: st) h Q ↔ (stOK ls 3 = true ∧ Ev X 278 54 (ls.set 3 (some (vi x))) st h Q) := R_is rfl (Or.inl rfl)
theorem e_278_54 : Ev X 278 54 ls st h Q ↔ onI (gl ls 7) (fun z => Ev X 278 55 ls (vi z :: st) h Q) := R_il rfl (Or.inr rfl)
theorem e_278_55 : Ev X 278 55 ls st h Q ↔ onI (gl ls 5) (fun z => Ev X 278 56 ls (vi z :: st) h Q) := R_il rfl (Or.inr rfl)
theorem e_278_56 {x y : Int} : Ev X 278 56 ls (vi y :: vi x :: st) h Q ↔ (if y < x then Ev X 278 59 ls st h Q else Ev X 278 57 ls st h Q) := R_icgt rfl
theorem e_278_57 : Ev X 278 57 ls st h Q ↔ onI (gl ls 6) (fun z => Ev X 278 58 ls (vi z :: st) h Q) := R_il rfl (Or.inr rfl)
theorem e_278_58 : Ev X 278 58 ls st h Q ↔ Ev X 278 60 ls st h Q := R_go rfl
theorem e_278_59 : Ev X 278 59 ls st h Q ↔ onI (gl ls 4) (fun z => Ev X 278 60 ls (vi z :: st) h Q) := R_il rfl (Or.inr rfl)
theorem e_278_60 {x : Int} : Ev X 278 60 ls (vi x :: st) h Q ↔ (stOK ls 4 = true ∧ Ev X 278 61 (ls.set 4 (some (vi x))) st h Q) := R_is rfl (Or.inr rfl)
theorem e_278_61 : Ev X 278 61 ls st h Q ↔ onI (gl ls 7) (fun z => Ev X 278 62 ls (vi z :: st) h Q) := R_il rfl (Or.inr rfl)
theorem e_278_62 : Ev X 278 62 ls st h Q ↔ onI (gl ls 5) (fun z => Ev X 278 63 ls (vi z :: st) h Q) := R_il rfl (Or.inr rfl)
theorem e_278_63 {x y : Int} : Ev X 278 63 ls (vi y :: vi x :: st) h Q ↔ (if y ≤ x then Ev X 278 66 ls st h Q else Ev X 278 64 ls st h Q) := R_icge rfl
theorem e_278_64 : Ev X 278 64 ls st h Q ↔ onI (gl ls 7) (fun z => Ev X 278 65 ls (vi z :: st) h Q) := R_il rfl (Or.inr rfl)
theorem e_278_65 : Ev X 278 65 ls st h Q ↔ Ev X 278 67 ls st h Q := R_go rfl
theorem e_278_66 : Ev X 278 66 ls st h Q ↔ onI (gl ls 5) (fun z => Ev X 278 67 ls (vi z :: st) h Q) := R_il rfl (Or.inr rfl)
theorem e_278_67 {x : Int} : Ev X 278 67 ls (vi x :: st) h Q ↔ (stOK ls 5 = true ∧ Ev X 278 68 (ls.set 5 (some (vi x))) st h Q) := R_is rfl (Or.inr rfl)
theorem e_278_68 : Ev X 278 68 ls st h Q ↔ onI (gl ls 6) (fun x => (stOK ls 6 = true ∧ inR (x + 1)) ∧ Ev X 278 69 (ls.set 6 (some (vi (x + 1)))) st h Q) := R_inc rfl
theorem e_278_69 : Ev X 278 69 ls st h Q ↔ Ev X 278 27 ls st h Q := R_go rfl
theorem e_278_70 : Ev X 278 70 ls st h Q ↔ onI (gl ls 2) (fun z => Ev X 278 71 ls (vi z :: st) h Q) := R_il rfl (Or.inl rfl)
theorem e_278_71 {x : Int} : Ev X 278 71 ls (vi x :: st) h Q ↔ (if ¬ x = 0 then Ev X 278 74 ls st h Q else Ev X 278 72 ls st h Q) := R_ifne rfl
theorem e_278_72 : Ev X 278 72 ls st h Q ↔ onI (gl ls 3) (fun z => Ev X 278 73 ls (vi z :: st) h Q) := R_il rfl (Or.inl rfl)
theorem e_278_73 : Ev X 278 73 ls st h Q ↔ Ev X 278 80 ls st h Q := R_go rfl
theorem e_278_74 : Ev X 278 74 ls st h Q ↔ onI (gl ls 2) (fun z => Ev X 278 75 ls (vi z :: st) h Q) := R_il rfl (Or.inl rfl)
theorem e_278_75 : Ev X 278 75 ls st h Q ↔ Ev X 278 76 ls (vi 1 :: st) h Q := R_kc rfl (Or.inl ⟨Or.inl rfl, by decide⟩)
theorem e_278_76 {x y : Int} : Ev X 278 76 ls (vi y :: vi x :: st) h Q ↔ (if ¬ x = y then Ev X 278 79 ls st h Q else Ev X 278 77 ls st h Q) := R_icne rfl
theorem e_278_77 : Ev X 278 77 ls st h Q ↔ onI (gl ls 4) (fun z => Ev X 278 78 ls (vi z :: st) h Q) := R_il rfl (Or.inr rfl)
theorem e_278_78 : Ev X 278 78 ls st h Q ↔ Ev X 278 80 ls st h Q := R_go rfl
theorem e_278_79 : Ev X 278 79 ls st h Q ↔ onI (gl ls 5) (fun z => Ev X 278 80 ls (vi z :: st) h Q) := R_il rfl (Or.inr rfl)
theorem e_278_80 {z : Int} : Ev X 278 80 ls [vi z] h Q ↔ Q (some (vi z)) h := R_ir rfl
-- 279: CellRowsModel.fillers(I)I
theorem e_279_0 : Ev X 279 0 ls st h Q ↔ onR (gl ls 0) (fun z => Ev X 279 1 ls (vr z :: st) h Q) := R_al rfl (Or.inl rfl)
theorem e_279_1 : Ev X 279 1 ls st h Q ↔ Ev X 279 2 ls (vi 0 :: st) h Q := R_kc rfl (Or.inl ⟨Or.inl rfl, by decide⟩)
theorem e_279_2 {x : Nat} {v : Int} : Ev X 279 2 ls (vi v :: vr x :: st) h Q ↔ (X.1 x = 12 ∧ Ev X 279 3 ls st (h.1, up2 h.2 x 0 v) Q) := R_pi rfl
theorem e_279_3 : Ev X 279 3 ls st h Q ↔ onI (gl ls 1) (fun z => Ev X 279 4 ls (vi z :: st) h Q) := R_il rfl (Or.inl rfl)
theorem e_279_4 : Ev X 279 4 ls st h Q ↔ Ev X 279 5 ls (vi 4 :: st) h Q := R_kc rfl (Or.inl ⟨Or.inl rfl, by decide⟩)
theorem e_279_5 {x y : Int} : Ev X 279 5 ls (vi y :: vi x :: st) h Q ↔ (if x = y then Ev X 279 14 ls st h Q else Ev X 279 6 ls st h Q) := R_iceq rfl
theorem e_279_6 : Ev X 279 6 ls st h Q ↔ onI (gl ls 1) (fun z => Ev X 279 7 ls (vi z :: st) h Q) := R_il rfl (Or.inl rfl)
theorem e_279_7 : Ev X 279 7 ls st h Q ↔ Ev X 279 8 ls (vi 2 :: st) h Q := R_kc rfl (Or.inl ⟨Or.inl rfl, by decide⟩)
theorem e_279_8 {x y : Int} : Ev X 279 8 ls (vi y :: vi x :: st) h Q ↔ (if x = y then Ev X 279 14 ls st h Q else Ev X 279 9 ls st h Q) := R_iceq rfl
theorem e_279_9 : Ev X 279 9 ls st h Q ↔ onI (gl ls 1) (fun z => Ev X 279 10 ls (vi z :: st) h Q) := R_il rfl (Or.inl rfl)
theorem e_279_10 : Ev X 279 10 ls st h Q ↔ Ev X 279 11 ls (vi 1 :: st) h Q := R_kc rfl (Or.inl ⟨Or.inl rfl, by decide⟩)
theorem e_279_11 {x y : Int} : Ev X 279 11 ls (vi y :: vi x :: st) h Q ↔ (if x = y then Ev X 279 14 ls st h Q else Ev X 279 12 ls st h Q) := R_iceq rfl
theorem e_279_12 : Ev X 279 12 ls st h Q ↔ Ev X 279 13 ls (vi (-1) :: st) h Q := R_kc rfl (Or.inl ⟨Or.inl rfl, by decide⟩)
theorem e_279_13 {z : Int} : Ev X 279 13 ls [vi z] h Q ↔ Q (some (vi z)) h := R_ir rfl
theorem e_279_14 : Ev X 279 14 ls st h Q ↔ onR (gl ls 0) (fun z => Ev X 279 15 ls (vr z :: st) h Q) := R_al rfl (Or.inl rfl)
theorem e_279_15 {rest : List xV}  {o : Nat} : Ev X 279 15 ls (vr o :: rest) h Q ↔ ((X.1 o = 12 ∧ wd rest ≤ 8) ∧ Cl X 231 [vr o] h (fun r h2 => Ev X 279 16 ls (r.toList ++ rest) h2 Q)) := R_cv (x := o) (as := []) (k2 := 231) rfl rfl (Nat.le_of_ble_eq_true rfl)
theorem e_279_16 : Ev X 279 16 ls st h Q ↔ Ev X 279 17 ls (vi 0 :: st) h Q := R_kc rfl (Or.inl ⟨Or.inl rfl, by decide⟩)
theorem e_279_17 {x : Int} : Ev X 279 17 ls (vi x :: st) h Q ↔ (stOK ls 2 = true ∧ Ev X 279 18 (ls.set 2 (some (vi x))) st h Q) := R_is rfl (Or.inl rfl)
theorem e_279_18 : Ev X 279 18 ls st h Q ↔ Ev X 279 19 ls (vi 0 :: st) h Q := R_kc rfl (Or.inl ⟨Or.inl rfl, by decide⟩)
theorem e_279_19 {x : Int} : Ev X 279 19 ls (vi x :: st) h Q ↔ (stOK ls 3 = true ∧ Ev X 279 20 (ls.set 3 (some (vi x))) st h Q) := R_is rfl (Or.inl rfl)
theorem e_279_20 : Ev X 279 20 ls st h Q ↔ onI (gl ls 3) (fun z => Ev X 279 21 ls (vi z :: st) h Q) := R_il rfl (Or.inl rfl)
theorem e_279_21 : Ev X 279 21 ls st h Q ↔ onR (gl ls 0) (fun z => Ev X 279 22 ls (vr z :: st) h Q) := R_al rfl (Or.inl rfl)
theorem e_279_22 {x : Nat} : Ev X 279 22 ls (vr x :: st) h Q ↔ (X.1 x = 12 ∧ Ev X 279 23 ls (vi (h.2 x 18) :: st) h Q) := R_gi rfl
theorem e_279_23 {x y : Int} : Ev X 279 23 ls (vi y :: vi x :: st) h Q ↔ (if y ≤ x then Ev X 279 94 ls st h Q else Ev X 279 24 ls st h Q) := R_icge rfl
theorem e_279_24 : Ev X 279 24 ls st h Q ↔ Ev X 279 25 ls (vi 0 :: st) h Q := R_kc rfl (Or.inl ⟨Or.inl rfl, by decide⟩)
theorem e_279_25 {x : Int} : Ev X 279 25 ls (vi x :: st) h Q ↔ (stOK ls 4 = true ∧ Ev X 279 26 (ls.set 4 (some (vi x))) st h Q) := R_is rfl (Or.inr rfl)
theorem e_279_26 : Ev X 279 26 ls st h Q ↔ onR (gl ls 0) (fun z => Ev X 279 27 ls (vr z :: st) h Q) := R_al rfl (Or.inl rfl)
theorem e_279_27 {x : Nat} : Ev X 279 27 ls (vr x :: st) h Q ↔ (X.1 x = 12 ∧ Ev X 279 28 ls (vr (X.2.2.1 x 16) :: st) h Q) := R_gr rfl
theorem e_279_28 : Ev X 279 28 ls st h Q ↔ onI (gl ls 3) (fun z => Ev X 279 29 ls (vi z :: st) h Q) := R_il rfl (Or.inl rfl)
theorem e_279_29 {x : Nat} {j : Int} : Ev X 279 29 ls (vi j :: vr x :: st) h Q ↔ (((X.1 x = 13 ∨ X.1 x = 20) ∧ 0 ≤ j ∧ j < X.2.1 x) ∧ Ev X 279 30 ls (vi (h.1 x j.toNat) :: st) h Q) := R_ia rfl
theorem e_279_30 {x : Int} : Ev X 279 30 ls (vi x :: st) h Q ↔ (stOK ls 5 = true ∧ Ev X 279 31 (ls.set 5 (some (vi x))) st h Q) := R_is rfl (Or.inr rfl)
theorem e_279_31 : Ev X 279 31 ls st h Q ↔ onI (gl ls 5) (fun z => Ev X 279 32 ls (vi z :: st) h Q) := R_il rfl (Or.inr rfl)
theorem e_279_32 : Ev X 279 32 ls st h Q ↔ onR (gl ls 0) (fun z => Ev X 279 33 ls (vr z :: st) h Q) := R_al rfl (Or.inl rfl)
theorem e_279_33 {x : Nat} : Ev X 279 33 ls (vr x :: st) h Q ↔ (X.1 x = 12 ∧ Ev X 279 34 ls (vr (X.2.2.1 x 16) :: st) h Q) := R_gr rfl
theorem e_279_34 : Ev X 279 34 ls st h Q ↔ onI (gl ls 3) (fun z => Ev X 279 35 ls (vi z :: st) h Q) := R_il rfl (Or.inl rfl)
theorem e_279_35 {x : Nat} {j : Int} : Ev X 279 35 ls (vi j :: vr x :: st) h Q ↔ (((X.1 x = 13 ∨ X.1 x = 20) ∧ 0 ≤ j ∧ j < X.2.1 x) ∧ Ev X 279 36 ls (vi (h.1 x j.toNat) :: st) h Q) := R_ia rfl
theorem e_279_36 : Ev X 279 36 ls st h Q ↔ onR (gl ls 0) (fun z => Ev X 279 37 ls (vr z :: st) h Q) := R_al rfl (Or.inl rfl)
theorem e_279_37 {x : Nat} : Ev X 279 37 ls (vr x :: st) h Q ↔ (X.1 x = 12 ∧ Ev X 279 38 ls (vr (X.2.2.1 x 17) :: st) h Q) := R_gr rfl
theorem e_279_38 : Ev X 279 38 ls st h Q ↔ onI (gl ls 3) (fun z => Ev X 279 39 ls (vi z :: st) h Q) := R_il rfl (Or.inl rfl)
theorem e_279_39 {x : Nat} {j : Int} : Ev X 279 39 ls (vi j :: vr x :: st) h Q ↔ (((X.1 x = 13 ∨ X.1 x = 20) ∧ 0 ≤ j ∧ j < X.2.1 x) ∧ Ev X 279 40 ls (vi (h.1 x j.toNat) :: st) h Q) := R_ia rfl
theorem e_279_40 {x y : Int} : Ev X 279 40 ls (vi y :: vi x :: st) h Q ↔ ((inR (x + y)) ∧ Ev X 279 41 ls (vi (x + y) :: st) h Q) := R_add rfl
theorem e_279_41 {x y : Int} : Ev X 279 41 ls (vi y :: vi x :: st) h Q ↔ (if y < x then Ev X 279 92 ls st h Q else Ev X 279 42 ls st h Q) := R_icgt rfl
theorem e_279_42 : Ev X 279 42 ls st h Q ↔ onI (gl ls 5) (fun z => Ev X 279 43 ls (vi z :: st) h Q) := R_il rfl (Or.inr rfl)
theorem e_279_43 : Ev X 279 43 ls st h Q ↔ onR (gl ls 0) (fun z => Ev X 279 44 ls (vr z :: st) h Q) := R_al rfl (Or.inl rfl)
theorem e_279_44 {x : Nat} : Ev X 279 44 ls (vr x :: st) h Q ↔ (X.1 x = 12 ∧ Ev X 279 45 ls (vr (X.2.2.1 x 16) :: st) h Q) := R_gr rfl
theorem e_279_45 : Ev X 279 45 ls st h Q ↔ onI (gl ls 3) (fun z => Ev X 279 46 ls (vi z :: st) h Q) := R_il rfl (Or.inl rfl)
theorem e_279_46 {x : Nat} {j : Int} : Ev X 279 46 ls (vi j :: vr x :: st) h Q ↔ (((X.1 x = 13 ∨ X.1 x = 20) ∧ 0 ≤ j ∧ j < X.2.1 x) ∧ Ev X 279 47 ls (vi (h.1 x j.toNat) :: st) h Q) := R_ia rfl
theorem e_279_47 : Ev X 279 47 ls st h Q ↔ onR (gl ls 0) (fun z => Ev X 279 48 ls (vr z :: st) h Q) := R_al rfl (Or.inl rfl)
theorem e_279_48 {x : Nat} : Ev X 279 48 ls (vr x :: st) h Q ↔ (X.1 x = 12 ∧ Ev X 279 49 ls (vr (X.2.2.1 x 17) :: st) h Q) := R_gr rfl
theorem e_279_49 : Ev X 279 49 ls st h Q ↔ onI (gl ls 3) (fun z => Ev X 279 50 ls (vi z :: st) h Q) := R_il rfl (Or.inl rfl)
theorem e_279_50 {x : Nat} {j : Int} : Ev X 279 50 ls (vi j :: vr x :: st) h Q ↔ (((X.1 x = 13 ∨ X.1 x = 20) ∧ 0 ≤ j ∧ j < X.2.1 x) ∧ Ev X 279 51 ls (vi (h.1 x j.toNat) :: st) h Q) := R_ia rfl
theorem e_279_51 {x y : Int} : Ev X 279 51 ls (vi y :: vi x :: st) h Q ↔ ((inR (x + y)) ∧ Ev X 279 52 ls (vi (x + y) :: st) h Q) := R_add rfl
theorem e_279_52 {x y : Int} : Ev X 279 52 ls (vi y :: vi x :: st) h Q ↔ (if y ≤ x then Ev X 279 66 ls st h Q else Ev X 279 53 ls st h Q) := R_icge rfl
theorem e_279_53 : Ev X 279 53 ls st h Q ↔ onR (gl ls 0) (fun z => Ev X 279 54 ls (vr z :: st) h Q) := R_al rfl (Or.inl rfl)
theorem e_279_54 : Ev X 279 54 ls st h Q ↔ onR (gl ls 0) (fun z => Ev X 279 55 ls (vr z :: st) h Q) := R_al rfl (Or.inl rfl)
theorem e_279_55 {x : Nat} : Ev X 279 55 ls (vr x :: st) h Q ↔ (X.1 x = 12 ∧ Ev X 279 56 ls (vr (X.2.2.1 x 14) :: st) h Q) := R_gr rfl
theorem e_279_56 : Ev X 279 56 ls st h Q ↔ onI (gl ls 3) (fun z => Ev X 279 57 ls (vi z :: st) h Q) := R_il rfl (Or.inl rfl)
theorem e_279_57 {x : Nat} {j : Int} : Ev X 279 57 ls (vi j :: vr x :: st) h Q ↔ (((X.1 x = 13 ∨ X.1 x = 20) ∧ 0 ≤ j ∧ j < X.2.1 x) ∧ Ev X 279 58 ls (vi (h.1 x j.toNat) :: st) h Q) := R_ia rfl
theorem e_279_58 : Ev X 279 58 ls st h Q ↔ onI (gl ls 5) (fun z => Ev X 279 59 ls (vi z :: st) h Q) := R_il rfl (Or.inr rfl)
theorem e_279_59 : Ev X 279 59 ls st h Q ↔ Ev X 279 60 ls (vi (-1) :: st) h Q := R_kc rfl (Or.inl ⟨Or.inl rfl, by decide⟩)
theorem e_279_60 : Ev X 279 60 ls st h Q ↔ Ev X 279 61 ls (vi 0 :: st) h Q := R_kc rfl (Or.inl ⟨Or.inl rfl, by decide⟩)
theorem e_279_61 {rest : List xV} {a0 : Int} {a1 : Int} {a2 : Int} {a3 : Int} {o : Nat} : Ev X 279 61 ls ((vi a3) :: (vi a2) :: (vi a1) :: (vi a0) :: vr o :: rest) h Q ↔ ((X.1 o = 12 ∧ wd rest ≤ 8) ∧ Cl X 175 [vr o, vi a0, vi a1, vi a2, vi a3] h (fun r h2 => Ev X 279 62 ls (r.toList ++ rest) h2 Q)) := R_cv (x := o) (as := [vi a0, vi a1, vi a2, vi a3]) (k2 := 175) rfl rfl (Nat.le_of_ble_eq_true rfl)
theorem e_279_62 : Ev X 279 62 ls st h Q ↔ Ev X 279 63 ls (vi (-1) :: st) h Q := R_kc rfl (Or.inl ⟨Or.inl rfl, by decide⟩)
theorem e_279_63 {x y : Int} : Ev X 279 63 ls (vi y :: vi x :: st) h Q ↔ (if ¬ x = y then Ev X 279 66 ls st h Q else Ev X 279 64 ls st h Q) := R_icne rfl
theorem e_279_64 : Ev X 279 64 ls st h Q ↔ onI (gl ls 4) (fun x => (stOK ls 4 = true ∧ inR (x + 1)) ∧ Ev X 279 65 (ls.set 4 (some (vi (x + 1)))) st h Q) := R_inc rfl
theorem e_279_65 : Ev X 279 65 ls st h Q ↔ Ev X 279 90 ls st h Q := R_go rfl
theorem e_279_66 : Ev X 279 66 ls st h Q ↔ onI (gl ls 2) (fun z => Ev X 279 67 ls (vi z :: st) h Q) := R_il rfl (Or.inl rfl)
theorem e_279_67 : Ev X 279 67 ls st h Q ↔ onI (gl ls 1) (fun z => Ev X 279 68 ls (vi z :: st) h Q) := R_il rfl (Or.inl rfl)
theorem e_279_68 : Ev X 279 68 ls st h Q ↔ Ev X 279 69 ls (vi 4 :: st) h Q := R_kc rfl (Or.inl ⟨Or.inl rfl, by decide⟩)
theorem e_279_69 {x y : Int} : Ev X 279 69 ls (vi y :: vi x :: st) h Q ↔ (if ¬ x = y then Ev X 279 74 ls st h Q else Ev X 279 70 ls st h Q) := R_icne rfl
theorem e_279_70 : Ev X 279 70 ls st h Q ↔ onI (gl ls 4) (fun z => Ev X 279 71 ls (vi z :: st) h Q) := R_il rfl (Or.inr rfl)
theorem e_279_71 : Ev X 279 71 ls st h Q ↔ Ev X 279 72 ls (vi 4 :: st) h Q := R_kc rfl (Or.inl ⟨Or.inl rfl, by decide⟩)
theorem e_279_72 {x y : Int} : Ev X 279 72 ls (vi y :: vi x :: st) h Q ↔ ((y ≠ 0 ∧ inR (x.tdiv y)) ∧ Ev X 279 73 ls (vi (x.tdiv y) :: st) h Q) := R_div rfl
theorem e_279_73 : Ev X 279 73 ls st h Q ↔ Ev X 279 86 ls st h Q := R_go rfl
theorem e_279_74 : Ev X 279 74 ls st h Q ↔ onI (gl ls 1) (fun z => Ev X 279 75 ls (vi z :: st) h Q) := R_il rfl (Or.inl rfl)
theorem e_279_75 : Ev X 279 75 ls st h Q ↔ Ev X 279 76 ls (vi 2 :: st) h Q := R_kc rfl (Or.inl ⟨Or.inl rfl, by decide⟩)
theorem e_279_76 {x y : Int} : Ev X 279 76 ls (vi y :: vi x :: st) h Q ↔ (if ¬ x = y then Ev X 279 83 ls st h Q else Ev X 279 77 ls st h Q) := R_icne rfl
theorem e_279_77 : Ev X 279 77 ls st h Q ↔ onI (gl ls 4) (fun z => Ev X 279 78 ls (vi z :: st) h Q) := R_il rfl (Or.inr rfl)
theorem e_279_78 : Ev X 279 78 ls st h Q ↔ Ev X 279 79 ls (vi 4 :: st) h Q := R_kc rfl (Or.inl ⟨Or.inl rfl, by decide⟩)
theorem e_279_79 {x y : Int} : Ev X 279 79 ls (vi y :: vi x :: st) h Q ↔ ((y ≠ 0 ∧ inR (x.tdiv y)) ∧ Ev X 279 80 ls (vi (x.tmod y) :: st) h Q) := R_rem rfl
theorem e_279_80 : Ev X 279 80 ls st h Q ↔ Ev X 279 81 ls (vi 2 :: st) h Q := R_kc rfl (Or.inl ⟨Or.inl rfl, by decide⟩)
theorem e_279_81 {x y : Int} : Ev X 279 81 ls (vi y :: vi x :: st) h Q ↔ ((y ≠ 0 ∧ inR (x.tdiv y)) ∧ Ev X 279 82 ls (vi (x.tdiv y) :: st) h Q) := R_div rfl
theorem e_279_82 : Ev X 279 82 ls st h Q ↔ Ev X 279 86 ls st h Q := R_go rfl
theorem e_279_83 : Ev X 279 83 ls st h Q ↔ onI (gl ls 4) (fun z => Ev X 279 84 ls (vi z :: st) h Q) := R_il rfl (Or.inr rfl)
theorem e_279_84 : Ev X 279 84 ls st h Q ↔ Ev X 279 85 ls (vi 2 :: st) h Q := R_kc rfl (Or.inl ⟨Or.inl rfl, by decide⟩)
theorem e_279_85 {x y : Int} : Ev X 279 85 ls (vi y :: vi x :: st) h Q ↔ ((y ≠ 0 ∧ inR (x.tdiv y)) ∧ Ev X 279 86 ls (vi (x.tmod y) :: st) h Q) := R_rem rfl
theorem e_279_86 {x y : Int} : Ev X 279 86 ls (vi y :: vi x :: st) h Q ↔ ((inR (x + y)) ∧ Ev X 279 87 ls (vi (x + y) :: st) h Q) := R_add rfl
theorem e_279_87 {x : Int} : Ev X 279 87 ls (vi x :: st) h Q ↔ (stOK ls 2 = true ∧ Ev X 279 88 (ls.set 2 (some (vi x))) st h Q) := R_is rfl (Or.inl rfl)
theorem e_279_88 : Ev X 279 88 ls st h Q ↔ Ev X 279 89 ls (vi 0 :: st) h Q := R_kc rfl (Or.inl ⟨Or.inl rfl, by decide⟩)
theorem e_279_89 {x : Int} : Ev X 279 89 ls (vi x :: st) h Q ↔ (stOK ls 4 = true ∧ Ev X 279 90 (ls.set 4 (some (vi x))) st h Q) := R_is rfl (Or.inr rfl)
theorem e_279_90 : Ev X 279 90 ls st h Q ↔ onI (gl ls 5) (fun x => (stOK ls 5 = true ∧ inR (x + 1)) ∧ Ev X 279 91 (ls.set 5 (some (vi (x + 1)))) st h Q) := R_inc rfl
theorem e_279_91 : Ev X 279 91 ls st h Q ↔ Ev X 279 31 ls st h Q := R_go rfl
theorem e_279_92 : Ev X 279 92 ls st h Q ↔ onI (gl ls 3) (fun x => (stOK ls 3 = true ∧ inR (x + 1)) ∧ Ev X 279 93 (ls.set 3 (some (vi (x + 1)))) st h Q) := R_inc rfl
theorem e_279_93 : Ev X 279 93 ls st h Q ↔ Ev X 279 20 ls st h Q := R_go rfl
theorem e_279_94 : Ev X 279 94 ls st h Q ↔ onI (gl ls 2) (fun z => Ev X 279 95 ls (vi z :: st) h Q) := R_il rfl (Or.inl rfl)
theorem e_279_95 {z : Int} : Ev X 279 95 ls [vi z] h Q ↔ Q (some (vi z)) h := R_ir rfl
-- 280: CellRowsModel.count(I)I
theorem e_280_0 : Ev X 280 0 ls st h Q ↔ onR (gl ls 0) (fun z => Ev X 280 1 ls (vr z :: st) h Q) := R_al rfl (Or.inl rfl)
theorem e_280_1 : Ev X 280 1 ls st h Q ↔ Ev X 280 2 ls (vi 0 :: st) h Q := R_kc rfl (Or.inl ⟨Or.inl rfl, by decide⟩)
theorem e_280_2 {x : Nat} {v : Int} : Ev X 280 2 ls (vi v :: vr x :: st) h Q ↔ (X.1 x = 12 ∧ Ev X 280 3 ls st (h.1, up2 h.2 x 0 v) Q) := R_pi rfl
theorem e_280_3 : Ev X 280 3 ls st h Q ↔ onI (gl ls 1) (fun z => Ev X 280 4 ls (vi z :: st) h Q) := R_il rfl (Or.inl rfl)
theorem e_280_4 {x : Int} : Ev X 280 4 ls (vi x :: st) h Q ↔ Ev X 280 (swt 0 [65, 5, 8, 11, 16, 21, 26, 31, 34, 37, 40, 45, 50, 55, 60] x) ls st h Q := R_sw rfl
theorem e_280_5 : Ev X 280 5 ls st h Q ↔ onR (gl ls 0) (fun z => Ev X 280 6 ls (vr z :: st) h Q) := R_al rfl (Or.inl rfl)
theorem e_280_6 {x : Nat} : Ev X 280 6 ls (vr x :: st) h Q ↔ (X.1 x = 12 ∧ Ev X 280 7 ls (vi (h.2 x 2) :: st) h Q) := R_gi rfl
theorem e_280_7 {z : Int} : Ev X 280 7 ls [vi z] h Q ↔ Q (some (vi z)) h := R_ir rfl
theorem e_280_8 : Ev X 280 8 ls st h Q ↔ onR (gl ls 0) (fun z => Ev X 280 9 ls (vr z :: st) h Q) := R_al rfl (Or.inl rfl)
theorem e_280_9 {x : Nat} : Ev X 280 9 ls (vr x :: st) h Q ↔ (X.1 x = 12 ∧ Ev X 280 10 ls (vi (h.2 x 3) :: st) h Q) := R_gi rfl
theorem e_280_10 {z : Int} : Ev X 280 10 ls [vi z] h Q ↔ Q (some (vi z)) h := R_ir rfl
theorem e_280_11 : Ev X 280 11 ls st h Q ↔ onR (gl ls 0) (fun z => Ev X 280 12 ls (vr z :: st) h Q) := R_al rfl (Or.inl rfl)
theorem e_280_12 {x : Nat} : Ev X 280 12 ls (vr x :: st) h Q ↔ (X.1 x = 12 ∧ Ev X 280 13 ls (vr (X.2.2.1 x 6) :: st) h Q) := R_gr rfl
theorem e_280_13 : Ev X 280 13 ls st h Q ↔ Ev X 280 14 ls (vi 0 :: st) h Q := R_kc rfl (Or.inl ⟨Or.inl rfl, by decide⟩)
theorem e_280_14 {x : Nat} {j : Int} : Ev X 280 14 ls (vi j :: vr x :: st) h Q ↔ (((X.1 x = 13 ∨ X.1 x = 20) ∧ 0 ≤ j ∧ j < X.2.1 x) ∧ Ev X 280 15 ls (vi (h.1 x j.toNat) :: st) h Q) := R_ia rfl
theorem e_280_15 {z : Int} : Ev X 280 15 ls [vi z] h Q ↔ Q (some (vi z)) h := R_ir rfl
theorem e_280_16 : Ev X 280 16 ls st h Q ↔ onR (gl ls 0) (fun z => Ev X 280 17 ls (vr z :: st) h Q) := R_al rfl (Or.inl rfl)
theorem e_280_17 {x : Nat} : Ev X 280 17 ls (vr x :: st) h Q ↔ (X.1 x = 12 ∧ Ev X 280 18 ls (vr (X.2.2.1 x 6) :: st) h Q) := R_gr rfl
theorem e_280_18 : Ev X 280 18 ls st h Q ↔ Ev X 280 19 ls (vi 1 :: st) h Q := R_kc rfl (Or.inl ⟨Or.inl rfl, by decide⟩)
theorem e_280_19 {x : Nat} {j : Int} : Ev X 280 19 ls (vi j :: vr x :: st) h Q ↔ (((X.1 x = 13 ∨ X.1 x = 20) ∧ 0 ≤ j ∧ j < X.2.1 x) ∧ Ev X 280 20 ls (vi (h.1 x j.toNat) :: st) h Q) := R_ia rfl
theorem e_280_20 {z : Int} : Ev X 280 20 ls [vi z] h Q ↔ Q (some (vi z)) h := R_ir rfl
theorem e_280_21 : Ev X 280 21 ls st h Q ↔ onR (gl ls 0) (fun z => Ev X 280 22 ls (vr z :: st) h Q) := R_al rfl (Or.inl rfl)
theorem e_280_22 {x : Nat} : Ev X 280 22 ls (vr x :: st) h Q ↔ (X.1 x = 12 ∧ Ev X 280 23 ls (vr (X.2.2.1 x 6) :: st) h Q) := R_gr rfl
theorem e_280_23 : Ev X 280 23 ls st h Q ↔ Ev X 280 24 ls (vi 2 :: st) h Q := R_kc rfl (Or.inl ⟨Or.inl rfl, by decide⟩)
theorem e_280_24 {x : Nat} {j : Int} : Ev X 280 24 ls (vi j :: vr x :: st) h Q ↔ (((X.1 x = 13 ∨ X.1 x = 20) ∧ 0 ≤ j ∧ j < X.2.1 x) ∧ Ev X 280 25 ls (vi (h.1 x j.toNat) :: st) h Q) := R_ia rfl
theorem e_280_25 {z : Int} : Ev X 280 25 ls [vi z] h Q ↔ Q (some (vi z)) h := R_ir rfl
theorem e_280_26 : Ev X 280 26 ls st h Q ↔ onR (gl ls 0) (fun z => Ev X 280 27 ls (vr z :: st) h Q) := R_al rfl (Or.inl rfl)
theorem e_280_27 {x : Nat} : Ev X 280 27 ls (vr x :: st) h Q ↔ (X.1 x = 12 ∧ Ev X 280 28 ls (vr (X.2.2.1 x 6) :: st) h Q) := R_gr rfl
theorem e_280_28 : Ev X 280 28 ls st h Q ↔ Ev X 280 29 ls (vi 3 :: st) h Q := R_kc rfl (Or.inl ⟨Or.inl rfl, by decide⟩)
theorem e_280_29 {x : Nat} {j : Int} : Ev X 280 29 ls (vi j :: vr x :: st) h Q ↔ (((X.1 x = 13 ∨ X.1 x = 20) ∧ 0 ≤ j ∧ j < X.2.1 x) ∧ Ev X 280 30 ls (vi (h.1 x j.toNat) :: st) h Q) := R_ia rfl
theorem e_280_30 {z : Int} : Ev X 280 30 ls [vi z] h Q ↔ Q (some (vi z)) h := R_ir rfl
theorem e_280_31 : Ev X 280 31 ls st h Q ↔ onR (gl ls 0) (fun z => Ev X 280 32 ls (vr z :: st) h Q) := R_al rfl (Or.inl rfl)
theorem e_280_32 {rest : List xV}  {o : Nat} : Ev X 280 32 ls (vr o :: rest) h Q ↔ ((X.1 o = 12 ∧ wd rest ≤ 8) ∧ Cl X 212 [vr o] h (fun r h2 => Ev X 280 33 ls (r.toList ++ rest) h2 Q)) := R_cv (x := o) (as := []) (k2 := 212) rfl rfl (Nat.le_of_ble_eq_true rfl)
theorem e_280_33 {z : Int} : Ev X 280 33 ls [vi z] h Q ↔ Q (some (vi z)) h := R_ir rfl
theorem e_280_34 : Ev X 280 34 ls st h Q ↔ onR (gl ls 0) (fun z => Ev X 280 35 ls (vr z :: st) h Q) := R_al rfl (Or.inl rfl)
theorem e_280_35 {x : Nat} : Ev X 280 35 ls (vr x :: st) h Q ↔ (X.1 x = 12 ∧ Ev X 280 36 ls (vi (h.2 x 9) :: st) h Q) := R_gi rfl
theorem e_280_36 {z : Int} : Ev X 280 36 ls [vi z] h Q ↔ Q (some (vi z)) h := R_ir rfl
theorem e_280_37 : Ev X 280 37 ls st h Q ↔ onR (gl ls 0) (fun z => Ev X 280 38 ls (vr z :: st) h Q) := R_al rfl (Or.inl rfl)
theorem e_280_38 {x : Nat} : Ev X 280 38 ls (vr x :: st) h Q ↔ (X.1 x = 12 ∧ Ev X 280 39 ls (vi (h.2 x 13) :: st) h Q) := R_gi rfl
theorem e_280_39 {z : Int} : Ev X 280 39 ls [vi z] h Q ↔ Q (some (vi z)) h := R_ir rfl
theorem e_280_40 : Ev X 280 40 ls st h Q ↔ onR (gl ls 0) (fun z => Ev X 280 41 ls (vr z :: st) h Q) := R_al rfl (Or.inl rfl)
theorem e_280_41 {x : Nat} : Ev X 280 41 ls (vr x :: st) h Q ↔ (X.1 x = 12 ∧ Ev X 280 42 ls (vr (X.2.2.1 x 4) :: st) h Q) := R_gr rfl
theorem e_280_42 : Ev X 280 42 ls st h Q ↔ Ev X 280 43 ls (vi 1 :: st) h Q := R_kc rfl (Or.inl ⟨Or.inl rfl, by decide⟩)
theorem e_280_43 {x : Nat} {j : Int} : Ev X 280 43 ls (vi j :: vr x :: st) h Q ↔ (((X.1 x = 13 ∨ X.1 x = 20) ∧ 0 ≤ j ∧ j < X.2.1 x) ∧ Ev X 280 44 ls (vi (h.1 x j.toNat) :: st) h Q) := R_ia rfl
theorem e_280_44 {z : Int} : Ev X 280 44 ls [vi z] h Q ↔ Q (some (vi z)) h := R_ir rfl
theorem e_280_45 : Ev X 280 45 ls st h Q ↔ onR (gl ls 0) (fun z => Ev X 280 46 ls (vr z :: st) h Q) := R_al rfl (Or.inl rfl)
theorem e_280_46 {x : Nat} : Ev X 280 46 ls (vr x :: st) h Q ↔ (X.1 x = 12 ∧ Ev X 280 47 ls (vr (X.2.2.1 x 4) :: st) h Q) := R_gr rfl
theorem e_280_47 : Ev X 280 47 ls st h Q ↔ Ev X 280 48 ls (vi 2 :: st) h Q := R_kc rfl (Or.inl ⟨Or.inl rfl, by decide⟩)
theorem e_280_48 {x : Nat} {j : Int} : Ev X 280 48 ls (vi j :: vr x :: st) h Q ↔ (((X.1 x = 13 ∨ X.1 x = 20) ∧ 0 ≤ j ∧ j < X.2.1 x) ∧ Ev X 280 49 ls (vi (h.1 x j.toNat) :: st) h Q) := R_ia rfl
theorem e_280_49 {z : Int} : Ev X 280 49 ls [vi z] h Q ↔ Q (some (vi z)) h := R_ir rfl
theorem e_280_50 : Ev X 280 50 ls st h Q ↔ onR (gl ls 0) (fun z => Ev X 280 51 ls (vr z :: st) h Q) := R_al rfl (Or.inl rfl)
theorem e_280_51 {x : Nat} : Ev X 280 51 ls (vr x :: st) h Q ↔ (X.1 x = 12 ∧ Ev X 280 52 ls (vr (X.2.2.1 x 4) :: st) h Q) := R_gr rfl
theorem e_280_52 : Ev X 280 52 ls st h Q ↔ Ev X 280 53 ls (vi 4 :: st) h Q := R_kc rfl (Or.inl ⟨Or.inl rfl, by decide⟩)
theorem e_280_53 {x : Nat} {j : Int} : Ev X 280 53 ls (vi j :: vr x :: st) h Q ↔ (((X.1 x = 13 ∨ X.1 x = 20) ∧ 0 ≤ j ∧ j < X.2.1 x) ∧ Ev X 280 54 ls (vi (h.1 x j.toNat) :: st) h Q) := R_ia rfl
theorem e_280_54 {z : Int} : Ev X 280 54 ls [vi z] h Q ↔ Q (some (vi z)) h := R_ir rfl
theorem e_280_55 : Ev X 280 55 ls st h Q ↔ onR (gl ls 0) (fun z => Ev X 280 56 ls (vr z :: st) h Q) := R_al rfl (Or.inl rfl)
theorem e_280_56 {x : Nat} : Ev X 280 56 ls (vr x :: st) h Q ↔ (X.1 x = 12 ∧ Ev X 280 57 ls (vr (X.2.2.1 x 4) :: st) h Q) := R_gr rfl
theorem e_280_57 : Ev X 280 57 ls st h Q ↔ Ev X 280 58 ls (vi 5 :: st) h Q := R_kc rfl (Or.inl ⟨Or.inl rfl, by decide⟩)
theorem e_280_58 {x : Nat} {j : Int} : Ev X 280 58 ls (vi j :: vr x :: st) h Q ↔ (((X.1 x = 13 ∨ X.1 x = 20) ∧ 0 ≤ j ∧ j < X.2.1 x) ∧ Ev X 280 59 ls (vi (h.1 x j.toNat) :: st) h Q) := R_ia rfl
theorem e_280_59 {z : Int} : Ev X 280 59 ls [vi z] h Q ↔ Q (some (vi z)) h := R_ir rfl
theorem e_280_60 : Ev X 280 60 ls st h Q ↔ onR (gl ls 0) (fun z => Ev X 280 61 ls (vr z :: st) h Q) := R_al rfl (Or.inl rfl)
theorem e_280_61 {x : Nat} : Ev X 280 61 ls (vr x :: st) h Q ↔ (X.1 x = 12 ∧ Ev X 280 62 ls (vr (X.2.2.1 x 4) :: st) h Q) := R_gr rfl
theorem e_280_62 : Ev X 280 62 ls st h Q ↔ Ev X 280 63 ls (vi 6 :: st) h Q := R_kc rfl (Or.inr (Or.inl ⟨rfl, by decide⟩))
theorem e_280_63 {x : Nat} {j : Int} : Ev X 280 63 ls (vi j :: vr x :: st) h Q ↔ (((X.1 x = 13 ∨ X.1 x = 20) ∧ 0 ≤ j ∧ j < X.2.1 x) ∧ Ev X 280 64 ls (vi (h.1 x j.toNat) :: st) h Q) := R_ia rfl
theorem e_280_64 {z : Int} : Ev X 280 64 ls [vi z] h Q ↔ Q (some (vi z)) h := R_ir rfl
theorem e_280_65 : Ev X 280 65 ls st h Q ↔ onI (gl ls 1) (fun z => Ev X 280 66 ls (vi z :: st) h Q) := R_il rfl (Or.inl rfl)
theorem e_280_66 {x : Int} : Ev X 280 66 ls (vi x :: st) h Q ↔ Ev X 280 67 ls (vl x :: st) h Q := R_i2l rfl
theorem e_280_67 : Ev X 280 67 ls st h Q ↔ Ev X 280 68 ls (vl 14 :: st) h Q := R_lc rfl ⟨Or.inr rfl, by decide⟩
theorem e_280_68 : Ev X 280 68 ls st h Q ↔ Ev X 280 69 ls (vl 19 :: st) h Q := R_lc rfl ⟨Or.inr rfl, by decide⟩
theorem e_280_69 {rest : List xV} {a0 : Int} {a1 : Int} {a2 : Int} : Ev X 280 69 ls ((vl a2) :: (vl a1) :: (vl a0) :: rest) h Q ↔ (wd rest ≤ 8 ∧ Cl X 149 [vl a0, vl a1, vl a2] h (fun r h2 => Ev X 280 70 ls (r.toList ++ rest) h2 Q)) := R_cs (as := [vl a0, vl a1, vl a2]) (k2 := 149) rfl rfl (Nat.le_of_ble_eq_true rfl)
theorem e_280_70 {x : Int} : Ev X 280 70 ls (vi x :: st) h Q ↔ (if x = 0 then Ev X 280 78 ls st h Q else Ev X 280 71 ls st h Q) := R_ifeq rfl
theorem e_280_71 : Ev X 280 71 ls st h Q ↔ onR (gl ls 0) (fun z => Ev X 280 72 ls (vr z :: st) h Q) := R_al rfl (Or.inl rfl)
theorem e_280_72 {x : Nat} : Ev X 280 72 ls (vr x :: st) h Q ↔ (X.1 x = 12 ∧ Ev X 280 73 ls (vr (X.2.2.1 x 5) :: st) h Q) := R_gr rfl
theorem e_280_73 : Ev X 280 73 ls st h Q ↔ onI (gl ls 1) (fun z => Ev X 280 74 ls (vi z :: st) h Q) := R_il rfl (Or.inl rfl)
theorem e_280_74 : Ev X 280 74 ls st h Q ↔ Ev X 280 75 ls (vi 14 :: st) h Q := R_kc rfl (Or.inr (Or.inl ⟨rfl, by decide⟩))
theorem e_280_75 {x y : Int} : Ev X 280 75 ls (vi y :: vi x :: st) h Q ↔ ((inR (x - y)) ∧ Ev X 280 76 ls (vi (x - y) :: st) h Q) := R_sub rfl
theorem e_280_76 {x : Nat} {j : Int} : Ev X 280 76 ls (vi j :: vr x :: st) h Q ↔ (((X.1 x = 13 ∨ X.1 x = 20) ∧ 0 ≤ j ∧ j < X.2.1 x) ∧ Ev X 280 77 ls (vi (h.1 x j.toNat) :: st) h Q) := R_ia rfl
theorem e_280_77 : Ev X 280 77 ls st h Q ↔ Ev X 280 79 ls st h Q := R_go rfl
theorem e_280_78 : Ev X 280 78 ls st h Q ↔ Ev X 280 79 ls (vi (-1) :: st) h Q := R_kc rfl (Or.inl ⟨Or.inl rfl, by decide⟩)
theorem e_280_79 {z : Int} : Ev X 280 79 ls [vi z] h Q ↔ Q (some (vi z)) h := R_ir rfl
-- 281: CellRowsModel.status()I
theorem e_281_0 : Ev X 281 0 ls st h Q ↔ onR (gl ls 0) (fun z => Ev X 281 1 ls (vr z :: st) h Q) := R_al rfl (Or.inl rfl)
theorem e_281_1 : Ev X 281 1 ls st h Q ↔ Ev X 281 2 ls (vi 0 :: st) h Q := R_kc rfl (Or.inl ⟨Or.inl rfl, by decide⟩)
theorem e_281_2 {x : Nat} {v : Int} : Ev X 281 2 ls (vi v :: vr x :: st) h Q ↔ (X.1 x = 12 ∧ Ev X 281 3 ls st (h.1, up2 h.2 x 0 v) Q) := R_pi rfl
theorem e_281_3 : Ev X 281 3 ls st h Q ↔ onR (gl ls 0) (fun z => Ev X 281 4 ls (vr z :: st) h Q) := R_al rfl (Or.inl rfl)
theorem e_281_4 {x : Nat} : Ev X 281 4 ls (vr x :: st) h Q ↔ (X.1 x = 12 ∧ Ev X 281 5 ls (vi (h.2 x 1) :: st) h Q) := R_gi rfl
theorem e_281_5 {z : Int} : Ev X 281 5 ls [vi z] h Q ↔ Q (some (vi z)) h := R_ir rfl
-- 282: java/lang/Math.floorDiv(II)I
theorem e_282_0 : Ev X 282 0 ls st h Q ↔ onI (gl ls 0) (fun z => Ev X 282 1 ls (vi z :: st) h Q) := R_il rfl (Or.inl rfl)
theorem e_282_1 : Ev X 282 1 ls st h Q ↔ onI (gl ls 1) (fun z => Ev X 282 2 ls (vi z :: st) h Q) := R_il rfl (Or.inl rfl)
theorem e_282_2 {x y : Int} : Ev X 282 2 ls (vi y :: vi x :: st) h Q ↔ ((y ≠ 0 ∧ inR (x.tdiv y)) ∧ Ev X 282 3 ls (vi (x.tdiv y) :: st) h Q) := R_div rfl
theorem e_282_3 {x : Int} : Ev X 282 3 ls (vi x :: st) h Q ↔ (stOK ls 2 = true ∧ Ev X 282 4 (ls.set 2 (some (vi x))) st h Q) := R_is rfl (Or.inl rfl)
theorem e_282_4 : Ev X 282 4 ls st h Q ↔ onI (gl ls 0) (fun z => Ev X 282 5 ls (vi z :: st) h Q) := R_il rfl (Or.inl rfl)
theorem e_282_5 : Ev X 282 5 ls st h Q ↔ onI (gl ls 1) (fun z => Ev X 282 6 ls (vi z :: st) h Q) := R_il rfl (Or.inl rfl)
theorem e_282_6 {x y : Int} : Ev X 282 6 ls (vi y :: vi x :: st) h Q ↔ Ev X 282 7 ls (vi ((Int32.ofInt x ^^^ Int32.ofInt y).toInt) :: st) h Q := R_xor rfl
theorem e_282_7 {x : Int} : Ev X 282 7 ls (vi x :: st) h Q ↔ (if 0 ≤ x then Ev X 282 17 ls st h Q else Ev X 282 8 ls st h Q) := R_ifge rfl
theorem e_282_8 : Ev X 282 8 ls st h Q ↔ onI (gl ls 2) (fun z => Ev X 282 9 ls (vi z :: st) h Q) := R_il rfl (Or.inl rfl)
theorem e_282_9 : Ev X 282 9 ls st h Q ↔ onI (gl ls 1) (fun z => Ev X 282 10 ls (vi z :: st) h Q) := R_il rfl (Or.inl rfl)
theorem e_282_10 {x y : Int} : Ev X 282 10 ls (vi y :: vi x :: st) h Q ↔ ((inR (x * y)) ∧ Ev X 282 11 ls (vi (x * y) :: st) h Q) := R_mul rfl
theorem e_282_11 : Ev X 282 11 ls st h Q ↔ onI (gl ls 0) (fun z => Ev X 282 12 ls (vi z :: st) h Q) := R_il rfl (Or.inl rfl)
theorem e_282_12 {x y : Int} : Ev X 282 12 ls (vi y :: vi x :: st) h Q ↔ (if x = y then Ev X 282 17 ls st h Q else Ev X 282 13 ls st h Q) := R_iceq rfl
theorem e_282_13 : Ev X 282 13 ls st h Q ↔ onI (gl ls 2) (fun z => Ev X 282 14 ls (vi z :: st) h Q) := R_il rfl (Or.inl rfl)
theorem e_282_14 : Ev X 282 14 ls st h Q ↔ Ev X 282 15 ls (vi 1 :: st) h Q := R_kc rfl (Or.inl ⟨Or.inl rfl, by decide⟩)
theorem e_282_15 {x y : Int} : Ev X 282 15 ls (vi y :: vi x :: st) h Q ↔ ((inR (x - y)) ∧ Ev X 282 16 ls (vi (x - y) :: st) h Q) := R_sub rfl
theorem e_282_16 {z : Int} : Ev X 282 16 ls [vi z] h Q ↔ Q (some (vi z)) h := R_ir rfl
theorem e_282_17 : Ev X 282 17 ls st h Q ↔ onI (gl ls 2) (fun z => Ev X 282 18 ls (vi z :: st) h Q) := R_il rfl (Or.inl rfl)
theorem e_282_18 {z : Int} : Ev X 282 18 ls [vi z] h Q ↔ Q (some (vi z)) h := R_ir rfl
-- 283: java/lang/Math.abs(I)I
theorem e_283_0 : Ev X 283 0 ls st h Q ↔ onI (gl ls 0) (fun z => Ev X 283 1 ls (vi z :: st) h Q) := R_il rfl (Or.inl rfl)
theorem e_283_1 {x : Int} : Ev X 283 1 ls (vi x :: st) h Q ↔ (if 0 ≤ x then Ev X 283 5 ls st h Q else Ev X 283 2 ls st h Q) := R_ifge rfl
theorem e_283_2 : Ev X 283 2 ls st h Q ↔ onI (gl ls 0) (fun z => Ev X 283 3 ls (vi z :: st) h Q) := R_il rfl (Or.inl rfl)
theorem e_283_3 {x : Int} : Ev X 283 3 ls (vi x :: st) h Q ↔ (inR (-x) ∧ Ev X 283 4 ls (vi (-x) :: st) h Q) := R_neg rfl
theorem e_283_4 : Ev X 283 4 ls st h Q ↔ Ev X 283 6 ls st h Q := R_go rfl
theorem e_283_5 : Ev X 283 5 ls st h Q ↔ onI (gl ls 0) (fun z => Ev X 283 6 ls (vi z :: st) h Q) := R_il rfl (Or.inl rfl)
theorem e_283_6 {z : Int} : Ev X 283 6 ls [vi z] h Q ↔ Q (some (vi z)) h := R_ir rfl
-- 284: java/lang/Math.max(II)I
theorem e_284_0 : Ev X 284 0 ls st h Q ↔ onI (gl ls 0) (fun z => Ev X 284 1 ls (vi z :: st) h Q) := R_il rfl (Or.inl rfl)
theorem e_284_1 : Ev X 284 1 ls st h Q ↔ onI (gl ls 1) (fun z => Ev X 284 2 ls (vi z :: st) h Q) := R_il rfl (Or.inl rfl)
theorem e_284_2 {x y : Int} : Ev X 284 2 ls (vi y :: vi x :: st) h Q ↔ (if x < y then Ev X 284 5 ls st h Q else Ev X 284 3 ls st h Q) := R_iclt rfl
theorem e_284_3 : Ev X 284 3 ls st h Q ↔ onI (gl ls 0) (fun z => Ev X 284 4 ls (vi z :: st) h Q) := R_il rfl (Or.inl rfl)
theorem e_284_4 : Ev X 284 4 ls st h Q ↔ Ev X 284 6 ls st h Q := R_go rfl
theorem e_284_5 : Ev X 284 5 ls st h Q ↔ onI (gl ls 1) (fun z => Ev X 284 6 ls (vi z :: st) h Q) := R_il rfl (Or.inl rfl)
theorem e_284_6 {z : Int} : Ev X 284 6 ls [vi z] h Q ↔ Q (some (vi z)) h := R_ir rfl
-- 285: java/lang/Math.min(II)I
theorem e_285_0 : Ev X 285 0 ls st h Q ↔ onI (gl ls 0) (fun z => Ev X 285 1 ls (vi z :: st) h Q) := R_il rfl (Or.inl rfl)
theorem e_285_1 : Ev X 285 1 ls st h Q ↔ onI (gl ls 1) (fun z => Ev X 285 2 ls (vi z :: st) h Q) := R_il rfl (Or.inl rfl)
theorem e_285_2 {x y : Int} : Ev X 285 2 ls (vi y :: vi x :: st) h Q ↔ (if y < x then Ev X 285 5 ls st h Q else Ev X 285 3 ls st h Q) := R_icgt rfl
theorem e_285_3 : Ev X 285 3 ls st h Q ↔ onI (gl ls 0) (fun z => Ev X 285 4 ls (vi z :: st) h Q) := R_il rfl (Or.inl rfl)
theorem e_285_4 : Ev X 285 4 ls st h Q ↔ Ev X 285 6 ls st h Q := R_go rfl
theorem e_285_5 : Ev X 285 5 ls st h Q ↔ onI (gl ls 1) (fun z => Ev X 285 6 ls (vi z :: st) h Q) := R_il rfl (Or.inl rfl)
theorem e_285_6 {z : Int} : Ev X 285 6 ls [vi z] h Q ↔ Q (some (vi z)) h := R_ir rfl
-- 286: CellRowsLaw.cell([II)I
theorem e_286_0 : Ev X 286 0 ls st h Q ↔ onI (gl ls 1) (fun z => Ev X 286 1 ls (vi z :: st) h Q) := R_il rfl (Or.inl rfl)
theorem e_286_1 : Ev X 286 1 ls st h Q ↔ onR (gl ls 0) (fun z => Ev X 286 2 ls (vr z :: st) h Q) := R_al rfl (Or.inl rfl)
theorem e_286_2 {x : Nat} : Ev X 286 2 ls (vr x :: st) h Q ↔ ((X.1 x = 13 ∨ X.1 x = 20) ∧ Ev X 286 3 ls (vi (X.2.1 x) :: st) h Q) := R_len rfl
theorem e_286_3 {x y : Int} : Ev X 286 3 ls (vi y :: vi x :: st) h Q ↔ (if y ≤ x then Ev X 286 8 ls st h Q else Ev X 286 4 ls st h Q) := R_icge rfl
theorem e_286_4 : Ev X 286 4 ls st h Q ↔ onR (gl ls 0) (fun z => Ev X 286 5 ls (vr z :: st) h Q) := R_al rfl (Or.inl rfl)
theorem e_286_5 : Ev X 286 5 ls st h Q ↔ onI (gl ls 1) (fun z => Ev X 286 6 ls (vi z :: st) h Q) := R_il rfl (Or.inl rfl)
theorem e_286_6 {x : Nat} {j : Int} : Ev X 286 6 ls (vi j :: vr x :: st) h Q ↔ (((X.1 x = 13 ∨ X.1 x = 20) ∧ 0 ≤ j ∧ j < X.2.1 x) ∧ Ev X 286 7 ls (vi (h.1 x j.toNat) :: st) h Q) := R_ia rfl
theorem e_286_7 : Ev X 286 7 ls st h Q ↔ Ev X 286 9 ls st h Q := R_go rfl
theorem e_286_8 : Ev X 286 8 ls st h Q ↔ Ev X 286 9 ls (vi 0 :: st) h Q := R_kc rfl (Or.inl ⟨Or.inl rfl, by decide⟩)
theorem e_286_9 {z : Int} : Ev X 286 9 ls [vi z] h Q ↔ Q (some (vi z)) h := R_ir rfl
-- 287: CellRowsLaw.law([I)Z
theorem e_287_1 {v : xV} : Ev X 287 1 ls (v :: st) h Q ↔ (ct1 v = true ∧ Ev X 287 2 ls (v :: v :: st) h Q) := R_dup rfl
theorem e_287_2 : Ev X 287 2 ls st h Q ↔ onR (gl ls 0) (fun z => Ev X 287 3 ls (vr z :: st) h Q) := R_al rfl (Or.inl rfl)
theorem e_287_3 : Ev X 287 3 ls st h Q ↔ Ev X 287 4 ls (vi 0 :: st) h Q := R_kc rfl (Or.inl ⟨Or.inl rfl, by decide⟩)
theorem e_287_4 {rest : List xV} {a0 : Nat} {a1 : Int} : Ev X 287 4 ls ((vi a1) :: (vr a0) :: rest) h Q ↔ (wd rest ≤ 8 ∧ Cl X 286 [vr a0, vi a1] h (fun r h2 => Ev X 287 5 ls (r.toList ++ rest) h2 Q)) := R_cs (as := [vr a0, vi a1]) (k2 := 286) rfl rfl (Nat.le_of_ble_eq_true rfl)
theorem e_287_5 : Ev X 287 5 ls st h Q ↔ onR (gl ls 0) (fun z => Ev X 287 6 ls (vr z :: st) h Q) := R_al rfl (Or.inl rfl)
theorem e_287_6 : Ev X 287 6 ls st h Q ↔ Ev X 287 7 ls (vi 1 :: st) h Q := R_kc rfl (Or.inl ⟨Or.inl rfl, by decide⟩)
theorem e_287_7 {rest : List xV} {a0 : Nat} {a1 : Int} : Ev X 287 7 ls ((vi a1) :: (vr a0) :: rest) h Q ↔ (wd rest ≤ 8 ∧ Cl X 286 [vr a0, vi a1] h (fun r h2 => Ev X 287 8 ls (r.toList ++ rest) h2 Q)) := R_cs (as := [vr a0, vi a1]) (k2 := 286) rfl rfl (Nat.le_of_ble_eq_true rfl)
theorem e_287_9 {x : Nat} : Ev X 287 9 ls (vr x :: st) h Q ↔ (stOK ls 1 = true ∧ Ev X 287 10 (ls.set 1 (some (vr x))) st h Q) := R_as rfl (Or.inl rfl)
theorem e_287_11 {v : xV} : Ev X 287 11 ls (v :: st) h Q ↔ (ct1 v = true ∧ Ev X 287 12 ls (v :: v :: st) h Q) := R_dup rfl
theorem e_287_12 : Ev X 287 12 ls st h Q ↔ onR (gl ls 0) (fun z => Ev X 287 13 ls (vr z :: st) h Q) := R_al rfl (Or.inl rfl)
theorem e_287_13 : Ev X 287 13 ls st h Q ↔ Ev X 287 14 ls (vi 0 :: st) h Q := R_kc rfl (Or.inl ⟨Or.inl rfl, by decide⟩)
theorem e_287_14 {rest : List xV} {a0 : Nat} {a1 : Int} : Ev X 287 14 ls ((vi a1) :: (vr a0) :: rest) h Q ↔ (wd rest ≤ 8 ∧ Cl X 286 [vr a0, vi a1] h (fun r h2 => Ev X 287 15 ls (r.toList ++ rest) h2 Q)) := R_cs (as := [vr a0, vi a1]) (k2 := 286) rfl rfl (Nat.le_of_ble_eq_true rfl)
theorem e_287_15 : Ev X 287 15 ls st h Q ↔ onR (gl ls 0) (fun z => Ev X 287 16 ls (vr z :: st) h Q) := R_al rfl (Or.inl rfl)
theorem e_287_16 : Ev X 287 16 ls st h Q ↔ Ev X 287 17 ls (vi 1 :: st) h Q := R_kc rfl (Or.inl ⟨Or.inl rfl, by decide⟩)
theorem e_287_17 {rest : List xV} {a0 : Nat} {a1 : Int} : Ev X 287 17 ls ((vi a1) :: (vr a0) :: rest) h Q ↔ (wd rest ≤ 8 ∧ Cl X 286 [vr a0, vi a1] h (fun r h2 => Ev X 287 18 ls (r.toList ++ rest) h2 Q)) := R_cs (as := [vr a0, vi a1]) (k2 := 286) rfl rfl (Nat.le_of_ble_eq_true rfl)
theorem e_287_19 {x : Nat} : Ev X 287 19 ls (vr x :: st) h Q ↔ (stOK ls 2 = true ∧ Ev X 287 20 (ls.set 2 (some (vr x))) st h Q) := R_as rfl (Or.inl rfl)
theorem e_287_20 : Ev X 287 20 ls st h Q ↔ Ev X 287 21 ls (vi 2 :: st) h Q := R_kc rfl (Or.inl ⟨Or.inl rfl, by decide⟩)
theorem e_287_21 {x : Int} : Ev X 287 21 ls (vi x :: st) h Q ↔ (stOK ls 3 = true ∧ Ev X 287 22 (ls.set 3 (some (vi x))) st h Q) := R_is rfl (Or.inl rfl)
theorem e_287_22 : Ev X 287 22 ls st h Q ↔ onI (gl ls 3) (fun z => Ev X 287 23 ls (vi z :: st) h Q) := R_il rfl (Or.inl rfl)
theorem e_287_23 : Ev X 287 23 ls st h Q ↔ onR (gl ls 0) (fun z => Ev X 287 24 ls (vr z :: st) h Q) := R_al rfl (Or.inl rfl)
theorem e_287_24 {x : Nat} : Ev X 287 24 ls (vr x :: st) h Q ↔ ((X.1 x = 13 ∨ X.1 x = 20) ∧ Ev X 287 25 ls (vi (X.2.1 x) :: st) h Q) := R_len rfl
theorem e_287_25 : Ev X 287 25 ls st h Q ↔ Ev X 287 26 ls (vi 6 :: st) h Q := R_kc rfl (Or.inr (Or.inl ⟨rfl, by decide⟩))
theorem e_287_26 {x y : Int} : Ev X 287 26 ls (vi y :: vi x :: st) h Q ↔ ((inR (x - y)) ∧ Ev X 287 27 ls (vi (x - y) :: st) h Q) := R_sub rfl
theorem e_287_27 {x y : Int} : Ev X 287 27 ls (vi y :: vi x :: st) h Q ↔ (if y < x then Ev X 287 901 ls st h Q else Ev X 287 28 ls st h Q) := R_icgt rfl
theorem e_287_28 : Ev X 287 28 ls st h Q ↔ onR (gl ls 0) (fun z => Ev X 287 29 ls (vr z :: st) h Q) := R_al rfl (Or.inl rfl)
theorem e_287_29 : Ev X 287 29 ls st h Q ↔ onI (gl ls 3) (fun z => Ev X 287 30 ls (vi z :: st) h Q) := R_il rfl (Or.inl rfl)
theorem e_287_30 {x : Nat} {j : Int} : Ev X 287 30 ls (vi j :: vr x :: st) h Q ↔ (((X.1 x = 13 ∨ X.1 x = 20) ∧ 0 ≤ j ∧ j < X.2.1 x) ∧ Ev X 287 31 ls (vi (h.1 x j.toNat) :: st) h Q) := R_ia rfl
theorem e_287_31 : Ev X 287 31 ls st h Q ↔ Ev X 287 32 ls (vi 63 :: st) h Q := R_kc rfl (Or.inr (Or.inl ⟨rfl, by decide⟩))
theorem e_287_32 {x y : Int} : Ev X 287 32 ls (vi y :: vi x :: st) h Q ↔ Ev X 287 33 ls (vi ((Int32.ofInt x &&& Int32.ofInt y).toInt) :: st) h Q := R_and rfl
theorem e_287_33 {x : Int} : Ev X 287 33 ls (vi x :: st) h Q ↔ Ev X 287 (swt 0 [899, 34, 61, 118, 135, 192, 239, 266, 283, 300, 337, 374, 391, 428, 445, 462, 479, 486, 503, 510, 517, 524, 561, 568, 595, 622, 649, 666, 703, 730, 777, 814, 841, 858, 875, 892] x) ls st h Q := R_sw rfl
theorem e_287_34 : Ev X 287 34 ls st h Q ↔ onR (gl ls 1) (fun z => Ev X 287 35 ls (vr z :: st) h Q) := R_al rfl (Or.inl rfl)
theorem e_287_35 : Ev X 287 35 ls st h Q ↔ onR (gl ls 0) (fun z => Ev X 287 36 ls (vr z :: st) h Q) := R_al rfl (Or.inl rfl)
theorem e_287_36 : Ev X 287 36 ls st h Q ↔ onI (gl ls 3) (fun z => Ev X 287 37 ls (vi z :: st) h Q) := R_il rfl (Or.inl rfl)
theorem e_287_37 : Ev X 287 37 ls st h Q ↔ Ev X 287 38 ls (vi 1 :: st) h Q := R_kc rfl (Or.inl ⟨Or.inl rfl, by decide⟩)
theorem e_287_38 {x y : Int} : Ev X 287 38 ls (vi y :: vi x :: st) h Q ↔ ((inR (x + y)) ∧ Ev X 287 39 ls (vi (x + y) :: st) h Q) := R_add rfl
theorem e_287_39 {x : Nat} {j : Int} : Ev X 287 39 ls (vi j :: vr x :: st) h Q ↔ (((X.1 x = 13 ∨ X.1 x = 20) ∧ 0 ≤ j ∧ j < X.2.1 x) ∧ Ev X 287 40 ls (vi (h.1 x j.toNat) :: st) h Q) := R_ia rfl
theorem e_287_40 : Ev X 287 40 ls st h Q ↔ onR (gl ls 0) (fun z => Ev X 287 41 ls (vr z :: st) h Q) := R_al rfl (Or.inl rfl)
theorem e_287_41 : Ev X 287 41 ls st h Q ↔ onI (gl ls 3) (fun z => Ev X 287 42 ls (vi z :: st) h Q) := R_il rfl (Or.inl rfl)
theorem e_287_42 : Ev X 287 42 ls st h Q ↔ Ev X 287 43 ls (vi 2 :: st) h Q := R_kc rfl (Or.inl ⟨Or.inl rfl, by decide⟩)
theorem e_287_43 {x y : Int} : Ev X 287 43 ls (vi y :: vi x :: st) h Q ↔ ((inR (x + y)) ∧ Ev X 287 44 ls (vi (x + y) :: st) h Q) := R_add rfl
theorem e_287_44 {x : Nat} {j : Int} : Ev X 287 44 ls (vi j :: vr x :: st) h Q ↔ (((X.1 x = 13 ∨ X.1 x = 20) ∧ 0 ≤ j ∧ j < X.2.1 x) ∧ Ev X 287 45 ls (vi (h.1 x j.toNat) :: st) h Q) := R_ia rfl
theorem e_287_45 {rest : List xV} {a0 : Int} {a1 : Int} {o : Nat} : Ev X 287 45 ls ((vi a1) :: (vi a0) :: vr o :: rest) h Q ↔ ((X.1 o = 11 ∧ wd rest ≤ 8) ∧ Cl X 103 [vr o, vi a0, vi a1] h (fun r h2 => Ev X 287 46 ls (r.toList ++ rest) h2 Q)) := R_cv (x := o) (as := [vi a0, vi a1]) (k2 := 103) rfl rfl (Nat.le_of_ble_eq_true rfl)
theorem e_287_46 : Ev X 287 46 ls st h Q ↔ onR (gl ls 2) (fun z => Ev X 287 47 ls (vr z :: st) h Q) := R_al rfl (Or.inl rfl)
theorem e_287_47 : Ev X 287 47 ls st h Q ↔ onR (gl ls 0) (fun z => Ev X 287 48 ls (vr z :: st) h Q) := R_al rfl (Or.inl rfl)
theorem e_287_48 : Ev X 287 48 ls st h Q ↔ onI (gl ls 3) (fun z => Ev X 287 49 ls (vi z :: st) h Q) := R_il rfl (Or.inl rfl)
theorem e_287_49 : Ev X 287 49 ls st h Q ↔ Ev X 287 50 ls (vi 1 :: st) h Q := R_kc rfl (Or.inl ⟨Or.inl rfl, by decide⟩)
theorem e_287_50 {x y : Int} : Ev X 287 50 ls (vi y :: vi x :: st) h Q ↔ ((inR (x + y)) ∧ Ev X 287 51 ls (vi (x + y) :: st) h Q) := R_add rfl
theorem e_287_51 {x : Nat} {j : Int} : Ev X 287 51 ls (vi j :: vr x :: st) h Q ↔ (((X.1 x = 13 ∨ X.1 x = 20) ∧ 0 ≤ j ∧ j < X.2.1 x) ∧ Ev X 287 52 ls (vi (h.1 x j.toNat) :: st) h Q) := R_ia rfl
theorem e_287_52 : Ev X 287 52 ls st h Q ↔ onR (gl ls 0) (fun z => Ev X 287 53 ls (vr z :: st) h Q) := R_al rfl (Or.inl rfl)
theorem e_287_53 : Ev X 287 53 ls st h Q ↔ onI (gl ls 3) (fun z => Ev X 287 54 ls (vi z :: st) h Q) := R_il rfl (Or.inl rfl)
theorem e_287_54 : Ev X 287 54 ls st h Q ↔ Ev X 287 55 ls (vi 2 :: st) h Q := R_kc rfl (Or.inl ⟨Or.inl rfl, by decide⟩)
theorem e_287_55 {x y : Int} : Ev X 287 55 ls (vi y :: vi x :: st) h Q ↔ ((inR (x + y)) ∧ Ev X 287 56 ls (vi (x + y) :: st) h Q) := R_add rfl
theorem e_287_56 {x : Nat} {j : Int} : Ev X 287 56 ls (vi j :: vr x :: st) h Q ↔ (((X.1 x = 13 ∨ X.1 x = 20) ∧ 0 ≤ j ∧ j < X.2.1 x) ∧ Ev X 287 57 ls (vi (h.1 x j.toNat) :: st) h Q) := R_ia rfl
theorem e_287_57 {rest : List xV} {a0 : Int} {a1 : Int} {o : Nat} : Ev X 287 57 ls ((vi a1) :: (vi a0) :: vr o :: rest) h Q ↔ ((X.1 o = 12 ∧ wd rest ≤ 8) ∧ Cl X 179 [vr o, vi a0, vi a1] h (fun r h2 => Ev X 287 58 ls (r.toList ++ rest) h2 Q)) := R_cv (x := o) (as := [vi a0, vi a1]) (k2 := 179) rfl rfl (Nat.le_of_ble_eq_true rfl)
theorem e_287_58 {x y : Int} : Ev X 287 58 ls (vi y :: vi x :: st) h Q ↔ (if x = y then Ev X 287 899 ls st h Q else Ev X 287 59 ls st h Q) := R_iceq rfl
theorem e_287_59 : Ev X 287 59 ls st h Q ↔ Ev X 287 60 ls (vi 0 :: st) h Q := R_kc rfl (Or.inl ⟨Or.inl rfl, by decide⟩)
theorem e_287_60 {z : Int} : Ev X 287 60 ls [vi z] h Q ↔ ((z = 0 ∨ z = 1) ∧ Q (some (vi z)) h) := R_zr rfl
theorem e_287_61 : Ev X 287 61 ls st h Q ↔ onR (gl ls 1) (fun z => Ev X 287 62 ls (vr z :: st) h Q) := R_al rfl (Or.inl rfl)
theorem e_287_62 : Ev X 287 62 ls st h Q ↔ onR (gl ls 0) (fun z => Ev X 287 63 ls (vr z :: st) h Q) := R_al rfl (Or.inl rfl)
theorem e_287_63 : Ev X 287 63 ls st h Q ↔ onI (gl ls 3) (fun z => Ev X 287 64 ls (vi z :: st) h Q) := R_il rfl (Or.inl rfl)
theorem e_287_64 : Ev X 287 64 ls st h Q ↔ Ev X 287 65 ls (vi 1 :: st) h Q := R_kc rfl (Or.inl ⟨Or.inl rfl, by decide⟩)
theorem e_287_65 {x y : Int} : Ev X 287 65 ls (vi y :: vi x :: st) h Q ↔ ((inR (x + y)) ∧ Ev X 287 66 ls (vi (x + y) :: st) h Q) := R_add rfl
theorem e_287_66 {x : Nat} {j : Int} : Ev X 287 66 ls (vi j :: vr x :: st) h Q ↔ (((X.1 x = 13 ∨ X.1 x = 20) ∧ 0 ≤ j ∧ j < X.2.1 x) ∧ Ev X 287 67 ls (vi (h.1 x j.toNat) :: st) h Q) := R_ia rfl
theorem e_287_67 : Ev X 287 67 ls st h Q ↔ onR (gl ls 0) (fun z => Ev X 287 68 ls (vr z :: st) h Q) := R_al rfl (Or.inl rfl)
theorem e_287_68 : Ev X 287 68 ls st h Q ↔ onI (gl ls 3) (fun z => Ev X 287 69 ls (vi z :: st) h Q) := R_il rfl (Or.inl rfl)
theorem e_287_69 : Ev X 287 69 ls st h Q ↔ Ev X 287 70 ls (vi 2 :: st) h Q := R_kc rfl (Or.inl ⟨Or.inl rfl, by decide⟩)
theorem e_287_70 {x y : Int} : Ev X 287 70 ls (vi y :: vi x :: st) h Q ↔ ((inR (x + y)) ∧ Ev X 287 71 ls (vi (x + y) :: st) h Q) := R_add rfl
theorem e_287_71 {x : Nat} {j : Int} : Ev X 287 71 ls (vi j :: vr x :: st) h Q ↔ (((X.1 x = 13 ∨ X.1 x = 20) ∧ 0 ≤ j ∧ j < X.2.1 x) ∧ Ev X 287 72 ls (vi (h.1 x j.toNat) :: st) h Q) := R_ia rfl
theorem e_287_72 : Ev X 287 72 ls st h Q ↔ onR (gl ls 0) (fun z => Ev X 287 73 ls (vr z :: st) h Q) := R_al rfl (Or.inl rfl)
theorem e_287_73 : Ev X 287 73 ls st h Q ↔ onI (gl ls 3) (fun z => Ev X 287 74 ls (vi z :: st) h Q) := R_il rfl (Or.inl rfl)
theorem e_287_74 : Ev X 287 74 ls st h Q ↔ Ev X 287 75 ls (vi 3 :: st) h Q := R_kc rfl (Or.inl ⟨Or.inl rfl, by decide⟩)
theorem e_287_75 {x y : Int} : Ev X 287 75 ls (vi y :: vi x :: st) h Q ↔ ((inR (x + y)) ∧ Ev X 287 76 ls (vi (x + y) :: st) h Q) := R_add rfl
theorem e_287_76 {x : Nat} {j : Int} : Ev X 287 76 ls (vi j :: vr x :: st) h Q ↔ (((X.1 x = 13 ∨ X.1 x = 20) ∧ 0 ≤ j ∧ j < X.2.1 x) ∧ Ev X 287 77 ls (vi (h.1 x j.toNat) :: st) h Q) := R_ia rfl
theorem e_287_77 : Ev X 287 77 ls st h Q ↔ onR (gl ls 0) (fun z => Ev X 287 78 ls (vr z :: st) h Q) := R_al rfl (Or.inl rfl)
theorem e_287_78 : Ev X 287 78 ls st h Q ↔ onI (gl ls 3) (fun z => Ev X 287 79 ls (vi z :: st) h Q) := R_il rfl (Or.inl rfl)
theorem e_287_79 : Ev X 287 79 ls st h Q ↔ Ev X 287 80 ls (vi 4 :: st) h Q := R_kc rfl (Or.inl ⟨Or.inl rfl, by decide⟩)
theorem e_287_80 {x y : Int} : Ev X 287 80 ls (vi y :: vi x :: st) h Q ↔ ((inR (x + y)) ∧ Ev X 287 81 ls (vi (x + y) :: st) h Q) := R_add rfl
theorem e_287_81 {x : Nat} {j : Int} : Ev X 287 81 ls (vi j :: vr x :: st) h Q ↔ (((X.1 x = 13 ∨ X.1 x = 20) ∧ 0 ≤ j ∧ j < X.2.1 x) ∧ Ev X 287 82 ls (vi (h.1 x j.toNat) :: st) h Q) := R_ia rfl
theorem e_287_82 : Ev X 287 82 ls st h Q ↔ onR (gl ls 0) (fun z => Ev X 287 83 ls (vr z :: st) h Q) := R_al rfl (Or.inl rfl)
theorem e_287_83 : Ev X 287 83 ls st h Q ↔ onI (gl ls 3) (fun z => Ev X 287 84 ls (vi z :: st) h Q) := R_il rfl (Or.inl rfl)
theorem e_287_84 : Ev X 287 84 ls st h Q ↔ Ev X 287 85 ls (vi 5 :: st) h Q := R_kc rfl (Or.inl ⟨Or.inl rfl, by decide⟩)
theorem e_287_85 {x y : Int} : Ev X 287 85 ls (vi y :: vi x :: st) h Q ↔ ((inR (x + y)) ∧ Ev X 287 86 ls (vi (x + y) :: st) h Q) := R_add rfl
theorem e_287_86 {x : Nat} {j : Int} : Ev X 287 86 ls (vi j :: vr x :: st) h Q ↔ (((X.1 x = 13 ∨ X.1 x = 20) ∧ 0 ≤ j ∧ j < X.2.1 x) ∧ Ev X 287 87 ls (vi (h.1 x j.toNat) :: st) h Q) := R_ia rfl
theorem e_287_87 {rest : List xV} {a0 : Int} {a1 : Int} {a2 : Int} {a3 : Int} {a4 : Int} {o : Nat} : Ev X 287 87 ls ((vi a4) :: (vi a3) :: (vi a2) :: (vi a1) :: (vi a0) :: vr o :: rest) h Q ↔ ((X.1 o = 11 ∧ wd rest ≤ 8) ∧ Cl X 104 [vr o, vi a0, vi a1, vi a2, vi a3, vi a4] h (fun r h2 => Ev X 287 88 ls (r.toList ++ rest) h2 Q)) := R_cv (x := o) (as := [vi a0, vi a1, vi a2, vi a3, vi a4]) (k2 := 104) rfl rfl (Nat.le_of_ble_eq_true rfl)
theorem e_287_88 : Ev X 287 88 ls st h Q ↔ onR (gl ls 2) (fun z => Ev X 287 89 ls (vr z :: st) h Q) := R_al rfl (Or.inl rfl)
theorem e_287_89 : Ev X 287 89 ls st h Q ↔ onR (gl ls 0) (fun z => Ev X 287 90 ls (vr z :: st) h Q) := R_al rfl (Or.inl rfl)
theorem e_287_90 : Ev X 287 90 ls st h Q ↔ onI (gl ls 3) (fun z => Ev X 287 91 ls (vi z :: st) h Q) := R_il rfl (Or.inl rfl)
theorem e_287_91 : Ev X 287 91 ls st h Q ↔ Ev X 287 92 ls (vi 1 :: st) h Q := R_kc rfl (Or.inl ⟨Or.inl rfl, by decide⟩)
theorem e_287_92 {x y : Int} : Ev X 287 92 ls (vi y :: vi x :: st) h Q ↔ ((inR (x + y)) ∧ Ev X 287 93 ls (vi (x + y) :: st) h Q) := R_add rfl
theorem e_287_93 {x : Nat} {j : Int} : Ev X 287 93 ls (vi j :: vr x :: st) h Q ↔ (((X.1 x = 13 ∨ X.1 x = 20) ∧ 0 ≤ j ∧ j < X.2.1 x) ∧ Ev X 287 94 ls (vi (h.1 x j.toNat) :: st) h Q) := R_ia rfl
theorem e_287_94 : Ev X 287 94 ls st h Q ↔ onR (gl ls 0) (fun z => Ev X 287 95 ls (vr z :: st) h Q) := R_al rfl (Or.inl rfl)
theorem e_287_95 : Ev X 287 95 ls st h Q ↔ onI (gl ls 3) (fun z => Ev X 287 96 ls (vi z :: st) h Q) := R_il rfl (Or.inl rfl)
theorem e_287_96 : Ev X 287 96 ls st h Q ↔ Ev X 287 97 ls (vi 2 :: st) h Q := R_kc rfl (Or.inl ⟨Or.inl rfl, by decide⟩)
theorem e_287_97 {x y : Int} : Ev X 287 97 ls (vi y :: vi x :: st) h Q ↔ ((inR (x + y)) ∧ Ev X 287 98 ls (vi (x + y) :: st) h Q) := R_add rfl
theorem e_287_98 {x : Nat} {j : Int} : Ev X 287 98 ls (vi j :: vr x :: st) h Q ↔ (((X.1 x = 13 ∨ X.1 x = 20) ∧ 0 ≤ j ∧ j < X.2.1 x) ∧ Ev X 287 99 ls (vi (h.1 x j.toNat) :: st) h Q) := R_ia rfl
theorem e_287_99 : Ev X 287 99 ls st h Q ↔ onR (gl ls 0) (fun z => Ev X 287 100 ls (vr z :: st) h Q) := R_al rfl (Or.inl rfl)
theorem e_287_100 : Ev X 287 100 ls st h Q ↔ onI (gl ls 3) (fun z => Ev X 287 101 ls (vi z :: st) h Q) := R_il rfl (Or.inl rfl)
theorem e_287_101 : Ev X 287 101 ls st h Q ↔ Ev X 287 102 ls (vi 3 :: st) h Q := R_kc rfl (Or.inl ⟨Or.inl rfl, by decide⟩)
theorem e_287_102 {x y : Int} : Ev X 287 102 ls (vi y :: vi x :: st) h Q ↔ ((inR (x + y)) ∧ Ev X 287 103 ls (vi (x + y) :: st) h Q) := R_add rfl
theorem e_287_103 {x : Nat} {j : Int} : Ev X 287 103 ls (vi j :: vr x :: st) h Q ↔ (((X.1 x = 13 ∨ X.1 x = 20) ∧ 0 ≤ j ∧ j < X.2.1 x) ∧ Ev X 287 104 ls (vi (h.1 x j.toNat) :: st) h Q) := R_ia rfl
theorem e_287_104 : Ev X 287 104 ls st h Q ↔ onR (gl ls 0) (fun z => Ev X 287 105 ls (vr z :: st) h Q) := R_al rfl (Or.inl rfl)
theorem e_287_105 : Ev X 287 105 ls st h Q ↔ onI (gl ls 3) (fun z => Ev X 287 106 ls (vi z :: st) h Q) := R_il rfl (Or.inl rfl)
theorem e_287_106 : Ev X 287 106 ls st h Q ↔ Ev X 287 107 ls (vi 4 :: st) h Q := R_kc rfl (Or.inl ⟨Or.inl rfl, by decide⟩)
theorem e_287_107 {x y : Int} : Ev X 287 107 ls (vi y :: vi x :: st) h Q ↔ ((inR (x + y)) ∧ Ev X 287 108 ls (vi (x + y) :: st) h Q) := R_add rfl
theorem e_287_108 {x : Nat} {j : Int} : Ev X 287 108 ls (vi j :: vr x :: st) h Q ↔ (((X.1 x = 13 ∨ X.1 x = 20) ∧ 0 ≤ j ∧ j < X.2.1 x) ∧ Ev X 287 109 ls (vi (h.1 x j.toNat) :: st) h Q) := R_ia rfl
theorem e_287_109 : Ev X 287 109 ls st h Q ↔ onR (gl ls 0) (fun z => Ev X 287 110 ls (vr z :: st) h Q) := R_al rfl (Or.inl rfl)
theorem e_287_110 : Ev X 287 110 ls st h Q ↔ onI (gl ls 3) (fun z => Ev X 287 111 ls (vi z :: st) h Q) := R_il rfl (Or.inl rfl)
theorem e_287_111 : Ev X 287 111 ls st h Q ↔ Ev X 287 112 ls (vi 5 :: st) h Q := R_kc rfl (Or.inl ⟨Or.inl rfl, by decide⟩)
theorem e_287_112 {x y : Int} : Ev X 287 112 ls (vi y :: vi x :: st) h Q ↔ ((inR (x + y)) ∧ Ev X 287 113 ls (vi (x + y) :: st) h Q) := R_add rfl
theorem e_287_113 {x : Nat} {j : Int} : Ev X 287 113 ls (vi j :: vr x :: st) h Q ↔ (((X.1 x = 13 ∨ X.1 x = 20) ∧ 0 ≤ j ∧ j < X.2.1 x) ∧ Ev X 287 114 ls (vi (h.1 x j.toNat) :: st) h Q) := R_ia rfl
theorem e_287_114 {rest : List xV} {a0 : Int} {a1 : Int} {a2 : Int} {a3 : Int} {a4 : Int} {o : Nat} : Ev X 287 114 ls ((vi a4) :: (vi a3) :: (vi a2) :: (vi a1) :: (vi a0) :: vr o :: rest) h Q ↔ ((X.1 o = 12 ∧ wd rest ≤ 8) ∧ Cl X 181 [vr o, vi a0, vi a1, vi a2, vi a3, vi a4] h (fun r h2 => Ev X 287 115 ls (r.toList ++ rest) h2 Q)) := R_cv (x := o) (as := [vi a0, vi a1, vi a2, vi a3, vi a4]) (k2 := 181) rfl rfl (Nat.le_of_ble_eq_true rfl)
theorem e_287_115 {x y : Int} : Ev X 287 115 ls (vi y :: vi x :: st) h Q ↔ (if x = y then Ev X 287 899 ls st h Q else Ev X 287 116 ls st h Q) := R_iceq rfl
theorem e_287_116 : Ev X 287 116 ls st h Q ↔ Ev X 287 117 ls (vi 0 :: st) h Q := R_kc rfl (Or.inl ⟨Or.inl rfl, by decide⟩)
theorem e_287_117 {z : Int} : Ev X 287 117 ls [vi z] h Q ↔ ((z = 0 ∨ z = 1) ∧ Q (some (vi z)) h) := R_zr rfl
theorem e_287_118 : Ev X 287 118 ls st h Q ↔ onR (gl ls 1) (fun z => Ev X 287 119 ls (vr z :: st) h Q) := R_al rfl (Or.inl rfl)
theorem e_287_119 : Ev X 287 119 ls st h Q ↔ onR (gl ls 0) (fun z => Ev X 287 120 ls (vr z :: st) h Q) := R_al rfl (Or.inl rfl)
theorem e_287_120 : Ev X 287 120 ls st h Q ↔ onI (gl ls 3) (fun z => Ev X 287 121 ls (vi z :: st) h Q) := R_il rfl (Or.inl rfl)
theorem e_287_121 : Ev X 287 121 ls st h Q ↔ Ev X 287 122 ls (vi 1 :: st) h Q := R_kc rfl (Or.inl ⟨Or.inl rfl, by decide⟩)
theorem e_287_122 {x y : Int} : Ev X 287 122 ls (vi y :: vi x :: st) h Q ↔ ((inR (x + y)) ∧ Ev X 287 123 ls (vi (x + y) :: st) h Q) := R_add rfl
theorem e_287_123 {x : Nat} {j : Int} : Ev X 287 123 ls (vi j :: vr x :: st) h Q ↔ (((X.1 x = 13 ∨ X.1 x = 20) ∧ 0 ≤ j ∧ j < X.2.1 x) ∧ Ev X 287 124 ls (vi (h.1 x j.toNat) :: st) h Q) := R_ia rfl
theorem e_287_124 {rest : List xV} {a0 : Int} {o : Nat} : Ev X 287 124 ls ((vi a0) :: vr o :: rest) h Q ↔ ((X.1 o = 11 ∧ wd rest ≤ 8) ∧ Cl X 105 [vr o, vi a0] h (fun r h2 => Ev X 287 125 ls (r.toList ++ rest) h2 Q)) := R_cv (x := o) (as := [vi a0]) (k2 := 105) rfl rfl (Nat.le_of_ble_eq_true rfl)
theorem e_287_125 : Ev X 287 125 ls st h Q ↔ onR (gl ls 2) (fun z => Ev X 287 126 ls (vr z :: st) h Q) := R_al rfl (Or.inl rfl)
theorem e_287_126 : Ev X 287 126 ls st h Q ↔ onR (gl ls 0) (fun z => Ev X 287 127 ls (vr z :: st) h Q) := R_al rfl (Or.inl rfl)
theorem e_287_127 : Ev X 287 127 ls st h Q ↔ onI (gl ls 3) (fun z => Ev X 287 128 ls (vi z :: st) h Q) := R_il rfl (Or.inl rfl)
theorem e_287_128 : Ev X 287 128 ls st h Q ↔ Ev X 287 129 ls (vi 1 :: st) h Q := R_kc rfl (Or.inl ⟨Or.inl rfl, by decide⟩)
theorem e_287_129 {x y : Int} : Ev X 287 129 ls (vi y :: vi x :: st) h Q ↔ ((inR (x + y)) ∧ Ev X 287 130 ls (vi (x + y) :: st) h Q) := R_add rfl
theorem e_287_130 {x : Nat} {j : Int} : Ev X 287 130 ls (vi j :: vr x :: st) h Q ↔ (((X.1 x = 13 ∨ X.1 x = 20) ∧ 0 ≤ j ∧ j < X.2.1 x) ∧ Ev X 287 131 ls (vi (h.1 x j.toNat) :: st) h Q) := R_ia rfl
theorem e_287_131 {rest : List xV} {a0 : Int} {o : Nat} : Ev X 287 131 ls ((vi a0) :: vr o :: rest) h Q ↔ ((X.1 o = 12 ∧ wd rest ≤ 8) ∧ Cl X 182 [vr o, vi a0] h (fun r h2 => Ev X 287 132 ls (r.toList ++ rest) h2 Q)) := R_cv (x := o) (as := [vi a0]) (k2 := 182) rfl rfl (Nat.le_of_ble_eq_true rfl)
theorem e_287_132 {x y : Int} : Ev X 287 132 ls (vi y :: vi x :: st) h Q ↔ (if x = y then Ev X 287 899 ls st h Q else Ev X 287 133 ls st h Q) := R_iceq rfl
theorem e_287_133 : Ev X 287 133 ls st h Q ↔ Ev X 287 134 ls (vi 0 :: st) h Q := R_kc rfl (Or.inl ⟨Or.inl rfl, by decide⟩)
theorem e_287_134 {z : Int} : Ev X 287 134 ls [vi z] h Q ↔ ((z = 0 ∨ z = 1) ∧ Q (some (vi z)) h) := R_zr rfl
theorem e_287_135 : Ev X 287 135 ls st h Q ↔ onR (gl ls 1) (fun z => Ev X 287 136 ls (vr z :: st) h Q) := R_al rfl (Or.inl rfl)
theorem e_287_136 : Ev X 287 136 ls st h Q ↔ onR (gl ls 0) (fun z => Ev X 287 137 ls (vr z :: st) h Q) := R_al rfl (Or.inl rfl)
theorem e_287_137 : Ev X 287 137 ls st h Q ↔ onI (gl ls 3) (fun z => Ev X 287 138 ls (vi z :: st) h Q) := R_il rfl (Or.inl rfl)
theorem e_287_138 : Ev X 287 138 ls st h Q ↔ Ev X 287 139 ls (vi 1 :: st) h Q := R_kc rfl (Or.inl ⟨Or.inl rfl, by decide⟩)
theorem e_287_139 {x y : Int} : Ev X 287 139 ls (vi y :: vi x :: st) h Q ↔ ((inR (x + y)) ∧ Ev X 287 140 ls (vi (x + y) :: st) h Q) := R_add rfl
theorem e_287_140 {x : Nat} {j : Int} : Ev X 287 140 ls (vi j :: vr x :: st) h Q ↔ (((X.1 x = 13 ∨ X.1 x = 20) ∧ 0 ≤ j ∧ j < X.2.1 x) ∧ Ev X 287 141 ls (vi (h.1 x j.toNat) :: st) h Q) := R_ia rfl
theorem e_287_141 : Ev X 287 141 ls st h Q ↔ onR (gl ls 0) (fun z => Ev X 287 142 ls (vr z :: st) h Q) := R_al rfl (Or.inl rfl)
theorem e_287_142 : Ev X 287 142 ls st h Q ↔ onI (gl ls 3) (fun z => Ev X 287 143 ls (vi z :: st) h Q) := R_il rfl (Or.inl rfl)
theorem e_287_143 : Ev X 287 143 ls st h Q ↔ Ev X 287 144 ls (vi 2 :: st) h Q := R_kc rfl (Or.inl ⟨Or.inl rfl, by decide⟩)
theorem e_287_144 {x y : Int} : Ev X 287 144 ls (vi y :: vi x :: st) h Q ↔ ((inR (x + y)) ∧ Ev X 287 145 ls (vi (x + y) :: st) h Q) := R_add rfl
theorem e_287_145 {x : Nat} {j : Int} : Ev X 287 145 ls (vi j :: vr x :: st) h Q ↔ (((X.1 x = 13 ∨ X.1 x = 20) ∧ 0 ≤ j ∧ j < X.2.1 x) ∧ Ev X 287 146 ls (vi (h.1 x j.toNat) :: st) h Q) := R_ia rfl
theorem e_287_146 : Ev X 287 146 ls st h Q ↔ onR (gl ls 0) (fun z => Ev X 287 147 ls (vr z :: st) h Q) := R_al rfl (Or.inl rfl)
theorem e_287_147 : Ev X 287 147 ls st h Q ↔ onI (gl ls 3) (fun z => Ev X 287 148 ls (vi z :: st) h Q) := R_il rfl (Or.inl rfl)
theorem e_287_148 : Ev X 287 148 ls st h Q ↔ Ev X 287 149 ls (vi 3 :: st) h Q := R_kc rfl (Or.inl ⟨Or.inl rfl, by decide⟩)
theorem e_287_149 {x y : Int} : Ev X 287 149 ls (vi y :: vi x :: st) h Q ↔ ((inR (x + y)) ∧ Ev X 287 150 ls (vi (x + y) :: st) h Q) := R_add rfl
theorem e_287_150 {x : Nat} {j : Int} : Ev X 287 150 ls (vi j :: vr x :: st) h Q ↔ (((X.1 x = 13 ∨ X.1 x = 20) ∧ 0 ≤ j ∧ j < X.2.1 x) ∧ Ev X 287 151 ls (vi (h.1 x j.toNat) :: st) h Q) := R_ia rfl
theorem e_287_151 : Ev X 287 151 ls st h Q ↔ onR (gl ls 0) (fun z => Ev X 287 152 ls (vr z :: st) h Q) := R_al rfl (Or.inl rfl)
theorem e_287_152 : Ev X 287 152 ls st h Q ↔ onI (gl ls 3) (fun z => Ev X 287 153 ls (vi z :: st) h Q) := R_il rfl (Or.inl rfl)
theorem e_287_153 : Ev X 287 153 ls st h Q ↔ Ev X 287 154 ls (vi 4 :: st) h Q := R_kc rfl (Or.inl ⟨Or.inl rfl, by decide⟩)
theorem e_287_154 {x y : Int} : Ev X 287 154 ls (vi y :: vi x :: st) h Q ↔ ((inR (x + y)) ∧ Ev X 287 155 ls (vi (x + y) :: st) h Q) := R_add rfl
theorem e_287_155 {x : Nat} {j : Int} : Ev X 287 155 ls (vi j :: vr x :: st) h Q ↔ (((X.1 x = 13 ∨ X.1 x = 20) ∧ 0 ≤ j ∧ j < X.2.1 x) ∧ Ev X 287 156 ls (vi (h.1 x j.toNat) :: st) h Q) := R_ia rfl
theorem e_287_156 : Ev X 287 156 ls st h Q ↔ onR (gl ls 0) (fun z => Ev X 287 157 ls (vr z :: st) h Q) := R_al rfl (Or.inl rfl)
theorem e_287_157 : Ev X 287 157 ls st h Q ↔ onI (gl ls 3) (fun z => Ev X 287 158 ls (vi z :: st) h Q) := R_il rfl (Or.inl rfl)
theorem e_287_158 : Ev X 287 158 ls st h Q ↔ Ev X 287 159 ls (vi 5 :: st) h Q := R_kc rfl (Or.inl ⟨Or.inl rfl, by decide⟩)
theorem e_287_159 {x y : Int} : Ev X 287 159 ls (vi y :: vi x :: st) h Q ↔ ((inR (x + y)) ∧ Ev X 287 160 ls (vi (x + y) :: st) h Q) := R_add rfl
theorem e_287_160 {x : Nat} {j : Int} : Ev X 287 160 ls (vi j :: vr x :: st) h Q ↔ (((X.1 x = 13 ∨ X.1 x = 20) ∧ 0 ≤ j ∧ j < X.2.1 x) ∧ Ev X 287 161 ls (vi (h.1 x j.toNat) :: st) h Q) := R_ia rfl
theorem e_287_161 {rest : List xV} {a0 : Int} {a1 : Int} {a2 : Int} {a3 : Int} {a4 : Int} {o : Nat} : Ev X 287 161 ls ((vi a4) :: (vi a3) :: (vi a2) :: (vi a1) :: (vi a0) :: vr o :: rest) h Q ↔ ((X.1 o = 11 ∧ wd rest ≤ 8) ∧ Cl X 106 [vr o, vi a0, vi a1, vi a2, vi a3, vi a4] h (fun r h2 => Ev X 287 162 ls (r.toList ++ rest) h2 Q)) := R_cv (x := o) (as := [vi a0, vi a1, vi a2, vi a3, vi a4]) (k2 := 106) rfl rfl (Nat.le_of_ble_eq_true rfl)
theorem e_287_162 : Ev X 287 162 ls st h Q ↔ onR (gl ls 2) (fun z => Ev X 287 163 ls (vr z :: st) h Q) := R_al rfl (Or.inl rfl)
theorem e_287_163 : Ev X 287 163 ls st h Q ↔ onR (gl ls 0) (fun z => Ev X 287 164 ls (vr z :: st) h Q) := R_al rfl (Or.inl rfl)
theorem e_287_164 : Ev X 287 164 ls st h Q ↔ onI (gl ls 3) (fun z => Ev X 287 165 ls (vi z :: st) h Q) := R_il rfl (Or.inl rfl)
theorem e_287_165 : Ev X 287 165 ls st h Q ↔ Ev X 287 166 ls (vi 1 :: st) h Q := R_kc rfl (Or.inl ⟨Or.inl rfl, by decide⟩)
theorem e_287_166 {x y : Int} : Ev X 287 166 ls (vi y :: vi x :: st) h Q ↔ ((inR (x + y)) ∧ Ev X 287 167 ls (vi (x + y) :: st) h Q) := R_add rfl
theorem e_287_167 {x : Nat} {j : Int} : Ev X 287 167 ls (vi j :: vr x :: st) h Q ↔ (((X.1 x = 13 ∨ X.1 x = 20) ∧ 0 ≤ j ∧ j < X.2.1 x) ∧ Ev X 287 168 ls (vi (h.1 x j.toNat) :: st) h Q) := R_ia rfl
theorem e_287_168 : Ev X 287 168 ls st h Q ↔ onR (gl ls 0) (fun z => Ev X 287 169 ls (vr z :: st) h Q) := R_al rfl (Or.inl rfl)
theorem e_287_169 : Ev X 287 169 ls st h Q ↔ onI (gl ls 3) (fun z => Ev X 287 170 ls (vi z :: st) h Q) := R_il rfl (Or.inl rfl)
theorem e_287_170 : Ev X 287 170 ls st h Q ↔ Ev X 287 171 ls (vi 2 :: st) h Q := R_kc rfl (Or.inl ⟨Or.inl rfl, by decide⟩)
theorem e_287_171 {x y : Int} : Ev X 287 171 ls (vi y :: vi x :: st) h Q ↔ ((inR (x + y)) ∧ Ev X 287 172 ls (vi (x + y) :: st) h Q) := R_add rfl
theorem e_287_172 {x : Nat} {j : Int} : Ev X 287 172 ls (vi j :: vr x :: st) h Q ↔ (((X.1 x = 13 ∨ X.1 x = 20) ∧ 0 ≤ j ∧ j < X.2.1 x) ∧ Ev X 287 173 ls (vi (h.1 x j.toNat) :: st) h Q) := R_ia rfl
theorem e_287_173 : Ev X 287 173 ls st h Q ↔ onR (gl ls 0) (fun z => Ev X 287 174 ls (vr z :: st) h Q) := R_al rfl (Or.inl rfl)
theorem e_287_174 : Ev X 287 174 ls st h Q ↔ onI (gl ls 3) (fun z => Ev X 287 175 ls (vi z :: st) h Q) := R_il rfl (Or.inl rfl)
theorem e_287_175 : Ev X 287 175 ls st h Q ↔ Ev X 287 176 ls (vi 3 :: st) h Q := R_kc rfl (Or.inl ⟨Or.inl rfl, by decide⟩)
theorem e_287_176 {x y : Int} : Ev X 287 176 ls (vi y :: vi x :: st) h Q ↔ ((inR (x + y)) ∧ Ev X 287 177 ls (vi (x + y) :: st) h Q) := R_add rfl
theorem e_287_177 {x : Nat} {j : Int} : Ev X 287 177 ls (vi j :: vr x :: st) h Q ↔ (((X.1 x = 13 ∨ X.1 x = 20) ∧ 0 ≤ j ∧ j < X.2.1 x) ∧ Ev X 287 178 ls (vi (h.1 x j.toNat) :: st) h Q) := R_ia rfl
theorem e_287_178 : Ev X 287 178 ls st h Q ↔ onR (gl ls 0) (fun z => Ev X 287 179 ls (vr z :: st) h Q) := R_al rfl (Or.inl rfl)
theorem e_287_179 : Ev X 287 179 ls st h Q ↔ onI (gl ls 3) (fun z => Ev X 287 180 ls (vi z :: st) h Q) := R_il rfl (Or.inl rfl)
theorem e_287_180 : Ev X 287 180 ls st h Q ↔ Ev X 287 181 ls (vi 4 :: st) h Q := R_kc rfl (Or.inl ⟨Or.inl rfl, by decide⟩)
theorem e_287_181 {x y : Int} : Ev X 287 181 ls (vi y :: vi x :: st) h Q ↔ ((inR (x + y)) ∧ Ev X 287 182 ls (vi (x + y) :: st) h Q) := R_add rfl
theorem e_287_182 {x : Nat} {j : Int} : Ev X 287 182 ls (vi j :: vr x :: st) h Q ↔ (((X.1 x = 13 ∨ X.1 x = 20) ∧ 0 ≤ j ∧ j < X.2.1 x) ∧ Ev X 287 183 ls (vi (h.1 x j.toNat) :: st) h Q) := R_ia rfl
theorem e_287_183 : Ev X 287 183 ls st h Q ↔ onR (gl ls 0) (fun z => Ev X 287 184 ls (vr z :: st) h Q) := R_al rfl (Or.inl rfl)
theorem e_287_184 : Ev X 287 184 ls st h Q ↔ onI (gl ls 3) (fun z => Ev X 287 185 ls (vi z :: st) h Q) := R_il rfl (Or.inl rfl)
theorem e_287_185 : Ev X 287 185 ls st h Q ↔ Ev X 287 186 ls (vi 5 :: st) h Q := R_kc rfl (Or.inl ⟨Or.inl rfl, by decide⟩)
theorem e_287_186 {x y : Int} : Ev X 287 186 ls (vi y :: vi x :: st) h Q ↔ ((inR (x + y)) ∧ Ev X 287 187 ls (vi (x + y) :: st) h Q) := R_add rfl
theorem e_287_187 {x : Nat} {j : Int} : Ev X 287 187 ls (vi j :: vr x :: st) h Q ↔ (((X.1 x = 13 ∨ X.1 x = 20) ∧ 0 ≤ j ∧ j < X.2.1 x) ∧ Ev X 287 188 ls (vi (h.1 x j.toNat) :: st) h Q) := R_ia rfl
theorem e_287_188 {rest : List xV} {a0 : Int} {a1 : Int} {a2 : Int} {a3 : Int} {a4 : Int} {o : Nat} : Ev X 287 188 ls ((vi a4) :: (vi a3) :: (vi a2) :: (vi a1) :: (vi a0) :: vr o :: rest) h Q ↔ ((X.1 o = 12 ∧ wd rest ≤ 8) ∧ Cl X 186 [vr o, vi a0, vi a1, vi a2, vi a3, vi a4] h (fun r h2 => Ev X 287 189 ls (r.toList ++ rest) h2 Q)) := R_cv (x := o) (as := [vi a0, vi a1, vi a2, vi a3, vi a4]) (k2 := 186) rfl rfl (Nat.le_of_ble_eq_true rfl)
theorem e_287_189 {x y : Int} : Ev X 287 189 ls (vi y :: vi x :: st) h Q ↔ (if x = y then Ev X 287 899 ls st h Q else Ev X 287 190 ls st h Q) := R_iceq rfl
theorem e_287_190 : Ev X 287 190 ls st h Q ↔ Ev X 287 191 ls (vi 0 :: st) h Q := R_kc rfl (Or.inl ⟨Or.inl rfl, by decide⟩)
theorem e_287_191 {z : Int} : Ev X 287 191 ls [vi z] h Q ↔ ((z = 0 ∨ z = 1) ∧ Q (some (vi z)) h) := R_zr rfl
theorem e_287_192 : Ev X 287 192 ls st h Q ↔ onR (gl ls 1) (fun z => Ev X 287 193 ls (vr z :: st) h Q) := R_al rfl (Or.inl rfl)
theorem e_287_193 : Ev X 287 193 ls st h Q ↔ onR (gl ls 0) (fun z => Ev X 287 194 ls (vr z :: st) h Q) := R_al rfl (Or.inl rfl)
theorem e_287_194 : Ev X 287 194 ls st h Q ↔ onI (gl ls 3) (fun z => Ev X 287 195 ls (vi z :: st) h Q) := R_il rfl (Or.inl rfl)
theorem e_287_195 : Ev X 287 195 ls st h Q ↔ Ev X 287 196 ls (vi 1 :: st) h Q := R_kc rfl (Or.inl ⟨Or.inl rfl, by decide⟩)
theorem e_287_196 {x y : Int} : Ev X 287 196 ls (vi y :: vi x :: st) h Q ↔ ((inR (x + y)) ∧ Ev X 287 197 ls (vi (x + y) :: st) h Q) := R_add rfl
theorem e_287_197 {x : Nat} {j : Int} : Ev X 287 197 ls (vi j :: vr x :: st) h Q ↔ (((X.1 x = 13 ∨ X.1 x = 20) ∧ 0 ≤ j ∧ j < X.2.1 x) ∧ Ev X 287 198 ls (vi (h.1 x j.toNat) :: st) h Q) := R_ia rfl
theorem e_287_198 : Ev X 287 198 ls st h Q ↔ onR (gl ls 0) (fun z => Ev X 287 199 ls (vr z :: st) h Q) := R_al rfl (Or.inl rfl)
theorem e_287_199 : Ev X 287 199 ls st h Q ↔ onI (gl ls 3) (fun z => Ev X 287 200 ls (vi z :: st) h Q) := R_il rfl (Or.inl rfl)
theorem e_287_200 : Ev X 287 200 ls st h Q ↔ Ev X 287 201 ls (vi 2 :: st) h Q := R_kc rfl (Or.inl ⟨Or.inl rfl, by decide⟩)
theorem e_287_201 {x y : Int} : Ev X 287 201 ls (vi y :: vi x :: st) h Q ↔ ((inR (x + y)) ∧ Ev X 287 202 ls (vi (x + y) :: st) h Q) := R_add rfl
theorem e_287_202 {x : Nat} {j : Int} : Ev X 287 202 ls (vi j :: vr x :: st) h Q ↔ (((X.1 x = 13 ∨ X.1 x = 20) ∧ 0 ≤ j ∧ j < X.2.1 x) ∧ Ev X 287 203 ls (vi (h.1 x j.toNat) :: st) h Q) := R_ia rfl
theorem e_287_203 : Ev X 287 203 ls st h Q ↔ onR (gl ls 0) (fun z => Ev X 287 204 ls (vr z :: st) h Q) := R_al rfl (Or.inl rfl)
theorem e_287_204 : Ev X 287 204 ls st h Q ↔ onI (gl ls 3) (fun z => Ev X 287 205 ls (vi z :: st) h Q) := R_il rfl (Or.inl rfl)
theorem e_287_205 : Ev X 287 205 ls st h Q ↔ Ev X 287 206 ls (vi 3 :: st) h Q := R_kc rfl (Or.inl ⟨Or.inl rfl, by decide⟩)
theorem e_287_206 {x y : Int} : Ev X 287 206 ls (vi y :: vi x :: st) h Q ↔ ((inR (x + y)) ∧ Ev X 287 207 ls (vi (x + y) :: st) h Q) := R_add rfl
theorem e_287_207 {x : Nat} {j : Int} : Ev X 287 207 ls (vi j :: vr x :: st) h Q ↔ (((X.1 x = 13 ∨ X.1 x = 20) ∧ 0 ≤ j ∧ j < X.2.1 x) ∧ Ev X 287 208 ls (vi (h.1 x j.toNat) :: st) h Q) := R_ia rfl
theorem e_287_208 : Ev X 287 208 ls st h Q ↔ onR (gl ls 0) (fun z => Ev X 287 209 ls (vr z :: st) h Q) := R_al rfl (Or.inl rfl)
theorem e_287_209 : Ev X 287 209 ls st h Q ↔ onI (gl ls 3) (fun z => Ev X 287 210 ls (vi z :: st) h Q) := R_il rfl (Or.inl rfl)
theorem e_287_210 : Ev X 287 210 ls st h Q ↔ Ev X 287 211 ls (vi 4 :: st) h Q := R_kc rfl (Or.inl ⟨Or.inl rfl, by decide⟩)
theorem e_287_211 {x y : Int} : Ev X 287 211 ls (vi y :: vi x :: st) h Q ↔ ((inR (x + y)) ∧ Ev X 287 212 ls (vi (x + y) :: st) h Q) := R_add rfl
theorem e_287_212 {x : Nat} {j : Int} : Ev X 287 212 ls (vi j :: vr x :: st) h Q ↔ (((X.1 x = 13 ∨ X.1 x = 20) ∧ 0 ≤ j ∧ j < X.2.1 x) ∧ Ev X 287 213 ls (vi (h.1 x j.toNat) :: st) h Q) := R_ia rfl
theorem e_287_213 {rest : List xV} {a0 : Int} {a1 : Int} {a2 : Int} {a3 : Int} {o : Nat} : Ev X 287 213 ls ((vi a3) :: (vi a2) :: (vi a1) :: (vi a0) :: vr o :: rest) h Q ↔ ((X.1 o = 11 ∧ wd rest ≤ 8) ∧ Cl X 107 [vr o, vi a0, vi a1, vi a2, vi a3] h (fun r h2 => Ev X 287 214 ls (r.toList ++ rest) h2 Q)) := R_cv (x := o) (as := [vi a0, vi a1, vi a2, vi a3]) (k2 := 107) rfl rfl (Nat.le_of_ble_eq_true rfl)
theorem e_287_214 : Ev X 287 214 ls st h Q ↔ onR (gl ls 2) (fun z => Ev X 287 215 ls (vr z :: st) h Q) := R_al rfl (Or.inl rfl)
theorem e_287_215 : Ev X 287 215 ls st h Q ↔ onR (gl ls 0) (fun z => Ev X 287 216 ls (vr z :: st) h Q) := R_al rfl (Or.inl rfl)
theorem e_287_216 : Ev X 287 216 ls st h Q ↔ onI (gl ls 3) (fun z => Ev X 287 217 ls (vi z :: st) h Q) := R_il rfl (Or.inl rfl)
theorem e_287_217 : Ev X 287 217 ls st h Q ↔ Ev X 287 218 ls (vi 1 :: st) h Q := R_kc rfl (Or.inl ⟨Or.inl rfl, by decide⟩)
theorem e_287_218 {x y : Int} : Ev X 287 218 ls (vi y :: vi x :: st) h Q ↔ ((inR (x + y)) ∧ Ev X 287 219 ls (vi (x + y) :: st) h Q) := R_add rfl
theorem e_287_219 {x : Nat} {j : Int} : Ev X 287 219 ls (vi j :: vr x :: st) h Q ↔ (((X.1 x = 13 ∨ X.1 x = 20) ∧ 0 ≤ j ∧ j < X.2.1 x) ∧ Ev X 287 220 ls (vi (h.1 x j.toNat) :: st) h Q) := R_ia rfl
theorem e_287_220 : Ev X 287 220 ls st h Q ↔ onR (gl ls 0) (fun z => Ev X 287 221 ls (vr z :: st) h Q) := R_al rfl (Or.inl rfl)
theorem e_287_221 : Ev X 287 221 ls st h Q ↔ onI (gl ls 3) (fun z => Ev X 287 222 ls (vi z :: st) h Q) := R_il rfl (Or.inl rfl)
theorem e_287_222 : Ev X 287 222 ls st h Q ↔ Ev X 287 223 ls (vi 2 :: st) h Q := R_kc rfl (Or.inl ⟨Or.inl rfl, by decide⟩)
theorem e_287_223 {x y : Int} : Ev X 287 223 ls (vi y :: vi x :: st) h Q ↔ ((inR (x + y)) ∧ Ev X 287 224 ls (vi (x + y) :: st) h Q) := R_add rfl
theorem e_287_224 {x : Nat} {j : Int} : Ev X 287 224 ls (vi j :: vr x :: st) h Q ↔ (((X.1 x = 13 ∨ X.1 x = 20) ∧ 0 ≤ j ∧ j < X.2.1 x) ∧ Ev X 287 225 ls (vi (h.1 x j.toNat) :: st) h Q) := R_ia rfl
theorem e_287_225 : Ev X 287 225 ls st h Q ↔ onR (gl ls 0) (fun z => Ev X 287 226 ls (vr z :: st) h Q) := R_al rfl (Or.inl rfl)
theorem e_287_226 : Ev X 287 226 ls st h Q ↔ onI (gl ls 3) (fun z => Ev X 287 227 ls (vi z :: st) h Q) := R_il rfl (Or.inl rfl)
theorem e_287_227 : Ev X 287 227 ls st h Q ↔ Ev X 287 228 ls (vi 3 :: st) h Q := R_kc rfl (Or.inl ⟨Or.inl rfl, by decide⟩)
theorem e_287_228 {x y : Int} : Ev X 287 228 ls (vi y :: vi x :: st) h Q ↔ ((inR (x + y)) ∧ Ev X 287 229 ls (vi (x + y) :: st) h Q) := R_add rfl
theorem e_287_229 {x : Nat} {j : Int} : Ev X 287 229 ls (vi j :: vr x :: st) h Q ↔ (((X.1 x = 13 ∨ X.1 x = 20) ∧ 0 ≤ j ∧ j < X.2.1 x) ∧ Ev X 287 230 ls (vi (h.1 x j.toNat) :: st) h Q) := R_ia rfl
theorem e_287_230 : Ev X 287 230 ls st h Q ↔ onR (gl ls 0) (fun z => Ev X 287 231 ls (vr z :: st) h Q) := R_al rfl (Or.inl rfl)
theorem e_287_231 : Ev X 287 231 ls st h Q ↔ onI (gl ls 3) (fun z => Ev X 287 232 ls (vi z :: st) h Q) := R_il rfl (Or.inl rfl)
theorem e_287_232 : Ev X 287 232 ls st h Q ↔ Ev X 287 233 ls (vi 4 :: st) h Q := R_kc rfl (Or.inl ⟨Or.inl rfl, by decide⟩)
theorem e_287_233 {x y : Int} : Ev X 287 233 ls (vi y :: vi x :: st) h Q ↔ ((inR (x + y)) ∧ Ev X 287 234 ls (vi (x + y) :: st) h Q) := R_add rfl
theorem e_287_234 {x : Nat} {j : Int} : Ev X 287 234 ls (vi j :: vr x :: st) h Q ↔ (((X.1 x = 13 ∨ X.1 x = 20) ∧ 0 ≤ j ∧ j < X.2.1 x) ∧ Ev X 287 235 ls (vi (h.1 x j.toNat) :: st) h Q) := R_ia rfl
theorem e_287_235 {rest : List xV} {a0 : Int} {a1 : Int} {a2 : Int} {a3 : Int} {o : Nat} : Ev X 287 235 ls ((vi a3) :: (vi a2) :: (vi a1) :: (vi a0) :: vr o :: rest) h Q ↔ ((X.1 o = 12 ∧ wd rest ≤ 8) ∧ Cl X 187 [vr o, vi a0, vi a1, vi a2, vi a3] h (fun r h2 => Ev X 287 236 ls (r.toList ++ rest) h2 Q)) := R_cv (x := o) (as := [vi a0, vi a1, vi a2, vi a3]) (k2 := 187) rfl rfl (Nat.le_of_ble_eq_true rfl)
theorem e_287_236 {x y : Int} : Ev X 287 236 ls (vi y :: vi x :: st) h Q ↔ (if x = y then Ev X 287 899 ls st h Q else Ev X 287 237 ls st h Q) := R_iceq rfl
theorem e_287_237 : Ev X 287 237 ls st h Q ↔ Ev X 287 238 ls (vi 0 :: st) h Q := R_kc rfl (Or.inl ⟨Or.inl rfl, by decide⟩)
theorem e_287_238 {z : Int} : Ev X 287 238 ls [vi z] h Q ↔ ((z = 0 ∨ z = 1) ∧ Q (some (vi z)) h) := R_zr rfl
theorem e_287_239 : Ev X 287 239 ls st h Q ↔ onR (gl ls 1) (fun z => Ev X 287 240 ls (vr z :: st) h Q) := R_al rfl (Or.inl rfl)
theorem e_287_240 : Ev X 287 240 ls st h Q ↔ onR (gl ls 0) (fun z => Ev X 287 241 ls (vr z :: st) h Q) := R_al rfl (Or.inl rfl)
theorem e_287_241 : Ev X 287 241 ls st h Q ↔ onI (gl ls 3) (fun z => Ev X 287 242 ls (vi z :: st) h Q) := R_il rfl (Or.inl rfl)
theorem e_287_242 : Ev X 287 242 ls st h Q ↔ Ev X 287 243 ls (vi 1 :: st) h Q := R_kc rfl (Or.inl ⟨Or.inl rfl, by decide⟩)
theorem e_287_243 {x y : Int} : Ev X 287 243 ls (vi y :: vi x :: st) h Q ↔ ((inR (x + y)) ∧ Ev X 287 244 ls (vi (x + y) :: st) h Q) := R_add rfl
theorem e_287_244 {x : Nat} {j : Int} : Ev X 287 244 ls (vi j :: vr x :: st) h Q ↔ (((X.1 x = 13 ∨ X.1 x = 20) ∧ 0 ≤ j ∧ j < X.2.1 x) ∧ Ev X 287 245 ls (vi (h.1 x j.toNat) :: st) h Q) := R_ia rfl
theorem e_287_245 : Ev X 287 245 ls st h Q ↔ onR (gl ls 0) (fun z => Ev X 287 246 ls (vr z :: st) h Q) := R_al rfl (Or.inl rfl)
theorem e_287_246 : Ev X 287 246 ls st h Q ↔ onI (gl ls 3) (fun z => Ev X 287 247 ls (vi z :: st) h Q) := R_il rfl (Or.inl rfl)
theorem e_287_247 : Ev X 287 247 ls st h Q ↔ Ev X 287 248 ls (vi 2 :: st) h Q := R_kc rfl (Or.inl ⟨Or.inl rfl, by decide⟩)
theorem e_287_248 {x y : Int} : Ev X 287 248 ls (vi y :: vi x :: st) h Q ↔ ((inR (x + y)) ∧ Ev X 287 249 ls (vi (x + y) :: st) h Q) := R_add rfl
theorem e_287_249 {x : Nat} {j : Int} : Ev X 287 249 ls (vi j :: vr x :: st) h Q ↔ (((X.1 x = 13 ∨ X.1 x = 20) ∧ 0 ≤ j ∧ j < X.2.1 x) ∧ Ev X 287 250 ls (vi (h.1 x j.toNat) :: st) h Q) := R_ia rfl
theorem e_287_250 {rest : List xV} {a0 : Int} {a1 : Int} {o : Nat} : Ev X 287 250 ls ((vi a1) :: (vi a0) :: vr o :: rest) h Q ↔ ((X.1 o = 11 ∧ wd rest ≤ 8) ∧ Cl X 108 [vr o, vi a0, vi a1] h (fun r h2 => Ev X 287 251 ls (r.toList ++ rest) h2 Q)) := R_cv (x := o) (as := [vi a0, vi a1]) (k2 := 108) rfl rfl (Nat.le_of_ble_eq_true rfl)
theorem e_287_251 : Ev X 287 251 ls st h Q ↔ onR (gl ls 2) (fun z => Ev X 287 252 ls (vr z :: st) h Q) := R_al rfl (Or.inl rfl)
theorem e_287_252 : Ev X 287 252 ls st h Q ↔ onR (gl ls 0) (fun z => Ev X 287 253 ls (vr z :: st) h Q) := R_al rfl (Or.inl rfl)
theorem e_287_253 : Ev X 287 253 ls st h Q ↔ onI (gl ls 3) (fun z => Ev X 287 254 ls (vi z :: st) h Q) := R_il rfl (Or.inl rfl)
theorem e_287_254 : Ev X 287 254 ls st h Q ↔ Ev X 287 255 ls (vi 1 :: st) h Q := R_kc rfl (Or.inl ⟨Or.inl rfl, by decide⟩)
theorem e_287_255 {x y : Int} : Ev X 287 255 ls (vi y :: vi x :: st) h Q ↔ ((inR (x + y)) ∧ Ev X 287 256 ls (vi (x + y) :: st) h Q) := R_add rfl
theorem e_287_256 {x : Nat} {j : Int} : Ev X 287 256 ls (vi j :: vr x :: st) h Q ↔ (((X.1 x = 13 ∨ X.1 x = 20) ∧ 0 ≤ j ∧ j < X.2.1 x) ∧ Ev X 287 257 ls (vi (h.1 x j.toNat) :: st) h Q) := R_ia rfl
theorem e_287_257 : Ev X 287 257 ls st h Q ↔ onR (gl ls 0) (fun z => Ev X 287 258 ls (vr z :: st) h Q) := R_al rfl (Or.inl rfl)
theorem e_287_258 : Ev X 287 258 ls st h Q ↔ onI (gl ls 3) (fun z => Ev X 287 259 ls (vi z :: st) h Q) := R_il rfl (Or.inl rfl)
theorem e_287_259 : Ev X 287 259 ls st h Q ↔ Ev X 287 260 ls (vi 2 :: st) h Q := R_kc rfl (Or.inl ⟨Or.inl rfl, by decide⟩)
theorem e_287_260 {x y : Int} : Ev X 287 260 ls (vi y :: vi x :: st) h Q ↔ ((inR (x + y)) ∧ Ev X 287 261 ls (vi (x + y) :: st) h Q) := R_add rfl
theorem e_287_261 {x : Nat} {j : Int} : Ev X 287 261 ls (vi j :: vr x :: st) h Q ↔ (((X.1 x = 13 ∨ X.1 x = 20) ∧ 0 ≤ j ∧ j < X.2.1 x) ∧ Ev X 287 262 ls (vi (h.1 x j.toNat) :: st) h Q) := R_ia rfl
theorem e_287_262 {rest : List xV} {a0 : Int} {a1 : Int} {o : Nat} : Ev X 287 262 ls ((vi a1) :: (vi a0) :: vr o :: rest) h Q ↔ ((X.1 o = 12 ∧ wd rest ≤ 8) ∧ Cl X 188 [vr o, vi a0, vi a1] h (fun r h2 => Ev X 287 263 ls (r.toList ++ rest) h2 Q)) := R_cv (x := o) (as := [vi a0, vi a1]) (k2 := 188) rfl rfl (Nat.le_of_ble_eq_true rfl)
theorem e_287_263 {x y : Int} : Ev X 287 263 ls (vi y :: vi x :: st) h Q ↔ (if x = y then Ev X 287 899 ls st h Q else Ev X 287 264 ls st h Q) := R_iceq rfl
theorem e_287_264 : Ev X 287 264 ls st h Q ↔ Ev X 287 265 ls (vi 0 :: st) h Q := R_kc rfl (Or.inl ⟨Or.inl rfl, by decide⟩)
theorem e_287_265 {z : Int} : Ev X 287 265 ls [vi z] h Q ↔ ((z = 0 ∨ z = 1) ∧ Q (some (vi z)) h) := R_zr rfl
theorem e_287_266 : Ev X 287 266 ls st h Q ↔ onR (gl ls 1) (fun z => Ev X 287 267 ls (vr z :: st) h Q) := R_al rfl (Or.inl rfl)
theorem e_287_267 : Ev X 287 267 ls st h Q ↔ onR (gl ls 0) (fun z => Ev X 287 268 ls (vr z :: st) h Q) := R_al rfl (Or.inl rfl)
theorem e_287_268 : Ev X 287 268 ls st h Q ↔ onI (gl ls 3) (fun z => Ev X 287 269 ls (vi z :: st) h Q) := R_il rfl (Or.inl rfl)
theorem e_287_269 : Ev X 287 269 ls st h Q ↔ Ev X 287 270 ls (vi 1 :: st) h Q := R_kc rfl (Or.inl ⟨Or.inl rfl, by decide⟩)
theorem e_287_270 {x y : Int} : Ev X 287 270 ls (vi y :: vi x :: st) h Q ↔ ((inR (x + y)) ∧ Ev X 287 271 ls (vi (x + y) :: st) h Q) := R_add rfl
theorem e_287_271 {x : Nat} {j : Int} : Ev X 287 271 ls (vi j :: vr x :: st) h Q ↔ (((X.1 x = 13 ∨ X.1 x = 20) ∧ 0 ≤ j ∧ j < X.2.1 x) ∧ Ev X 287 272 ls (vi (h.1 x j.toNat) :: st) h Q) := R_ia rfl
theorem e_287_272 {rest : List xV} {a0 : Int} {o : Nat} : Ev X 287 272 ls ((vi a0) :: vr o :: rest) h Q ↔ ((X.1 o = 11 ∧ wd rest ≤ 8) ∧ Cl X 109 [vr o, vi a0] h (fun r h2 => Ev X 287 273 ls (r.toList ++ rest) h2 Q)) := R_cv (x := o) (as := [vi a0]) (k2 := 109) rfl rfl (Nat.le_of_ble_eq_true rfl)
theorem e_287_273 : Ev X 287 273 ls st h Q ↔ onR (gl ls 2) (fun z => Ev X 287 274 ls (vr z :: st) h Q) := R_al rfl (Or.inl rfl)
theorem e_287_274 : Ev X 287 274 ls st h Q ↔ onR (gl ls 0) (fun z => Ev X 287 275 ls (vr z :: st) h Q) := R_al rfl (Or.inl rfl)
theorem e_287_275 : Ev X 287 275 ls st h Q ↔ onI (gl ls 3) (fun z => Ev X 287 276 ls (vi z :: st) h Q) := R_il rfl (Or.inl rfl)
theorem e_287_276 : Ev X 287 276 ls st h Q ↔ Ev X 287 277 ls (vi 1 :: st) h Q := R_kc rfl (Or.inl ⟨Or.inl rfl, by decide⟩)
theorem e_287_277 {x y : Int} : Ev X 287 277 ls (vi y :: vi x :: st) h Q ↔ ((inR (x + y)) ∧ Ev X 287 278 ls (vi (x + y) :: st) h Q) := R_add rfl
theorem e_287_278 {x : Nat} {j : Int} : Ev X 287 278 ls (vi j :: vr x :: st) h Q ↔ (((X.1 x = 13 ∨ X.1 x = 20) ∧ 0 ≤ j ∧ j < X.2.1 x) ∧ Ev X 287 279 ls (vi (h.1 x j.toNat) :: st) h Q) := R_ia rfl
theorem e_287_279 {rest : List xV} {a0 : Int} {o : Nat} : Ev X 287 279 ls ((vi a0) :: vr o :: rest) h Q ↔ ((X.1 o = 12 ∧ wd rest ≤ 8) ∧ Cl X 190 [vr o, vi a0] h (fun r h2 => Ev X 287 280 ls (r.toList ++ rest) h2 Q)) := R_cv (x := o) (as := [vi a0]) (k2 := 190) rfl rfl (Nat.le_of_ble_eq_true rfl)
theorem e_287_280 {x y : Int} : Ev X 287 280 ls (vi y :: vi x :: st) h Q ↔ (if x = y then Ev X 287 899 ls st h Q else Ev X 287 281 ls st h Q) := R_iceq rfl
theorem e_287_281 : Ev X 287 281 ls st h Q ↔ Ev X 287 282 ls (vi 0 :: st) h Q := R_kc rfl (Or.inl ⟨Or.inl rfl, by decide⟩)
theorem e_287_282 {z : Int} : Ev X 287 282 ls [vi z] h Q ↔ ((z = 0 ∨ z = 1) ∧ Q (some (vi z)) h) := R_zr rfl
theorem e_287_283 : Ev X 287 283 ls st h Q ↔ onR (gl ls 1) (fun z => Ev X 287 284 ls (vr z :: st) h Q) := R_al rfl (Or.inl rfl)
theorem e_287_284 : Ev X 287 284 ls st h Q ↔ onR (gl ls 0) (fun z => Ev X 287 285 ls (vr z :: st) h Q) := R_al rfl (Or.inl rfl)
theorem e_287_285 : Ev X 287 285 ls st h Q ↔ onI (gl ls 3) (fun z => Ev X 287 286 ls (vi z :: st) h Q) := R_il rfl (Or.inl rfl)
theorem e_287_286 : Ev X 287 286 ls st h Q ↔ Ev X 287 287 ls (vi 1 :: st) h Q := R_kc rfl (Or.inl ⟨Or.inl rfl, by decide⟩)
theorem e_287_287 {x y : Int} : Ev X 287 287 ls (vi y :: vi x :: st) h Q ↔ ((inR (x + y)) ∧ Ev X 287 288 ls (vi (x + y) :: st) h Q) := R_add rfl
theorem e_287_288 {x : Nat} {j : Int} : Ev X 287 288 ls (vi j :: vr x :: st) h Q ↔ (((X.1 x = 13 ∨ X.1 x = 20) ∧ 0 ≤ j ∧ j < X.2.1 x) ∧ Ev X 287 289 ls (vi (h.1 x j.toNat) :: st) h Q) := R_ia rfl
theorem e_287_289 {rest : List xV} {a0 : Int} {o : Nat} : Ev X 287 289 ls ((vi a0) :: vr o :: rest) h Q ↔ ((X.1 o = 11 ∧ wd rest ≤ 8) ∧ Cl X 110 [vr o, vi a0] h (fun r h2 => Ev X 287 290 ls (r.toList ++ rest) h2 Q)) := R_cv (x := o) (as := [vi a0]) (k2 := 110) rfl rfl (Nat.le_of_ble_eq_true rfl)
theorem e_287_290 : Ev X 287 290 ls st h Q ↔ onR (gl ls 2) (fun z => Ev X 287 291 ls (vr z :: st) h Q) := R_al rfl (Or.inl rfl)
theorem e_287_291 : Ev X 287 291 ls st h Q ↔ onR (gl ls 0) (fun z => Ev X 287 292 ls (vr z :: st) h Q) := R_al rfl (Or.inl rfl)
theorem e_287_292 : Ev X 287 292 ls st h Q ↔ onI (gl ls 3) (fun z => Ev X 287 293 ls (vi z :: st) h Q) := R_il rfl (Or.inl rfl)
theorem e_287_293 : Ev X 287 293 ls st h Q ↔ Ev X 287 294 ls (vi 1 :: st) h Q := R_kc rfl (Or.inl ⟨Or.inl rfl, by decide⟩)
theorem e_287_294 {x y : Int} : Ev X 287 294 ls (vi y :: vi x :: st) h Q ↔ ((inR (x + y)) ∧ Ev X 287 295 ls (vi (x + y) :: st) h Q) := R_add rfl
theorem e_287_295 {x : Nat} {j : Int} : Ev X 287 295 ls (vi j :: vr x :: st) h Q ↔ (((X.1 x = 13 ∨ X.1 x = 20) ∧ 0 ≤ j ∧ j < X.2.1 x) ∧ Ev X 287 296 ls (vi (h.1 x j.toNat) :: st) h Q) := R_ia rfl
theorem e_287_296 {rest : List xV} {a0 : Int} {o : Nat} : Ev X 287 296 ls ((vi a0) :: vr o :: rest) h Q ↔ ((X.1 o = 12 ∧ wd rest ≤ 8) ∧ Cl X 191 [vr o, vi a0] h (fun r h2 => Ev X 287 297 ls (r.toList ++ rest) h2 Q)) := R_cv (x := o) (as := [vi a0]) (k2 := 191) rfl rfl (Nat.le_of_ble_eq_true rfl)
theorem e_287_297 {x y : Int} : Ev X 287 297 ls (vi y :: vi x :: st) h Q ↔ (if x = y then Ev X 287 899 ls st h Q else Ev X 287 298 ls st h Q) := R_iceq rfl
theorem e_287_298 : Ev X 287 298 ls st h Q ↔ Ev X 287 299 ls (vi 0 :: st) h Q := R_kc rfl (Or.inl ⟨Or.inl rfl, by decide⟩)
theorem e_287_299 {z : Int} : Ev X 287 299 ls [vi z] h Q ↔ ((z = 0 ∨ z = 1) ∧ Q (some (vi z)) h) := R_zr rfl
theorem e_287_300 : Ev X 287 300 ls st h Q ↔ onR (gl ls 1) (fun z => Ev X 287 301 ls (vr z :: st) h Q) := R_al rfl (Or.inl rfl)
theorem e_287_301 : Ev X 287 301 ls st h Q ↔ onR (gl ls 0) (fun z => Ev X 287 302 ls (vr z :: st) h Q) := R_al rfl (Or.inl rfl)
theorem e_287_302 : Ev X 287 302 ls st h Q ↔ onI (gl ls 3) (fun z => Ev X 287 303 ls (vi z :: st) h Q) := R_il rfl (Or.inl rfl)
theorem e_287_303 : Ev X 287 303 ls st h Q ↔ Ev X 287 304 ls (vi 1 :: st) h Q := R_kc rfl (Or.inl ⟨Or.inl rfl, by decide⟩)
theorem e_287_304 {x y : Int} : Ev X 287 304 ls (vi y :: vi x :: st) h Q ↔ ((inR (x + y)) ∧ Ev X 287 305 ls (vi (x + y) :: st) h Q) := R_add rfl
theorem e_287_305 {x : Nat} {j : Int} : Ev X 287 305 ls (vi j :: vr x :: st) h Q ↔ (((X.1 x = 13 ∨ X.1 x = 20) ∧ 0 ≤ j ∧ j < X.2.1 x) ∧ Ev X 287 306 ls (vi (h.1 x j.toNat) :: st) h Q) := R_ia rfl
theorem e_287_306 : Ev X 287 306 ls st h Q ↔ onR (gl ls 0) (fun z => Ev X 287 307 ls (vr z :: st) h Q) := R_al rfl (Or.inl rfl)
theorem e_287_307 : Ev X 287 307 ls st h Q ↔ onI (gl ls 3) (fun z => Ev X 287 308 ls (vi z :: st) h Q) := R_il rfl (Or.inl rfl)
theorem e_287_308 : Ev X 287 308 ls st h Q ↔ Ev X 287 309 ls (vi 2 :: st) h Q := R_kc rfl (Or.inl ⟨Or.inl rfl, by decide⟩)
theorem e_287_309 {x y : Int} : Ev X 287 309 ls (vi y :: vi x :: st) h Q ↔ ((inR (x + y)) ∧ Ev X 287 310 ls (vi (x + y) :: st) h Q) := R_add rfl
theorem e_287_310 {x : Nat} {j : Int} : Ev X 287 310 ls (vi j :: vr x :: st) h Q ↔ (((X.1 x = 13 ∨ X.1 x = 20) ∧ 0 ≤ j ∧ j < X.2.1 x) ∧ Ev X 287 311 ls (vi (h.1 x j.toNat) :: st) h Q) := R_ia rfl
theorem e_287_311 : Ev X 287 311 ls st h Q ↔ onR (gl ls 0) (fun z => Ev X 287 312 ls (vr z :: st) h Q) := R_al rfl (Or.inl rfl)
theorem e_287_312 : Ev X 287 312 ls st h Q ↔ onI (gl ls 3) (fun z => Ev X 287 313 ls (vi z :: st) h Q) := R_il rfl (Or.inl rfl)
theorem e_287_313 : Ev X 287 313 ls st h Q ↔ Ev X 287 314 ls (vi 3 :: st) h Q := R_kc rfl (Or.inl ⟨Or.inl rfl, by decide⟩)
theorem e_287_314 {x y : Int} : Ev X 287 314 ls (vi y :: vi x :: st) h Q ↔ ((inR (x + y)) ∧ Ev X 287 315 ls (vi (x + y) :: st) h Q) := R_add rfl
theorem e_287_315 {x : Nat} {j : Int} : Ev X 287 315 ls (vi j :: vr x :: st) h Q ↔ (((X.1 x = 13 ∨ X.1 x = 20) ∧ 0 ≤ j ∧ j < X.2.1 x) ∧ Ev X 287 316 ls (vi (h.1 x j.toNat) :: st) h Q) := R_ia rfl
theorem e_287_316 {rest : List xV} {a0 : Int} {a1 : Int} {a2 : Int} {o : Nat} : Ev X 287 316 ls ((vi a2) :: (vi a1) :: (vi a0) :: vr o :: rest) h Q ↔ ((X.1 o = 11 ∧ wd rest ≤ 8) ∧ Cl X 111 [vr o, vi a0, vi a1, vi a2] h (fun r h2 => Ev X 287 317 ls (r.toList ++ rest) h2 Q)) := R_cv (x := o) (as := [vi a0, vi a1, vi a2]) (k2 := 111) rfl rfl (Nat.le_of_ble_eq_true rfl)
theorem e_287_317 : Ev X 287 317 ls st h Q ↔ onR (gl ls 2) (fun z => Ev X 287 318 ls (vr z :: st) h Q) := R_al rfl (Or.inl rfl)
theorem e_287_318 : Ev X 287 318 ls st h Q ↔ onR (gl ls 0) (fun z => Ev X 287 319 ls (vr z :: st) h Q) := R_al rfl (Or.inl rfl)
theorem e_287_319 : Ev X 287 319 ls st h Q ↔ onI (gl ls 3) (fun z => Ev X 287 320 ls (vi z :: st) h Q) := R_il rfl (Or.inl rfl)
theorem e_287_320 : Ev X 287 320 ls st h Q ↔ Ev X 287 321 ls (vi 1 :: st) h Q := R_kc rfl (Or.inl ⟨Or.inl rfl, by decide⟩)
theorem e_287_321 {x y : Int} : Ev X 287 321 ls (vi y :: vi x :: st) h Q ↔ ((inR (x + y)) ∧ Ev X 287 322 ls (vi (x + y) :: st) h Q) := R_add rfl
theorem e_287_322 {x : Nat} {j : Int} : Ev X 287 322 ls (vi j :: vr x :: st) h Q ↔ (((X.1 x = 13 ∨ X.1 x = 20) ∧ 0 ≤ j ∧ j < X.2.1 x) ∧ Ev X 287 323 ls (vi (h.1 x j.toNat) :: st) h Q) := R_ia rfl
theorem e_287_323 : Ev X 287 323 ls st h Q ↔ onR (gl ls 0) (fun z => Ev X 287 324 ls (vr z :: st) h Q) := R_al rfl (Or.inl rfl)
theorem e_287_324 : Ev X 287 324 ls st h Q ↔ onI (gl ls 3) (fun z => Ev X 287 325 ls (vi z :: st) h Q) := R_il rfl (Or.inl rfl)
theorem e_287_325 : Ev X 287 325 ls st h Q ↔ Ev X 287 326 ls (vi 2 :: st) h Q := R_kc rfl (Or.inl ⟨Or.inl rfl, by decide⟩)
theorem e_287_326 {x y : Int} : Ev X 287 326 ls (vi y :: vi x :: st) h Q ↔ ((inR (x + y)) ∧ Ev X 287 327 ls (vi (x + y) :: st) h Q) := R_add rfl
theorem e_287_327 {x : Nat} {j : Int} : Ev X 287 327 ls (vi j :: vr x :: st) h Q ↔ (((X.1 x = 13 ∨ X.1 x = 20) ∧ 0 ≤ j ∧ j < X.2.1 x) ∧ Ev X 287 328 ls (vi (h.1 x j.toNat) :: st) h Q) := R_ia rfl
theorem e_287_328 : Ev X 287 328 ls st h Q ↔ onR (gl ls 0) (fun z => Ev X 287 329 ls (vr z :: st) h Q) := R_al rfl (Or.inl rfl)
theorem e_287_329 : Ev X 287 329 ls st h Q ↔ onI (gl ls 3) (fun z => Ev X 287 330 ls (vi z :: st) h Q) := R_il rfl (Or.inl rfl)
theorem e_287_330 : Ev X 287 330 ls st h Q ↔ Ev X 287 331 ls (vi 3 :: st) h Q := R_kc rfl (Or.inl ⟨Or.inl rfl, by decide⟩)
theorem e_287_331 {x y : Int} : Ev X 287 331 ls (vi y :: vi x :: st) h Q ↔ ((inR (x + y)) ∧ Ev X 287 332 ls (vi (x + y) :: st) h Q) := R_add rfl
theorem e_287_332 {x : Nat} {j : Int} : Ev X 287 332 ls (vi j :: vr x :: st) h Q ↔ (((X.1 x = 13 ∨ X.1 x = 20) ∧ 0 ≤ j ∧ j < X.2.1 x) ∧ Ev X 287 333 ls (vi (h.1 x j.toNat) :: st) h Q) := R_ia rfl
theorem e_287_333 {rest : List xV} {a0 : Int} {a1 : Int} {a2 : Int} {o : Nat} : Ev X 287 333 ls ((vi a2) :: (vi a1) :: (vi a0) :: vr o :: rest) h Q ↔ ((X.1 o = 12 ∧ wd rest ≤ 8) ∧ Cl X 192 [vr o, vi a0, vi a1, vi a2] h (fun r h2 => Ev X 287 334 ls (r.toList ++ rest) h2 Q)) := R_cv (x := o) (as := [vi a0, vi a1, vi a2]) (k2 := 192) rfl rfl (Nat.le_of_ble_eq_true rfl)
theorem e_287_334 {x y : Int} : Ev X 287 334 ls (vi y :: vi x :: st) h Q ↔ (if x = y then Ev X 287 899 ls st h Q else Ev X 287 335 ls st h Q) := R_iceq rfl
theorem e_287_335 : Ev X 287 335 ls st h Q ↔ Ev X 287 336 ls (vi 0 :: st) h Q := R_kc rfl (Or.inl ⟨Or.inl rfl, by decide⟩)
theorem e_287_336 {z : Int} : Ev X 287 336 ls [vi z] h Q ↔ ((z = 0 ∨ z = 1) ∧ Q (some (vi z)) h) := R_zr rfl
theorem e_287_337 : Ev X 287 337 ls st h Q ↔ onR (gl ls 1) (fun z => Ev X 287 338 ls (vr z :: st) h Q) := R_al rfl (Or.inl rfl)
theorem e_287_338 : Ev X 287 338 ls st h Q ↔ onR (gl ls 0) (fun z => Ev X 287 339 ls (vr z :: st) h Q) := R_al rfl (Or.inl rfl)
theorem e_287_339 : Ev X 287 339 ls st h Q ↔ onI (gl ls 3) (fun z => Ev X 287 340 ls (vi z :: st) h Q) := R_il rfl (Or.inl rfl)
theorem e_287_340 : Ev X 287 340 ls st h Q ↔ Ev X 287 341 ls (vi 1 :: st) h Q := R_kc rfl (Or.inl ⟨Or.inl rfl, by decide⟩)
theorem e_287_341 {x y : Int} : Ev X 287 341 ls (vi y :: vi x :: st) h Q ↔ ((inR (x + y)) ∧ Ev X 287 342 ls (vi (x + y) :: st) h Q) := R_add rfl
theorem e_287_342 {x : Nat} {j : Int} : Ev X 287 342 ls (vi j :: vr x :: st) h Q ↔ (((X.1 x = 13 ∨ X.1 x = 20) ∧ 0 ≤ j ∧ j < X.2.1 x) ∧ Ev X 287 343 ls (vi (h.1 x j.toNat) :: st) h Q) := R_ia rfl
theorem e_287_343 : Ev X 287 343 ls st h Q ↔ onR (gl ls 0) (fun z => Ev X 287 344 ls (vr z :: st) h Q) := R_al rfl (Or.inl rfl)
theorem e_287_344 : Ev X 287 344 ls st h Q ↔ onI (gl ls 3) (fun z => Ev X 287 345 ls (vi z :: st) h Q) := R_il rfl (Or.inl rfl)
theorem e_287_345 : Ev X 287 345 ls st h Q ↔ Ev X 287 346 ls (vi 2 :: st) h Q := R_kc rfl (Or.inl ⟨Or.inl rfl, by decide⟩)
theorem e_287_346 {x y : Int} : Ev X 287 346 ls (vi y :: vi x :: st) h Q ↔ ((inR (x + y)) ∧ Ev X 287 347 ls (vi (x + y) :: st) h Q) := R_add rfl
theorem e_287_347 {x : Nat} {j : Int} : Ev X 287 347 ls (vi j :: vr x :: st) h Q ↔ (((X.1 x = 13 ∨ X.1 x = 20) ∧ 0 ≤ j ∧ j < X.2.1 x) ∧ Ev X 287 348 ls (vi (h.1 x j.toNat) :: st) h Q) := R_ia rfl
theorem e_287_348 : Ev X 287 348 ls st h Q ↔ onR (gl ls 0) (fun z => Ev X 287 349 ls (vr z :: st) h Q) := R_al rfl (Or.inl rfl)
theorem e_287_349 : Ev X 287 349 ls st h Q ↔ onI (gl ls 3) (fun z => Ev X 287 350 ls (vi z :: st) h Q) := R_il rfl (Or.inl rfl)
theorem e_287_350 : Ev X 287 350 ls st h Q ↔ Ev X 287 351 ls (vi 3 :: st) h Q := R_kc rfl (Or.inl ⟨Or.inl rfl, by decide⟩)
set_option maxRecDepth 20000 in
theorem e_287_351 {x y : Int} : Ev X 287 351 ls (vi y :: vi x :: st) h Q ↔ ((inR (x + y)) ∧ Ev X 287 352 ls (vi (x + y) :: st) h Q) := R_add rfl
set_option maxRecDepth 20000 in
theorem e_287_352 {x : Nat} {j : Int} : Ev X 287 352 ls (vi j :: vr x :: st) h Q ↔ (((X.1 x = 13 ∨ X.1 x = 20) ∧ 0 ≤ j ∧ j < X.2.1 x) ∧ Ev X 287 353 ls (vi (h.1 x j.toNat) :: st) h Q) := R_ia rfl
set_option maxRecDepth 20000 in
theorem e_287_353 {rest : List xV} {a0 : Int} {a1 : Int} {a2 : Int} {o : Nat} : Ev X 287 353 ls ((vi a2) :: (vi a1) :: (vi a0) :: vr o :: rest) h Q ↔ ((X.1 o = 11 ∧ wd rest ≤ 8) ∧ Cl X 112 [vr o, vi a0, vi a1, vi a2] h (fun r h2 => Ev X 287 354 ls (r.toList ++ rest) h2 Q)) := R_cv (x := o) (as := [vi a0, vi a1, vi a2]) (k2 := 112) rfl rfl (Nat.le_of_ble_eq_true rfl)
set_option maxRecDepth 20000 in
theorem e_287_354 : Ev X 287 354 ls st h Q ↔ onR (gl ls 2) (fun z => Ev X 287 355 ls (vr z :: st) h Q) := R_al rfl (Or.inl rfl)
set_option maxRecDepth 20000 in
theorem e_287_355 : Ev X 287 355 ls st h Q ↔ onR (gl ls 0) (fun z => Ev X 287 356 ls (vr z :: st) h Q) := R_al rfl (Or.inl rfl)
set_option maxRecDepth 20000 in
theorem e_287_356 : Ev X 287 356 ls st h Q ↔ onI (gl ls 3) (fun z => Ev X 287 357 ls (vi z :: st) h Q) := R_il rfl (Or.inl rfl)
set_option maxRecDepth 20000 in
theorem e_287_357 : Ev X 287 357 ls st h Q ↔ Ev X 287 358 ls (vi 1 :: st) h Q := R_kc rfl (Or.inl ⟨Or.inl rfl, by decide⟩)
set_option maxRecDepth 20000 in
theorem e_287_358 {x y : Int} : Ev X 287 358 ls (vi y :: vi x :: st) h Q ↔ ((inR (x + y)) ∧ Ev X 287 359 ls (vi (x + y) :: st) h Q) := R_add rfl
set_option maxRecDepth 20000 in
theorem e_287_359 {x : Nat} {j : Int} : Ev X 287 359 ls (vi j :: vr x :: st) h Q ↔ (((X.1 x = 13 ∨ X.1 x = 20) ∧ 0 ≤ j ∧ j < X.2.1 x) ∧ Ev X 287 360 ls (vi (h.1 x j.toNat) :: st) h Q) := R_ia rfl
set_option maxRecDepth 20000 in
theorem e_287_360 : Ev X 287 360 ls st h Q ↔ onR (gl ls 0) (fun z => Ev X 287 361 ls (vr z :: st) h Q) := R_al rfl (Or.inl rfl)
set_option maxRecDepth 20000 in
theorem e_287_361 : Ev X 287 361 ls st h Q ↔ onI (gl ls 3) (fun z => Ev X 287 362 ls (vi z :: st) h Q) := R_il rfl (Or.inl rfl)
set_option maxRecDepth 20000 in
theorem e_287_362 : Ev X 287 362 ls st h Q ↔ Ev X 287 363 ls (vi 2 :: st) h Q := R_kc rfl (Or.inl ⟨Or.inl rfl, by decide⟩)
set_option maxRecDepth 20000 in
theorem e_287_363 {x y : Int} : Ev X 287 363 ls (vi y :: vi x :: st) h Q ↔ ((inR (x + y)) ∧ Ev X 287 364 ls (vi (x + y) :: st) h Q) := R_add rfl
set_option maxRecDepth 20000 in
theorem e_287_364 {x : Nat} {j : Int} : Ev X 287 364 ls (vi j :: vr x :: st) h Q ↔ (((X.1 x = 13 ∨ X.1 x = 20) ∧ 0 ≤ j ∧ j < X.2.1 x) ∧ Ev X 287 365 ls (vi (h.1 x j.toNat) :: st) h Q) := R_ia rfl
set_option maxRecDepth 20000 in
theorem e_287_365 : Ev X 287 365 ls st h Q ↔ onR (gl ls 0) (fun z => Ev X 287 366 ls (vr z :: st) h Q) := R_al rfl (Or.inl rfl)
set_option maxRecDepth 20000 in
theorem e_287_366 : Ev X 287 366 ls st h Q ↔ onI (gl ls 3) (fun z => Ev X 287 367 ls (vi z :: st) h Q) := R_il rfl (Or.inl rfl)
set_option maxRecDepth 20000 in
theorem e_287_367 : Ev X 287 367 ls st h Q ↔ Ev X 287 368 ls (vi 3 :: st) h Q := R_kc rfl (Or.inl ⟨Or.inl rfl, by decide⟩)
set_option maxRecDepth 20000 in
theorem e_287_368 {x y : Int} : Ev X 287 368 ls (vi y :: vi x :: st) h Q ↔ ((inR (x + y)) ∧ Ev X 287 369 ls (vi (x + y) :: st) h Q) := R_add rfl
set_option maxRecDepth 20000 in
theorem e_287_369 {x : Nat} {j : Int} : Ev X 287 369 ls (vi j :: vr x :: st) h Q ↔ (((X.1 x = 13 ∨ X.1 x = 20) ∧ 0 ≤ j ∧ j < X.2.1 x) ∧ Ev X 287 370 ls (vi (h.1 x j.toNat) :: st) h Q) := R_ia rfl
set_option maxRecDepth 20000 in
theorem e_287_370 {rest : List xV} {a0 : Int} {a1 : Int} {a2 : Int} {o : Nat} : Ev X 287 370 ls ((vi a2) :: (vi a1) :: (vi a0) :: vr o :: rest) h Q ↔ ((X.1 o = 12 ∧ wd rest ≤ 8) ∧ Cl X 193 [vr o, vi a0, vi a1, vi a2] h (fun r h2 => Ev X 287 371 ls (r.toList ++ rest) h2 Q)) := R_cv (x := o) (as := [vi a0, vi a1, vi a2]) (k2 := 193) rfl rfl (Nat.le_of_ble_eq_true rfl)
set_option maxRecDepth 20000 in
theorem e_287_371 {x y : Int} : Ev X 287 371 ls (vi y :: vi x :: st) h Q ↔ (if x = y then Ev X 287 899 ls st h Q else Ev X 287 372 ls st h Q) := R_iceq rfl
set_option maxRecDepth 20000 in
theorem e_287_372 : Ev X 287 372 ls st h Q ↔ Ev X 287 373 ls (vi 0 :: st) h Q := R_kc rfl (Or.inl ⟨Or.inl rfl, by decide⟩)
set_option maxRecDepth 20000 in
theorem e_287_373 {z : Int} : Ev X 287 373 ls [vi z] h Q ↔ ((z = 0 ∨ z = 1) ∧ Q (some (vi z)) h) := R_zr rfl
set_option maxRecDepth 20000 in
theorem e_287_374 : Ev X 287 374 ls st h Q ↔ onR (gl ls 1) (fun z => Ev X 287 375 ls (vr z :: st) h Q) := R_al rfl (Or.inl rfl)
set_option maxRecDepth 20000 in
theorem e_287_375 : Ev X 287 375 ls st h Q ↔ onR (gl ls 0) (fun z => Ev X 287 376 ls (vr z :: st) h Q) := R_al rfl (Or.inl rfl)
set_option maxRecDepth 20000 in
theorem e_287_376 : Ev X 287 376 ls st h Q ↔ onI (gl ls 3) (fun z => Ev X 287 377 ls (vi z :: st) h Q) := R_il rfl (Or.inl rfl)
set_option maxRecDepth 20000 in
theorem e_287_377 : Ev X 287 377 ls st h Q ↔ Ev X 287 378 ls (vi 1 :: st) h Q := R_kc rfl (Or.inl ⟨Or.inl rfl, by decide⟩)
set_option maxRecDepth 20000 in
theorem e_287_378 {x y : Int} : Ev X 287 378 ls (vi y :: vi x :: st) h Q ↔ ((inR (x + y)) ∧ Ev X 287 379 ls (vi (x + y) :: st) h Q) := R_add rfl
set_option maxRecDepth 20000 in
theorem e_287_379 {x : Nat} {j : Int} : Ev X 287 379 ls (vi j :: vr x :: st) h Q ↔ (((X.1 x = 13 ∨ X.1 x = 20) ∧ 0 ≤ j ∧ j < X.2.1 x) ∧ Ev X 287 380 ls (vi (h.1 x j.toNat) :: st) h Q) := R_ia rfl
set_option maxRecDepth 20000 in
theorem e_287_380 {rest : List xV} {a0 : Int} {o : Nat} : Ev X 287 380 ls ((vi a0) :: vr o :: rest) h Q ↔ ((X.1 o = 11 ∧ wd rest ≤ 8) ∧ Cl X 113 [vr o, vi a0] h (fun r h2 => Ev X 287 381 ls (r.toList ++ rest) h2 Q)) := R_cv (x := o) (as := [vi a0]) (k2 := 113) rfl rfl (Nat.le_of_ble_eq_true rfl)
set_option maxRecDepth 20000 in
theorem e_287_381 : Ev X 287 381 ls st h Q ↔ onR (gl ls 2) (fun z => Ev X 287 382 ls (vr z :: st) h Q) := R_al rfl (Or.inl rfl)
set_option maxRecDepth 20000 in
theorem e_287_382 : Ev X 287 382 ls st h Q ↔ onR (gl ls 0) (fun z => Ev X 287 383 ls (vr z :: st) h Q) := R_al rfl (Or.inl rfl)
set_option maxRecDepth 20000 in
theorem e_287_383 : Ev X 287 383 ls st h Q ↔ onI (gl ls 3) (fun z => Ev X 287 384 ls (vi z :: st) h Q) := R_il rfl (Or.inl rfl)
set_option maxRecDepth 20000 in
theorem e_287_384 : Ev X 287 384 ls st h Q ↔ Ev X 287 385 ls (vi 1 :: st) h Q := R_kc rfl (Or.inl ⟨Or.inl rfl, by decide⟩)
set_option maxRecDepth 20000 in
theorem e_287_385 {x y : Int} : Ev X 287 385 ls (vi y :: vi x :: st) h Q ↔ ((inR (x + y)) ∧ Ev X 287 386 ls (vi (x + y) :: st) h Q) := R_add rfl
set_option maxRecDepth 20000 in
theorem e_287_386 {x : Nat} {j : Int} : Ev X 287 386 ls (vi j :: vr x :: st) h Q ↔ (((X.1 x = 13 ∨ X.1 x = 20) ∧ 0 ≤ j ∧ j < X.2.1 x) ∧ Ev X 287 387 ls (vi (h.1 x j.toNat) :: st) h Q) := R_ia rfl
set_option maxRecDepth 20000 in
theorem e_287_387 {rest : List xV} {a0 : Int} {o : Nat} : Ev X 287 387 ls ((vi a0) :: vr o :: rest) h Q ↔ ((X.1 o = 12 ∧ wd rest ≤ 8) ∧ Cl X 194 [vr o, vi a0] h (fun r h2 => Ev X 287 388 ls (r.toList ++ rest) h2 Q)) := R_cv (x := o) (as := [vi a0]) (k2 := 194) rfl rfl (Nat.le_of_ble_eq_true rfl)
set_option maxRecDepth 20000 in
theorem e_287_388 {x y : Int} : Ev X 287 388 ls (vi y :: vi x :: st) h Q ↔ (if x = y then Ev X 287 899 ls st h Q else Ev X 287 389 ls st h Q) := R_iceq rfl
set_option maxRecDepth 20000 in
theorem e_287_389 : Ev X 287 389 ls st h Q ↔ Ev X 287 390 ls (vi 0 :: st) h Q := R_kc rfl (Or.inl ⟨Or.inl rfl, by decide⟩)
set_option maxRecDepth 20000 in
theorem e_287_390 {z : Int} : Ev X 287 390 ls [vi z] h Q ↔ ((z = 0 ∨ z = 1) ∧ Q (some (vi z)) h) := R_zr rfl
set_option maxRecDepth 20000 in
theorem e_287_391 : Ev X 287 391 ls st h Q ↔ onR (gl ls 1) (fun z => Ev X 287 392 ls (vr z :: st) h Q) := R_al rfl (Or.inl rfl)
set_option maxRecDepth 20000 in
theorem e_287_392 : Ev X 287 392 ls st h Q ↔ onR (gl ls 0) (fun z => Ev X 287 393 ls (vr z :: st) h Q) := R_al rfl (Or.inl rfl)
set_option maxRecDepth 20000 in
theorem e_287_393 : Ev X 287 393 ls st h Q ↔ onI (gl ls 3) (fun z => Ev X 287 394 ls (vi z :: st) h Q) := R_il rfl (Or.inl rfl)
set_option maxRecDepth 20000 in
theorem e_287_394 : Ev X 287 394 ls st h Q ↔ Ev X 287 395 ls (vi 1 :: st) h Q := R_kc rfl (Or.inl ⟨Or.inl rfl, by decide⟩)
set_option maxRecDepth 20000 in
theorem e_287_395 {x y : Int} : Ev X 287 395 ls (vi y :: vi x :: st) h Q ↔ ((inR (x + y)) ∧ Ev X 287 396 ls (vi (x + y) :: st) h Q) := R_add rfl
set_option maxRecDepth 20000 in
theorem e_287_396 {x : Nat} {j : Int} : Ev X 287 396 ls (vi j :: vr x :: st) h Q ↔ (((X.1 x = 13 ∨ X.1 x = 20) ∧ 0 ≤ j ∧ j < X.2.1 x) ∧ Ev X 287 397 ls (vi (h.1 x j.toNat) :: st) h Q) := R_ia rfl
set_option maxRecDepth 20000 in
theorem e_287_397 : Ev X 287 397 ls st h Q ↔ onR (gl ls 0) (fun z => Ev X 287 398 ls (vr z :: st) h Q) := R_al rfl (Or.inl rfl)
set_option maxRecDepth 20000 in
theorem e_287_398 : Ev X 287 398 ls st h Q ↔ onI (gl ls 3) (fun z => Ev X 287 399 ls (vi z :: st) h Q) := R_il rfl (Or.inl rfl)
set_option maxRecDepth 20000 in
theorem e_287_399 : Ev X 287 399 ls st h Q ↔ Ev X 287 400 ls (vi 2 :: st) h Q := R_kc rfl (Or.inl ⟨Or.inl rfl, by decide⟩)
set_option maxRecDepth 20000 in
theorem e_287_400 {x y : Int} : Ev X 287 400 ls (vi y :: vi x :: st) h Q ↔ ((inR (x + y)) ∧ Ev X 287 401 ls (vi (x + y) :: st) h Q) := R_add rfl
set_option maxRecDepth 20000 in
theorem e_287_401 {x : Nat} {j : Int} : Ev X 287 401 ls (vi j :: vr x :: st) h Q ↔ (((X.1 x = 13 ∨ X.1 x = 20) ∧ 0 ≤ j ∧ j < X.2.1 x) ∧ Ev X 287 402 ls (vi (h.1 x j.toNat) :: st) h Q) := R_ia rfl
set_option maxRecDepth 20000 in
theorem e_287_402 : Ev X 287 402 ls st h Q ↔ onR (gl ls 0) (fun z => Ev X 287 403 ls (vr z :: st) h Q) := R_al rfl (Or.inl rfl)
set_option maxRecDepth 20000 in
theorem e_287_403 : Ev X 287 403 ls st h Q ↔ onI (gl ls 3) (fun z => Ev X 287 404 ls (vi z :: st) h Q) := R_il rfl (Or.inl rfl)
set_option maxRecDepth 20000 in
theorem e_287_404 : Ev X 287 404 ls st h Q ↔ Ev X 287 405 ls (vi 3 :: st) h Q := R_kc rfl (Or.inl ⟨Or.inl rfl, by decide⟩)
set_option maxRecDepth 20000 in
theorem e_287_405 {x y : Int} : Ev X 287 405 ls (vi y :: vi x :: st) h Q ↔ ((inR (x + y)) ∧ Ev X 287 406 ls (vi (x + y) :: st) h Q) := R_add rfl
set_option maxRecDepth 20000 in
theorem e_287_406 {x : Nat} {j : Int} : Ev X 287 406 ls (vi j :: vr x :: st) h Q ↔ (((X.1 x = 13 ∨ X.1 x = 20) ∧ 0 ≤ j ∧ j < X.2.1 x) ∧ Ev X 287 407 ls (vi (h.1 x j.toNat) :: st) h Q) := R_ia rfl
set_option maxRecDepth 20000 in
theorem e_287_407 {rest : List xV} {a0 : Int} {a1 : Int} {a2 : Int} {o : Nat} : Ev X 287 407 ls ((vi a2) :: (vi a1) :: (vi a0) :: vr o :: rest) h Q ↔ ((X.1 o = 11 ∧ wd rest ≤ 8) ∧ Cl X 114 [vr o, vi a0, vi a1, vi a2] h (fun r h2 => Ev X 287 408 ls (r.toList ++ rest) h2 Q)) := R_cv (x := o) (as := [vi a0, vi a1, vi a2]) (k2 := 114) rfl rfl (Nat.le_of_ble_eq_true rfl)
set_option maxRecDepth 20000 in
theorem e_287_408 : Ev X 287 408 ls st h Q ↔ onR (gl ls 2) (fun z => Ev X 287 409 ls (vr z :: st) h Q) := R_al rfl (Or.inl rfl)
set_option maxRecDepth 20000 in
theorem e_287_409 : Ev X 287 409 ls st h Q ↔ onR (gl ls 0) (fun z => Ev X 287 410 ls (vr z :: st) h Q) := R_al rfl (Or.inl rfl)
set_option maxRecDepth 20000 in
theorem e_287_410 : Ev X 287 410 ls st h Q ↔ onI (gl ls 3) (fun z => Ev X 287 411 ls (vi z :: st) h Q) := R_il rfl (Or.inl rfl)
set_option maxRecDepth 20000 in
theorem e_287_411 : Ev X 287 411 ls st h Q ↔ Ev X 287 412 ls (vi 1 :: st) h Q := R_kc rfl (Or.inl ⟨Or.inl rfl, by decide⟩)
set_option maxRecDepth 20000 in
theorem e_287_412 {x y : Int} : Ev X 287 412 ls (vi y :: vi x :: st) h Q ↔ ((inR (x + y)) ∧ Ev X 287 413 ls (vi (x + y) :: st) h Q) := R_add rfl
set_option maxRecDepth 20000 in
theorem e_287_413 {x : Nat} {j : Int} : Ev X 287 413 ls (vi j :: vr x :: st) h Q ↔ (((X.1 x = 13 ∨ X.1 x = 20) ∧ 0 ≤ j ∧ j < X.2.1 x) ∧ Ev X 287 414 ls (vi (h.1 x j.toNat) :: st) h Q) := R_ia rfl
set_option maxRecDepth 20000 in
theorem e_287_414 : Ev X 287 414 ls st h Q ↔ onR (gl ls 0) (fun z => Ev X 287 415 ls (vr z :: st) h Q) := R_al rfl (Or.inl rfl)
set_option maxRecDepth 20000 in
theorem e_287_415 : Ev X 287 415 ls st h Q ↔ onI (gl ls 3) (fun z => Ev X 287 416 ls (vi z :: st) h Q) := R_il rfl (Or.inl rfl)
set_option maxRecDepth 20000 in
theorem e_287_416 : Ev X 287 416 ls st h Q ↔ Ev X 287 417 ls (vi 2 :: st) h Q := R_kc rfl (Or.inl ⟨Or.inl rfl, by decide⟩)
set_option maxRecDepth 20000 in
theorem e_287_417 {x y : Int} : Ev X 287 417 ls (vi y :: vi x :: st) h Q ↔ ((inR (x + y)) ∧ Ev X 287 418 ls (vi (x + y) :: st) h Q) := R_add rfl
set_option maxRecDepth 20000 in
theorem e_287_418 {x : Nat} {j : Int} : Ev X 287 418 ls (vi j :: vr x :: st) h Q ↔ (((X.1 x = 13 ∨ X.1 x = 20) ∧ 0 ≤ j ∧ j < X.2.1 x) ∧ Ev X 287 419 ls (vi (h.1 x j.toNat) :: st) h Q) := R_ia rfl
set_option maxRecDepth 20000 in
theorem e_287_419 : Ev X 287 419 ls st h Q ↔ onR (gl ls 0) (fun z => Ev X 287 420 ls (vr z :: st) h Q) := R_al rfl (Or.inl rfl)
set_option maxRecDepth 20000 in
theorem e_287_420 : Ev X 287 420 ls st h Q ↔ onI (gl ls 3) (fun z => Ev X 287 421 ls (vi z :: st) h Q) := R_il rfl (Or.inl rfl)
set_option maxRecDepth 20000 in
theorem e_287_421 : Ev X 287 421 ls st h Q ↔ Ev X 287 422 ls (vi 3 :: st) h Q := R_kc rfl (Or.inl ⟨Or.inl rfl, by decide⟩)
set_option maxRecDepth 20000 in
theorem e_287_422 {x y : Int} : Ev X 287 422 ls (vi y :: vi x :: st) h Q ↔ ((inR (x + y)) ∧ Ev X 287 423 ls (vi (x + y) :: st) h Q) := R_add rfl
set_option maxRecDepth 20000 in
theorem e_287_423 {x : Nat} {j : Int} : Ev X 287 423 ls (vi j :: vr x :: st) h Q ↔ (((X.1 x = 13 ∨ X.1 x = 20) ∧ 0 ≤ j ∧ j < X.2.1 x) ∧ Ev X 287 424 ls (vi (h.1 x j.toNat) :: st) h Q) := R_ia rfl
set_option maxRecDepth 20000 in
theorem e_287_424 {rest : List xV} {a0 : Int} {a1 : Int} {a2 : Int} {o : Nat} : Ev X 287 424 ls ((vi a2) :: (vi a1) :: (vi a0) :: vr o :: rest) h Q ↔ ((X.1 o = 12 ∧ wd rest ≤ 8) ∧ Cl X 195 [vr o, vi a0, vi a1, vi a2] h (fun r h2 => Ev X 287 425 ls (r.toList ++ rest) h2 Q)) := R_cv (x := o) (as := [vi a0, vi a1, vi a2]) (k2 := 195) rfl rfl (Nat.le_of_ble_eq_true rfl)
set_option maxRecDepth 20000 in
theorem e_287_425 {x y : Int} : Ev X 287 425 ls (vi y :: vi x :: st) h Q ↔ (if x = y then Ev X 287 899 ls st h Q else Ev X 287 426 ls st h Q) := R_iceq rfl
set_option maxRecDepth 20000 in
theorem e_287_426 : Ev X 287 426 ls st h Q ↔ Ev X 287 427 ls (vi 0 :: st) h Q := R_kc rfl (Or.inl ⟨Or.inl rfl, by decide⟩)
set_option maxRecDepth 20000 in
theorem e_287_427 {z : Int} : Ev X 287 427 ls [vi z] h Q ↔ ((z = 0 ∨ z = 1) ∧ Q (some (vi z)) h) := R_zr rfl
set_option maxRecDepth 20000 in
theorem e_287_428 : Ev X 287 428 ls st h Q ↔ onR (gl ls 1) (fun z => Ev X 287 429 ls (vr z :: st) h Q) := R_al rfl (Or.inl rfl)
set_option maxRecDepth 20000 in
theorem e_287_429 : Ev X 287 429 ls st h Q ↔ onR (gl ls 0) (fun z => Ev X 287 430 ls (vr z :: st) h Q) := R_al rfl (Or.inl rfl)
set_option maxRecDepth 20000 in
theorem e_287_430 : Ev X 287 430 ls st h Q ↔ onI (gl ls 3) (fun z => Ev X 287 431 ls (vi z :: st) h Q) := R_il rfl (Or.inl rfl)
set_option maxRecDepth 20000 in
theorem e_287_431 : Ev X 287 431 ls st h Q ↔ Ev X 287 432 ls (vi 1 :: st) h Q := R_kc rfl (Or.inl ⟨Or.inl rfl, by decide⟩)
set_option maxRecDepth 20000 in
theorem e_287_432 {x y : Int} : Ev X 287 432 ls (vi y :: vi x :: st) h Q ↔ ((inR (x + y)) ∧ Ev X 287 433 ls (vi (x + y) :: st) h Q) := R_add rfl
set_option maxRecDepth 20000 in
theorem e_287_433 {x : Nat} {j : Int} : Ev X 287 433 ls (vi j :: vr x :: st) h Q ↔ (((X.1 x = 13 ∨ X.1 x = 20) ∧ 0 ≤ j ∧ j < X.2.1 x) ∧ Ev X 287 434 ls (vi (h.1 x j.toNat) :: st) h Q) := R_ia rfl
set_option maxRecDepth 20000 in
theorem e_287_434 {rest : List xV} {a0 : Int} {o : Nat} : Ev X 287 434 ls ((vi a0) :: vr o :: rest) h Q ↔ ((X.1 o = 11 ∧ wd rest ≤ 8) ∧ Cl X 115 [vr o, vi a0] h (fun r h2 => Ev X 287 435 ls (r.toList ++ rest) h2 Q)) := R_cv (x := o) (as := [vi a0]) (k2 := 115) rfl rfl (Nat.le_of_ble_eq_true rfl)
set_option maxRecDepth 20000 in
theorem e_287_435 : Ev X 287 435 ls st h Q ↔ onR (gl ls 2) (fun z => Ev X 287 436 ls (vr z :: st) h Q) := R_al rfl (Or.inl rfl)
set_option maxRecDepth 20000 in
theorem e_287_436 : Ev X 287 436 ls st h Q ↔ onR (gl ls 0) (fun z => Ev X 287 437 ls (vr z :: st) h Q) := R_al rfl (Or.inl rfl)
set_option maxRecDepth 20000 in
theorem e_287_437 : Ev X 287 437 ls st h Q ↔ onI (gl ls 3) (fun z => Ev X 287 438 ls (vi z :: st) h Q) := R_il rfl (Or.inl rfl)
set_option maxRecDepth 20000 in
theorem e_287_438 : Ev X 287 438 ls st h Q ↔ Ev X 287 439 ls (vi 1 :: st) h Q := R_kc rfl (Or.inl ⟨Or.inl rfl, by decide⟩)
set_option maxRecDepth 20000 in
theorem e_287_439 {x y : Int} : Ev X 287 439 ls (vi y :: vi x :: st) h Q ↔ ((inR (x + y)) ∧ Ev X 287 440 ls (vi (x + y) :: st) h Q) := R_add rfl
set_option maxRecDepth 20000 in
theorem e_287_440 {x : Nat} {j : Int} : Ev X 287 440 ls (vi j :: vr x :: st) h Q ↔ (((X.1 x = 13 ∨ X.1 x = 20) ∧ 0 ≤ j ∧ j < X.2.1 x) ∧ Ev X 287 441 ls (vi (h.1 x j.toNat) :: st) h Q) := R_ia rfl
set_option maxRecDepth 20000 in
theorem e_287_441 {rest : List xV} {a0 : Int} {o : Nat} : Ev X 287 441 ls ((vi a0) :: vr o :: rest) h Q ↔ ((X.1 o = 12 ∧ wd rest ≤ 8) ∧ Cl X 196 [vr o, vi a0] h (fun r h2 => Ev X 287 442 ls (r.toList ++ rest) h2 Q)) := R_cv (x := o) (as := [vi a0]) (k2 := 196) rfl rfl (Nat.le_of_ble_eq_true rfl)
set_option maxRecDepth 20000 in
theorem e_287_442 {x y : Int} : Ev X 287 442 ls (vi y :: vi x :: st) h Q ↔ (if x = y then Ev X 287 899 ls st h Q else Ev X 287 443 ls st h Q) := R_iceq rfl
set_option maxRecDepth 20000 in
theorem e_287_443 : Ev X 287 443 ls st h Q ↔ Ev X 287 444 ls (vi 0 :: st) h Q := R_kc rfl (Or.inl ⟨Or.inl rfl, by decide⟩)
set_option maxRecDepth 20000 in
theorem e_287_444 {z : Int} : Ev X 287 444 ls [vi z] h Q ↔ ((z = 0 ∨ z = 1) ∧ Q (some (vi z)) h) := R_zr rfl
set_option maxRecDepth 20000 in
theorem e_287_445 : Ev X 287 445 ls st h Q ↔ onR (gl ls 1) (fun z => Ev X 287 446 ls (vr z :: st) h Q) := R_al rfl (Or.inl rfl)
set_option maxRecDepth 20000 in
theorem e_287_446 : Ev X 287 446 ls st h Q ↔ onR (gl ls 0) (fun z => Ev X 287 447 ls (vr z :: st) h Q) := R_al rfl (Or.inl rfl)
set_option maxRecDepth 20000 in
theorem e_287_447 : Ev X 287 447 ls st h Q ↔ onI (gl ls 3) (fun z => Ev X 287 448 ls (vi z :: st) h Q) := R_il rfl (Or.inl rfl)
set_option maxRecDepth 20000 in
theorem e_287_448 : Ev X 287 448 ls st h Q ↔ Ev X 287 449 ls (vi 1 :: st) h Q := R_kc rfl (Or.inl ⟨Or.inl rfl, by decide⟩)
set_option maxRecDepth 20000 in
theorem e_287_449 {x y : Int} : Ev X 287 449 ls (vi y :: vi x :: st) h Q ↔ ((inR (x + y)) ∧ Ev X 287 450 ls (vi (x + y) :: st) h Q) := R_add rfl
set_option maxRecDepth 20000 in
theorem e_287_450 {x : Nat} {j : Int} : Ev X 287 450 ls (vi j :: vr x :: st) h Q ↔ (((X.1 x = 13 ∨ X.1 x = 20) ∧ 0 ≤ j ∧ j < X.2.1 x) ∧ Ev X 287 451 ls (vi (h.1 x j.toNat) :: st) h Q) := R_ia rfl
set_option maxRecDepth 20000 in
theorem e_287_451 {rest : List xV} {a0 : Int} {o : Nat} : Ev X 287 451 ls ((vi a0) :: vr o :: rest) h Q ↔ ((X.1 o = 11 ∧ wd rest ≤ 8) ∧ Cl X 116 [vr o, vi a0] h (fun r h2 => Ev X 287 452 ls (r.toList ++ rest) h2 Q)) := R_cv (x := o) (as := [vi a0]) (k2 := 116) rfl rfl (Nat.le_of_ble_eq_true rfl)
set_option maxRecDepth 20000 in
theorem e_287_452 : Ev X 287 452 ls st h Q ↔ onR (gl ls 2) (fun z => Ev X 287 453 ls (vr z :: st) h Q) := R_al rfl (Or.inl rfl)
set_option maxRecDepth 20000 in
theorem e_287_453 : Ev X 287 453 ls st h Q ↔ onR (gl ls 0) (fun z => Ev X 287 454 ls (vr z :: st) h Q) := R_al rfl (Or.inl rfl)
set_option maxRecDepth 20000 in
theorem e_287_454 : Ev X 287 454 ls st h Q ↔ onI (gl ls 3) (fun z => Ev X 287 455 ls (vi z :: st) h Q) := R_il rfl (Or.inl rfl)
set_option maxRecDepth 20000 in
theorem e_287_455 : Ev X 287 455 ls st h Q ↔ Ev X 287 456 ls (vi 1 :: st) h Q := R_kc rfl (Or.inl ⟨Or.inl rfl, by decide⟩)
set_option maxRecDepth 20000 in
theorem e_287_456 {x y : Int} : Ev X 287 456 ls (vi y :: vi x :: st) h Q ↔ ((inR (x + y)) ∧ Ev X 287 457 ls (vi (x + y) :: st) h Q) := R_add rfl
set_option maxRecDepth 20000 in
theorem e_287_457 {x : Nat} {j : Int} : Ev X 287 457 ls (vi j :: vr x :: st) h Q ↔ (((X.1 x = 13 ∨ X.1 x = 20) ∧ 0 ≤ j ∧ j < X.2.1 x) ∧ Ev X 287 458 ls (vi (h.1 x j.toNat) :: st) h Q) := R_ia rfl
set_option maxRecDepth 20000 in
theorem e_287_458 {rest : List xV} {a0 : Int} {o : Nat} : Ev X 287 458 ls ((vi a0) :: vr o :: rest) h Q ↔ ((X.1 o = 12 ∧ wd rest ≤ 8) ∧ Cl X 225 [vr o, vi a0] h (fun r h2 => Ev X 287 459 ls (r.toList ++ rest) h2 Q)) := R_cv (x := o) (as := [vi a0]) (k2 := 225) rfl rfl (Nat.le_of_ble_eq_true rfl)
set_option maxRecDepth 20000 in
theorem e_287_459 {x y : Int} : Ev X 287 459 ls (vi y :: vi x :: st) h Q ↔ (if x = y then Ev X 287 899 ls st h Q else Ev X 287 460 ls st h Q) := R_iceq rfl
set_option maxRecDepth 20000 in
theorem e_287_460 : Ev X 287 460 ls st h Q ↔ Ev X 287 461 ls (vi 0 :: st) h Q := R_kc rfl (Or.inl ⟨Or.inl rfl, by decide⟩)
set_option maxRecDepth 20000 in
theorem e_287_461 {z : Int} : Ev X 287 461 ls [vi z] h Q ↔ ((z = 0 ∨ z = 1) ∧ Q (some (vi z)) h) := R_zr rfl
set_option maxRecDepth 20000 in
theorem e_287_462 : Ev X 287 462 ls st h Q ↔ onR (gl ls 1) (fun z => Ev X 287 463 ls (vr z :: st) h Q) := R_al rfl (Or.inl rfl)
set_option maxRecDepth 20000 in
theorem e_287_463 : Ev X 287 463 ls st h Q ↔ onR (gl ls 0) (fun z => Ev X 287 464 ls (vr z :: st) h Q) := R_al rfl (Or.inl rfl)
set_option maxRecDepth 20000 in
theorem e_287_464 : Ev X 287 464 ls st h Q ↔ onI (gl ls 3) (fun z => Ev X 287 465 ls (vi z :: st) h Q) := R_il rfl (Or.inl rfl)
set_option maxRecDepth 20000 in
theorem e_287_465 : Ev X 287 465 ls st h Q ↔ Ev X 287 466 ls (vi 1 :: st) h Q := R_kc rfl (Or.inl ⟨Or.inl rfl, by decide⟩)
set_option maxRecDepth 20000 in
theorem e_287_466 {x y : Int} : Ev X 287 466 ls (vi y :: vi x :: st) h Q ↔ ((inR (x + y)) ∧ Ev X 287 467 ls (vi (x + y) :: st) h Q) := R_add rfl
set_option maxRecDepth 20000 in
theorem e_287_467 {x : Nat} {j : Int} : Ev X 287 467 ls (vi j :: vr x :: st) h Q ↔ (((X.1 x = 13 ∨ X.1 x = 20) ∧ 0 ≤ j ∧ j < X.2.1 x) ∧ Ev X 287 468 ls (vi (h.1 x j.toNat) :: st) h Q) := R_ia rfl
set_option maxRecDepth 20000 in
theorem e_287_468 {rest : List xV} {a0 : Int} {o : Nat} : Ev X 287 468 ls ((vi a0) :: vr o :: rest) h Q ↔ ((X.1 o = 11 ∧ wd rest ≤ 8) ∧ Cl X 117 [vr o, vi a0] h (fun r h2 => Ev X 287 469 ls (r.toList ++ rest) h2 Q)) := R_cv (x := o) (as := [vi a0]) (k2 := 117) rfl rfl (Nat.le_of_ble_eq_true rfl)
set_option maxRecDepth 20000 in
theorem e_287_469 : Ev X 287 469 ls st h Q ↔ onR (gl ls 2) (fun z => Ev X 287 470 ls (vr z :: st) h Q) := R_al rfl (Or.inl rfl)
set_option maxRecDepth 20000 in
theorem e_287_470 : Ev X 287 470 ls st h Q ↔ onR (gl ls 0) (fun z => Ev X 287 471 ls (vr z :: st) h Q) := R_al rfl (Or.inl rfl)
set_option maxRecDepth 20000 in
theorem e_287_471 : Ev X 287 471 ls st h Q ↔ onI (gl ls 3) (fun z => Ev X 287 472 ls (vi z :: st) h Q) := R_il rfl (Or.inl rfl)
set_option maxRecDepth 20000 in
theorem e_287_472 : Ev X 287 472 ls st h Q ↔ Ev X 287 473 ls (vi 1 :: st) h Q := R_kc rfl (Or.inl ⟨Or.inl rfl, by decide⟩)
set_option maxRecDepth 20000 in
theorem e_287_473 {x y : Int} : Ev X 287 473 ls (vi y :: vi x :: st) h Q ↔ ((inR (x + y)) ∧ Ev X 287 474 ls (vi (x + y) :: st) h Q) := R_add rfl
set_option maxRecDepth 20000 in
theorem e_287_474 {x : Nat} {j : Int} : Ev X 287 474 ls (vi j :: vr x :: st) h Q ↔ (((X.1 x = 13 ∨ X.1 x = 20) ∧ 0 ≤ j ∧ j < X.2.1 x) ∧ Ev X 287 475 ls (vi (h.1 x j.toNat) :: st) h Q) := R_ia rfl
set_option maxRecDepth 20000 in
theorem e_287_475 {rest : List xV} {a0 : Int} {o : Nat} : Ev X 287 475 ls ((vi a0) :: vr o :: rest) h Q ↔ ((X.1 o = 12 ∧ wd rest ≤ 8) ∧ Cl X 229 [vr o, vi a0] h (fun r h2 => Ev X 287 476 ls (r.toList ++ rest) h2 Q)) := R_cv (x := o) (as := [vi a0]) (k2 := 229) rfl rfl (Nat.le_of_ble_eq_true rfl)
set_option maxRecDepth 20000 in
theorem e_287_476 {x y : Int} : Ev X 287 476 ls (vi y :: vi x :: st) h Q ↔ (if x = y then Ev X 287 899 ls st h Q else Ev X 287 477 ls st h Q) := R_iceq rfl
set_option maxRecDepth 20000 in
theorem e_287_477 : Ev X 287 477 ls st h Q ↔ Ev X 287 478 ls (vi 0 :: st) h Q := R_kc rfl (Or.inl ⟨Or.inl rfl, by decide⟩)
set_option maxRecDepth 20000 in
theorem e_287_478 {z : Int} : Ev X 287 478 ls [vi z] h Q ↔ ((z = 0 ∨ z = 1) ∧ Q (some (vi z)) h) := R_zr rfl
set_option maxRecDepth 20000 in
theorem e_287_479 : Ev X 287 479 ls st h Q ↔ onR (gl ls 1) (fun z => Ev X 287 480 ls (vr z :: st) h Q) := R_al rfl (Or.inl rfl)
set_option maxRecDepth 20000 in
theorem e_287_480 {rest : List xV}  {o : Nat} : Ev X 287 480 ls (vr o :: rest) h Q ↔ ((X.1 o = 11 ∧ wd rest ≤ 8) ∧ Cl X 118 [vr o] h (fun r h2 => Ev X 287 481 ls (r.toList ++ rest) h2 Q)) := R_cv (x := o) (as := []) (k2 := 118) rfl rfl (Nat.le_of_ble_eq_true rfl)
set_option maxRecDepth 20000 in
theorem e_287_481 : Ev X 287 481 ls st h Q ↔ onR (gl ls 2) (fun z => Ev X 287 482 ls (vr z :: st) h Q) := R_al rfl (Or.inl rfl)
set_option maxRecDepth 20000 in
theorem e_287_482 {rest : List xV}  {o : Nat} : Ev X 287 482 ls (vr o :: rest) h Q ↔ ((X.1 o = 12 ∧ wd rest ≤ 8) ∧ Cl X 244 [vr o] h (fun r h2 => Ev X 287 483 ls (r.toList ++ rest) h2 Q)) := R_cv (x := o) (as := []) (k2 := 244) rfl rfl (Nat.le_of_ble_eq_true rfl)
set_option maxRecDepth 20000 in
theorem e_287_483 {x y : Int} : Ev X 287 483 ls (vi y :: vi x :: st) h Q ↔ (if x = y then Ev X 287 899 ls st h Q else Ev X 287 484 ls st h Q) := R_iceq rfl
set_option maxRecDepth 20000 in
theorem e_287_484 : Ev X 287 484 ls st h Q ↔ Ev X 287 485 ls (vi 0 :: st) h Q := R_kc rfl (Or.inl ⟨Or.inl rfl, by decide⟩)
set_option maxRecDepth 20000 in
theorem e_287_485 {z : Int} : Ev X 287 485 ls [vi z] h Q ↔ ((z = 0 ∨ z = 1) ∧ Q (some (vi z)) h) := R_zr rfl
set_option maxRecDepth 20000 in
theorem e_287_486 : Ev X 287 486 ls st h Q ↔ onR (gl ls 1) (fun z => Ev X 287 487 ls (vr z :: st) h Q) := R_al rfl (Or.inl rfl)
set_option maxRecDepth 20000 in
theorem e_287_487 : Ev X 287 487 ls st h Q ↔ onR (gl ls 0) (fun z => Ev X 287 488 ls (vr z :: st) h Q) := R_al rfl (Or.inl rfl)
set_option maxRecDepth 20000 in
theorem e_287_488 : Ev X 287 488 ls st h Q ↔ onI (gl ls 3) (fun z => Ev X 287 489 ls (vi z :: st) h Q) := R_il rfl (Or.inl rfl)
set_option maxRecDepth 20000 in
theorem e_287_489 : Ev X 287 489 ls st h Q ↔ Ev X 287 490 ls (vi 1 :: st) h Q := R_kc rfl (Or.inl ⟨Or.inl rfl, by decide⟩)
set_option maxRecDepth 20000 in
theorem e_287_490 {x y : Int} : Ev X 287 490 ls (vi y :: vi x :: st) h Q ↔ ((inR (x + y)) ∧ Ev X 287 491 ls (vi (x + y) :: st) h Q) := R_add rfl
set_option maxRecDepth 20000 in
theorem e_287_491 {x : Nat} {j : Int} : Ev X 287 491 ls (vi j :: vr x :: st) h Q ↔ (((X.1 x = 13 ∨ X.1 x = 20) ∧ 0 ≤ j ∧ j < X.2.1 x) ∧ Ev X 287 492 ls (vi (h.1 x j.toNat) :: st) h Q) := R_ia rfl
set_option maxRecDepth 20000 in
theorem e_287_492 {rest : List xV} {a0 : Int} {o : Nat} : Ev X 287 492 ls ((vi a0) :: vr o :: rest) h Q ↔ ((X.1 o = 11 ∧ wd rest ≤ 8) ∧ Cl X 119 [vr o, vi a0] h (fun r h2 => Ev X 287 493 ls (r.toList ++ rest) h2 Q)) := R_cv (x := o) (as := [vi a0]) (k2 := 119) rfl rfl (Nat.le_of_ble_eq_true rfl)
set_option maxRecDepth 20000 in
theorem e_287_493 : Ev X 287 493 ls st h Q ↔ onR (gl ls 2) (fun z => Ev X 287 494 ls (vr z :: st) h Q) := R_al rfl (Or.inl rfl)
set_option maxRecDepth 20000 in
theorem e_287_494 : Ev X 287 494 ls st h Q ↔ onR (gl ls 0) (fun z => Ev X 287 495 ls (vr z :: st) h Q) := R_al rfl (Or.inl rfl)
set_option maxRecDepth 20000 in
theorem e_287_495 : Ev X 287 495 ls st h Q ↔ onI (gl ls 3) (fun z => Ev X 287 496 ls (vi z :: st) h Q) := R_il rfl (Or.inl rfl)
set_option maxRecDepth 20000 in
theorem e_287_496 : Ev X 287 496 ls st h Q ↔ Ev X 287 497 ls (vi 1 :: st) h Q := R_kc rfl (Or.inl ⟨Or.inl rfl, by decide⟩)
set_option maxRecDepth 20000 in
theorem e_287_497 {x y : Int} : Ev X 287 497 ls (vi y :: vi x :: st) h Q ↔ ((inR (x + y)) ∧ Ev X 287 498 ls (vi (x + y) :: st) h Q) := R_add rfl
set_option maxRecDepth 20000 in
theorem e_287_498 {x : Nat} {j : Int} : Ev X 287 498 ls (vi j :: vr x :: st) h Q ↔ (((X.1 x = 13 ∨ X.1 x = 20) ∧ 0 ≤ j ∧ j < X.2.1 x) ∧ Ev X 287 499 ls (vi (h.1 x j.toNat) :: st) h Q) := R_ia rfl
set_option maxRecDepth 20000 in
theorem e_287_499 {rest : List xV} {a0 : Int} {o : Nat} : Ev X 287 499 ls ((vi a0) :: vr o :: rest) h Q ↔ ((X.1 o = 12 ∧ wd rest ≤ 8) ∧ Cl X 252 [vr o, vi a0] h (fun r h2 => Ev X 287 500 ls (r.toList ++ rest) h2 Q)) := R_cv (x := o) (as := [vi a0]) (k2 := 252) rfl rfl (Nat.le_of_ble_eq_true rfl)
set_option maxRecDepth 20000 in
theorem e_287_500 {x y : Int} : Ev X 287 500 ls (vi y :: vi x :: st) h Q ↔ (if x = y then Ev X 287 899 ls st h Q else Ev X 287 501 ls st h Q) := R_iceq rfl
set_option maxRecDepth 20000 in
theorem e_287_501 : Ev X 287 501 ls st h Q ↔ Ev X 287 502 ls (vi 0 :: st) h Q := R_kc rfl (Or.inl ⟨Or.inl rfl, by decide⟩)
set_option maxRecDepth 20000 in
theorem e_287_502 {z : Int} : Ev X 287 502 ls [vi z] h Q ↔ ((z = 0 ∨ z = 1) ∧ Q (some (vi z)) h) := R_zr rfl
set_option maxRecDepth 20000 in
theorem e_287_503 : Ev X 287 503 ls st h Q ↔ onR (gl ls 1) (fun z => Ev X 287 504 ls (vr z :: st) h Q) := R_al rfl (Or.inl rfl)
set_option maxRecDepth 20000 in
theorem e_287_504 {rest : List xV}  {o : Nat} : Ev X 287 504 ls (vr o :: rest) h Q ↔ ((X.1 o = 11 ∧ wd rest ≤ 8) ∧ Cl X 120 [vr o] h (fun r h2 => Ev X 287 505 ls (r.toList ++ rest) h2 Q)) := R_cv (x := o) (as := []) (k2 := 120) rfl rfl (Nat.le_of_ble_eq_true rfl)
set_option maxRecDepth 20000 in
theorem e_287_505 : Ev X 287 505 ls st h Q ↔ onR (gl ls 2) (fun z => Ev X 287 506 ls (vr z :: st) h Q) := R_al rfl (Or.inl rfl)
set_option maxRecDepth 20000 in
theorem e_287_506 {rest : List xV}  {o : Nat} : Ev X 287 506 ls (vr o :: rest) h Q ↔ ((X.1 o = 12 ∧ wd rest ≤ 8) ∧ Cl X 255 [vr o] h (fun r h2 => Ev X 287 507 ls (r.toList ++ rest) h2 Q)) := R_cv (x := o) (as := []) (k2 := 255) rfl rfl (Nat.le_of_ble_eq_true rfl)
set_option maxRecDepth 20000 in
theorem e_287_507 {x y : Int} : Ev X 287 507 ls (vi y :: vi x :: st) h Q ↔ (if x = y then Ev X 287 899 ls st h Q else Ev X 287 508 ls st h Q) := R_iceq rfl
set_option maxRecDepth 20000 in
theorem e_287_508 : Ev X 287 508 ls st h Q ↔ Ev X 287 509 ls (vi 0 :: st) h Q := R_kc rfl (Or.inl ⟨Or.inl rfl, by decide⟩)
set_option maxRecDepth 20000 in
theorem e_287_509 {z : Int} : Ev X 287 509 ls [vi z] h Q ↔ ((z = 0 ∨ z = 1) ∧ Q (some (vi z)) h) := R_zr rfl
set_option maxRecDepth 20000 in
theorem e_287_510 : Ev X 287 510 ls st h Q ↔ onR (gl ls 1) (fun z => Ev X 287 511 ls (vr z :: st) h Q) := R_al rfl (Or.inl rfl)
set_option maxRecDepth 20000 in
theorem e_287_511 {rest : List xV}  {o : Nat} : Ev X 287 511 ls (vr o :: rest) h Q ↔ ((X.1 o = 11 ∧ wd rest ≤ 8) ∧ Cl X 121 [vr o] h (fun r h2 => Ev X 287 512 ls (r.toList ++ rest) h2 Q)) := R_cv (x := o) (as := []) (k2 := 121) rfl rfl (Nat.le_of_ble_eq_true rfl)
set_option maxRecDepth 20000 in
theorem e_287_512 : Ev X 287 512 ls st h Q ↔ onR (gl ls 2) (fun z => Ev X 287 513 ls (vr z :: st) h Q) := R_al rfl (Or.inl rfl)
set_option maxRecDepth 20000 in
theorem e_287_513 {rest : List xV}  {o : Nat} : Ev X 287 513 ls (vr o :: rest) h Q ↔ ((X.1 o = 12 ∧ wd rest ≤ 8) ∧ Cl X 257 [vr o] h (fun r h2 => Ev X 287 514 ls (r.toList ++ rest) h2 Q)) := R_cv (x := o) (as := []) (k2 := 257) rfl rfl (Nat.le_of_ble_eq_true rfl)
set_option maxRecDepth 20000 in
theorem e_287_514 {x y : Int} : Ev X 287 514 ls (vi y :: vi x :: st) h Q ↔ (if x = y then Ev X 287 899 ls st h Q else Ev X 287 515 ls st h Q) := R_iceq rfl
set_option maxRecDepth 20000 in
theorem e_287_515 : Ev X 287 515 ls st h Q ↔ Ev X 287 516 ls (vi 0 :: st) h Q := R_kc rfl (Or.inl ⟨Or.inl rfl, by decide⟩)
set_option maxRecDepth 20000 in
theorem e_287_516 {z : Int} : Ev X 287 516 ls [vi z] h Q ↔ ((z = 0 ∨ z = 1) ∧ Q (some (vi z)) h) := R_zr rfl
set_option maxRecDepth 20000 in
theorem e_287_517 : Ev X 287 517 ls st h Q ↔ onR (gl ls 1) (fun z => Ev X 287 518 ls (vr z :: st) h Q) := R_al rfl (Or.inl rfl)
set_option maxRecDepth 20000 in
theorem e_287_518 {rest : List xV}  {o : Nat} : Ev X 287 518 ls (vr o :: rest) h Q ↔ ((X.1 o = 11 ∧ wd rest ≤ 8) ∧ Cl X 122 [vr o] h (fun r h2 => Ev X 287 519 ls (r.toList ++ rest) h2 Q)) := R_cv (x := o) (as := []) (k2 := 122) rfl rfl (Nat.le_of_ble_eq_true rfl)
set_option maxRecDepth 20000 in
theorem e_287_519 : Ev X 287 519 ls st h Q ↔ onR (gl ls 2) (fun z => Ev X 287 520 ls (vr z :: st) h Q) := R_al rfl (Or.inl rfl)
set_option maxRecDepth 20000 in
theorem e_287_520 {rest : List xV}  {o : Nat} : Ev X 287 520 ls (vr o :: rest) h Q ↔ ((X.1 o = 12 ∧ wd rest ≤ 8) ∧ Cl X 262 [vr o] h (fun r h2 => Ev X 287 521 ls (r.toList ++ rest) h2 Q)) := R_cv (x := o) (as := []) (k2 := 262) rfl rfl (Nat.le_of_ble_eq_true rfl)
set_option maxRecDepth 20000 in
theorem e_287_521 {x y : Int} : Ev X 287 521 ls (vi y :: vi x :: st) h Q ↔ (if x = y then Ev X 287 899 ls st h Q else Ev X 287 522 ls st h Q) := R_iceq rfl
set_option maxRecDepth 20000 in
theorem e_287_522 : Ev X 287 522 ls st h Q ↔ Ev X 287 523 ls (vi 0 :: st) h Q := R_kc rfl (Or.inl ⟨Or.inl rfl, by decide⟩)
set_option maxRecDepth 20000 in
theorem e_287_523 {z : Int} : Ev X 287 523 ls [vi z] h Q ↔ ((z = 0 ∨ z = 1) ∧ Q (some (vi z)) h) := R_zr rfl
set_option maxRecDepth 20000 in
theorem e_287_524 : Ev X 287 524 ls st h Q ↔ onR (gl ls 1) (fun z => Ev X 287 525 ls (vr z :: st) h Q) := R_al rfl (Or.inl rfl)
set_option maxRecDepth 20000 in
theorem e_287_525 : Ev X 287 525 ls st h Q ↔ onR (gl ls 0) (fun z => Ev X 287 526 ls (vr z :: st) h Q) := R_al rfl (Or.inl rfl)
set_option maxRecDepth 20000 in
theorem e_287_526 : Ev X 287 526 ls st h Q ↔ onI (gl ls 3) (fun z => Ev X 287 527 ls (vi z :: st) h Q) := R_il rfl (Or.inl rfl)
set_option maxRecDepth 20000 in
theorem e_287_527 : Ev X 287 527 ls st h Q ↔ Ev X 287 528 ls (vi 1 :: st) h Q := R_kc rfl (Or.inl ⟨Or.inl rfl, by decide⟩)
set_option maxRecDepth 20000 in
theorem e_287_528 {x y : Int} : Ev X 287 528 ls (vi y :: vi x :: st) h Q ↔ ((inR (x + y)) ∧ Ev X 287 529 ls (vi (x + y) :: st) h Q) := R_add rfl
set_option maxRecDepth 20000 in
theorem e_287_529 {x : Nat} {j : Int} : Ev X 287 529 ls (vi j :: vr x :: st) h Q ↔ (((X.1 x = 13 ∨ X.1 x = 20) ∧ 0 ≤ j ∧ j < X.2.1 x) ∧ Ev X 287 530 ls (vi (h.1 x j.toNat) :: st) h Q) := R_ia rfl
set_option maxRecDepth 20000 in
theorem e_287_530 : Ev X 287 530 ls st h Q ↔ onR (gl ls 0) (fun z => Ev X 287 531 ls (vr z :: st) h Q) := R_al rfl (Or.inl rfl)
set_option maxRecDepth 20000 in
theorem e_287_531 : Ev X 287 531 ls st h Q ↔ onI (gl ls 3) (fun z => Ev X 287 532 ls (vi z :: st) h Q) := R_il rfl (Or.inl rfl)
set_option maxRecDepth 20000 in
theorem e_287_532 : Ev X 287 532 ls st h Q ↔ Ev X 287 533 ls (vi 2 :: st) h Q := R_kc rfl (Or.inl ⟨Or.inl rfl, by decide⟩)
set_option maxRecDepth 20000 in
theorem e_287_533 {x y : Int} : Ev X 287 533 ls (vi y :: vi x :: st) h Q ↔ ((inR (x + y)) ∧ Ev X 287 534 ls (vi (x + y) :: st) h Q) := R_add rfl
set_option maxRecDepth 20000 in
theorem e_287_534 {x : Nat} {j : Int} : Ev X 287 534 ls (vi j :: vr x :: st) h Q ↔ (((X.1 x = 13 ∨ X.1 x = 20) ∧ 0 ≤ j ∧ j < X.2.1 x) ∧ Ev X 287 535 ls (vi (h.1 x j.toNat) :: st) h Q) := R_ia rfl
set_option maxRecDepth 20000 in
theorem e_287_535 : Ev X 287 535 ls st h Q ↔ onR (gl ls 0) (fun z => Ev X 287 536 ls (vr z :: st) h Q) := R_al rfl (Or.inl rfl)
set_option maxRecDepth 20000 in
theorem e_287_536 : Ev X 287 536 ls st h Q ↔ onI (gl ls 3) (fun z => Ev X 287 537 ls (vi z :: st) h Q) := R_il rfl (Or.inl rfl)
set_option maxRecDepth 20000 in
theorem e_287_537 : Ev X 287 537 ls st h Q ↔ Ev X 287 538 ls (vi 3 :: st) h Q := R_kc rfl (Or.inl ⟨Or.inl rfl, by decide⟩)
set_option maxRecDepth 20000 in
theorem e_287_538 {x y : Int} : Ev X 287 538 ls (vi y :: vi x :: st) h Q ↔ ((inR (x + y)) ∧ Ev X 287 539 ls (vi (x + y) :: st) h Q) := R_add rfl
set_option maxRecDepth 20000 in
theorem e_287_539 {x : Nat} {j : Int} : Ev X 287 539 ls (vi j :: vr x :: st) h Q ↔ (((X.1 x = 13 ∨ X.1 x = 20) ∧ 0 ≤ j ∧ j < X.2.1 x) ∧ Ev X 287 540 ls (vi (h.1 x j.toNat) :: st) h Q) := R_ia rfl
set_option maxRecDepth 20000 in
theorem e_287_540 {rest : List xV} {a0 : Int} {a1 : Int} {a2 : Int} {o : Nat} : Ev X 287 540 ls ((vi a2) :: (vi a1) :: (vi a0) :: vr o :: rest) h Q ↔ ((X.1 o = 11 ∧ wd rest ≤ 8) ∧ Cl X 123 [vr o, vi a0, vi a1, vi a2] h (fun r h2 => Ev X 287 541 ls (r.toList ++ rest) h2 Q)) := R_cv (x := o) (as := [vi a0, vi a1, vi a2]) (k2 := 123) rfl rfl (Nat.le_of_ble_eq_true rfl)
set_option maxRecDepth 20000 in
theorem e_287_541 : Ev X 287 541 ls st h Q ↔ onR (gl ls 2) (fun z => Ev X 287 542 ls (vr z :: st) h Q) := R_al rfl (Or.inl rfl)
set_option maxRecDepth 20000 in
theorem e_287_542 : Ev X 287 542 ls st h Q ↔ onR (gl ls 0) (fun z => Ev X 287 543 ls (vr z :: st) h Q) := R_al rfl (Or.inl rfl)
set_option maxRecDepth 20000 in
theorem e_287_543 : Ev X 287 543 ls st h Q ↔ onI (gl ls 3) (fun z => Ev X 287 544 ls (vi z :: st) h Q) := R_il rfl (Or.inl rfl)
set_option maxRecDepth 20000 in
theorem e_287_544 : Ev X 287 544 ls st h Q ↔ Ev X 287 545 ls (vi 1 :: st) h Q := R_kc rfl (Or.inl ⟨Or.inl rfl, by decide⟩)
set_option maxRecDepth 20000 in
theorem e_287_545 {x y : Int} : Ev X 287 545 ls (vi y :: vi x :: st) h Q ↔ ((inR (x + y)) ∧ Ev X 287 546 ls (vi (x + y) :: st) h Q) := R_add rfl
set_option maxRecDepth 20000 in
theorem e_287_546 {x : Nat} {j : Int} : Ev X 287 546 ls (vi j :: vr x :: st) h Q ↔ (((X.1 x = 13 ∨ X.1 x = 20) ∧ 0 ≤ j ∧ j < X.2.1 x) ∧ Ev X 287 547 ls (vi (h.1 x j.toNat) :: st) h Q) := R_ia rfl
set_option maxRecDepth 20000 in
theorem e_287_547 : Ev X 287 547 ls st h Q ↔ onR (gl ls 0) (fun z => Ev X 287 548 ls (vr z :: st) h Q) := R_al rfl (Or.inl rfl)
set_option maxRecDepth 20000 in
theorem e_287_548 : Ev X 287 548 ls st h Q ↔ onI (gl ls 3) (fun z => Ev X 287 549 ls (vi z :: st) h Q) := R_il rfl (Or.inl rfl)
set_option maxRecDepth 20000 in
theorem e_287_549 : Ev X 287 549 ls st h Q ↔ Ev X 287 550 ls (vi 2 :: st) h Q := R_kc rfl (Or.inl ⟨Or.inl rfl, by decide⟩)
set_option maxRecDepth 20000 in
theorem e_287_550 {x y : Int} : Ev X 287 550 ls (vi y :: vi x :: st) h Q ↔ ((inR (x + y)) ∧ Ev X 287 551 ls (vi (x + y) :: st) h Q) := R_add rfl
set_option maxRecDepth 20000 in
theorem e_287_551 {x : Nat} {j : Int} : Ev X 287 551 ls (vi j :: vr x :: st) h Q ↔ (((X.1 x = 13 ∨ X.1 x = 20) ∧ 0 ≤ j ∧ j < X.2.1 x) ∧ Ev X 287 552 ls (vi (h.1 x j.toNat) :: st) h Q) := R_ia rfl
set_option maxRecDepth 20000 in
theorem e_287_552 : Ev X 287 552 ls st h Q ↔ onR (gl ls 0) (fun z => Ev X 287 553 ls (vr z :: st) h Q) := R_al rfl (Or.inl rfl)
set_option maxRecDepth 20000 in
theorem e_287_553 : Ev X 287 553 ls st h Q ↔ onI (gl ls 3) (fun z => Ev X 287 554 ls (vi z :: st) h Q) := R_il rfl (Or.inl rfl)
set_option maxRecDepth 20000 in
theorem e_287_554 : Ev X 287 554 ls st h Q ↔ Ev X 287 555 ls (vi 3 :: st) h Q := R_kc rfl (Or.inl ⟨Or.inl rfl, by decide⟩)
set_option maxRecDepth 20000 in
theorem e_287_555 {x y : Int} : Ev X 287 555 ls (vi y :: vi x :: st) h Q ↔ ((inR (x + y)) ∧ Ev X 287 556 ls (vi (x + y) :: st) h Q) := R_add rfl
set_option maxRecDepth 20000 in
theorem e_287_556 {x : Nat} {j : Int} : Ev X 287 556 ls (vi j :: vr x :: st) h Q ↔ (((X.1 x = 13 ∨ X.1 x = 20) ∧ 0 ≤ j ∧ j < X.2.1 x) ∧ Ev X 287 557 ls (vi (h.1 x j.toNat) :: st) h Q) := R_ia rfl
set_option maxRecDepth 20000 in
theorem e_287_557 {rest : List xV} {a0 : Int} {a1 : Int} {a2 : Int} {o : Nat} : Ev X 287 557 ls ((vi a2) :: (vi a1) :: (vi a0) :: vr o :: rest) h Q ↔ ((X.1 o = 12 ∧ wd rest ≤ 8) ∧ Cl X 264 [vr o, vi a0, vi a1, vi a2] h (fun r h2 => Ev X 287 558 ls (r.toList ++ rest) h2 Q)) := R_cv (x := o) (as := [vi a0, vi a1, vi a2]) (k2 := 264) rfl rfl (Nat.le_of_ble_eq_true rfl)
set_option maxRecDepth 20000 in
theorem e_287_558 {x y : Int} : Ev X 287 558 ls (vi y :: vi x :: st) h Q ↔ (if x = y then Ev X 287 899 ls st h Q else Ev X 287 559 ls st h Q) := R_iceq rfl
set_option maxRecDepth 20000 in
theorem e_287_559 : Ev X 287 559 ls st h Q ↔ Ev X 287 560 ls (vi 0 :: st) h Q := R_kc rfl (Or.inl ⟨Or.inl rfl, by decide⟩)
set_option maxRecDepth 20000 in
theorem e_287_560 {z : Int} : Ev X 287 560 ls [vi z] h Q ↔ ((z = 0 ∨ z = 1) ∧ Q (some (vi z)) h) := R_zr rfl
set_option maxRecDepth 20000 in
theorem e_287_561 : Ev X 287 561 ls st h Q ↔ onR (gl ls 1) (fun z => Ev X 287 562 ls (vr z :: st) h Q) := R_al rfl (Or.inl rfl)
set_option maxRecDepth 20000 in
theorem e_287_562 {rest : List xV}  {o : Nat} : Ev X 287 562 ls (vr o :: rest) h Q ↔ ((X.1 o = 11 ∧ wd rest ≤ 8) ∧ Cl X 124 [vr o] h (fun r h2 => Ev X 287 563 ls (r.toList ++ rest) h2 Q)) := R_cv (x := o) (as := []) (k2 := 124) rfl rfl (Nat.le_of_ble_eq_true rfl)
set_option maxRecDepth 20000 in
theorem e_287_563 : Ev X 287 563 ls st h Q ↔ onR (gl ls 2) (fun z => Ev X 287 564 ls (vr z :: st) h Q) := R_al rfl (Or.inl rfl)
set_option maxRecDepth 20000 in
theorem e_287_564 {rest : List xV}  {o : Nat} : Ev X 287 564 ls (vr o :: rest) h Q ↔ ((X.1 o = 12 ∧ wd rest ≤ 8) ∧ Cl X 157 [vr o] h (fun r h2 => Ev X 287 565 ls (r.toList ++ rest) h2 Q)) := R_cv (x := o) (as := []) (k2 := 157) rfl rfl (Nat.le_of_ble_eq_true rfl)
set_option maxRecDepth 20000 in
theorem e_287_565 {x y : Int} : Ev X 287 565 ls (vi y :: vi x :: st) h Q ↔ (if x = y then Ev X 287 899 ls st h Q else Ev X 287 566 ls st h Q) := R_iceq rfl
set_option maxRecDepth 20000 in
theorem e_287_566 : Ev X 287 566 ls st h Q ↔ Ev X 287 567 ls (vi 0 :: st) h Q := R_kc rfl (Or.inl ⟨Or.inl rfl, by decide⟩)
set_option maxRecDepth 20000 in
theorem e_287_567 {z : Int} : Ev X 287 567 ls [vi z] h Q ↔ ((z = 0 ∨ z = 1) ∧ Q (some (vi z)) h) := R_zr rfl
set_option maxRecDepth 20000 in
theorem e_287_568 : Ev X 287 568 ls st h Q ↔ onR (gl ls 1) (fun z => Ev X 287 569 ls (vr z :: st) h Q) := R_al rfl (Or.inl rfl)
set_option maxRecDepth 20000 in
theorem e_287_569 : Ev X 287 569 ls st h Q ↔ onR (gl ls 0) (fun z => Ev X 287 570 ls (vr z :: st) h Q) := R_al rfl (Or.inl rfl)
set_option maxRecDepth 20000 in
theorem e_287_570 : Ev X 287 570 ls st h Q ↔ onI (gl ls 3) (fun z => Ev X 287 571 ls (vi z :: st) h Q) := R_il rfl (Or.inl rfl)
set_option maxRecDepth 20000 in
theorem e_287_571 : Ev X 287 571 ls st h Q ↔ Ev X 287 572 ls (vi 1 :: st) h Q := R_kc rfl (Or.inl ⟨Or.inl rfl, by decide⟩)
set_option maxRecDepth 20000 in
theorem e_287_572 {x y : Int} : Ev X 287 572 ls (vi y :: vi x :: st) h Q ↔ ((inR (x + y)) ∧ Ev X 287 573 ls (vi (x + y) :: st) h Q) := R_add rfl
set_option maxRecDepth 20000 in
theorem e_287_573 {x : Nat} {j : Int} : Ev X 287 573 ls (vi j :: vr x :: st) h Q ↔ (((X.1 x = 13 ∨ X.1 x = 20) ∧ 0 ≤ j ∧ j < X.2.1 x) ∧ Ev X 287 574 ls (vi (h.1 x j.toNat) :: st) h Q) := R_ia rfl
set_option maxRecDepth 20000 in
theorem e_287_574 : Ev X 287 574 ls st h Q ↔ onR (gl ls 0) (fun z => Ev X 287 575 ls (vr z :: st) h Q) := R_al rfl (Or.inl rfl)
set_option maxRecDepth 20000 in
theorem e_287_575 : Ev X 287 575 ls st h Q ↔ onI (gl ls 3) (fun z => Ev X 287 576 ls (vi z :: st) h Q) := R_il rfl (Or.inl rfl)
set_option maxRecDepth 20000 in
theorem e_287_576 : Ev X 287 576 ls st h Q ↔ Ev X 287 577 ls (vi 2 :: st) h Q := R_kc rfl (Or.inl ⟨Or.inl rfl, by decide⟩)
set_option maxRecDepth 20000 in
theorem e_287_577 {x y : Int} : Ev X 287 577 ls (vi y :: vi x :: st) h Q ↔ ((inR (x + y)) ∧ Ev X 287 578 ls (vi (x + y) :: st) h Q) := R_add rfl
set_option maxRecDepth 20000 in
theorem e_287_578 {x : Nat} {j : Int} : Ev X 287 578 ls (vi j :: vr x :: st) h Q ↔ (((X.1 x = 13 ∨ X.1 x = 20) ∧ 0 ≤ j ∧ j < X.2.1 x) ∧ Ev X 287 579 ls (vi (h.1 x j.toNat) :: st) h Q) := R_ia rfl
set_option maxRecDepth 20000 in
theorem e_287_579 {rest : List xV} {a0 : Int} {a1 : Int} {o : Nat} : Ev X 287 579 ls ((vi a1) :: (vi a0) :: vr o :: rest) h Q ↔ ((X.1 o = 11 ∧ wd rest ≤ 8) ∧ Cl X 125 [vr o, vi a0, vi a1] h (fun r h2 => Ev X 287 580 ls (r.toList ++ rest) h2 Q)) := R_cv (x := o) (as := [vi a0, vi a1]) (k2 := 125) rfl rfl (Nat.le_of_ble_eq_true rfl)
set_option maxRecDepth 20000 in
theorem e_287_580 : Ev X 287 580 ls st h Q ↔ onR (gl ls 2) (fun z => Ev X 287 581 ls (vr z :: st) h Q) := R_al rfl (Or.inl rfl)
set_option maxRecDepth 20000 in
theorem e_287_581 : Ev X 287 581 ls st h Q ↔ onR (gl ls 0) (fun z => Ev X 287 582 ls (vr z :: st) h Q) := R_al rfl (Or.inl rfl)
set_option maxRecDepth 20000 in
theorem e_287_582 : Ev X 287 582 ls st h Q ↔ onI (gl ls 3) (fun z => Ev X 287 583 ls (vi z :: st) h Q) := R_il rfl (Or.inl rfl)
set_option maxRecDepth 20000 in
theorem e_287_583 : Ev X 287 583 ls st h Q ↔ Ev X 287 584 ls (vi 1 :: st) h Q := R_kc rfl (Or.inl ⟨Or.inl rfl, by decide⟩)
set_option maxRecDepth 20000 in
theorem e_287_584 {x y : Int} : Ev X 287 584 ls (vi y :: vi x :: st) h Q ↔ ((inR (x + y)) ∧ Ev X 287 585 ls (vi (x + y) :: st) h Q) := R_add rfl
set_option maxRecDepth 20000 in
theorem e_287_585 {x : Nat} {j : Int} : Ev X 287 585 ls (vi j :: vr x :: st) h Q ↔ (((X.1 x = 13 ∨ X.1 x = 20) ∧ 0 ≤ j ∧ j < X.2.1 x) ∧ Ev X 287 586 ls (vi (h.1 x j.toNat) :: st) h Q) := R_ia rfl
set_option maxRecDepth 20000 in
theorem e_287_586 : Ev X 287 586 ls st h Q ↔ onR (gl ls 0) (fun z => Ev X 287 587 ls (vr z :: st) h Q) := R_al rfl (Or.inl rfl)
set_option maxRecDepth 20000 in
theorem e_287_587 : Ev X 287 587 ls st h Q ↔ onI (gl ls 3) (fun z => Ev X 287 588 ls (vi z :: st) h Q) := R_il rfl (Or.inl rfl)
set_option maxRecDepth 20000 in
theorem e_287_588 : Ev X 287 588 ls st h Q ↔ Ev X 287 589 ls (vi 2 :: st) h Q := R_kc rfl (Or.inl ⟨Or.inl rfl, by decide⟩)
set_option maxRecDepth 20000 in
theorem e_287_589 {x y : Int} : Ev X 287 589 ls (vi y :: vi x :: st) h Q ↔ ((inR (x + y)) ∧ Ev X 287 590 ls (vi (x + y) :: st) h Q) := R_add rfl
set_option maxRecDepth 20000 in
theorem e_287_590 {x : Nat} {j : Int} : Ev X 287 590 ls (vi j :: vr x :: st) h Q ↔ (((X.1 x = 13 ∨ X.1 x = 20) ∧ 0 ≤ j ∧ j < X.2.1 x) ∧ Ev X 287 591 ls (vi (h.1 x j.toNat) :: st) h Q) := R_ia rfl
set_option maxRecDepth 20000 in
theorem e_287_591 {rest : List xV} {a0 : Int} {a1 : Int} {o : Nat} : Ev X 287 591 ls ((vi a1) :: (vi a0) :: vr o :: rest) h Q ↔ ((X.1 o = 12 ∧ wd rest ≤ 8) ∧ Cl X 265 [vr o, vi a0, vi a1] h (fun r h2 => Ev X 287 592 ls (r.toList ++ rest) h2 Q)) := R_cv (x := o) (as := [vi a0, vi a1]) (k2 := 265) rfl rfl (Nat.le_of_ble_eq_true rfl)
set_option maxRecDepth 20000 in
theorem e_287_592 {x y : Int} : Ev X 287 592 ls (vi y :: vi x :: st) h Q ↔ (if x = y then Ev X 287 899 ls st h Q else Ev X 287 593 ls st h Q) := R_iceq rfl
set_option maxRecDepth 20000 in
theorem e_287_593 : Ev X 287 593 ls st h Q ↔ Ev X 287 594 ls (vi 0 :: st) h Q := R_kc rfl (Or.inl ⟨Or.inl rfl, by decide⟩)
set_option maxRecDepth 20000 in
theorem e_287_594 {z : Int} : Ev X 287 594 ls [vi z] h Q ↔ ((z = 0 ∨ z = 1) ∧ Q (some (vi z)) h) := R_zr rfl
set_option maxRecDepth 20000 in
theorem e_287_595 : Ev X 287 595 ls st h Q ↔ onR (gl ls 1) (fun z => Ev X 287 596 ls (vr z :: st) h Q) := R_al rfl (Or.inl rfl)
set_option maxRecDepth 20000 in
theorem e_287_596 : Ev X 287 596 ls st h Q ↔ onR (gl ls 0) (fun z => Ev X 287 597 ls (vr z :: st) h Q) := R_al rfl (Or.inl rfl)
set_option maxRecDepth 20000 in
theorem e_287_597 : Ev X 287 597 ls st h Q ↔ onI (gl ls 3) (fun z => Ev X 287 598 ls (vi z :: st) h Q) := R_il rfl (Or.inl rfl)
set_option maxRecDepth 20000 in
theorem e_287_598 : Ev X 287 598 ls st h Q ↔ Ev X 287 599 ls (vi 1 :: st) h Q := R_kc rfl (Or.inl ⟨Or.inl rfl, by decide⟩)
set_option maxRecDepth 20000 in
theorem e_287_599 {x y : Int} : Ev X 287 599 ls (vi y :: vi x :: st) h Q ↔ ((inR (x + y)) ∧ Ev X 287 600 ls (vi (x + y) :: st) h Q) := R_add rfl
set_option maxRecDepth 20000 in
theorem e_287_600 {x : Nat} {j : Int} : Ev X 287 600 ls (vi j :: vr x :: st) h Q ↔ (((X.1 x = 13 ∨ X.1 x = 20) ∧ 0 ≤ j ∧ j < X.2.1 x) ∧ Ev X 287 601 ls (vi (h.1 x j.toNat) :: st) h Q) := R_ia rfl
set_option maxRecDepth 20000 in
theorem e_287_601 : Ev X 287 601 ls st h Q ↔ onR (gl ls 0) (fun z => Ev X 287 602 ls (vr z :: st) h Q) := R_al rfl (Or.inl rfl)
set_option maxRecDepth 20000 in
theorem e_287_602 : Ev X 287 602 ls st h Q ↔ onI (gl ls 3) (fun z => Ev X 287 603 ls (vi z :: st) h Q) := R_il rfl (Or.inl rfl)
set_option maxRecDepth 20000 in
theorem e_287_603 : Ev X 287 603 ls st h Q ↔ Ev X 287 604 ls (vi 2 :: st) h Q := R_kc rfl (Or.inl ⟨Or.inl rfl, by decide⟩)
set_option maxRecDepth 20000 in
theorem e_287_604 {x y : Int} : Ev X 287 604 ls (vi y :: vi x :: st) h Q ↔ ((inR (x + y)) ∧ Ev X 287 605 ls (vi (x + y) :: st) h Q) := R_add rfl
set_option maxRecDepth 20000 in
theorem e_287_605 {x : Nat} {j : Int} : Ev X 287 605 ls (vi j :: vr x :: st) h Q ↔ (((X.1 x = 13 ∨ X.1 x = 20) ∧ 0 ≤ j ∧ j < X.2.1 x) ∧ Ev X 287 606 ls (vi (h.1 x j.toNat) :: st) h Q) := R_ia rfl
set_option maxRecDepth 20000 in
theorem e_287_606 {rest : List xV} {a0 : Int} {a1 : Int} {o : Nat} : Ev X 287 606 ls ((vi a1) :: (vi a0) :: vr o :: rest) h Q ↔ ((X.1 o = 11 ∧ wd rest ≤ 8) ∧ Cl X 126 [vr o, vi a0, vi a1] h (fun r h2 => Ev X 287 607 ls (r.toList ++ rest) h2 Q)) := R_cv (x := o) (as := [vi a0, vi a1]) (k2 := 126) rfl rfl (Nat.le_of_ble_eq_true rfl)
set_option maxRecDepth 20000 in
theorem e_287_607 : Ev X 287 607 ls st h Q ↔ onR (gl ls 2) (fun z => Ev X 287 608 ls (vr z :: st) h Q) := R_al rfl (Or.inl rfl)
set_option maxRecDepth 20000 in
theorem e_287_608 : Ev X 287 608 ls st h Q ↔ onR (gl ls 0) (fun z => Ev X 287 609 ls (vr z :: st) h Q) := R_al rfl (Or.inl rfl)
set_option maxRecDepth 20000 in
theorem e_287_609 : Ev X 287 609 ls st h Q ↔ onI (gl ls 3) (fun z => Ev X 287 610 ls (vi z :: st) h Q) := R_il rfl (Or.inl rfl)
set_option maxRecDepth 20000 in
theorem e_287_610 : Ev X 287 610 ls st h Q ↔ Ev X 287 611 ls (vi 1 :: st) h Q := R_kc rfl (Or.inl ⟨Or.inl rfl, by decide⟩)
set_option maxRecDepth 20000 in
theorem e_287_611 {x y : Int} : Ev X 287 611 ls (vi y :: vi x :: st) h Q ↔ ((inR (x + y)) ∧ Ev X 287 612 ls (vi (x + y) :: st) h Q) := R_add rfl
set_option maxRecDepth 20000 in
theorem e_287_612 {x : Nat} {j : Int} : Ev X 287 612 ls (vi j :: vr x :: st) h Q ↔ (((X.1 x = 13 ∨ X.1 x = 20) ∧ 0 ≤ j ∧ j < X.2.1 x) ∧ Ev X 287 613 ls (vi (h.1 x j.toNat) :: st) h Q) := R_ia rfl
set_option maxRecDepth 20000 in
theorem e_287_613 : Ev X 287 613 ls st h Q ↔ onR (gl ls 0) (fun z => Ev X 287 614 ls (vr z :: st) h Q) := R_al rfl (Or.inl rfl)
set_option maxRecDepth 20000 in
theorem e_287_614 : Ev X 287 614 ls st h Q ↔ onI (gl ls 3) (fun z => Ev X 287 615 ls (vi z :: st) h Q) := R_il rfl (Or.inl rfl)
set_option maxRecDepth 20000 in
theorem e_287_615 : Ev X 287 615 ls st h Q ↔ Ev X 287 616 ls (vi 2 :: st) h Q := R_kc rfl (Or.inl ⟨Or.inl rfl, by decide⟩)
set_option maxRecDepth 20000 in
theorem e_287_616 {x y : Int} : Ev X 287 616 ls (vi y :: vi x :: st) h Q ↔ ((inR (x + y)) ∧ Ev X 287 617 ls (vi (x + y) :: st) h Q) := R_add rfl
set_option maxRecDepth 20000 in
theorem e_287_617 {x : Nat} {j : Int} : Ev X 287 617 ls (vi j :: vr x :: st) h Q ↔ (((X.1 x = 13 ∨ X.1 x = 20) ∧ 0 ≤ j ∧ j < X.2.1 x) ∧ Ev X 287 618 ls (vi (h.1 x j.toNat) :: st) h Q) := R_ia rfl
set_option maxRecDepth 20000 in
theorem e_287_618 {rest : List xV} {a0 : Int} {a1 : Int} {o : Nat} : Ev X 287 618 ls ((vi a1) :: (vi a0) :: vr o :: rest) h Q ↔ ((X.1 o = 12 ∧ wd rest ≤ 8) ∧ Cl X 266 [vr o, vi a0, vi a1] h (fun r h2 => Ev X 287 619 ls (r.toList ++ rest) h2 Q)) := R_cv (x := o) (as := [vi a0, vi a1]) (k2 := 266) rfl rfl (Nat.le_of_ble_eq_true rfl)
set_option maxRecDepth 20000 in
theorem e_287_619 {x y : Int} : Ev X 287 619 ls (vi y :: vi x :: st) h Q ↔ (if x = y then Ev X 287 899 ls st h Q else Ev X 287 620 ls st h Q) := R_iceq rfl
set_option maxRecDepth 20000 in
theorem e_287_620 : Ev X 287 620 ls st h Q ↔ Ev X 287 621 ls (vi 0 :: st) h Q := R_kc rfl (Or.inl ⟨Or.inl rfl, by decide⟩)
set_option maxRecDepth 20000 in
theorem e_287_621 {z : Int} : Ev X 287 621 ls [vi z] h Q ↔ ((z = 0 ∨ z = 1) ∧ Q (some (vi z)) h) := R_zr rfl
set_option maxRecDepth 20000 in
theorem e_287_622 : Ev X 287 622 ls st h Q ↔ onR (gl ls 1) (fun z => Ev X 287 623 ls (vr z :: st) h Q) := R_al rfl (Or.inl rfl)
set_option maxRecDepth 20000 in
theorem e_287_623 : Ev X 287 623 ls st h Q ↔ onR (gl ls 0) (fun z => Ev X 287 624 ls (vr z :: st) h Q) := R_al rfl (Or.inl rfl)
set_option maxRecDepth 20000 in
theorem e_287_624 : Ev X 287 624 ls st h Q ↔ onI (gl ls 3) (fun z => Ev X 287 625 ls (vi z :: st) h Q) := R_il rfl (Or.inl rfl)
set_option maxRecDepth 20000 in
theorem e_287_625 : Ev X 287 625 ls st h Q ↔ Ev X 287 626 ls (vi 1 :: st) h Q := R_kc rfl (Or.inl ⟨Or.inl rfl, by decide⟩)
set_option maxRecDepth 20000 in
theorem e_287_626 {x y : Int} : Ev X 287 626 ls (vi y :: vi x :: st) h Q ↔ ((inR (x + y)) ∧ Ev X 287 627 ls (vi (x + y) :: st) h Q) := R_add rfl
set_option maxRecDepth 20000 in
theorem e_287_627 {x : Nat} {j : Int} : Ev X 287 627 ls (vi j :: vr x :: st) h Q ↔ (((X.1 x = 13 ∨ X.1 x = 20) ∧ 0 ≤ j ∧ j < X.2.1 x) ∧ Ev X 287 628 ls (vi (h.1 x j.toNat) :: st) h Q) := R_ia rfl
set_option maxRecDepth 20000 in
theorem e_287_628 : Ev X 287 628 ls st h Q ↔ onR (gl ls 0) (fun z => Ev X 287 629 ls (vr z :: st) h Q) := R_al rfl (Or.inl rfl)
set_option maxRecDepth 20000 in
theorem e_287_629 : Ev X 287 629 ls st h Q ↔ onI (gl ls 3) (fun z => Ev X 287 630 ls (vi z :: st) h Q) := R_il rfl (Or.inl rfl)
set_option maxRecDepth 20000 in
theorem e_287_630 : Ev X 287 630 ls st h Q ↔ Ev X 287 631 ls (vi 2 :: st) h Q := R_kc rfl (Or.inl ⟨Or.inl rfl, by decide⟩)
set_option maxRecDepth 20000 in
theorem e_287_631 {x y : Int} : Ev X 287 631 ls (vi y :: vi x :: st) h Q ↔ ((inR (x + y)) ∧ Ev X 287 632 ls (vi (x + y) :: st) h Q) := R_add rfl
set_option maxRecDepth 20000 in
theorem e_287_632 {x : Nat} {j : Int} : Ev X 287 632 ls (vi j :: vr x :: st) h Q ↔ (((X.1 x = 13 ∨ X.1 x = 20) ∧ 0 ≤ j ∧ j < X.2.1 x) ∧ Ev X 287 633 ls (vi (h.1 x j.toNat) :: st) h Q) := R_ia rfl
set_option maxRecDepth 20000 in
theorem e_287_633 {rest : List xV} {a0 : Int} {a1 : Int} {o : Nat} : Ev X 287 633 ls ((vi a1) :: (vi a0) :: vr o :: rest) h Q ↔ ((X.1 o = 11 ∧ wd rest ≤ 8) ∧ Cl X 127 [vr o, vi a0, vi a1] h (fun r h2 => Ev X 287 634 ls (r.toList ++ rest) h2 Q)) := R_cv (x := o) (as := [vi a0, vi a1]) (k2 := 127) rfl rfl (Nat.le_of_ble_eq_true rfl)
set_option maxRecDepth 20000 in
theorem e_287_634 : Ev X 287 634 ls st h Q ↔ onR (gl ls 2) (fun z => Ev X 287 635 ls (vr z :: st) h Q) := R_al rfl (Or.inl rfl)
set_option maxRecDepth 20000 in
theorem e_287_635 : Ev X 287 635 ls st h Q ↔ onR (gl ls 0) (fun z => Ev X 287 636 ls (vr z :: st) h Q) := R_al rfl (Or.inl rfl)
set_option maxRecDepth 20000 in
theorem e_287_636 : Ev X 287 636 ls st h Q ↔ onI (gl ls 3) (fun z => Ev X 287 637 ls (vi z :: st) h Q) := R_il rfl (Or.inl rfl)
set_option maxRecDepth 20000 in
theorem e_287_637 : Ev X 287 637 ls st h Q ↔ Ev X 287 638 ls (vi 1 :: st) h Q := R_kc rfl (Or.inl ⟨Or.inl rfl, by decide⟩)
set_option maxRecDepth 20000 in
theorem e_287_638 {x y : Int} : Ev X 287 638 ls (vi y :: vi x :: st) h Q ↔ ((inR (x + y)) ∧ Ev X 287 639 ls (vi (x + y) :: st) h Q) := R_add rfl
set_option maxRecDepth 20000 in
theorem e_287_639 {x : Nat} {j : Int} : Ev X 287 639 ls (vi j :: vr x :: st) h Q ↔ (((X.1 x = 13 ∨ X.1 x = 20) ∧ 0 ≤ j ∧ j < X.2.1 x) ∧ Ev X 287 640 ls (vi (h.1 x j.toNat) :: st) h Q) := R_ia rfl
set_option maxRecDepth 20000 in
theorem e_287_640 : Ev X 287 640 ls st h Q ↔ onR (gl ls 0) (fun z => Ev X 287 641 ls (vr z :: st) h Q) := R_al rfl (Or.inl rfl)
set_option maxRecDepth 20000 in
theorem e_287_641 : Ev X 287 641 ls st h Q ↔ onI (gl ls 3) (fun z => Ev X 287 642 ls (vi z :: st) h Q) := R_il rfl (Or.inl rfl)
set_option maxRecDepth 20000 in
theorem e_287_642 : Ev X 287 642 ls st h Q ↔ Ev X 287 643 ls (vi 2 :: st) h Q := R_kc rfl (Or.inl ⟨Or.inl rfl, by decide⟩)
set_option maxRecDepth 20000 in
theorem e_287_643 {x y : Int} : Ev X 287 643 ls (vi y :: vi x :: st) h Q ↔ ((inR (x + y)) ∧ Ev X 287 644 ls (vi (x + y) :: st) h Q) := R_add rfl
set_option maxRecDepth 20000 in
theorem e_287_644 {x : Nat} {j : Int} : Ev X 287 644 ls (vi j :: vr x :: st) h Q ↔ (((X.1 x = 13 ∨ X.1 x = 20) ∧ 0 ≤ j ∧ j < X.2.1 x) ∧ Ev X 287 645 ls (vi (h.1 x j.toNat) :: st) h Q) := R_ia rfl
set_option maxRecDepth 20000 in
theorem e_287_645 {rest : List xV} {a0 : Int} {a1 : Int} {o : Nat} : Ev X 287 645 ls ((vi a1) :: (vi a0) :: vr o :: rest) h Q ↔ ((X.1 o = 12 ∧ wd rest ≤ 8) ∧ Cl X 268 [vr o, vi a0, vi a1] h (fun r h2 => Ev X 287 646 ls (r.toList ++ rest) h2 Q)) := R_cv (x := o) (as := [vi a0, vi a1]) (k2 := 268) rfl rfl (Nat.le_of_ble_eq_true rfl)
set_option maxRecDepth 20000 in
theorem e_287_646 {x y : Int} : Ev X 287 646 ls (vi y :: vi x :: st) h Q ↔ (if x = y then Ev X 287 899 ls st h Q else Ev X 287 647 ls st h Q) := R_iceq rfl
set_option maxRecDepth 20000 in
theorem e_287_647 : Ev X 287 647 ls st h Q ↔ Ev X 287 648 ls (vi 0 :: st) h Q := R_kc rfl (Or.inl ⟨Or.inl rfl, by decide⟩)
set_option maxRecDepth 20000 in
theorem e_287_648 {z : Int} : Ev X 287 648 ls [vi z] h Q ↔ ((z = 0 ∨ z = 1) ∧ Q (some (vi z)) h) := R_zr rfl
set_option maxRecDepth 20000 in
theorem e_287_649 : Ev X 287 649 ls st h Q ↔ onR (gl ls 1) (fun z => Ev X 287 650 ls (vr z :: st) h Q) := R_al rfl (Or.inl rfl)
set_option maxRecDepth 20000 in
theorem e_287_650 : Ev X 287 650 ls st h Q ↔ onR (gl ls 0) (fun z => Ev X 287 651 ls (vr z :: st) h Q) := R_al rfl (Or.inl rfl)
set_option maxRecDepth 20000 in
theorem e_287_651 : Ev X 287 651 ls st h Q ↔ onI (gl ls 3) (fun z => Ev X 287 652 ls (vi z :: st) h Q) := R_il rfl (Or.inl rfl)
set_option maxRecDepth 20000 in
theorem e_287_652 : Ev X 287 652 ls st h Q ↔ Ev X 287 653 ls (vi 1 :: st) h Q := R_kc rfl (Or.inl ⟨Or.inl rfl, by decide⟩)
set_option maxRecDepth 20000 in
theorem e_287_653 {x y : Int} : Ev X 287 653 ls (vi y :: vi x :: st) h Q ↔ ((inR (x + y)) ∧ Ev X 287 654 ls (vi (x + y) :: st) h Q) := R_add rfl
set_option maxRecDepth 20000 in
theorem e_287_654 {x : Nat} {j : Int} : Ev X 287 654 ls (vi j :: vr x :: st) h Q ↔ (((X.1 x = 13 ∨ X.1 x = 20) ∧ 0 ≤ j ∧ j < X.2.1 x) ∧ Ev X 287 655 ls (vi (h.1 x j.toNat) :: st) h Q) := R_ia rfl
set_option maxRecDepth 20000 in
theorem e_287_655 {rest : List xV} {a0 : Int} {o : Nat} : Ev X 287 655 ls ((vi a0) :: vr o :: rest) h Q ↔ ((X.1 o = 11 ∧ wd rest ≤ 8) ∧ Cl X 128 [vr o, vi a0] h (fun r h2 => Ev X 287 656 ls (r.toList ++ rest) h2 Q)) := R_cv (x := o) (as := [vi a0]) (k2 := 128) rfl rfl (Nat.le_of_ble_eq_true rfl)
set_option maxRecDepth 20000 in
theorem e_287_656 : Ev X 287 656 ls st h Q ↔ onR (gl ls 2) (fun z => Ev X 287 657 ls (vr z :: st) h Q) := R_al rfl (Or.inl rfl)
set_option maxRecDepth 20000 in
theorem e_287_657 : Ev X 287 657 ls st h Q ↔ onR (gl ls 0) (fun z => Ev X 287 658 ls (vr z :: st) h Q) := R_al rfl (Or.inl rfl)
set_option maxRecDepth 20000 in
theorem e_287_658 : Ev X 287 658 ls st h Q ↔ onI (gl ls 3) (fun z => Ev X 287 659 ls (vi z :: st) h Q) := R_il rfl (Or.inl rfl)
set_option maxRecDepth 20000 in
theorem e_287_659 : Ev X 287 659 ls st h Q ↔ Ev X 287 660 ls (vi 1 :: st) h Q := R_kc rfl (Or.inl ⟨Or.inl rfl, by decide⟩)
set_option maxRecDepth 20000 in
theorem e_287_660 {x y : Int} : Ev X 287 660 ls (vi y :: vi x :: st) h Q ↔ ((inR (x + y)) ∧ Ev X 287 661 ls (vi (x + y) :: st) h Q) := R_add rfl
set_option maxRecDepth 20000 in
theorem e_287_661 {x : Nat} {j : Int} : Ev X 287 661 ls (vi j :: vr x :: st) h Q ↔ (((X.1 x = 13 ∨ X.1 x = 20) ∧ 0 ≤ j ∧ j < X.2.1 x) ∧ Ev X 287 662 ls (vi (h.1 x j.toNat) :: st) h Q) := R_ia rfl
set_option maxRecDepth 20000 in
theorem e_287_662 {rest : List xV} {a0 : Int} {o : Nat} : Ev X 287 662 ls ((vi a0) :: vr o :: rest) h Q ↔ ((X.1 o = 12 ∧ wd rest ≤ 8) ∧ Cl X 272 [vr o, vi a0] h (fun r h2 => Ev X 287 663 ls (r.toList ++ rest) h2 Q)) := R_cv (x := o) (as := [vi a0]) (k2 := 272) rfl rfl (Nat.le_of_ble_eq_true rfl)
set_option maxRecDepth 20000 in
theorem e_287_663 {x y : Int} : Ev X 287 663 ls (vi y :: vi x :: st) h Q ↔ (if x = y then Ev X 287 899 ls st h Q else Ev X 287 664 ls st h Q) := R_iceq rfl
set_option maxRecDepth 20000 in
theorem e_287_664 : Ev X 287 664 ls st h Q ↔ Ev X 287 665 ls (vi 0 :: st) h Q := R_kc rfl (Or.inl ⟨Or.inl rfl, by decide⟩)
set_option maxRecDepth 20000 in
theorem e_287_665 {z : Int} : Ev X 287 665 ls [vi z] h Q ↔ ((z = 0 ∨ z = 1) ∧ Q (some (vi z)) h) := R_zr rfl
set_option maxRecDepth 20000 in
theorem e_287_666 : Ev X 287 666 ls st h Q ↔ onR (gl ls 1) (fun z => Ev X 287 667 ls (vr z :: st) h Q) := R_al rfl (Or.inl rfl)
set_option maxRecDepth 20000 in
theorem e_287_667 : Ev X 287 667 ls st h Q ↔ onR (gl ls 0) (fun z => Ev X 287 668 ls (vr z :: st) h Q) := R_al rfl (Or.inl rfl)
set_option maxRecDepth 20000 in
theorem e_287_668 : Ev X 287 668 ls st h Q ↔ onI (gl ls 3) (fun z => Ev X 287 669 ls (vi z :: st) h Q) := R_il rfl (Or.inl rfl)
set_option maxRecDepth 20000 in
theorem e_287_669 : Ev X 287 669 ls st h Q ↔ Ev X 287 670 ls (vi 1 :: st) h Q := R_kc rfl (Or.inl ⟨Or.inl rfl, by decide⟩)
set_option maxRecDepth 20000 in
theorem e_287_670 {x y : Int} : Ev X 287 670 ls (vi y :: vi x :: st) h Q ↔ ((inR (x + y)) ∧ Ev X 287 671 ls (vi (x + y) :: st) h Q) := R_add rfl
set_option maxRecDepth 20000 in
theorem e_287_671 {x : Nat} {j : Int} : Ev X 287 671 ls (vi j :: vr x :: st) h Q ↔ (((X.1 x = 13 ∨ X.1 x = 20) ∧ 0 ≤ j ∧ j < X.2.1 x) ∧ Ev X 287 672 ls (vi (h.1 x j.toNat) :: st) h Q) := R_ia rfl
set_option maxRecDepth 20000 in
theorem e_287_672 : Ev X 287 672 ls st h Q ↔ onR (gl ls 0) (fun z => Ev X 287 673 ls (vr z :: st) h Q) := R_al rfl (Or.inl rfl)
set_option maxRecDepth 20000 in
theorem e_287_673 : Ev X 287 673 ls st h Q ↔ onI (gl ls 3) (fun z => Ev X 287 674 ls (vi z :: st) h Q) := R_il rfl (Or.inl rfl)
set_option maxRecDepth 20000 in
theorem e_287_674 : Ev X 287 674 ls st h Q ↔ Ev X 287 675 ls (vi 2 :: st) h Q := R_kc rfl (Or.inl ⟨Or.inl rfl, by decide⟩)
set_option maxRecDepth 20000 in
theorem e_287_675 {x y : Int} : Ev X 287 675 ls (vi y :: vi x :: st) h Q ↔ ((inR (x + y)) ∧ Ev X 287 676 ls (vi (x + y) :: st) h Q) := R_add rfl
set_option maxRecDepth 20000 in
theorem e_287_676 {x : Nat} {j : Int} : Ev X 287 676 ls (vi j :: vr x :: st) h Q ↔ (((X.1 x = 13 ∨ X.1 x = 20) ∧ 0 ≤ j ∧ j < X.2.1 x) ∧ Ev X 287 677 ls (vi (h.1 x j.toNat) :: st) h Q) := R_ia rfl
set_option maxRecDepth 20000 in
theorem e_287_677 : Ev X 287 677 ls st h Q ↔ onR (gl ls 0) (fun z => Ev X 287 678 ls (vr z :: st) h Q) := R_al rfl (Or.inl rfl)
set_option maxRecDepth 20000 in
theorem e_287_678 : Ev X 287 678 ls st h Q ↔ onI (gl ls 3) (fun z => Ev X 287 679 ls (vi z :: st) h Q) := R_il rfl (Or.inl rfl)
set_option maxRecDepth 20000 in
theorem e_287_679 : Ev X 287 679 ls st h Q ↔ Ev X 287 680 ls (vi 3 :: st) h Q := R_kc rfl (Or.inl ⟨Or.inl rfl, by decide⟩)
set_option maxRecDepth 20000 in
theorem e_287_680 {x y : Int} : Ev X 287 680 ls (vi y :: vi x :: st) h Q ↔ ((inR (x + y)) ∧ Ev X 287 681 ls (vi (x + y) :: st) h Q) := R_add rfl
set_option maxRecDepth 20000 in
theorem e_287_681 {x : Nat} {j : Int} : Ev X 287 681 ls (vi j :: vr x :: st) h Q ↔ (((X.1 x = 13 ∨ X.1 x = 20) ∧ 0 ≤ j ∧ j < X.2.1 x) ∧ Ev X 287 682 ls (vi (h.1 x j.toNat) :: st) h Q) := R_ia rfl
set_option maxRecDepth 20000 in
theorem e_287_682 {rest : List xV} {a0 : Int} {a1 : Int} {a2 : Int} {o : Nat} : Ev X 287 682 ls ((vi a2) :: (vi a1) :: (vi a0) :: vr o :: rest) h Q ↔ ((X.1 o = 11 ∧ wd rest ≤ 8) ∧ Cl X 129 [vr o, vi a0, vi a1, vi a2] h (fun r h2 => Ev X 287 683 ls (r.toList ++ rest) h2 Q)) := R_cv (x := o) (as := [vi a0, vi a1, vi a2]) (k2 := 129) rfl rfl (Nat.le_of_ble_eq_true rfl)
set_option maxRecDepth 20000 in
theorem e_287_683 : Ev X 287 683 ls st h Q ↔ onR (gl ls 2) (fun z => Ev X 287 684 ls (vr z :: st) h Q) := R_al rfl (Or.inl rfl)
set_option maxRecDepth 20000 in
theorem e_287_684 : Ev X 287 684 ls st h Q ↔ onR (gl ls 0) (fun z => Ev X 287 685 ls (vr z :: st) h Q) := R_al rfl (Or.inl rfl)
set_option maxRecDepth 20000 in
theorem e_287_685 : Ev X 287 685 ls st h Q ↔ onI (gl ls 3) (fun z => Ev X 287 686 ls (vi z :: st) h Q) := R_il rfl (Or.inl rfl)
set_option maxRecDepth 20000 in
theorem e_287_686 : Ev X 287 686 ls st h Q ↔ Ev X 287 687 ls (vi 1 :: st) h Q := R_kc rfl (Or.inl ⟨Or.inl rfl, by decide⟩)
set_option maxRecDepth 20000 in
theorem e_287_687 {x y : Int} : Ev X 287 687 ls (vi y :: vi x :: st) h Q ↔ ((inR (x + y)) ∧ Ev X 287 688 ls (vi (x + y) :: st) h Q) := R_add rfl
set_option maxRecDepth 20000 in
theorem e_287_688 {x : Nat} {j : Int} : Ev X 287 688 ls (vi j :: vr x :: st) h Q ↔ (((X.1 x = 13 ∨ X.1 x = 20) ∧ 0 ≤ j ∧ j < X.2.1 x) ∧ Ev X 287 689 ls (vi (h.1 x j.toNat) :: st) h Q) := R_ia rfl
set_option maxRecDepth 20000 in
theorem e_287_689 : Ev X 287 689 ls st h Q ↔ onR (gl ls 0) (fun z => Ev X 287 690 ls (vr z :: st) h Q) := R_al rfl (Or.inl rfl)
set_option maxRecDepth 20000 in
theorem e_287_690 : Ev X 287 690 ls st h Q ↔ onI (gl ls 3) (fun z => Ev X 287 691 ls (vi z :: st) h Q) := R_il rfl (Or.inl rfl)
set_option maxRecDepth 20000 in
theorem e_287_691 : Ev X 287 691 ls st h Q ↔ Ev X 287 692 ls (vi 2 :: st) h Q := R_kc rfl (Or.inl ⟨Or.inl rfl, by decide⟩)
set_option maxRecDepth 20000 in
theorem e_287_692 {x y : Int} : Ev X 287 692 ls (vi y :: vi x :: st) h Q ↔ ((inR (x + y)) ∧ Ev X 287 693 ls (vi (x + y) :: st) h Q) := R_add rfl
set_option maxRecDepth 20000 in
theorem e_287_693 {x : Nat} {j : Int} : Ev X 287 693 ls (vi j :: vr x :: st) h Q ↔ (((X.1 x = 13 ∨ X.1 x = 20) ∧ 0 ≤ j ∧ j < X.2.1 x) ∧ Ev X 287 694 ls (vi (h.1 x j.toNat) :: st) h Q) := R_ia rfl
set_option maxRecDepth 20000 in
theorem e_287_694 : Ev X 287 694 ls st h Q ↔ onR (gl ls 0) (fun z => Ev X 287 695 ls (vr z :: st) h Q) := R_al rfl (Or.inl rfl)
set_option maxRecDepth 20000 in
theorem e_287_695 : Ev X 287 695 ls st h Q ↔ onI (gl ls 3) (fun z => Ev X 287 696 ls (vi z :: st) h Q) := R_il rfl (Or.inl rfl)
set_option maxRecDepth 20000 in
theorem e_287_696 : Ev X 287 696 ls st h Q ↔ Ev X 287 697 ls (vi 3 :: st) h Q := R_kc rfl (Or.inl ⟨Or.inl rfl, by decide⟩)
set_option maxRecDepth 20000 in
theorem e_287_697 {x y : Int} : Ev X 287 697 ls (vi y :: vi x :: st) h Q ↔ ((inR (x + y)) ∧ Ev X 287 698 ls (vi (x + y) :: st) h Q) := R_add rfl
set_option maxRecDepth 20000 in
theorem e_287_698 {x : Nat} {j : Int} : Ev X 287 698 ls (vi j :: vr x :: st) h Q ↔ (((X.1 x = 13 ∨ X.1 x = 20) ∧ 0 ≤ j ∧ j < X.2.1 x) ∧ Ev X 287 699 ls (vi (h.1 x j.toNat) :: st) h Q) := R_ia rfl
set_option maxRecDepth 20000 in
theorem e_287_699 {rest : List xV} {a0 : Int} {a1 : Int} {a2 : Int} {o : Nat} : Ev X 287 699 ls ((vi a2) :: (vi a1) :: (vi a0) :: vr o :: rest) h Q ↔ ((X.1 o = 12 ∧ wd rest ≤ 8) ∧ Cl X 177 [vr o, vi a0, vi a1, vi a2] h (fun r h2 => Ev X 287 700 ls (r.toList ++ rest) h2 Q)) := R_cv (x := o) (as := [vi a0, vi a1, vi a2]) (k2 := 177) rfl rfl (Nat.le_of_ble_eq_true rfl)
set_option maxRecDepth 20000 in
theorem e_287_700 {x y : Int} : Ev X 287 700 ls (vi y :: vi x :: st) h Q ↔ (if x = y then Ev X 287 899 ls st h Q else Ev X 287 701 ls st h Q) := R_iceq rfl
set_option maxRecDepth 20000 in
theorem e_287_701 : Ev X 287 701 ls st h Q ↔ Ev X 287 702 ls (vi 0 :: st) h Q := R_kc rfl (Or.inl ⟨Or.inl rfl, by decide⟩)
set_option maxRecDepth 20000 in
theorem e_287_702 {z : Int} : Ev X 287 702 ls [vi z] h Q ↔ ((z = 0 ∨ z = 1) ∧ Q (some (vi z)) h) := R_zr rfl
set_option maxRecDepth 20000 in
theorem e_287_703 : Ev X 287 703 ls st h Q ↔ onR (gl ls 1) (fun z => Ev X 287 704 ls (vr z :: st) h Q) := R_al rfl (Or.inl rfl)
set_option maxRecDepth 20000 in
theorem e_287_704 : Ev X 287 704 ls st h Q ↔ onR (gl ls 0) (fun z => Ev X 287 705 ls (vr z :: st) h Q) := R_al rfl (Or.inl rfl)
set_option maxRecDepth 20000 in
theorem e_287_705 : Ev X 287 705 ls st h Q ↔ onI (gl ls 3) (fun z => Ev X 287 706 ls (vi z :: st) h Q) := R_il rfl (Or.inl rfl)
set_option maxRecDepth 20000 in
theorem e_287_706 : Ev X 287 706 ls st h Q ↔ Ev X 287 707 ls (vi 1 :: st) h Q := R_kc rfl (Or.inl ⟨Or.inl rfl, by decide⟩)
set_option maxRecDepth 20000 in
theorem e_287_707 {x y : Int} : Ev X 287 707 ls (vi y :: vi x :: st) h Q ↔ ((inR (x + y)) ∧ Ev X 287 708 ls (vi (x + y) :: st) h Q) := R_add rfl
set_option maxRecDepth 20000 in
theorem e_287_708 {x : Nat} {j : Int} : Ev X 287 708 ls (vi j :: vr x :: st) h Q ↔ (((X.1 x = 13 ∨ X.1 x = 20) ∧ 0 ≤ j ∧ j < X.2.1 x) ∧ Ev X 287 709 ls (vi (h.1 x j.toNat) :: st) h Q) := R_ia rfl
set_option maxRecDepth 20000 in
theorem e_287_709 : Ev X 287 709 ls st h Q ↔ onR (gl ls 0) (fun z => Ev X 287 710 ls (vr z :: st) h Q) := R_al rfl (Or.inl rfl)
set_option maxRecDepth 20000 in
theorem e_287_710 : Ev X 287 710 ls st h Q ↔ onI (gl ls 3) (fun z => Ev X 287 711 ls (vi z :: st) h Q) := R_il rfl (Or.inl rfl)
set_option maxRecDepth 20000 in
theorem e_287_711 : Ev X 287 711 ls st h Q ↔ Ev X 287 712 ls (vi 2 :: st) h Q := R_kc rfl (Or.inl ⟨Or.inl rfl, by decide⟩)
set_option maxRecDepth 20000 in
theorem e_287_712 {x y : Int} : Ev X 287 712 ls (vi y :: vi x :: st) h Q ↔ ((inR (x + y)) ∧ Ev X 287 713 ls (vi (x + y) :: st) h Q) := R_add rfl
set_option maxRecDepth 20000 in
theorem e_287_713 {x : Nat} {j : Int} : Ev X 287 713 ls (vi j :: vr x :: st) h Q ↔ (((X.1 x = 13 ∨ X.1 x = 20) ∧ 0 ≤ j ∧ j < X.2.1 x) ∧ Ev X 287 714 ls (vi (h.1 x j.toNat) :: st) h Q) := R_ia rfl
set_option maxRecDepth 20000 in
theorem e_287_714 {rest : List xV} {a0 : Int} {a1 : Int} {o : Nat} : Ev X 287 714 ls ((vi a1) :: (vi a0) :: vr o :: rest) h Q ↔ ((X.1 o = 11 ∧ wd rest ≤ 8) ∧ Cl X 130 [vr o, vi a0, vi a1] h (fun r h2 => Ev X 287 715 ls (r.toList ++ rest) h2 Q)) := R_cv (x := o) (as := [vi a0, vi a1]) (k2 := 130) rfl rfl (Nat.le_of_ble_eq_true rfl)
set_option maxRecDepth 20000 in
theorem e_287_715 : Ev X 287 715 ls st h Q ↔ onR (gl ls 2) (fun z => Ev X 287 716 ls (vr z :: st) h Q) := R_al rfl (Or.inl rfl)
set_option maxRecDepth 20000 in
theorem e_287_716 : Ev X 287 716 ls st h Q ↔ onR (gl ls 0) (fun z => Ev X 287 717 ls (vr z :: st) h Q) := R_al rfl (Or.inl rfl)
set_option maxRecDepth 20000 in
theorem e_287_717 : Ev X 287 717 ls st h Q ↔ onI (gl ls 3) (fun z => Ev X 287 718 ls (vi z :: st) h Q) := R_il rfl (Or.inl rfl)
set_option maxRecDepth 20000 in
theorem e_287_718 : Ev X 287 718 ls st h Q ↔ Ev X 287 719 ls (vi 1 :: st) h Q := R_kc rfl (Or.inl ⟨Or.inl rfl, by decide⟩)
set_option maxRecDepth 20000 in
theorem e_287_719 {x y : Int} : Ev X 287 719 ls (vi y :: vi x :: st) h Q ↔ ((inR (x + y)) ∧ Ev X 287 720 ls (vi (x + y) :: st) h Q) := R_add rfl
set_option maxRecDepth 20000 in
theorem e_287_720 {x : Nat} {j : Int} : Ev X 287 720 ls (vi j :: vr x :: st) h Q ↔ (((X.1 x = 13 ∨ X.1 x = 20) ∧ 0 ≤ j ∧ j < X.2.1 x) ∧ Ev X 287 721 ls (vi (h.1 x j.toNat) :: st) h Q) := R_ia rfl
set_option maxRecDepth 20000 in
theorem e_287_721 : Ev X 287 721 ls st h Q ↔ onR (gl ls 0) (fun z => Ev X 287 722 ls (vr z :: st) h Q) := R_al rfl (Or.inl rfl)
set_option maxRecDepth 20000 in
theorem e_287_722 : Ev X 287 722 ls st h Q ↔ onI (gl ls 3) (fun z => Ev X 287 723 ls (vi z :: st) h Q) := R_il rfl (Or.inl rfl)
set_option maxRecDepth 20000 in
theorem e_287_723 : Ev X 287 723 ls st h Q ↔ Ev X 287 724 ls (vi 2 :: st) h Q := R_kc rfl (Or.inl ⟨Or.inl rfl, by decide⟩)
set_option maxRecDepth 20000 in
theorem e_287_724 {x y : Int} : Ev X 287 724 ls (vi y :: vi x :: st) h Q ↔ ((inR (x + y)) ∧ Ev X 287 725 ls (vi (x + y) :: st) h Q) := R_add rfl
set_option maxRecDepth 20000 in
theorem e_287_725 {x : Nat} {j : Int} : Ev X 287 725 ls (vi j :: vr x :: st) h Q ↔ (((X.1 x = 13 ∨ X.1 x = 20) ∧ 0 ≤ j ∧ j < X.2.1 x) ∧ Ev X 287 726 ls (vi (h.1 x j.toNat) :: st) h Q) := R_ia rfl
set_option maxRecDepth 20000 in
theorem e_287_726 {rest : List xV} {a0 : Int} {a1 : Int} {o : Nat} : Ev X 287 726 ls ((vi a1) :: (vi a0) :: vr o :: rest) h Q ↔ ((X.1 o = 12 ∧ wd rest ≤ 8) ∧ Cl X 274 [vr o, vi a0, vi a1] h (fun r h2 => Ev X 287 727 ls (r.toList ++ rest) h2 Q)) := R_cv (x := o) (as := [vi a0, vi a1]) (k2 := 274) rfl rfl (Nat.le_of_ble_eq_true rfl)
set_option maxRecDepth 20000 in
theorem e_287_727 {x y : Int} : Ev X 287 727 ls (vi y :: vi x :: st) h Q ↔ (if x = y then Ev X 287 899 ls st h Q else Ev X 287 728 ls st h Q) := R_iceq rfl
set_option maxRecDepth 20000 in
theorem e_287_728 : Ev X 287 728 ls st h Q ↔ Ev X 287 729 ls (vi 0 :: st) h Q := R_kc rfl (Or.inl ⟨Or.inl rfl, by decide⟩)
set_option maxRecDepth 20000 in
theorem e_287_729 {z : Int} : Ev X 287 729 ls [vi z] h Q ↔ ((z = 0 ∨ z = 1) ∧ Q (some (vi z)) h) := R_zr rfl
set_option maxRecDepth 20000 in
theorem e_287_730 : Ev X 287 730 ls st h Q ↔ onR (gl ls 1) (fun z => Ev X 287 731 ls (vr z :: st) h Q) := R_al rfl (Or.inl rfl)
set_option maxRecDepth 20000 in
theorem e_287_731 : Ev X 287 731 ls st h Q ↔ onR (gl ls 0) (fun z => Ev X 287 732 ls (vr z :: st) h Q) := R_al rfl (Or.inl rfl)
set_option maxRecDepth 20000 in
theorem e_287_732 : Ev X 287 732 ls st h Q ↔ onI (gl ls 3) (fun z => Ev X 287 733 ls (vi z :: st) h Q) := R_il rfl (Or.inl rfl)
set_option maxRecDepth 20000 in
theorem e_287_733 : Ev X 287 733 ls st h Q ↔ Ev X 287 734 ls (vi 1 :: st) h Q := R_kc rfl (Or.inl ⟨Or.inl rfl, by decide⟩)
set_option maxRecDepth 20000 in
theorem e_287_734 {x y : Int} : Ev X 287 734 ls (vi y :: vi x :: st) h Q ↔ ((inR (x + y)) ∧ Ev X 287 735 ls (vi (x + y) :: st) h Q) := R_add rfl
set_option maxRecDepth 20000 in
theorem e_287_735 {x : Nat} {j : Int} : Ev X 287 735 ls (vi j :: vr x :: st) h Q ↔ (((X.1 x = 13 ∨ X.1 x = 20) ∧ 0 ≤ j ∧ j < X.2.1 x) ∧ Ev X 287 736 ls (vi (h.1 x j.toNat) :: st) h Q) := R_ia rfl
set_option maxRecDepth 20000 in
theorem e_287_736 : Ev X 287 736 ls st h Q ↔ onR (gl ls 0) (fun z => Ev X 287 737 ls (vr z :: st) h Q) := R_al rfl (Or.inl rfl)
set_option maxRecDepth 20000 in
theorem e_287_737 : Ev X 287 737 ls st h Q ↔ onI (gl ls 3) (fun z => Ev X 287 738 ls (vi z :: st) h Q) := R_il rfl (Or.inl rfl)
set_option maxRecDepth 20000 in
theorem e_287_738 : Ev X 287 738 ls st h Q ↔ Ev X 287 739 ls (vi 2 :: st) h Q := R_kc rfl (Or.inl ⟨Or.inl rfl, by decide⟩)
set_option maxRecDepth 20000 in
theorem e_287_739 {x y : Int} : Ev X 287 739 ls (vi y :: vi x :: st) h Q ↔ ((inR (x + y)) ∧ Ev X 287 740 ls (vi (x + y) :: st) h Q) := R_add rfl
set_option maxRecDepth 20000 in
theorem e_287_740 {x : Nat} {j : Int} : Ev X 287 740 ls (vi j :: vr x :: st) h Q ↔ (((X.1 x = 13 ∨ X.1 x = 20) ∧ 0 ≤ j ∧ j < X.2.1 x) ∧ Ev X 287 741 ls (vi (h.1 x j.toNat) :: st) h Q) := R_ia rfl
set_option maxRecDepth 20000 in
theorem e_287_741 : Ev X 287 741 ls st h Q ↔ onR (gl ls 0) (fun z => Ev X 287 742 ls (vr z :: st) h Q) := R_al rfl (Or.inl rfl)
set_option maxRecDepth 20000 in
theorem e_287_742 : Ev X 287 742 ls st h Q ↔ onI (gl ls 3) (fun z => Ev X 287 743 ls (vi z :: st) h Q) := R_il rfl (Or.inl rfl)
set_option maxRecDepth 20000 in
theorem e_287_743 : Ev X 287 743 ls st h Q ↔ Ev X 287 744 ls (vi 3 :: st) h Q := R_kc rfl (Or.inl ⟨Or.inl rfl, by decide⟩)
set_option maxRecDepth 20000 in
theorem e_287_744 {x y : Int} : Ev X 287 744 ls (vi y :: vi x :: st) h Q ↔ ((inR (x + y)) ∧ Ev X 287 745 ls (vi (x + y) :: st) h Q) := R_add rfl
set_option maxRecDepth 20000 in
theorem e_287_745 {x : Nat} {j : Int} : Ev X 287 745 ls (vi j :: vr x :: st) h Q ↔ (((X.1 x = 13 ∨ X.1 x = 20) ∧ 0 ≤ j ∧ j < X.2.1 x) ∧ Ev X 287 746 ls (vi (h.1 x j.toNat) :: st) h Q) := R_ia rfl
set_option maxRecDepth 20000 in
theorem e_287_746 : Ev X 287 746 ls st h Q ↔ onR (gl ls 0) (fun z => Ev X 287 747 ls (vr z :: st) h Q) := R_al rfl (Or.inl rfl)
set_option maxRecDepth 20000 in
theorem e_287_747 : Ev X 287 747 ls st h Q ↔ onI (gl ls 3) (fun z => Ev X 287 748 ls (vi z :: st) h Q) := R_il rfl (Or.inl rfl)
set_option maxRecDepth 20000 in
theorem e_287_748 : Ev X 287 748 ls st h Q ↔ Ev X 287 749 ls (vi 4 :: st) h Q := R_kc rfl (Or.inl ⟨Or.inl rfl, by decide⟩)
set_option maxRecDepth 20000 in
theorem e_287_749 {x y : Int} : Ev X 287 749 ls (vi y :: vi x :: st) h Q ↔ ((inR (x + y)) ∧ Ev X 287 750 ls (vi (x + y) :: st) h Q) := R_add rfl
set_option maxRecDepth 20000 in
theorem e_287_750 {x : Nat} {j : Int} : Ev X 287 750 ls (vi j :: vr x :: st) h Q ↔ (((X.1 x = 13 ∨ X.1 x = 20) ∧ 0 ≤ j ∧ j < X.2.1 x) ∧ Ev X 287 751 ls (vi (h.1 x j.toNat) :: st) h Q) := R_ia rfl
set_option maxRecDepth 20000 in
theorem e_287_751 {rest : List xV} {a0 : Int} {a1 : Int} {a2 : Int} {a3 : Int} {o : Nat} : Ev X 287 751 ls ((vi a3) :: (vi a2) :: (vi a1) :: (vi a0) :: vr o :: rest) h Q ↔ ((X.1 o = 11 ∧ wd rest ≤ 8) ∧ Cl X 131 [vr o, vi a0, vi a1, vi a2, vi a3] h (fun r h2 => Ev X 287 752 ls (r.toList ++ rest) h2 Q)) := R_cv (x := o) (as := [vi a0, vi a1, vi a2, vi a3]) (k2 := 131) rfl rfl (Nat.le_of_ble_eq_true rfl)
set_option maxRecDepth 20000 in
theorem e_287_752 : Ev X 287 752 ls st h Q ↔ onR (gl ls 2) (fun z => Ev X 287 753 ls (vr z :: st) h Q) := R_al rfl (Or.inl rfl)
set_option maxRecDepth 20000 in
theorem e_287_753 : Ev X 287 753 ls st h Q ↔ onR (gl ls 0) (fun z => Ev X 287 754 ls (vr z :: st) h Q) := R_al rfl (Or.inl rfl)
set_option maxRecDepth 20000 in
theorem e_287_754 : Ev X 287 754 ls st h Q ↔ onI (gl ls 3) (fun z => Ev X 287 755 ls (vi z :: st) h Q) := R_il rfl (Or.inl rfl)
set_option maxRecDepth 20000 in
theorem e_287_755 : Ev X 287 755 ls st h Q ↔ Ev X 287 756 ls (vi 1 :: st) h Q := R_kc rfl (Or.inl ⟨Or.inl rfl, by decide⟩)
set_option maxRecDepth 20000 in
theorem e_287_756 {x y : Int} : Ev X 287 756 ls (vi y :: vi x :: st) h Q ↔ ((inR (x + y)) ∧ Ev X 287 757 ls (vi (x + y) :: st) h Q) := R_add rfl
set_option maxRecDepth 20000 in
theorem e_287_757 {x : Nat} {j : Int} : Ev X 287 757 ls (vi j :: vr x :: st) h Q ↔ (((X.1 x = 13 ∨ X.1 x = 20) ∧ 0 ≤ j ∧ j < X.2.1 x) ∧ Ev X 287 758 ls (vi (h.1 x j.toNat) :: st) h Q) := R_ia rfl
set_option maxRecDepth 20000 in
theorem e_287_758 : Ev X 287 758 ls st h Q ↔ onR (gl ls 0) (fun z => Ev X 287 759 ls (vr z :: st) h Q) := R_al rfl (Or.inl rfl)
set_option maxRecDepth 20000 in
theorem e_287_759 : Ev X 287 759 ls st h Q ↔ onI (gl ls 3) (fun z => Ev X 287 760 ls (vi z :: st) h Q) := R_il rfl (Or.inl rfl)
set_option maxRecDepth 20000 in
theorem e_287_760 : Ev X 287 760 ls st h Q ↔ Ev X 287 761 ls (vi 2 :: st) h Q := R_kc rfl (Or.inl ⟨Or.inl rfl, by decide⟩)
set_option maxRecDepth 20000 in
theorem e_287_761 {x y : Int} : Ev X 287 761 ls (vi y :: vi x :: st) h Q ↔ ((inR (x + y)) ∧ Ev X 287 762 ls (vi (x + y) :: st) h Q) := R_add rfl
set_option maxRecDepth 20000 in
theorem e_287_762 {x : Nat} {j : Int} : Ev X 287 762 ls (vi j :: vr x :: st) h Q ↔ (((X.1 x = 13 ∨ X.1 x = 20) ∧ 0 ≤ j ∧ j < X.2.1 x) ∧ Ev X 287 763 ls (vi (h.1 x j.toNat) :: st) h Q) := R_ia rfl
set_option maxRecDepth 20000 in
theorem e_287_763 : Ev X 287 763 ls st h Q ↔ onR (gl ls 0) (fun z => Ev X 287 764 ls (vr z :: st) h Q) := R_al rfl (Or.inl rfl)
set_option maxRecDepth 20000 in
theorem e_287_764 : Ev X 287 764 ls st h Q ↔ onI (gl ls 3) (fun z => Ev X 287 765 ls (vi z :: st) h Q) := R_il rfl (Or.inl rfl)
set_option maxRecDepth 20000 in
theorem e_287_765 : Ev X 287 765 ls st h Q ↔ Ev X 287 766 ls (vi 3 :: st) h Q := R_kc rfl (Or.inl ⟨Or.inl rfl, by decide⟩)
set_option maxRecDepth 20000 in
theorem e_287_766 {x y : Int} : Ev X 287 766 ls (vi y :: vi x :: st) h Q ↔ ((inR (x + y)) ∧ Ev X 287 767 ls (vi (x + y) :: st) h Q) := R_add rfl
set_option maxRecDepth 20000 in
theorem e_287_767 {x : Nat} {j : Int} : Ev X 287 767 ls (vi j :: vr x :: st) h Q ↔ (((X.1 x = 13 ∨ X.1 x = 20) ∧ 0 ≤ j ∧ j < X.2.1 x) ∧ Ev X 287 768 ls (vi (h.1 x j.toNat) :: st) h Q) := R_ia rfl
set_option maxRecDepth 20000 in
theorem e_287_768 : Ev X 287 768 ls st h Q ↔ onR (gl ls 0) (fun z => Ev X 287 769 ls (vr z :: st) h Q) := R_al rfl (Or.inl rfl)
set_option maxRecDepth 20000 in
theorem e_287_769 : Ev X 287 769 ls st h Q ↔ onI (gl ls 3) (fun z => Ev X 287 770 ls (vi z :: st) h Q) := R_il rfl (Or.inl rfl)
set_option maxRecDepth 20000 in
theorem e_287_770 : Ev X 287 770 ls st h Q ↔ Ev X 287 771 ls (vi 4 :: st) h Q := R_kc rfl (Or.inl ⟨Or.inl rfl, by decide⟩)
set_option maxRecDepth 20000 in
theorem e_287_771 {x y : Int} : Ev X 287 771 ls (vi y :: vi x :: st) h Q ↔ ((inR (x + y)) ∧ Ev X 287 772 ls (vi (x + y) :: st) h Q) := R_add rfl
set_option maxRecDepth 20000 in
theorem e_287_772 {x : Nat} {j : Int} : Ev X 287 772 ls (vi j :: vr x :: st) h Q ↔ (((X.1 x = 13 ∨ X.1 x = 20) ∧ 0 ≤ j ∧ j < X.2.1 x) ∧ Ev X 287 773 ls (vi (h.1 x j.toNat) :: st) h Q) := R_ia rfl
set_option maxRecDepth 20000 in
theorem e_287_773 {rest : List xV} {a0 : Int} {a1 : Int} {a2 : Int} {a3 : Int} {o : Nat} : Ev X 287 773 ls ((vi a3) :: (vi a2) :: (vi a1) :: (vi a0) :: vr o :: rest) h Q ↔ ((X.1 o = 12 ∧ wd rest ≤ 8) ∧ Cl X 275 [vr o, vi a0, vi a1, vi a2, vi a3] h (fun r h2 => Ev X 287 774 ls (r.toList ++ rest) h2 Q)) := R_cv (x := o) (as := [vi a0, vi a1, vi a2, vi a3]) (k2 := 275) rfl rfl (Nat.le_of_ble_eq_true rfl)
set_option maxRecDepth 20000 in
theorem e_287_774 {x y : Int} : Ev X 287 774 ls (vi y :: vi x :: st) h Q ↔ (if x = y then Ev X 287 899 ls st h Q else Ev X 287 775 ls st h Q) := R_iceq rfl
set_option maxRecDepth 20000 in
theorem e_287_775 : Ev X 287 775 ls st h Q ↔ Ev X 287 776 ls (vi 0 :: st) h Q := R_kc rfl (Or.inl ⟨Or.inl rfl, by decide⟩)
set_option maxRecDepth 20000 in
theorem e_287_776 {z : Int} : Ev X 287 776 ls [vi z] h Q ↔ ((z = 0 ∨ z = 1) ∧ Q (some (vi z)) h) := R_zr rfl
set_option maxRecDepth 20000 in
theorem e_287_777 : Ev X 287 777 ls st h Q ↔ onR (gl ls 1) (fun z => Ev X 287 778 ls (vr z :: st) h Q) := R_al rfl (Or.inl rfl)
set_option maxRecDepth 20000 in
theorem e_287_778 : Ev X 287 778 ls st h Q ↔ onR (gl ls 0) (fun z => Ev X 287 779 ls (vr z :: st) h Q) := R_al rfl (Or.inl rfl)
set_option maxRecDepth 20000 in
theorem e_287_779 : Ev X 287 779 ls st h Q ↔ onI (gl ls 3) (fun z => Ev X 287 780 ls (vi z :: st) h Q) := R_il rfl (Or.inl rfl)
set_option maxRecDepth 20000 in
theorem e_287_780 : Ev X 287 780 ls st h Q ↔ Ev X 287 781 ls (vi 1 :: st) h Q := R_kc rfl (Or.inl ⟨Or.inl rfl, by decide⟩)
set_option maxRecDepth 20000 in
theorem e_287_781 {x y : Int} : Ev X 287 781 ls (vi y :: vi x :: st) h Q ↔ ((inR (x + y)) ∧ Ev X 287 782 ls (vi (x + y) :: st) h Q) := R_add rfl
set_option maxRecDepth 20000 in
theorem e_287_782 {x : Nat} {j : Int} : Ev X 287 782 ls (vi j :: vr x :: st) h Q ↔ (((X.1 x = 13 ∨ X.1 x = 20) ∧ 0 ≤ j ∧ j < X.2.1 x) ∧ Ev X 287 783 ls (vi (h.1 x j.toNat) :: st) h Q) := R_ia rfl
set_option maxRecDepth 20000 in
theorem e_287_783 : Ev X 287 783 ls st h Q ↔ onR (gl ls 0) (fun z => Ev X 287 784 ls (vr z :: st) h Q) := R_al rfl (Or.inl rfl)
set_option maxRecDepth 20000 in
theorem e_287_784 : Ev X 287 784 ls st h Q ↔ onI (gl ls 3) (fun z => Ev X 287 785 ls (vi z :: st) h Q) := R_il rfl (Or.inl rfl)
set_option maxRecDepth 20000 in
theorem e_287_785 : Ev X 287 785 ls st h Q ↔ Ev X 287 786 ls (vi 2 :: st) h Q := R_kc rfl (Or.inl ⟨Or.inl rfl, by decide⟩)
set_option maxRecDepth 20000 in
theorem e_287_786 {x y : Int} : Ev X 287 786 ls (vi y :: vi x :: st) h Q ↔ ((inR (x + y)) ∧ Ev X 287 787 ls (vi (x + y) :: st) h Q) := R_add rfl
set_option maxRecDepth 20000 in
theorem e_287_787 {x : Nat} {j : Int} : Ev X 287 787 ls (vi j :: vr x :: st) h Q ↔ (((X.1 x = 13 ∨ X.1 x = 20) ∧ 0 ≤ j ∧ j < X.2.1 x) ∧ Ev X 287 788 ls (vi (h.1 x j.toNat) :: st) h Q) := R_ia rfl
set_option maxRecDepth 20000 in
theorem e_287_788 : Ev X 287 788 ls st h Q ↔ onR (gl ls 0) (fun z => Ev X 287 789 ls (vr z :: st) h Q) := R_al rfl (Or.inl rfl)
set_option maxRecDepth 20000 in
theorem e_287_789 : Ev X 287 789 ls st h Q ↔ onI (gl ls 3) (fun z => Ev X 287 790 ls (vi z :: st) h Q) := R_il rfl (Or.inl rfl)
set_option maxRecDepth 20000 in
theorem e_287_790 : Ev X 287 790 ls st h Q ↔ Ev X 287 791 ls (vi 3 :: st) h Q := R_kc rfl (Or.inl ⟨Or.inl rfl, by decide⟩)
set_option maxRecDepth 20000 in
theorem e_287_791 {x y : Int} : Ev X 287 791 ls (vi y :: vi x :: st) h Q ↔ ((inR (x + y)) ∧ Ev X 287 792 ls (vi (x + y) :: st) h Q) := R_add rfl
set_option maxRecDepth 20000 in
theorem e_287_792 {x : Nat} {j : Int} : Ev X 287 792 ls (vi j :: vr x :: st) h Q ↔ (((X.1 x = 13 ∨ X.1 x = 20) ∧ 0 ≤ j ∧ j < X.2.1 x) ∧ Ev X 287 793 ls (vi (h.1 x j.toNat) :: st) h Q) := R_ia rfl
set_option maxRecDepth 20000 in
theorem e_287_793 {rest : List xV} {a0 : Int} {a1 : Int} {a2 : Int} {o : Nat} : Ev X 287 793 ls ((vi a2) :: (vi a1) :: (vi a0) :: vr o :: rest) h Q ↔ ((X.1 o = 11 ∧ wd rest ≤ 8) ∧ Cl X 132 [vr o, vi a0, vi a1, vi a2] h (fun r h2 => Ev X 287 794 ls (r.toList ++ rest) h2 Q)) := R_cv (x := o) (as := [vi a0, vi a1, vi a2]) (k2 := 132) rfl rfl (Nat.le_of_ble_eq_true rfl)
set_option maxRecDepth 20000 in
theorem e_287_794 : Ev X 287 794 ls st h Q ↔ onR (gl ls 2) (fun z => Ev X 287 795 ls (vr z :: st) h Q) := R_al rfl (Or.inl rfl)
set_option maxRecDepth 20000 in
theorem e_287_795 : Ev X 287 795 ls st h Q ↔ onR (gl ls 0) (fun z => Ev X 287 796 ls (vr z :: st) h Q) := R_al rfl (Or.inl rfl)
set_option maxRecDepth 20000 in
theorem e_287_796 : Ev X 287 796 ls st h Q ↔ onI (gl ls 3) (fun z => Ev X 287 797 ls (vi z :: st) h Q) := R_il rfl (Or.inl rfl)
set_option maxRecDepth 20000 in
theorem e_287_797 : Ev X 287 797 ls st h Q ↔ Ev X 287 798 ls (vi 1 :: st) h Q := R_kc rfl (Or.inl ⟨Or.inl rfl, by decide⟩)
set_option maxRecDepth 20000 in
theorem e_287_798 {x y : Int} : Ev X 287 798 ls (vi y :: vi x :: st) h Q ↔ ((inR (x + y)) ∧ Ev X 287 799 ls (vi (x + y) :: st) h Q) := R_add rfl
set_option maxRecDepth 20000 in
theorem e_287_799 {x : Nat} {j : Int} : Ev X 287 799 ls (vi j :: vr x :: st) h Q ↔ (((X.1 x = 13 ∨ X.1 x = 20) ∧ 0 ≤ j ∧ j < X.2.1 x) ∧ Ev X 287 800 ls (vi (h.1 x j.toNat) :: st) h Q) := R_ia rfl
set_option maxRecDepth 20000 in
theorem e_287_800 : Ev X 287 800 ls st h Q ↔ onR (gl ls 0) (fun z => Ev X 287 801 ls (vr z :: st) h Q) := R_al rfl (Or.inl rfl)
set_option maxRecDepth 20000 in
theorem e_287_801 : Ev X 287 801 ls st h Q ↔ onI (gl ls 3) (fun z => Ev X 287 802 ls (vi z :: st) h Q) := R_il rfl (Or.inl rfl)
set_option maxRecDepth 20000 in
theorem e_287_802 : Ev X 287 802 ls st h Q ↔ Ev X 287 803 ls (vi 2 :: st) h Q := R_kc rfl (Or.inl ⟨Or.inl rfl, by decide⟩)
set_option maxRecDepth 20000 in
theorem e_287_803 {x y : Int} : Ev X 287 803 ls (vi y :: vi x :: st) h Q ↔ ((inR (x + y)) ∧ Ev X 287 804 ls (vi (x + y) :: st) h Q) := R_add rfl
set_option maxRecDepth 20000 in
theorem e_287_804 {x : Nat} {j : Int} : Ev X 287 804 ls (vi j :: vr x :: st) h Q ↔ (((X.1 x = 13 ∨ X.1 x = 20) ∧ 0 ≤ j ∧ j < X.2.1 x) ∧ Ev X 287 805 ls (vi (h.1 x j.toNat) :: st) h Q) := R_ia rfl
set_option maxRecDepth 20000 in
theorem e_287_805 : Ev X 287 805 ls st h Q ↔ onR (gl ls 0) (fun z => Ev X 287 806 ls (vr z :: st) h Q) := R_al rfl (Or.inl rfl)
set_option maxRecDepth 20000 in
theorem e_287_806 : Ev X 287 806 ls st h Q ↔ onI (gl ls 3) (fun z => Ev X 287 807 ls (vi z :: st) h Q) := R_il rfl (Or.inl rfl)
set_option maxRecDepth 20000 in
theorem e_287_807 : Ev X 287 807 ls st h Q ↔ Ev X 287 808 ls (vi 3 :: st) h Q := R_kc rfl (Or.inl ⟨Or.inl rfl, by decide⟩)
set_option maxRecDepth 20000 in
theorem e_287_808 {x y : Int} : Ev X 287 808 ls (vi y :: vi x :: st) h Q ↔ ((inR (x + y)) ∧ Ev X 287 809 ls (vi (x + y) :: st) h Q) := R_add rfl
set_option maxRecDepth 20000 in
theorem e_287_809 {x : Nat} {j : Int} : Ev X 287 809 ls (vi j :: vr x :: st) h Q ↔ (((X.1 x = 13 ∨ X.1 x = 20) ∧ 0 ≤ j ∧ j < X.2.1 x) ∧ Ev X 287 810 ls (vi (h.1 x j.toNat) :: st) h Q) := R_ia rfl
set_option maxRecDepth 20000 in
theorem e_287_810 {rest : List xV} {a0 : Int} {a1 : Int} {a2 : Int} {o : Nat} : Ev X 287 810 ls ((vi a2) :: (vi a1) :: (vi a0) :: vr o :: rest) h Q ↔ ((X.1 o = 12 ∧ wd rest ≤ 8) ∧ Cl X 277 [vr o, vi a0, vi a1, vi a2] h (fun r h2 => Ev X 287 811 ls (r.toList ++ rest) h2 Q)) := R_cv (x := o) (as := [vi a0, vi a1, vi a2]) (k2 := 277) rfl rfl (Nat.le_of_ble_eq_true rfl)
set_option maxRecDepth 20000 in
theorem e_287_811 {x y : Int} : Ev X 287 811 ls (vi y :: vi x :: st) h Q ↔ (if x = y then Ev X 287 899 ls st h Q else Ev X 287 812 ls st h Q) := R_iceq rfl
set_option maxRecDepth 20000 in
theorem e_287_812 : Ev X 287 812 ls st h Q ↔ Ev X 287 813 ls (vi 0 :: st) h Q := R_kc rfl (Or.inl ⟨Or.inl rfl, by decide⟩)
set_option maxRecDepth 20000 in
theorem e_287_813 {z : Int} : Ev X 287 813 ls [vi z] h Q ↔ ((z = 0 ∨ z = 1) ∧ Q (some (vi z)) h) := R_zr rfl
set_option maxRecDepth 20000 in
theorem e_287_814 : Ev X 287 814 ls st h Q ↔ onR (gl ls 1) (fun z => Ev X 287 815 ls (vr z :: st) h Q) := R_al rfl (Or.inl rfl)
set_option maxRecDepth 20000 in
theorem e_287_815 : Ev X 287 815 ls st h Q ↔ onR (gl ls 0) (fun z => Ev X 287 816 ls (vr z :: st) h Q) := R_al rfl (Or.inl rfl)
set_option maxRecDepth 20000 in
theorem e_287_816 : Ev X 287 816 ls st h Q ↔ onI (gl ls 3) (fun z => Ev X 287 817 ls (vi z :: st) h Q) := R_il rfl (Or.inl rfl)
set_option maxRecDepth 20000 in
theorem e_287_817 : Ev X 287 817 ls st h Q ↔ Ev X 287 818 ls (vi 1 :: st) h Q := R_kc rfl (Or.inl ⟨Or.inl rfl, by decide⟩)
set_option maxRecDepth 20000 in
theorem e_287_818 {x y : Int} : Ev X 287 818 ls (vi y :: vi x :: st) h Q ↔ ((inR (x + y)) ∧ Ev X 287 819 ls (vi (x + y) :: st) h Q) := R_add rfl
set_option maxRecDepth 20000 in
theorem e_287_819 {x : Nat} {j : Int} : Ev X 287 819 ls (vi j :: vr x :: st) h Q ↔ (((X.1 x = 13 ∨ X.1 x = 20) ∧ 0 ≤ j ∧ j < X.2.1 x) ∧ Ev X 287 820 ls (vi (h.1 x j.toNat) :: st) h Q) := R_ia rfl
set_option maxRecDepth 20000 in
theorem e_287_820 : Ev X 287 820 ls st h Q ↔ onR (gl ls 0) (fun z => Ev X 287 821 ls (vr z :: st) h Q) := R_al rfl (Or.inl rfl)
set_option maxRecDepth 20000 in
theorem e_287_821 : Ev X 287 821 ls st h Q ↔ onI (gl ls 3) (fun z => Ev X 287 822 ls (vi z :: st) h Q) := R_il rfl (Or.inl rfl)
set_option maxRecDepth 20000 in
theorem e_287_822 : Ev X 287 822 ls st h Q ↔ Ev X 287 823 ls (vi 2 :: st) h Q := R_kc rfl (Or.inl ⟨Or.inl rfl, by decide⟩)
set_option maxRecDepth 20000 in
theorem e_287_823 {x y : Int} : Ev X 287 823 ls (vi y :: vi x :: st) h Q ↔ ((inR (x + y)) ∧ Ev X 287 824 ls (vi (x + y) :: st) h Q) := R_add rfl
set_option maxRecDepth 20000 in
theorem e_287_824 {x : Nat} {j : Int} : Ev X 287 824 ls (vi j :: vr x :: st) h Q ↔ (((X.1 x = 13 ∨ X.1 x = 20) ∧ 0 ≤ j ∧ j < X.2.1 x) ∧ Ev X 287 825 ls (vi (h.1 x j.toNat) :: st) h Q) := R_ia rfl
set_option maxRecDepth 20000 in
theorem e_287_825 {rest : List xV} {a0 : Int} {a1 : Int} {o : Nat} : Ev X 287 825 ls ((vi a1) :: (vi a0) :: vr o :: rest) h Q ↔ ((X.1 o = 11 ∧ wd rest ≤ 8) ∧ Cl X 133 [vr o, vi a0, vi a1] h (fun r h2 => Ev X 287 826 ls (r.toList ++ rest) h2 Q)) := R_cv (x := o) (as := [vi a0, vi a1]) (k2 := 133) rfl rfl (Nat.le_of_ble_eq_true rfl)
set_option maxRecDepth 20000 in
theorem e_287_826 : Ev X 287 826 ls st h Q ↔ onR (gl ls 2) (fun z => Ev X 287 827 ls (vr z :: st) h Q) := R_al rfl (Or.inl rfl)
set_option maxRecDepth 20000 in
theorem e_287_827 : Ev X 287 827 ls st h Q ↔ onR (gl ls 0) (fun z => Ev X 287 828 ls (vr z :: st) h Q) := R_al rfl (Or.inl rfl)
set_option maxRecDepth 20000 in
theorem e_287_828 : Ev X 287 828 ls st h Q ↔ onI (gl ls 3) (fun z => Ev X 287 829 ls (vi z :: st) h Q) := R_il rfl (Or.inl rfl)
set_option maxRecDepth 20000 in
theorem e_287_829 : Ev X 287 829 ls st h Q ↔ Ev X 287 830 ls (vi 1 :: st) h Q := R_kc rfl (Or.inl ⟨Or.inl rfl, by decide⟩)
set_option maxRecDepth 20000 in
theorem e_287_830 {x y : Int} : Ev X 287 830 ls (vi y :: vi x :: st) h Q ↔ ((inR (x + y)) ∧ Ev X 287 831 ls (vi (x + y) :: st) h Q) := R_add rfl
set_option maxRecDepth 20000 in
theorem e_287_831 {x : Nat} {j : Int} : Ev X 287 831 ls (vi j :: vr x :: st) h Q ↔ (((X.1 x = 13 ∨ X.1 x = 20) ∧ 0 ≤ j ∧ j < X.2.1 x) ∧ Ev X 287 832 ls (vi (h.1 x j.toNat) :: st) h Q) := R_ia rfl
set_option maxRecDepth 20000 in
theorem e_287_832 : Ev X 287 832 ls st h Q ↔ onR (gl ls 0) (fun z => Ev X 287 833 ls (vr z :: st) h Q) := R_al rfl (Or.inl rfl)
set_option maxRecDepth 20000 in
theorem e_287_833 : Ev X 287 833 ls st h Q ↔ onI (gl ls 3) (fun z => Ev X 287 834 ls (vi z :: st) h Q) := R_il rfl (Or.inl rfl)
set_option maxRecDepth 20000 in
theorem e_287_834 : Ev X 287 834 ls st h Q ↔ Ev X 287 835 ls (vi 2 :: st) h Q := R_kc rfl (Or.inl ⟨Or.inl rfl, by decide⟩)
set_option maxRecDepth 20000 in
theorem e_287_835 {x y : Int} : Ev X 287 835 ls (vi y :: vi x :: st) h Q ↔ ((inR (x + y)) ∧ Ev X 287 836 ls (vi (x + y) :: st) h Q) := R_add rfl
set_option maxRecDepth 20000 in
theorem e_287_836 {x : Nat} {j : Int} : Ev X 287 836 ls (vi j :: vr x :: st) h Q ↔ (((X.1 x = 13 ∨ X.1 x = 20) ∧ 0 ≤ j ∧ j < X.2.1 x) ∧ Ev X 287 837 ls (vi (h.1 x j.toNat) :: st) h Q) := R_ia rfl
set_option maxRecDepth 20000 in
theorem e_287_837 {rest : List xV} {a0 : Int} {a1 : Int} {o : Nat} : Ev X 287 837 ls ((vi a1) :: (vi a0) :: vr o :: rest) h Q ↔ ((X.1 o = 12 ∧ wd rest ≤ 8) ∧ Cl X 278 [vr o, vi a0, vi a1] h (fun r h2 => Ev X 287 838 ls (r.toList ++ rest) h2 Q)) := R_cv (x := o) (as := [vi a0, vi a1]) (k2 := 278) rfl rfl (Nat.le_of_ble_eq_true rfl)
set_option maxRecDepth 20000 in
theorem e_287_838 {x y : Int} : Ev X 287 838 ls (vi y :: vi x :: st) h Q ↔ (if x = y then Ev X 287 899 ls st h Q else Ev X 287 839 ls st h Q) := R_iceq rfl
set_option maxRecDepth 20000 in
theorem e_287_839 : Ev X 287 839 ls st h Q ↔ Ev X 287 840 ls (vi 0 :: st) h Q := R_kc rfl (Or.inl ⟨Or.inl rfl, by decide⟩)
set_option maxRecDepth 20000 in
theorem e_287_840 {z : Int} : Ev X 287 840 ls [vi z] h Q ↔ ((z = 0 ∨ z = 1) ∧ Q (some (vi z)) h) := R_zr rfl
set_option maxRecDepth 20000 in
theorem e_287_841 : Ev X 287 841 ls st h Q ↔ onR (gl ls 1) (fun z => Ev X 287 842 ls (vr z :: st) h Q) := R_al rfl (Or.inl rfl)
set_option maxRecDepth 20000 in
theorem e_287_842 : Ev X 287 842 ls st h Q ↔ onR (gl ls 0) (fun z => Ev X 287 843 ls (vr z :: st) h Q) := R_al rfl (Or.inl rfl)
set_option maxRecDepth 20000 in
theorem e_287_843 : Ev X 287 843 ls st h Q ↔ onI (gl ls 3) (fun z => Ev X 287 844 ls (vi z :: st) h Q) := R_il rfl (Or.inl rfl)
set_option maxRecDepth 20000 in
theorem e_287_844 : Ev X 287 844 ls st h Q ↔ Ev X 287 845 ls (vi 1 :: st) h Q := R_kc rfl (Or.inl ⟨Or.inl rfl, by decide⟩)
set_option maxRecDepth 20000 in
theorem e_287_845 {x y : Int} : Ev X 287 845 ls (vi y :: vi x :: st) h Q ↔ ((inR (x + y)) ∧ Ev X 287 846 ls (vi (x + y) :: st) h Q) := R_add rfl
set_option maxRecDepth 20000 in
theorem e_287_846 {x : Nat} {j : Int} : Ev X 287 846 ls (vi j :: vr x :: st) h Q ↔ (((X.1 x = 13 ∨ X.1 x = 20) ∧ 0 ≤ j ∧ j < X.2.1 x) ∧ Ev X 287 847 ls (vi (h.1 x j.toNat) :: st) h Q) := R_ia rfl
set_option maxRecDepth 20000 in
theorem e_287_847 {rest : List xV} {a0 : Int} {o : Nat} : Ev X 287 847 ls ((vi a0) :: vr o :: rest) h Q ↔ ((X.1 o = 11 ∧ wd rest ≤ 8) ∧ Cl X 134 [vr o, vi a0] h (fun r h2 => Ev X 287 848 ls (r.toList ++ rest) h2 Q)) := R_cv (x := o) (as := [vi a0]) (k2 := 134) rfl rfl (Nat.le_of_ble_eq_true rfl)
set_option maxRecDepth 20000 in
theorem e_287_848 : Ev X 287 848 ls st h Q ↔ onR (gl ls 2) (fun z => Ev X 287 849 ls (vr z :: st) h Q) := R_al rfl (Or.inl rfl)
set_option maxRecDepth 20000 in
theorem e_287_849 : Ev X 287 849 ls st h Q ↔ onR (gl ls 0) (fun z => Ev X 287 850 ls (vr z :: st) h Q) := R_al rfl (Or.inl rfl)
set_option maxRecDepth 20000 in
theorem e_287_850 : Ev X 287 850 ls st h Q ↔ onI (gl ls 3) (fun z => Ev X 287 851 ls (vi z :: st) h Q) := R_il rfl (Or.inl rfl)
set_option maxRecDepth 20000 in
theorem e_287_851 : Ev X 287 851 ls st h Q ↔ Ev X 287 852 ls (vi 1 :: st) h Q := R_kc rfl (Or.inl ⟨Or.inl rfl, by decide⟩)
set_option maxRecDepth 20000 in
theorem e_287_852 {x y : Int} : Ev X 287 852 ls (vi y :: vi x :: st) h Q ↔ ((inR (x + y)) ∧ Ev X 287 853 ls (vi (x + y) :: st) h Q) := R_add rfl
set_option maxRecDepth 20000 in
theorem e_287_853 {x : Nat} {j : Int} : Ev X 287 853 ls (vi j :: vr x :: st) h Q ↔ (((X.1 x = 13 ∨ X.1 x = 20) ∧ 0 ≤ j ∧ j < X.2.1 x) ∧ Ev X 287 854 ls (vi (h.1 x j.toNat) :: st) h Q) := R_ia rfl
set_option maxRecDepth 20000 in
theorem e_287_854 {rest : List xV} {a0 : Int} {o : Nat} : Ev X 287 854 ls ((vi a0) :: vr o :: rest) h Q ↔ ((X.1 o = 12 ∧ wd rest ≤ 8) ∧ Cl X 245 [vr o, vi a0] h (fun r h2 => Ev X 287 855 ls (r.toList ++ rest) h2 Q)) := R_cv (x := o) (as := [vi a0]) (k2 := 245) rfl rfl (Nat.le_of_ble_eq_true rfl)
set_option maxRecDepth 20000 in
theorem e_287_855 {x y : Int} : Ev X 287 855 ls (vi y :: vi x :: st) h Q ↔ (if x = y then Ev X 287 899 ls st h Q else Ev X 287 856 ls st h Q) := R_iceq rfl
set_option maxRecDepth 20000 in
theorem e_287_856 : Ev X 287 856 ls st h Q ↔ Ev X 287 857 ls (vi 0 :: st) h Q := R_kc rfl (Or.inl ⟨Or.inl rfl, by decide⟩)
set_option maxRecDepth 20000 in
theorem e_287_857 {z : Int} : Ev X 287 857 ls [vi z] h Q ↔ ((z = 0 ∨ z = 1) ∧ Q (some (vi z)) h) := R_zr rfl
set_option maxRecDepth 20000 in
theorem e_287_858 : Ev X 287 858 ls st h Q ↔ onR (gl ls 1) (fun z => Ev X 287 859 ls (vr z :: st) h Q) := R_al rfl (Or.inl rfl)
set_option maxRecDepth 20000 in
theorem e_287_859 : Ev X 287 859 ls st h Q ↔ onR (gl ls 0) (fun z => Ev X 287 860 ls (vr z :: st) h Q) := R_al rfl (Or.inl rfl)
set_option maxRecDepth 20000 in
theorem e_287_860 : Ev X 287 860 ls st h Q ↔ onI (gl ls 3) (fun z => Ev X 287 861 ls (vi z :: st) h Q) := R_il rfl (Or.inl rfl)
set_option maxRecDepth 20000 in
theorem e_287_861 : Ev X 287 861 ls st h Q ↔ Ev X 287 862 ls (vi 1 :: st) h Q := R_kc rfl (Or.inl ⟨Or.inl rfl, by decide⟩)
set_option maxRecDepth 20000 in
theorem e_287_862 {x y : Int} : Ev X 287 862 ls (vi y :: vi x :: st) h Q ↔ ((inR (x + y)) ∧ Ev X 287 863 ls (vi (x + y) :: st) h Q) := R_add rfl
set_option maxRecDepth 20000 in
theorem e_287_863 {x : Nat} {j : Int} : Ev X 287 863 ls (vi j :: vr x :: st) h Q ↔ (((X.1 x = 13 ∨ X.1 x = 20) ∧ 0 ≤ j ∧ j < X.2.1 x) ∧ Ev X 287 864 ls (vi (h.1 x j.toNat) :: st) h Q) := R_ia rfl
set_option maxRecDepth 20000 in
theorem e_287_864 {rest : List xV} {a0 : Int} {o : Nat} : Ev X 287 864 ls ((vi a0) :: vr o :: rest) h Q ↔ ((X.1 o = 11 ∧ wd rest ≤ 8) ∧ Cl X 135 [vr o, vi a0] h (fun r h2 => Ev X 287 865 ls (r.toList ++ rest) h2 Q)) := R_cv (x := o) (as := [vi a0]) (k2 := 135) rfl rfl (Nat.le_of_ble_eq_true rfl)
set_option maxRecDepth 20000 in
theorem e_287_865 : Ev X 287 865 ls st h Q ↔ onR (gl ls 2) (fun z => Ev X 287 866 ls (vr z :: st) h Q) := R_al rfl (Or.inl rfl)
set_option maxRecDepth 20000 in
theorem e_287_866 : Ev X 287 866 ls st h Q ↔ onR (gl ls 0) (fun z => Ev X 287 867 ls (vr z :: st) h Q) := R_al rfl (Or.inl rfl)
set_option maxRecDepth 20000 in
theorem e_287_867 : Ev X 287 867 ls st h Q ↔ onI (gl ls 3) (fun z => Ev X 287 868 ls (vi z :: st) h Q) := R_il rfl (Or.inl rfl)
set_option maxRecDepth 20000 in
theorem e_287_868 : Ev X 287 868 ls st h Q ↔ Ev X 287 869 ls (vi 1 :: st) h Q := R_kc rfl (Or.inl ⟨Or.inl rfl, by decide⟩)
set_option maxRecDepth 20000 in
theorem e_287_869 {x y : Int} : Ev X 287 869 ls (vi y :: vi x :: st) h Q ↔ ((inR (x + y)) ∧ Ev X 287 870 ls (vi (x + y) :: st) h Q) := R_add rfl
set_option maxRecDepth 20000 in
theorem e_287_870 {x : Nat} {j : Int} : Ev X 287 870 ls (vi j :: vr x :: st) h Q ↔ (((X.1 x = 13 ∨ X.1 x = 20) ∧ 0 ≤ j ∧ j < X.2.1 x) ∧ Ev X 287 871 ls (vi (h.1 x j.toNat) :: st) h Q) := R_ia rfl
set_option maxRecDepth 20000 in
theorem e_287_871 {rest : List xV} {a0 : Int} {o : Nat} : Ev X 287 871 ls ((vi a0) :: vr o :: rest) h Q ↔ ((X.1 o = 12 ∧ wd rest ≤ 8) ∧ Cl X 279 [vr o, vi a0] h (fun r h2 => Ev X 287 872 ls (r.toList ++ rest) h2 Q)) := R_cv (x := o) (as := [vi a0]) (k2 := 279) rfl rfl (Nat.le_of_ble_eq_true rfl)
set_option maxRecDepth 20000 in
theorem e_287_872 {x y : Int} : Ev X 287 872 ls (vi y :: vi x :: st) h Q ↔ (if x = y then Ev X 287 899 ls st h Q else Ev X 287 873 ls st h Q) := R_iceq rfl
set_option maxRecDepth 20000 in
theorem e_287_873 : Ev X 287 873 ls st h Q ↔ Ev X 287 874 ls (vi 0 :: st) h Q := R_kc rfl (Or.inl ⟨Or.inl rfl, by decide⟩)
set_option maxRecDepth 20000 in
theorem e_287_874 {z : Int} : Ev X 287 874 ls [vi z] h Q ↔ ((z = 0 ∨ z = 1) ∧ Q (some (vi z)) h) := R_zr rfl
set_option maxRecDepth 20000 in
theorem e_287_875 : Ev X 287 875 ls st h Q ↔ onR (gl ls 1) (fun z => Ev X 287 876 ls (vr z :: st) h Q) := R_al rfl (Or.inl rfl)
set_option maxRecDepth 20000 in
theorem e_287_876 : Ev X 287 876 ls st h Q ↔ onR (gl ls 0) (fun z => Ev X 287 877 ls (vr z :: st) h Q) := R_al rfl (Or.inl rfl)
set_option maxRecDepth 20000 in
theorem e_287_877 : Ev X 287 877 ls st h Q ↔ onI (gl ls 3) (fun z => Ev X 287 878 ls (vi z :: st) h Q) := R_il rfl (Or.inl rfl)
set_option maxRecDepth 20000 in
theorem e_287_878 : Ev X 287 878 ls st h Q ↔ Ev X 287 879 ls (vi 1 :: st) h Q := R_kc rfl (Or.inl ⟨Or.inl rfl, by decide⟩)
set_option maxRecDepth 20000 in
theorem e_287_879 {x y : Int} : Ev X 287 879 ls (vi y :: vi x :: st) h Q ↔ ((inR (x + y)) ∧ Ev X 287 880 ls (vi (x + y) :: st) h Q) := R_add rfl
set_option maxRecDepth 20000 in
theorem e_287_880 {x : Nat} {j : Int} : Ev X 287 880 ls (vi j :: vr x :: st) h Q ↔ (((X.1 x = 13 ∨ X.1 x = 20) ∧ 0 ≤ j ∧ j < X.2.1 x) ∧ Ev X 287 881 ls (vi (h.1 x j.toNat) :: st) h Q) := R_ia rfl
set_option maxRecDepth 20000 in
theorem e_287_881 {rest : List xV} {a0 : Int} {o : Nat} : Ev X 287 881 ls ((vi a0) :: vr o :: rest) h Q ↔ ((X.1 o = 11 ∧ wd rest ≤ 8) ∧ Cl X 136 [vr o, vi a0] h (fun r h2 => Ev X 287 882 ls (r.toList ++ rest) h2 Q)) := R_cv (x := o) (as := [vi a0]) (k2 := 136) rfl rfl (Nat.le_of_ble_eq_true rfl)
set_option maxRecDepth 20000 in
theorem e_287_882 : Ev X 287 882 ls st h Q ↔ onR (gl ls 2) (fun z => Ev X 287 883 ls (vr z :: st) h Q) := R_al rfl (Or.inl rfl)
set_option maxRecDepth 20000 in
theorem e_287_883 : Ev X 287 883 ls st h Q ↔ onR (gl ls 0) (fun z => Ev X 287 884 ls (vr z :: st) h Q) := R_al rfl (Or.inl rfl)
set_option maxRecDepth 20000 in
theorem e_287_884 : Ev X 287 884 ls st h Q ↔ onI (gl ls 3) (fun z => Ev X 287 885 ls (vi z :: st) h Q) := R_il rfl (Or.inl rfl)
set_option maxRecDepth 20000 in
theorem e_287_885 : Ev X 287 885 ls st h Q ↔ Ev X 287 886 ls (vi 1 :: st) h Q := R_kc rfl (Or.inl ⟨Or.inl rfl, by decide⟩)
set_option maxRecDepth 20000 in
theorem e_287_886 {x y : Int} : Ev X 287 886 ls (vi y :: vi x :: st) h Q ↔ ((inR (x + y)) ∧ Ev X 287 887 ls (vi (x + y) :: st) h Q) := R_add rfl
set_option maxRecDepth 20000 in
theorem e_287_887 {x : Nat} {j : Int} : Ev X 287 887 ls (vi j :: vr x :: st) h Q ↔ (((X.1 x = 13 ∨ X.1 x = 20) ∧ 0 ≤ j ∧ j < X.2.1 x) ∧ Ev X 287 888 ls (vi (h.1 x j.toNat) :: st) h Q) := R_ia rfl
set_option maxRecDepth 20000 in
theorem e_287_888 {rest : List xV} {a0 : Int} {o : Nat} : Ev X 287 888 ls ((vi a0) :: vr o :: rest) h Q ↔ ((X.1 o = 12 ∧ wd rest ≤ 8) ∧ Cl X 280 [vr o, vi a0] h (fun r h2 => Ev X 287 889 ls (r.toList ++ rest) h2 Q)) := R_cv (x := o) (as := [vi a0]) (k2 := 280) rfl rfl (Nat.le_of_ble_eq_true rfl)
set_option maxRecDepth 20000 in
theorem e_287_889 {x y : Int} : Ev X 287 889 ls (vi y :: vi x :: st) h Q ↔ (if x = y then Ev X 287 899 ls st h Q else Ev X 287 890 ls st h Q) := R_iceq rfl
set_option maxRecDepth 20000 in
theorem e_287_890 : Ev X 287 890 ls st h Q ↔ Ev X 287 891 ls (vi 0 :: st) h Q := R_kc rfl (Or.inl ⟨Or.inl rfl, by decide⟩)
set_option maxRecDepth 20000 in
theorem e_287_891 {z : Int} : Ev X 287 891 ls [vi z] h Q ↔ ((z = 0 ∨ z = 1) ∧ Q (some (vi z)) h) := R_zr rfl
set_option maxRecDepth 20000 in
theorem e_287_892 : Ev X 287 892 ls st h Q ↔ onR (gl ls 1) (fun z => Ev X 287 893 ls (vr z :: st) h Q) := R_al rfl (Or.inl rfl)
set_option maxRecDepth 20000 in
theorem e_287_893 {rest : List xV}  {o : Nat} : Ev X 287 893 ls (vr o :: rest) h Q ↔ ((X.1 o = 11 ∧ wd rest ≤ 8) ∧ Cl X 137 [vr o] h (fun r h2 => Ev X 287 894 ls (r.toList ++ rest) h2 Q)) := R_cv (x := o) (as := []) (k2 := 137) rfl rfl (Nat.le_of_ble_eq_true rfl)
set_option maxRecDepth 20000 in
theorem e_287_894 : Ev X 287 894 ls st h Q ↔ onR (gl ls 2) (fun z => Ev X 287 895 ls (vr z :: st) h Q) := R_al rfl (Or.inl rfl)
set_option maxRecDepth 20000 in
theorem e_287_895 {rest : List xV}  {o : Nat} : Ev X 287 895 ls (vr o :: rest) h Q ↔ ((X.1 o = 12 ∧ wd rest ≤ 8) ∧ Cl X 281 [vr o] h (fun r h2 => Ev X 287 896 ls (r.toList ++ rest) h2 Q)) := R_cv (x := o) (as := []) (k2 := 281) rfl rfl (Nat.le_of_ble_eq_true rfl)
set_option maxRecDepth 20000 in
theorem e_287_896 {x y : Int} : Ev X 287 896 ls (vi y :: vi x :: st) h Q ↔ (if x = y then Ev X 287 899 ls st h Q else Ev X 287 897 ls st h Q) := R_iceq rfl
set_option maxRecDepth 20000 in
theorem e_287_897 : Ev X 287 897 ls st h Q ↔ Ev X 287 898 ls (vi 0 :: st) h Q := R_kc rfl (Or.inl ⟨Or.inl rfl, by decide⟩)
set_option maxRecDepth 20000 in
theorem e_287_898 {z : Int} : Ev X 287 898 ls [vi z] h Q ↔ ((z = 0 ∨ z = 1) ∧ Q (some (vi z)) h) := R_zr rfl
set_option maxRecDepth 20000 in
theorem e_287_899 : Ev X 287 899 ls st h Q ↔ onI (gl ls 3) (fun x => (stOK ls 3 = true ∧ inR (x + 6)) ∧ Ev X 287 900 (ls.set 3 (some (vi (x + 6)))) st h Q) := R_inc rfl
set_option maxRecDepth 20000 in
theorem e_287_900 : Ev X 287 900 ls st h Q ↔ Ev X 287 22 ls st h Q := R_go rfl
set_option maxRecDepth 20000 in
theorem e_287_901 : Ev X 287 901 ls st h Q ↔ Ev X 287 902 ls (vi 1 :: st) h Q := R_kc rfl (Or.inl ⟨Or.inl rfl, by decide⟩)
set_option maxRecDepth 20000 in
theorem e_287_902 {z : Int} : Ev X 287 902 ls [vi z] h Q ↔ ((z = 0 ∨ z = 1) ∧ Q (some (vi z)) h) := R_zr rfl
end RUL
