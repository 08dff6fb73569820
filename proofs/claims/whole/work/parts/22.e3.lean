section RUL
variable {X : xL} {ls : List (Option xV)} {st : List xV} {h : xH} {Q : Option xV → xH → Prop}
-- 112: CellRows.fix(III)I
theorem e_112_0 : Ev X 112 0 ls st h Q ↔ onR (gl ls 0) (fun z => Ev X 112 1 ls (vr z :: st) h Q) := R_al rfl (Or.inl rfl)
theorem e_112_1 {x : Nat} : Ev X 112 1 ls (vr x :: st) h Q ↔ (X.1 x = 11 ∧ Ev X 112 2 ls (vr (X.2.2.1 x 5) :: st) h Q) := R_gr rfl
theorem e_112_2 : Ev X 112 2 ls st h Q ↔ onI (gl ls 2) (fun z => Ev X 112 3 ls (vi z :: st) h Q) := R_il rfl (Or.inl rfl)
theorem e_112_3 : Ev X 112 3 ls st h Q ↔ onI (gl ls 3) (fun z => Ev X 112 4 ls (vi z :: st) h Q) := R_il rfl (Or.inl rfl)
theorem e_112_4 {rest : List xV} {a0 : Int} {a1 : Int} {o : Nat} : Ev X 112 4 ls ((vi a1) :: (vi a0) :: vr o :: rest) h Q ↔ ((X.1 o = 9 ∧ wd rest ≤ 8) ∧ Cl X 77 [vr o, vi a0, vi a1] h (fun r h2 => Ev X 112 5 ls (r.toList ++ rest) h2 Q)) := R_cv (x := o) (as := [vi a0, vi a1]) (k2 := 77) rfl rfl (Nat.le_of_ble_eq_true rfl)
theorem e_112_5 {x : Int} : Ev X 112 5 ls (vi x :: st) h Q ↔ (if ¬ x = 0 then Ev X 112 10 ls st h Q else Ev X 112 6 ls st h Q) := R_ifne rfl
theorem e_112_6 : Ev X 112 6 ls st h Q ↔ onR (gl ls 0) (fun z => Ev X 112 7 ls (vr z :: st) h Q) := R_al rfl (Or.inl rfl)
theorem e_112_7 : Ev X 112 7 ls st h Q ↔ Ev X 112 8 ls (vi (-1) :: st) h Q := R_kc rfl (Or.inl ⟨Or.inl rfl, by decide⟩)
theorem e_112_8 {rest : List xV} {a0 : Int} {o : Nat} : Ev X 112 8 ls ((vi a0) :: vr o :: rest) h Q ↔ ((X.1 o = 11 ∧ wd rest ≤ 8) ∧ Cl X 138 [vr o, vi a0] h (fun r h2 => Ev X 112 9 ls (r.toList ++ rest) h2 Q)) := R_cv (x := o) (as := [vi a0]) (k2 := 138) rfl rfl (Nat.le_of_ble_eq_true rfl)
theorem e_112_9 {z : Int} : Ev X 112 9 ls [vi z] h Q ↔ Q (some (vi z)) h := R_ir rfl
theorem e_112_10 : Ev X 112 10 ls st h Q ↔ onR (gl ls 0) (fun z => Ev X 112 11 ls (vr z :: st) h Q) := R_al rfl (Or.inl rfl)
theorem e_112_11 {x : Nat} : Ev X 112 11 ls (vr x :: st) h Q ↔ (X.1 x = 11 ∧ Ev X 112 12 ls (vr (X.2.2.1 x 5) :: st) h Q) := R_gr rfl
theorem e_112_12 : Ev X 112 12 ls st h Q ↔ onI (gl ls 1) (fun z => Ev X 112 13 ls (vi z :: st) h Q) := R_il rfl (Or.inl rfl)
theorem e_112_13 {rest : List xV} {a0 : Int} {o : Nat} : Ev X 112 13 ls ((vi a0) :: vr o :: rest) h Q ↔ ((X.1 o = 9 ∧ wd rest ≤ 8) ∧ Cl X 79 [vr o, vi a0] h (fun r h2 => Ev X 112 14 ls (r.toList ++ rest) h2 Q)) := R_cv (x := o) (as := [vi a0]) (k2 := 79) rfl rfl (Nat.le_of_ble_eq_true rfl)
theorem e_112_14 {x : Int} : Ev X 112 14 ls (vi x :: st) h Q ↔ (if ¬ x = 0 then Ev X 112 19 ls st h Q else Ev X 112 15 ls st h Q) := R_ifne rfl
theorem e_112_15 : Ev X 112 15 ls st h Q ↔ onR (gl ls 0) (fun z => Ev X 112 16 ls (vr z :: st) h Q) := R_al rfl (Or.inl rfl)
theorem e_112_16 : Ev X 112 16 ls st h Q ↔ Ev X 112 17 ls (vi (-2) :: st) h Q := R_kc rfl (Or.inr (Or.inl ⟨rfl, by decide⟩))
theorem e_112_17 {rest : List xV} {a0 : Int} {o : Nat} : Ev X 112 17 ls ((vi a0) :: vr o :: rest) h Q ↔ ((X.1 o = 11 ∧ wd rest ≤ 8) ∧ Cl X 138 [vr o, vi a0] h (fun r h2 => Ev X 112 18 ls (r.toList ++ rest) h2 Q)) := R_cv (x := o) (as := [vi a0]) (k2 := 138) rfl rfl (Nat.le_of_ble_eq_true rfl)
theorem e_112_18 {z : Int} : Ev X 112 18 ls [vi z] h Q ↔ Q (some (vi z)) h := R_ir rfl
theorem e_112_19 : Ev X 112 19 ls st h Q ↔ onR (gl ls 0) (fun z => Ev X 112 20 ls (vr z :: st) h Q) := R_al rfl (Or.inl rfl)
theorem e_112_20 {x : Nat} : Ev X 112 20 ls (vr x :: st) h Q ↔ (X.1 x = 11 ∧ Ev X 112 21 ls (vr (X.2.2.1 x 5) :: st) h Q) := R_gr rfl
theorem e_112_21 {x : Nat} : Ev X 112 21 ls (vr x :: st) h Q ↔ (X.1 x = 9 ∧ Ev X 112 22 ls (vr (X.2.2.1 x 4) :: st) h Q) := R_gr rfl
theorem e_112_22 {x : Nat} : Ev X 112 22 ls (vr x :: st) h Q ↔ (stOK ls 4 = true ∧ Ev X 112 23 (ls.set 4 (some (vr x))) st h Q) := R_as rfl (Or.inr rfl)
theorem e_112_23 : Ev X 112 23 ls st h Q ↔ onR (gl ls 4) (fun z => Ev X 112 24 ls (vr z :: st) h Q) := R_al rfl (Or.inr rfl)
theorem e_112_24 {x : Nat} : Ev X 112 24 ls (vr x :: st) h Q ↔ (X.1 x = 3 ∧ Ev X 112 25 ls (vr (X.2.2.1 x 3) :: st) h Q) := R_gr rfl
theorem e_112_25 : Ev X 112 25 ls st h Q ↔ onI (gl ls 1) (fun z => Ev X 112 26 ls (vi z :: st) h Q) := R_il rfl (Or.inl rfl)
theorem e_112_26 {x : Nat} {j : Int} : Ev X 112 26 ls (vi j :: vr x :: st) h Q ↔ ((X.1 x = 14 ∧ 0 ≤ j ∧ j < X.2.1 x) ∧ Ev X 112 27 ls (vi (h.1 x j.toNat) :: st) h Q) := R_ba rfl
theorem e_112_27 {x : Int} : Ev X 112 27 ls (vi x :: st) h Q ↔ (if ¬ x = 0 then Ev X 112 49 ls st h Q else Ev X 112 28 ls st h Q) := R_ifne rfl
theorem e_112_28 : Ev X 112 28 ls st h Q ↔ onR (gl ls 0) (fun z => Ev X 112 29 ls (vr z :: st) h Q) := R_al rfl (Or.inl rfl)
theorem e_112_29 {x : Nat} : Ev X 112 29 ls (vr x :: st) h Q ↔ (X.1 x = 11 ∧ Ev X 112 30 ls (vr (X.2.2.1 x 5) :: st) h Q) := R_gr rfl
theorem e_112_30 : Ev X 112 30 ls st h Q ↔ onI (gl ls 1) (fun z => Ev X 112 31 ls (vi z :: st) h Q) := R_il rfl (Or.inl rfl)
theorem e_112_31 : Ev X 112 31 ls st h Q ↔ onI (gl ls 2) (fun z => Ev X 112 32 ls (vi z :: st) h Q) := R_il rfl (Or.inl rfl)
theorem e_112_32 : Ev X 112 32 ls st h Q ↔ onI (gl ls 3) (fun z => Ev X 112 33 ls (vi z :: st) h Q) := R_il rfl (Or.inl rfl)
theorem e_112_33 {rest : List xV} {a0 : Int} {a1 : Int} {a2 : Int} {o : Nat} : Ev X 112 33 ls ((vi a2) :: (vi a1) :: (vi a0) :: vr o :: rest) h Q ↔ ((X.1 o = 9 ∧ wd rest ≤ 8) ∧ Cl X 82 [vr o, vi a0, vi a1, vi a2] h (fun r h2 => Ev X 112 34 ls (r.toList ++ rest) h2 Q)) := R_cv (x := o) (as := [vi a0, vi a1, vi a2]) (k2 := 82) rfl rfl (Nat.le_of_ble_eq_true rfl)
theorem e_112_34 {x : Int} : Ev X 112 34 ls (vi x :: st) h Q ↔ (if x = 0 then Ev X 112 49 ls st h Q else Ev X 112 35 ls st h Q) := R_ifeq rfl
theorem e_112_35 : Ev X 112 35 ls st h Q ↔ onR (gl ls 4) (fun z => Ev X 112 36 ls (vr z :: st) h Q) := R_al rfl (Or.inr rfl)
theorem e_112_36 : Ev X 112 36 ls st h Q ↔ onI (gl ls 2) (fun z => Ev X 112 37 ls (vi z :: st) h Q) := R_il rfl (Or.inl rfl)
theorem e_112_37 : Ev X 112 37 ls st h Q ↔ onI (gl ls 2) (fun z => Ev X 112 38 ls (vi z :: st) h Q) := R_il rfl (Or.inl rfl)
theorem e_112_38 : Ev X 112 38 ls st h Q ↔ onI (gl ls 3) (fun z => Ev X 112 39 ls (vi z :: st) h Q) := R_il rfl (Or.inl rfl)
theorem e_112_39 : Ev X 112 39 ls st h Q ↔ onI (gl ls 3) (fun z => Ev X 112 40 ls (vi z :: st) h Q) := R_il rfl (Or.inl rfl)
theorem e_112_40 : Ev X 112 40 ls st h Q ↔ onR (gl ls 4) (fun z => Ev X 112 41 ls (vr z :: st) h Q) := R_al rfl (Or.inr rfl)
theorem e_112_41 {x : Nat} : Ev X 112 41 ls (vr x :: st) h Q ↔ (X.1 x = 3 ∧ Ev X 112 42 ls (vr (X.2.2.1 x 1) :: st) h Q) := R_gr rfl
theorem e_112_42 : Ev X 112 42 ls st h Q ↔ onI (gl ls 1) (fun z => Ev X 112 43 ls (vi z :: st) h Q) := R_il rfl (Or.inl rfl)
theorem e_112_43 {x : Nat} {j : Int} : Ev X 112 43 ls (vi j :: vr x :: st) h Q ↔ (((X.1 x = 13 ∨ X.1 x = 20) ∧ 0 ≤ j ∧ j < X.2.1 x) ∧ Ev X 112 44 ls (vi (h.1 x j.toNat) :: st) h Q) := R_ia rfl
theorem e_112_44 {x y : Int} : Ev X 112 44 ls (vi y :: vi x :: st) h Q ↔ ((inR (x + y)) ∧ Ev X 112 45 ls (vi (x + y) :: st) h Q) := R_add rfl
theorem e_112_45 : Ev X 112 45 ls st h Q ↔ Ev X 112 46 ls (vi 1 :: st) h Q := R_kc rfl (Or.inl ⟨Or.inl rfl, by decide⟩)
theorem e_112_46 {x y : Int} : Ev X 112 46 ls (vi y :: vi x :: st) h Q ↔ ((inR (x - y)) ∧ Ev X 112 47 ls (vi (x - y) :: st) h Q) := R_sub rfl
theorem e_112_47 {rest : List xV} {a0 : Int} {a1 : Int} {a2 : Int} {a3 : Int} {o : Nat} : Ev X 112 47 ls ((vi a3) :: (vi a2) :: (vi a1) :: (vi a0) :: vr o :: rest) h Q ↔ ((X.1 o = 3 ∧ wd rest ≤ 8) ∧ Cl X 26 [vr o, vi a0, vi a1, vi a2, vi a3] h (fun r h2 => Ev X 112 48 ls (r.toList ++ rest) h2 Q)) := R_cv (x := o) (as := [vi a0, vi a1, vi a2, vi a3]) (k2 := 26) rfl rfl (Nat.le_of_ble_eq_true rfl)
theorem e_112_48 {x : Int} : Ev X 112 48 ls (vi x :: st) h Q ↔ (if x = 0 then Ev X 112 53 ls st h Q else Ev X 112 49 ls st h Q) := R_ifeq rfl
theorem e_112_49 : Ev X 112 49 ls st h Q ↔ onR (gl ls 0) (fun z => Ev X 112 50 ls (vr z :: st) h Q) := R_al rfl (Or.inl rfl)
theorem e_112_50 : Ev X 112 50 ls st h Q ↔ Ev X 112 51 ls (vi (-4) :: st) h Q := R_kc rfl (Or.inr (Or.inl ⟨rfl, by decide⟩))
theorem e_112_51 {rest : List xV} {a0 : Int} {o : Nat} : Ev X 112 51 ls ((vi a0) :: vr o :: rest) h Q ↔ ((X.1 o = 11 ∧ wd rest ≤ 8) ∧ Cl X 138 [vr o, vi a0] h (fun r h2 => Ev X 112 52 ls (r.toList ++ rest) h2 Q)) := R_cv (x := o) (as := [vi a0]) (k2 := 138) rfl rfl (Nat.le_of_ble_eq_true rfl)
theorem e_112_52 {z : Int} : Ev X 112 52 ls [vi z] h Q ↔ Q (some (vi z)) h := R_ir rfl
theorem e_112_53 : Ev X 112 53 ls st h Q ↔ onR (gl ls 0) (fun z => Ev X 112 54 ls (vr z :: st) h Q) := R_al rfl (Or.inl rfl)
theorem e_112_54 : Ev X 112 54 ls st h Q ↔ Ev X 112 55 ls (vi 6 :: st) h Q := R_kc rfl (Or.inr (Or.inl ⟨rfl, by decide⟩))
theorem e_112_55 {rest : List xV} {a0 : Int} {o : Nat} : Ev X 112 55 ls ((vi a0) :: vr o :: rest) h Q ↔ ((X.1 o = 11 ∧ wd rest ≤ 8) ∧ Cl X 139 [vr o, vi a0] h (fun r h2 => Ev X 112 56 ls (r.toList ++ rest) h2 Q)) := R_cv (x := o) (as := [vi a0]) (k2 := 139) rfl rfl (Nat.le_of_ble_eq_true rfl)
theorem e_112_56 : Ev X 112 56 ls st h Q ↔ onR (gl ls 4) (fun z => Ev X 112 57 ls (vr z :: st) h Q) := R_al rfl (Or.inr rfl)
theorem e_112_57 : Ev X 112 57 ls st h Q ↔ onI (gl ls 1) (fun z => Ev X 112 58 ls (vi z :: st) h Q) := R_il rfl (Or.inl rfl)
theorem e_112_58 : Ev X 112 58 ls st h Q ↔ onI (gl ls 2) (fun z => Ev X 112 59 ls (vi z :: st) h Q) := R_il rfl (Or.inl rfl)
theorem e_112_59 : Ev X 112 59 ls st h Q ↔ onI (gl ls 3) (fun z => Ev X 112 60 ls (vi z :: st) h Q) := R_il rfl (Or.inl rfl)
theorem e_112_60 {rest : List xV} {a0 : Int} {a1 : Int} {a2 : Int} {o : Nat} : Ev X 112 60 ls ((vi a2) :: (vi a1) :: (vi a0) :: vr o :: rest) h Q ↔ ((X.1 o = 3 ∧ wd rest ≤ 8) ∧ Cl X 28 [vr o, vi a0, vi a1, vi a2] h (fun r h2 => Ev X 112 61 ls (r.toList ++ rest) h2 Q)) := R_cv (x := o) (as := [vi a0, vi a1, vi a2]) (k2 := 28) rfl rfl (Nat.le_of_ble_eq_true rfl)
theorem e_112_61 {x : Int} : Ev X 112 61 ls (vi x :: st) h Q ↔ (stOK ls 5 = true ∧ Ev X 112 62 (ls.set 5 (some (vi x))) st h Q) := R_is rfl (Or.inr rfl)
theorem e_112_62 : Ev X 112 62 ls st h Q ↔ onR (gl ls 4) (fun z => Ev X 112 63 ls (vr z :: st) h Q) := R_al rfl (Or.inr rfl)
theorem e_112_63 : Ev X 112 63 ls st h Q ↔ onI (gl ls 1) (fun z => Ev X 112 64 ls (vi z :: st) h Q) := R_il rfl (Or.inl rfl)
theorem e_112_64 : Ev X 112 64 ls st h Q ↔ onI (gl ls 2) (fun z => Ev X 112 65 ls (vi z :: st) h Q) := R_il rfl (Or.inl rfl)
theorem e_112_65 : Ev X 112 65 ls st h Q ↔ onI (gl ls 3) (fun z => Ev X 112 66 ls (vi z :: st) h Q) := R_il rfl (Or.inl rfl)
theorem e_112_66 {rest : List xV} {a0 : Int} {a1 : Int} {a2 : Int} {o : Nat} : Ev X 112 66 ls ((vi a2) :: (vi a1) :: (vi a0) :: vr o :: rest) h Q ↔ ((X.1 o = 3 ∧ wd rest ≤ 8) ∧ Cl X 20 [vr o, vi a0, vi a1, vi a2] h (fun r h2 => Ev X 112 67 ls (r.toList ++ rest) h2 Q)) := R_cv (x := o) (as := [vi a0, vi a1, vi a2]) (k2 := 20) rfl rfl (Nat.le_of_ble_eq_true rfl)
theorem e_112_67 : Ev X 112 67 ls st h Q ↔ onR (gl ls 4) (fun z => Ev X 112 68 ls (vr z :: st) h Q) := R_al rfl (Or.inr rfl)
theorem e_112_68 {x : Nat} : Ev X 112 68 ls (vr x :: st) h Q ↔ (X.1 x = 3 ∧ Ev X 112 69 ls (vr (X.2.2.1 x 3) :: st) h Q) := R_gr rfl
theorem e_112_69 : Ev X 112 69 ls st h Q ↔ onI (gl ls 1) (fun z => Ev X 112 70 ls (vi z :: st) h Q) := R_il rfl (Or.inl rfl)
theorem e_112_70 : Ev X 112 70 ls st h Q ↔ Ev X 112 71 ls (vi 1 :: st) h Q := R_kc rfl (Or.inl ⟨Or.inl rfl, by decide⟩)
theorem e_112_71 {x : Nat} {j v : Int} : Ev X 112 71 ls (vi v :: vi j :: vr x :: st) h Q ↔ ((X.1 x = 14 ∧ (v = 0 ∨ v = 1) ∧ 0 ≤ j ∧ j < X.2.1 x) ∧ Ev X 112 72 ls st (up2 h.1 x j.toNat v, h.2) Q) := R_bas rfl
theorem e_112_72 : Ev X 112 72 ls st h Q ↔ onR (gl ls 4) (fun z => Ev X 112 73 ls (vr z :: st) h Q) := R_al rfl (Or.inr rfl)
theorem e_112_73 {x : Nat} : Ev X 112 73 ls (vr x :: st) h Q ↔ (X.1 x = 3 ∧ Ev X 112 74 ls (vr (X.2.2.1 x 4) :: st) h Q) := R_gr rfl
theorem e_112_74 : Ev X 112 74 ls st h Q ↔ onI (gl ls 1) (fun z => Ev X 112 75 ls (vi z :: st) h Q) := R_il rfl (Or.inl rfl)
theorem e_112_75 : Ev X 112 75 ls st h Q ↔ Ev X 112 76 ls (vi 16 :: st) h Q := R_kc rfl (Or.inr (Or.inl ⟨rfl, by decide⟩))
theorem e_112_76 : Ev X 112 76 ls st h Q ↔ onI (gl ls 3) (fun z => Ev X 112 77 ls (vi z :: st) h Q) := R_il rfl (Or.inl rfl)
theorem e_112_77 {x y : Int} : Ev X 112 77 ls (vi y :: vi x :: st) h Q ↔ ((inR (x * y)) ∧ Ev X 112 78 ls (vi (x * y) :: st) h Q) := R_mul rfl
theorem e_112_78 {x : Nat} {j v : Int} : Ev X 112 78 ls (vi v :: vi j :: vr x :: st) h Q ↔ ((X.1 x = 13 ∧ 0 ≤ j ∧ j < X.2.1 x) ∧ Ev X 112 79 ls st (up2 h.1 x j.toNat v, h.2) Q) := R_ias rfl
theorem e_112_79 : Ev X 112 79 ls st h Q ↔ onR (gl ls 4) (fun z => Ev X 112 80 ls (vr z :: st) h Q) := R_al rfl (Or.inr rfl)
theorem e_112_80 {x : Nat} : Ev X 112 80 ls (vr x :: st) h Q ↔ (X.1 x = 3 ∧ Ev X 112 81 ls (vr (X.2.2.1 x 5) :: st) h Q) := R_gr rfl
theorem e_112_81 : Ev X 112 81 ls st h Q ↔ onI (gl ls 1) (fun z => Ev X 112 82 ls (vi z :: st) h Q) := R_il rfl (Or.inl rfl)
theorem e_112_82 : Ev X 112 82 ls st h Q ↔ Ev X 112 83 ls (vi 16 :: st) h Q := R_kc rfl (Or.inr (Or.inl ⟨rfl, by decide⟩))
theorem e_112_83 : Ev X 112 83 ls st h Q ↔ onI (gl ls 2) (fun z => Ev X 112 84 ls (vi z :: st) h Q) := R_il rfl (Or.inl rfl)
theorem e_112_84 {x y : Int} : Ev X 112 84 ls (vi y :: vi x :: st) h Q ↔ ((inR (x * y)) ∧ Ev X 112 85 ls (vi (x * y) :: st) h Q) := R_mul rfl
theorem e_112_85 {x : Nat} {j v : Int} : Ev X 112 85 ls (vi v :: vi j :: vr x :: st) h Q ↔ ((X.1 x = 13 ∧ 0 ≤ j ∧ j < X.2.1 x) ∧ Ev X 112 86 ls st (up2 h.1 x j.toNat v, h.2) Q) := R_ias rfl
theorem e_112_86 : Ev X 112 86 ls st h Q ↔ onI (gl ls 5) (fun z => Ev X 112 87 ls (vi z :: st) h Q) := R_il rfl (Or.inr rfl)
theorem e_112_87 {z : Int} : Ev X 112 87 ls [vi z] h Q ↔ Q (some (vi z)) h := R_ir rfl
-- 113: CellRows.free(I)I
theorem e_113_0 : Ev X 113 0 ls st h Q ↔ onR (gl ls 0) (fun z => Ev X 113 1 ls (vr z :: st) h Q) := R_al rfl (Or.inl rfl)
theorem e_113_1 {x : Nat} : Ev X 113 1 ls (vr x :: st) h Q ↔ (X.1 x = 11 ∧ Ev X 113 2 ls (vr (X.2.2.1 x 5) :: st) h Q) := R_gr rfl
theorem e_113_2 : Ev X 113 2 ls st h Q ↔ onI (gl ls 1) (fun z => Ev X 113 3 ls (vi z :: st) h Q) := R_il rfl (Or.inl rfl)
theorem e_113_3 {rest : List xV} {a0 : Int} {o : Nat} : Ev X 113 3 ls ((vi a0) :: vr o :: rest) h Q ↔ ((X.1 o = 9 ∧ wd rest ≤ 8) ∧ Cl X 79 [vr o, vi a0] h (fun r h2 => Ev X 113 4 ls (r.toList ++ rest) h2 Q)) := R_cv (x := o) (as := [vi a0]) (k2 := 79) rfl rfl (Nat.le_of_ble_eq_true rfl)
theorem e_113_4 {x : Int} : Ev X 113 4 ls (vi x :: st) h Q ↔ (if ¬ x = 0 then Ev X 113 9 ls st h Q else Ev X 113 5 ls st h Q) := R_ifne rfl
theorem e_113_5 : Ev X 113 5 ls st h Q ↔ onR (gl ls 0) (fun z => Ev X 113 6 ls (vr z :: st) h Q) := R_al rfl (Or.inl rfl)
theorem e_113_6 : Ev X 113 6 ls st h Q ↔ Ev X 113 7 ls (vi (-2) :: st) h Q := R_kc rfl (Or.inr (Or.inl ⟨rfl, by decide⟩))
theorem e_113_7 {rest : List xV} {a0 : Int} {o : Nat} : Ev X 113 7 ls ((vi a0) :: vr o :: rest) h Q ↔ ((X.1 o = 11 ∧ wd rest ≤ 8) ∧ Cl X 138 [vr o, vi a0] h (fun r h2 => Ev X 113 8 ls (r.toList ++ rest) h2 Q)) := R_cv (x := o) (as := [vi a0]) (k2 := 138) rfl rfl (Nat.le_of_ble_eq_true rfl)
theorem e_113_8 {z : Int} : Ev X 113 8 ls [vi z] h Q ↔ Q (some (vi z)) h := R_ir rfl
theorem e_113_9 : Ev X 113 9 ls st h Q ↔ onR (gl ls 0) (fun z => Ev X 113 10 ls (vr z :: st) h Q) := R_al rfl (Or.inl rfl)
theorem e_113_10 {x : Nat} : Ev X 113 10 ls (vr x :: st) h Q ↔ (X.1 x = 11 ∧ Ev X 113 11 ls (vr (X.2.2.1 x 5) :: st) h Q) := R_gr rfl
theorem e_113_11 {x : Nat} : Ev X 113 11 ls (vr x :: st) h Q ↔ (X.1 x = 9 ∧ Ev X 113 12 ls (vr (X.2.2.1 x 4) :: st) h Q) := R_gr rfl
theorem e_113_12 {x : Nat} : Ev X 113 12 ls (vr x :: st) h Q ↔ (X.1 x = 3 ∧ Ev X 113 13 ls (vr (X.2.2.1 x 3) :: st) h Q) := R_gr rfl
theorem e_113_13 : Ev X 113 13 ls st h Q ↔ onI (gl ls 1) (fun z => Ev X 113 14 ls (vi z :: st) h Q) := R_il rfl (Or.inl rfl)
theorem e_113_14 {x : Nat} {j : Int} : Ev X 113 14 ls (vi j :: vr x :: st) h Q ↔ ((X.1 x = 14 ∧ 0 ≤ j ∧ j < X.2.1 x) ∧ Ev X 113 15 ls (vi (h.1 x j.toNat) :: st) h Q) := R_ba rfl
theorem e_113_15 {x : Int} : Ev X 113 15 ls (vi x :: st) h Q ↔ (if ¬ x = 0 then Ev X 113 20 ls st h Q else Ev X 113 16 ls st h Q) := R_ifne rfl
theorem e_113_16 : Ev X 113 16 ls st h Q ↔ onR (gl ls 0) (fun z => Ev X 113 17 ls (vr z :: st) h Q) := R_al rfl (Or.inl rfl)
theorem e_113_17 : Ev X 113 17 ls st h Q ↔ Ev X 113 18 ls (vi (-4) :: st) h Q := R_kc rfl (Or.inr (Or.inl ⟨rfl, by decide⟩))
theorem e_113_18 {rest : List xV} {a0 : Int} {o : Nat} : Ev X 113 18 ls ((vi a0) :: vr o :: rest) h Q ↔ ((X.1 o = 11 ∧ wd rest ≤ 8) ∧ Cl X 138 [vr o, vi a0] h (fun r h2 => Ev X 113 19 ls (r.toList ++ rest) h2 Q)) := R_cv (x := o) (as := [vi a0]) (k2 := 138) rfl rfl (Nat.le_of_ble_eq_true rfl)
theorem e_113_19 {z : Int} : Ev X 113 19 ls [vi z] h Q ↔ Q (some (vi z)) h := R_ir rfl
theorem e_113_20 : Ev X 113 20 ls st h Q ↔ onR (gl ls 0) (fun z => Ev X 113 21 ls (vr z :: st) h Q) := R_al rfl (Or.inl rfl)
theorem e_113_21 : Ev X 113 21 ls st h Q ↔ Ev X 113 22 ls (vi 7 :: st) h Q := R_kc rfl (Or.inr (Or.inl ⟨rfl, by decide⟩))
theorem e_113_22 {rest : List xV} {a0 : Int} {o : Nat} : Ev X 113 22 ls ((vi a0) :: vr o :: rest) h Q ↔ ((X.1 o = 11 ∧ wd rest ≤ 8) ∧ Cl X 139 [vr o, vi a0] h (fun r h2 => Ev X 113 23 ls (r.toList ++ rest) h2 Q)) := R_cv (x := o) (as := [vi a0]) (k2 := 139) rfl rfl (Nat.le_of_ble_eq_true rfl)
theorem e_113_23 : Ev X 113 23 ls st h Q ↔ onR (gl ls 0) (fun z => Ev X 113 24 ls (vr z :: st) h Q) := R_al rfl (Or.inl rfl)
theorem e_113_24 {x : Nat} : Ev X 113 24 ls (vr x :: st) h Q ↔ (X.1 x = 11 ∧ Ev X 113 25 ls (vr (X.2.2.1 x 5) :: st) h Q) := R_gr rfl
theorem e_113_25 {x : Nat} : Ev X 113 25 ls (vr x :: st) h Q ↔ (X.1 x = 9 ∧ Ev X 113 26 ls (vr (X.2.2.1 x 4) :: st) h Q) := R_gr rfl
theorem e_113_26 {x : Nat} : Ev X 113 26 ls (vr x :: st) h Q ↔ (X.1 x = 3 ∧ Ev X 113 27 ls (vr (X.2.2.1 x 3) :: st) h Q) := R_gr rfl
theorem e_113_27 : Ev X 113 27 ls st h Q ↔ onI (gl ls 1) (fun z => Ev X 113 28 ls (vi z :: st) h Q) := R_il rfl (Or.inl rfl)
theorem e_113_28 : Ev X 113 28 ls st h Q ↔ Ev X 113 29 ls (vi 0 :: st) h Q := R_kc rfl (Or.inl ⟨Or.inl rfl, by decide⟩)
theorem e_113_29 {x : Nat} {j v : Int} : Ev X 113 29 ls (vi v :: vi j :: vr x :: st) h Q ↔ ((X.1 x = 14 ∧ (v = 0 ∨ v = 1) ∧ 0 ≤ j ∧ j < X.2.1 x) ∧ Ev X 113 30 ls st (up2 h.1 x j.toNat v, h.2) Q) := R_bas rfl
theorem e_113_30 : Ev X 113 30 ls st h Q ↔ onR (gl ls 0) (fun z => Ev X 113 31 ls (vr z :: st) h Q) := R_al rfl (Or.inl rfl)
theorem e_113_31 {x : Nat} : Ev X 113 31 ls (vr x :: st) h Q ↔ (X.1 x = 11 ∧ Ev X 113 32 ls (vr (X.2.2.1 x 5) :: st) h Q) := R_gr rfl
theorem e_113_32 {x : Nat} : Ev X 113 32 ls (vr x :: st) h Q ↔ (X.1 x = 9 ∧ Ev X 113 33 ls (vr (X.2.2.1 x 4) :: st) h Q) := R_gr rfl
theorem e_113_33 {x : Nat} : Ev X 113 33 ls (vr x :: st) h Q ↔ (X.1 x = 3 ∧ Ev X 113 34 ls (vr (X.2.2.1 x 6) :: st) h Q) := R_gr rfl
theorem e_113_34 : Ev X 113 34 ls st h Q ↔ onI (gl ls 1) (fun z => Ev X 113 35 ls (vi z :: st) h Q) := R_il rfl (Or.inl rfl)
theorem e_113_35 {x : Nat} {j : Int} : Ev X 113 35 ls (vi j :: vr x :: st) h Q ↔ (((X.1 x = 13 ∨ X.1 x = 20) ∧ 0 ≤ j ∧ j < X.2.1 x) ∧ Ev X 113 36 ls (vi (h.1 x j.toNat) :: st) h Q) := R_ia rfl
theorem e_113_36 {z : Int} : Ev X 113 36 ls [vi z] h Q ↔ Q (some (vi z)) h := R_ir rfl
-- 114: CellRows.put(III)I
theorem e_114_0 : Ev X 114 0 ls st h Q ↔ onR (gl ls 0) (fun z => Ev X 114 1 ls (vr z :: st) h Q) := R_al rfl (Or.inl rfl)
theorem e_114_1 {x : Nat} : Ev X 114 1 ls (vr x :: st) h Q ↔ (X.1 x = 11 ∧ Ev X 114 2 ls (vr (X.2.2.1 x 5) :: st) h Q) := R_gr rfl
theorem e_114_2 : Ev X 114 2 ls st h Q ↔ onI (gl ls 2) (fun z => Ev X 114 3 ls (vi z :: st) h Q) := R_il rfl (Or.inl rfl)
theorem e_114_3 : Ev X 114 3 ls st h Q ↔ onI (gl ls 3) (fun z => Ev X 114 4 ls (vi z :: st) h Q) := R_il rfl (Or.inl rfl)
theorem e_114_4 {rest : List xV} {a0 : Int} {a1 : Int} {o : Nat} : Ev X 114 4 ls ((vi a1) :: (vi a0) :: vr o :: rest) h Q ↔ ((X.1 o = 9 ∧ wd rest ≤ 8) ∧ Cl X 77 [vr o, vi a0, vi a1] h (fun r h2 => Ev X 114 5 ls (r.toList ++ rest) h2 Q)) := R_cv (x := o) (as := [vi a0, vi a1]) (k2 := 77) rfl rfl (Nat.le_of_ble_eq_true rfl)
theorem e_114_5 {x : Int} : Ev X 114 5 ls (vi x :: st) h Q ↔ (if ¬ x = 0 then Ev X 114 10 ls st h Q else Ev X 114 6 ls st h Q) := R_ifne rfl
theorem e_114_6 : Ev X 114 6 ls st h Q ↔ onR (gl ls 0) (fun z => Ev X 114 7 ls (vr z :: st) h Q) := R_al rfl (Or.inl rfl)
theorem e_114_7 : Ev X 114 7 ls st h Q ↔ Ev X 114 8 ls (vi (-1) :: st) h Q := R_kc rfl (Or.inl ⟨Or.inl rfl, by decide⟩)
theorem e_114_8 {rest : List xV} {a0 : Int} {o : Nat} : Ev X 114 8 ls ((vi a0) :: vr o :: rest) h Q ↔ ((X.1 o = 11 ∧ wd rest ≤ 8) ∧ Cl X 138 [vr o, vi a0] h (fun r h2 => Ev X 114 9 ls (r.toList ++ rest) h2 Q)) := R_cv (x := o) (as := [vi a0]) (k2 := 138) rfl rfl (Nat.le_of_ble_eq_true rfl)
theorem e_114_9 {z : Int} : Ev X 114 9 ls [vi z] h Q ↔ Q (some (vi z)) h := R_ir rfl
theorem e_114_10 : Ev X 114 10 ls st h Q ↔ onR (gl ls 0) (fun z => Ev X 114 11 ls (vr z :: st) h Q) := R_al rfl (Or.inl rfl)
theorem e_114_11 {x : Nat} : Ev X 114 11 ls (vr x :: st) h Q ↔ (X.1 x = 11 ∧ Ev X 114 12 ls (vr (X.2.2.1 x 5) :: st) h Q) := R_gr rfl
theorem e_114_12 : Ev X 114 12 ls st h Q ↔ onI (gl ls 1) (fun z => Ev X 114 13 ls (vi z :: st) h Q) := R_il rfl (Or.inl rfl)
theorem e_114_13 {rest : List xV} {a0 : Int} {o : Nat} : Ev X 114 13 ls ((vi a0) :: vr o :: rest) h Q ↔ ((X.1 o = 9 ∧ wd rest ≤ 8) ∧ Cl X 79 [vr o, vi a0] h (fun r h2 => Ev X 114 14 ls (r.toList ++ rest) h2 Q)) := R_cv (x := o) (as := [vi a0]) (k2 := 79) rfl rfl (Nat.le_of_ble_eq_true rfl)
theorem e_114_14 {x : Int} : Ev X 114 14 ls (vi x :: st) h Q ↔ (if ¬ x = 0 then Ev X 114 19 ls st h Q else Ev X 114 15 ls st h Q) := R_ifne rfl
theorem e_114_15 : Ev X 114 15 ls st h Q ↔ onR (gl ls 0) (fun z => Ev X 114 16 ls (vr z :: st) h Q) := R_al rfl (Or.inl rfl)
theorem e_114_16 : Ev X 114 16 ls st h Q ↔ Ev X 114 17 ls (vi (-2) :: st) h Q := R_kc rfl (Or.inr (Or.inl ⟨rfl, by decide⟩))
theorem e_114_17 {rest : List xV} {a0 : Int} {o : Nat} : Ev X 114 17 ls ((vi a0) :: vr o :: rest) h Q ↔ ((X.1 o = 11 ∧ wd rest ≤ 8) ∧ Cl X 138 [vr o, vi a0] h (fun r h2 => Ev X 114 18 ls (r.toList ++ rest) h2 Q)) := R_cv (x := o) (as := [vi a0]) (k2 := 138) rfl rfl (Nat.le_of_ble_eq_true rfl)
theorem e_114_18 {z : Int} : Ev X 114 18 ls [vi z] h Q ↔ Q (some (vi z)) h := R_ir rfl
theorem e_114_19 : Ev X 114 19 ls st h Q ↔ onR (gl ls 0) (fun z => Ev X 114 20 ls (vr z :: st) h Q) := R_al rfl (Or.inl rfl)
theorem e_114_20 {x : Nat} : Ev X 114 20 ls (vr x :: st) h Q ↔ (X.1 x = 11 ∧ Ev X 114 21 ls (vr (X.2.2.1 x 5) :: st) h Q) := R_gr rfl
theorem e_114_21 {x : Nat} : Ev X 114 21 ls (vr x :: st) h Q ↔ (X.1 x = 9 ∧ Ev X 114 22 ls (vr (X.2.2.1 x 4) :: st) h Q) := R_gr rfl
theorem e_114_22 {x : Nat} : Ev X 114 22 ls (vr x :: st) h Q ↔ (X.1 x = 3 ∧ Ev X 114 23 ls (vr (X.2.2.1 x 3) :: st) h Q) := R_gr rfl
theorem e_114_23 : Ev X 114 23 ls st h Q ↔ onI (gl ls 1) (fun z => Ev X 114 24 ls (vi z :: st) h Q) := R_il rfl (Or.inl rfl)
theorem e_114_24 {x : Nat} {j : Int} : Ev X 114 24 ls (vi j :: vr x :: st) h Q ↔ ((X.1 x = 14 ∧ 0 ≤ j ∧ j < X.2.1 x) ∧ Ev X 114 25 ls (vi (h.1 x j.toNat) :: st) h Q) := R_ba rfl
theorem e_114_25 {x : Int} : Ev X 114 25 ls (vi x :: st) h Q ↔ (if ¬ x = 0 then Ev X 114 33 ls st h Q else Ev X 114 26 ls st h Q) := R_ifne rfl
theorem e_114_26 : Ev X 114 26 ls st h Q ↔ onR (gl ls 0) (fun z => Ev X 114 27 ls (vr z :: st) h Q) := R_al rfl (Or.inl rfl)
theorem e_114_27 {x : Nat} : Ev X 114 27 ls (vr x :: st) h Q ↔ (X.1 x = 11 ∧ Ev X 114 28 ls (vr (X.2.2.1 x 5) :: st) h Q) := R_gr rfl
theorem e_114_28 : Ev X 114 28 ls st h Q ↔ onI (gl ls 1) (fun z => Ev X 114 29 ls (vi z :: st) h Q) := R_il rfl (Or.inl rfl)
theorem e_114_29 : Ev X 114 29 ls st h Q ↔ onI (gl ls 2) (fun z => Ev X 114 30 ls (vi z :: st) h Q) := R_il rfl (Or.inl rfl)
theorem e_114_30 : Ev X 114 30 ls st h Q ↔ onI (gl ls 3) (fun z => Ev X 114 31 ls (vi z :: st) h Q) := R_il rfl (Or.inl rfl)
theorem e_114_31 {rest : List xV} {a0 : Int} {a1 : Int} {a2 : Int} {o : Nat} : Ev X 114 31 ls ((vi a2) :: (vi a1) :: (vi a0) :: vr o :: rest) h Q ↔ ((X.1 o = 9 ∧ wd rest ≤ 8) ∧ Cl X 83 [vr o, vi a0, vi a1, vi a2] h (fun r h2 => Ev X 114 32 ls (r.toList ++ rest) h2 Q)) := R_cv (x := o) (as := [vi a0, vi a1, vi a2]) (k2 := 83) rfl rfl (Nat.le_of_ble_eq_true rfl)
theorem e_114_32 {x : Int} : Ev X 114 32 ls (vi x :: st) h Q ↔ (if ¬ x = 0 then Ev X 114 37 ls st h Q else Ev X 114 33 ls st h Q) := R_ifne rfl
theorem e_114_33 : Ev X 114 33 ls st h Q ↔ onR (gl ls 0) (fun z => Ev X 114 34 ls (vr z :: st) h Q) := R_al rfl (Or.inl rfl)
theorem e_114_34 : Ev X 114 34 ls st h Q ↔ Ev X 114 35 ls (vi (-4) :: st) h Q := R_kc rfl (Or.inr (Or.inl ⟨rfl, by decide⟩))
theorem e_114_35 {rest : List xV} {a0 : Int} {o : Nat} : Ev X 114 35 ls ((vi a0) :: vr o :: rest) h Q ↔ ((X.1 o = 11 ∧ wd rest ≤ 8) ∧ Cl X 138 [vr o, vi a0] h (fun r h2 => Ev X 114 36 ls (r.toList ++ rest) h2 Q)) := R_cv (x := o) (as := [vi a0]) (k2 := 138) rfl rfl (Nat.le_of_ble_eq_true rfl)
theorem e_114_36 {z : Int} : Ev X 114 36 ls [vi z] h Q ↔ Q (some (vi z)) h := R_ir rfl
theorem e_114_37 : Ev X 114 37 ls st h Q ↔ onR (gl ls 0) (fun z => Ev X 114 38 ls (vr z :: st) h Q) := R_al rfl (Or.inl rfl)
theorem e_114_38 : Ev X 114 38 ls st h Q ↔ Ev X 114 39 ls (vi 8 :: st) h Q := R_kc rfl (Or.inr (Or.inl ⟨rfl, by decide⟩))
theorem e_114_39 {rest : List xV} {a0 : Int} {o : Nat} : Ev X 114 39 ls ((vi a0) :: vr o :: rest) h Q ↔ ((X.1 o = 11 ∧ wd rest ≤ 8) ∧ Cl X 139 [vr o, vi a0] h (fun r h2 => Ev X 114 40 ls (r.toList ++ rest) h2 Q)) := R_cv (x := o) (as := [vi a0]) (k2 := 139) rfl rfl (Nat.le_of_ble_eq_true rfl)
theorem e_114_40 : Ev X 114 40 ls st h Q ↔ onR (gl ls 0) (fun z => Ev X 114 41 ls (vr z :: st) h Q) := R_al rfl (Or.inl rfl)
theorem e_114_41 {x : Nat} : Ev X 114 41 ls (vr x :: st) h Q ↔ (X.1 x = 11 ∧ Ev X 114 42 ls (vr (X.2.2.1 x 5) :: st) h Q) := R_gr rfl
theorem e_114_42 {x : Nat} : Ev X 114 42 ls (vr x :: st) h Q ↔ (X.1 x = 9 ∧ Ev X 114 43 ls (vr (X.2.2.1 x 4) :: st) h Q) := R_gr rfl
theorem e_114_43 : Ev X 114 43 ls st h Q ↔ onI (gl ls 1) (fun z => Ev X 114 44 ls (vi z :: st) h Q) := R_il rfl (Or.inl rfl)
theorem e_114_44 : Ev X 114 44 ls st h Q ↔ onI (gl ls 2) (fun z => Ev X 114 45 ls (vi z :: st) h Q) := R_il rfl (Or.inl rfl)
theorem e_114_45 : Ev X 114 45 ls st h Q ↔ onI (gl ls 3) (fun z => Ev X 114 46 ls (vi z :: st) h Q) := R_il rfl (Or.inl rfl)
theorem e_114_46 {rest : List xV} {a0 : Int} {a1 : Int} {a2 : Int} {o : Nat} : Ev X 114 46 ls ((vi a2) :: (vi a1) :: (vi a0) :: vr o :: rest) h Q ↔ ((X.1 o = 3 ∧ wd rest ≤ 8) ∧ Cl X 20 [vr o, vi a0, vi a1, vi a2] h (fun r h2 => Ev X 114 47 ls (r.toList ++ rest) h2 Q)) := R_cv (x := o) (as := [vi a0, vi a1, vi a2]) (k2 := 20) rfl rfl (Nat.le_of_ble_eq_true rfl)
theorem e_114_47 : Ev X 114 47 ls st h Q ↔ onR (gl ls 0) (fun z => Ev X 114 48 ls (vr z :: st) h Q) := R_al rfl (Or.inl rfl)
theorem e_114_48 {x : Nat} : Ev X 114 48 ls (vr x :: st) h Q ↔ (X.1 x = 11 ∧ Ev X 114 49 ls (vr (X.2.2.1 x 9) :: st) h Q) := R_gr rfl
theorem e_114_49 : Ev X 114 49 ls st h Q ↔ onR (gl ls 0) (fun z => Ev X 114 50 ls (vr z :: st) h Q) := R_al rfl (Or.inl rfl)
theorem e_114_50 {x : Nat} : Ev X 114 50 ls (vr x :: st) h Q ↔ (X.1 x = 11 ∧ Ev X 114 51 ls (vr (X.2.2.1 x 5) :: st) h Q) := R_gr rfl
theorem e_114_51 {rest : List xV} {a0 : Nat} {o : Nat} : Ev X 114 51 ls ((vr a0) :: vr o :: rest) h Q ↔ ((X.1 o = 10 ∧ wd rest ≤ 8) ∧ Cl X 92 [vr o, vr a0] h (fun r h2 => Ev X 114 52 ls (r.toList ++ rest) h2 Q)) := R_cv (x := o) (as := [vr a0]) (k2 := 92) rfl rfl (Nat.le_of_ble_eq_true rfl)
theorem e_114_52 {z : Int} : Ev X 114 52 ls [vi z] h Q ↔ Q (some (vi z)) h := R_ir rfl
-- 115: CellRows.take(I)I
theorem e_115_0 : Ev X 115 0 ls st h Q ↔ onR (gl ls 0) (fun z => Ev X 115 1 ls (vr z :: st) h Q) := R_al rfl (Or.inl rfl)
theorem e_115_1 {x : Nat} : Ev X 115 1 ls (vr x :: st) h Q ↔ (X.1 x = 11 ∧ Ev X 115 2 ls (vr (X.2.2.1 x 5) :: st) h Q) := R_gr rfl
theorem e_115_2 : Ev X 115 2 ls st h Q ↔ onI (gl ls 1) (fun z => Ev X 115 3 ls (vi z :: st) h Q) := R_il rfl (Or.inl rfl)
theorem e_115_3 {rest : List xV} {a0 : Int} {o : Nat} : Ev X 115 3 ls ((vi a0) :: vr o :: rest) h Q ↔ ((X.1 o = 9 ∧ wd rest ≤ 8) ∧ Cl X 79 [vr o, vi a0] h (fun r h2 => Ev X 115 4 ls (r.toList ++ rest) h2 Q)) := R_cv (x := o) (as := [vi a0]) (k2 := 79) rfl rfl (Nat.le_of_ble_eq_true rfl)
theorem e_115_4 {x : Int} : Ev X 115 4 ls (vi x :: st) h Q ↔ (if ¬ x = 0 then Ev X 115 9 ls st h Q else Ev X 115 5 ls st h Q) := R_ifne rfl
theorem e_115_5 : Ev X 115 5 ls st h Q ↔ onR (gl ls 0) (fun z => Ev X 115 6 ls (vr z :: st) h Q) := R_al rfl (Or.inl rfl)
theorem e_115_6 : Ev X 115 6 ls st h Q ↔ Ev X 115 7 ls (vi (-2) :: st) h Q := R_kc rfl (Or.inr (Or.inl ⟨rfl, by decide⟩))
theorem e_115_7 {rest : List xV} {a0 : Int} {o : Nat} : Ev X 115 7 ls ((vi a0) :: vr o :: rest) h Q ↔ ((X.1 o = 11 ∧ wd rest ≤ 8) ∧ Cl X 138 [vr o, vi a0] h (fun r h2 => Ev X 115 8 ls (r.toList ++ rest) h2 Q)) := R_cv (x := o) (as := [vi a0]) (k2 := 138) rfl rfl (Nat.le_of_ble_eq_true rfl)
theorem e_115_8 {z : Int} : Ev X 115 8 ls [vi z] h Q ↔ Q (some (vi z)) h := R_ir rfl
theorem e_115_9 : Ev X 115 9 ls st h Q ↔ onR (gl ls 0) (fun z => Ev X 115 10 ls (vr z :: st) h Q) := R_al rfl (Or.inl rfl)
theorem e_115_10 {x : Nat} : Ev X 115 10 ls (vr x :: st) h Q ↔ (X.1 x = 11 ∧ Ev X 115 11 ls (vr (X.2.2.1 x 5) :: st) h Q) := R_gr rfl
theorem e_115_11 {x : Nat} : Ev X 115 11 ls (vr x :: st) h Q ↔ (X.1 x = 9 ∧ Ev X 115 12 ls (vr (X.2.2.1 x 4) :: st) h Q) := R_gr rfl
theorem e_115_12 : Ev X 115 12 ls st h Q ↔ onI (gl ls 1) (fun z => Ev X 115 13 ls (vi z :: st) h Q) := R_il rfl (Or.inl rfl)
theorem e_115_13 {rest : List xV} {a0 : Int} {o : Nat} : Ev X 115 13 ls ((vi a0) :: vr o :: rest) h Q ↔ ((X.1 o = 3 ∧ wd rest ≤ 8) ∧ Cl X 23 [vr o, vi a0] h (fun r h2 => Ev X 115 14 ls (r.toList ++ rest) h2 Q)) := R_cv (x := o) (as := [vi a0]) (k2 := 23) rfl rfl (Nat.le_of_ble_eq_true rfl)
theorem e_115_14 {x : Int} : Ev X 115 14 ls (vi x :: st) h Q ↔ (if ¬ x = 0 then Ev X 115 19 ls st h Q else Ev X 115 15 ls st h Q) := R_ifne rfl
theorem e_115_15 : Ev X 115 15 ls st h Q ↔ onR (gl ls 0) (fun z => Ev X 115 16 ls (vr z :: st) h Q) := R_al rfl (Or.inl rfl)
theorem e_115_16 : Ev X 115 16 ls st h Q ↔ Ev X 115 17 ls (vi (-4) :: st) h Q := R_kc rfl (Or.inr (Or.inl ⟨rfl, by decide⟩))
theorem e_115_17 {rest : List xV} {a0 : Int} {o : Nat} : Ev X 115 17 ls ((vi a0) :: vr o :: rest) h Q ↔ ((X.1 o = 11 ∧ wd rest ≤ 8) ∧ Cl X 138 [vr o, vi a0] h (fun r h2 => Ev X 115 18 ls (r.toList ++ rest) h2 Q)) := R_cv (x := o) (as := [vi a0]) (k2 := 138) rfl rfl (Nat.le_of_ble_eq_true rfl)
theorem e_115_18 {z : Int} : Ev X 115 18 ls [vi z] h Q ↔ Q (some (vi z)) h := R_ir rfl
theorem e_115_19 : Ev X 115 19 ls st h Q ↔ onR (gl ls 0) (fun z => Ev X 115 20 ls (vr z :: st) h Q) := R_al rfl (Or.inl rfl)
theorem e_115_20 : Ev X 115 20 ls st h Q ↔ Ev X 115 21 ls (vi 9 :: st) h Q := R_kc rfl (Or.inr (Or.inl ⟨rfl, by decide⟩))
theorem e_115_21 {rest : List xV} {a0 : Int} {o : Nat} : Ev X 115 21 ls ((vi a0) :: vr o :: rest) h Q ↔ ((X.1 o = 11 ∧ wd rest ≤ 8) ∧ Cl X 139 [vr o, vi a0] h (fun r h2 => Ev X 115 22 ls (r.toList ++ rest) h2 Q)) := R_cv (x := o) (as := [vi a0]) (k2 := 139) rfl rfl (Nat.le_of_ble_eq_true rfl)
theorem e_115_22 : Ev X 115 22 ls st h Q ↔ onR (gl ls 0) (fun z => Ev X 115 23 ls (vr z :: st) h Q) := R_al rfl (Or.inl rfl)
theorem e_115_23 {x : Nat} : Ev X 115 23 ls (vr x :: st) h Q ↔ (X.1 x = 11 ∧ Ev X 115 24 ls (vr (X.2.2.1 x 5) :: st) h Q) := R_gr rfl
theorem e_115_24 {x : Nat} : Ev X 115 24 ls (vr x :: st) h Q ↔ (X.1 x = 9 ∧ Ev X 115 25 ls (vr (X.2.2.1 x 4) :: st) h Q) := R_gr rfl
theorem e_115_25 {x : Nat} : Ev X 115 25 ls (vr x :: st) h Q ↔ (X.1 x = 3 ∧ Ev X 115 26 ls (vr (X.2.2.1 x 6) :: st) h Q) := R_gr rfl
theorem e_115_26 : Ev X 115 26 ls st h Q ↔ onI (gl ls 1) (fun z => Ev X 115 27 ls (vi z :: st) h Q) := R_il rfl (Or.inl rfl)
theorem e_115_27 {x : Nat} {j : Int} : Ev X 115 27 ls (vi j :: vr x :: st) h Q ↔ (((X.1 x = 13 ∨ X.1 x = 20) ∧ 0 ≤ j ∧ j < X.2.1 x) ∧ Ev X 115 28 ls (vi (h.1 x j.toNat) :: st) h Q) := R_ia rfl
theorem e_115_28 {x : Int} : Ev X 115 28 ls (vi x :: st) h Q ↔ (stOK ls 2 = true ∧ Ev X 115 29 (ls.set 2 (some (vi x))) st h Q) := R_is rfl (Or.inl rfl)
theorem e_115_29 : Ev X 115 29 ls st h Q ↔ onR (gl ls 0) (fun z => Ev X 115 30 ls (vr z :: st) h Q) := R_al rfl (Or.inl rfl)
theorem e_115_30 {x : Nat} : Ev X 115 30 ls (vr x :: st) h Q ↔ (X.1 x = 11 ∧ Ev X 115 31 ls (vr (X.2.2.1 x 5) :: st) h Q) := R_gr rfl
theorem e_115_31 {x : Nat} : Ev X 115 31 ls (vr x :: st) h Q ↔ (X.1 x = 9 ∧ Ev X 115 32 ls (vr (X.2.2.1 x 4) :: st) h Q) := R_gr rfl
theorem e_115_32 : Ev X 115 32 ls st h Q ↔ onI (gl ls 1) (fun z => Ev X 115 33 ls (vi z :: st) h Q) := R_il rfl (Or.inl rfl)
theorem e_115_33 : Ev X 115 33 ls st h Q ↔ Ev X 115 34 ls (vi (-1) :: st) h Q := R_kc rfl (Or.inl ⟨Or.inl rfl, by decide⟩)
theorem e_115_34 : Ev X 115 34 ls st h Q ↔ Ev X 115 35 ls (vi (-1) :: st) h Q := R_kc rfl (Or.inl ⟨Or.inl rfl, by decide⟩)
theorem e_115_35 {rest : List xV} {a0 : Int} {a1 : Int} {a2 : Int} {o : Nat} : Ev X 115 35 ls ((vi a2) :: (vi a1) :: (vi a0) :: vr o :: rest) h Q ↔ ((X.1 o = 3 ∧ wd rest ≤ 8) ∧ Cl X 20 [vr o, vi a0, vi a1, vi a2] h (fun r h2 => Ev X 115 36 ls (r.toList ++ rest) h2 Q)) := R_cv (x := o) (as := [vi a0, vi a1, vi a2]) (k2 := 20) rfl rfl (Nat.le_of_ble_eq_true rfl)
theorem e_115_36 : Ev X 115 36 ls st h Q ↔ onI (gl ls 2) (fun z => Ev X 115 37 ls (vi z :: st) h Q) := R_il rfl (Or.inl rfl)
theorem e_115_37 {z : Int} : Ev X 115 37 ls [vi z] h Q ↔ Q (some (vi z)) h := R_ir rfl
-- 116: CellRows.start(I)I
theorem e_116_0 : Ev X 116 0 ls st h Q ↔ onI (gl ls 1) (fun z => Ev X 116 1 ls (vi z :: st) h Q) := R_il rfl (Or.inl rfl)
theorem e_116_1 : Ev X 116 1 ls st h Q ↔ Ev X 116 2 ls (vi 1 :: st) h Q := R_kc rfl (Or.inl ⟨Or.inl rfl, by decide⟩)
theorem e_116_2 {x y : Int} : Ev X 116 2 ls (vi y :: vi x :: st) h Q ↔ (if x < y then Ev X 116 6 ls st h Q else Ev X 116 3 ls st h Q) := R_iclt rfl
theorem e_116_3 : Ev X 116 3 ls st h Q ↔ onI (gl ls 1) (fun z => Ev X 116 4 ls (vi z :: st) h Q) := R_il rfl (Or.inl rfl)
theorem e_116_4 : Ev X 116 4 ls st h Q ↔ Ev X 116 5 ls (vi 20 :: st) h Q := R_kc rfl (Or.inr (Or.inl ⟨rfl, by decide⟩))
theorem e_116_5 {x y : Int} : Ev X 116 5 ls (vi y :: vi x :: st) h Q ↔ (if x ≤ y then Ev X 116 10 ls st h Q else Ev X 116 6 ls st h Q) := R_icle rfl
theorem e_116_6 : Ev X 116 6 ls st h Q ↔ onR (gl ls 0) (fun z => Ev X 116 7 ls (vr z :: st) h Q) := R_al rfl (Or.inl rfl)
theorem e_116_7 : Ev X 116 7 ls st h Q ↔ Ev X 116 8 ls (vi (-1) :: st) h Q := R_kc rfl (Or.inl ⟨Or.inl rfl, by decide⟩)
theorem e_116_8 {rest : List xV} {a0 : Int} {o : Nat} : Ev X 116 8 ls ((vi a0) :: vr o :: rest) h Q ↔ ((X.1 o = 11 ∧ wd rest ≤ 8) ∧ Cl X 138 [vr o, vi a0] h (fun r h2 => Ev X 116 9 ls (r.toList ++ rest) h2 Q)) := R_cv (x := o) (as := [vi a0]) (k2 := 138) rfl rfl (Nat.le_of_ble_eq_true rfl)
theorem e_116_9 {z : Int} : Ev X 116 9 ls [vi z] h Q ↔ Q (some (vi z)) h := R_ir rfl
theorem e_116_10 : Ev X 116 10 ls st h Q ↔ onR (gl ls 0) (fun z => Ev X 116 11 ls (vr z :: st) h Q) := R_al rfl (Or.inl rfl)
theorem e_116_11 : Ev X 116 11 ls st h Q ↔ Ev X 116 12 ls (vi 10 :: st) h Q := R_kc rfl (Or.inr (Or.inl ⟨rfl, by decide⟩))
theorem e_116_12 {rest : List xV} {a0 : Int} {o : Nat} : Ev X 116 12 ls ((vi a0) :: vr o :: rest) h Q ↔ ((X.1 o = 11 ∧ wd rest ≤ 8) ∧ Cl X 139 [vr o, vi a0] h (fun r h2 => Ev X 116 13 ls (r.toList ++ rest) h2 Q)) := R_cv (x := o) (as := [vi a0]) (k2 := 139) rfl rfl (Nat.le_of_ble_eq_true rfl)
theorem e_116_13 : Ev X 116 13 ls st h Q ↔ onR (gl ls 0) (fun z => Ev X 116 14 ls (vr z :: st) h Q) := R_al rfl (Or.inl rfl)
theorem e_116_14 {x : Nat} : Ev X 116 14 ls (vr x :: st) h Q ↔ (X.1 x = 11 ∧ Ev X 116 15 ls (vr (X.2.2.1 x 11) :: st) h Q) := R_gr rfl
theorem e_116_15 : Ev X 116 15 ls st h Q ↔ onR (gl ls 0) (fun z => Ev X 116 16 ls (vr z :: st) h Q) := R_al rfl (Or.inl rfl)
theorem e_116_16 {x : Nat} : Ev X 116 16 ls (vr x :: st) h Q ↔ (X.1 x = 11 ∧ Ev X 116 17 ls (vr (X.2.2.1 x 5) :: st) h Q) := R_gr rfl
theorem e_116_17 : Ev X 116 17 ls st h Q ↔ onI (gl ls 1) (fun z => Ev X 116 18 ls (vi z :: st) h Q) := R_il rfl (Or.inl rfl)
theorem e_116_18 {rest : List xV} {a0 : Nat} {a1 : Int} {o : Nat} : Ev X 116 18 ls ((vi a1) :: (vr a0) :: vr o :: rest) h Q ↔ ((X.1 o = 0 ∧ wd rest ≤ 8) ∧ Cl X 0 [vr o, vr a0, vi a1] h (fun r h2 => Ev X 116 19 ls (r.toList ++ rest) h2 Q)) := R_cv (x := o) (as := [vr a0, vi a1]) (k2 := 0) rfl rfl (Nat.le_of_ble_eq_true rfl)
theorem e_116_19 {z : Int} : Ev X 116 19 ls [vi z] h Q ↔ Q (some (vi z)) h := R_ir rfl
-- 117: CellRows.spread(I)I
theorem e_117_0 : Ev X 117 0 ls st h Q ↔ onI (gl ls 1) (fun z => Ev X 117 1 ls (vi z :: st) h Q) := R_il rfl (Or.inl rfl)
theorem e_117_1 : Ev X 117 1 ls st h Q ↔ Ev X 117 2 ls (vi 1 :: st) h Q := R_kc rfl (Or.inl ⟨Or.inl rfl, by decide⟩)
theorem e_117_2 {x y : Int} : Ev X 117 2 ls (vi y :: vi x :: st) h Q ↔ (if x < y then Ev X 117 6 ls st h Q else Ev X 117 3 ls st h Q) := R_iclt rfl
theorem e_117_3 : Ev X 117 3 ls st h Q ↔ onI (gl ls 1) (fun z => Ev X 117 4 ls (vi z :: st) h Q) := R_il rfl (Or.inl rfl)
theorem e_117_4 : Ev X 117 4 ls st h Q ↔ Ev X 117 5 ls (vi 10 :: st) h Q := R_kc rfl (Or.inr (Or.inl ⟨rfl, by decide⟩))
theorem e_117_5 {x y : Int} : Ev X 117 5 ls (vi y :: vi x :: st) h Q ↔ (if x ≤ y then Ev X 117 10 ls st h Q else Ev X 117 6 ls st h Q) := R_icle rfl
theorem e_117_6 : Ev X 117 6 ls st h Q ↔ onR (gl ls 0) (fun z => Ev X 117 7 ls (vr z :: st) h Q) := R_al rfl (Or.inl rfl)
theorem e_117_7 : Ev X 117 7 ls st h Q ↔ Ev X 117 8 ls (vi (-1) :: st) h Q := R_kc rfl (Or.inl ⟨Or.inl rfl, by decide⟩)
theorem e_117_8 {rest : List xV} {a0 : Int} {o : Nat} : Ev X 117 8 ls ((vi a0) :: vr o :: rest) h Q ↔ ((X.1 o = 11 ∧ wd rest ≤ 8) ∧ Cl X 138 [vr o, vi a0] h (fun r h2 => Ev X 117 9 ls (r.toList ++ rest) h2 Q)) := R_cv (x := o) (as := [vi a0]) (k2 := 138) rfl rfl (Nat.le_of_ble_eq_true rfl)
theorem e_117_9 {z : Int} : Ev X 117 9 ls [vi z] h Q ↔ Q (some (vi z)) h := R_ir rfl
theorem e_117_10 : Ev X 117 10 ls st h Q ↔ onR (gl ls 0) (fun z => Ev X 117 11 ls (vr z :: st) h Q) := R_al rfl (Or.inl rfl)
theorem e_117_11 : Ev X 117 11 ls st h Q ↔ Ev X 117 12 ls (vi 11 :: st) h Q := R_kc rfl (Or.inr (Or.inl ⟨rfl, by decide⟩))
theorem e_117_12 {rest : List xV} {a0 : Int} {o : Nat} : Ev X 117 12 ls ((vi a0) :: vr o :: rest) h Q ↔ ((X.1 o = 11 ∧ wd rest ≤ 8) ∧ Cl X 139 [vr o, vi a0] h (fun r h2 => Ev X 117 13 ls (r.toList ++ rest) h2 Q)) := R_cv (x := o) (as := [vi a0]) (k2 := 139) rfl rfl (Nat.le_of_ble_eq_true rfl)
theorem e_117_13 : Ev X 117 13 ls st h Q ↔ onR (gl ls 0) (fun z => Ev X 117 14 ls (vr z :: st) h Q) := R_al rfl (Or.inl rfl)
theorem e_117_14 {rest : List xV}  {o : Nat} : Ev X 117 14 ls (vr o :: rest) h Q ↔ ((X.1 o = 11 ∧ wd rest ≤ 8) ∧ Cl X 145 [vr o] h (fun r h2 => Ev X 117 15 ls (r.toList ++ rest) h2 Q)) := R_cv (x := o) (as := []) (k2 := 145) rfl rfl (Nat.le_of_ble_eq_true rfl)
theorem e_117_15 : Ev X 117 15 ls st h Q ↔ onR (gl ls 0) (fun z => Ev X 117 16 ls (vr z :: st) h Q) := R_al rfl (Or.inl rfl)
theorem e_117_16 {x : Nat} : Ev X 117 16 ls (vr x :: st) h Q ↔ (X.1 x = 11 ∧ Ev X 117 17 ls (vr (X.2.2.1 x 11) :: st) h Q) := R_gr rfl
theorem e_117_17 : Ev X 117 17 ls st h Q ↔ onR (gl ls 0) (fun z => Ev X 117 18 ls (vr z :: st) h Q) := R_al rfl (Or.inl rfl)
theorem e_117_18 {x : Nat} : Ev X 117 18 ls (vr x :: st) h Q ↔ (X.1 x = 11 ∧ Ev X 117 19 ls (vr (X.2.2.1 x 5) :: st) h Q) := R_gr rfl
theorem e_117_19 : Ev X 117 19 ls st h Q ↔ onI (gl ls 1) (fun z => Ev X 117 20 ls (vi z :: st) h Q) := R_il rfl (Or.inl rfl)
theorem e_117_20 {rest : List xV} {a0 : Nat} {a1 : Int} {o : Nat} : Ev X 117 20 ls ((vi a1) :: (vr a0) :: vr o :: rest) h Q ↔ ((X.1 o = 0 ∧ wd rest ≤ 8) ∧ Cl X 3 [vr o, vr a0, vi a1] h (fun r h2 => Ev X 117 21 ls (r.toList ++ rest) h2 Q)) := R_cv (x := o) (as := [vr a0, vi a1]) (k2 := 3) rfl rfl (Nat.le_of_ble_eq_true rfl)
theorem e_117_21 {z : Int} : Ev X 117 21 ls [vi z] h Q ↔ Q (some (vi z)) h := R_ir rfl
-- 118: CellRows.legal()I
theorem e_118_0 : Ev X 118 0 ls st h Q ↔ onR (gl ls 0) (fun z => Ev X 118 1 ls (vr z :: st) h Q) := R_al rfl (Or.inl rfl)
theorem e_118_1 {x : Nat} : Ev X 118 1 ls (vr x :: st) h Q ↔ (X.1 x = 11 ∧ Ev X 118 2 ls (vr (X.2.2.1 x 6) :: st) h Q) := R_gr rfl
theorem e_118_2 : Ev X 118 2 ls st h Q ↔ onR (gl ls 0) (fun z => Ev X 118 3 ls (vr z :: st) h Q) := R_al rfl (Or.inl rfl)
theorem e_118_3 {x : Nat} : Ev X 118 3 ls (vr x :: st) h Q ↔ (X.1 x = 11 ∧ Ev X 118 4 ls (vr (X.2.2.1 x 5) :: st) h Q) := R_gr rfl
theorem e_118_4 {rest : List xV} {a0 : Nat} {o : Nat} : Ev X 118 4 ls ((vr a0) :: vr o :: rest) h Q ↔ ((X.1 o = 9 ∧ wd rest ≤ 8) ∧ Cl X 74 [vr o, vr a0] h (fun r h2 => Ev X 118 5 ls (r.toList ++ rest) h2 Q)) := R_cv (x := o) (as := [vr a0]) (k2 := 74) rfl rfl (Nat.le_of_ble_eq_true rfl)
theorem e_118_5 : Ev X 118 5 ls st h Q ↔ onR (gl ls 0) (fun z => Ev X 118 6 ls (vr z :: st) h Q) := R_al rfl (Or.inl rfl)
theorem e_118_6 {x : Nat} : Ev X 118 6 ls (vr x :: st) h Q ↔ (X.1 x = 11 ∧ Ev X 118 7 ls (vr (X.2.2.1 x 12) :: st) h Q) := R_gr rfl
theorem e_118_7 : Ev X 118 7 ls st h Q ↔ onR (gl ls 0) (fun z => Ev X 118 8 ls (vr z :: st) h Q) := R_al rfl (Or.inl rfl)
theorem e_118_8 {x : Nat} : Ev X 118 8 ls (vr x :: st) h Q ↔ (X.1 x = 11 ∧ Ev X 118 9 ls (vr (X.2.2.1 x 6) :: st) h Q) := R_gr rfl
theorem e_118_9 {rest : List xV} {a0 : Nat} {o : Nat} : Ev X 118 9 ls ((vr a0) :: vr o :: rest) h Q ↔ ((X.1 o = 7 ∧ wd rest ≤ 8) ∧ Cl X 50 [vr o, vr a0] h (fun r h2 => Ev X 118 10 ls (r.toList ++ rest) h2 Q)) := R_cv (x := o) (as := [vr a0]) (k2 := 50) rfl rfl (Nat.le_of_ble_eq_true rfl)
theorem e_118_10 {x : Int} : Ev X 118 10 ls (vi x :: st) h Q ↔ (if ¬ x = 0 then Ev X 118 15 ls st h Q else Ev X 118 11 ls st h Q) := R_ifne rfl
theorem e_118_11 : Ev X 118 11 ls st h Q ↔ onR (gl ls 0) (fun z => Ev X 118 12 ls (vr z :: st) h Q) := R_al rfl (Or.inl rfl)
theorem e_118_12 : Ev X 118 12 ls st h Q ↔ Ev X 118 13 ls (vi (-5) :: st) h Q := R_kc rfl (Or.inr (Or.inl ⟨rfl, by decide⟩))
theorem e_118_13 {rest : List xV} {a0 : Int} {o : Nat} : Ev X 118 13 ls ((vi a0) :: vr o :: rest) h Q ↔ ((X.1 o = 11 ∧ wd rest ≤ 8) ∧ Cl X 138 [vr o, vi a0] h (fun r h2 => Ev X 118 14 ls (r.toList ++ rest) h2 Q)) := R_cv (x := o) (as := [vi a0]) (k2 := 138) rfl rfl (Nat.le_of_ble_eq_true rfl)
theorem e_118_14 {z : Int} : Ev X 118 14 ls [vi z] h Q ↔ Q (some (vi z)) h := R_ir rfl
theorem e_118_15 : Ev X 118 15 ls st h Q ↔ onR (gl ls 0) (fun z => Ev X 118 16 ls (vr z :: st) h Q) := R_al rfl (Or.inl rfl)
theorem e_118_16 : Ev X 118 16 ls st h Q ↔ Ev X 118 17 ls (vi 12 :: st) h Q := R_kc rfl (Or.inr (Or.inl ⟨rfl, by decide⟩))
theorem e_118_17 {rest : List xV} {a0 : Int} {o : Nat} : Ev X 118 17 ls ((vi a0) :: vr o :: rest) h Q ↔ ((X.1 o = 11 ∧ wd rest ≤ 8) ∧ Cl X 139 [vr o, vi a0] h (fun r h2 => Ev X 118 18 ls (r.toList ++ rest) h2 Q)) := R_cv (x := o) (as := [vi a0]) (k2 := 139) rfl rfl (Nat.le_of_ble_eq_true rfl)
theorem e_118_18 : Ev X 118 18 ls st h Q ↔ onR (gl ls 0) (fun z => Ev X 118 19 ls (vr z :: st) h Q) := R_al rfl (Or.inl rfl)
theorem e_118_19 {x : Nat} : Ev X 118 19 ls (vr x :: st) h Q ↔ (X.1 x = 11 ∧ Ev X 118 20 ls (vr (X.2.2.1 x 5) :: st) h Q) := R_gr rfl
theorem e_118_20 : Ev X 118 20 ls st h Q ↔ onR (gl ls 0) (fun z => Ev X 118 21 ls (vr z :: st) h Q) := R_al rfl (Or.inl rfl)
theorem e_118_21 {x : Nat} : Ev X 118 21 ls (vr x :: st) h Q ↔ (X.1 x = 11 ∧ Ev X 118 22 ls (vr (X.2.2.1 x 6) :: st) h Q) := R_gr rfl
theorem e_118_22 {rest : List xV} {a0 : Nat} {o : Nat} : Ev X 118 22 ls ((vr a0) :: vr o :: rest) h Q ↔ ((X.1 o = 9 ∧ wd rest ≤ 8) ∧ Cl X 74 [vr o, vr a0] h (fun r h2 => Ev X 118 23 ls (r.toList ++ rest) h2 Q)) := R_cv (x := o) (as := [vr a0]) (k2 := 74) rfl rfl (Nat.le_of_ble_eq_true rfl)
theorem e_118_23 : Ev X 118 23 ls st h Q ↔ onR (gl ls 0) (fun z => Ev X 118 24 ls (vr z :: st) h Q) := R_al rfl (Or.inl rfl)
theorem e_118_24 : Ev X 118 24 ls st h Q ↔ onR (gl ls 0) (fun z => Ev X 118 25 ls (vr z :: st) h Q) := R_al rfl (Or.inl rfl)
theorem e_118_25 {x : Nat} : Ev X 118 25 ls (vr x :: st) h Q ↔ (X.1 x = 11 ∧ Ev X 118 26 ls (vr (X.2.2.1 x 5) :: st) h Q) := R_gr rfl
theorem e_118_26 {x : Nat} : Ev X 118 26 ls (vr x :: st) h Q ↔ (X.1 x = 9 ∧ Ev X 118 27 ls (vr (X.2.2.1 x 4) :: st) h Q) := R_gr rfl
theorem e_118_27 {rest : List xV} {a0 : Nat} {o : Nat} : Ev X 118 27 ls ((vr a0) :: vr o :: rest) h Q ↔ ((X.1 o = 11 ∧ wd rest ≤ 8) ∧ Cl X 147 [vr o, vr a0] h (fun r h2 => Ev X 118 28 ls (r.toList ++ rest) h2 Q)) := R_cv (x := o) (as := [vr a0]) (k2 := 147) rfl rfl (Nat.le_of_ble_eq_true rfl)
theorem e_118_28 {z : Int} : Ev X 118 28 ls [vi z] h Q ↔ Q (some (vi z)) h := R_ir rfl
-- 119: CellRows.windows(I)I
theorem e_119_0 : Ev X 119 0 ls st h Q ↔ onI (gl ls 1) (fun z => Ev X 119 1 ls (vi z :: st) h Q) := R_il rfl (Or.inl rfl)
theorem e_119_1 : Ev X 119 1 ls st h Q ↔ Ev X 119 2 ls (vi 2 :: st) h Q := R_kc rfl (Or.inl ⟨Or.inl rfl, by decide⟩)
theorem e_119_2 {x y : Int} : Ev X 119 2 ls (vi y :: vi x :: st) h Q ↔ (if x < y then Ev X 119 6 ls st h Q else Ev X 119 3 ls st h Q) := R_iclt rfl
theorem e_119_3 : Ev X 119 3 ls st h Q ↔ onI (gl ls 1) (fun z => Ev X 119 4 ls (vi z :: st) h Q) := R_il rfl (Or.inl rfl)
theorem e_119_4 : Ev X 119 4 ls st h Q ↔ Ev X 119 5 ls (vi 4 :: st) h Q := R_kc rfl (Or.inl ⟨Or.inl rfl, by decide⟩)
theorem e_119_5 {x y : Int} : Ev X 119 5 ls (vi y :: vi x :: st) h Q ↔ (if x ≤ y then Ev X 119 10 ls st h Q else Ev X 119 6 ls st h Q) := R_icle rfl
theorem e_119_6 : Ev X 119 6 ls st h Q ↔ onR (gl ls 0) (fun z => Ev X 119 7 ls (vr z :: st) h Q) := R_al rfl (Or.inl rfl)
theorem e_119_7 : Ev X 119 7 ls st h Q ↔ Ev X 119 8 ls (vi (-1) :: st) h Q := R_kc rfl (Or.inl ⟨Or.inl rfl, by decide⟩)
theorem e_119_8 {rest : List xV} {a0 : Int} {o : Nat} : Ev X 119 8 ls ((vi a0) :: vr o :: rest) h Q ↔ ((X.1 o = 11 ∧ wd rest ≤ 8) ∧ Cl X 138 [vr o, vi a0] h (fun r h2 => Ev X 119 9 ls (r.toList ++ rest) h2 Q)) := R_cv (x := o) (as := [vi a0]) (k2 := 138) rfl rfl (Nat.le_of_ble_eq_true rfl)
theorem e_119_9 {z : Int} : Ev X 119 9 ls [vi z] h Q ↔ Q (some (vi z)) h := R_ir rfl
theorem e_119_10 : Ev X 119 10 ls st h Q ↔ onR (gl ls 0) (fun z => Ev X 119 11 ls (vr z :: st) h Q) := R_al rfl (Or.inl rfl)
theorem e_119_11 : Ev X 119 11 ls st h Q ↔ Ev X 119 12 ls (vi 13 :: st) h Q := R_kc rfl (Or.inr (Or.inl ⟨rfl, by decide⟩))
theorem e_119_12 {rest : List xV} {a0 : Int} {o : Nat} : Ev X 119 12 ls ((vi a0) :: vr o :: rest) h Q ↔ ((X.1 o = 11 ∧ wd rest ≤ 8) ∧ Cl X 139 [vr o, vi a0] h (fun r h2 => Ev X 119 13 ls (r.toList ++ rest) h2 Q)) := R_cv (x := o) (as := [vi a0]) (k2 := 139) rfl rfl (Nat.le_of_ble_eq_true rfl)
theorem e_119_13 : Ev X 119 13 ls st h Q ↔ onR (gl ls 0) (fun z => Ev X 119 14 ls (vr z :: st) h Q) := R_al rfl (Or.inl rfl)
theorem e_119_14 {x : Nat} : Ev X 119 14 ls (vr x :: st) h Q ↔ (X.1 x = 11 ∧ Ev X 119 15 ls (vr (X.2.2.1 x 9) :: st) h Q) := R_gr rfl
theorem e_119_15 : Ev X 119 15 ls st h Q ↔ onR (gl ls 0) (fun z => Ev X 119 16 ls (vr z :: st) h Q) := R_al rfl (Or.inl rfl)
theorem e_119_16 {x : Nat} : Ev X 119 16 ls (vr x :: st) h Q ↔ (X.1 x = 11 ∧ Ev X 119 17 ls (vr (X.2.2.1 x 5) :: st) h Q) := R_gr rfl
theorem e_119_17 {rest : List xV} {a0 : Nat} {o : Nat} : Ev X 119 17 ls ((vr a0) :: vr o :: rest) h Q ↔ ((X.1 o = 10 ∧ wd rest ≤ 8) ∧ Cl X 92 [vr o, vr a0] h (fun r h2 => Ev X 119 18 ls (r.toList ++ rest) h2 Q)) := R_cv (x := o) (as := [vr a0]) (k2 := 92) rfl rfl (Nat.le_of_ble_eq_true rfl)
theorem e_119_18 {x : Int} : Ev X 119 18 ls (vi x :: st) h Q ↔ (stOK ls 2 = true ∧ Ev X 119 19 (ls.set 2 (some (vi x))) st h Q) := R_is rfl (Or.inl rfl)
theorem e_119_19 : Ev X 119 19 ls st h Q ↔ onR (gl ls 0) (fun z => Ev X 119 20 ls (vr z :: st) h Q) := R_al rfl (Or.inl rfl)
theorem e_119_20 {x : Nat} : Ev X 119 20 ls (vr x :: st) h Q ↔ (X.1 x = 11 ∧ Ev X 119 21 ls (vr (X.2.2.1 x 13) :: st) h Q) := R_gr rfl
theorem e_119_21 : Ev X 119 21 ls st h Q ↔ onR (gl ls 0) (fun z => Ev X 119 22 ls (vr z :: st) h Q) := R_al rfl (Or.inl rfl)
theorem e_119_22 {x : Nat} : Ev X 119 22 ls (vr x :: st) h Q ↔ (X.1 x = 11 ∧ Ev X 119 23 ls (vr (X.2.2.1 x 5) :: st) h Q) := R_gr rfl
theorem e_119_23 : Ev X 119 23 ls st h Q ↔ onI (gl ls 1) (fun z => Ev X 119 24 ls (vi z :: st) h Q) := R_il rfl (Or.inl rfl)
theorem e_119_24 {rest : List xV} {a0 : Nat} {a1 : Int} {o : Nat} : Ev X 119 24 ls ((vi a1) :: (vr a0) :: vr o :: rest) h Q ↔ ((X.1 o = 8 ∧ wd rest ≤ 8) ∧ Cl X 59 [vr o, vr a0, vi a1] h (fun r h2 => Ev X 119 25 ls (r.toList ++ rest) h2 Q)) := R_cv (x := o) (as := [vr a0, vi a1]) (k2 := 59) rfl rfl (Nat.le_of_ble_eq_true rfl)
theorem e_119_25 : Ev X 119 25 ls st h Q ↔ onI (gl ls 2) (fun z => Ev X 119 26 ls (vi z :: st) h Q) := R_il rfl (Or.inl rfl)
theorem e_119_26 : Ev X 119 26 ls st h Q ↔ onR (gl ls 0) (fun z => Ev X 119 27 ls (vr z :: st) h Q) := R_al rfl (Or.inl rfl)
theorem e_119_27 {x : Nat} : Ev X 119 27 ls (vr x :: st) h Q ↔ (X.1 x = 11 ∧ Ev X 119 28 ls (vr (X.2.2.1 x 9) :: st) h Q) := R_gr rfl
theorem e_119_28 : Ev X 119 28 ls st h Q ↔ onR (gl ls 0) (fun z => Ev X 119 29 ls (vr z :: st) h Q) := R_al rfl (Or.inl rfl)
theorem e_119_29 {x : Nat} : Ev X 119 29 ls (vr x :: st) h Q ↔ (X.1 x = 11 ∧ Ev X 119 30 ls (vr (X.2.2.1 x 5) :: st) h Q) := R_gr rfl
theorem e_119_30 {rest : List xV} {a0 : Nat} {o : Nat} : Ev X 119 30 ls ((vr a0) :: vr o :: rest) h Q ↔ ((X.1 o = 10 ∧ wd rest ≤ 8) ∧ Cl X 92 [vr o, vr a0] h (fun r h2 => Ev X 119 31 ls (r.toList ++ rest) h2 Q)) := R_cv (x := o) (as := [vr a0]) (k2 := 92) rfl rfl (Nat.le_of_ble_eq_true rfl)
theorem e_119_31 {x y : Int} : Ev X 119 31 ls (vi y :: vi x :: st) h Q ↔ ((inR (x - y)) ∧ Ev X 119 32 ls (vi (x - y) :: st) h Q) := R_sub rfl
theorem e_119_32 {z : Int} : Ev X 119 32 ls [vi z] h Q ↔ Q (some (vi z)) h := R_ir rfl
-- 120: CellRows.swaps()I
theorem e_120_0 : Ev X 120 0 ls st h Q ↔ onR (gl ls 0) (fun z => Ev X 120 1 ls (vr z :: st) h Q) := R_al rfl (Or.inl rfl)
theorem e_120_1 : Ev X 120 1 ls st h Q ↔ Ev X 120 2 ls (vi 14 :: st) h Q := R_kc rfl (Or.inr (Or.inl ⟨rfl, by decide⟩))
theorem e_120_2 {rest : List xV} {a0 : Int} {o : Nat} : Ev X 120 2 ls ((vi a0) :: vr o :: rest) h Q ↔ ((X.1 o = 11 ∧ wd rest ≤ 8) ∧ Cl X 139 [vr o, vi a0] h (fun r h2 => Ev X 120 3 ls (r.toList ++ rest) h2 Q)) := R_cv (x := o) (as := [vi a0]) (k2 := 139) rfl rfl (Nat.le_of_ble_eq_true rfl)
theorem e_120_3 : Ev X 120 3 ls st h Q ↔ onR (gl ls 0) (fun z => Ev X 120 4 ls (vr z :: st) h Q) := R_al rfl (Or.inl rfl)
theorem e_120_4 {x : Nat} : Ev X 120 4 ls (vr x :: st) h Q ↔ (X.1 x = 11 ∧ Ev X 120 5 ls (vr (X.2.2.1 x 13) :: st) h Q) := R_gr rfl
theorem e_120_5 : Ev X 120 5 ls st h Q ↔ onR (gl ls 0) (fun z => Ev X 120 6 ls (vr z :: st) h Q) := R_al rfl (Or.inl rfl)
theorem e_120_6 {x : Nat} : Ev X 120 6 ls (vr x :: st) h Q ↔ (X.1 x = 11 ∧ Ev X 120 7 ls (vr (X.2.2.1 x 5) :: st) h Q) := R_gr rfl
theorem e_120_7 {rest : List xV} {a0 : Nat} {o : Nat} : Ev X 120 7 ls ((vr a0) :: vr o :: rest) h Q ↔ ((X.1 o = 8 ∧ wd rest ≤ 8) ∧ Cl X 62 [vr o, vr a0] h (fun r h2 => Ev X 120 8 ls (r.toList ++ rest) h2 Q)) := R_cv (x := o) (as := [vr a0]) (k2 := 62) rfl rfl (Nat.le_of_ble_eq_true rfl)
theorem e_120_8 {z : Int} : Ev X 120 8 ls [vi z] h Q ↔ Q (some (vi z)) h := R_ir rfl
-- 121: CellRows.hops()I
theorem e_121_0 : Ev X 121 0 ls st h Q ↔ onR (gl ls 0) (fun z => Ev X 121 1 ls (vr z :: st) h Q) := R_al rfl (Or.inl rfl)
theorem e_121_1 : Ev X 121 1 ls st h Q ↔ Ev X 121 2 ls (vi 15 :: st) h Q := R_kc rfl (Or.inr (Or.inl ⟨rfl, by decide⟩))
theorem e_121_2 {rest : List xV} {a0 : Int} {o : Nat} : Ev X 121 2 ls ((vi a0) :: vr o :: rest) h Q ↔ ((X.1 o = 11 ∧ wd rest ≤ 8) ∧ Cl X 139 [vr o, vi a0] h (fun r h2 => Ev X 121 3 ls (r.toList ++ rest) h2 Q)) := R_cv (x := o) (as := [vi a0]) (k2 := 139) rfl rfl (Nat.le_of_ble_eq_true rfl)
theorem e_121_3 : Ev X 121 3 ls st h Q ↔ onR (gl ls 0) (fun z => Ev X 121 4 ls (vr z :: st) h Q) := R_al rfl (Or.inl rfl)
theorem e_121_4 {x : Nat} : Ev X 121 4 ls (vr x :: st) h Q ↔ (X.1 x = 11 ∧ Ev X 121 5 ls (vr (X.2.2.1 x 9) :: st) h Q) := R_gr rfl
theorem e_121_5 : Ev X 121 5 ls st h Q ↔ onR (gl ls 0) (fun z => Ev X 121 6 ls (vr z :: st) h Q) := R_al rfl (Or.inl rfl)
theorem e_121_6 {x : Nat} : Ev X 121 6 ls (vr x :: st) h Q ↔ (X.1 x = 11 ∧ Ev X 121 7 ls (vr (X.2.2.1 x 5) :: st) h Q) := R_gr rfl
theorem e_121_7 {rest : List xV} {a0 : Nat} {o : Nat} : Ev X 121 7 ls ((vr a0) :: vr o :: rest) h Q ↔ ((X.1 o = 10 ∧ wd rest ≤ 8) ∧ Cl X 92 [vr o, vr a0] h (fun r h2 => Ev X 121 8 ls (r.toList ++ rest) h2 Q)) := R_cv (x := o) (as := [vr a0]) (k2 := 92) rfl rfl (Nat.le_of_ble_eq_true rfl)
theorem e_121_8 {x : Int} : Ev X 121 8 ls (vi x :: st) h Q ↔ (stOK ls 1 = true ∧ Ev X 121 9 (ls.set 1 (some (vi x))) st h Q) := R_is rfl (Or.inl rfl)
theorem e_121_9 : Ev X 121 9 ls st h Q ↔ onR (gl ls 0) (fun z => Ev X 121 10 ls (vr z :: st) h Q) := R_al rfl (Or.inl rfl)
theorem e_121_10 {x : Nat} : Ev X 121 10 ls (vr x :: st) h Q ↔ (X.1 x = 11 ∧ Ev X 121 11 ls (vr (X.2.2.1 x 13) :: st) h Q) := R_gr rfl
theorem e_121_11 : Ev X 121 11 ls st h Q ↔ onR (gl ls 0) (fun z => Ev X 121 12 ls (vr z :: st) h Q) := R_al rfl (Or.inl rfl)
theorem e_121_12 {x : Nat} : Ev X 121 12 ls (vr x :: st) h Q ↔ (X.1 x = 11 ∧ Ev X 121 13 ls (vr (X.2.2.1 x 5) :: st) h Q) := R_gr rfl
theorem e_121_13 {rest : List xV} {a0 : Nat} {o : Nat} : Ev X 121 13 ls ((vr a0) :: vr o :: rest) h Q ↔ ((X.1 o = 8 ∧ wd rest ≤ 8) ∧ Cl X 64 [vr o, vr a0] h (fun r h2 => Ev X 121 14 ls (r.toList ++ rest) h2 Q)) := R_cv (x := o) (as := [vr a0]) (k2 := 64) rfl rfl (Nat.le_of_ble_eq_true rfl)
theorem e_121_14 : Ev X 121 14 ls st h Q ↔ onI (gl ls 1) (fun z => Ev X 121 15 ls (vi z :: st) h Q) := R_il rfl (Or.inl rfl)
theorem e_121_15 : Ev X 121 15 ls st h Q ↔ onR (gl ls 0) (fun z => Ev X 121 16 ls (vr z :: st) h Q) := R_al rfl (Or.inl rfl)
theorem e_121_16 {x : Nat} : Ev X 121 16 ls (vr x :: st) h Q ↔ (X.1 x = 11 ∧ Ev X 121 17 ls (vr (X.2.2.1 x 9) :: st) h Q) := R_gr rfl
theorem e_121_17 : Ev X 121 17 ls st h Q ↔ onR (gl ls 0) (fun z => Ev X 121 18 ls (vr z :: st) h Q) := R_al rfl (Or.inl rfl)
theorem e_121_18 {x : Nat} : Ev X 121 18 ls (vr x :: st) h Q ↔ (X.1 x = 11 ∧ Ev X 121 19 ls (vr (X.2.2.1 x 5) :: st) h Q) := R_gr rfl
theorem e_121_19 {rest : List xV} {a0 : Nat} {o : Nat} : Ev X 121 19 ls ((vr a0) :: vr o :: rest) h Q ↔ ((X.1 o = 10 ∧ wd rest ≤ 8) ∧ Cl X 92 [vr o, vr a0] h (fun r h2 => Ev X 121 20 ls (r.toList ++ rest) h2 Q)) := R_cv (x := o) (as := [vr a0]) (k2 := 92) rfl rfl (Nat.le_of_ble_eq_true rfl)
theorem e_121_20 {x y : Int} : Ev X 121 20 ls (vi y :: vi x :: st) h Q ↔ ((inR (x - y)) ∧ Ev X 121 21 ls (vi (x - y) :: st) h Q) := R_sub rfl
theorem e_121_21 {z : Int} : Ev X 121 21 ls [vi z] h Q ↔ Q (some (vi z)) h := R_ir rfl
-- 122: CellRows.sorts()I
theorem e_122_0 : Ev X 122 0 ls st h Q ↔ onR (gl ls 0) (fun z => Ev X 122 1 ls (vr z :: st) h Q) := R_al rfl (Or.inl rfl)
theorem e_122_1 : Ev X 122 1 ls st h Q ↔ Ev X 122 2 ls (vi 16 :: st) h Q := R_kc rfl (Or.inr (Or.inl ⟨rfl, by decide⟩))
theorem e_122_2 {rest : List xV} {a0 : Int} {o : Nat} : Ev X 122 2 ls ((vi a0) :: vr o :: rest) h Q ↔ ((X.1 o = 11 ∧ wd rest ≤ 8) ∧ Cl X 139 [vr o, vi a0] h (fun r h2 => Ev X 122 3 ls (r.toList ++ rest) h2 Q)) := R_cv (x := o) (as := [vi a0]) (k2 := 139) rfl rfl (Nat.le_of_ble_eq_true rfl)
theorem e_122_3 : Ev X 122 3 ls st h Q ↔ onR (gl ls 0) (fun z => Ev X 122 4 ls (vr z :: st) h Q) := R_al rfl (Or.inl rfl)
theorem e_122_4 {x : Nat} : Ev X 122 4 ls (vr x :: st) h Q ↔ (X.1 x = 11 ∧ Ev X 122 5 ls (vr (X.2.2.1 x 9) :: st) h Q) := R_gr rfl
theorem e_122_5 : Ev X 122 5 ls st h Q ↔ onR (gl ls 0) (fun z => Ev X 122 6 ls (vr z :: st) h Q) := R_al rfl (Or.inl rfl)
theorem e_122_6 {x : Nat} : Ev X 122 6 ls (vr x :: st) h Q ↔ (X.1 x = 11 ∧ Ev X 122 7 ls (vr (X.2.2.1 x 5) :: st) h Q) := R_gr rfl
theorem e_122_7 {rest : List xV} {a0 : Nat} {o : Nat} : Ev X 122 7 ls ((vr a0) :: vr o :: rest) h Q ↔ ((X.1 o = 10 ∧ wd rest ≤ 8) ∧ Cl X 92 [vr o, vr a0] h (fun r h2 => Ev X 122 8 ls (r.toList ++ rest) h2 Q)) := R_cv (x := o) (as := [vr a0]) (k2 := 92) rfl rfl (Nat.le_of_ble_eq_true rfl)
theorem e_122_8 {x : Int} : Ev X 122 8 ls (vi x :: st) h Q ↔ (stOK ls 1 = true ∧ Ev X 122 9 (ls.set 1 (some (vi x))) st h Q) := R_is rfl (Or.inl rfl)
theorem e_122_9 : Ev X 122 9 ls st h Q ↔ onR (gl ls 0) (fun z => Ev X 122 10 ls (vr z :: st) h Q) := R_al rfl (Or.inl rfl)
theorem e_122_10 {x : Nat} : Ev X 122 10 ls (vr x :: st) h Q ↔ (X.1 x = 11 ∧ Ev X 122 11 ls (vr (X.2.2.1 x 13) :: st) h Q) := R_gr rfl
theorem e_122_11 : Ev X 122 11 ls st h Q ↔ onR (gl ls 0) (fun z => Ev X 122 12 ls (vr z :: st) h Q) := R_al rfl (Or.inl rfl)
theorem e_122_12 {x : Nat} : Ev X 122 12 ls (vr x :: st) h Q ↔ (X.1 x = 11 ∧ Ev X 122 13 ls (vr (X.2.2.1 x 5) :: st) h Q) := R_gr rfl
theorem e_122_13 {rest : List xV} {a0 : Nat} {o : Nat} : Ev X 122 13 ls ((vr a0) :: vr o :: rest) h Q ↔ ((X.1 o = 8 ∧ wd rest ≤ 8) ∧ Cl X 66 [vr o, vr a0] h (fun r h2 => Ev X 122 14 ls (r.toList ++ rest) h2 Q)) := R_cv (x := o) (as := [vr a0]) (k2 := 66) rfl rfl (Nat.le_of_ble_eq_true rfl)
theorem e_122_14 : Ev X 122 14 ls st h Q ↔ onI (gl ls 1) (fun z => Ev X 122 15 ls (vi z :: st) h Q) := R_il rfl (Or.inl rfl)
theorem e_122_15 : Ev X 122 15 ls st h Q ↔ onR (gl ls 0) (fun z => Ev X 122 16 ls (vr z :: st) h Q) := R_al rfl (Or.inl rfl)
theorem e_122_16 {x : Nat} : Ev X 122 16 ls (vr x :: st) h Q ↔ (X.1 x = 11 ∧ Ev X 122 17 ls (vr (X.2.2.1 x 9) :: st) h Q) := R_gr rfl
theorem e_122_17 : Ev X 122 17 ls st h Q ↔ onR (gl ls 0) (fun z => Ev X 122 18 ls (vr z :: st) h Q) := R_al rfl (Or.inl rfl)
theorem e_122_18 {x : Nat} : Ev X 122 18 ls (vr x :: st) h Q ↔ (X.1 x = 11 ∧ Ev X 122 19 ls (vr (X.2.2.1 x 5) :: st) h Q) := R_gr rfl
theorem e_122_19 {rest : List xV} {a0 : Nat} {o : Nat} : Ev X 122 19 ls ((vr a0) :: vr o :: rest) h Q ↔ ((X.1 o = 10 ∧ wd rest ≤ 8) ∧ Cl X 92 [vr o, vr a0] h (fun r h2 => Ev X 122 20 ls (r.toList ++ rest) h2 Q)) := R_cv (x := o) (as := [vr a0]) (k2 := 92) rfl rfl (Nat.le_of_ble_eq_true rfl)
theorem e_122_20 {x y : Int} : Ev X 122 20 ls (vi y :: vi x :: st) h Q ↔ ((inR (x - y)) ∧ Ev X 122 21 ls (vi (x - y) :: st) h Q) := R_sub rfl
theorem e_122_21 {z : Int} : Ev X 122 21 ls [vi z] h Q ↔ Q (some (vi z)) h := R_ir rfl
-- 123: CellRows.shake(III)I
theorem e_123_0 : Ev X 123 0 ls st h Q ↔ onI (gl ls 1) (fun z => Ev X 123 1 ls (vi z :: st) h Q) := R_il rfl (Or.inl rfl)
theorem e_123_1 {x : Int} : Ev X 123 1 ls (vi x :: st) h Q ↔ (if x < 0 then Ev X 123 16 ls st h Q else Ev X 123 2 ls st h Q) := R_iflt rfl
theorem e_123_2 : Ev X 123 2 ls st h Q ↔ onI (gl ls 1) (fun z => Ev X 123 3 ls (vi z :: st) h Q) := R_il rfl (Or.inl rfl)
theorem e_123_3 : Ev X 123 3 ls st h Q ↔ Ev X 123 4 ls (vi 1000000 :: st) h Q := R_kc rfl (Or.inl ⟨Or.inr (Or.inr rfl), by decide⟩)
theorem e_123_4 {x y : Int} : Ev X 123 4 ls (vi y :: vi x :: st) h Q ↔ (if y < x then Ev X 123 16 ls st h Q else Ev X 123 5 ls st h Q) := R_icgt rfl
theorem e_123_5 : Ev X 123 5 ls st h Q ↔ onI (gl ls 2) (fun z => Ev X 123 6 ls (vi z :: st) h Q) := R_il rfl (Or.inl rfl)
theorem e_123_6 : Ev X 123 6 ls st h Q ↔ Ev X 123 7 ls (vi 1 :: st) h Q := R_kc rfl (Or.inl ⟨Or.inl rfl, by decide⟩)
theorem e_123_7 {x y : Int} : Ev X 123 7 ls (vi y :: vi x :: st) h Q ↔ (if x < y then Ev X 123 16 ls st h Q else Ev X 123 8 ls st h Q) := R_iclt rfl
theorem e_123_8 : Ev X 123 8 ls st h Q ↔ onI (gl ls 2) (fun z => Ev X 123 9 ls (vi z :: st) h Q) := R_il rfl (Or.inl rfl)
theorem e_123_9 : Ev X 123 9 ls st h Q ↔ Ev X 123 10 ls (vi 60 :: st) h Q := R_kc rfl (Or.inr (Or.inl ⟨rfl, by decide⟩))
theorem e_123_10 {x y : Int} : Ev X 123 10 ls (vi y :: vi x :: st) h Q ↔ (if y < x then Ev X 123 16 ls st h Q else Ev X 123 11 ls st h Q) := R_icgt rfl
theorem e_123_11 : Ev X 123 11 ls st h Q ↔ onI (gl ls 3) (fun z => Ev X 123 12 ls (vi z :: st) h Q) := R_il rfl (Or.inl rfl)
theorem e_123_12 {x : Int} : Ev X 123 12 ls (vi x :: st) h Q ↔ (if x < 0 then Ev X 123 16 ls st h Q else Ev X 123 13 ls st h Q) := R_iflt rfl
theorem e_123_13 : Ev X 123 13 ls st h Q ↔ onI (gl ls 3) (fun z => Ev X 123 14 ls (vi z :: st) h Q) := R_il rfl (Or.inl rfl)
theorem e_123_14 : Ev X 123 14 ls st h Q ↔ Ev X 123 15 ls (vi 9999 :: st) h Q := R_kc rfl (Or.inr (Or.inr ⟨rfl, by decide⟩))
theorem e_123_15 {x y : Int} : Ev X 123 15 ls (vi y :: vi x :: st) h Q ↔ (if x ≤ y then Ev X 123 20 ls st h Q else Ev X 123 16 ls st h Q) := R_icle rfl
theorem e_123_16 : Ev X 123 16 ls st h Q ↔ onR (gl ls 0) (fun z => Ev X 123 17 ls (vr z :: st) h Q) := R_al rfl (Or.inl rfl)
theorem e_123_17 : Ev X 123 17 ls st h Q ↔ Ev X 123 18 ls (vi (-1) :: st) h Q := R_kc rfl (Or.inl ⟨Or.inl rfl, by decide⟩)
theorem e_123_18 {rest : List xV} {a0 : Int} {o : Nat} : Ev X 123 18 ls ((vi a0) :: vr o :: rest) h Q ↔ ((X.1 o = 11 ∧ wd rest ≤ 8) ∧ Cl X 138 [vr o, vi a0] h (fun r h2 => Ev X 123 19 ls (r.toList ++ rest) h2 Q)) := R_cv (x := o) (as := [vi a0]) (k2 := 138) rfl rfl (Nat.le_of_ble_eq_true rfl)
theorem e_123_19 {z : Int} : Ev X 123 19 ls [vi z] h Q ↔ Q (some (vi z)) h := R_ir rfl
theorem e_123_20 : Ev X 123 20 ls st h Q ↔ onR (gl ls 0) (fun z => Ev X 123 21 ls (vr z :: st) h Q) := R_al rfl (Or.inl rfl)
theorem e_123_21 {x : Nat} : Ev X 123 21 ls (vr x :: st) h Q ↔ (X.1 x = 11 ∧ Ev X 123 22 ls (vr (X.2.2.1 x 5) :: st) h Q) := R_gr rfl
theorem e_123_22 {x : Nat} : Ev X 123 22 ls (vr x :: st) h Q ↔ (X.1 x = 9 ∧ Ev X 123 23 ls (vr (X.2.2.1 x 4) :: st) h Q) := R_gr rfl
theorem e_123_23 {x : Nat} : Ev X 123 23 ls (vr x :: st) h Q ↔ (X.1 x = 3 ∧ Ev X 123 24 ls (vi (h.2 x 0) :: st) h Q) := R_gi rfl
theorem e_123_24 {x : Int} : Ev X 123 24 ls (vi x :: st) h Q ↔ (if ¬ x = 0 then Ev X 123 29 ls st h Q else Ev X 123 25 ls st h Q) := R_ifne rfl
theorem e_123_25 : Ev X 123 25 ls st h Q ↔ onR (gl ls 0) (fun z => Ev X 123 26 ls (vr z :: st) h Q) := R_al rfl (Or.inl rfl)
theorem e_123_26 : Ev X 123 26 ls st h Q ↔ Ev X 123 27 ls (vi (-4) :: st) h Q := R_kc rfl (Or.inr (Or.inl ⟨rfl, by decide⟩))
theorem e_123_27 {rest : List xV} {a0 : Int} {o : Nat} : Ev X 123 27 ls ((vi a0) :: vr o :: rest) h Q ↔ ((X.1 o = 11 ∧ wd rest ≤ 8) ∧ Cl X 138 [vr o, vi a0] h (fun r h2 => Ev X 123 28 ls (r.toList ++ rest) h2 Q)) := R_cv (x := o) (as := [vi a0]) (k2 := 138) rfl rfl (Nat.le_of_ble_eq_true rfl)
theorem e_123_28 {z : Int} : Ev X 123 28 ls [vi z] h Q ↔ Q (some (vi z)) h := R_ir rfl
theorem e_123_29 : Ev X 123 29 ls st h Q ↔ onR (gl ls 0) (fun z => Ev X 123 30 ls (vr z :: st) h Q) := R_al rfl (Or.inl rfl)
theorem e_123_30 : Ev X 123 30 ls st h Q ↔ Ev X 123 31 ls (vi 17 :: st) h Q := R_kc rfl (Or.inr (Or.inl ⟨rfl, by decide⟩))
theorem e_123_31 {rest : List xV} {a0 : Int} {o : Nat} : Ev X 123 31 ls ((vi a0) :: vr o :: rest) h Q ↔ ((X.1 o = 11 ∧ wd rest ≤ 8) ∧ Cl X 139 [vr o, vi a0] h (fun r h2 => Ev X 123 32 ls (r.toList ++ rest) h2 Q)) := R_cv (x := o) (as := [vi a0]) (k2 := 139) rfl rfl (Nat.le_of_ble_eq_true rfl)
theorem e_123_32 : Ev X 123 32 ls st h Q ↔ onR (gl ls 0) (fun z => Ev X 123 33 ls (vr z :: st) h Q) := R_al rfl (Or.inl rfl)
theorem e_123_33 {x : Nat} : Ev X 123 33 ls (vr x :: st) h Q ↔ (X.1 x = 11 ∧ Ev X 123 34 ls (vr (X.2.2.1 x 13) :: st) h Q) := R_gr rfl
theorem e_123_34 : Ev X 123 34 ls st h Q ↔ onR (gl ls 0) (fun z => Ev X 123 35 ls (vr z :: st) h Q) := R_al rfl (Or.inl rfl)
theorem e_123_35 {x : Nat} : Ev X 123 35 ls (vr x :: st) h Q ↔ (X.1 x = 11 ∧ Ev X 123 36 ls (vr (X.2.2.1 x 5) :: st) h Q) := R_gr rfl
theorem e_123_36 : Ev X 123 36 ls st h Q ↔ onI (gl ls 1) (fun z => Ev X 123 37 ls (vi z :: st) h Q) := R_il rfl (Or.inl rfl)
theorem e_123_37 : Ev X 123 37 ls st h Q ↔ onI (gl ls 2) (fun z => Ev X 123 38 ls (vi z :: st) h Q) := R_il rfl (Or.inl rfl)
theorem e_123_38 : Ev X 123 38 ls st h Q ↔ onI (gl ls 3) (fun z => Ev X 123 39 ls (vi z :: st) h Q) := R_il rfl (Or.inl rfl)
theorem e_123_39 {rest : List xV} {a0 : Nat} {a1 : Int} {a2 : Int} {a3 : Int} {o : Nat} : Ev X 123 39 ls ((vi a3) :: (vi a2) :: (vi a1) :: (vr a0) :: vr o :: rest) h Q ↔ ((X.1 o = 8 ∧ wd rest ≤ 8) ∧ Cl X 71 [vr o, vr a0, vi a1, vi a2, vi a3] h (fun r h2 => Ev X 123 40 ls (r.toList ++ rest) h2 Q)) := R_cv (x := o) (as := [vr a0, vi a1, vi a2, vi a3]) (k2 := 71) rfl rfl (Nat.le_of_ble_eq_true rfl)
theorem e_123_40 {z : Int} : Ev X 123 40 ls [vi z] h Q ↔ Q (some (vi z)) h := R_ir rfl
-- 124: CellRows.undo()I
theorem e_124_0 : Ev X 124 0 ls st h Q ↔ onR (gl ls 0) (fun z => Ev X 124 1 ls (vr z :: st) h Q) := R_al rfl (Or.inl rfl)
theorem e_124_1 {x : Nat} : Ev X 124 1 ls (vr x :: st) h Q ↔ (X.1 x = 11 ∧ Ev X 124 2 ls (vr (X.2.2.1 x 7) :: st) h Q) := R_gr rfl
theorem e_124_2 {x : Nat} : Ev X 124 2 ls (vr x :: st) h Q ↔ (X.1 x = 5 ∧ Ev X 124 3 ls (vi (h.2 x 0) :: st) h Q) := R_gi rfl
theorem e_124_3 {x : Int} : Ev X 124 3 ls (vi x :: st) h Q ↔ (if ¬ x = 0 then Ev X 124 8 ls st h Q else Ev X 124 4 ls st h Q) := R_ifne rfl
theorem e_124_4 : Ev X 124 4 ls st h Q ↔ onR (gl ls 0) (fun z => Ev X 124 5 ls (vr z :: st) h Q) := R_al rfl (Or.inl rfl)
theorem e_124_5 : Ev X 124 5 ls st h Q ↔ Ev X 124 6 ls (vi (-4) :: st) h Q := R_kc rfl (Or.inr (Or.inl ⟨rfl, by decide⟩))
theorem e_124_6 {rest : List xV} {a0 : Int} {o : Nat} : Ev X 124 6 ls ((vi a0) :: vr o :: rest) h Q ↔ ((X.1 o = 11 ∧ wd rest ≤ 8) ∧ Cl X 138 [vr o, vi a0] h (fun r h2 => Ev X 124 7 ls (r.toList ++ rest) h2 Q)) := R_cv (x := o) (as := [vi a0]) (k2 := 138) rfl rfl (Nat.le_of_ble_eq_true rfl)
theorem e_124_7 {z : Int} : Ev X 124 7 ls [vi z] h Q ↔ Q (some (vi z)) h := R_ir rfl
theorem e_124_8 : Ev X 124 8 ls st h Q ↔ onR (gl ls 0) (fun z => Ev X 124 9 ls (vr z :: st) h Q) := R_al rfl (Or.inl rfl)
theorem e_124_9 : Ev X 124 9 ls st h Q ↔ Ev X 124 10 ls (vi 0 :: st) h Q := R_kc rfl (Or.inl ⟨Or.inl rfl, by decide⟩)
theorem e_124_10 {x : Nat} {v : Int} : Ev X 124 10 ls (vi v :: vr x :: st) h Q ↔ (X.1 x = 11 ∧ Ev X 124 11 ls st (h.1, up2 h.2 x 4 v) Q) := R_pi rfl
theorem e_124_11 : Ev X 124 11 ls st h Q ↔ onR (gl ls 0) (fun z => Ev X 124 12 ls (vr z :: st) h Q) := R_al rfl (Or.inl rfl)
theorem e_124_12 {x : Nat} : Ev X 124 12 ls (vr x :: st) h Q ↔ (X.1 x = 11 ∧ Ev X 124 13 ls (vr (X.2.2.1 x 7) :: st) h Q) := R_gr rfl
theorem e_124_13 : Ev X 124 13 ls st h Q ↔ onR (gl ls 0) (fun z => Ev X 124 14 ls (vr z :: st) h Q) := R_al rfl (Or.inl rfl)
theorem e_124_14 {x : Nat} : Ev X 124 14 ls (vr x :: st) h Q ↔ (X.1 x = 11 ∧ Ev X 124 15 ls (vr (X.2.2.1 x 5) :: st) h Q) := R_gr rfl
theorem e_124_15 {rest : List xV} {a0 : Nat} {o : Nat} : Ev X 124 15 ls ((vr a0) :: vr o :: rest) h Q ↔ ((X.1 o = 5 ∧ wd rest ≤ 8) ∧ Cl X 41 [vr o, vr a0] h (fun r h2 => Ev X 124 16 ls (r.toList ++ rest) h2 Q)) := R_cv (x := o) (as := [vr a0]) (k2 := 41) rfl rfl (Nat.le_of_ble_eq_true rfl)
theorem e_124_16 {z : Int} : Ev X 124 16 ls [vi z] h Q ↔ Q (some (vi z)) h := R_ir rfl
-- 125: CellRows.cellOf(II)I
theorem e_125_0 : Ev X 125 0 ls st h Q ↔ onR (gl ls 0) (fun z => Ev X 125 1 ls (vr z :: st) h Q) := R_al rfl (Or.inl rfl)
theorem e_125_1 {x : Nat} : Ev X 125 1 ls (vr x :: st) h Q ↔ (X.1 x = 11 ∧ Ev X 125 2 ls (vr (X.2.2.1 x 5) :: st) h Q) := R_gr rfl
theorem e_125_2 : Ev X 125 2 ls st h Q ↔ onI (gl ls 1) (fun z => Ev X 125 3 ls (vi z :: st) h Q) := R_il rfl (Or.inl rfl)
theorem e_125_3 {rest : List xV} {a0 : Int} {o : Nat} : Ev X 125 3 ls ((vi a0) :: vr o :: rest) h Q ↔ ((X.1 o = 9 ∧ wd rest ≤ 8) ∧ Cl X 79 [vr o, vi a0] h (fun r h2 => Ev X 125 4 ls (r.toList ++ rest) h2 Q)) := R_cv (x := o) (as := [vi a0]) (k2 := 79) rfl rfl (Nat.le_of_ble_eq_true rfl)
theorem e_125_4 {x : Int} : Ev X 125 4 ls (vi x :: st) h Q ↔ (if ¬ x = 0 then Ev X 125 7 ls st h Q else Ev X 125 5 ls st h Q) := R_ifne rfl
theorem e_125_5 : Ev X 125 5 ls st h Q ↔ Ev X 125 6 ls (vi (-1) :: st) h Q := R_kc rfl (Or.inl ⟨Or.inl rfl, by decide⟩)
theorem e_125_6 {z : Int} : Ev X 125 6 ls [vi z] h Q ↔ Q (some (vi z)) h := R_ir rfl
theorem e_125_7 : Ev X 125 7 ls st h Q ↔ onR (gl ls 0) (fun z => Ev X 125 8 ls (vr z :: st) h Q) := R_al rfl (Or.inl rfl)
theorem e_125_8 {x : Nat} : Ev X 125 8 ls (vr x :: st) h Q ↔ (X.1 x = 11 ∧ Ev X 125 9 ls (vr (X.2.2.1 x 5) :: st) h Q) := R_gr rfl
theorem e_125_9 {x : Nat} : Ev X 125 9 ls (vr x :: st) h Q ↔ (X.1 x = 9 ∧ Ev X 125 10 ls (vr (X.2.2.1 x 4) :: st) h Q) := R_gr rfl
theorem e_125_10 {x : Nat} : Ev X 125 10 ls (vr x :: st) h Q ↔ (stOK ls 3 = true ∧ Ev X 125 11 (ls.set 3 (some (vr x))) st h Q) := R_as rfl (Or.inl rfl)
theorem e_125_11 : Ev X 125 11 ls st h Q ↔ onI (gl ls 2) (fun z => Ev X 125 12 ls (vi z :: st) h Q) := R_il rfl (Or.inl rfl)
theorem e_125_12 {x : Int} : Ev X 125 12 ls (vi x :: st) h Q ↔ Ev X 125 (swt 0 [72, 13, 18, 23, 32, 37, 42, 47, 52, 58] x) ls st h Q := R_sw rfl
theorem e_125_13 : Ev X 125 13 ls st h Q ↔ onR (gl ls 3) (fun z => Ev X 125 14 ls (vr z :: st) h Q) := R_al rfl (Or.inl rfl)
theorem e_125_14 {x : Nat} : Ev X 125 14 ls (vr x :: st) h Q ↔ (X.1 x = 3 ∧ Ev X 125 15 ls (vr (X.2.2.1 x 1) :: st) h Q) := R_gr rfl
theorem e_125_15 : Ev X 125 15 ls st h Q ↔ onI (gl ls 1) (fun z => Ev X 125 16 ls (vi z :: st) h Q) := R_il rfl (Or.inl rfl)
theorem e_125_16 {x : Nat} {j : Int} : Ev X 125 16 ls (vi j :: vr x :: st) h Q ↔ (((X.1 x = 13 ∨ X.1 x = 20) ∧ 0 ≤ j ∧ j < X.2.1 x) ∧ Ev X 125 17 ls (vi (h.1 x j.toNat) :: st) h Q) := R_ia rfl
theorem e_125_17 {z : Int} : Ev X 125 17 ls [vi z] h Q ↔ Q (some (vi z)) h := R_ir rfl
theorem e_125_18 : Ev X 125 18 ls st h Q ↔ onR (gl ls 3) (fun z => Ev X 125 19 ls (vr z :: st) h Q) := R_al rfl (Or.inl rfl)
theorem e_125_19 {x : Nat} : Ev X 125 19 ls (vr x :: st) h Q ↔ (X.1 x = 3 ∧ Ev X 125 20 ls (vr (X.2.2.1 x 2) :: st) h Q) := R_gr rfl
theorem e_125_20 : Ev X 125 20 ls st h Q ↔ onI (gl ls 1) (fun z => Ev X 125 21 ls (vi z :: st) h Q) := R_il rfl (Or.inl rfl)
theorem e_125_21 {x : Nat} {j : Int} : Ev X 125 21 ls (vi j :: vr x :: st) h Q ↔ (((X.1 x = 13 ∨ X.1 x = 20) ∧ 0 ≤ j ∧ j < X.2.1 x) ∧ Ev X 125 22 ls (vi (h.1 x j.toNat) :: st) h Q) := R_ia rfl
theorem e_125_22 {z : Int} : Ev X 125 22 ls [vi z] h Q ↔ Q (some (vi z)) h := R_ir rfl
theorem e_125_23 : Ev X 125 23 ls st h Q ↔ onR (gl ls 3) (fun z => Ev X 125 24 ls (vr z :: st) h Q) := R_al rfl (Or.inl rfl)
theorem e_125_24 {x : Nat} : Ev X 125 24 ls (vr x :: st) h Q ↔ (X.1 x = 3 ∧ Ev X 125 25 ls (vr (X.2.2.1 x 3) :: st) h Q) := R_gr rfl
theorem e_125_25 : Ev X 125 25 ls st h Q ↔ onI (gl ls 1) (fun z => Ev X 125 26 ls (vi z :: st) h Q) := R_il rfl (Or.inl rfl)
theorem e_125_26 {x : Nat} {j : Int} : Ev X 125 26 ls (vi j :: vr x :: st) h Q ↔ ((X.1 x = 14 ∧ 0 ≤ j ∧ j < X.2.1 x) ∧ Ev X 125 27 ls (vi (h.1 x j.toNat) :: st) h Q) := R_ba rfl
theorem e_125_27 {x : Int} : Ev X 125 27 ls (vi x :: st) h Q ↔ (if x = 0 then Ev X 125 30 ls st h Q else Ev X 125 28 ls st h Q) := R_ifeq rfl
theorem e_125_28 : Ev X 125 28 ls st h Q ↔ Ev X 125 29 ls (vi 1 :: st) h Q := R_kc rfl (Or.inl ⟨Or.inl rfl, by decide⟩)
theorem e_125_29 : Ev X 125 29 ls st h Q ↔ Ev X 125 31 ls st h Q := R_go rfl
theorem e_125_30 : Ev X 125 30 ls st h Q ↔ Ev X 125 31 ls (vi 0 :: st) h Q := R_kc rfl (Or.inl ⟨Or.inl rfl, by decide⟩)
theorem e_125_31 {z : Int} : Ev X 125 31 ls [vi z] h Q ↔ Q (some (vi z)) h := R_ir rfl
theorem e_125_32 : Ev X 125 32 ls st h Q ↔ onR (gl ls 3) (fun z => Ev X 125 33 ls (vr z :: st) h Q) := R_al rfl (Or.inl rfl)
theorem e_125_33 {x : Nat} : Ev X 125 33 ls (vr x :: st) h Q ↔ (X.1 x = 3 ∧ Ev X 125 34 ls (vr (X.2.2.1 x 4) :: st) h Q) := R_gr rfl
theorem e_125_34 : Ev X 125 34 ls st h Q ↔ onI (gl ls 1) (fun z => Ev X 125 35 ls (vi z :: st) h Q) := R_il rfl (Or.inl rfl)
theorem e_125_35 {x : Nat} {j : Int} : Ev X 125 35 ls (vi j :: vr x :: st) h Q ↔ (((X.1 x = 13 ∨ X.1 x = 20) ∧ 0 ≤ j ∧ j < X.2.1 x) ∧ Ev X 125 36 ls (vi (h.1 x j.toNat) :: st) h Q) := R_ia rfl
theorem e_125_36 {z : Int} : Ev X 125 36 ls [vi z] h Q ↔ Q (some (vi z)) h := R_ir rfl
theorem e_125_37 : Ev X 125 37 ls st h Q ↔ onR (gl ls 3) (fun z => Ev X 125 38 ls (vr z :: st) h Q) := R_al rfl (Or.inl rfl)
theorem e_125_38 {x : Nat} : Ev X 125 38 ls (vr x :: st) h Q ↔ (X.1 x = 3 ∧ Ev X 125 39 ls (vr (X.2.2.1 x 5) :: st) h Q) := R_gr rfl
theorem e_125_39 : Ev X 125 39 ls st h Q ↔ onI (gl ls 1) (fun z => Ev X 125 40 ls (vi z :: st) h Q) := R_il rfl (Or.inl rfl)
theorem e_125_40 {x : Nat} {j : Int} : Ev X 125 40 ls (vi j :: vr x :: st) h Q ↔ (((X.1 x = 13 ∨ X.1 x = 20) ∧ 0 ≤ j ∧ j < X.2.1 x) ∧ Ev X 125 41 ls (vi (h.1 x j.toNat) :: st) h Q) := R_ia rfl
theorem e_125_41 {z : Int} : Ev X 125 41 ls [vi z] h Q ↔ Q (some (vi z)) h := R_ir rfl
theorem e_125_42 : Ev X 125 42 ls st h Q ↔ onR (gl ls 3) (fun z => Ev X 125 43 ls (vr z :: st) h Q) := R_al rfl (Or.inl rfl)
theorem e_125_43 {x : Nat} : Ev X 125 43 ls (vr x :: st) h Q ↔ (X.1 x = 3 ∧ Ev X 125 44 ls (vr (X.2.2.1 x 6) :: st) h Q) := R_gr rfl
theorem e_125_44 : Ev X 125 44 ls st h Q ↔ onI (gl ls 1) (fun z => Ev X 125 45 ls (vi z :: st) h Q) := R_il rfl (Or.inl rfl)
theorem e_125_45 {x : Nat} {j : Int} : Ev X 125 45 ls (vi j :: vr x :: st) h Q ↔ (((X.1 x = 13 ∨ X.1 x = 20) ∧ 0 ≤ j ∧ j < X.2.1 x) ∧ Ev X 125 46 ls (vi (h.1 x j.toNat) :: st) h Q) := R_ia rfl
theorem e_125_46 {z : Int} : Ev X 125 46 ls [vi z] h Q ↔ Q (some (vi z)) h := R_ir rfl
theorem e_125_47 : Ev X 125 47 ls st h Q ↔ onR (gl ls 3) (fun z => Ev X 125 48 ls (vr z :: st) h Q) := R_al rfl (Or.inl rfl)
theorem e_125_48 {x : Nat} : Ev X 125 48 ls (vr x :: st) h Q ↔ (X.1 x = 3 ∧ Ev X 125 49 ls (vr (X.2.2.1 x 7) :: st) h Q) := R_gr rfl
theorem e_125_49 : Ev X 125 49 ls st h Q ↔ onI (gl ls 1) (fun z => Ev X 125 50 ls (vi z :: st) h Q) := R_il rfl (Or.inl rfl)
theorem e_125_50 {x : Nat} {j : Int} : Ev X 125 50 ls (vi j :: vr x :: st) h Q ↔ (((X.1 x = 13 ∨ X.1 x = 20) ∧ 0 ≤ j ∧ j < X.2.1 x) ∧ Ev X 125 51 ls (vi (h.1 x j.toNat) :: st) h Q) := R_ia rfl
theorem e_125_51 {z : Int} : Ev X 125 51 ls [vi z] h Q ↔ Q (some (vi z)) h := R_ir rfl
theorem e_125_52 : Ev X 125 52 ls st h Q ↔ onR (gl ls 0) (fun z => Ev X 125 53 ls (vr z :: st) h Q) := R_al rfl (Or.inl rfl)
theorem e_125_53 {x : Nat} : Ev X 125 53 ls (vr x :: st) h Q ↔ (X.1 x = 11 ∧ Ev X 125 54 ls (vr (X.2.2.1 x 5) :: st) h Q) := R_gr rfl
theorem e_125_54 {x : Nat} : Ev X 125 54 ls (vr x :: st) h Q ↔ (X.1 x = 9 ∧ Ev X 125 55 ls (vr (X.2.2.1 x 5) :: st) h Q) := R_gr rfl
theorem e_125_55 : Ev X 125 55 ls st h Q ↔ onI (gl ls 1) (fun z => Ev X 125 56 ls (vi z :: st) h Q) := R_il rfl (Or.inl rfl)
theorem e_125_56 {rest : List xV} {a0 : Int} {o : Nat} : Ev X 125 56 ls ((vi a0) :: vr o :: rest) h Q ↔ ((X.1 o = 6 ∧ wd rest ≤ 8) ∧ Cl X 46 [vr o, vi a0] h (fun r h2 => Ev X 125 57 ls (r.toList ++ rest) h2 Q)) := R_cv (x := o) (as := [vi a0]) (k2 := 46) rfl rfl (Nat.le_of_ble_eq_true rfl)
theorem e_125_57 {z : Int} : Ev X 125 57 ls [vi z] h Q ↔ Q (some (vi z)) h := R_ir rfl
theorem e_125_58 : Ev X 125 58 ls st h Q ↔ onR (gl ls 3) (fun z => Ev X 125 59 ls (vr z :: st) h Q) := R_al rfl (Or.inl rfl)
theorem e_125_59 : Ev X 125 59 ls st h Q ↔ onI (gl ls 1) (fun z => Ev X 125 60 ls (vi z :: st) h Q) := R_il rfl (Or.inl rfl)
theorem e_125_60 {rest : List xV} {a0 : Int} {o : Nat} : Ev X 125 60 ls ((vi a0) :: vr o :: rest) h Q ↔ ((X.1 o = 3 ∧ wd rest ≤ 8) ∧ Cl X 22 [vr o, vi a0] h (fun r h2 => Ev X 125 61 ls (r.toList ++ rest) h2 Q)) := R_cv (x := o) (as := [vi a0]) (k2 := 22) rfl rfl (Nat.le_of_ble_eq_true rfl)
theorem e_125_61 {x : Int} : Ev X 125 61 ls (vi x :: st) h Q ↔ (if x = 0 then Ev X 125 70 ls st h Q else Ev X 125 62 ls st h Q) := R_ifeq rfl
theorem e_125_62 : Ev X 125 62 ls st h Q ↔ onR (gl ls 3) (fun z => Ev X 125 63 ls (vr z :: st) h Q) := R_al rfl (Or.inl rfl)
theorem e_125_63 : Ev X 125 63 ls st h Q ↔ onI (gl ls 1) (fun z => Ev X 125 64 ls (vi z :: st) h Q) := R_il rfl (Or.inl rfl)
theorem e_125_64 : Ev X 125 64 ls st h Q ↔ onR (gl ls 0) (fun z => Ev X 125 65 ls (vr z :: st) h Q) := R_al rfl (Or.inl rfl)
theorem e_125_65 {x : Nat} : Ev X 125 65 ls (vr x :: st) h Q ↔ (X.1 x = 11 ∧ Ev X 125 66 ls (vr (X.2.2.1 x 0) :: st) h Q) := R_gr rfl
theorem e_125_66 : Ev X 125 66 ls st h Q ↔ Ev X 125 67 ls (vi 4 :: st) h Q := R_kc rfl (Or.inl ⟨Or.inl rfl, by decide⟩)
theorem e_125_67 {x : Nat} {j : Int} : Ev X 125 67 ls (vi j :: vr x :: st) h Q ↔ (((X.1 x = 13 ∨ X.1 x = 20) ∧ 0 ≤ j ∧ j < X.2.1 x) ∧ Ev X 125 68 ls (vi (h.1 x j.toNat) :: st) h Q) := R_ia rfl
theorem e_125_68 {rest : List xV} {a0 : Int} {a1 : Int} {o : Nat} : Ev X 125 68 ls ((vi a1) :: (vi a0) :: vr o :: rest) h Q ↔ ((X.1 o = 3 ∧ wd rest ≤ 8) ∧ Cl X 29 [vr o, vi a0, vi a1] h (fun r h2 => Ev X 125 69 ls (r.toList ++ rest) h2 Q)) := R_cv (x := o) (as := [vi a0, vi a1]) (k2 := 29) rfl rfl (Nat.le_of_ble_eq_true rfl)
theorem e_125_69 : Ev X 125 69 ls st h Q ↔ Ev X 125 71 ls st h Q := R_go rfl
theorem e_125_70 : Ev X 125 70 ls st h Q ↔ Ev X 125 71 ls (vi (-1) :: st) h Q := R_kc rfl (Or.inl ⟨Or.inl rfl, by decide⟩)
theorem e_125_71 {z : Int} : Ev X 125 71 ls [vi z] h Q ↔ Q (some (vi z)) h := R_ir rfl
theorem e_125_72 : Ev X 125 72 ls st h Q ↔ Ev X 125 73 ls (vi (-1) :: st) h Q := R_kc rfl (Or.inl ⟨Or.inl rfl, by decide⟩)
theorem e_125_73 {z : Int} : Ev X 125 73 ls [vi z] h Q ↔ Q (some (vi z)) h := R_ir rfl
-- 126: CellRows.netOf(II)I
theorem e_126_0 : Ev X 126 0 ls st h Q ↔ onR (gl ls 0) (fun z => Ev X 126 1 ls (vr z :: st) h Q) := R_al rfl (Or.inl rfl)
theorem e_126_1 {x : Nat} : Ev X 126 1 ls (vr x :: st) h Q ↔ (X.1 x = 11 ∧ Ev X 126 2 ls (vr (X.2.2.1 x 5) :: st) h Q) := R_gr rfl
theorem e_126_2 : Ev X 126 2 ls st h Q ↔ onI (gl ls 1) (fun z => Ev X 126 3 ls (vi z :: st) h Q) := R_il rfl (Or.inl rfl)
theorem e_126_3 {rest : List xV} {a0 : Int} {o : Nat} : Ev X 126 3 ls ((vi a0) :: vr o :: rest) h Q ↔ ((X.1 o = 9 ∧ wd rest ≤ 8) ∧ Cl X 80 [vr o, vi a0] h (fun r h2 => Ev X 126 4 ls (r.toList ++ rest) h2 Q)) := R_cv (x := o) (as := [vi a0]) (k2 := 80) rfl rfl (Nat.le_of_ble_eq_true rfl)
theorem e_126_4 {x : Int} : Ev X 126 4 ls (vi x :: st) h Q ↔ (if ¬ x = 0 then Ev X 126 7 ls st h Q else Ev X 126 5 ls st h Q) := R_ifne rfl
theorem e_126_5 : Ev X 126 5 ls st h Q ↔ Ev X 126 6 ls (vi (-1) :: st) h Q := R_kc rfl (Or.inl ⟨Or.inl rfl, by decide⟩)
theorem e_126_6 {z : Int} : Ev X 126 6 ls [vi z] h Q ↔ Q (some (vi z)) h := R_ir rfl
theorem e_126_7 : Ev X 126 7 ls st h Q ↔ onR (gl ls 0) (fun z => Ev X 126 8 ls (vr z :: st) h Q) := R_al rfl (Or.inl rfl)
theorem e_126_8 {x : Nat} : Ev X 126 8 ls (vr x :: st) h Q ↔ (X.1 x = 11 ∧ Ev X 126 9 ls (vr (X.2.2.1 x 5) :: st) h Q) := R_gr rfl
theorem e_126_9 {x : Nat} : Ev X 126 9 ls (vr x :: st) h Q ↔ (X.1 x = 9 ∧ Ev X 126 10 ls (vr (X.2.2.1 x 5) :: st) h Q) := R_gr rfl
theorem e_126_10 {x : Nat} : Ev X 126 10 ls (vr x :: st) h Q ↔ (stOK ls 3 = true ∧ Ev X 126 11 (ls.set 3 (some (vr x))) st h Q) := R_as rfl (Or.inl rfl)
theorem e_126_11 : Ev X 126 11 ls st h Q ↔ onI (gl ls 2) (fun z => Ev X 126 12 ls (vi z :: st) h Q) := R_il rfl (Or.inl rfl)
theorem e_126_12 {x : Int} : Ev X 126 12 ls (vi x :: st) h Q ↔ Ev X 126 (swt 0 [37, 13, 18, 23, 30] x) ls st h Q := R_sw rfl
theorem e_126_13 : Ev X 126 13 ls st h Q ↔ onR (gl ls 3) (fun z => Ev X 126 14 ls (vr z :: st) h Q) := R_al rfl (Or.inl rfl)
theorem e_126_14 {x : Nat} : Ev X 126 14 ls (vr x :: st) h Q ↔ (X.1 x = 6 ∧ Ev X 126 15 ls (vr (X.2.2.1 x 1) :: st) h Q) := R_gr rfl
theorem e_126_15 : Ev X 126 15 ls st h Q ↔ onI (gl ls 1) (fun z => Ev X 126 16 ls (vi z :: st) h Q) := R_il rfl (Or.inl rfl)
theorem e_126_16 {x : Nat} {j : Int} : Ev X 126 16 ls (vi j :: vr x :: st) h Q ↔ (((X.1 x = 13 ∨ X.1 x = 20) ∧ 0 ≤ j ∧ j < X.2.1 x) ∧ Ev X 126 17 ls (vi (h.1 x j.toNat) :: st) h Q) := R_ia rfl
theorem e_126_17 {z : Int} : Ev X 126 17 ls [vi z] h Q ↔ Q (some (vi z)) h := R_ir rfl
theorem e_126_18 : Ev X 126 18 ls st h Q ↔ onR (gl ls 3) (fun z => Ev X 126 19 ls (vr z :: st) h Q) := R_al rfl (Or.inl rfl)
theorem e_126_19 {x : Nat} : Ev X 126 19 ls (vr x :: st) h Q ↔ (X.1 x = 6 ∧ Ev X 126 20 ls (vr (X.2.2.1 x 2) :: st) h Q) := R_gr rfl
theorem e_126_20 : Ev X 126 20 ls st h Q ↔ onI (gl ls 1) (fun z => Ev X 126 21 ls (vi z :: st) h Q) := R_il rfl (Or.inl rfl)
theorem e_126_21 {x : Nat} {j : Int} : Ev X 126 21 ls (vi j :: vr x :: st) h Q ↔ (((X.1 x = 13 ∨ X.1 x = 20) ∧ 0 ≤ j ∧ j < X.2.1 x) ∧ Ev X 126 22 ls (vi (h.1 x j.toNat) :: st) h Q) := R_ia rfl
theorem e_126_22 {z : Int} : Ev X 126 22 ls [vi z] h Q ↔ Q (some (vi z)) h := R_ir rfl
theorem e_126_23 : Ev X 126 23 ls st h Q ↔ onR (gl ls 0) (fun z => Ev X 126 24 ls (vr z :: st) h Q) := R_al rfl (Or.inl rfl)
theorem e_126_24 {x : Nat} : Ev X 126 24 ls (vr x :: st) h Q ↔ (X.1 x = 11 ∧ Ev X 126 25 ls (vr (X.2.2.1 x 9) :: st) h Q) := R_gr rfl
theorem e_126_25 : Ev X 126 25 ls st h Q ↔ onR (gl ls 0) (fun z => Ev X 126 26 ls (vr z :: st) h Q) := R_al rfl (Or.inl rfl)
theorem e_126_26 {x : Nat} : Ev X 126 26 ls (vr x :: st) h Q ↔ (X.1 x = 11 ∧ Ev X 126 27 ls (vr (X.2.2.1 x 5) :: st) h Q) := R_gr rfl
theorem e_126_27 : Ev X 126 27 ls st h Q ↔ onI (gl ls 1) (fun z => Ev X 126 28 ls (vi z :: st) h Q) := R_il rfl (Or.inl rfl)
theorem e_126_28 {rest : List xV} {a0 : Nat} {a1 : Int} {o : Nat} : Ev X 126 28 ls ((vi a1) :: (vr a0) :: vr o :: rest) h Q ↔ ((X.1 o = 10 ∧ wd rest ≤ 8) ∧ Cl X 91 [vr o, vr a0, vi a1] h (fun r h2 => Ev X 126 29 ls (r.toList ++ rest) h2 Q)) := R_cv (x := o) (as := [vr a0, vi a1]) (k2 := 91) rfl rfl (Nat.le_of_ble_eq_true rfl)
theorem e_126_29 {z : Int} : Ev X 126 29 ls [vi z] h Q ↔ Q (some (vi z)) h := R_ir rfl
theorem e_126_30 : Ev X 126 30 ls st h Q ↔ onR (gl ls 0) (fun z => Ev X 126 31 ls (vr z :: st) h Q) := R_al rfl (Or.inl rfl)
theorem e_126_31 {x : Nat} : Ev X 126 31 ls (vr x :: st) h Q ↔ (X.1 x = 11 ∧ Ev X 126 32 ls (vr (X.2.2.1 x 9) :: st) h Q) := R_gr rfl
theorem e_126_32 : Ev X 126 32 ls st h Q ↔ onR (gl ls 0) (fun z => Ev X 126 33 ls (vr z :: st) h Q) := R_al rfl (Or.inl rfl)
theorem e_126_33 {x : Nat} : Ev X 126 33 ls (vr x :: st) h Q ↔ (X.1 x = 11 ∧ Ev X 126 34 ls (vr (X.2.2.1 x 5) :: st) h Q) := R_gr rfl
theorem e_126_34 : Ev X 126 34 ls st h Q ↔ onI (gl ls 1) (fun z => Ev X 126 35 ls (vi z :: st) h Q) := R_il rfl (Or.inl rfl)
theorem e_126_35 {rest : List xV} {a0 : Nat} {a1 : Int} {o : Nat} : Ev X 126 35 ls ((vi a1) :: (vr a0) :: vr o :: rest) h Q ↔ ((X.1 o = 10 ∧ wd rest ≤ 8) ∧ Cl X 98 [vr o, vr a0, vi a1] h (fun r h2 => Ev X 126 36 ls (r.toList ++ rest) h2 Q)) := R_cv (x := o) (as := [vr a0, vi a1]) (k2 := 98) rfl rfl (Nat.le_of_ble_eq_true rfl)
theorem e_126_36 {z : Int} : Ev X 126 36 ls [vi z] h Q ↔ Q (some (vi z)) h := R_ir rfl
theorem e_126_37 : Ev X 126 37 ls st h Q ↔ onR (gl ls 0) (fun z => Ev X 126 38 ls (vr z :: st) h Q) := R_al rfl (Or.inl rfl)
theorem e_126_38 : Ev X 126 38 ls st h Q ↔ onI (gl ls 1) (fun z => Ev X 126 39 ls (vi z :: st) h Q) := R_il rfl (Or.inl rfl)
theorem e_126_39 : Ev X 126 39 ls st h Q ↔ onI (gl ls 2) (fun z => Ev X 126 40 ls (vi z :: st) h Q) := R_il rfl (Or.inl rfl)
theorem e_126_40 {rest : List xV} {a0 : Int} {a1 : Int} {o : Nat} : Ev X 126 40 ls ((vi a1) :: (vi a0) :: vr o :: rest) h Q ↔ ((X.1 o = 11 ∧ wd rest ≤ 8) ∧ Cl X 144 [vr o, vi a0, vi a1] h (fun r h2 => Ev X 126 41 ls (r.toList ++ rest) h2 Q)) := R_cv (x := o) (as := [vi a0, vi a1]) (k2 := 144) rfl rfl (Nat.le_of_ble_eq_true rfl)
theorem e_126_41 {z : Int} : Ev X 126 41 ls [vi z] h Q ↔ Q (some (vi z)) h := R_ir rfl
-- 127: CellRows.bin(II)I
theorem e_127_0 : Ev X 127 0 ls st h Q ↔ onI (gl ls 1) (fun z => Ev X 127 1 ls (vi z :: st) h Q) := R_il rfl (Or.inl rfl)
theorem e_127_1 {x : Int} : Ev X 127 1 ls (vi x :: st) h Q ↔ (if x < 0 then Ev X 127 7 ls st h Q else Ev X 127 2 ls st h Q) := R_iflt rfl
theorem e_127_2 : Ev X 127 2 ls st h Q ↔ onI (gl ls 1) (fun z => Ev X 127 3 ls (vi z :: st) h Q) := R_il rfl (Or.inl rfl)
theorem e_127_3 : Ev X 127 3 ls st h Q ↔ onR (gl ls 0) (fun z => Ev X 127 4 ls (vr z :: st) h Q) := R_al rfl (Or.inl rfl)
theorem e_127_4 {x : Nat} : Ev X 127 4 ls (vr x :: st) h Q ↔ (X.1 x = 11 ∧ Ev X 127 5 ls (vr (X.2.2.1 x 10) :: st) h Q) := R_gr rfl
theorem e_127_5 {x : Nat} : Ev X 127 5 ls (vr x :: st) h Q ↔ (X.1 x = 1 ∧ Ev X 127 6 ls (vi (h.2 x 0) :: st) h Q) := R_gi rfl
theorem e_127_6 {x y : Int} : Ev X 127 6 ls (vi y :: vi x :: st) h Q ↔ (if x < y then Ev X 127 9 ls st h Q else Ev X 127 7 ls st h Q) := R_iclt rfl
theorem e_127_7 : Ev X 127 7 ls st h Q ↔ Ev X 127 8 ls (vi (-1) :: st) h Q := R_kc rfl (Or.inl ⟨Or.inl rfl, by decide⟩)
theorem e_127_8 {z : Int} : Ev X 127 8 ls [vi z] h Q ↔ Q (some (vi z)) h := R_ir rfl
theorem e_127_9 : Ev X 127 9 ls st h Q ↔ onI (gl ls 2) (fun z => Ev X 127 10 ls (vi z :: st) h Q) := R_il rfl (Or.inl rfl)
theorem e_127_10 {x : Int} : Ev X 127 10 ls (vi x :: st) h Q ↔ Ev X 127 (swt 0 [47, 11, 19, 27, 34] x) ls st h Q := R_sw rfl
theorem e_127_11 : Ev X 127 11 ls st h Q ↔ onR (gl ls 0) (fun z => Ev X 127 12 ls (vr z :: st) h Q) := R_al rfl (Or.inl rfl)
theorem e_127_12 {rest : List xV}  {o : Nat} : Ev X 127 12 ls (vr o :: rest) h Q ↔ ((X.1 o = 11 ∧ wd rest ≤ 8) ∧ Cl X 145 [vr o] h (fun r h2 => Ev X 127 13 ls (r.toList ++ rest) h2 Q)) := R_cv (x := o) (as := []) (k2 := 145) rfl rfl (Nat.le_of_ble_eq_true rfl)
theorem e_127_13 : Ev X 127 13 ls st h Q ↔ onR (gl ls 0) (fun z => Ev X 127 14 ls (vr z :: st) h Q) := R_al rfl (Or.inl rfl)
theorem e_127_14 {x : Nat} : Ev X 127 14 ls (vr x :: st) h Q ↔ (X.1 x = 11 ∧ Ev X 127 15 ls (vr (X.2.2.1 x 10) :: st) h Q) := R_gr rfl
theorem e_127_15 {x : Nat} : Ev X 127 15 ls (vr x :: st) h Q ↔ (X.1 x = 1 ∧ Ev X 127 16 ls (vr (X.2.2.1 x 3) :: st) h Q) := R_gr rfl
theorem e_127_16 : Ev X 127 16 ls st h Q ↔ onI (gl ls 1) (fun z => Ev X 127 17 ls (vi z :: st) h Q) := R_il rfl (Or.inl rfl)
theorem e_127_17 {x : Nat} {j : Int} : Ev X 127 17 ls (vi j :: vr x :: st) h Q ↔ (((X.1 x = 13 ∨ X.1 x = 20) ∧ 0 ≤ j ∧ j < X.2.1 x) ∧ Ev X 127 18 ls (vi (h.1 x j.toNat) :: st) h Q) := R_ia rfl
theorem e_127_18 {z : Int} : Ev X 127 18 ls [vi z] h Q ↔ Q (some (vi z)) h := R_ir rfl
theorem e_127_19 : Ev X 127 19 ls st h Q ↔ onR (gl ls 0) (fun z => Ev X 127 20 ls (vr z :: st) h Q) := R_al rfl (Or.inl rfl)
theorem e_127_20 {rest : List xV}  {o : Nat} : Ev X 127 20 ls (vr o :: rest) h Q ↔ ((X.1 o = 11 ∧ wd rest ≤ 8) ∧ Cl X 145 [vr o] h (fun r h2 => Ev X 127 21 ls (r.toList ++ rest) h2 Q)) := R_cv (x := o) (as := []) (k2 := 145) rfl rfl (Nat.le_of_ble_eq_true rfl)
theorem e_127_21 : Ev X 127 21 ls st h Q ↔ onR (gl ls 0) (fun z => Ev X 127 22 ls (vr z :: st) h Q) := R_al rfl (Or.inl rfl)
theorem e_127_22 {x : Nat} : Ev X 127 22 ls (vr x :: st) h Q ↔ (X.1 x = 11 ∧ Ev X 127 23 ls (vr (X.2.2.1 x 10) :: st) h Q) := R_gr rfl
theorem e_127_23 {x : Nat} : Ev X 127 23 ls (vr x :: st) h Q ↔ (X.1 x = 1 ∧ Ev X 127 24 ls (vr (X.2.2.1 x 4) :: st) h Q) := R_gr rfl
theorem e_127_24 : Ev X 127 24 ls st h Q ↔ onI (gl ls 1) (fun z => Ev X 127 25 ls (vi z :: st) h Q) := R_il rfl (Or.inl rfl)
theorem e_127_25 {x : Nat} {j : Int} : Ev X 127 25 ls (vi j :: vr x :: st) h Q ↔ (((X.1 x = 13 ∨ X.1 x = 20) ∧ 0 ≤ j ∧ j < X.2.1 x) ∧ Ev X 127 26 ls (vi (h.1 x j.toNat) :: st) h Q) := R_ia rfl
theorem e_127_26 {z : Int} : Ev X 127 26 ls [vi z] h Q ↔ Q (some (vi z)) h := R_ir rfl
theorem e_127_27 : Ev X 127 27 ls st h Q ↔ onR (gl ls 0) (fun z => Ev X 127 28 ls (vr z :: st) h Q) := R_al rfl (Or.inl rfl)
theorem e_127_28 {rest : List xV}  {o : Nat} : Ev X 127 28 ls (vr o :: rest) h Q ↔ ((X.1 o = 11 ∧ wd rest ≤ 8) ∧ Cl X 145 [vr o] h (fun r h2 => Ev X 127 29 ls (r.toList ++ rest) h2 Q)) := R_cv (x := o) (as := []) (k2 := 145) rfl rfl (Nat.le_of_ble_eq_true rfl)
theorem e_127_29 : Ev X 127 29 ls st h Q ↔ onR (gl ls 0) (fun z => Ev X 127 30 ls (vr z :: st) h Q) := R_al rfl (Or.inl rfl)
theorem e_127_30 {x : Nat} : Ev X 127 30 ls (vr x :: st) h Q ↔ (X.1 x = 11 ∧ Ev X 127 31 ls (vr (X.2.2.1 x 10) :: st) h Q) := R_gr rfl
theorem e_127_31 : Ev X 127 31 ls st h Q ↔ onI (gl ls 1) (fun z => Ev X 127 32 ls (vi z :: st) h Q) := R_il rfl (Or.inl rfl)
theorem e_127_32 {rest : List xV} {a0 : Int} {o : Nat} : Ev X 127 32 ls ((vi a0) :: vr o :: rest) h Q ↔ ((X.1 o = 1 ∧ wd rest ≤ 8) ∧ Cl X 9 [vr o, vi a0] h (fun r h2 => Ev X 127 33 ls (r.toList ++ rest) h2 Q)) := R_cv (x := o) (as := [vi a0]) (k2 := 9) rfl rfl (Nat.le_of_ble_eq_true rfl)
theorem e_127_33 {z : Int} : Ev X 127 33 ls [vi z] h Q ↔ Q (some (vi z)) h := R_ir rfl
theorem e_127_34 : Ev X 127 34 ls st h Q ↔ onR (gl ls 0) (fun z => Ev X 127 35 ls (vr z :: st) h Q) := R_al rfl (Or.inl rfl)
theorem e_127_35 {x : Nat} : Ev X 127 35 ls (vr x :: st) h Q ↔ (X.1 x = 11 ∧ Ev X 127 36 ls (vr (X.2.2.1 x 10) :: st) h Q) := R_gr rfl
theorem e_127_36 : Ev X 127 36 ls st h Q ↔ onR (gl ls 0) (fun z => Ev X 127 37 ls (vr z :: st) h Q) := R_al rfl (Or.inl rfl)
theorem e_127_37 {x : Nat} : Ev X 127 37 ls (vr x :: st) h Q ↔ (X.1 x = 11 ∧ Ev X 127 38 ls (vr (X.2.2.1 x 5) :: st) h Q) := R_gr rfl
theorem e_127_38 : Ev X 127 38 ls st h Q ↔ onR (gl ls 0) (fun z => Ev X 127 39 ls (vr z :: st) h Q) := R_al rfl (Or.inl rfl)
theorem e_127_39 {x : Nat} : Ev X 127 39 ls (vr x :: st) h Q ↔ (X.1 x = 11 ∧ Ev X 127 40 ls (vr (X.2.2.1 x 9) :: st) h Q) := R_gr rfl
theorem e_127_40 {rest : List xV} {a0 : Nat} {a1 : Nat} {o : Nat} : Ev X 127 40 ls ((vr a1) :: (vr a0) :: vr o :: rest) h Q ↔ ((X.1 o = 1 ∧ wd rest ≤ 8) ∧ Cl X 11 [vr o, vr a0, vr a1] h (fun r h2 => Ev X 127 41 ls (r.toList ++ rest) h2 Q)) := R_cv (x := o) (as := [vr a0, vr a1]) (k2 := 11) rfl rfl (Nat.le_of_ble_eq_true rfl)
theorem e_127_41 : Ev X 127 41 ls st h Q ↔ onR (gl ls 0) (fun z => Ev X 127 42 ls (vr z :: st) h Q) := R_al rfl (Or.inl rfl)
theorem e_127_42 {x : Nat} : Ev X 127 42 ls (vr x :: st) h Q ↔ (X.1 x = 11 ∧ Ev X 127 43 ls (vr (X.2.2.1 x 10) :: st) h Q) := R_gr rfl
theorem e_127_43 {x : Nat} : Ev X 127 43 ls (vr x :: st) h Q ↔ (X.1 x = 1 ∧ Ev X 127 44 ls (vr (X.2.2.1 x 5) :: st) h Q) := R_gr rfl
theorem e_127_44 : Ev X 127 44 ls st h Q ↔ onI (gl ls 1) (fun z => Ev X 127 45 ls (vi z :: st) h Q) := R_il rfl (Or.inl rfl)
theorem e_127_45 {x : Nat} {j : Int} : Ev X 127 45 ls (vi j :: vr x :: st) h Q ↔ (((X.1 x = 13 ∨ X.1 x = 20) ∧ 0 ≤ j ∧ j < X.2.1 x) ∧ Ev X 127 46 ls (vi (h.1 x j.toNat) :: st) h Q) := R_ia rfl
theorem e_127_46 {z : Int} : Ev X 127 46 ls [vi z] h Q ↔ Q (some (vi z)) h := R_ir rfl
theorem e_127_47 : Ev X 127 47 ls st h Q ↔ Ev X 127 48 ls (vi (-1) :: st) h Q := R_kc rfl (Or.inl ⟨Or.inl rfl, by decide⟩)
theorem e_127_48 {z : Int} : Ev X 127 48 ls [vi z] h Q ↔ Q (some (vi z)) h := R_ir rfl
-- 128: CellRows.measure(I)I
theorem e_128_0 : Ev X 128 0 ls st h Q ↔ onI (gl ls 1) (fun z => Ev X 128 1 ls (vi z :: st) h Q) := R_il rfl (Or.inl rfl)
theorem e_128_1 {x : Int} : Ev X 128 1 ls (vi x :: st) h Q ↔ Ev X 128 (swt 0 [39, 2, 8, 14, 20, 28, 34] x) ls st h Q := R_sw rfl
theorem e_128_2 : Ev X 128 2 ls st h Q ↔ onR (gl ls 0) (fun z => Ev X 128 3 ls (vr z :: st) h Q) := R_al rfl (Or.inl rfl)
theorem e_128_3 {x : Nat} : Ev X 128 3 ls (vr x :: st) h Q ↔ (X.1 x = 11 ∧ Ev X 128 4 ls (vr (X.2.2.1 x 9) :: st) h Q) := R_gr rfl
theorem e_128_4 : Ev X 128 4 ls st h Q ↔ onR (gl ls 0) (fun z => Ev X 128 5 ls (vr z :: st) h Q) := R_al rfl (Or.inl rfl)
theorem e_128_5 {x : Nat} : Ev X 128 5 ls (vr x :: st) h Q ↔ (X.1 x = 11 ∧ Ev X 128 6 ls (vr (X.2.2.1 x 5) :: st) h Q) := R_gr rfl
theorem e_128_6 {rest : List xV} {a0 : Nat} {o : Nat} : Ev X 128 6 ls ((vr a0) :: vr o :: rest) h Q ↔ ((X.1 o = 10 ∧ wd rest ≤ 8) ∧ Cl X 92 [vr o, vr a0] h (fun r h2 => Ev X 128 7 ls (r.toList ++ rest) h2 Q)) := R_cv (x := o) (as := [vr a0]) (k2 := 92) rfl rfl (Nat.le_of_ble_eq_true rfl)
theorem e_128_7 {z : Int} : Ev X 128 7 ls [vi z] h Q ↔ Q (some (vi z)) h := R_ir rfl
theorem e_128_8 : Ev X 128 8 ls st h Q ↔ onR (gl ls 0) (fun z => Ev X 128 9 ls (vr z :: st) h Q) := R_al rfl (Or.inl rfl)
theorem e_128_9 {x : Nat} : Ev X 128 9 ls (vr x :: st) h Q ↔ (X.1 x = 11 ∧ Ev X 128 10 ls (vr (X.2.2.1 x 9) :: st) h Q) := R_gr rfl
theorem e_128_10 : Ev X 128 10 ls st h Q ↔ onR (gl ls 0) (fun z => Ev X 128 11 ls (vr z :: st) h Q) := R_al rfl (Or.inl rfl)
theorem e_128_11 {x : Nat} : Ev X 128 11 ls (vr x :: st) h Q ↔ (X.1 x = 11 ∧ Ev X 128 12 ls (vr (X.2.2.1 x 5) :: st) h Q) := R_gr rfl
theorem e_128_12 {rest : List xV} {a0 : Nat} {o : Nat} : Ev X 128 12 ls ((vr a0) :: vr o :: rest) h Q ↔ ((X.1 o = 10 ∧ wd rest ≤ 8) ∧ Cl X 96 [vr o, vr a0] h (fun r h2 => Ev X 128 13 ls (r.toList ++ rest) h2 Q)) := R_cv (x := o) (as := [vr a0]) (k2 := 96) rfl rfl (Nat.le_of_ble_eq_true rfl)
theorem e_128_13 {z : Int} : Ev X 128 13 ls [vi z] h Q ↔ Q (some (vi z)) h := R_ir rfl
theorem e_128_14 : Ev X 128 14 ls st h Q ↔ onR (gl ls 0) (fun z => Ev X 128 15 ls (vr z :: st) h Q) := R_al rfl (Or.inl rfl)
theorem e_128_15 {rest : List xV}  {o : Nat} : Ev X 128 15 ls (vr o :: rest) h Q ↔ ((X.1 o = 11 ∧ wd rest ≤ 8) ∧ Cl X 145 [vr o] h (fun r h2 => Ev X 128 16 ls (r.toList ++ rest) h2 Q)) := R_cv (x := o) (as := []) (k2 := 145) rfl rfl (Nat.le_of_ble_eq_true rfl)
theorem e_128_16 : Ev X 128 16 ls st h Q ↔ onR (gl ls 0) (fun z => Ev X 128 17 ls (vr z :: st) h Q) := R_al rfl (Or.inl rfl)
theorem e_128_17 {x : Nat} : Ev X 128 17 ls (vr x :: st) h Q ↔ (X.1 x = 11 ∧ Ev X 128 18 ls (vr (X.2.2.1 x 10) :: st) h Q) := R_gr rfl
theorem e_128_18 {rest : List xV}  {o : Nat} : Ev X 128 18 ls (vr o :: rest) h Q ↔ ((X.1 o = 1 ∧ wd rest ≤ 8) ∧ Cl X 10 [vr o] h (fun r h2 => Ev X 128 19 ls (r.toList ++ rest) h2 Q)) := R_cv (x := o) (as := []) (k2 := 10) rfl rfl (Nat.le_of_ble_eq_true rfl)
theorem e_128_19 {z : Int} : Ev X 128 19 ls [vi z] h Q ↔ Q (some (vi z)) h := R_ir rfl
theorem e_128_20 : Ev X 128 20 ls st h Q ↔ onR (gl ls 0) (fun z => Ev X 128 21 ls (vr z :: st) h Q) := R_al rfl (Or.inl rfl)
theorem e_128_21 {rest : List xV}  {o : Nat} : Ev X 128 21 ls (vr o :: rest) h Q ↔ ((X.1 o = 11 ∧ wd rest ≤ 8) ∧ Cl X 145 [vr o] h (fun r h2 => Ev X 128 22 ls (r.toList ++ rest) h2 Q)) := R_cv (x := o) (as := []) (k2 := 145) rfl rfl (Nat.le_of_ble_eq_true rfl)
theorem e_128_22 : Ev X 128 22 ls st h Q ↔ onR (gl ls 0) (fun z => Ev X 128 23 ls (vr z :: st) h Q) := R_al rfl (Or.inl rfl)
theorem e_128_23 {x : Nat} : Ev X 128 23 ls (vr x :: st) h Q ↔ (X.1 x = 11 ∧ Ev X 128 24 ls (vr (X.2.2.1 x 11) :: st) h Q) := R_gr rfl
theorem e_128_24 : Ev X 128 24 ls st h Q ↔ onR (gl ls 0) (fun z => Ev X 128 25 ls (vr z :: st) h Q) := R_al rfl (Or.inl rfl)
theorem e_128_25 {x : Nat} : Ev X 128 25 ls (vr x :: st) h Q ↔ (X.1 x = 11 ∧ Ev X 128 26 ls (vr (X.2.2.1 x 5) :: st) h Q) := R_gr rfl
theorem e_128_26 {rest : List xV} {a0 : Nat} {o : Nat} : Ev X 128 26 ls ((vr a0) :: vr o :: rest) h Q ↔ ((X.1 o = 0 ∧ wd rest ≤ 8) ∧ Cl X 2 [vr o, vr a0] h (fun r h2 => Ev X 128 27 ls (r.toList ++ rest) h2 Q)) := R_cv (x := o) (as := [vr a0]) (k2 := 2) rfl rfl (Nat.le_of_ble_eq_true rfl)
theorem e_128_27 {z : Int} : Ev X 128 27 ls [vi z] h Q ↔ Q (some (vi z)) h := R_ir rfl
theorem e_128_28 : Ev X 128 28 ls st h Q ↔ onR (gl ls 0) (fun z => Ev X 128 29 ls (vr z :: st) h Q) := R_al rfl (Or.inl rfl)
theorem e_128_29 : Ev X 128 29 ls st h Q ↔ onR (gl ls 0) (fun z => Ev X 128 30 ls (vr z :: st) h Q) := R_al rfl (Or.inl rfl)
theorem e_128_30 {x : Nat} : Ev X 128 30 ls (vr x :: st) h Q ↔ (X.1 x = 11 ∧ Ev X 128 31 ls (vr (X.2.2.1 x 5) :: st) h Q) := R_gr rfl
theorem e_128_31 {x : Nat} : Ev X 128 31 ls (vr x :: st) h Q ↔ (X.1 x = 9 ∧ Ev X 128 32 ls (vr (X.2.2.1 x 4) :: st) h Q) := R_gr rfl
theorem e_128_32 {rest : List xV} {a0 : Nat} {o : Nat} : Ev X 128 32 ls ((vr a0) :: vr o :: rest) h Q ↔ ((X.1 o = 11 ∧ wd rest ≤ 8) ∧ Cl X 147 [vr o, vr a0] h (fun r h2 => Ev X 128 33 ls (r.toList ++ rest) h2 Q)) := R_cv (x := o) (as := [vr a0]) (k2 := 147) rfl rfl (Nat.le_of_ble_eq_true rfl)
theorem e_128_33 {z : Int} : Ev X 128 33 ls [vi z] h Q ↔ Q (some (vi z)) h := R_ir rfl
theorem e_128_34 : Ev X 128 34 ls st h Q ↔ onR (gl ls 0) (fun z => Ev X 128 35 ls (vr z :: st) h Q) := R_al rfl (Or.inl rfl)
theorem e_128_35 {x : Nat} : Ev X 128 35 ls (vr x :: st) h Q ↔ (X.1 x = 11 ∧ Ev X 128 36 ls (vr (X.2.2.1 x 5) :: st) h Q) := R_gr rfl
theorem e_128_36 {x : Nat} : Ev X 128 36 ls (vr x :: st) h Q ↔ (X.1 x = 9 ∧ Ev X 128 37 ls (vr (X.2.2.1 x 4) :: st) h Q) := R_gr rfl
theorem e_128_37 {rest : List xV}  {o : Nat} : Ev X 128 37 ls (vr o :: rest) h Q ↔ ((X.1 o = 3 ∧ wd rest ≤ 8) ∧ Cl X 30 [vr o] h (fun r h2 => Ev X 128 38 ls (r.toList ++ rest) h2 Q)) := R_cv (x := o) (as := []) (k2 := 30) rfl rfl (Nat.le_of_ble_eq_true rfl)
theorem e_128_38 {z : Int} : Ev X 128 38 ls [vi z] h Q ↔ Q (some (vi z)) h := R_ir rfl
theorem e_128_39 : Ev X 128 39 ls st h Q ↔ onR (gl ls 0) (fun z => Ev X 128 40 ls (vr z :: st) h Q) := R_al rfl (Or.inl rfl)
theorem e_128_40 : Ev X 128 40 ls st h Q ↔ onI (gl ls 1) (fun z => Ev X 128 41 ls (vi z :: st) h Q) := R_il rfl (Or.inl rfl)
theorem e_128_41 {rest : List xV} {a0 : Int} {o : Nat} : Ev X 128 41 ls ((vi a0) :: vr o :: rest) h Q ↔ ((X.1 o = 11 ∧ wd rest ≤ 8) ∧ Cl X 146 [vr o, vi a0] h (fun r h2 => Ev X 128 42 ls (r.toList ++ rest) h2 Q)) := R_cv (x := o) (as := [vi a0]) (k2 := 146) rfl rfl (Nat.le_of_ble_eq_true rfl)
theorem e_128_42 {z : Int} : Ev X 128 42 ls [vi z] h Q ↔ Q (some (vi z)) h := R_ir rfl
-- 129: CellRows.lawful(III)Z
theorem e_129_0 : Ev X 129 0 ls st h Q ↔ onR (gl ls 0) (fun z => Ev X 129 1 ls (vr z :: st) h Q) := R_al rfl (Or.inl rfl)
theorem e_129_1 {x : Nat} : Ev X 129 1 ls (vr x :: st) h Q ↔ (X.1 x = 11 ∧ Ev X 129 2 ls (vr (X.2.2.1 x 5) :: st) h Q) := R_gr rfl
theorem e_129_2 : Ev X 129 2 ls st h Q ↔ onI (gl ls 1) (fun z => Ev X 129 3 ls (vi z :: st) h Q) := R_il rfl (Or.inl rfl)
theorem e_129_3 {rest : List xV} {a0 : Int} {o : Nat} : Ev X 129 3 ls ((vi a0) :: vr o :: rest) h Q ↔ ((X.1 o = 9 ∧ wd rest ≤ 8) ∧ Cl X 79 [vr o, vi a0] h (fun r h2 => Ev X 129 4 ls (r.toList ++ rest) h2 Q)) := R_cv (x := o) (as := [vi a0]) (k2 := 79) rfl rfl (Nat.le_of_ble_eq_true rfl)
theorem e_129_4 {x : Int} : Ev X 129 4 ls (vi x :: st) h Q ↔ (if x = 0 then Ev X 129 14 ls st h Q else Ev X 129 5 ls st h Q) := R_ifeq rfl
theorem e_129_5 : Ev X 129 5 ls st h Q ↔ onR (gl ls 0) (fun z => Ev X 129 6 ls (vr z :: st) h Q) := R_al rfl (Or.inl rfl)
theorem e_129_6 {x : Nat} : Ev X 129 6 ls (vr x :: st) h Q ↔ (X.1 x = 11 ∧ Ev X 129 7 ls (vr (X.2.2.1 x 5) :: st) h Q) := R_gr rfl
theorem e_129_7 : Ev X 129 7 ls st h Q ↔ onI (gl ls 1) (fun z => Ev X 129 8 ls (vi z :: st) h Q) := R_il rfl (Or.inl rfl)
theorem e_129_8 : Ev X 129 8 ls st h Q ↔ onI (gl ls 2) (fun z => Ev X 129 9 ls (vi z :: st) h Q) := R_il rfl (Or.inl rfl)
theorem e_129_9 : Ev X 129 9 ls st h Q ↔ onI (gl ls 3) (fun z => Ev X 129 10 ls (vi z :: st) h Q) := R_il rfl (Or.inl rfl)
theorem e_129_10 {rest : List xV} {a0 : Int} {a1 : Int} {a2 : Int} {o : Nat} : Ev X 129 10 ls ((vi a2) :: (vi a1) :: (vi a0) :: vr o :: rest) h Q ↔ ((X.1 o = 9 ∧ wd rest ≤ 8) ∧ Cl X 83 [vr o, vi a0, vi a1, vi a2] h (fun r h2 => Ev X 129 11 ls (r.toList ++ rest) h2 Q)) := R_cv (x := o) (as := [vi a0, vi a1, vi a2]) (k2 := 83) rfl rfl (Nat.le_of_ble_eq_true rfl)
theorem e_129_11 {x : Int} : Ev X 129 11 ls (vi x :: st) h Q ↔ (if x = 0 then Ev X 129 14 ls st h Q else Ev X 129 12 ls st h Q) := R_ifeq rfl
theorem e_129_12 : Ev X 129 12 ls st h Q ↔ Ev X 129 13 ls (vi 1 :: st) h Q := R_kc rfl (Or.inl ⟨Or.inl rfl, by decide⟩)
theorem e_129_13 : Ev X 129 13 ls st h Q ↔ Ev X 129 15 ls st h Q := R_go rfl
theorem e_129_14 : Ev X 129 14 ls st h Q ↔ Ev X 129 15 ls (vi 0 :: st) h Q := R_kc rfl (Or.inl ⟨Or.inl rfl, by decide⟩)
theorem e_129_15 {z : Int} : Ev X 129 15 ls [vi z] h Q ↔ ((z = 0 ∨ z = 1) ∧ Q (some (vi z)) h) := R_zr rfl
-- 130: CellRows.runs(II)I
theorem e_130_0 : Ev X 130 0 ls st h Q ↔ onI (gl ls 1) (fun z => Ev X 130 1 ls (vi z :: st) h Q) := R_il rfl (Or.inl rfl)
theorem e_130_1 {x : Int} : Ev X 130 1 ls (vi x :: st) h Q ↔ (if x < 0 then Ev X 130 12 ls st h Q else Ev X 130 2 ls st h Q) := R_iflt rfl
theorem e_130_2 : Ev X 130 2 ls st h Q ↔ onI (gl ls 1) (fun z => Ev X 130 3 ls (vi z :: st) h Q) := R_il rfl (Or.inl rfl)
theorem e_130_3 : Ev X 130 3 ls st h Q ↔ onR (gl ls 0) (fun z => Ev X 130 4 ls (vr z :: st) h Q) := R_al rfl (Or.inl rfl)
theorem e_130_4 {x : Nat} : Ev X 130 4 ls (vr x :: st) h Q ↔ (X.1 x = 11 ∧ Ev X 130 5 ls (vr (X.2.2.1 x 5) :: st) h Q) := R_gr rfl
theorem e_130_5 {x : Nat} : Ev X 130 5 ls (vr x :: st) h Q ↔ (X.1 x = 9 ∧ Ev X 130 6 ls (vi (h.2 x 0) :: st) h Q) := R_gi rfl
theorem e_130_6 {x y : Int} : Ev X 130 6 ls (vi y :: vi x :: st) h Q ↔ (if y ≤ x then Ev X 130 12 ls st h Q else Ev X 130 7 ls st h Q) := R_icge rfl
theorem e_130_7 : Ev X 130 7 ls st h Q ↔ onR (gl ls 0) (fun z => Ev X 130 8 ls (vr z :: st) h Q) := R_al rfl (Or.inl rfl)
theorem e_130_8 {x : Nat} : Ev X 130 8 ls (vr x :: st) h Q ↔ (X.1 x = 11 ∧ Ev X 130 9 ls (vr (X.2.2.1 x 5) :: st) h Q) := R_gr rfl
theorem e_130_9 : Ev X 130 9 ls st h Q ↔ onI (gl ls 2) (fun z => Ev X 130 10 ls (vi z :: st) h Q) := R_il rfl (Or.inl rfl)
theorem e_130_10 {rest : List xV} {a0 : Int} {o : Nat} : Ev X 130 10 ls ((vi a0) :: vr o :: rest) h Q ↔ ((X.1 o = 9 ∧ wd rest ≤ 8) ∧ Cl X 78 [vr o, vi a0] h (fun r h2 => Ev X 130 11 ls (r.toList ++ rest) h2 Q)) := R_cv (x := o) (as := [vi a0]) (k2 := 78) rfl rfl (Nat.le_of_ble_eq_true rfl)
theorem e_130_11 {x : Int} : Ev X 130 11 ls (vi x :: st) h Q ↔ (if ¬ x = 0 then Ev X 130 14 ls st h Q else Ev X 130 12 ls st h Q) := R_ifne rfl
theorem e_130_12 : Ev X 130 12 ls st h Q ↔ Ev X 130 13 ls (vi (-1) :: st) h Q := R_kc rfl (Or.inl ⟨Or.inl rfl, by decide⟩)
theorem e_130_13 {z : Int} : Ev X 130 13 ls [vi z] h Q ↔ Q (some (vi z)) h := R_ir rfl
theorem e_130_14 : Ev X 130 14 ls st h Q ↔ onR (gl ls 0) (fun z => Ev X 130 15 ls (vr z :: st) h Q) := R_al rfl (Or.inl rfl)
theorem e_130_15 {x : Nat} : Ev X 130 15 ls (vr x :: st) h Q ↔ (X.1 x = 11 ∧ Ev X 130 16 ls (vr (X.2.2.1 x 8) :: st) h Q) := R_gr rfl
theorem e_130_16 : Ev X 130 16 ls st h Q ↔ onR (gl ls 0) (fun z => Ev X 130 17 ls (vr z :: st) h Q) := R_al rfl (Or.inl rfl)
theorem e_130_17 {x : Nat} : Ev X 130 17 ls (vr x :: st) h Q ↔ (X.1 x = 11 ∧ Ev X 130 18 ls (vr (X.2.2.1 x 5) :: st) h Q) := R_gr rfl
theorem e_130_18 {rest : List xV} {a0 : Nat} {o : Nat} : Ev X 130 18 ls ((vr a0) :: vr o :: rest) h Q ↔ ((X.1 o = 4 ∧ wd rest ≤ 8) ∧ Cl X 32 [vr o, vr a0] h (fun r h2 => Ev X 130 19 ls (r.toList ++ rest) h2 Q)) := R_cv (x := o) (as := [vr a0]) (k2 := 32) rfl rfl (Nat.le_of_ble_eq_true rfl)
theorem e_130_19 : Ev X 130 19 ls st h Q ↔ onR (gl ls 0) (fun z => Ev X 130 20 ls (vr z :: st) h Q) := R_al rfl (Or.inl rfl)
theorem e_130_20 {x : Nat} : Ev X 130 20 ls (vr x :: st) h Q ↔ (X.1 x = 11 ∧ Ev X 130 21 ls (vr (X.2.2.1 x 8) :: st) h Q) := R_gr rfl
theorem e_130_21 : Ev X 130 21 ls st h Q ↔ onI (gl ls 1) (fun z => Ev X 130 22 ls (vi z :: st) h Q) := R_il rfl (Or.inl rfl)
theorem e_130_22 : Ev X 130 22 ls st h Q ↔ onI (gl ls 2) (fun z => Ev X 130 23 ls (vi z :: st) h Q) := R_il rfl (Or.inl rfl)
theorem e_130_23 {rest : List xV} {a0 : Int} {a1 : Int} {o : Nat} : Ev X 130 23 ls ((vi a1) :: (vi a0) :: vr o :: rest) h Q ↔ ((X.1 o = 4 ∧ wd rest ≤ 8) ∧ Cl X 36 [vr o, vi a0, vi a1] h (fun r h2 => Ev X 130 24 ls (r.toList ++ rest) h2 Q)) := R_cv (x := o) (as := [vi a0, vi a1]) (k2 := 36) rfl rfl (Nat.le_of_ble_eq_true rfl)
theorem e_130_24 : Ev X 130 24 ls st h Q ↔ onR (gl ls 0) (fun z => Ev X 130 25 ls (vr z :: st) h Q) := R_al rfl (Or.inl rfl)
theorem e_130_25 {x : Nat} : Ev X 130 25 ls (vr x :: st) h Q ↔ (X.1 x = 11 ∧ Ev X 130 26 ls (vr (X.2.2.1 x 8) :: st) h Q) := R_gr rfl
theorem e_130_26 {x : Nat} : Ev X 130 26 ls (vr x :: st) h Q ↔ (X.1 x = 4 ∧ Ev X 130 27 ls (vi (h.2 x 3) :: st) h Q) := R_gi rfl
theorem e_130_27 {z : Int} : Ev X 130 27 ls [vi z] h Q ↔ Q (some (vi z)) h := R_ir rfl
-- 131: CellRows.run(IIII)I
theorem e_131_0 : Ev X 131 0 ls st h Q ↔ onI (gl ls 3) (fun z => Ev X 131 1 ls (vi z :: st) h Q) := R_il rfl (Or.inl rfl)
theorem e_131_1 {x : Int} : Ev X 131 1 ls (vi x :: st) h Q ↔ (if x < 0 then Ev X 131 8 ls st h Q else Ev X 131 2 ls st h Q) := R_iflt rfl
theorem e_131_2 : Ev X 131 2 ls st h Q ↔ onI (gl ls 3) (fun z => Ev X 131 3 ls (vi z :: st) h Q) := R_il rfl (Or.inl rfl)
theorem e_131_3 : Ev X 131 3 ls st h Q ↔ onR (gl ls 0) (fun z => Ev X 131 4 ls (vr z :: st) h Q) := R_al rfl (Or.inl rfl)
theorem e_131_4 : Ev X 131 4 ls st h Q ↔ onI (gl ls 1) (fun z => Ev X 131 5 ls (vi z :: st) h Q) := R_il rfl (Or.inl rfl)
theorem e_131_5 : Ev X 131 5 ls st h Q ↔ onI (gl ls 2) (fun z => Ev X 131 6 ls (vi z :: st) h Q) := R_il rfl (Or.inl rfl)
theorem e_131_6 {rest : List xV} {a0 : Int} {a1 : Int} {o : Nat} : Ev X 131 6 ls ((vi a1) :: (vi a0) :: vr o :: rest) h Q ↔ ((X.1 o = 11 ∧ wd rest ≤ 8) ∧ Cl X 130 [vr o, vi a0, vi a1] h (fun r h2 => Ev X 131 7 ls (r.toList ++ rest) h2 Q)) := R_cv (x := o) (as := [vi a0, vi a1]) (k2 := 130) rfl rfl (Nat.le_of_ble_eq_true rfl)
theorem e_131_7 {x y : Int} : Ev X 131 7 ls (vi y :: vi x :: st) h Q ↔ (if x < y then Ev X 131 10 ls st h Q else Ev X 131 8 ls st h Q) := R_iclt rfl
theorem e_131_8 : Ev X 131 8 ls st h Q ↔ Ev X 131 9 ls (vi (-1) :: st) h Q := R_kc rfl (Or.inl ⟨Or.inl rfl, by decide⟩)
theorem e_131_9 {z : Int} : Ev X 131 9 ls [vi z] h Q ↔ Q (some (vi z)) h := R_ir rfl
theorem e_131_10 : Ev X 131 10 ls st h Q ↔ onR (gl ls 0) (fun z => Ev X 131 11 ls (vr z :: st) h Q) := R_al rfl (Or.inl rfl)
theorem e_131_11 {x : Nat} : Ev X 131 11 ls (vr x :: st) h Q ↔ (X.1 x = 11 ∧ Ev X 131 12 ls (vr (X.2.2.1 x 8) :: st) h Q) := R_gr rfl
theorem e_131_12 : Ev X 131 12 ls st h Q ↔ onI (gl ls 3) (fun z => Ev X 131 13 ls (vi z :: st) h Q) := R_il rfl (Or.inl rfl)
theorem e_131_13 : Ev X 131 13 ls st h Q ↔ onR (gl ls 0) (fun z => Ev X 131 14 ls (vr z :: st) h Q) := R_al rfl (Or.inl rfl)
theorem e_131_14 {x : Nat} : Ev X 131 14 ls (vr x :: st) h Q ↔ (X.1 x = 11 ∧ Ev X 131 15 ls (vr (X.2.2.1 x 5) :: st) h Q) := R_gr rfl
theorem e_131_15 {x : Nat} : Ev X 131 15 ls (vr x :: st) h Q ↔ (X.1 x = 9 ∧ Ev X 131 16 ls (vr (X.2.2.1 x 4) :: st) h Q) := R_gr rfl
theorem e_131_16 {rest : List xV} {a0 : Int} {a1 : Nat} {o : Nat} : Ev X 131 16 ls ((vr a1) :: (vi a0) :: vr o :: rest) h Q ↔ ((X.1 o = 4 ∧ wd rest ≤ 8) ∧ Cl X 39 [vr o, vi a0, vr a1] h (fun r h2 => Ev X 131 17 ls (r.toList ++ rest) h2 Q)) := R_cv (x := o) (as := [vi a0, vr a1]) (k2 := 39) rfl rfl (Nat.le_of_ble_eq_true rfl)
theorem e_131_17 {x : Int} : Ev X 131 17 ls (vi x :: st) h Q ↔ (stOK ls 5 = true ∧ Ev X 131 18 (ls.set 5 (some (vi x))) st h Q) := R_is rfl (Or.inr rfl)
theorem e_131_18 : Ev X 131 18 ls st h Q ↔ onI (gl ls 4) (fun z => Ev X 131 19 ls (vi z :: st) h Q) := R_il rfl (Or.inr rfl)
theorem e_131_19 {x : Int} : Ev X 131 19 ls (vi x :: st) h Q ↔ Ev X 131 (swt 0 [61, 20, 26, 32, 34, 49] x) ls st h Q := R_sw rfl
theorem e_131_20 : Ev X 131 20 ls st h Q ↔ onR (gl ls 0) (fun z => Ev X 131 21 ls (vr z :: st) h Q) := R_al rfl (Or.inl rfl)
theorem e_131_21 {x : Nat} : Ev X 131 21 ls (vr x :: st) h Q ↔ (X.1 x = 11 ∧ Ev X 131 22 ls (vr (X.2.2.1 x 8) :: st) h Q) := R_gr rfl
theorem e_131_22 {x : Nat} : Ev X 131 22 ls (vr x :: st) h Q ↔ (X.1 x = 4 ∧ Ev X 131 23 ls (vr (X.2.2.1 x 6) :: st) h Q) := R_gr rfl
theorem e_131_23 : Ev X 131 23 ls st h Q ↔ onI (gl ls 3) (fun z => Ev X 131 24 ls (vi z :: st) h Q) := R_il rfl (Or.inl rfl)
theorem e_131_24 {x : Nat} {j : Int} : Ev X 131 24 ls (vi j :: vr x :: st) h Q ↔ (((X.1 x = 13 ∨ X.1 x = 20) ∧ 0 ≤ j ∧ j < X.2.1 x) ∧ Ev X 131 25 ls (vi (h.1 x j.toNat) :: st) h Q) := R_ia rfl
theorem e_131_25 {z : Int} : Ev X 131 25 ls [vi z] h Q ↔ Q (some (vi z)) h := R_ir rfl
theorem e_131_26 : Ev X 131 26 ls st h Q ↔ onR (gl ls 0) (fun z => Ev X 131 27 ls (vr z :: st) h Q) := R_al rfl (Or.inl rfl)
theorem e_131_27 {x : Nat} : Ev X 131 27 ls (vr x :: st) h Q ↔ (X.1 x = 11 ∧ Ev X 131 28 ls (vr (X.2.2.1 x 8) :: st) h Q) := R_gr rfl
theorem e_131_28 {x : Nat} : Ev X 131 28 ls (vr x :: st) h Q ↔ (X.1 x = 4 ∧ Ev X 131 29 ls (vr (X.2.2.1 x 7) :: st) h Q) := R_gr rfl
theorem e_131_29 : Ev X 131 29 ls st h Q ↔ onI (gl ls 3) (fun z => Ev X 131 30 ls (vi z :: st) h Q) := R_il rfl (Or.inl rfl)
theorem e_131_30 {x : Nat} {j : Int} : Ev X 131 30 ls (vi j :: vr x :: st) h Q ↔ (((X.1 x = 13 ∨ X.1 x = 20) ∧ 0 ≤ j ∧ j < X.2.1 x) ∧ Ev X 131 31 ls (vi (h.1 x j.toNat) :: st) h Q) := R_ia rfl
theorem e_131_31 {z : Int} : Ev X 131 31 ls [vi z] h Q ↔ Q (some (vi z)) h := R_ir rfl
theorem e_131_32 : Ev X 131 32 ls st h Q ↔ onI (gl ls 5) (fun z => Ev X 131 33 ls (vi z :: st) h Q) := R_il rfl (Or.inr rfl)
theorem e_131_33 {z : Int} : Ev X 131 33 ls [vi z] h Q ↔ Q (some (vi z)) h := R_ir rfl
theorem e_131_34 : Ev X 131 34 ls st h Q ↔ onR (gl ls 0) (fun z => Ev X 131 35 ls (vr z :: st) h Q) := R_al rfl (Or.inl rfl)
theorem e_131_35 {x : Nat} : Ev X 131 35 ls (vr x :: st) h Q ↔ (X.1 x = 11 ∧ Ev X 131 36 ls (vr (X.2.2.1 x 8) :: st) h Q) := R_gr rfl
theorem e_131_36 {x : Nat} : Ev X 131 36 ls (vr x :: st) h Q ↔ (X.1 x = 4 ∧ Ev X 131 37 ls (vr (X.2.2.1 x 7) :: st) h Q) := R_gr rfl
theorem e_131_37 : Ev X 131 37 ls st h Q ↔ onI (gl ls 3) (fun z => Ev X 131 38 ls (vi z :: st) h Q) := R_il rfl (Or.inl rfl)
theorem e_131_38 {x : Nat} {j : Int} : Ev X 131 38 ls (vi j :: vr x :: st) h Q ↔ (((X.1 x = 13 ∨ X.1 x = 20) ∧ 0 ≤ j ∧ j < X.2.1 x) ∧ Ev X 131 39 ls (vi (h.1 x j.toNat) :: st) h Q) := R_ia rfl
theorem e_131_39 : Ev X 131 39 ls st h Q ↔ onR (gl ls 0) (fun z => Ev X 131 40 ls (vr z :: st) h Q) := R_al rfl (Or.inl rfl)
theorem e_131_40 {x : Nat} : Ev X 131 40 ls (vr x :: st) h Q ↔ (X.1 x = 11 ∧ Ev X 131 41 ls (vr (X.2.2.1 x 5) :: st) h Q) := R_gr rfl
theorem e_131_41 {x : Nat} : Ev X 131 41 ls (vr x :: st) h Q ↔ (X.1 x = 9 ∧ Ev X 131 42 ls (vr (X.2.2.1 x 4) :: st) h Q) := R_gr rfl
theorem e_131_42 : Ev X 131 42 ls st h Q ↔ onR (gl ls 0) (fun z => Ev X 131 43 ls (vr z :: st) h Q) := R_al rfl (Or.inl rfl)
theorem e_131_43 {x : Nat} : Ev X 131 43 ls (vr x :: st) h Q ↔ (X.1 x = 11 ∧ Ev X 131 44 ls (vr (X.2.2.1 x 8) :: st) h Q) := R_gr rfl
theorem e_131_44 {x : Nat} : Ev X 131 44 ls (vr x :: st) h Q ↔ (X.1 x = 4 ∧ Ev X 131 45 ls (vr (X.2.2.1 x 8) :: st) h Q) := R_gr rfl
theorem e_131_45 : Ev X 131 45 ls st h Q ↔ onI (gl ls 5) (fun z => Ev X 131 46 ls (vi z :: st) h Q) := R_il rfl (Or.inr rfl)
theorem e_131_46 {rest : List xV} {a0 : Nat} {a1 : Int} {o : Nat} : Ev X 131 46 ls ((vi a1) :: (vr a0) :: vr o :: rest) h Q ↔ ((X.1 o = 3 ∧ wd rest ≤ 8) ∧ Cl X 31 [vr o, vr a0, vi a1] h (fun r h2 => Ev X 131 47 ls (r.toList ++ rest) h2 Q)) := R_cv (x := o) (as := [vr a0, vi a1]) (k2 := 31) rfl rfl (Nat.le_of_ble_eq_true rfl)
theorem e_131_47 {x y : Int} : Ev X 131 47 ls (vi y :: vi x :: st) h Q ↔ ((inR (x - y)) ∧ Ev X 131 48 ls (vi (x - y) :: st) h Q) := R_sub rfl
theorem e_131_48 {z : Int} : Ev X 131 48 ls [vi z] h Q ↔ Q (some (vi z)) h := R_ir rfl
theorem e_131_49 : Ev X 131 49 ls st h Q ↔ onR (gl ls 0) (fun z => Ev X 131 50 ls (vr z :: st) h Q) := R_al rfl (Or.inl rfl)
theorem e_131_50 {x : Nat} : Ev X 131 50 ls (vr x :: st) h Q ↔ (X.1 x = 11 ∧ Ev X 131 51 ls (vr (X.2.2.1 x 12) :: st) h Q) := R_gr rfl
theorem e_131_51 : Ev X 131 51 ls st h Q ↔ onR (gl ls 0) (fun z => Ev X 131 52 ls (vr z :: st) h Q) := R_al rfl (Or.inl rfl)
theorem e_131_52 {x : Nat} : Ev X 131 52 ls (vr x :: st) h Q ↔ (X.1 x = 11 ∧ Ev X 131 53 ls (vr (X.2.2.1 x 5) :: st) h Q) := R_gr rfl
theorem e_131_53 {x : Nat} : Ev X 131 53 ls (vr x :: st) h Q ↔ (X.1 x = 9 ∧ Ev X 131 54 ls (vr (X.2.2.1 x 4) :: st) h Q) := R_gr rfl
theorem e_131_54 : Ev X 131 54 ls st h Q ↔ onR (gl ls 0) (fun z => Ev X 131 55 ls (vr z :: st) h Q) := R_al rfl (Or.inl rfl)
theorem e_131_55 {x : Nat} : Ev X 131 55 ls (vr x :: st) h Q ↔ (X.1 x = 11 ∧ Ev X 131 56 ls (vr (X.2.2.1 x 8) :: st) h Q) := R_gr rfl
theorem e_131_56 {x : Nat} : Ev X 131 56 ls (vr x :: st) h Q ↔ (X.1 x = 4 ∧ Ev X 131 57 ls (vr (X.2.2.1 x 8) :: st) h Q) := R_gr rfl
theorem e_131_57 : Ev X 131 57 ls st h Q ↔ onI (gl ls 5) (fun z => Ev X 131 58 ls (vi z :: st) h Q) := R_il rfl (Or.inr rfl)
theorem e_131_58 : Ev X 131 58 ls st h Q ↔ onI (gl ls 3) (fun z => Ev X 131 59 ls (vi z :: st) h Q) := R_il rfl (Or.inl rfl)
theorem e_131_59 {rest : List xV} {a0 : Nat} {a1 : Nat} {a2 : Int} {a3 : Int} {o : Nat} : Ev X 131 59 ls ((vi a3) :: (vi a2) :: (vr a1) :: (vr a0) :: vr o :: rest) h Q ↔ ((X.1 o = 7 ∧ wd rest ≤ 8) ∧ Cl X 48 [vr o, vr a0, vr a1, vi a2, vi a3] h (fun r h2 => Ev X 131 60 ls (r.toList ++ rest) h2 Q)) := R_cv (x := o) (as := [vr a0, vr a1, vi a2, vi a3]) (k2 := 48) rfl rfl (Nat.le_of_ble_eq_true rfl)
theorem e_131_60 {z : Int} : Ev X 131 60 ls [vi z] h Q ↔ Q (some (vi z)) h := R_ir rfl
theorem e_131_61 : Ev X 131 61 ls st h Q ↔ onI (gl ls 4) (fun z => Ev X 131 62 ls (vi z :: st) h Q) := R_il rfl (Or.inr rfl)
theorem e_131_62 : Ev X 131 62 ls st h Q ↔ Ev X 131 63 ls (vi 10 :: st) h Q := R_kc rfl (Or.inr (Or.inl ⟨rfl, by decide⟩))
theorem e_131_63 {x y : Int} : Ev X 131 63 ls (vi y :: vi x :: st) h Q ↔ (if x < y then Ev X 131 77 ls st h Q else Ev X 131 64 ls st h Q) := R_iclt rfl
theorem e_131_64 : Ev X 131 64 ls st h Q ↔ onI (gl ls 4) (fun z => Ev X 131 65 ls (vi z :: st) h Q) := R_il rfl (Or.inr rfl)
theorem e_131_65 : Ev X 131 65 ls st h Q ↔ Ev X 131 66 ls (vi 10 :: st) h Q := R_kc rfl (Or.inr (Or.inl ⟨rfl, by decide⟩))
theorem e_131_66 {x y : Int} : Ev X 131 66 ls (vi y :: vi x :: st) h Q ↔ ((inR (x - y)) ∧ Ev X 131 67 ls (vi (x - y) :: st) h Q) := R_sub rfl
theorem e_131_67 : Ev X 131 67 ls st h Q ↔ onI (gl ls 5) (fun z => Ev X 131 68 ls (vi z :: st) h Q) := R_il rfl (Or.inr rfl)
theorem e_131_68 {x y : Int} : Ev X 131 68 ls (vi y :: vi x :: st) h Q ↔ (if y ≤ x then Ev X 131 77 ls st h Q else Ev X 131 69 ls st h Q) := R_icge rfl
theorem e_131_69 : Ev X 131 69 ls st h Q ↔ onR (gl ls 0) (fun z => Ev X 131 70 ls (vr z :: st) h Q) := R_al rfl (Or.inl rfl)
theorem e_131_70 {x : Nat} : Ev X 131 70 ls (vr x :: st) h Q ↔ (X.1 x = 11 ∧ Ev X 131 71 ls (vr (X.2.2.1 x 8) :: st) h Q) := R_gr rfl
theorem e_131_71 {x : Nat} : Ev X 131 71 ls (vr x :: st) h Q ↔ (X.1 x = 4 ∧ Ev X 131 72 ls (vr (X.2.2.1 x 8) :: st) h Q) := R_gr rfl
theorem e_131_72 : Ev X 131 72 ls st h Q ↔ onI (gl ls 4) (fun z => Ev X 131 73 ls (vi z :: st) h Q) := R_il rfl (Or.inr rfl)
theorem e_131_73 : Ev X 131 73 ls st h Q ↔ Ev X 131 74 ls (vi 10 :: st) h Q := R_kc rfl (Or.inr (Or.inl ⟨rfl, by decide⟩))
theorem e_131_74 {x y : Int} : Ev X 131 74 ls (vi y :: vi x :: st) h Q ↔ ((inR (x - y)) ∧ Ev X 131 75 ls (vi (x - y) :: st) h Q) := R_sub rfl
theorem e_131_75 {x : Nat} {j : Int} : Ev X 131 75 ls (vi j :: vr x :: st) h Q ↔ (((X.1 x = 13 ∨ X.1 x = 20) ∧ 0 ≤ j ∧ j < X.2.1 x) ∧ Ev X 131 76 ls (vi (h.1 x j.toNat) :: st) h Q) := R_ia rfl
theorem e_131_76 : Ev X 131 76 ls st h Q ↔ Ev X 131 78 ls st h Q := R_go rfl
theorem e_131_77 : Ev X 131 77 ls st h Q ↔ Ev X 131 78 ls (vi (-1) :: st) h Q := R_kc rfl (Or.inl ⟨Or.inl rfl, by decide⟩)
theorem e_131_78 {z : Int} : Ev X 131 78 ls [vi z] h Q ↔ Q (some (vi z)) h := R_ir rfl
-- 132: CellRows.would(III)I
theorem e_132_0 : Ev X 132 0 ls st h Q ↔ onR (gl ls 0) (fun z => Ev X 132 1 ls (vr z :: st) h Q) := R_al rfl (Or.inl rfl)
theorem e_132_1 {x : Nat} : Ev X 132 1 ls (vr x :: st) h Q ↔ (X.1 x = 11 ∧ Ev X 132 2 ls (vr (X.2.2.1 x 5) :: st) h Q) := R_gr rfl
theorem e_132_2 : Ev X 132 2 ls st h Q ↔ onI (gl ls 1) (fun z => Ev X 132 3 ls (vi z :: st) h Q) := R_il rfl (Or.inl rfl)
theorem e_132_3 {rest : List xV} {a0 : Int} {o : Nat} : Ev X 132 3 ls ((vi a0) :: vr o :: rest) h Q ↔ ((X.1 o = 9 ∧ wd rest ≤ 8) ∧ Cl X 79 [vr o, vi a0] h (fun r h2 => Ev X 132 4 ls (r.toList ++ rest) h2 Q)) := R_cv (x := o) (as := [vi a0]) (k2 := 79) rfl rfl (Nat.le_of_ble_eq_true rfl)
theorem e_132_4 {x : Int} : Ev X 132 4 ls (vi x :: st) h Q ↔ (if x = 0 then Ev X 132 12 ls st h Q else Ev X 132 5 ls st h Q) := R_ifeq rfl
theorem e_132_5 : Ev X 132 5 ls st h Q ↔ onR (gl ls 0) (fun z => Ev X 132 6 ls (vr z :: st) h Q) := R_al rfl (Or.inl rfl)
theorem e_132_6 {x : Nat} : Ev X 132 6 ls (vr x :: st) h Q ↔ (X.1 x = 11 ∧ Ev X 132 7 ls (vr (X.2.2.1 x 5) :: st) h Q) := R_gr rfl
theorem e_132_7 : Ev X 132 7 ls st h Q ↔ onI (gl ls 1) (fun z => Ev X 132 8 ls (vi z :: st) h Q) := R_il rfl (Or.inl rfl)
theorem e_132_8 : Ev X 132 8 ls st h Q ↔ onI (gl ls 2) (fun z => Ev X 132 9 ls (vi z :: st) h Q) := R_il rfl (Or.inl rfl)
theorem e_132_9 : Ev X 132 9 ls st h Q ↔ onI (gl ls 3) (fun z => Ev X 132 10 ls (vi z :: st) h Q) := R_il rfl (Or.inl rfl)
theorem e_132_10 {rest : List xV} {a0 : Int} {a1 : Int} {a2 : Int} {o : Nat} : Ev X 132 10 ls ((vi a2) :: (vi a1) :: (vi a0) :: vr o :: rest) h Q ↔ ((X.1 o = 9 ∧ wd rest ≤ 8) ∧ Cl X 81 [vr o, vi a0, vi a1, vi a2] h (fun r h2 => Ev X 132 11 ls (r.toList ++ rest) h2 Q)) := R_cv (x := o) (as := [vi a0, vi a1, vi a2]) (k2 := 81) rfl rfl (Nat.le_of_ble_eq_true rfl)
theorem e_132_11 {x : Int} : Ev X 132 11 ls (vi x :: st) h Q ↔ (if ¬ x = 0 then Ev X 132 14 ls st h Q else Ev X 132 12 ls st h Q) := R_ifne rfl
theorem e_132_12 : Ev X 132 12 ls st h Q ↔ Ev X 132 13 ls (vi (-1) :: st) h Q := R_kc rfl (Or.inl ⟨Or.inl rfl, by decide⟩)
theorem e_132_13 {z : Int} : Ev X 132 13 ls [vi z] h Q ↔ Q (some (vi z)) h := R_ir rfl
theorem e_132_14 : Ev X 132 14 ls st h Q ↔ onR (gl ls 0) (fun z => Ev X 132 15 ls (vr z :: st) h Q) := R_al rfl (Or.inl rfl)
theorem e_132_15 {x : Nat} : Ev X 132 15 ls (vr x :: st) h Q ↔ (X.1 x = 11 ∧ Ev X 132 16 ls (vr (X.2.2.1 x 9) :: st) h Q) := R_gr rfl
theorem e_132_16 : Ev X 132 16 ls st h Q ↔ onR (gl ls 0) (fun z => Ev X 132 17 ls (vr z :: st) h Q) := R_al rfl (Or.inl rfl)
theorem e_132_17 {x : Nat} : Ev X 132 17 ls (vr x :: st) h Q ↔ (X.1 x = 11 ∧ Ev X 132 18 ls (vr (X.2.2.1 x 5) :: st) h Q) := R_gr rfl
theorem e_132_18 : Ev X 132 18 ls st h Q ↔ onI (gl ls 1) (fun z => Ev X 132 19 ls (vi z :: st) h Q) := R_il rfl (Or.inl rfl)
theorem e_132_19 {rest : List xV} {a0 : Nat} {a1 : Int} {o : Nat} : Ev X 132 19 ls ((vi a1) :: (vr a0) :: vr o :: rest) h Q ↔ ((X.1 o = 10 ∧ wd rest ≤ 8) ∧ Cl X 93 [vr o, vr a0, vi a1] h (fun r h2 => Ev X 132 20 ls (r.toList ++ rest) h2 Q)) := R_cv (x := o) (as := [vr a0, vi a1]) (k2 := 93) rfl rfl (Nat.le_of_ble_eq_true rfl)
theorem e_132_20 : Ev X 132 20 ls st h Q ↔ onR (gl ls 0) (fun z => Ev X 132 21 ls (vr z :: st) h Q) := R_al rfl (Or.inl rfl)
theorem e_132_21 {x : Nat} : Ev X 132 21 ls (vr x :: st) h Q ↔ (X.1 x = 11 ∧ Ev X 132 22 ls (vr (X.2.2.1 x 9) :: st) h Q) := R_gr rfl
theorem e_132_22 : Ev X 132 22 ls st h Q ↔ onR (gl ls 0) (fun z => Ev X 132 23 ls (vr z :: st) h Q) := R_al rfl (Or.inl rfl)
theorem e_132_23 {x : Nat} : Ev X 132 23 ls (vr x :: st) h Q ↔ (X.1 x = 11 ∧ Ev X 132 24 ls (vr (X.2.2.1 x 5) :: st) h Q) := R_gr rfl
theorem e_132_24 {rest : List xV} {a0 : Nat} {o : Nat} : Ev X 132 24 ls ((vr a0) :: vr o :: rest) h Q ↔ ((X.1 o = 10 ∧ wd rest ≤ 8) ∧ Cl X 92 [vr o, vr a0] h (fun r h2 => Ev X 132 25 ls (r.toList ++ rest) h2 Q)) := R_cv (x := o) (as := [vr a0]) (k2 := 92) rfl rfl (Nat.le_of_ble_eq_true rfl)
theorem e_132_25 : Ev X 132 25 ls st h Q ↔ onR (gl ls 0) (fun z => Ev X 132 26 ls (vr z :: st) h Q) := R_al rfl (Or.inl rfl)
theorem e_132_26 {x : Nat} : Ev X 132 26 ls (vr x :: st) h Q ↔ (X.1 x = 11 ∧ Ev X 132 27 ls (vr (X.2.2.1 x 9) :: st) h Q) := R_gr rfl
theorem e_132_27 : Ev X 132 27 ls st h Q ↔ onR (gl ls 0) (fun z => Ev X 132 28 ls (vr z :: st) h Q) := R_al rfl (Or.inl rfl)
theorem e_132_28 {x : Nat} : Ev X 132 28 ls (vr x :: st) h Q ↔ (X.1 x = 11 ∧ Ev X 132 29 ls (vr (X.2.2.1 x 5) :: st) h Q) := R_gr rfl
theorem e_132_29 : Ev X 132 29 ls st h Q ↔ onI (gl ls 1) (fun z => Ev X 132 30 ls (vi z :: st) h Q) := R_il rfl (Or.inl rfl)
theorem e_132_30 {rest : List xV} {a0 : Nat} {a1 : Int} {o : Nat} : Ev X 132 30 ls ((vi a1) :: (vr a0) :: vr o :: rest) h Q ↔ ((X.1 o = 10 ∧ wd rest ≤ 8) ∧ Cl X 95 [vr o, vr a0, vi a1] h (fun r h2 => Ev X 132 31 ls (r.toList ++ rest) h2 Q)) := R_cv (x := o) (as := [vr a0, vi a1]) (k2 := 95) rfl rfl (Nat.le_of_ble_eq_true rfl)
theorem e_132_31 {x y : Int} : Ev X 132 31 ls (vi y :: vi x :: st) h Q ↔ ((inR (x - y)) ∧ Ev X 132 32 ls (vi (x - y) :: st) h Q) := R_sub rfl
theorem e_132_32 : Ev X 132 32 ls st h Q ↔ onR (gl ls 0) (fun z => Ev X 132 33 ls (vr z :: st) h Q) := R_al rfl (Or.inl rfl)
theorem e_132_33 {x : Nat} : Ev X 132 33 ls (vr x :: st) h Q ↔ (X.1 x = 11 ∧ Ev X 132 34 ls (vr (X.2.2.1 x 9) :: st) h Q) := R_gr rfl
theorem e_132_34 : Ev X 132 34 ls st h Q ↔ Ev X 132 35 ls (vi 16 :: st) h Q := R_kc rfl (Or.inr (Or.inl ⟨rfl, by decide⟩))
theorem e_132_35 : Ev X 132 35 ls st h Q ↔ onI (gl ls 3) (fun z => Ev X 132 36 ls (vi z :: st) h Q) := R_il rfl (Or.inl rfl)
theorem e_132_36 {x y : Int} : Ev X 132 36 ls (vi y :: vi x :: st) h Q ↔ ((inR (x * y)) ∧ Ev X 132 37 ls (vi (x * y) :: st) h Q) := R_mul rfl
theorem e_132_37 : Ev X 132 37 ls st h Q ↔ Ev X 132 38 ls (vi 16 :: st) h Q := R_kc rfl (Or.inr (Or.inl ⟨rfl, by decide⟩))
theorem e_132_38 : Ev X 132 38 ls st h Q ↔ onI (gl ls 2) (fun z => Ev X 132 39 ls (vi z :: st) h Q) := R_il rfl (Or.inl rfl)
theorem e_132_39 {x y : Int} : Ev X 132 39 ls (vi y :: vi x :: st) h Q ↔ ((inR (x * y)) ∧ Ev X 132 40 ls (vi (x * y) :: st) h Q) := R_mul rfl
theorem e_132_40 {rest : List xV} {a0 : Int} {a1 : Int} {o : Nat} : Ev X 132 40 ls ((vi a1) :: (vi a0) :: vr o :: rest) h Q ↔ ((X.1 o = 10 ∧ wd rest ≤ 8) ∧ Cl X 94 [vr o, vi a0, vi a1] h (fun r h2 => Ev X 132 41 ls (r.toList ++ rest) h2 Q)) := R_cv (x := o) (as := [vi a0, vi a1]) (k2 := 94) rfl rfl (Nat.le_of_ble_eq_true rfl)
theorem e_132_41 {x y : Int} : Ev X 132 41 ls (vi y :: vi x :: st) h Q ↔ ((inR (x + y)) ∧ Ev X 132 42 ls (vi (x + y) :: st) h Q) := R_add rfl
theorem e_132_42 {z : Int} : Ev X 132 42 ls [vi z] h Q ↔ Q (some (vi z)) h := R_ir rfl
-- 133: CellRows.best(II)I
theorem e_133_0 : Ev X 133 0 ls st h Q ↔ onR (gl ls 0) (fun z => Ev X 133 1 ls (vr z :: st) h Q) := R_al rfl (Or.inl rfl)
theorem e_133_1 {x : Nat} : Ev X 133 1 ls (vr x :: st) h Q ↔ (X.1 x = 11 ∧ Ev X 133 2 ls (vr (X.2.2.1 x 5) :: st) h Q) := R_gr rfl
theorem e_133_2 : Ev X 133 2 ls st h Q ↔ onI (gl ls 1) (fun z => Ev X 133 3 ls (vi z :: st) h Q) := R_il rfl (Or.inl rfl)
theorem e_133_3 {rest : List xV} {a0 : Int} {o : Nat} : Ev X 133 3 ls ((vi a0) :: vr o :: rest) h Q ↔ ((X.1 o = 9 ∧ wd rest ≤ 8) ∧ Cl X 79 [vr o, vi a0] h (fun r h2 => Ev X 133 4 ls (r.toList ++ rest) h2 Q)) := R_cv (x := o) (as := [vi a0]) (k2 := 79) rfl rfl (Nat.le_of_ble_eq_true rfl)
theorem e_133_4 {x : Int} : Ev X 133 4 ls (vi x :: st) h Q ↔ (if x = 0 then Ev X 133 16 ls st h Q else Ev X 133 5 ls st h Q) := R_ifeq rfl
theorem e_133_5 : Ev X 133 5 ls st h Q ↔ onR (gl ls 0) (fun z => Ev X 133 6 ls (vr z :: st) h Q) := R_al rfl (Or.inl rfl)
theorem e_133_6 {x : Nat} : Ev X 133 6 ls (vr x :: st) h Q ↔ (X.1 x = 11 ∧ Ev X 133 7 ls (vr (X.2.2.1 x 5) :: st) h Q) := R_gr rfl
theorem e_133_7 {x : Nat} : Ev X 133 7 ls (vr x :: st) h Q ↔ (X.1 x = 9 ∧ Ev X 133 8 ls (vr (X.2.2.1 x 4) :: st) h Q) := R_gr rfl
theorem e_133_8 : Ev X 133 8 ls st h Q ↔ onI (gl ls 1) (fun z => Ev X 133 9 ls (vi z :: st) h Q) := R_il rfl (Or.inl rfl)
theorem e_133_9 {rest : List xV} {a0 : Int} {o : Nat} : Ev X 133 9 ls ((vi a0) :: vr o :: rest) h Q ↔ ((X.1 o = 3 ∧ wd rest ≤ 8) ∧ Cl X 22 [vr o, vi a0] h (fun r h2 => Ev X 133 10 ls (r.toList ++ rest) h2 Q)) := R_cv (x := o) (as := [vi a0]) (k2 := 22) rfl rfl (Nat.le_of_ble_eq_true rfl)
theorem e_133_10 {x : Int} : Ev X 133 10 ls (vi x :: st) h Q ↔ (if x = 0 then Ev X 133 16 ls st h Q else Ev X 133 11 ls st h Q) := R_ifeq rfl
theorem e_133_11 : Ev X 133 11 ls st h Q ↔ onI (gl ls 2) (fun z => Ev X 133 12 ls (vi z :: st) h Q) := R_il rfl (Or.inl rfl)
theorem e_133_12 {x : Int} : Ev X 133 12 ls (vi x :: st) h Q ↔ (if x < 0 then Ev X 133 16 ls st h Q else Ev X 133 13 ls st h Q) := R_iflt rfl
theorem e_133_13 : Ev X 133 13 ls st h Q ↔ onI (gl ls 2) (fun z => Ev X 133 14 ls (vi z :: st) h Q) := R_il rfl (Or.inl rfl)
theorem e_133_14 : Ev X 133 14 ls st h Q ↔ Ev X 133 15 ls (vi 2 :: st) h Q := R_kc rfl (Or.inl ⟨Or.inl rfl, by decide⟩)
theorem e_133_15 {x y : Int} : Ev X 133 15 ls (vi y :: vi x :: st) h Q ↔ (if x ≤ y then Ev X 133 18 ls st h Q else Ev X 133 16 ls st h Q) := R_icle rfl
theorem e_133_16 : Ev X 133 16 ls st h Q ↔ Ev X 133 17 ls (vi (-1) :: st) h Q := R_kc rfl (Or.inl ⟨Or.inl rfl, by decide⟩)
theorem e_133_17 {z : Int} : Ev X 133 17 ls [vi z] h Q ↔ Q (some (vi z)) h := R_ir rfl
theorem e_133_18 : Ev X 133 18 ls st h Q ↔ onR (gl ls 0) (fun z => Ev X 133 19 ls (vr z :: st) h Q) := R_al rfl (Or.inl rfl)
theorem e_133_19 {x : Nat} : Ev X 133 19 ls (vr x :: st) h Q ↔ (X.1 x = 11 ∧ Ev X 133 20 ls (vr (X.2.2.1 x 5) :: st) h Q) := R_gr rfl
theorem e_133_20 {x : Nat} : Ev X 133 20 ls (vr x :: st) h Q ↔ (X.1 x = 9 ∧ Ev X 133 21 ls (vr (X.2.2.1 x 4) :: st) h Q) := R_gr rfl
theorem e_133_21 {x : Nat} : Ev X 133 21 ls (vr x :: st) h Q ↔ (stOK ls 3 = true ∧ Ev X 133 22 (ls.set 3 (some (vr x))) st h Q) := R_as rfl (Or.inl rfl)
theorem e_133_22 : Ev X 133 22 ls st h Q ↔ onR (gl ls 0) (fun z => Ev X 133 23 ls (vr z :: st) h Q) := R_al rfl (Or.inl rfl)
theorem e_133_23 {x : Nat} : Ev X 133 23 ls (vr x :: st) h Q ↔ (X.1 x = 11 ∧ Ev X 133 24 ls (vr (X.2.2.1 x 9) :: st) h Q) := R_gr rfl
theorem e_133_24 : Ev X 133 24 ls st h Q ↔ onR (gl ls 0) (fun z => Ev X 133 25 ls (vr z :: st) h Q) := R_al rfl (Or.inl rfl)
theorem e_133_25 {x : Nat} : Ev X 133 25 ls (vr x :: st) h Q ↔ (X.1 x = 11 ∧ Ev X 133 26 ls (vr (X.2.2.1 x 5) :: st) h Q) := R_gr rfl
theorem e_133_26 : Ev X 133 26 ls st h Q ↔ onI (gl ls 1) (fun z => Ev X 133 27 ls (vi z :: st) h Q) := R_il rfl (Or.inl rfl)
theorem e_133_27 {rest : List xV} {a0 : Nat} {a1 : Int} {o : Nat} : Ev X 133 27 ls ((vi a1) :: (vr a0) :: vr o :: rest) h Q ↔ ((X.1 o = 10 ∧ wd rest ≤ 8) ∧ Cl X 93 [vr o, vr a0, vi a1] h (fun r h2 => Ev X 133 28 ls (r.toList ++ rest) h2 Q)) := R_cv (x := o) (as := [vr a0, vi a1]) (k2 := 93) rfl rfl (Nat.le_of_ble_eq_true rfl)
theorem e_133_28 : Ev X 133 28 ls st h Q ↔ Ev X 133 29 ls (vi 16 :: st) h Q := R_kc rfl (Or.inr (Or.inl ⟨rfl, by decide⟩))
theorem e_133_29 : Ev X 133 29 ls st h Q ↔ onR (gl ls 3) (fun z => Ev X 133 30 ls (vr z :: st) h Q) := R_al rfl (Or.inl rfl)
theorem e_133_30 {x : Nat} : Ev X 133 30 ls (vr x :: st) h Q ↔ (X.1 x = 3 ∧ Ev X 133 31 ls (vr (X.2.2.1 x 6) :: st) h Q) := R_gr rfl
theorem e_133_31 : Ev X 133 31 ls st h Q ↔ onI (gl ls 1) (fun z => Ev X 133 32 ls (vi z :: st) h Q) := R_il rfl (Or.inl rfl)
theorem e_133_32 {x : Nat} {j : Int} : Ev X 133 32 ls (vi j :: vr x :: st) h Q ↔ (((X.1 x = 13 ∨ X.1 x = 20) ∧ 0 ≤ j ∧ j < X.2.1 x) ∧ Ev X 133 33 ls (vi (h.1 x j.toNat) :: st) h Q) := R_ia rfl
theorem e_133_33 {x y : Int} : Ev X 133 33 ls (vi y :: vi x :: st) h Q ↔ ((inR (x * y)) ∧ Ev X 133 34 ls (vi (x * y) :: st) h Q) := R_mul rfl
theorem e_133_34 {x : Int} : Ev X 133 34 ls (vi x :: st) h Q ↔ (stOK ls 4 = true ∧ Ev X 133 35 (ls.set 4 (some (vi x))) st h Q) := R_is rfl (Or.inr rfl)
theorem e_133_35 : Ev X 133 35 ls st h Q ↔ Ev X 133 36 ls (vi 268435456 :: st) h Q := R_kc rfl (Or.inl ⟨Or.inr (Or.inr rfl), by decide⟩)
theorem e_133_36 {x : Int} : Ev X 133 36 ls (vi x :: st) h Q ↔ (stOK ls 5 = true ∧ Ev X 133 37 (ls.set 5 (some (vi x))) st h Q) := R_is rfl (Or.inr rfl)
theorem e_133_37 : Ev X 133 37 ls st h Q ↔ Ev X 133 38 ls (vi (-1) :: st) h Q := R_kc rfl (Or.inl ⟨Or.inl rfl, by decide⟩)
theorem e_133_38 {x : Int} : Ev X 133 38 ls (vi x :: st) h Q ↔ (stOK ls 6 = true ∧ Ev X 133 39 (ls.set 6 (some (vi x))) st h Q) := R_is rfl (Or.inr rfl)
theorem e_133_39 : Ev X 133 39 ls st h Q ↔ Ev X 133 40 ls (vi (-1) :: st) h Q := R_kc rfl (Or.inl ⟨Or.inl rfl, by decide⟩)
theorem e_133_40 {x : Int} : Ev X 133 40 ls (vi x :: st) h Q ↔ (stOK ls 7 = true ∧ Ev X 133 41 (ls.set 7 (some (vi x))) st h Q) := R_is rfl (Or.inr rfl)
theorem e_133_41 : Ev X 133 41 ls st h Q ↔ Ev X 133 42 ls (vi 0 :: st) h Q := R_kc rfl (Or.inl ⟨Or.inl rfl, by decide⟩)
theorem e_133_42 {x : Int} : Ev X 133 42 ls (vi x :: st) h Q ↔ (stOK ls 8 = true ∧ Ev X 133 43 (ls.set 8 (some (vi x))) st h Q) := R_is rfl (Or.inr rfl)
theorem e_133_43 : Ev X 133 43 ls st h Q ↔ onI (gl ls 8) (fun z => Ev X 133 44 ls (vi z :: st) h Q) := R_il rfl (Or.inr rfl)
theorem e_133_44 : Ev X 133 44 ls st h Q ↔ onR (gl ls 0) (fun z => Ev X 133 45 ls (vr z :: st) h Q) := R_al rfl (Or.inl rfl)
theorem e_133_45 {x : Nat} : Ev X 133 45 ls (vr x :: st) h Q ↔ (X.1 x = 11 ∧ Ev X 133 46 ls (vr (X.2.2.1 x 5) :: st) h Q) := R_gr rfl
theorem e_133_46 {x : Nat} : Ev X 133 46 ls (vr x :: st) h Q ↔ (X.1 x = 9 ∧ Ev X 133 47 ls (vi (h.2 x 1) :: st) h Q) := R_gi rfl
theorem e_133_47 : Ev X 133 47 ls st h Q ↔ onR (gl ls 3) (fun z => Ev X 133 48 ls (vr z :: st) h Q) := R_al rfl (Or.inl rfl)
theorem e_133_48 {x : Nat} : Ev X 133 48 ls (vr x :: st) h Q ↔ (X.1 x = 3 ∧ Ev X 133 49 ls (vr (X.2.2.1 x 1) :: st) h Q) := R_gr rfl
theorem e_133_49 : Ev X 133 49 ls st h Q ↔ onI (gl ls 1) (fun z => Ev X 133 50 ls (vi z :: st) h Q) := R_il rfl (Or.inl rfl)
theorem e_133_50 {x : Nat} {j : Int} : Ev X 133 50 ls (vi j :: vr x :: st) h Q ↔ (((X.1 x = 13 ∨ X.1 x = 20) ∧ 0 ≤ j ∧ j < X.2.1 x) ∧ Ev X 133 51 ls (vi (h.1 x j.toNat) :: st) h Q) := R_ia rfl
theorem e_133_51 {x y : Int} : Ev X 133 51 ls (vi y :: vi x :: st) h Q ↔ ((inR (x - y)) ∧ Ev X 133 52 ls (vi (x - y) :: st) h Q) := R_sub rfl
theorem e_133_52 {x y : Int} : Ev X 133 52 ls (vi y :: vi x :: st) h Q ↔ (if y < x then Ev X 133 75 ls st h Q else Ev X 133 53 ls st h Q) := R_icgt rfl
theorem e_133_53 : Ev X 133 53 ls st h Q ↔ onR (gl ls 0) (fun z => Ev X 133 54 ls (vr z :: st) h Q) := R_al rfl (Or.inl rfl)
theorem e_133_54 {x : Nat} : Ev X 133 54 ls (vr x :: st) h Q ↔ (X.1 x = 11 ∧ Ev X 133 55 ls (vr (X.2.2.1 x 9) :: st) h Q) := R_gr rfl
theorem e_133_55 : Ev X 133 55 ls st h Q ↔ Ev X 133 56 ls (vi 16 :: st) h Q := R_kc rfl (Or.inr (Or.inl ⟨rfl, by decide⟩))
theorem e_133_56 : Ev X 133 56 ls st h Q ↔ onI (gl ls 8) (fun z => Ev X 133 57 ls (vi z :: st) h Q) := R_il rfl (Or.inr rfl)
theorem e_133_57 {x y : Int} : Ev X 133 57 ls (vi y :: vi x :: st) h Q ↔ ((inR (x * y)) ∧ Ev X 133 58 ls (vi (x * y) :: st) h Q) := R_mul rfl
theorem e_133_58 : Ev X 133 58 ls st h Q ↔ onI (gl ls 4) (fun z => Ev X 133 59 ls (vi z :: st) h Q) := R_il rfl (Or.inr rfl)
theorem e_133_59 {rest : List xV} {a0 : Int} {a1 : Int} {o : Nat} : Ev X 133 59 ls ((vi a1) :: (vi a0) :: vr o :: rest) h Q ↔ ((X.1 o = 10 ∧ wd rest ≤ 8) ∧ Cl X 94 [vr o, vi a0, vi a1] h (fun r h2 => Ev X 133 60 ls (r.toList ++ rest) h2 Q)) := R_cv (x := o) (as := [vi a0, vi a1]) (k2 := 94) rfl rfl (Nat.le_of_ble_eq_true rfl)
theorem e_133_60 {x : Int} : Ev X 133 60 ls (vi x :: st) h Q ↔ (stOK ls 9 = true ∧ Ev X 133 61 (ls.set 9 (some (vi x))) st h Q) := R_is rfl (Or.inr rfl)
theorem e_133_61 : Ev X 133 61 ls st h Q ↔ onI (gl ls 9) (fun z => Ev X 133 62 ls (vi z :: st) h Q) := R_il rfl (Or.inr rfl)
theorem e_133_62 : Ev X 133 62 ls st h Q ↔ onI (gl ls 5) (fun z => Ev X 133 63 ls (vi z :: st) h Q) := R_il rfl (Or.inr rfl)
theorem e_133_63 {x y : Int} : Ev X 133 63 ls (vi y :: vi x :: st) h Q ↔ (if y ≤ x then Ev X 133 68 ls st h Q else Ev X 133 64 ls st h Q) := R_icge rfl
theorem e_133_64 : Ev X 133 64 ls st h Q ↔ onI (gl ls 9) (fun z => Ev X 133 65 ls (vi z :: st) h Q) := R_il rfl (Or.inr rfl)
theorem e_133_65 {x : Int} : Ev X 133 65 ls (vi x :: st) h Q ↔ (stOK ls 5 = true ∧ Ev X 133 66 (ls.set 5 (some (vi x))) st h Q) := R_is rfl (Or.inr rfl)
theorem e_133_66 : Ev X 133 66 ls st h Q ↔ onI (gl ls 8) (fun z => Ev X 133 67 ls (vi z :: st) h Q) := R_il rfl (Or.inr rfl)
theorem e_133_67 {x : Int} : Ev X 133 67 ls (vi x :: st) h Q ↔ (stOK ls 6 = true ∧ Ev X 133 68 (ls.set 6 (some (vi x))) st h Q) := R_is rfl (Or.inr rfl)
theorem e_133_68 : Ev X 133 68 ls st h Q ↔ onI (gl ls 9) (fun z => Ev X 133 69 ls (vi z :: st) h Q) := R_il rfl (Or.inr rfl)
theorem e_133_69 : Ev X 133 69 ls st h Q ↔ onI (gl ls 5) (fun z => Ev X 133 70 ls (vi z :: st) h Q) := R_il rfl (Or.inr rfl)
theorem e_133_70 {x y : Int} : Ev X 133 70 ls (vi y :: vi x :: st) h Q ↔ (if ¬ x = y then Ev X 133 73 ls st h Q else Ev X 133 71 ls st h Q) := R_icne rfl
theorem e_133_71 : Ev X 133 71 ls st h Q ↔ onI (gl ls 8) (fun z => Ev X 133 72 ls (vi z :: st) h Q) := R_il rfl (Or.inr rfl)
theorem e_133_72 {x : Int} : Ev X 133 72 ls (vi x :: st) h Q ↔ (stOK ls 7 = true ∧ Ev X 133 73 (ls.set 7 (some (vi x))) st h Q) := R_is rfl (Or.inr rfl)
theorem e_133_73 : Ev X 133 73 ls st h Q ↔ onI (gl ls 8) (fun x => (stOK ls 8 = true ∧ inR (x + 1)) ∧ Ev X 133 74 (ls.set 8 (some (vi (x + 1)))) st h Q) := R_inc rfl
theorem e_133_74 : Ev X 133 74 ls st h Q ↔ Ev X 133 43 ls st h Q := R_go rfl
theorem e_133_75 : Ev X 133 75 ls st h Q ↔ onI (gl ls 2) (fun z => Ev X 133 76 ls (vi z :: st) h Q) := R_il rfl (Or.inl rfl)
theorem e_133_76 {x : Int} : Ev X 133 76 ls (vi x :: st) h Q ↔ (if ¬ x = 0 then Ev X 133 79 ls st h Q else Ev X 133 77 ls st h Q) := R_ifne rfl
theorem e_133_77 : Ev X 133 77 ls st h Q ↔ onI (gl ls 6) (fun z => Ev X 133 78 ls (vi z :: st) h Q) := R_il rfl (Or.inr rfl)
theorem e_133_78 {z : Int} : Ev X 133 78 ls [vi z] h Q ↔ Q (some (vi z)) h := R_ir rfl
theorem e_133_79 : Ev X 133 79 ls st h Q ↔ onI (gl ls 2) (fun z => Ev X 133 80 ls (vi z :: st) h Q) := R_il rfl (Or.inl rfl)
theorem e_133_80 : Ev X 133 80 ls st h Q ↔ Ev X 133 81 ls (vi 1 :: st) h Q := R_kc rfl (Or.inl ⟨Or.inl rfl, by decide⟩)
theorem e_133_81 {x y : Int} : Ev X 133 81 ls (vi y :: vi x :: st) h Q ↔ (if ¬ x = y then Ev X 133 84 ls st h Q else Ev X 133 82 ls st h Q) := R_icne rfl
theorem e_133_82 : Ev X 133 82 ls st h Q ↔ onI (gl ls 7) (fun z => Ev X 133 83 ls (vi z :: st) h Q) := R_il rfl (Or.inr rfl)
theorem e_133_83 : Ev X 133 83 ls st h Q ↔ Ev X 133 98 ls st h Q := R_go rfl
theorem e_133_84 : Ev X 133 84 ls st h Q ↔ onR (gl ls 0) (fun z => Ev X 133 85 ls (vr z :: st) h Q) := R_al rfl (Or.inl rfl)
theorem e_133_85 {x : Nat} : Ev X 133 85 ls (vr x :: st) h Q ↔ (X.1 x = 11 ∧ Ev X 133 86 ls (vr (X.2.2.1 x 9) :: st) h Q) := R_gr rfl
theorem e_133_86 : Ev X 133 86 ls st h Q ↔ onR (gl ls 0) (fun z => Ev X 133 87 ls (vr z :: st) h Q) := R_al rfl (Or.inl rfl)
theorem e_133_87 {x : Nat} : Ev X 133 87 ls (vr x :: st) h Q ↔ (X.1 x = 11 ∧ Ev X 133 88 ls (vr (X.2.2.1 x 5) :: st) h Q) := R_gr rfl
theorem e_133_88 {rest : List xV} {a0 : Nat} {o : Nat} : Ev X 133 88 ls ((vr a0) :: vr o :: rest) h Q ↔ ((X.1 o = 10 ∧ wd rest ≤ 8) ∧ Cl X 92 [vr o, vr a0] h (fun r h2 => Ev X 133 89 ls (r.toList ++ rest) h2 Q)) := R_cv (x := o) (as := [vr a0]) (k2 := 92) rfl rfl (Nat.le_of_ble_eq_true rfl)
theorem e_133_89 : Ev X 133 89 ls st h Q ↔ onR (gl ls 0) (fun z => Ev X 133 90 ls (vr z :: st) h Q) := R_al rfl (Or.inl rfl)
theorem e_133_90 {x : Nat} : Ev X 133 90 ls (vr x :: st) h Q ↔ (X.1 x = 11 ∧ Ev X 133 91 ls (vr (X.2.2.1 x 9) :: st) h Q) := R_gr rfl
theorem e_133_91 : Ev X 133 91 ls st h Q ↔ onR (gl ls 0) (fun z => Ev X 133 92 ls (vr z :: st) h Q) := R_al rfl (Or.inl rfl)
theorem e_133_92 {x : Nat} : Ev X 133 92 ls (vr x :: st) h Q ↔ (X.1 x = 11 ∧ Ev X 133 93 ls (vr (X.2.2.1 x 5) :: st) h Q) := R_gr rfl
theorem e_133_93 : Ev X 133 93 ls st h Q ↔ onI (gl ls 1) (fun z => Ev X 133 94 ls (vi z :: st) h Q) := R_il rfl (Or.inl rfl)
theorem e_133_94 {rest : List xV} {a0 : Nat} {a1 : Int} {o : Nat} : Ev X 133 94 ls ((vi a1) :: (vr a0) :: vr o :: rest) h Q ↔ ((X.1 o = 10 ∧ wd rest ≤ 8) ∧ Cl X 95 [vr o, vr a0, vi a1] h (fun r h2 => Ev X 133 95 ls (r.toList ++ rest) h2 Q)) := R_cv (x := o) (as := [vr a0, vi a1]) (k2 := 95) rfl rfl (Nat.le_of_ble_eq_true rfl)
theorem e_133_95 {x y : Int} : Ev X 133 95 ls (vi y :: vi x :: st) h Q ↔ ((inR (x - y)) ∧ Ev X 133 96 ls (vi (x - y) :: st) h Q) := R_sub rfl
theorem e_133_96 : Ev X 133 96 ls st h Q ↔ onI (gl ls 5) (fun z => Ev X 133 97 ls (vi z :: st) h Q) := R_il rfl (Or.inr rfl)
theorem e_133_97 {x y : Int} : Ev X 133 97 ls (vi y :: vi x :: st) h Q ↔ ((inR (x + y)) ∧ Ev X 133 98 ls (vi (x + y) :: st) h Q) := R_add rfl
theorem e_133_98 {z : Int} : Ev X 133 98 ls [vi z] h Q ↔ Q (some (vi z)) h := R_ir rfl
-- 134: CellRows.lawfully(I)I
theorem e_134_0 : Ev X 134 0 ls st h Q ↔ onI (gl ls 1) (fun z => Ev X 134 1 ls (vi z :: st) h Q) := R_il rfl (Or.inl rfl)
theorem e_134_1 {x : Int} : Ev X 134 1 ls (vi x :: st) h Q ↔ (if x = 0 then Ev X 134 7 ls st h Q else Ev X 134 2 ls st h Q) := R_ifeq rfl
theorem e_134_2 : Ev X 134 2 ls st h Q ↔ onI (gl ls 1) (fun z => Ev X 134 3 ls (vi z :: st) h Q) := R_il rfl (Or.inl rfl)
theorem e_134_3 : Ev X 134 3 ls st h Q ↔ Ev X 134 4 ls (vi 1 :: st) h Q := R_kc rfl (Or.inl ⟨Or.inl rfl, by decide⟩)
theorem e_134_4 {x y : Int} : Ev X 134 4 ls (vi y :: vi x :: st) h Q ↔ (if x = y then Ev X 134 7 ls st h Q else Ev X 134 5 ls st h Q) := R_iceq rfl
theorem e_134_5 : Ev X 134 5 ls st h Q ↔ Ev X 134 6 ls (vi (-1) :: st) h Q := R_kc rfl (Or.inl ⟨Or.inl rfl, by decide⟩)
theorem e_134_6 {z : Int} : Ev X 134 6 ls [vi z] h Q ↔ Q (some (vi z)) h := R_ir rfl
theorem e_134_7 : Ev X 134 7 ls st h Q ↔ onR (gl ls 0) (fun z => Ev X 134 8 ls (vr z :: st) h Q) := R_al rfl (Or.inl rfl)
theorem e_134_8 {x : Nat} : Ev X 134 8 ls (vr x :: st) h Q ↔ (X.1 x = 11 ∧ Ev X 134 9 ls (vr (X.2.2.1 x 6) :: st) h Q) := R_gr rfl
theorem e_134_9 : Ev X 134 9 ls st h Q ↔ onR (gl ls 0) (fun z => Ev X 134 10 ls (vr z :: st) h Q) := R_al rfl (Or.inl rfl)
theorem e_134_10 {x : Nat} : Ev X 134 10 ls (vr x :: st) h Q ↔ (X.1 x = 11 ∧ Ev X 134 11 ls (vr (X.2.2.1 x 5) :: st) h Q) := R_gr rfl
theorem e_134_11 {rest : List xV} {a0 : Nat} {o : Nat} : Ev X 134 11 ls ((vr a0) :: vr o :: rest) h Q ↔ ((X.1 o = 9 ∧ wd rest ≤ 8) ∧ Cl X 74 [vr o, vr a0] h (fun r h2 => Ev X 134 12 ls (r.toList ++ rest) h2 Q)) := R_cv (x := o) (as := [vr a0]) (k2 := 74) rfl rfl (Nat.le_of_ble_eq_true rfl)
theorem e_134_12 : Ev X 134 12 ls st h Q ↔ onR (gl ls 0) (fun z => Ev X 134 13 ls (vr z :: st) h Q) := R_al rfl (Or.inl rfl)
theorem e_134_13 {x : Nat} : Ev X 134 13 ls (vr x :: st) h Q ↔ (X.1 x = 11 ∧ Ev X 134 14 ls (vr (X.2.2.1 x 12) :: st) h Q) := R_gr rfl
theorem e_134_14 : Ev X 134 14 ls st h Q ↔ onR (gl ls 0) (fun z => Ev X 134 15 ls (vr z :: st) h Q) := R_al rfl (Or.inl rfl)
theorem e_134_15 {x : Nat} : Ev X 134 15 ls (vr x :: st) h Q ↔ (X.1 x = 11 ∧ Ev X 134 16 ls (vr (X.2.2.1 x 6) :: st) h Q) := R_gr rfl
theorem e_134_16 {rest : List xV} {a0 : Nat} {o : Nat} : Ev X 134 16 ls ((vr a0) :: vr o :: rest) h Q ↔ ((X.1 o = 7 ∧ wd rest ≤ 8) ∧ Cl X 50 [vr o, vr a0] h (fun r h2 => Ev X 134 17 ls (r.toList ++ rest) h2 Q)) := R_cv (x := o) (as := [vr a0]) (k2 := 50) rfl rfl (Nat.le_of_ble_eq_true rfl)
theorem e_134_17 {x : Int} : Ev X 134 17 ls (vi x :: st) h Q ↔ (if ¬ x = 0 then Ev X 134 24 ls st h Q else Ev X 134 18 ls st h Q) := R_ifne rfl
theorem e_134_18 : Ev X 134 18 ls st h Q ↔ onI (gl ls 1) (fun z => Ev X 134 19 ls (vi z :: st) h Q) := R_il rfl (Or.inl rfl)
theorem e_134_19 {x : Int} : Ev X 134 19 ls (vi x :: st) h Q ↔ (if ¬ x = 0 then Ev X 134 22 ls st h Q else Ev X 134 20 ls st h Q) := R_ifne rfl
theorem e_134_20 : Ev X 134 20 ls st h Q ↔ Ev X 134 21 ls (vi (-5) :: st) h Q := R_kc rfl (Or.inr (Or.inl ⟨rfl, by decide⟩))
theorem e_134_21 : Ev X 134 21 ls st h Q ↔ Ev X 134 23 ls st h Q := R_go rfl
theorem e_134_22 : Ev X 134 22 ls st h Q ↔ Ev X 134 23 ls (vi (-1) :: st) h Q := R_kc rfl (Or.inl ⟨Or.inl rfl, by decide⟩)
theorem e_134_23 {z : Int} : Ev X 134 23 ls [vi z] h Q ↔ Q (some (vi z)) h := R_ir rfl
theorem e_134_24 : Ev X 134 24 ls st h Q ↔ onI (gl ls 1) (fun z => Ev X 134 25 ls (vi z :: st) h Q) := R_il rfl (Or.inl rfl)
theorem e_134_25 {x : Int} : Ev X 134 25 ls (vi x :: st) h Q ↔ (if ¬ x = 0 then Ev X 134 32 ls st h Q else Ev X 134 26 ls st h Q) := R_ifne rfl
theorem e_134_26 : Ev X 134 26 ls st h Q ↔ onR (gl ls 0) (fun z => Ev X 134 27 ls (vr z :: st) h Q) := R_al rfl (Or.inl rfl)
theorem e_134_27 : Ev X 134 27 ls st h Q ↔ onR (gl ls 0) (fun z => Ev X 134 28 ls (vr z :: st) h Q) := R_al rfl (Or.inl rfl)
theorem e_134_28 {x : Nat} : Ev X 134 28 ls (vr x :: st) h Q ↔ (X.1 x = 11 ∧ Ev X 134 29 ls (vr (X.2.2.1 x 6) :: st) h Q) := R_gr rfl
theorem e_134_29 {x : Nat} : Ev X 134 29 ls (vr x :: st) h Q ↔ (X.1 x = 9 ∧ Ev X 134 30 ls (vr (X.2.2.1 x 4) :: st) h Q) := R_gr rfl
theorem e_134_30 {rest : List xV} {a0 : Nat} {o : Nat} : Ev X 134 30 ls ((vr a0) :: vr o :: rest) h Q ↔ ((X.1 o = 11 ∧ wd rest ≤ 8) ∧ Cl X 147 [vr o, vr a0] h (fun r h2 => Ev X 134 31 ls (r.toList ++ rest) h2 Q)) := R_cv (x := o) (as := [vr a0]) (k2 := 147) rfl rfl (Nat.le_of_ble_eq_true rfl)
theorem e_134_31 : Ev X 134 31 ls st h Q ↔ Ev X 134 37 ls st h Q := R_go rfl
theorem e_134_32 : Ev X 134 32 ls st h Q ↔ onR (gl ls 0) (fun z => Ev X 134 33 ls (vr z :: st) h Q) := R_al rfl (Or.inl rfl)
theorem e_134_33 {x : Nat} : Ev X 134 33 ls (vr x :: st) h Q ↔ (X.1 x = 11 ∧ Ev X 134 34 ls (vr (X.2.2.1 x 9) :: st) h Q) := R_gr rfl
theorem e_134_34 : Ev X 134 34 ls st h Q ↔ onR (gl ls 0) (fun z => Ev X 134 35 ls (vr z :: st) h Q) := R_al rfl (Or.inl rfl)
theorem e_134_35 {x : Nat} : Ev X 134 35 ls (vr x :: st) h Q ↔ (X.1 x = 11 ∧ Ev X 134 36 ls (vr (X.2.2.1 x 6) :: st) h Q) := R_gr rfl
theorem e_134_36 {rest : List xV} {a0 : Nat} {o : Nat} : Ev X 134 36 ls ((vr a0) :: vr o :: rest) h Q ↔ ((X.1 o = 10 ∧ wd rest ≤ 8) ∧ Cl X 92 [vr o, vr a0] h (fun r h2 => Ev X 134 37 ls (r.toList ++ rest) h2 Q)) := R_cv (x := o) (as := [vr a0]) (k2 := 92) rfl rfl (Nat.le_of_ble_eq_true rfl)
theorem e_134_37 {z : Int} : Ev X 134 37 ls [vi z] h Q ↔ Q (some (vi z)) h := R_ir rfl
-- 135: CellRows.fillers(I)I
theorem e_135_0 : Ev X 135 0 ls st h Q ↔ onI (gl ls 1) (fun z => Ev X 135 1 ls (vi z :: st) h Q) := R_il rfl (Or.inl rfl)
theorem e_135_1 : Ev X 135 1 ls st h Q ↔ Ev X 135 2 ls (vi 1 :: st) h Q := R_kc rfl (Or.inl ⟨Or.inl rfl, by decide⟩)
theorem e_135_2 {x y : Int} : Ev X 135 2 ls (vi y :: vi x :: st) h Q ↔ (if x = y then Ev X 135 11 ls st h Q else Ev X 135 3 ls st h Q) := R_iceq rfl
theorem e_135_3 : Ev X 135 3 ls st h Q ↔ onI (gl ls 1) (fun z => Ev X 135 4 ls (vi z :: st) h Q) := R_il rfl (Or.inl rfl)
theorem e_135_4 : Ev X 135 4 ls st h Q ↔ Ev X 135 5 ls (vi 2 :: st) h Q := R_kc rfl (Or.inl ⟨Or.inl rfl, by decide⟩)
theorem e_135_5 {x y : Int} : Ev X 135 5 ls (vi y :: vi x :: st) h Q ↔ (if x = y then Ev X 135 11 ls st h Q else Ev X 135 6 ls st h Q) := R_iceq rfl
theorem e_135_6 : Ev X 135 6 ls st h Q ↔ onI (gl ls 1) (fun z => Ev X 135 7 ls (vi z :: st) h Q) := R_il rfl (Or.inl rfl)
theorem e_135_7 : Ev X 135 7 ls st h Q ↔ Ev X 135 8 ls (vi 4 :: st) h Q := R_kc rfl (Or.inl ⟨Or.inl rfl, by decide⟩)
theorem e_135_8 {x y : Int} : Ev X 135 8 ls (vi y :: vi x :: st) h Q ↔ (if x = y then Ev X 135 11 ls st h Q else Ev X 135 9 ls st h Q) := R_iceq rfl
theorem e_135_9 : Ev X 135 9 ls st h Q ↔ Ev X 135 10 ls (vi (-1) :: st) h Q := R_kc rfl (Or.inl ⟨Or.inl rfl, by decide⟩)
theorem e_135_10 {z : Int} : Ev X 135 10 ls [vi z] h Q ↔ Q (some (vi z)) h := R_ir rfl
theorem e_135_11 : Ev X 135 11 ls st h Q ↔ onR (gl ls 0) (fun z => Ev X 135 12 ls (vr z :: st) h Q) := R_al rfl (Or.inl rfl)
theorem e_135_12 {x : Nat} : Ev X 135 12 ls (vr x :: st) h Q ↔ (X.1 x = 11 ∧ Ev X 135 13 ls (vr (X.2.2.1 x 8) :: st) h Q) := R_gr rfl
theorem e_135_13 : Ev X 135 13 ls st h Q ↔ onR (gl ls 0) (fun z => Ev X 135 14 ls (vr z :: st) h Q) := R_al rfl (Or.inl rfl)
theorem e_135_14 {x : Nat} : Ev X 135 14 ls (vr x :: st) h Q ↔ (X.1 x = 11 ∧ Ev X 135 15 ls (vr (X.2.2.1 x 5) :: st) h Q) := R_gr rfl
theorem e_135_15 {rest : List xV} {a0 : Nat} {o : Nat} : Ev X 135 15 ls ((vr a0) :: vr o :: rest) h Q ↔ ((X.1 o = 4 ∧ wd rest ≤ 8) ∧ Cl X 32 [vr o, vr a0] h (fun r h2 => Ev X 135 16 ls (r.toList ++ rest) h2 Q)) := R_cv (x := o) (as := [vr a0]) (k2 := 32) rfl rfl (Nat.le_of_ble_eq_true rfl)
theorem e_135_16 : Ev X 135 16 ls st h Q ↔ onR (gl ls 0) (fun z => Ev X 135 17 ls (vr z :: st) h Q) := R_al rfl (Or.inl rfl)
theorem e_135_17 {x : Nat} : Ev X 135 17 ls (vr x :: st) h Q ↔ (X.1 x = 11 ∧ Ev X 135 18 ls (vr (X.2.2.1 x 8) :: st) h Q) := R_gr rfl
theorem e_135_18 : Ev X 135 18 ls st h Q ↔ onR (gl ls 0) (fun z => Ev X 135 19 ls (vr z :: st) h Q) := R_al rfl (Or.inl rfl)
theorem e_135_19 {x : Nat} : Ev X 135 19 ls (vr x :: st) h Q ↔ (X.1 x = 11 ∧ Ev X 135 20 ls (vr (X.2.2.1 x 5) :: st) h Q) := R_gr rfl
theorem e_135_20 {x : Nat} : Ev X 135 20 ls (vr x :: st) h Q ↔ (X.1 x = 9 ∧ Ev X 135 21 ls (vr (X.2.2.1 x 3) :: st) h Q) := R_gr rfl
theorem e_135_21 {x : Nat} : Ev X 135 21 ls (vr x :: st) h Q ↔ (X.1 x = 2 ∧ Ev X 135 22 ls (vi (h.2 x 0) :: st) h Q) := R_gi rfl
theorem e_135_22 {rest : List xV} {a0 : Int} {o : Nat} : Ev X 135 22 ls ((vi a0) :: vr o :: rest) h Q ↔ ((X.1 o = 4 ∧ wd rest ≤ 8) ∧ Cl X 37 [vr o, vi a0] h (fun r h2 => Ev X 135 23 ls (r.toList ++ rest) h2 Q)) := R_cv (x := o) (as := [vi a0]) (k2 := 37) rfl rfl (Nat.le_of_ble_eq_true rfl)
theorem e_135_23 : Ev X 135 23 ls st h Q ↔ Ev X 135 24 ls (vi 0 :: st) h Q := R_kc rfl (Or.inl ⟨Or.inl rfl, by decide⟩)
theorem e_135_24 {x : Int} : Ev X 135 24 ls (vi x :: st) h Q ↔ (stOK ls 2 = true ∧ Ev X 135 25 (ls.set 2 (some (vi x))) st h Q) := R_is rfl (Or.inl rfl)
theorem e_135_25 : Ev X 135 25 ls st h Q ↔ Ev X 135 26 ls (vi 0 :: st) h Q := R_kc rfl (Or.inl ⟨Or.inl rfl, by decide⟩)
theorem e_135_26 {x : Int} : Ev X 135 26 ls (vi x :: st) h Q ↔ (stOK ls 3 = true ∧ Ev X 135 27 (ls.set 3 (some (vi x))) st h Q) := R_is rfl (Or.inl rfl)
theorem e_135_27 : Ev X 135 27 ls st h Q ↔ onI (gl ls 3) (fun z => Ev X 135 28 ls (vi z :: st) h Q) := R_il rfl (Or.inl rfl)
theorem e_135_28 : Ev X 135 28 ls st h Q ↔ onR (gl ls 0) (fun z => Ev X 135 29 ls (vr z :: st) h Q) := R_al rfl (Or.inl rfl)
theorem e_135_29 {x : Nat} : Ev X 135 29 ls (vr x :: st) h Q ↔ (X.1 x = 11 ∧ Ev X 135 30 ls (vr (X.2.2.1 x 8) :: st) h Q) := R_gr rfl
theorem e_135_30 {x : Nat} : Ev X 135 30 ls (vr x :: st) h Q ↔ (X.1 x = 4 ∧ Ev X 135 31 ls (vi (h.2 x 3) :: st) h Q) := R_gi rfl
theorem e_135_31 {x y : Int} : Ev X 135 31 ls (vi y :: vi x :: st) h Q ↔ (if y ≤ x then Ev X 135 106 ls st h Q else Ev X 135 32 ls st h Q) := R_icge rfl
theorem e_135_32 : Ev X 135 32 ls st h Q ↔ onR (gl ls 0) (fun z => Ev X 135 33 ls (vr z :: st) h Q) := R_al rfl (Or.inl rfl)
theorem e_135_33 {x : Nat} : Ev X 135 33 ls (vr x :: st) h Q ↔ (X.1 x = 11 ∧ Ev X 135 34 ls (vr (X.2.2.1 x 8) :: st) h Q) := R_gr rfl
theorem e_135_34 : Ev X 135 34 ls st h Q ↔ onI (gl ls 3) (fun z => Ev X 135 35 ls (vi z :: st) h Q) := R_il rfl (Or.inl rfl)
theorem e_135_35 : Ev X 135 35 ls st h Q ↔ onR (gl ls 0) (fun z => Ev X 135 36 ls (vr z :: st) h Q) := R_al rfl (Or.inl rfl)
theorem e_135_36 {x : Nat} : Ev X 135 36 ls (vr x :: st) h Q ↔ (X.1 x = 11 ∧ Ev X 135 37 ls (vr (X.2.2.1 x 5) :: st) h Q) := R_gr rfl
theorem e_135_37 {x : Nat} : Ev X 135 37 ls (vr x :: st) h Q ↔ (X.1 x = 9 ∧ Ev X 135 38 ls (vr (X.2.2.1 x 4) :: st) h Q) := R_gr rfl
theorem e_135_38 {rest : List xV} {a0 : Int} {a1 : Nat} {o : Nat} : Ev X 135 38 ls ((vr a1) :: (vi a0) :: vr o :: rest) h Q ↔ ((X.1 o = 4 ∧ wd rest ≤ 8) ∧ Cl X 39 [vr o, vi a0, vr a1] h (fun r h2 => Ev X 135 39 ls (r.toList ++ rest) h2 Q)) := R_cv (x := o) (as := [vi a0, vr a1]) (k2 := 39) rfl rfl (Nat.le_of_ble_eq_true rfl)
theorem e_135_39 {x : Int} : Ev X 135 39 ls (vi x :: st) h Q ↔ (stOK ls 4 = true ∧ Ev X 135 40 (ls.set 4 (some (vi x))) st h Q) := R_is rfl (Or.inr rfl)
theorem e_135_40 : Ev X 135 40 ls st h Q ↔ onR (gl ls 0) (fun z => Ev X 135 41 ls (vr z :: st) h Q) := R_al rfl (Or.inl rfl)
theorem e_135_41 {x : Nat} : Ev X 135 41 ls (vr x :: st) h Q ↔ (X.1 x = 11 ∧ Ev X 135 42 ls (vr (X.2.2.1 x 8) :: st) h Q) := R_gr rfl
theorem e_135_42 {x : Nat} : Ev X 135 42 ls (vr x :: st) h Q ↔ (X.1 x = 4 ∧ Ev X 135 43 ls (vr (X.2.2.1 x 6) :: st) h Q) := R_gr rfl
theorem e_135_43 : Ev X 135 43 ls st h Q ↔ onI (gl ls 3) (fun z => Ev X 135 44 ls (vi z :: st) h Q) := R_il rfl (Or.inl rfl)
theorem e_135_44 {x : Nat} {j : Int} : Ev X 135 44 ls (vi j :: vr x :: st) h Q ↔ (((X.1 x = 13 ∨ X.1 x = 20) ∧ 0 ≤ j ∧ j < X.2.1 x) ∧ Ev X 135 45 ls (vi (h.1 x j.toNat) :: st) h Q) := R_ia rfl
theorem e_135_45 {x : Int} : Ev X 135 45 ls (vi x :: st) h Q ↔ (stOK ls 5 = true ∧ Ev X 135 46 (ls.set 5 (some (vi x))) st h Q) := R_is rfl (Or.inr rfl)
theorem e_135_46 : Ev X 135 46 ls st h Q ↔ Ev X 135 47 ls (vi 0 :: st) h Q := R_kc rfl (Or.inl ⟨Or.inl rfl, by decide⟩)
theorem e_135_47 {x : Int} : Ev X 135 47 ls (vi x :: st) h Q ↔ (stOK ls 6 = true ∧ Ev X 135 48 (ls.set 6 (some (vi x))) st h Q) := R_is rfl (Or.inr rfl)
theorem e_135_48 : Ev X 135 48 ls st h Q ↔ onI (gl ls 6) (fun z => Ev X 135 49 ls (vi z :: st) h Q) := R_il rfl (Or.inr rfl)
theorem e_135_49 : Ev X 135 49 ls st h Q ↔ onI (gl ls 4) (fun z => Ev X 135 50 ls (vi z :: st) h Q) := R_il rfl (Or.inr rfl)
theorem e_135_50 {x y : Int} : Ev X 135 50 ls (vi y :: vi x :: st) h Q ↔ (if y ≤ x then Ev X 135 86 ls st h Q else Ev X 135 51 ls st h Q) := R_icge rfl
theorem e_135_51 : Ev X 135 51 ls st h Q ↔ onR (gl ls 0) (fun z => Ev X 135 52 ls (vr z :: st) h Q) := R_al rfl (Or.inl rfl)
theorem e_135_52 {x : Nat} : Ev X 135 52 ls (vr x :: st) h Q ↔ (X.1 x = 11 ∧ Ev X 135 53 ls (vr (X.2.2.1 x 8) :: st) h Q) := R_gr rfl
theorem e_135_53 {x : Nat} : Ev X 135 53 ls (vr x :: st) h Q ↔ (X.1 x = 4 ∧ Ev X 135 54 ls (vr (X.2.2.1 x 8) :: st) h Q) := R_gr rfl
theorem e_135_54 : Ev X 135 54 ls st h Q ↔ onI (gl ls 6) (fun z => Ev X 135 55 ls (vi z :: st) h Q) := R_il rfl (Or.inr rfl)
theorem e_135_55 {x : Nat} {j : Int} : Ev X 135 55 ls (vi j :: vr x :: st) h Q ↔ (((X.1 x = 13 ∨ X.1 x = 20) ∧ 0 ≤ j ∧ j < X.2.1 x) ∧ Ev X 135 56 ls (vi (h.1 x j.toNat) :: st) h Q) := R_ia rfl
theorem e_135_56 {x : Int} : Ev X 135 56 ls (vi x :: st) h Q ↔ (stOK ls 7 = true ∧ Ev X 135 57 (ls.set 7 (some (vi x))) st h Q) := R_is rfl (Or.inr rfl)
theorem e_135_57 : Ev X 135 57 ls st h Q ↔ onI (gl ls 2) (fun z => Ev X 135 58 ls (vi z :: st) h Q) := R_il rfl (Or.inl rfl)
theorem e_135_58 : Ev X 135 58 ls st h Q ↔ onR (gl ls 0) (fun z => Ev X 135 59 ls (vr z :: st) h Q) := R_al rfl (Or.inl rfl)
theorem e_135_59 {x : Nat} : Ev X 135 59 ls (vr x :: st) h Q ↔ (X.1 x = 11 ∧ Ev X 135 60 ls (vr (X.2.2.1 x 5) :: st) h Q) := R_gr rfl
theorem e_135_60 {x : Nat} : Ev X 135 60 ls (vr x :: st) h Q ↔ (X.1 x = 9 ∧ Ev X 135 61 ls (vr (X.2.2.1 x 4) :: st) h Q) := R_gr rfl
theorem e_135_61 {x : Nat} : Ev X 135 61 ls (vr x :: st) h Q ↔ (X.1 x = 3 ∧ Ev X 135 62 ls (vr (X.2.2.1 x 7) :: st) h Q) := R_gr rfl
theorem e_135_62 : Ev X 135 62 ls st h Q ↔ onI (gl ls 7) (fun z => Ev X 135 63 ls (vi z :: st) h Q) := R_il rfl (Or.inr rfl)
theorem e_135_63 {x : Nat} {j : Int} : Ev X 135 63 ls (vi j :: vr x :: st) h Q ↔ (((X.1 x = 13 ∨ X.1 x = 20) ∧ 0 ≤ j ∧ j < X.2.1 x) ∧ Ev X 135 64 ls (vi (h.1 x j.toNat) :: st) h Q) := R_ia rfl
theorem e_135_64 : Ev X 135 64 ls st h Q ↔ onI (gl ls 5) (fun z => Ev X 135 65 ls (vi z :: st) h Q) := R_il rfl (Or.inr rfl)
theorem e_135_65 {x y : Int} : Ev X 135 65 ls (vi y :: vi x :: st) h Q ↔ ((inR (x - y)) ∧ Ev X 135 66 ls (vi (x - y) :: st) h Q) := R_sub rfl
theorem e_135_66 : Ev X 135 66 ls st h Q ↔ onI (gl ls 1) (fun z => Ev X 135 67 ls (vi z :: st) h Q) := R_il rfl (Or.inl rfl)
theorem e_135_67 {rest : List xV} {a0 : Int} {a1 : Int} : Ev X 135 67 ls ((vi a1) :: (vi a0) :: rest) h Q ↔ (wd rest ≤ 8 ∧ Cl X 148 [vi a0, vi a1] h (fun r h2 => Ev X 135 68 ls (r.toList ++ rest) h2 Q)) := R_cs (as := [vi a0, vi a1]) (k2 := 148) rfl rfl (Nat.le_of_ble_eq_true rfl)
theorem e_135_68 {x y : Int} : Ev X 135 68 ls (vi y :: vi x :: st) h Q ↔ ((inR (x + y)) ∧ Ev X 135 69 ls (vi (x + y) :: st) h Q) := R_add rfl
theorem e_135_69 {x : Int} : Ev X 135 69 ls (vi x :: st) h Q ↔ (stOK ls 2 = true ∧ Ev X 135 70 (ls.set 2 (some (vi x))) st h Q) := R_is rfl (Or.inl rfl)
theorem e_135_70 : Ev X 135 70 ls st h Q ↔ onR (gl ls 0) (fun z => Ev X 135 71 ls (vr z :: st) h Q) := R_al rfl (Or.inl rfl)
theorem e_135_71 {x : Nat} : Ev X 135 71 ls (vr x :: st) h Q ↔ (X.1 x = 11 ∧ Ev X 135 72 ls (vr (X.2.2.1 x 5) :: st) h Q) := R_gr rfl
theorem e_135_72 {x : Nat} : Ev X 135 72 ls (vr x :: st) h Q ↔ (X.1 x = 9 ∧ Ev X 135 73 ls (vr (X.2.2.1 x 4) :: st) h Q) := R_gr rfl
theorem e_135_73 {x : Nat} : Ev X 135 73 ls (vr x :: st) h Q ↔ (X.1 x = 3 ∧ Ev X 135 74 ls (vr (X.2.2.1 x 7) :: st) h Q) := R_gr rfl
theorem e_135_74 : Ev X 135 74 ls st h Q ↔ onI (gl ls 7) (fun z => Ev X 135 75 ls (vi z :: st) h Q) := R_il rfl (Or.inr rfl)
theorem e_135_75 {x : Nat} {j : Int} : Ev X 135 75 ls (vi j :: vr x :: st) h Q ↔ (((X.1 x = 13 ∨ X.1 x = 20) ∧ 0 ≤ j ∧ j < X.2.1 x) ∧ Ev X 135 76 ls (vi (h.1 x j.toNat) :: st) h Q) := R_ia rfl
theorem e_135_76 : Ev X 135 76 ls st h Q ↔ onR (gl ls 0) (fun z => Ev X 135 77 ls (vr z :: st) h Q) := R_al rfl (Or.inl rfl)
theorem e_135_77 {x : Nat} : Ev X 135 77 ls (vr x :: st) h Q ↔ (X.1 x = 11 ∧ Ev X 135 78 ls (vr (X.2.2.1 x 5) :: st) h Q) := R_gr rfl
theorem e_135_78 {x : Nat} : Ev X 135 78 ls (vr x :: st) h Q ↔ (X.1 x = 9 ∧ Ev X 135 79 ls (vr (X.2.2.1 x 4) :: st) h Q) := R_gr rfl
theorem e_135_79 {x : Nat} : Ev X 135 79 ls (vr x :: st) h Q ↔ (X.1 x = 3 ∧ Ev X 135 80 ls (vr (X.2.2.1 x 1) :: st) h Q) := R_gr rfl
theorem e_135_80 : Ev X 135 80 ls st h Q ↔ onI (gl ls 7) (fun z => Ev X 135 81 ls (vi z :: st) h Q) := R_il rfl (Or.inr rfl)
theorem e_135_81 {x : Nat} {j : Int} : Ev X 135 81 ls (vi j :: vr x :: st) h Q ↔ (((X.1 x = 13 ∨ X.1 x = 20) ∧ 0 ≤ j ∧ j < X.2.1 x) ∧ Ev X 135 82 ls (vi (h.1 x j.toNat) :: st) h Q) := R_ia rfl
theorem e_135_82 {x y : Int} : Ev X 135 82 ls (vi y :: vi x :: st) h Q ↔ ((inR (x + y)) ∧ Ev X 135 83 ls (vi (x + y) :: st) h Q) := R_add rfl
theorem e_135_83 {x : Int} : Ev X 135 83 ls (vi x :: st) h Q ↔ (stOK ls 5 = true ∧ Ev X 135 84 (ls.set 5 (some (vi x))) st h Q) := R_is rfl (Or.inr rfl)
theorem e_135_84 : Ev X 135 84 ls st h Q ↔ onI (gl ls 6) (fun x => (stOK ls 6 = true ∧ inR (x + 1)) ∧ Ev X 135 85 (ls.set 6 (some (vi (x + 1)))) st h Q) := R_inc rfl
theorem e_135_85 : Ev X 135 85 ls st h Q ↔ Ev X 135 48 ls st h Q := R_go rfl
theorem e_135_86 : Ev X 135 86 ls st h Q ↔ onI (gl ls 2) (fun z => Ev X 135 87 ls (vi z :: st) h Q) := R_il rfl (Or.inl rfl)
theorem e_135_87 : Ev X 135 87 ls st h Q ↔ onR (gl ls 0) (fun z => Ev X 135 88 ls (vr z :: st) h Q) := R_al rfl (Or.inl rfl)
theorem e_135_88 {x : Nat} : Ev X 135 88 ls (vr x :: st) h Q ↔ (X.1 x = 11 ∧ Ev X 135 89 ls (vr (X.2.2.1 x 8) :: st) h Q) := R_gr rfl
theorem e_135_89 {x : Nat} : Ev X 135 89 ls (vr x :: st) h Q ↔ (X.1 x = 4 ∧ Ev X 135 90 ls (vr (X.2.2.1 x 6) :: st) h Q) := R_gr rfl
theorem e_135_90 : Ev X 135 90 ls st h Q ↔ onI (gl ls 3) (fun z => Ev X 135 91 ls (vi z :: st) h Q) := R_il rfl (Or.inl rfl)
theorem e_135_91 {x : Nat} {j : Int} : Ev X 135 91 ls (vi j :: vr x :: st) h Q ↔ (((X.1 x = 13 ∨ X.1 x = 20) ∧ 0 ≤ j ∧ j < X.2.1 x) ∧ Ev X 135 92 ls (vi (h.1 x j.toNat) :: st) h Q) := R_ia rfl
theorem e_135_92 : Ev X 135 92 ls st h Q ↔ onR (gl ls 0) (fun z => Ev X 135 93 ls (vr z :: st) h Q) := R_al rfl (Or.inl rfl)
theorem e_135_93 {x : Nat} : Ev X 135 93 ls (vr x :: st) h Q ↔ (X.1 x = 11 ∧ Ev X 135 94 ls (vr (X.2.2.1 x 8) :: st) h Q) := R_gr rfl
theorem e_135_94 {x : Nat} : Ev X 135 94 ls (vr x :: st) h Q ↔ (X.1 x = 4 ∧ Ev X 135 95 ls (vr (X.2.2.1 x 7) :: st) h Q) := R_gr rfl
theorem e_135_95 : Ev X 135 95 ls st h Q ↔ onI (gl ls 3) (fun z => Ev X 135 96 ls (vi z :: st) h Q) := R_il rfl (Or.inl rfl)
theorem e_135_96 {x : Nat} {j : Int} : Ev X 135 96 ls (vi j :: vr x :: st) h Q ↔ (((X.1 x = 13 ∨ X.1 x = 20) ∧ 0 ≤ j ∧ j < X.2.1 x) ∧ Ev X 135 97 ls (vi (h.1 x j.toNat) :: st) h Q) := R_ia rfl
theorem e_135_97 {x y : Int} : Ev X 135 97 ls (vi y :: vi x :: st) h Q ↔ ((inR (x + y)) ∧ Ev X 135 98 ls (vi (x + y) :: st) h Q) := R_add rfl
theorem e_135_98 : Ev X 135 98 ls st h Q ↔ onI (gl ls 5) (fun z => Ev X 135 99 ls (vi z :: st) h Q) := R_il rfl (Or.inr rfl)
theorem e_135_99 {x y : Int} : Ev X 135 99 ls (vi y :: vi x :: st) h Q ↔ ((inR (x - y)) ∧ Ev X 135 100 ls (vi (x - y) :: st) h Q) := R_sub rfl
theorem e_135_100 : Ev X 135 100 ls st h Q ↔ onI (gl ls 1) (fun z => Ev X 135 101 ls (vi z :: st) h Q) := R_il rfl (Or.inl rfl)
theorem e_135_101 {rest : List xV} {a0 : Int} {a1 : Int} : Ev X 135 101 ls ((vi a1) :: (vi a0) :: rest) h Q ↔ (wd rest ≤ 8 ∧ Cl X 148 [vi a0, vi a1] h (fun r h2 => Ev X 135 102 ls (r.toList ++ rest) h2 Q)) := R_cs (as := [vi a0, vi a1]) (k2 := 148) rfl rfl (Nat.le_of_ble_eq_true rfl)
theorem e_135_102 {x y : Int} : Ev X 135 102 ls (vi y :: vi x :: st) h Q ↔ ((inR (x + y)) ∧ Ev X 135 103 ls (vi (x + y) :: st) h Q) := R_add rfl
theorem e_135_103 {x : Int} : Ev X 135 103 ls (vi x :: st) h Q ↔ (stOK ls 2 = true ∧ Ev X 135 104 (ls.set 2 (some (vi x))) st h Q) := R_is rfl (Or.inl rfl)
theorem e_135_104 : Ev X 135 104 ls st h Q ↔ onI (gl ls 3) (fun x => (stOK ls 3 = true ∧ inR (x + 1)) ∧ Ev X 135 105 (ls.set 3 (some (vi (x + 1)))) st h Q) := R_inc rfl
theorem e_135_105 : Ev X 135 105 ls st h Q ↔ Ev X 135 27 ls st h Q := R_go rfl
theorem e_135_106 : Ev X 135 106 ls st h Q ↔ onI (gl ls 2) (fun z => Ev X 135 107 ls (vi z :: st) h Q) := R_il rfl (Or.inl rfl)
theorem e_135_107 {z : Int} : Ev X 135 107 ls [vi z] h Q ↔ Q (some (vi z)) h := R_ir rfl
-- 136: CellRows.count(I)I
theorem e_136_0 : Ev X 136 0 ls st h Q ↔ onI (gl ls 1) (fun z => Ev X 136 1 ls (vi z :: st) h Q) := R_il rfl (Or.inl rfl)
theorem e_136_1 {x : Int} : Ev X 136 1 ls (vi x :: st) h Q ↔ Ev X 136 (swt 0 [66, 2, 6, 10, 15, 20, 25, 30, 34, 38, 41, 46, 51, 56, 61] x) ls st h Q := R_sw rfl
theorem e_136_2 : Ev X 136 2 ls st h Q ↔ onR (gl ls 0) (fun z => Ev X 136 3 ls (vr z :: st) h Q) := R_al rfl (Or.inl rfl)
theorem e_136_3 {x : Nat} : Ev X 136 3 ls (vr x :: st) h Q ↔ (X.1 x = 11 ∧ Ev X 136 4 ls (vr (X.2.2.1 x 5) :: st) h Q) := R_gr rfl
theorem e_136_4 {x : Nat} : Ev X 136 4 ls (vr x :: st) h Q ↔ (X.1 x = 9 ∧ Ev X 136 5 ls (vi (h.2 x 0) :: st) h Q) := R_gi rfl
theorem e_136_5 {z : Int} : Ev X 136 5 ls [vi z] h Q ↔ Q (some (vi z)) h := R_ir rfl
theorem e_136_6 : Ev X 136 6 ls st h Q ↔ onR (gl ls 0) (fun z => Ev X 136 7 ls (vr z :: st) h Q) := R_al rfl (Or.inl rfl)
theorem e_136_7 {x : Nat} : Ev X 136 7 ls (vr x :: st) h Q ↔ (X.1 x = 11 ∧ Ev X 136 8 ls (vr (X.2.2.1 x 5) :: st) h Q) := R_gr rfl
theorem e_136_8 {x : Nat} : Ev X 136 8 ls (vr x :: st) h Q ↔ (X.1 x = 9 ∧ Ev X 136 9 ls (vi (h.2 x 1) :: st) h Q) := R_gi rfl
theorem e_136_9 {z : Int} : Ev X 136 9 ls [vi z] h Q ↔ Q (some (vi z)) h := R_ir rfl
theorem e_136_10 : Ev X 136 10 ls st h Q ↔ onR (gl ls 0) (fun z => Ev X 136 11 ls (vr z :: st) h Q) := R_al rfl (Or.inl rfl)
theorem e_136_11 {x : Nat} : Ev X 136 11 ls (vr x :: st) h Q ↔ (X.1 x = 11 ∧ Ev X 136 12 ls (vr (X.2.2.1 x 5) :: st) h Q) := R_gr rfl
theorem e_136_12 {x : Nat} : Ev X 136 12 ls (vr x :: st) h Q ↔ (X.1 x = 9 ∧ Ev X 136 13 ls (vr (X.2.2.1 x 2) :: st) h Q) := R_gr rfl
theorem e_136_13 {x : Nat} : Ev X 136 13 ls (vr x :: st) h Q ↔ (X.1 x = 2 ∧ Ev X 136 14 ls (vi (h.2 x 0) :: st) h Q) := R_gi rfl
theorem e_136_14 {z : Int} : Ev X 136 14 ls [vi z] h Q ↔ Q (some (vi z)) h := R_ir rfl
theorem e_136_15 : Ev X 136 15 ls st h Q ↔ onR (gl ls 0) (fun z => Ev X 136 16 ls (vr z :: st) h Q) := R_al rfl (Or.inl rfl)
theorem e_136_16 {x : Nat} : Ev X 136 16 ls (vr x :: st) h Q ↔ (X.1 x = 11 ∧ Ev X 136 17 ls (vr (X.2.2.1 x 5) :: st) h Q) := R_gr rfl
theorem e_136_17 {x : Nat} : Ev X 136 17 ls (vr x :: st) h Q ↔ (X.1 x = 9 ∧ Ev X 136 18 ls (vr (X.2.2.1 x 3) :: st) h Q) := R_gr rfl
theorem e_136_18 {x : Nat} : Ev X 136 18 ls (vr x :: st) h Q ↔ (X.1 x = 2 ∧ Ev X 136 19 ls (vi (h.2 x 0) :: st) h Q) := R_gi rfl
theorem e_136_19 {z : Int} : Ev X 136 19 ls [vi z] h Q ↔ Q (some (vi z)) h := R_ir rfl
theorem e_136_20 : Ev X 136 20 ls st h Q ↔ onR (gl ls 0) (fun z => Ev X 136 21 ls (vr z :: st) h Q) := R_al rfl (Or.inl rfl)
theorem e_136_21 {x : Nat} : Ev X 136 21 ls (vr x :: st) h Q ↔ (X.1 x = 11 ∧ Ev X 136 22 ls (vr (X.2.2.1 x 5) :: st) h Q) := R_gr rfl
theorem e_136_22 {x : Nat} : Ev X 136 22 ls (vr x :: st) h Q ↔ (X.1 x = 9 ∧ Ev X 136 23 ls (vr (X.2.2.1 x 4) :: st) h Q) := R_gr rfl
theorem e_136_23 {x : Nat} : Ev X 136 23 ls (vr x :: st) h Q ↔ (X.1 x = 3 ∧ Ev X 136 24 ls (vi (h.2 x 0) :: st) h Q) := R_gi rfl
theorem e_136_24 {z : Int} : Ev X 136 24 ls [vi z] h Q ↔ Q (some (vi z)) h := R_ir rfl
theorem e_136_25 : Ev X 136 25 ls st h Q ↔ onR (gl ls 0) (fun z => Ev X 136 26 ls (vr z :: st) h Q) := R_al rfl (Or.inl rfl)
theorem e_136_26 {x : Nat} : Ev X 136 26 ls (vr x :: st) h Q ↔ (X.1 x = 11 ∧ Ev X 136 27 ls (vr (X.2.2.1 x 5) :: st) h Q) := R_gr rfl
theorem e_136_27 {x : Nat} : Ev X 136 27 ls (vr x :: st) h Q ↔ (X.1 x = 9 ∧ Ev X 136 28 ls (vr (X.2.2.1 x 5) :: st) h Q) := R_gr rfl
theorem e_136_28 {x : Nat} : Ev X 136 28 ls (vr x :: st) h Q ↔ (X.1 x = 6 ∧ Ev X 136 29 ls (vi (h.2 x 0) :: st) h Q) := R_gi rfl
theorem e_136_29 {z : Int} : Ev X 136 29 ls [vi z] h Q ↔ Q (some (vi z)) h := R_ir rfl
theorem e_136_30 : Ev X 136 30 ls st h Q ↔ onR (gl ls 0) (fun z => Ev X 136 31 ls (vr z :: st) h Q) := R_al rfl (Or.inl rfl)
theorem e_136_31 {x : Nat} : Ev X 136 31 ls (vr x :: st) h Q ↔ (X.1 x = 11 ∧ Ev X 136 32 ls (vr (X.2.2.1 x 10) :: st) h Q) := R_gr rfl
theorem e_136_32 {x : Nat} : Ev X 136 32 ls (vr x :: st) h Q ↔ (X.1 x = 1 ∧ Ev X 136 33 ls (vi (h.2 x 0) :: st) h Q) := R_gi rfl
theorem e_136_33 {z : Int} : Ev X 136 33 ls [vi z] h Q ↔ Q (some (vi z)) h := R_ir rfl
theorem e_136_34 : Ev X 136 34 ls st h Q ↔ onR (gl ls 0) (fun z => Ev X 136 35 ls (vr z :: st) h Q) := R_al rfl (Or.inl rfl)
theorem e_136_35 {x : Nat} : Ev X 136 35 ls (vr x :: st) h Q ↔ (X.1 x = 11 ∧ Ev X 136 36 ls (vr (X.2.2.1 x 7) :: st) h Q) := R_gr rfl
theorem e_136_36 {x : Nat} : Ev X 136 36 ls (vr x :: st) h Q ↔ (X.1 x = 5 ∧ Ev X 136 37 ls (vi (h.2 x 0) :: st) h Q) := R_gi rfl
theorem e_136_37 {z : Int} : Ev X 136 37 ls [vi z] h Q ↔ Q (some (vi z)) h := R_ir rfl
theorem e_136_38 : Ev X 136 38 ls st h Q ↔ onR (gl ls 0) (fun z => Ev X 136 39 ls (vr z :: st) h Q) := R_al rfl (Or.inl rfl)
theorem e_136_39 {x : Nat} : Ev X 136 39 ls (vr x :: st) h Q ↔ (X.1 x = 11 ∧ Ev X 136 40 ls (vi (h.2 x 2) :: st) h Q) := R_gi rfl
theorem e_136_40 {z : Int} : Ev X 136 40 ls [vi z] h Q ↔ Q (some (vi z)) h := R_ir rfl
theorem e_136_41 : Ev X 136 41 ls st h Q ↔ onR (gl ls 0) (fun z => Ev X 136 42 ls (vr z :: st) h Q) := R_al rfl (Or.inl rfl)
theorem e_136_42 {x : Nat} : Ev X 136 42 ls (vr x :: st) h Q ↔ (X.1 x = 11 ∧ Ev X 136 43 ls (vr (X.2.2.1 x 3) :: st) h Q) := R_gr rfl
theorem e_136_43 : Ev X 136 43 ls st h Q ↔ Ev X 136 44 ls (vi 1 :: st) h Q := R_kc rfl (Or.inl ⟨Or.inl rfl, by decide⟩)
theorem e_136_44 {x : Nat} {j : Int} : Ev X 136 44 ls (vi j :: vr x :: st) h Q ↔ (((X.1 x = 13 ∨ X.1 x = 20) ∧ 0 ≤ j ∧ j < X.2.1 x) ∧ Ev X 136 45 ls (vi (h.1 x j.toNat) :: st) h Q) := R_ia rfl
theorem e_136_45 {z : Int} : Ev X 136 45 ls [vi z] h Q ↔ Q (some (vi z)) h := R_ir rfl
theorem e_136_46 : Ev X 136 46 ls st h Q ↔ onR (gl ls 0) (fun z => Ev X 136 47 ls (vr z :: st) h Q) := R_al rfl (Or.inl rfl)
theorem e_136_47 {x : Nat} : Ev X 136 47 ls (vr x :: st) h Q ↔ (X.1 x = 11 ∧ Ev X 136 48 ls (vr (X.2.2.1 x 3) :: st) h Q) := R_gr rfl
theorem e_136_48 : Ev X 136 48 ls st h Q ↔ Ev X 136 49 ls (vi 2 :: st) h Q := R_kc rfl (Or.inl ⟨Or.inl rfl, by decide⟩)
theorem e_136_49 {x : Nat} {j : Int} : Ev X 136 49 ls (vi j :: vr x :: st) h Q ↔ (((X.1 x = 13 ∨ X.1 x = 20) ∧ 0 ≤ j ∧ j < X.2.1 x) ∧ Ev X 136 50 ls (vi (h.1 x j.toNat) :: st) h Q) := R_ia rfl
theorem e_136_50 {z : Int} : Ev X 136 50 ls [vi z] h Q ↔ Q (some (vi z)) h := R_ir rfl
theorem e_136_51 : Ev X 136 51 ls st h Q ↔ onR (gl ls 0) (fun z => Ev X 136 52 ls (vr z :: st) h Q) := R_al rfl (Or.inl rfl)
theorem e_136_52 {x : Nat} : Ev X 136 52 ls (vr x :: st) h Q ↔ (X.1 x = 11 ∧ Ev X 136 53 ls (vr (X.2.2.1 x 3) :: st) h Q) := R_gr rfl
theorem e_136_53 : Ev X 136 53 ls st h Q ↔ Ev X 136 54 ls (vi 4 :: st) h Q := R_kc rfl (Or.inl ⟨Or.inl rfl, by decide⟩)
theorem e_136_54 {x : Nat} {j : Int} : Ev X 136 54 ls (vi j :: vr x :: st) h Q ↔ (((X.1 x = 13 ∨ X.1 x = 20) ∧ 0 ≤ j ∧ j < X.2.1 x) ∧ Ev X 136 55 ls (vi (h.1 x j.toNat) :: st) h Q) := R_ia rfl
theorem e_136_55 {z : Int} : Ev X 136 55 ls [vi z] h Q ↔ Q (some (vi z)) h := R_ir rfl
theorem e_136_56 : Ev X 136 56 ls st h Q ↔ onR (gl ls 0) (fun z => Ev X 136 57 ls (vr z :: st) h Q) := R_al rfl (Or.inl rfl)
theorem e_136_57 {x : Nat} : Ev X 136 57 ls (vr x :: st) h Q ↔ (X.1 x = 11 ∧ Ev X 136 58 ls (vr (X.2.2.1 x 3) :: st) h Q) := R_gr rfl
theorem e_136_58 : Ev X 136 58 ls st h Q ↔ Ev X 136 59 ls (vi 5 :: st) h Q := R_kc rfl (Or.inl ⟨Or.inl rfl, by decide⟩)
theorem e_136_59 {x : Nat} {j : Int} : Ev X 136 59 ls (vi j :: vr x :: st) h Q ↔ (((X.1 x = 13 ∨ X.1 x = 20) ∧ 0 ≤ j ∧ j < X.2.1 x) ∧ Ev X 136 60 ls (vi (h.1 x j.toNat) :: st) h Q) := R_ia rfl
theorem e_136_60 {z : Int} : Ev X 136 60 ls [vi z] h Q ↔ Q (some (vi z)) h := R_ir rfl
theorem e_136_61 : Ev X 136 61 ls st h Q ↔ onR (gl ls 0) (fun z => Ev X 136 62 ls (vr z :: st) h Q) := R_al rfl (Or.inl rfl)
theorem e_136_62 {x : Nat} : Ev X 136 62 ls (vr x :: st) h Q ↔ (X.1 x = 11 ∧ Ev X 136 63 ls (vr (X.2.2.1 x 3) :: st) h Q) := R_gr rfl
theorem e_136_63 : Ev X 136 63 ls st h Q ↔ Ev X 136 64 ls (vi 6 :: st) h Q := R_kc rfl (Or.inr (Or.inl ⟨rfl, by decide⟩))
theorem e_136_64 {x : Nat} {j : Int} : Ev X 136 64 ls (vi j :: vr x :: st) h Q ↔ (((X.1 x = 13 ∨ X.1 x = 20) ∧ 0 ≤ j ∧ j < X.2.1 x) ∧ Ev X 136 65 ls (vi (h.1 x j.toNat) :: st) h Q) := R_ia rfl
theorem e_136_65 {z : Int} : Ev X 136 65 ls [vi z] h Q ↔ Q (some (vi z)) h := R_ir rfl
theorem e_136_66 : Ev X 136 66 ls st h Q ↔ onI (gl ls 1) (fun z => Ev X 136 67 ls (vi z :: st) h Q) := R_il rfl (Or.inl rfl)
theorem e_136_67 : Ev X 136 67 ls st h Q ↔ Ev X 136 68 ls (vi 14 :: st) h Q := R_kc rfl (Or.inr (Or.inl ⟨rfl, by decide⟩))
theorem e_136_68 {x y : Int} : Ev X 136 68 ls (vi y :: vi x :: st) h Q ↔ (if x < y then Ev X 136 79 ls st h Q else Ev X 136 69 ls st h Q) := R_iclt rfl
theorem e_136_69 : Ev X 136 69 ls st h Q ↔ onI (gl ls 1) (fun z => Ev X 136 70 ls (vi z :: st) h Q) := R_il rfl (Or.inl rfl)
theorem e_136_70 : Ev X 136 70 ls st h Q ↔ Ev X 136 71 ls (vi 20 :: st) h Q := R_kc rfl (Or.inr (Or.inl ⟨rfl, by decide⟩))
theorem e_136_71 {x y : Int} : Ev X 136 71 ls (vi y :: vi x :: st) h Q ↔ (if y ≤ x then Ev X 136 79 ls st h Q else Ev X 136 72 ls st h Q) := R_icge rfl
theorem e_136_72 : Ev X 136 72 ls st h Q ↔ onR (gl ls 0) (fun z => Ev X 136 73 ls (vr z :: st) h Q) := R_al rfl (Or.inl rfl)
theorem e_136_73 {x : Nat} : Ev X 136 73 ls (vr x :: st) h Q ↔ (X.1 x = 11 ∧ Ev X 136 74 ls (vr (X.2.2.1 x 0) :: st) h Q) := R_gr rfl
theorem e_136_74 : Ev X 136 74 ls st h Q ↔ onI (gl ls 1) (fun z => Ev X 136 75 ls (vi z :: st) h Q) := R_il rfl (Or.inl rfl)
theorem e_136_75 : Ev X 136 75 ls st h Q ↔ Ev X 136 76 ls (vi 14 :: st) h Q := R_kc rfl (Or.inr (Or.inl ⟨rfl, by decide⟩))
theorem e_136_76 {x y : Int} : Ev X 136 76 ls (vi y :: vi x :: st) h Q ↔ ((inR (x - y)) ∧ Ev X 136 77 ls (vi (x - y) :: st) h Q) := R_sub rfl
theorem e_136_77 {x : Nat} {j : Int} : Ev X 136 77 ls (vi j :: vr x :: st) h Q ↔ (((X.1 x = 13 ∨ X.1 x = 20) ∧ 0 ≤ j ∧ j < X.2.1 x) ∧ Ev X 136 78 ls (vi (h.1 x j.toNat) :: st) h Q) := R_ia rfl
theorem e_136_78 : Ev X 136 78 ls st h Q ↔ Ev X 136 80 ls st h Q := R_go rfl
theorem e_136_79 : Ev X 136 79 ls st h Q ↔ Ev X 136 80 ls (vi (-1) :: st) h Q := R_kc rfl (Or.inl ⟨Or.inl rfl, by decide⟩)
theorem e_136_80 {z : Int} : Ev X 136 80 ls [vi z] h Q ↔ Q (some (vi z)) h := R_ir rfl
-- 137: CellRows.status()I
theorem e_137_0 : Ev X 137 0 ls st h Q ↔ onR (gl ls 0) (fun z => Ev X 137 1 ls (vr z :: st) h Q) := R_al rfl (Or.inl rfl)
theorem e_137_1 {x : Nat} : Ev X 137 1 ls (vr x :: st) h Q ↔ (X.1 x = 11 ∧ Ev X 137 2 ls (vi (h.2 x 4) :: st) h Q) := R_gi rfl
theorem e_137_2 {z : Int} : Ev X 137 2 ls [vi z] h Q ↔ Q (some (vi z)) h := R_ir rfl
-- 138: CellRows.refuse(I)I
theorem e_138_0 : Ev X 138 0 ls st h Q ↔ onR (gl ls 0) (fun z => Ev X 138 1 ls (vr z :: st) h Q) := R_al rfl (Or.inl rfl)
theorem e_138_1 {x : Nat} : Ev X 138 1 ls (vr x :: st) h Q ↔ (X.1 x = 11 ∧ Ev X 138 2 ls (vr (X.2.2.1 x 3) :: st) h Q) := R_gr rfl
theorem e_138_2 : Ev X 138 2 ls st h Q ↔ onI (gl ls 1) (fun z => Ev X 138 3 ls (vi z :: st) h Q) := R_il rfl (Or.inl rfl)
theorem e_138_3 {x : Int} : Ev X 138 3 ls (vi x :: st) h Q ↔ (inR (-x) ∧ Ev X 138 4 ls (vi (-x) :: st) h Q) := R_neg rfl
theorem e_138_4 {v w : xV} : Ev X 138 4 ls (v :: w :: st) h Q ↔ ((ct1 v = true ∧ ct1 w = true) ∧ Ev X 138 5 ls (v :: w :: v :: w :: st) h Q) := R_dup2 rfl
theorem e_138_5 {x : Nat} {j : Int} : Ev X 138 5 ls (vi j :: vr x :: st) h Q ↔ (((X.1 x = 13 ∨ X.1 x = 20) ∧ 0 ≤ j ∧ j < X.2.1 x) ∧ Ev X 138 6 ls (vi (h.1 x j.toNat) :: st) h Q) := R_ia rfl
theorem e_138_6 : Ev X 138 6 ls st h Q ↔ Ev X 138 7 ls (vi 1 :: st) h Q := R_kc rfl (Or.inl ⟨Or.inl rfl, by decide⟩)
theorem e_138_7 {x y : Int} : Ev X 138 7 ls (vi y :: vi x :: st) h Q ↔ ((inR (x + y)) ∧ Ev X 138 8 ls (vi (x + y) :: st) h Q) := R_add rfl
theorem e_138_8 {x : Nat} {j v : Int} : Ev X 138 8 ls (vi v :: vi j :: vr x :: st) h Q ↔ ((X.1 x = 13 ∧ 0 ≤ j ∧ j < X.2.1 x) ∧ Ev X 138 9 ls st (up2 h.1 x j.toNat v, h.2) Q) := R_ias rfl
theorem e_138_9 : Ev X 138 9 ls st h Q ↔ onR (gl ls 0) (fun z => Ev X 138 10 ls (vr z :: st) h Q) := R_al rfl (Or.inl rfl)
theorem e_138_10 : Ev X 138 10 ls st h Q ↔ onI (gl ls 1) (fun z => Ev X 138 11 ls (vi z :: st) h Q) := R_il rfl (Or.inl rfl)
theorem e_138_11 {x : Nat} {v : Int} : Ev X 138 11 ls (vi v :: vr x :: st) h Q ↔ (X.1 x = 11 ∧ Ev X 138 12 ls st (h.1, up2 h.2 x 4 v) Q) := R_pi rfl
theorem e_138_12 : Ev X 138 12 ls st h Q ↔ onI (gl ls 1) (fun z => Ev X 138 13 ls (vi z :: st) h Q) := R_il rfl (Or.inl rfl)
theorem e_138_13 {z : Int} : Ev X 138 13 ls [vi z] h Q ↔ Q (some (vi z)) h := R_ir rfl
-- 139: CellRows.keepFor(I)V
theorem e_139_0 : Ev X 139 0 ls st h Q ↔ onR (gl ls 0) (fun z => Ev X 139 1 ls (vr z :: st) h Q) := R_al rfl (Or.inl rfl)
theorem e_139_1 : Ev X 139 1 ls st h Q ↔ Ev X 139 2 ls (vi 0 :: st) h Q := R_kc rfl (Or.inl ⟨Or.inl rfl, by decide⟩)
theorem e_139_2 {x : Nat} {v : Int} : Ev X 139 2 ls (vi v :: vr x :: st) h Q ↔ (X.1 x = 11 ∧ Ev X 139 3 ls st (h.1, up2 h.2 x 4 v) Q) := R_pi rfl
theorem e_139_3 : Ev X 139 3 ls st h Q ↔ onR (gl ls 0) (fun z => Ev X 139 4 ls (vr z :: st) h Q) := R_al rfl (Or.inl rfl)
theorem e_139_4 {x : Nat} : Ev X 139 4 ls (vr x :: st) h Q ↔ (X.1 x = 11 ∧ Ev X 139 5 ls (vr (X.2.2.1 x 7) :: st) h Q) := R_gr rfl
theorem e_139_5 : Ev X 139 5 ls st h Q ↔ onR (gl ls 0) (fun z => Ev X 139 6 ls (vr z :: st) h Q) := R_al rfl (Or.inl rfl)
theorem e_139_6 {x : Nat} : Ev X 139 6 ls (vr x :: st) h Q ↔ (X.1 x = 11 ∧ Ev X 139 7 ls (vr (X.2.2.1 x 5) :: st) h Q) := R_gr rfl
theorem e_139_7 : Ev X 139 7 ls st h Q ↔ onI (gl ls 1) (fun z => Ev X 139 8 ls (vi z :: st) h Q) := R_il rfl (Or.inl rfl)
theorem e_139_8 {rest : List xV} {a0 : Nat} {a1 : Int} {o : Nat} : Ev X 139 8 ls ((vi a1) :: (vr a0) :: vr o :: rest) h Q ↔ ((X.1 o = 5 ∧ wd rest ≤ 8) ∧ Cl X 40 [vr o, vr a0, vi a1] h (fun r h2 => Ev X 139 9 ls (r.toList ++ rest) h2 Q)) := R_cv (x := o) (as := [vr a0, vi a1]) (k2 := 40) rfl rfl (Nat.le_of_ble_eq_true rfl)
theorem e_139_9 : Ev X 139 9 ls [] h Q ↔ Q none h := R_vr rfl
-- 140: CellRows.feedNumber(I)V
theorem e_140_0 : Ev X 140 0 ls st h Q ↔ Ev X 140 1 ls (vi 24 :: st) h Q := R_kc rfl (Or.inr (Or.inl ⟨rfl, by decide⟩))
theorem e_140_1 {x : Int} : Ev X 140 1 ls (vi x :: st) h Q ↔ (stOK ls 2 = true ∧ Ev X 140 2 (ls.set 2 (some (vi x))) st h Q) := R_is rfl (Or.inl rfl)
theorem e_140_2 : Ev X 140 2 ls st h Q ↔ onI (gl ls 2) (fun z => Ev X 140 3 ls (vi z :: st) h Q) := R_il rfl (Or.inl rfl)
theorem e_140_3 {x : Int} : Ev X 140 3 ls (vi x :: st) h Q ↔ (if x < 0 then Ev X 140 22 ls st h Q else Ev X 140 4 ls st h Q) := R_iflt rfl
theorem e_140_4 : Ev X 140 4 ls st h Q ↔ onR (gl ls 0) (fun z => Ev X 140 5 ls (vr z :: st) h Q) := R_al rfl (Or.inl rfl)
theorem e_140_5 {x : Nat} : Ev X 140 5 ls (vr x :: st) h Q ↔ (X.1 x = 11 ∧ Ev X 140 6 ls (vr (X.2.2.1 x 1) :: st) h Q) := R_gr rfl
theorem e_140_6 : Ev X 140 6 ls st h Q ↔ onR (gl ls 0) (fun z => Ev X 140 7 ls (vr z :: st) h Q) := R_al rfl (Or.inl rfl)
theorem e_140_7 {x : Nat} : Ev X 140 7 ls (vr x :: st) h Q ↔ (X.1 x = 11 ∧ Ev X 140 8 ls (vi (h.2 x 2) :: st) h Q) := R_gi rfl
theorem e_140_8 : Ev X 140 8 ls st h Q ↔ onI (gl ls 1) (fun z => Ev X 140 9 ls (vi z :: st) h Q) := R_il rfl (Or.inl rfl)
theorem e_140_9 : Ev X 140 9 ls st h Q ↔ onI (gl ls 2) (fun z => Ev X 140 10 ls (vi z :: st) h Q) := R_il rfl (Or.inl rfl)
theorem e_140_10 {x y : Int} : Ev X 140 10 ls (vi y :: vi x :: st) h Q ↔ Ev X 140 11 ls (vi (((Int32.ofInt x).toUInt32 >>> ((Int32.ofInt y).toUInt32 &&& Int32.toUInt32 31)).toInt32.toInt) :: st) h Q := R_ushr rfl
theorem e_140_11 : Ev X 140 11 ls st h Q ↔ Ev X 140 12 ls (vi 255 :: st) h Q := R_kc rfl (Or.inr (Or.inr ⟨rfl, by decide⟩))
theorem e_140_12 {x y : Int} : Ev X 140 12 ls (vi y :: vi x :: st) h Q ↔ Ev X 140 13 ls (vi ((Int32.ofInt x &&& Int32.ofInt y).toInt) :: st) h Q := R_and rfl
theorem e_140_13 {x : Nat} {j v : Int} : Ev X 140 13 ls (vi v :: vi j :: vr x :: st) h Q ↔ ((X.1 x = 13 ∧ 0 ≤ j ∧ j < X.2.1 x) ∧ Ev X 140 14 ls st (up2 h.1 x j.toNat v, h.2) Q) := R_ias rfl
theorem e_140_14 : Ev X 140 14 ls st h Q ↔ onR (gl ls 0) (fun z => Ev X 140 15 ls (vr z :: st) h Q) := R_al rfl (Or.inl rfl)
theorem e_140_15 {v : xV} : Ev X 140 15 ls (v :: st) h Q ↔ (ct1 v = true ∧ Ev X 140 16 ls (v :: v :: st) h Q) := R_dup rfl
theorem e_140_16 {x : Nat} : Ev X 140 16 ls (vr x :: st) h Q ↔ (X.1 x = 11 ∧ Ev X 140 17 ls (vi (h.2 x 2) :: st) h Q) := R_gi rfl
theorem e_140_17 : Ev X 140 17 ls st h Q ↔ Ev X 140 18 ls (vi 1 :: st) h Q := R_kc rfl (Or.inl ⟨Or.inl rfl, by decide⟩)
theorem e_140_18 {x y : Int} : Ev X 140 18 ls (vi y :: vi x :: st) h Q ↔ ((inR (x + y)) ∧ Ev X 140 19 ls (vi (x + y) :: st) h Q) := R_add rfl
theorem e_140_19 {x : Nat} {v : Int} : Ev X 140 19 ls (vi v :: vr x :: st) h Q ↔ (X.1 x = 11 ∧ Ev X 140 20 ls st (h.1, up2 h.2 x 2 v) Q) := R_pi rfl
theorem e_140_20 : Ev X 140 20 ls st h Q ↔ onI (gl ls 2) (fun x => (stOK ls 2 = true ∧ inR (x + (-8))) ∧ Ev X 140 21 (ls.set 2 (some (vi (x + (-8))))) st h Q) := R_inc rfl
theorem e_140_21 : Ev X 140 21 ls st h Q ↔ Ev X 140 2 ls st h Q := R_go rfl
theorem e_140_22 : Ev X 140 22 ls [] h Q ↔ Q none h := R_vr rfl
-- 141: CellRows.isRectangle(IIII)Z
theorem e_141_0 : Ev X 141 0 ls st h Q ↔ onI (gl ls 1) (fun z => Ev X 141 1 ls (vi z :: st) h Q) := R_il rfl (Or.inl rfl)
theorem e_141_1 {x : Int} : Ev X 141 1 ls (vi x :: st) h Q ↔ (if x < 0 then Ev X 141 22 ls st h Q else Ev X 141 2 ls st h Q) := R_iflt rfl
theorem e_141_2 : Ev X 141 2 ls st h Q ↔ onI (gl ls 1) (fun z => Ev X 141 3 ls (vi z :: st) h Q) := R_il rfl (Or.inl rfl)
theorem e_141_3 : Ev X 141 3 ls st h Q ↔ onI (gl ls 2) (fun z => Ev X 141 4 ls (vi z :: st) h Q) := R_il rfl (Or.inl rfl)
theorem e_141_4 {x y : Int} : Ev X 141 4 ls (vi y :: vi x :: st) h Q ↔ (if y < x then Ev X 141 22 ls st h Q else Ev X 141 5 ls st h Q) := R_icgt rfl
theorem e_141_5 : Ev X 141 5 ls st h Q ↔ onI (gl ls 2) (fun z => Ev X 141 6 ls (vi z :: st) h Q) := R_il rfl (Or.inl rfl)
theorem e_141_6 : Ev X 141 6 ls st h Q ↔ onR (gl ls 0) (fun z => Ev X 141 7 ls (vr z :: st) h Q) := R_al rfl (Or.inl rfl)
theorem e_141_7 {x : Nat} : Ev X 141 7 ls (vr x :: st) h Q ↔ (X.1 x = 11 ∧ Ev X 141 8 ls (vr (X.2.2.1 x 5) :: st) h Q) := R_gr rfl
theorem e_141_8 {x : Nat} : Ev X 141 8 ls (vr x :: st) h Q ↔ (X.1 x = 9 ∧ Ev X 141 9 ls (vi (h.2 x 0) :: st) h Q) := R_gi rfl
theorem e_141_9 {x y : Int} : Ev X 141 9 ls (vi y :: vi x :: st) h Q ↔ (if y ≤ x then Ev X 141 22 ls st h Q else Ev X 141 10 ls st h Q) := R_icge rfl
theorem e_141_10 : Ev X 141 10 ls st h Q ↔ onI (gl ls 3) (fun z => Ev X 141 11 ls (vi z :: st) h Q) := R_il rfl (Or.inl rfl)
theorem e_141_11 {x : Int} : Ev X 141 11 ls (vi x :: st) h Q ↔ (if x < 0 then Ev X 141 22 ls st h Q else Ev X 141 12 ls st h Q) := R_iflt rfl
theorem e_141_12 : Ev X 141 12 ls st h Q ↔ onI (gl ls 3) (fun z => Ev X 141 13 ls (vi z :: st) h Q) := R_il rfl (Or.inl rfl)
theorem e_141_13 : Ev X 141 13 ls st h Q ↔ onI (gl ls 4) (fun z => Ev X 141 14 ls (vi z :: st) h Q) := R_il rfl (Or.inr rfl)
theorem e_141_14 {x y : Int} : Ev X 141 14 ls (vi y :: vi x :: st) h Q ↔ (if y < x then Ev X 141 22 ls st h Q else Ev X 141 15 ls st h Q) := R_icgt rfl
theorem e_141_15 : Ev X 141 15 ls st h Q ↔ onI (gl ls 4) (fun z => Ev X 141 16 ls (vi z :: st) h Q) := R_il rfl (Or.inr rfl)
theorem e_141_16 : Ev X 141 16 ls st h Q ↔ onR (gl ls 0) (fun z => Ev X 141 17 ls (vr z :: st) h Q) := R_al rfl (Or.inl rfl)
theorem e_141_17 {x : Nat} : Ev X 141 17 ls (vr x :: st) h Q ↔ (X.1 x = 11 ∧ Ev X 141 18 ls (vr (X.2.2.1 x 5) :: st) h Q) := R_gr rfl
theorem e_141_18 {x : Nat} : Ev X 141 18 ls (vr x :: st) h Q ↔ (X.1 x = 9 ∧ Ev X 141 19 ls (vi (h.2 x 1) :: st) h Q) := R_gi rfl
theorem e_141_19 {x y : Int} : Ev X 141 19 ls (vi y :: vi x :: st) h Q ↔ (if y ≤ x then Ev X 141 22 ls st h Q else Ev X 141 20 ls st h Q) := R_icge rfl
theorem e_141_20 : Ev X 141 20 ls st h Q ↔ Ev X 141 21 ls (vi 1 :: st) h Q := R_kc rfl (Or.inl ⟨Or.inl rfl, by decide⟩)
theorem e_141_21 : Ev X 141 21 ls st h Q ↔ Ev X 141 23 ls st h Q := R_go rfl
theorem e_141_22 : Ev X 141 22 ls st h Q ↔ Ev X 141 23 ls (vi 0 :: st) h Q := R_kc rfl (Or.inl ⟨Or.inl rfl, by decide⟩)
theorem e_141_23 {z : Int} : Ev X 141 23 ls [vi z] h Q ↔ ((z = 0 ∨ z = 1) ∧ Q (some (vi z)) h) := R_zr rfl
-- 142: CellRows.isNet(I)Z
theorem e_142_0 : Ev X 142 0 ls st h Q ↔ onI (gl ls 1) (fun z => Ev X 142 1 ls (vi z :: st) h Q) := R_il rfl (Or.inl rfl)
theorem e_142_1 : Ev X 142 1 ls st h Q ↔ Ev X 142 2 ls (vi 2 :: st) h Q := R_kc rfl (Or.inl ⟨Or.inl rfl, by decide⟩)
theorem e_142_2 {x y : Int} : Ev X 142 2 ls (vi y :: vi x :: st) h Q ↔ ((y ≠ 0 ∧ inR (x.tdiv y)) ∧ Ev X 142 3 ls (vi (x.tmod y) :: st) h Q) := R_rem rfl
theorem e_142_3 {x : Int} : Ev X 142 3 ls (vi x :: st) h Q ↔ (if ¬ x = 0 then Ev X 142 10 ls st h Q else Ev X 142 4 ls st h Q) := R_ifne rfl
theorem e_142_4 : Ev X 142 4 ls st h Q ↔ onI (gl ls 1) (fun z => Ev X 142 5 ls (vi z :: st) h Q) := R_il rfl (Or.inl rfl)
theorem e_142_5 : Ev X 142 5 ls st h Q ↔ Ev X 142 6 ls (vi 4 :: st) h Q := R_kc rfl (Or.inl ⟨Or.inl rfl, by decide⟩)
theorem e_142_6 {x y : Int} : Ev X 142 6 ls (vi y :: vi x :: st) h Q ↔ (if x < y then Ev X 142 10 ls st h Q else Ev X 142 7 ls st h Q) := R_iclt rfl
theorem e_142_7 : Ev X 142 7 ls st h Q ↔ onI (gl ls 1) (fun z => Ev X 142 8 ls (vi z :: st) h Q) := R_il rfl (Or.inl rfl)
theorem e_142_8 : Ev X 142 8 ls st h Q ↔ Ev X 142 9 ls (vi 12 :: st) h Q := R_kc rfl (Or.inr (Or.inl ⟨rfl, by decide⟩))
theorem e_142_9 {x y : Int} : Ev X 142 9 ls (vi y :: vi x :: st) h Q ↔ (if x ≤ y then Ev X 142 12 ls st h Q else Ev X 142 10 ls st h Q) := R_icle rfl
theorem e_142_10 : Ev X 142 10 ls st h Q ↔ Ev X 142 11 ls (vi 0 :: st) h Q := R_kc rfl (Or.inl ⟨Or.inl rfl, by decide⟩)
theorem e_142_11 {z : Int} : Ev X 142 11 ls [vi z] h Q ↔ ((z = 0 ∨ z = 1) ∧ Q (some (vi z)) h) := R_zr rfl
theorem e_142_12 : Ev X 142 12 ls st h Q ↔ Ev X 142 13 ls (vi 0 :: st) h Q := R_kc rfl (Or.inl ⟨Or.inl rfl, by decide⟩)
theorem e_142_13 {x : Int} : Ev X 142 13 ls (vi x :: st) h Q ↔ (stOK ls 2 = true ∧ Ev X 142 14 (ls.set 2 (some (vi x))) st h Q) := R_is rfl (Or.inl rfl)
theorem e_142_14 : Ev X 142 14 ls st h Q ↔ onI (gl ls 2) (fun z => Ev X 142 15 ls (vi z :: st) h Q) := R_il rfl (Or.inl rfl)
theorem e_142_15 : Ev X 142 15 ls st h Q ↔ onI (gl ls 1) (fun z => Ev X 142 16 ls (vi z :: st) h Q) := R_il rfl (Or.inl rfl)
theorem e_142_16 {x y : Int} : Ev X 142 16 ls (vi y :: vi x :: st) h Q ↔ (if y ≤ x then Ev X 142 58 ls st h Q else Ev X 142 17 ls st h Q) := R_icge rfl
theorem e_142_17 : Ev X 142 17 ls st h Q ↔ onR (gl ls 0) (fun z => Ev X 142 18 ls (vr z :: st) h Q) := R_al rfl (Or.inl rfl)
theorem e_142_18 : Ev X 142 18 ls st h Q ↔ onR (gl ls 0) (fun z => Ev X 142 19 ls (vr z :: st) h Q) := R_al rfl (Or.inl rfl)
theorem e_142_19 {x : Nat} : Ev X 142 19 ls (vr x :: st) h Q ↔ (X.1 x = 11 ∧ Ev X 142 20 ls (vr (X.2.2.1 x 1) :: st) h Q) := R_gr rfl
theorem e_142_20 : Ev X 142 20 ls st h Q ↔ onI (gl ls 2) (fun z => Ev X 142 21 ls (vi z :: st) h Q) := R_il rfl (Or.inl rfl)
theorem e_142_21 {x : Nat} {j : Int} : Ev X 142 21 ls (vi j :: vr x :: st) h Q ↔ (((X.1 x = 13 ∨ X.1 x = 20) ∧ 0 ≤ j ∧ j < X.2.1 x) ∧ Ev X 142 22 ls (vi (h.1 x j.toNat) :: st) h Q) := R_ia rfl
theorem e_142_22 : Ev X 142 22 ls st h Q ↔ onR (gl ls 0) (fun z => Ev X 142 23 ls (vr z :: st) h Q) := R_al rfl (Or.inl rfl)
theorem e_142_23 {x : Nat} : Ev X 142 23 ls (vr x :: st) h Q ↔ (X.1 x = 11 ∧ Ev X 142 24 ls (vr (X.2.2.1 x 1) :: st) h Q) := R_gr rfl
theorem e_142_24 : Ev X 142 24 ls st h Q ↔ onI (gl ls 2) (fun z => Ev X 142 25 ls (vi z :: st) h Q) := R_il rfl (Or.inl rfl)
theorem e_142_25 : Ev X 142 25 ls st h Q ↔ Ev X 142 26 ls (vi 1 :: st) h Q := R_kc rfl (Or.inl ⟨Or.inl rfl, by decide⟩)
theorem e_142_26 {x y : Int} : Ev X 142 26 ls (vi y :: vi x :: st) h Q ↔ ((inR (x + y)) ∧ Ev X 142 27 ls (vi (x + y) :: st) h Q) := R_add rfl
theorem e_142_27 {x : Nat} {j : Int} : Ev X 142 27 ls (vi j :: vr x :: st) h Q ↔ (((X.1 x = 13 ∨ X.1 x = 20) ∧ 0 ≤ j ∧ j < X.2.1 x) ∧ Ev X 142 28 ls (vi (h.1 x j.toNat) :: st) h Q) := R_ia rfl
theorem e_142_28 {rest : List xV} {a0 : Int} {a1 : Int} {o : Nat} : Ev X 142 28 ls ((vi a1) :: (vi a0) :: vr o :: rest) h Q ↔ ((X.1 o = 11 ∧ wd rest ≤ 8) ∧ Cl X 143 [vr o, vi a0, vi a1] h (fun r h2 => Ev X 142 29 ls (r.toList ++ rest) h2 Q)) := R_cv (x := o) (as := [vi a0, vi a1]) (k2 := 143) rfl rfl (Nat.le_of_ble_eq_true rfl)
theorem e_142_29 {x : Int} : Ev X 142 29 ls (vi x :: st) h Q ↔ (if ¬ x = 0 then Ev X 142 32 ls st h Q else Ev X 142 30 ls st h Q) := R_ifne rfl
theorem e_142_30 : Ev X 142 30 ls st h Q ↔ Ev X 142 31 ls (vi 0 :: st) h Q := R_kc rfl (Or.inl ⟨Or.inl rfl, by decide⟩)
theorem e_142_31 {z : Int} : Ev X 142 31 ls [vi z] h Q ↔ ((z = 0 ∨ z = 1) ∧ Q (some (vi z)) h) := R_zr rfl
theorem e_142_32 : Ev X 142 32 ls st h Q ↔ Ev X 142 33 ls (vi 0 :: st) h Q := R_kc rfl (Or.inl ⟨Or.inl rfl, by decide⟩)
theorem e_142_33 {x : Int} : Ev X 142 33 ls (vi x :: st) h Q ↔ (stOK ls 3 = true ∧ Ev X 142 34 (ls.set 3 (some (vi x))) st h Q) := R_is rfl (Or.inl rfl)
theorem e_142_34 : Ev X 142 34 ls st h Q ↔ onI (gl ls 3) (fun z => Ev X 142 35 ls (vi z :: st) h Q) := R_il rfl (Or.inl rfl)
theorem e_142_35 : Ev X 142 35 ls st h Q ↔ onI (gl ls 2) (fun z => Ev X 142 36 ls (vi z :: st) h Q) := R_il rfl (Or.inl rfl)
theorem e_142_36 {x y : Int} : Ev X 142 36 ls (vi y :: vi x :: st) h Q ↔ (if y ≤ x then Ev X 142 56 ls st h Q else Ev X 142 37 ls st h Q) := R_icge rfl
theorem e_142_37 : Ev X 142 37 ls st h Q ↔ onR (gl ls 0) (fun z => Ev X 142 38 ls (vr z :: st) h Q) := R_al rfl (Or.inl rfl)
theorem e_142_38 {x : Nat} : Ev X 142 38 ls (vr x :: st) h Q ↔ (X.1 x = 11 ∧ Ev X 142 39 ls (vr (X.2.2.1 x 1) :: st) h Q) := R_gr rfl
theorem e_142_39 : Ev X 142 39 ls st h Q ↔ onI (gl ls 2) (fun z => Ev X 142 40 ls (vi z :: st) h Q) := R_il rfl (Or.inl rfl)
theorem e_142_40 {x : Nat} {j : Int} : Ev X 142 40 ls (vi j :: vr x :: st) h Q ↔ (((X.1 x = 13 ∨ X.1 x = 20) ∧ 0 ≤ j ∧ j < X.2.1 x) ∧ Ev X 142 41 ls (vi (h.1 x j.toNat) :: st) h Q) := R_ia rfl
theorem e_142_41 : Ev X 142 41 ls st h Q ↔ Ev X 142 42 ls (vi 200 :: st) h Q := R_kc rfl (Or.inr (Or.inr ⟨rfl, by decide⟩))
theorem e_142_42 {x y : Int} : Ev X 142 42 ls (vi y :: vi x :: st) h Q ↔ (if y ≤ x then Ev X 142 54 ls st h Q else Ev X 142 43 ls st h Q) := R_icge rfl
theorem e_142_43 : Ev X 142 43 ls st h Q ↔ onR (gl ls 0) (fun z => Ev X 142 44 ls (vr z :: st) h Q) := R_al rfl (Or.inl rfl)
theorem e_142_44 {x : Nat} : Ev X 142 44 ls (vr x :: st) h Q ↔ (X.1 x = 11 ∧ Ev X 142 45 ls (vr (X.2.2.1 x 1) :: st) h Q) := R_gr rfl
theorem e_142_45 : Ev X 142 45 ls st h Q ↔ onI (gl ls 3) (fun z => Ev X 142 46 ls (vi z :: st) h Q) := R_il rfl (Or.inl rfl)
theorem e_142_46 {x : Nat} {j : Int} : Ev X 142 46 ls (vi j :: vr x :: st) h Q ↔ (((X.1 x = 13 ∨ X.1 x = 20) ∧ 0 ≤ j ∧ j < X.2.1 x) ∧ Ev X 142 47 ls (vi (h.1 x j.toNat) :: st) h Q) := R_ia rfl
theorem e_142_47 : Ev X 142 47 ls st h Q ↔ onR (gl ls 0) (fun z => Ev X 142 48 ls (vr z :: st) h Q) := R_al rfl (Or.inl rfl)
theorem e_142_48 {x : Nat} : Ev X 142 48 ls (vr x :: st) h Q ↔ (X.1 x = 11 ∧ Ev X 142 49 ls (vr (X.2.2.1 x 1) :: st) h Q) := R_gr rfl
theorem e_142_49 : Ev X 142 49 ls st h Q ↔ onI (gl ls 2) (fun z => Ev X 142 50 ls (vi z :: st) h Q) := R_il rfl (Or.inl rfl)
theorem e_142_50 {x : Nat} {j : Int} : Ev X 142 50 ls (vi j :: vr x :: st) h Q ↔ (((X.1 x = 13 ∨ X.1 x = 20) ∧ 0 ≤ j ∧ j < X.2.1 x) ∧ Ev X 142 51 ls (vi (h.1 x j.toNat) :: st) h Q) := R_ia rfl
theorem e_142_51 {x y : Int} : Ev X 142 51 ls (vi y :: vi x :: st) h Q ↔ (if ¬ x = y then Ev X 142 54 ls st h Q else Ev X 142 52 ls st h Q) := R_icne rfl
theorem e_142_52 : Ev X 142 52 ls st h Q ↔ Ev X 142 53 ls (vi 0 :: st) h Q := R_kc rfl (Or.inl ⟨Or.inl rfl, by decide⟩)
theorem e_142_53 {z : Int} : Ev X 142 53 ls [vi z] h Q ↔ ((z = 0 ∨ z = 1) ∧ Q (some (vi z)) h) := R_zr rfl
theorem e_142_54 : Ev X 142 54 ls st h Q ↔ onI (gl ls 3) (fun x => (stOK ls 3 = true ∧ inR (x + 2)) ∧ Ev X 142 55 (ls.set 3 (some (vi (x + 2)))) st h Q) := R_inc rfl
theorem e_142_55 : Ev X 142 55 ls st h Q ↔ Ev X 142 34 ls st h Q := R_go rfl
theorem e_142_56 : Ev X 142 56 ls st h Q ↔ onI (gl ls 2) (fun x => (stOK ls 2 = true ∧ inR (x + 2)) ∧ Ev X 142 57 (ls.set 2 (some (vi (x + 2)))) st h Q) := R_inc rfl
theorem e_142_57 : Ev X 142 57 ls st h Q ↔ Ev X 142 14 ls st h Q := R_go rfl
theorem e_142_58 : Ev X 142 58 ls st h Q ↔ Ev X 142 59 ls (vi 1 :: st) h Q := R_kc rfl (Or.inl ⟨Or.inl rfl, by decide⟩)
theorem e_142_59 {z : Int} : Ev X 142 59 ls [vi z] h Q ↔ ((z = 0 ∨ z = 1) ∧ Q (some (vi z)) h) := R_zr rfl
-- 143: CellRows.isPin(II)Z
theorem e_143_0 : Ev X 143 0 ls st h Q ↔ onI (gl ls 1) (fun z => Ev X 143 1 ls (vi z :: st) h Q) := R_il rfl (Or.inl rfl)
theorem e_143_1 : Ev X 143 1 ls st h Q ↔ Ev X 143 2 ls (vi 200 :: st) h Q := R_kc rfl (Or.inr (Or.inr ⟨rfl, by decide⟩))
theorem e_143_2 {x y : Int} : Ev X 143 2 ls (vi y :: vi x :: st) h Q ↔ (if x < y then Ev X 143 11 ls st h Q else Ev X 143 3 ls st h Q) := R_iclt rfl
theorem e_143_3 : Ev X 143 3 ls st h Q ↔ onR (gl ls 0) (fun z => Ev X 143 4 ls (vr z :: st) h Q) := R_al rfl (Or.inl rfl)
theorem e_143_4 {x : Nat} : Ev X 143 4 ls (vr x :: st) h Q ↔ (X.1 x = 11 ∧ Ev X 143 5 ls (vr (X.2.2.1 x 5) :: st) h Q) := R_gr rfl
theorem e_143_5 : Ev X 143 5 ls st h Q ↔ onI (gl ls 1) (fun z => Ev X 143 6 ls (vi z :: st) h Q) := R_il rfl (Or.inl rfl)
theorem e_143_6 : Ev X 143 6 ls st h Q ↔ Ev X 143 7 ls (vi 200 :: st) h Q := R_kc rfl (Or.inr (Or.inr ⟨rfl, by decide⟩))
theorem e_143_7 {x y : Int} : Ev X 143 7 ls (vi y :: vi x :: st) h Q ↔ ((inR (x - y)) ∧ Ev X 143 8 ls (vi (x - y) :: st) h Q) := R_sub rfl
theorem e_143_8 : Ev X 143 8 ls st h Q ↔ onI (gl ls 2) (fun z => Ev X 143 9 ls (vi z :: st) h Q) := R_il rfl (Or.inl rfl)
theorem e_143_9 {rest : List xV} {a0 : Int} {a1 : Int} {o : Nat} : Ev X 143 9 ls ((vi a1) :: (vi a0) :: vr o :: rest) h Q ↔ ((X.1 o = 9 ∧ wd rest ≤ 8) ∧ Cl X 77 [vr o, vi a0, vi a1] h (fun r h2 => Ev X 143 10 ls (r.toList ++ rest) h2 Q)) := R_cv (x := o) (as := [vi a0, vi a1]) (k2 := 77) rfl rfl (Nat.le_of_ble_eq_true rfl)
theorem e_143_10 {z : Int} : Ev X 143 10 ls [vi z] h Q ↔ ((z = 0 ∨ z = 1) ∧ Q (some (vi z)) h) := R_zr rfl
theorem e_143_11 : Ev X 143 11 ls st h Q ↔ onR (gl ls 0) (fun z => Ev X 143 12 ls (vr z :: st) h Q) := R_al rfl (Or.inl rfl)
theorem e_143_12 {x : Nat} : Ev X 143 12 ls (vr x :: st) h Q ↔ (X.1 x = 11 ∧ Ev X 143 13 ls (vr (X.2.2.1 x 5) :: st) h Q) := R_gr rfl
theorem e_143_13 : Ev X 143 13 ls st h Q ↔ onI (gl ls 1) (fun z => Ev X 143 14 ls (vi z :: st) h Q) := R_il rfl (Or.inl rfl)
theorem e_143_14 {rest : List xV} {a0 : Int} {o : Nat} : Ev X 143 14 ls ((vi a0) :: vr o :: rest) h Q ↔ ((X.1 o = 9 ∧ wd rest ≤ 8) ∧ Cl X 79 [vr o, vi a0] h (fun r h2 => Ev X 143 15 ls (r.toList ++ rest) h2 Q)) := R_cv (x := o) (as := [vi a0]) (k2 := 79) rfl rfl (Nat.le_of_ble_eq_true rfl)
theorem e_143_15 {x : Int} : Ev X 143 15 ls (vi x :: st) h Q ↔ (if x = 0 then Ev X 143 26 ls st h Q else Ev X 143 16 ls st h Q) := R_ifeq rfl
theorem e_143_16 : Ev X 143 16 ls st h Q ↔ onI (gl ls 2) (fun z => Ev X 143 17 ls (vi z :: st) h Q) := R_il rfl (Or.inl rfl)
theorem e_143_17 : Ev X 143 17 ls st h Q ↔ onR (gl ls 0) (fun z => Ev X 143 18 ls (vr z :: st) h Q) := R_al rfl (Or.inl rfl)
theorem e_143_18 {x : Nat} : Ev X 143 18 ls (vr x :: st) h Q ↔ (X.1 x = 11 ∧ Ev X 143 19 ls (vr (X.2.2.1 x 5) :: st) h Q) := R_gr rfl
theorem e_143_19 {x : Nat} : Ev X 143 19 ls (vr x :: st) h Q ↔ (X.1 x = 9 ∧ Ev X 143 20 ls (vr (X.2.2.1 x 4) :: st) h Q) := R_gr rfl
theorem e_143_20 {x : Nat} : Ev X 143 20 ls (vr x :: st) h Q ↔ (X.1 x = 3 ∧ Ev X 143 21 ls (vr (X.2.2.1 x 1) :: st) h Q) := R_gr rfl
theorem e_143_21 : Ev X 143 21 ls st h Q ↔ onI (gl ls 1) (fun z => Ev X 143 22 ls (vi z :: st) h Q) := R_il rfl (Or.inl rfl)
theorem e_143_22 {x : Nat} {j : Int} : Ev X 143 22 ls (vi j :: vr x :: st) h Q ↔ (((X.1 x = 13 ∨ X.1 x = 20) ∧ 0 ≤ j ∧ j < X.2.1 x) ∧ Ev X 143 23 ls (vi (h.1 x j.toNat) :: st) h Q) := R_ia rfl
theorem e_143_23 {x y : Int} : Ev X 143 23 ls (vi y :: vi x :: st) h Q ↔ (if y ≤ x then Ev X 143 26 ls st h Q else Ev X 143 24 ls st h Q) := R_icge rfl
theorem e_143_24 : Ev X 143 24 ls st h Q ↔ Ev X 143 25 ls (vi 1 :: st) h Q := R_kc rfl (Or.inl ⟨Or.inl rfl, by decide⟩)
theorem e_143_25 : Ev X 143 25 ls st h Q ↔ Ev X 143 27 ls st h Q := R_go rfl
theorem e_143_26 : Ev X 143 26 ls st h Q ↔ Ev X 143 27 ls (vi 0 :: st) h Q := R_kc rfl (Or.inl ⟨Or.inl rfl, by decide⟩)
theorem e_143_27 {z : Int} : Ev X 143 27 ls [vi z] h Q ↔ ((z = 0 ∨ z = 1) ∧ Q (some (vi z)) h) := R_zr rfl
-- 144: CellRows.pinByte(II)I
theorem e_144_0 : Ev X 144 0 ls st h Q ↔ onI (gl ls 2) (fun z => Ev X 144 1 ls (vi z :: st) h Q) := R_il rfl (Or.inl rfl)
theorem e_144_1 : Ev X 144 1 ls st h Q ↔ Ev X 144 2 ls (vi 10 :: st) h Q := R_kc rfl (Or.inr (Or.inl ⟨rfl, by decide⟩))
theorem e_144_2 {x y : Int} : Ev X 144 2 ls (vi y :: vi x :: st) h Q ↔ (if x < y then Ev X 144 15 ls st h Q else Ev X 144 3 ls st h Q) := R_iclt rfl
theorem e_144_3 : Ev X 144 3 ls st h Q ↔ onI (gl ls 2) (fun z => Ev X 144 4 ls (vi z :: st) h Q) := R_il rfl (Or.inl rfl)
theorem e_144_4 : Ev X 144 4 ls st h Q ↔ Ev X 144 5 ls (vi 10 :: st) h Q := R_kc rfl (Or.inr (Or.inl ⟨rfl, by decide⟩))
theorem e_144_5 : Ev X 144 5 ls st h Q ↔ Ev X 144 6 ls (vi 2 :: st) h Q := R_kc rfl (Or.inl ⟨Or.inl rfl, by decide⟩)
theorem e_144_6 : Ev X 144 6 ls st h Q ↔ onR (gl ls 0) (fun z => Ev X 144 7 ls (vr z :: st) h Q) := R_al rfl (Or.inl rfl)
theorem e_144_7 {x : Nat} : Ev X 144 7 ls (vr x :: st) h Q ↔ (X.1 x = 11 ∧ Ev X 144 8 ls (vr (X.2.2.1 x 5) :: st) h Q) := R_gr rfl
theorem e_144_8 {x : Nat} : Ev X 144 8 ls (vr x :: st) h Q ↔ (X.1 x = 9 ∧ Ev X 144 9 ls (vr (X.2.2.1 x 5) :: st) h Q) := R_gr rfl
theorem e_144_9 {x : Nat} : Ev X 144 9 ls (vr x :: st) h Q ↔ (X.1 x = 6 ∧ Ev X 144 10 ls (vr (X.2.2.1 x 2) :: st) h Q) := R_gr rfl
theorem e_144_10 : Ev X 144 10 ls st h Q ↔ onI (gl ls 1) (fun z => Ev X 144 11 ls (vi z :: st) h Q) := R_il rfl (Or.inl rfl)
theorem e_144_11 {x : Nat} {j : Int} : Ev X 144 11 ls (vi j :: vr x :: st) h Q ↔ (((X.1 x = 13 ∨ X.1 x = 20) ∧ 0 ≤ j ∧ j < X.2.1 x) ∧ Ev X 144 12 ls (vi (h.1 x j.toNat) :: st) h Q) := R_ia rfl
theorem e_144_12 {x y : Int} : Ev X 144 12 ls (vi y :: vi x :: st) h Q ↔ ((inR (x * y)) ∧ Ev X 144 13 ls (vi (x * y) :: st) h Q) := R_mul rfl
theorem e_144_13 {x y : Int} : Ev X 144 13 ls (vi y :: vi x :: st) h Q ↔ ((inR (x + y)) ∧ Ev X 144 14 ls (vi (x + y) :: st) h Q) := R_add rfl
theorem e_144_14 {x y : Int} : Ev X 144 14 ls (vi y :: vi x :: st) h Q ↔ (if x < y then Ev X 144 17 ls st h Q else Ev X 144 15 ls st h Q) := R_iclt rfl
theorem e_144_15 : Ev X 144 15 ls st h Q ↔ Ev X 144 16 ls (vi (-1) :: st) h Q := R_kc rfl (Or.inl ⟨Or.inl rfl, by decide⟩)
theorem e_144_16 {z : Int} : Ev X 144 16 ls [vi z] h Q ↔ Q (some (vi z)) h := R_ir rfl
theorem e_144_17 : Ev X 144 17 ls st h Q ↔ onI (gl ls 1) (fun z => Ev X 144 18 ls (vi z :: st) h Q) := R_il rfl (Or.inl rfl)
theorem e_144_18 : Ev X 144 18 ls st h Q ↔ Ev X 144 19 ls (vi 6 :: st) h Q := R_kc rfl (Or.inr (Or.inl ⟨rfl, by decide⟩))
theorem e_144_19 {x y : Int} : Ev X 144 19 ls (vi y :: vi x :: st) h Q ↔ ((inR (x * y)) ∧ Ev X 144 20 ls (vi (x * y) :: st) h Q) := R_mul rfl
theorem e_144_20 : Ev X 144 20 ls st h Q ↔ onI (gl ls 2) (fun z => Ev X 144 21 ls (vi z :: st) h Q) := R_il rfl (Or.inl rfl)
theorem e_144_21 : Ev X 144 21 ls st h Q ↔ Ev X 144 22 ls (vi 10 :: st) h Q := R_kc rfl (Or.inr (Or.inl ⟨rfl, by decide⟩))
theorem e_144_22 {x y : Int} : Ev X 144 22 ls (vi y :: vi x :: st) h Q ↔ ((inR (x - y)) ∧ Ev X 144 23 ls (vi (x - y) :: st) h Q) := R_sub rfl
theorem e_144_23 : Ev X 144 23 ls st h Q ↔ Ev X 144 24 ls (vi 2 :: st) h Q := R_kc rfl (Or.inl ⟨Or.inl rfl, by decide⟩)
theorem e_144_24 {x y : Int} : Ev X 144 24 ls (vi y :: vi x :: st) h Q ↔ ((y ≠ 0 ∧ inR (x.tdiv y)) ∧ Ev X 144 25 ls (vi (x.tdiv y) :: st) h Q) := R_div rfl
theorem e_144_25 {x y : Int} : Ev X 144 25 ls (vi y :: vi x :: st) h Q ↔ ((inR (x + y)) ∧ Ev X 144 26 ls (vi (x + y) :: st) h Q) := R_add rfl
theorem e_144_26 {x : Int} : Ev X 144 26 ls (vi x :: st) h Q ↔ (stOK ls 3 = true ∧ Ev X 144 27 (ls.set 3 (some (vi x))) st h Q) := R_is rfl (Or.inl rfl)
theorem e_144_27 : Ev X 144 27 ls st h Q ↔ onI (gl ls 2) (fun z => Ev X 144 28 ls (vi z :: st) h Q) := R_il rfl (Or.inl rfl)
theorem e_144_28 : Ev X 144 28 ls st h Q ↔ Ev X 144 29 ls (vi 2 :: st) h Q := R_kc rfl (Or.inl ⟨Or.inl rfl, by decide⟩)
theorem e_144_29 {x y : Int} : Ev X 144 29 ls (vi y :: vi x :: st) h Q ↔ ((y ≠ 0 ∧ inR (x.tdiv y)) ∧ Ev X 144 30 ls (vi (x.tmod y) :: st) h Q) := R_rem rfl
theorem e_144_30 {x : Int} : Ev X 144 30 ls (vi x :: st) h Q ↔ (if ¬ x = 0 then Ev X 144 38 ls st h Q else Ev X 144 31 ls st h Q) := R_ifne rfl
theorem e_144_31 : Ev X 144 31 ls st h Q ↔ onR (gl ls 0) (fun z => Ev X 144 32 ls (vr z :: st) h Q) := R_al rfl (Or.inl rfl)
theorem e_144_32 {x : Nat} : Ev X 144 32 ls (vr x :: st) h Q ↔ (X.1 x = 11 ∧ Ev X 144 33 ls (vr (X.2.2.1 x 5) :: st) h Q) := R_gr rfl
theorem e_144_33 {x : Nat} : Ev X 144 33 ls (vr x :: st) h Q ↔ (X.1 x = 9 ∧ Ev X 144 34 ls (vr (X.2.2.1 x 5) :: st) h Q) := R_gr rfl
theorem e_144_34 {x : Nat} : Ev X 144 34 ls (vr x :: st) h Q ↔ (X.1 x = 6 ∧ Ev X 144 35 ls (vr (X.2.2.1 x 3) :: st) h Q) := R_gr rfl
theorem e_144_35 : Ev X 144 35 ls st h Q ↔ onI (gl ls 3) (fun z => Ev X 144 36 ls (vi z :: st) h Q) := R_il rfl (Or.inl rfl)
theorem e_144_36 {x : Nat} {j : Int} : Ev X 144 36 ls (vi j :: vr x :: st) h Q ↔ (((X.1 x = 13 ∨ X.1 x = 20) ∧ 0 ≤ j ∧ j < X.2.1 x) ∧ Ev X 144 37 ls (vi (h.1 x j.toNat) :: st) h Q) := R_ia rfl
theorem e_144_37 : Ev X 144 37 ls st h Q ↔ Ev X 144 44 ls st h Q := R_go rfl
theorem e_144_38 : Ev X 144 38 ls st h Q ↔ onR (gl ls 0) (fun z => Ev X 144 39 ls (vr z :: st) h Q) := R_al rfl (Or.inl rfl)
theorem e_144_39 {x : Nat} : Ev X 144 39 ls (vr x :: st) h Q ↔ (X.1 x = 11 ∧ Ev X 144 40 ls (vr (X.2.2.1 x 5) :: st) h Q) := R_gr rfl
theorem e_144_40 {x : Nat} : Ev X 144 40 ls (vr x :: st) h Q ↔ (X.1 x = 9 ∧ Ev X 144 41 ls (vr (X.2.2.1 x 5) :: st) h Q) := R_gr rfl
theorem e_144_41 {x : Nat} : Ev X 144 41 ls (vr x :: st) h Q ↔ (X.1 x = 6 ∧ Ev X 144 42 ls (vr (X.2.2.1 x 4) :: st) h Q) := R_gr rfl
theorem e_144_42 : Ev X 144 42 ls st h Q ↔ onI (gl ls 3) (fun z => Ev X 144 43 ls (vi z :: st) h Q) := R_il rfl (Or.inl rfl)
theorem e_144_43 {x : Nat} {j : Int} : Ev X 144 43 ls (vi j :: vr x :: st) h Q ↔ (((X.1 x = 13 ∨ X.1 x = 20) ∧ 0 ≤ j ∧ j < X.2.1 x) ∧ Ev X 144 44 ls (vi (h.1 x j.toNat) :: st) h Q) := R_ia rfl
theorem e_144_44 {z : Int} : Ev X 144 44 ls [vi z] h Q ↔ Q (some (vi z)) h := R_ir rfl
-- 145: CellRows.lookAtGroundAndBins()V
theorem e_145_0 : Ev X 145 0 ls st h Q ↔ onR (gl ls 0) (fun z => Ev X 145 1 ls (vr z :: st) h Q) := R_al rfl (Or.inl rfl)
theorem e_145_1 {x : Nat} : Ev X 145 1 ls (vr x :: st) h Q ↔ (X.1 x = 11 ∧ Ev X 145 2 ls (vr (X.2.2.1 x 8) :: st) h Q) := R_gr rfl
theorem e_145_2 : Ev X 145 2 ls st h Q ↔ onR (gl ls 0) (fun z => Ev X 145 3 ls (vr z :: st) h Q) := R_al rfl (Or.inl rfl)
theorem e_145_3 {x : Nat} : Ev X 145 3 ls (vr x :: st) h Q ↔ (X.1 x = 11 ∧ Ev X 145 4 ls (vr (X.2.2.1 x 5) :: st) h Q) := R_gr rfl
theorem e_145_4 {rest : List xV} {a0 : Nat} {o : Nat} : Ev X 145 4 ls ((vr a0) :: vr o :: rest) h Q ↔ ((X.1 o = 4 ∧ wd rest ≤ 8) ∧ Cl X 32 [vr o, vr a0] h (fun r h2 => Ev X 145 5 ls (r.toList ++ rest) h2 Q)) := R_cv (x := o) (as := [vr a0]) (k2 := 32) rfl rfl (Nat.le_of_ble_eq_true rfl)
theorem e_145_5 : Ev X 145 5 ls st h Q ↔ onR (gl ls 0) (fun z => Ev X 145 6 ls (vr z :: st) h Q) := R_al rfl (Or.inl rfl)
theorem e_145_6 {x : Nat} : Ev X 145 6 ls (vr x :: st) h Q ↔ (X.1 x = 11 ∧ Ev X 145 7 ls (vr (X.2.2.1 x 10) :: st) h Q) := R_gr rfl
theorem e_145_7 : Ev X 145 7 ls st h Q ↔ onR (gl ls 0) (fun z => Ev X 145 8 ls (vr z :: st) h Q) := R_al rfl (Or.inl rfl)
theorem e_145_8 {x : Nat} : Ev X 145 8 ls (vr x :: st) h Q ↔ (X.1 x = 11 ∧ Ev X 145 9 ls (vr (X.2.2.1 x 8) :: st) h Q) := R_gr rfl
theorem e_145_9 {rest : List xV} {a0 : Nat} {o : Nat} : Ev X 145 9 ls ((vr a0) :: vr o :: rest) h Q ↔ ((X.1 o = 1 ∧ wd rest ≤ 8) ∧ Cl X 6 [vr o, vr a0] h (fun r h2 => Ev X 145 10 ls (r.toList ++ rest) h2 Q)) := R_cv (x := o) (as := [vr a0]) (k2 := 6) rfl rfl (Nat.le_of_ble_eq_true rfl)
theorem e_145_10 : Ev X 145 10 ls st h Q ↔ onR (gl ls 0) (fun z => Ev X 145 11 ls (vr z :: st) h Q) := R_al rfl (Or.inl rfl)
theorem e_145_11 {x : Nat} : Ev X 145 11 ls (vr x :: st) h Q ↔ (X.1 x = 11 ∧ Ev X 145 12 ls (vr (X.2.2.1 x 10) :: st) h Q) := R_gr rfl
theorem e_145_12 : Ev X 145 12 ls st h Q ↔ onR (gl ls 0) (fun z => Ev X 145 13 ls (vr z :: st) h Q) := R_al rfl (Or.inl rfl)
theorem e_145_13 {x : Nat} : Ev X 145 13 ls (vr x :: st) h Q ↔ (X.1 x = 11 ∧ Ev X 145 14 ls (vr (X.2.2.1 x 5) :: st) h Q) := R_gr rfl
theorem e_145_14 {x : Nat} : Ev X 145 14 ls (vr x :: st) h Q ↔ (X.1 x = 9 ∧ Ev X 145 15 ls (vr (X.2.2.1 x 4) :: st) h Q) := R_gr rfl
theorem e_145_15 {rest : List xV} {a0 : Nat} {o : Nat} : Ev X 145 15 ls ((vr a0) :: vr o :: rest) h Q ↔ ((X.1 o = 1 ∧ wd rest ≤ 8) ∧ Cl X 7 [vr o, vr a0] h (fun r h2 => Ev X 145 16 ls (r.toList ++ rest) h2 Q)) := R_cv (x := o) (as := [vr a0]) (k2 := 7) rfl rfl (Nat.le_of_ble_eq_true rfl)
theorem e_145_16 : Ev X 145 16 ls [] h Q ↔ Q none h := R_vr rfl
-- 146: CellRows.measureOfDemand(I)I
theorem e_146_0 : Ev X 146 0 ls st h Q ↔ onI (gl ls 1) (fun z => Ev X 146 1 ls (vi z :: st) h Q) := R_il rfl (Or.inl rfl)
theorem e_146_1 : Ev X 146 1 ls st h Q ↔ Ev X 146 2 ls (vi 6 :: st) h Q := R_kc rfl (Or.inr (Or.inl ⟨rfl, by decide⟩))
theorem e_146_2 {x y : Int} : Ev X 146 2 ls (vi y :: vi x :: st) h Q ↔ (if x < y then Ev X 146 6 ls st h Q else Ev X 146 3 ls st h Q) := R_iclt rfl
theorem e_146_3 : Ev X 146 3 ls st h Q ↔ onI (gl ls 1) (fun z => Ev X 146 4 ls (vi z :: st) h Q) := R_il rfl (Or.inl rfl)
theorem e_146_4 : Ev X 146 4 ls st h Q ↔ Ev X 146 5 ls (vi 8 :: st) h Q := R_kc rfl (Or.inr (Or.inl ⟨rfl, by decide⟩))
theorem e_146_5 {x y : Int} : Ev X 146 5 ls (vi y :: vi x :: st) h Q ↔ (if x ≤ y then Ev X 146 8 ls st h Q else Ev X 146 6 ls st h Q) := R_icle rfl
theorem e_146_6 : Ev X 146 6 ls st h Q ↔ Ev X 146 7 ls (vi (-1) :: st) h Q := R_kc rfl (Or.inl ⟨Or.inl rfl, by decide⟩)
theorem e_146_7 {z : Int} : Ev X 146 7 ls [vi z] h Q ↔ Q (some (vi z)) h := R_ir rfl
theorem e_146_8 : Ev X 146 8 ls st h Q ↔ onR (gl ls 0) (fun z => Ev X 146 9 ls (vr z :: st) h Q) := R_al rfl (Or.inl rfl)
theorem e_146_9 {x : Nat} : Ev X 146 9 ls (vr x :: st) h Q ↔ (X.1 x = 11 ∧ Ev X 146 10 ls (vr (X.2.2.1 x 10) :: st) h Q) := R_gr rfl
theorem e_146_10 : Ev X 146 10 ls st h Q ↔ onR (gl ls 0) (fun z => Ev X 146 11 ls (vr z :: st) h Q) := R_al rfl (Or.inl rfl)
theorem e_146_11 {x : Nat} : Ev X 146 11 ls (vr x :: st) h Q ↔ (X.1 x = 11 ∧ Ev X 146 12 ls (vr (X.2.2.1 x 5) :: st) h Q) := R_gr rfl
theorem e_146_12 : Ev X 146 12 ls st h Q ↔ onR (gl ls 0) (fun z => Ev X 146 13 ls (vr z :: st) h Q) := R_al rfl (Or.inl rfl)
theorem e_146_13 {x : Nat} : Ev X 146 13 ls (vr x :: st) h Q ↔ (X.1 x = 11 ∧ Ev X 146 14 ls (vr (X.2.2.1 x 9) :: st) h Q) := R_gr rfl
theorem e_146_14 {rest : List xV} {a0 : Nat} {a1 : Nat} {o : Nat} : Ev X 146 14 ls ((vr a1) :: (vr a0) :: vr o :: rest) h Q ↔ ((X.1 o = 1 ∧ wd rest ≤ 8) ∧ Cl X 11 [vr o, vr a0, vr a1] h (fun r h2 => Ev X 146 15 ls (r.toList ++ rest) h2 Q)) := R_cv (x := o) (as := [vr a0, vr a1]) (k2 := 11) rfl rfl (Nat.le_of_ble_eq_true rfl)
theorem e_146_15 : Ev X 146 15 ls st h Q ↔ onR (gl ls 0) (fun z => Ev X 146 16 ls (vr z :: st) h Q) := R_al rfl (Or.inl rfl)
theorem e_146_16 {x : Nat} : Ev X 146 16 ls (vr x :: st) h Q ↔ (X.1 x = 11 ∧ Ev X 146 17 ls (vr (X.2.2.1 x 10) :: st) h Q) := R_gr rfl
theorem e_146_17 {rest : List xV}  {o : Nat} : Ev X 146 17 ls (vr o :: rest) h Q ↔ ((X.1 o = 1 ∧ wd rest ≤ 8) ∧ Cl X 12 [vr o] h (fun r h2 => Ev X 146 18 ls (r.toList ++ rest) h2 Q)) := R_cv (x := o) (as := []) (k2 := 12) rfl rfl (Nat.le_of_ble_eq_true rfl)
theorem e_146_18 {x : Int} : Ev X 146 18 ls (vi x :: st) h Q ↔ (stOK ls 2 = true ∧ Ev X 146 19 (ls.set 2 (some (vi x))) st h Q) := R_is rfl (Or.inl rfl)
theorem e_146_19 : Ev X 146 19 ls st h Q ↔ onI (gl ls 1) (fun z => Ev X 146 20 ls (vi z :: st) h Q) := R_il rfl (Or.inl rfl)
theorem e_146_20 : Ev X 146 20 ls st h Q ↔ Ev X 146 21 ls (vi 6 :: st) h Q := R_kc rfl (Or.inr (Or.inl ⟨rfl, by decide⟩))
theorem e_146_21 {x y : Int} : Ev X 146 21 ls (vi y :: vi x :: st) h Q ↔ (if ¬ x = y then Ev X 146 28 ls st h Q else Ev X 146 22 ls st h Q) := R_icne rfl
theorem e_146_22 : Ev X 146 22 ls st h Q ↔ onR (gl ls 0) (fun z => Ev X 146 23 ls (vr z :: st) h Q) := R_al rfl (Or.inl rfl)
theorem e_146_23 {x : Nat} : Ev X 146 23 ls (vr x :: st) h Q ↔ (X.1 x = 11 ∧ Ev X 146 24 ls (vr (X.2.2.1 x 10) :: st) h Q) := R_gr rfl
theorem e_146_24 {x : Nat} : Ev X 146 24 ls (vr x :: st) h Q ↔ (X.1 x = 1 ∧ Ev X 146 25 ls (vr (X.2.2.1 x 5) :: st) h Q) := R_gr rfl
theorem e_146_25 : Ev X 146 25 ls st h Q ↔ onI (gl ls 2) (fun z => Ev X 146 26 ls (vi z :: st) h Q) := R_il rfl (Or.inl rfl)
theorem e_146_26 {x : Nat} {j : Int} : Ev X 146 26 ls (vi j :: vr x :: st) h Q ↔ (((X.1 x = 13 ∨ X.1 x = 20) ∧ 0 ≤ j ∧ j < X.2.1 x) ∧ Ev X 146 27 ls (vi (h.1 x j.toNat) :: st) h Q) := R_ia rfl
theorem e_146_27 {z : Int} : Ev X 146 27 ls [vi z] h Q ↔ Q (some (vi z)) h := R_ir rfl
theorem e_146_28 : Ev X 146 28 ls st h Q ↔ onI (gl ls 1) (fun z => Ev X 146 29 ls (vi z :: st) h Q) := R_il rfl (Or.inl rfl)
theorem e_146_29 : Ev X 146 29 ls st h Q ↔ Ev X 146 30 ls (vi 7 :: st) h Q := R_kc rfl (Or.inr (Or.inl ⟨rfl, by decide⟩))
theorem e_146_30 {x y : Int} : Ev X 146 30 ls (vi y :: vi x :: st) h Q ↔ (if ¬ x = y then Ev X 146 33 ls st h Q else Ev X 146 31 ls st h Q) := R_icne rfl
theorem e_146_31 : Ev X 146 31 ls st h Q ↔ onI (gl ls 2) (fun z => Ev X 146 32 ls (vi z :: st) h Q) := R_il rfl (Or.inl rfl)
theorem e_146_32 : Ev X 146 32 ls st h Q ↔ Ev X 146 36 ls st h Q := R_go rfl
theorem e_146_33 : Ev X 146 33 ls st h Q ↔ onR (gl ls 0) (fun z => Ev X 146 34 ls (vr z :: st) h Q) := R_al rfl (Or.inl rfl)
theorem e_146_34 {x : Nat} : Ev X 146 34 ls (vr x :: st) h Q ↔ (X.1 x = 11 ∧ Ev X 146 35 ls (vr (X.2.2.1 x 10) :: st) h Q) := R_gr rfl
theorem e_146_35 {rest : List xV}  {o : Nat} : Ev X 146 35 ls (vr o :: rest) h Q ↔ ((X.1 o = 1 ∧ wd rest ≤ 8) ∧ Cl X 13 [vr o] h (fun r h2 => Ev X 146 36 ls (r.toList ++ rest) h2 Q)) := R_cv (x := o) (as := []) (k2 := 13) rfl rfl (Nat.le_of_ble_eq_true rfl)
theorem e_146_36 {z : Int} : Ev X 146 36 ls [vi z] h Q ↔ Q (some (vi z)) h := R_ir rfl
-- 147: CellRows.movesOf(LCellRows$Cells;)I
theorem e_147_0 : Ev X 147 0 ls st h Q ↔ Ev X 147 1 ls (vi 0 :: st) h Q := R_kc rfl (Or.inl ⟨Or.inl rfl, by decide⟩)
theorem e_147_1 {x : Int} : Ev X 147 1 ls (vi x :: st) h Q ↔ (stOK ls 2 = true ∧ Ev X 147 2 (ls.set 2 (some (vi x))) st h Q) := R_is rfl (Or.inl rfl)
theorem e_147_2 : Ev X 147 2 ls st h Q ↔ Ev X 147 3 ls (vi 0 :: st) h Q := R_kc rfl (Or.inl ⟨Or.inl rfl, by decide⟩)
theorem e_147_3 {x : Int} : Ev X 147 3 ls (vi x :: st) h Q ↔ (stOK ls 3 = true ∧ Ev X 147 4 (ls.set 3 (some (vi x))) st h Q) := R_is rfl (Or.inl rfl)
theorem e_147_4 : Ev X 147 4 ls st h Q ↔ onI (gl ls 3) (fun z => Ev X 147 5 ls (vi z :: st) h Q) := R_il rfl (Or.inl rfl)
theorem e_147_5 : Ev X 147 5 ls st h Q ↔ onR (gl ls 1) (fun z => Ev X 147 6 ls (vr z :: st) h Q) := R_al rfl (Or.inl rfl)
theorem e_147_6 {x : Nat} : Ev X 147 6 ls (vr x :: st) h Q ↔ (X.1 x = 3 ∧ Ev X 147 7 ls (vi (h.2 x 0) :: st) h Q) := R_gi rfl
theorem e_147_7 {x y : Int} : Ev X 147 7 ls (vi y :: vi x :: st) h Q ↔ (if y ≤ x then Ev X 147 24 ls st h Q else Ev X 147 8 ls st h Q) := R_icge rfl
theorem e_147_8 : Ev X 147 8 ls st h Q ↔ onR (gl ls 1) (fun z => Ev X 147 9 ls (vr z :: st) h Q) := R_al rfl (Or.inl rfl)
theorem e_147_9 : Ev X 147 9 ls st h Q ↔ onI (gl ls 3) (fun z => Ev X 147 10 ls (vi z :: st) h Q) := R_il rfl (Or.inl rfl)
theorem e_147_10 {rest : List xV} {a0 : Int} {o : Nat} : Ev X 147 10 ls ((vi a0) :: vr o :: rest) h Q ↔ ((X.1 o = 3 ∧ wd rest ≤ 8) ∧ Cl X 22 [vr o, vi a0] h (fun r h2 => Ev X 147 11 ls (r.toList ++ rest) h2 Q)) := R_cv (x := o) (as := [vi a0]) (k2 := 22) rfl rfl (Nat.le_of_ble_eq_true rfl)
theorem e_147_11 {x : Int} : Ev X 147 11 ls (vi x :: st) h Q ↔ (if x = 0 then Ev X 147 22 ls st h Q else Ev X 147 12 ls st h Q) := R_ifeq rfl
theorem e_147_12 : Ev X 147 12 ls st h Q ↔ onI (gl ls 2) (fun z => Ev X 147 13 ls (vi z :: st) h Q) := R_il rfl (Or.inl rfl)
theorem e_147_13 : Ev X 147 13 ls st h Q ↔ onR (gl ls 1) (fun z => Ev X 147 14 ls (vr z :: st) h Q) := R_al rfl (Or.inl rfl)
theorem e_147_14 : Ev X 147 14 ls st h Q ↔ onI (gl ls 3) (fun z => Ev X 147 15 ls (vi z :: st) h Q) := R_il rfl (Or.inl rfl)
theorem e_147_15 : Ev X 147 15 ls st h Q ↔ onR (gl ls 0) (fun z => Ev X 147 16 ls (vr z :: st) h Q) := R_al rfl (Or.inl rfl)
theorem e_147_16 {x : Nat} : Ev X 147 16 ls (vr x :: st) h Q ↔ (X.1 x = 11 ∧ Ev X 147 17 ls (vr (X.2.2.1 x 0) :: st) h Q) := R_gr rfl
theorem e_147_17 : Ev X 147 17 ls st h Q ↔ Ev X 147 18 ls (vi 4 :: st) h Q := R_kc rfl (Or.inl ⟨Or.inl rfl, by decide⟩)
theorem e_147_18 {x : Nat} {j : Int} : Ev X 147 18 ls (vi j :: vr x :: st) h Q ↔ (((X.1 x = 13 ∨ X.1 x = 20) ∧ 0 ≤ j ∧ j < X.2.1 x) ∧ Ev X 147 19 ls (vi (h.1 x j.toNat) :: st) h Q) := R_ia rfl
theorem e_147_19 {rest : List xV} {a0 : Int} {a1 : Int} {o : Nat} : Ev X 147 19 ls ((vi a1) :: (vi a0) :: vr o :: rest) h Q ↔ ((X.1 o = 3 ∧ wd rest ≤ 8) ∧ Cl X 29 [vr o, vi a0, vi a1] h (fun r h2 => Ev X 147 20 ls (r.toList ++ rest) h2 Q)) := R_cv (x := o) (as := [vi a0, vi a1]) (k2 := 29) rfl rfl (Nat.le_of_ble_eq_true rfl)
theorem e_147_20 {x y : Int} : Ev X 147 20 ls (vi y :: vi x :: st) h Q ↔ ((inR (x + y)) ∧ Ev X 147 21 ls (vi (x + y) :: st) h Q) := R_add rfl
theorem e_147_21 {x : Int} : Ev X 147 21 ls (vi x :: st) h Q ↔ (stOK ls 2 = true ∧ Ev X 147 22 (ls.set 2 (some (vi x))) st h Q) := R_is rfl (Or.inl rfl)
theorem e_147_22 : Ev X 147 22 ls st h Q ↔ onI (gl ls 3) (fun x => (stOK ls 3 = true ∧ inR (x + 1)) ∧ Ev X 147 23 (ls.set 3 (some (vi (x + 1)))) st h Q) := R_inc rfl
theorem e_147_23 : Ev X 147 23 ls st h Q ↔ Ev X 147 4 ls st h Q := R_go rfl
theorem e_147_24 : Ev X 147 24 ls st h Q ↔ onI (gl ls 2) (fun z => Ev X 147 25 ls (vi z :: st) h Q) := R_il rfl (Or.inl rfl)
theorem e_147_25 {z : Int} : Ev X 147 25 ls [vi z] h Q ↔ Q (some (vi z)) h := R_ir rfl
-- 148: CellRows.fillersOfGap(II)I
theorem e_148_0 : Ev X 148 0 ls st h Q ↔ onI (gl ls 1) (fun z => Ev X 148 1 ls (vi z :: st) h Q) := R_il rfl (Or.inl rfl)
theorem e_148_1 : Ev X 148 1 ls st h Q ↔ Ev X 148 2 ls (vi 4 :: st) h Q := R_kc rfl (Or.inl ⟨Or.inl rfl, by decide⟩)
theorem e_148_2 {x y : Int} : Ev X 148 2 ls (vi y :: vi x :: st) h Q ↔ (if ¬ x = y then Ev X 148 7 ls st h Q else Ev X 148 3 ls st h Q) := R_icne rfl
theorem e_148_3 : Ev X 148 3 ls st h Q ↔ onI (gl ls 0) (fun z => Ev X 148 4 ls (vi z :: st) h Q) := R_il rfl (Or.inl rfl)
theorem e_148_4 : Ev X 148 4 ls st h Q ↔ Ev X 148 5 ls (vi 4 :: st) h Q := R_kc rfl (Or.inl ⟨Or.inl rfl, by decide⟩)
theorem e_148_5 {x y : Int} : Ev X 148 5 ls (vi y :: vi x :: st) h Q ↔ ((y ≠ 0 ∧ inR (x.tdiv y)) ∧ Ev X 148 6 ls (vi (x.tdiv y) :: st) h Q) := R_div rfl
theorem e_148_6 {z : Int} : Ev X 148 6 ls [vi z] h Q ↔ Q (some (vi z)) h := R_ir rfl
theorem e_148_7 : Ev X 148 7 ls st h Q ↔ onI (gl ls 1) (fun z => Ev X 148 8 ls (vi z :: st) h Q) := R_il rfl (Or.inl rfl)
theorem e_148_8 : Ev X 148 8 ls st h Q ↔ Ev X 148 9 ls (vi 2 :: st) h Q := R_kc rfl (Or.inl ⟨Or.inl rfl, by decide⟩)
theorem e_148_9 {x y : Int} : Ev X 148 9 ls (vi y :: vi x :: st) h Q ↔ (if ¬ x = y then Ev X 148 16 ls st h Q else Ev X 148 10 ls st h Q) := R_icne rfl
theorem e_148_10 : Ev X 148 10 ls st h Q ↔ onI (gl ls 0) (fun z => Ev X 148 11 ls (vi z :: st) h Q) := R_il rfl (Or.inl rfl)
theorem e_148_11 : Ev X 148 11 ls st h Q ↔ Ev X 148 12 ls (vi 4 :: st) h Q := R_kc rfl (Or.inl ⟨Or.inl rfl, by decide⟩)
theorem e_148_12 {x y : Int} : Ev X 148 12 ls (vi y :: vi x :: st) h Q ↔ ((y ≠ 0 ∧ inR (x.tdiv y)) ∧ Ev X 148 13 ls (vi (x.tmod y) :: st) h Q) := R_rem rfl
theorem e_148_13 : Ev X 148 13 ls st h Q ↔ Ev X 148 14 ls (vi 2 :: st) h Q := R_kc rfl (Or.inl ⟨Or.inl rfl, by decide⟩)
theorem e_148_14 {x y : Int} : Ev X 148 14 ls (vi y :: vi x :: st) h Q ↔ ((y ≠ 0 ∧ inR (x.tdiv y)) ∧ Ev X 148 15 ls (vi (x.tdiv y) :: st) h Q) := R_div rfl
theorem e_148_15 : Ev X 148 15 ls st h Q ↔ Ev X 148 19 ls st h Q := R_go rfl
theorem e_148_16 : Ev X 148 16 ls st h Q ↔ onI (gl ls 0) (fun z => Ev X 148 17 ls (vi z :: st) h Q) := R_il rfl (Or.inl rfl)
theorem e_148_17 : Ev X 148 17 ls st h Q ↔ Ev X 148 18 ls (vi 2 :: st) h Q := R_kc rfl (Or.inl ⟨Or.inl rfl, by decide⟩)
theorem e_148_18 {x y : Int} : Ev X 148 18 ls (vi y :: vi x :: st) h Q ↔ ((y ≠ 0 ∧ inR (x.tdiv y)) ∧ Ev X 148 19 ls (vi (x.tmod y) :: st) h Q) := R_rem rfl
theorem e_148_19 {z : Int} : Ev X 148 19 ls [vi z] h Q ↔ Q (some (vi z)) h := R_ir rfl
-- 149: CellRowsModel.in(JJJ)Z
theorem e_149_0 : Ev X 149 0 ls st h Q ↔ onL (gl ls 0) (fun z => Ev X 149 1 ls (vl z :: st) h Q) := R_ll rfl (Or.inl rfl)
theorem e_149_1 : Ev X 149 1 ls st h Q ↔ onL (gl ls 2) (fun z => Ev X 149 2 ls (vl z :: st) h Q) := R_ll rfl (Or.inl rfl)
theorem e_149_2 {x y : Int} : Ev X 149 2 ls (vl y :: vl x :: st) h Q ↔ Ev X 149 3 ls (vi (if y < x then 1 else if x = y then 0 else -1) :: st) h Q := R_lcmp rfl
theorem e_149_3 {x : Int} : Ev X 149 3 ls (vi x :: st) h Q ↔ (if x < 0 then Ev X 149 10 ls st h Q else Ev X 149 4 ls st h Q) := R_iflt rfl
theorem e_149_4 : Ev X 149 4 ls st h Q ↔ onL (gl ls 0) (fun z => Ev X 149 5 ls (vl z :: st) h Q) := R_ll rfl (Or.inl rfl)
theorem e_149_5 : Ev X 149 5 ls st h Q ↔ onL (gl ls 4) (fun z => Ev X 149 6 ls (vl z :: st) h Q) := R_ll rfl (Or.inr rfl)
theorem e_149_6 {x y : Int} : Ev X 149 6 ls (vl y :: vl x :: st) h Q ↔ Ev X 149 7 ls (vi (if y < x then 1 else if x = y then 0 else -1) :: st) h Q := R_lcmp rfl
theorem e_149_7 {x : Int} : Ev X 149 7 ls (vi x :: st) h Q ↔ (if 0 < x then Ev X 149 10 ls st h Q else Ev X 149 8 ls st h Q) := R_ifgt rfl
theorem e_149_8 : Ev X 149 8 ls st h Q ↔ Ev X 149 9 ls (vi 1 :: st) h Q := R_kc rfl (Or.inl ⟨Or.inl rfl, by decide⟩)
theorem e_149_9 : Ev X 149 9 ls st h Q ↔ Ev X 149 11 ls st h Q := R_go rfl
theorem e_149_10 : Ev X 149 10 ls st h Q ↔ Ev X 149 11 ls (vi 0 :: st) h Q := R_kc rfl (Or.inl ⟨Or.inl rfl, by decide⟩)
theorem e_149_11 {z : Int} : Ev X 149 11 ls [vi z] h Q ↔ ((z = 0 ∨ z = 1) ∧ Q (some (vi z)) h) := R_zr rfl
-- 150: CellRowsModel.far(II)I
theorem e_150_0 : Ev X 150 0 ls st h Q ↔ onI (gl ls 0) (fun z => Ev X 150 1 ls (vi z :: st) h Q) := R_il rfl (Or.inl rfl)
theorem e_150_1 : Ev X 150 1 ls st h Q ↔ onI (gl ls 1) (fun z => Ev X 150 2 ls (vi z :: st) h Q) := R_il rfl (Or.inl rfl)
theorem e_150_2 {x y : Int} : Ev X 150 2 ls (vi y :: vi x :: st) h Q ↔ (if y ≤ x then Ev X 150 7 ls st h Q else Ev X 150 3 ls st h Q) := R_icge rfl
theorem e_150_3 : Ev X 150 3 ls st h Q ↔ onI (gl ls 1) (fun z => Ev X 150 4 ls (vi z :: st) h Q) := R_il rfl (Or.inl rfl)
theorem e_150_4 : Ev X 150 4 ls st h Q ↔ onI (gl ls 0) (fun z => Ev X 150 5 ls (vi z :: st) h Q) := R_il rfl (Or.inl rfl)
theorem e_150_5 {x y : Int} : Ev X 150 5 ls (vi y :: vi x :: st) h Q ↔ ((inR (x - y)) ∧ Ev X 150 6 ls (vi (x - y) :: st) h Q) := R_sub rfl
theorem e_150_6 : Ev X 150 6 ls st h Q ↔ Ev X 150 10 ls st h Q := R_go rfl
theorem e_150_7 : Ev X 150 7 ls st h Q ↔ onI (gl ls 0) (fun z => Ev X 150 8 ls (vi z :: st) h Q) := R_il rfl (Or.inl rfl)
theorem e_150_8 : Ev X 150 8 ls st h Q ↔ onI (gl ls 1) (fun z => Ev X 150 9 ls (vi z :: st) h Q) := R_il rfl (Or.inl rfl)
theorem e_150_9 {x y : Int} : Ev X 150 9 ls (vi y :: vi x :: st) h Q ↔ ((inR (x - y)) ∧ Ev X 150 10 ls (vi (x - y) :: st) h Q) := R_sub rfl
theorem e_150_10 {z : Int} : Ev X 150 10 ls [vi z] h Q ↔ Q (some (vi z)) h := R_ir rfl
-- 151: CellRowsModel.held(III)I
theorem e_151_0 : Ev X 151 0 ls st h Q ↔ onI (gl ls 0) (fun z => Ev X 151 1 ls (vi z :: st) h Q) := R_il rfl (Or.inl rfl)
theorem e_151_1 : Ev X 151 1 ls st h Q ↔ onI (gl ls 2) (fun z => Ev X 151 2 ls (vi z :: st) h Q) := R_il rfl (Or.inl rfl)
theorem e_151_2 {x y : Int} : Ev X 151 2 ls (vi y :: vi x :: st) h Q ↔ (if x ≤ y then Ev X 151 5 ls st h Q else Ev X 151 3 ls st h Q) := R_icle rfl
theorem e_151_3 : Ev X 151 3 ls st h Q ↔ onI (gl ls 2) (fun z => Ev X 151 4 ls (vi z :: st) h Q) := R_il rfl (Or.inl rfl)
theorem e_151_4 : Ev X 151 4 ls st h Q ↔ Ev X 151 11 ls st h Q := R_go rfl
theorem e_151_5 : Ev X 151 5 ls st h Q ↔ onI (gl ls 0) (fun z => Ev X 151 6 ls (vi z :: st) h Q) := R_il rfl (Or.inl rfl)
theorem e_151_6 : Ev X 151 6 ls st h Q ↔ onI (gl ls 1) (fun z => Ev X 151 7 ls (vi z :: st) h Q) := R_il rfl (Or.inl rfl)
theorem e_151_7 {x y : Int} : Ev X 151 7 ls (vi y :: vi x :: st) h Q ↔ (if y ≤ x then Ev X 151 10 ls st h Q else Ev X 151 8 ls st h Q) := R_icge rfl
theorem e_151_8 : Ev X 151 8 ls st h Q ↔ onI (gl ls 1) (fun z => Ev X 151 9 ls (vi z :: st) h Q) := R_il rfl (Or.inl rfl)
theorem e_151_9 : Ev X 151 9 ls st h Q ↔ Ev X 151 11 ls st h Q := R_go rfl
theorem e_151_10 : Ev X 151 10 ls st h Q ↔ onI (gl ls 0) (fun z => Ev X 151 11 ls (vi z :: st) h Q) := R_il rfl (Or.inl rfl)
theorem e_151_11 {z : Int} : Ev X 151 11 ls [vi z] h Q ↔ Q (some (vi z)) h := R_ir rfl
-- 152: CellRowsModel.down(II)I
theorem e_152_0 : Ev X 152 0 ls st h Q ↔ onI (gl ls 0) (fun z => Ev X 152 1 ls (vi z :: st) h Q) := R_il rfl (Or.inl rfl)
theorem e_152_1 {x : Int} : Ev X 152 1 ls (vi x :: st) h Q ↔ (if x < 0 then Ev X 152 6 ls st h Q else Ev X 152 2 ls st h Q) := R_iflt rfl
theorem e_152_2 : Ev X 152 2 ls st h Q ↔ onI (gl ls 0) (fun z => Ev X 152 3 ls (vi z :: st) h Q) := R_il rfl (Or.inl rfl)
theorem e_152_3 : Ev X 152 3 ls st h Q ↔ onI (gl ls 1) (fun z => Ev X 152 4 ls (vi z :: st) h Q) := R_il rfl (Or.inl rfl)
theorem e_152_4 {x y : Int} : Ev X 152 4 ls (vi y :: vi x :: st) h Q ↔ ((y ≠ 0 ∧ inR (x.tdiv y)) ∧ Ev X 152 5 ls (vi (x.tdiv y) :: st) h Q) := R_div rfl
theorem e_152_5 : Ev X 152 5 ls st h Q ↔ Ev X 152 14 ls st h Q := R_go rfl
theorem e_152_6 : Ev X 152 6 ls st h Q ↔ onI (gl ls 1) (fun z => Ev X 152 7 ls (vi z :: st) h Q) := R_il rfl (Or.inl rfl)
theorem e_152_7 : Ev X 152 7 ls st h Q ↔ Ev X 152 8 ls (vi 1 :: st) h Q := R_kc rfl (Or.inl ⟨Or.inl rfl, by decide⟩)
theorem e_152_8 {x y : Int} : Ev X 152 8 ls (vi y :: vi x :: st) h Q ↔ ((inR (x - y)) ∧ Ev X 152 9 ls (vi (x - y) :: st) h Q) := R_sub rfl
theorem e_152_9 : Ev X 152 9 ls st h Q ↔ onI (gl ls 0) (fun z => Ev X 152 10 ls (vi z :: st) h Q) := R_il rfl (Or.inl rfl)
theorem e_152_10 {x y : Int} : Ev X 152 10 ls (vi y :: vi x :: st) h Q ↔ ((inR (x - y)) ∧ Ev X 152 11 ls (vi (x - y) :: st) h Q) := R_sub rfl
theorem e_152_11 : Ev X 152 11 ls st h Q ↔ onI (gl ls 1) (fun z => Ev X 152 12 ls (vi z :: st) h Q) := R_il rfl (Or.inl rfl)
theorem e_152_12 {x y : Int} : Ev X 152 12 ls (vi y :: vi x :: st) h Q ↔ ((y ≠ 0 ∧ inR (x.tdiv y)) ∧ Ev X 152 13 ls (vi (x.tdiv y) :: st) h Q) := R_div rfl
theorem e_152_13 {x : Int} : Ev X 152 13 ls (vi x :: st) h Q ↔ (inR (-x) ∧ Ev X 152 14 ls (vi (-x) :: st) h Q) := R_neg rfl
theorem e_152_14 {z : Int} : Ev X 152 14 ls [vi z] h Q ↔ Q (some (vi z)) h := R_ir rfl
-- 153: CellRowsModel.tell(I)I
theorem e_153_0 : Ev X 153 0 ls st h Q ↔ onR (gl ls 0) (fun z => Ev X 153 1 ls (vr z :: st) h Q) := R_al rfl (Or.inl rfl)
theorem e_153_1 : Ev X 153 1 ls st h Q ↔ Ev X 153 2 ls (vi 0 :: st) h Q := R_kc rfl (Or.inl ⟨Or.inl rfl, by decide⟩)
theorem e_153_2 {x : Nat} {v : Int} : Ev X 153 2 ls (vi v :: vr x :: st) h Q ↔ (X.1 x = 12 ∧ Ev X 153 3 ls st (h.1, up2 h.2 x 1 v) Q) := R_pi rfl
theorem e_153_3 : Ev X 153 3 ls st h Q ↔ onI (gl ls 1) (fun z => Ev X 153 4 ls (vi z :: st) h Q) := R_il rfl (Or.inl rfl)
theorem e_153_4 {z : Int} : Ev X 153 4 ls [vi z] h Q ↔ Q (some (vi z)) h := R_ir rfl
-- 154: CellRowsModel.refuse(I)I
theorem e_154_0 : Ev X 154 0 ls st h Q ↔ onR (gl ls 0) (fun z => Ev X 154 1 ls (vr z :: st) h Q) := R_al rfl (Or.inl rfl)
theorem e_154_1 : Ev X 154 1 ls st h Q ↔ onI (gl ls 1) (fun z => Ev X 154 2 ls (vi z :: st) h Q) := R_il rfl (Or.inl rfl)
theorem e_154_2 {x : Nat} {v : Int} : Ev X 154 2 ls (vi v :: vr x :: st) h Q ↔ (X.1 x = 12 ∧ Ev X 154 3 ls st (h.1, up2 h.2 x 1 v) Q) := R_pi rfl
theorem e_154_3 : Ev X 154 3 ls st h Q ↔ onR (gl ls 0) (fun z => Ev X 154 4 ls (vr z :: st) h Q) := R_al rfl (Or.inl rfl)
theorem e_154_4 {x : Nat} : Ev X 154 4 ls (vr x :: st) h Q ↔ (X.1 x = 12 ∧ Ev X 154 5 ls (vr (X.2.2.1 x 4) :: st) h Q) := R_gr rfl
theorem e_154_5 : Ev X 154 5 ls st h Q ↔ onI (gl ls 1) (fun z => Ev X 154 6 ls (vi z :: st) h Q) := R_il rfl (Or.inl rfl)
theorem e_154_6 {x : Int} : Ev X 154 6 ls (vi x :: st) h Q ↔ (inR (-x) ∧ Ev X 154 7 ls (vi (-x) :: st) h Q) := R_neg rfl
theorem e_154_7 {v w : xV} : Ev X 154 7 ls (v :: w :: st) h Q ↔ ((ct1 v = true ∧ ct1 w = true) ∧ Ev X 154 8 ls (v :: w :: v :: w :: st) h Q) := R_dup2 rfl
theorem e_154_8 {x : Nat} {j : Int} : Ev X 154 8 ls (vi j :: vr x :: st) h Q ↔ (((X.1 x = 13 ∨ X.1 x = 20) ∧ 0 ≤ j ∧ j < X.2.1 x) ∧ Ev X 154 9 ls (vi (h.1 x j.toNat) :: st) h Q) := R_ia rfl
theorem e_154_9 : Ev X 154 9 ls st h Q ↔ Ev X 154 10 ls (vi 1 :: st) h Q := R_kc rfl (Or.inl ⟨Or.inl rfl, by decide⟩)
theorem e_154_10 {x y : Int} : Ev X 154 10 ls (vi y :: vi x :: st) h Q ↔ ((inR (x + y)) ∧ Ev X 154 11 ls (vi (x + y) :: st) h Q) := R_add rfl
theorem e_154_11 {x : Nat} {j v : Int} : Ev X 154 11 ls (vi v :: vi j :: vr x :: st) h Q ↔ ((X.1 x = 13 ∧ 0 ≤ j ∧ j < X.2.1 x) ∧ Ev X 154 12 ls st (up2 h.1 x j.toNat v, h.2) Q) := R_ias rfl
theorem e_154_12 : Ev X 154 12 ls st h Q ↔ onI (gl ls 1) (fun z => Ev X 154 13 ls (vi z :: st) h Q) := R_il rfl (Or.inl rfl)
theorem e_154_13 {z : Int} : Ev X 154 13 ls [vi z] h Q ↔ Q (some (vi z)) h := R_ir rfl
end RUL
