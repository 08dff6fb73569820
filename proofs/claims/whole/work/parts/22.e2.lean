section RUL
variable {X : xL} {ls : List (Option xV)} {st : List xV} {h : xH} {Q : Option xV → xH → Prop}
-- 70: CellRows$Passes.priceOfOrder(I)I
theorem e_70_0 : Ev X 70 0 ls st h Q ↔ Ev X 70 1 ls (vi 0 :: st) h Q := R_kc rfl (Or.inl ⟨Or.inl rfl, by decide⟩)
theorem e_70_1 {x : Int} : Ev X 70 1 ls (vi x :: st) h Q ↔ (stOK ls 2 = true ∧ Ev X 70 2 (ls.set 2 (some (vi x))) st h Q) := R_is rfl (Or.inl rfl)
theorem e_70_2 : Ev X 70 2 ls st h Q ↔ Ev X 70 3 ls (vi 0 :: st) h Q := R_kc rfl (Or.inl ⟨Or.inl rfl, by decide⟩)
theorem e_70_3 {x : Int} : Ev X 70 3 ls (vi x :: st) h Q ↔ (stOK ls 3 = true ∧ Ev X 70 4 (ls.set 3 (some (vi x))) st h Q) := R_is rfl (Or.inl rfl)
theorem e_70_4 : Ev X 70 4 ls st h Q ↔ onI (gl ls 3) (fun z => Ev X 70 5 ls (vi z :: st) h Q) := R_il rfl (Or.inl rfl)
theorem e_70_5 : Ev X 70 5 ls st h Q ↔ onI (gl ls 1) (fun z => Ev X 70 6 ls (vi z :: st) h Q) := R_il rfl (Or.inl rfl)
theorem e_70_6 {x y : Int} : Ev X 70 6 ls (vi y :: vi x :: st) h Q ↔ (if y ≤ x then Ev X 70 23 ls st h Q else Ev X 70 7 ls st h Q) := R_icge rfl
theorem e_70_7 : Ev X 70 7 ls st h Q ↔ onI (gl ls 2) (fun z => Ev X 70 8 ls (vi z :: st) h Q) := R_il rfl (Or.inl rfl)
theorem e_70_8 : Ev X 70 8 ls st h Q ↔ onR (gl ls 0) (fun z => Ev X 70 9 ls (vr z :: st) h Q) := R_al rfl (Or.inl rfl)
theorem e_70_9 {x : Nat} : Ev X 70 9 ls (vr x :: st) h Q ↔ (X.1 x = 8 ∧ Ev X 70 10 ls (vr (X.2.2.1 x 8) :: st) h Q) := R_gr rfl
theorem e_70_10 : Ev X 70 10 ls st h Q ↔ onI (gl ls 3) (fun z => Ev X 70 11 ls (vi z :: st) h Q) := R_il rfl (Or.inl rfl)
theorem e_70_11 : Ev X 70 11 ls st h Q ↔ Ev X 70 12 ls (vi 5 :: st) h Q := R_kc rfl (Or.inl ⟨Or.inl rfl, by decide⟩)
theorem e_70_12 {x y : Int} : Ev X 70 12 ls (vi y :: vi x :: st) h Q ↔ ((inR (x * y)) ∧ Ev X 70 13 ls (vi (x * y) :: st) h Q) := R_mul rfl
theorem e_70_13 : Ev X 70 13 ls st h Q ↔ onR (gl ls 0) (fun z => Ev X 70 14 ls (vr z :: st) h Q) := R_al rfl (Or.inl rfl)
theorem e_70_14 {x : Nat} : Ev X 70 14 ls (vr x :: st) h Q ↔ (X.1 x = 8 ∧ Ev X 70 15 ls (vr (X.2.2.1 x 2) :: st) h Q) := R_gr rfl
theorem e_70_15 : Ev X 70 15 ls st h Q ↔ onI (gl ls 3) (fun z => Ev X 70 16 ls (vi z :: st) h Q) := R_il rfl (Or.inl rfl)
theorem e_70_16 {x : Nat} {j : Int} : Ev X 70 16 ls (vi j :: vr x :: st) h Q ↔ (((X.1 x = 13 ∨ X.1 x = 20) ∧ 0 ≤ j ∧ j < X.2.1 x) ∧ Ev X 70 17 ls (vi (h.1 x j.toNat) :: st) h Q) := R_ia rfl
theorem e_70_17 {x y : Int} : Ev X 70 17 ls (vi y :: vi x :: st) h Q ↔ ((inR (x + y)) ∧ Ev X 70 18 ls (vi (x + y) :: st) h Q) := R_add rfl
theorem e_70_18 {x : Nat} {j : Int} : Ev X 70 18 ls (vi j :: vr x :: st) h Q ↔ (((X.1 x = 13 ∨ X.1 x = 20) ∧ 0 ≤ j ∧ j < X.2.1 x) ∧ Ev X 70 19 ls (vi (h.1 x j.toNat) :: st) h Q) := R_ia rfl
theorem e_70_19 {x y : Int} : Ev X 70 19 ls (vi y :: vi x :: st) h Q ↔ ((inR (x + y)) ∧ Ev X 70 20 ls (vi (x + y) :: st) h Q) := R_add rfl
theorem e_70_20 {x : Int} : Ev X 70 20 ls (vi x :: st) h Q ↔ (stOK ls 2 = true ∧ Ev X 70 21 (ls.set 2 (some (vi x))) st h Q) := R_is rfl (Or.inl rfl)
theorem e_70_21 : Ev X 70 21 ls st h Q ↔ onI (gl ls 3) (fun x => (stOK ls 3 = true ∧ inR (x + 1)) ∧ Ev X 70 22 (ls.set 3 (some (vi (x + 1)))) st h Q) := R_inc rfl
theorem e_70_22 : Ev X 70 22 ls st h Q ↔ Ev X 70 4 ls st h Q := R_go rfl
theorem e_70_23 : Ev X 70 23 ls st h Q ↔ onI (gl ls 2) (fun z => Ev X 70 24 ls (vi z :: st) h Q) := R_il rfl (Or.inl rfl)
theorem e_70_24 {z : Int} : Ev X 70 24 ls [vi z] h Q ↔ Q (some (vi z)) h := R_ir rfl
-- 71: CellRows$Passes.shakeBy(LCellRows$Plan;III)I
theorem e_71_0 : Ev X 71 0 ls st h Q ↔ onR (gl ls 1) (fun z => Ev X 71 1 ls (vr z :: st) h Q) := R_al rfl (Or.inl rfl)
theorem e_71_1 {x : Nat} : Ev X 71 1 ls (vr x :: st) h Q ↔ (X.1 x = 9 ∧ Ev X 71 2 ls (vr (X.2.2.1 x 4) :: st) h Q) := R_gr rfl
theorem e_71_2 {x : Nat} : Ev X 71 2 ls (vr x :: st) h Q ↔ (stOK ls 5 = true ∧ Ev X 71 3 (ls.set 5 (some (vr x))) st h Q) := R_as rfl (Or.inr rfl)
theorem e_71_3 : Ev X 71 3 ls st h Q ↔ onR (gl ls 0) (fun z => Ev X 71 4 ls (vr z :: st) h Q) := R_al rfl (Or.inl rfl)
theorem e_71_4 {x : Nat} : Ev X 71 4 ls (vr x :: st) h Q ↔ (X.1 x = 8 ∧ Ev X 71 5 ls (vr (X.2.2.1 x 0) :: st) h Q) := R_gr rfl
theorem e_71_5 : Ev X 71 5 ls st h Q ↔ onR (gl ls 1) (fun z => Ev X 71 6 ls (vr z :: st) h Q) := R_al rfl (Or.inl rfl)
theorem e_71_6 {rest : List xV} {a0 : Nat} {o : Nat} : Ev X 71 6 ls ((vr a0) :: vr o :: rest) h Q ↔ ((X.1 o = 10 ∧ wd rest ≤ 8) ∧ Cl X 92 [vr o, vr a0] h (fun r h2 => Ev X 71 7 ls (r.toList ++ rest) h2 Q)) := R_cv (x := o) (as := [vr a0]) (k2 := 92) rfl rfl (Nat.le_of_ble_eq_true rfl)
theorem e_71_7 {x : Int} : Ev X 71 7 ls (vi x :: st) h Q ↔ (stOK ls 6 = true ∧ Ev X 71 8 (ls.set 6 (some (vi x))) st h Q) := R_is rfl (Or.inr rfl)
theorem e_71_8 : Ev X 71 8 ls st h Q ↔ onI (gl ls 6) (fun z => Ev X 71 9 ls (vi z :: st) h Q) := R_il rfl (Or.inr rfl)
theorem e_71_9 {x : Int} : Ev X 71 9 ls (vi x :: st) h Q ↔ (stOK ls 7 = true ∧ Ev X 71 10 (ls.set 7 (some (vi x))) st h Q) := R_is rfl (Or.inr rfl)
theorem e_71_10 : Ev X 71 10 ls st h Q ↔ onI (gl ls 6) (fun z => Ev X 71 11 ls (vi z :: st) h Q) := R_il rfl (Or.inr rfl)
theorem e_71_11 {x : Int} : Ev X 71 11 ls (vi x :: st) h Q ↔ (stOK ls 8 = true ∧ Ev X 71 12 (ls.set 8 (some (vi x))) st h Q) := R_is rfl (Or.inr rfl)
theorem e_71_12 : Ev X 71 12 ls st h Q ↔ onI (gl ls 4) (fun z => Ev X 71 13 ls (vi z :: st) h Q) := R_il rfl (Or.inr rfl)
theorem e_71_13 {x : Int} : Ev X 71 13 ls (vi x :: st) h Q ↔ (stOK ls 9 = true ∧ Ev X 71 14 (ls.set 9 (some (vi x))) st h Q) := R_is rfl (Or.inr rfl)
theorem e_71_14 : Ev X 71 14 ls st h Q ↔ onR (gl ls 0) (fun z => Ev X 71 15 ls (vr z :: st) h Q) := R_al rfl (Or.inl rfl)
theorem e_71_15 : Ev X 71 15 ls st h Q ↔ onR (gl ls 5) (fun z => Ev X 71 16 ls (vr z :: st) h Q) := R_al rfl (Or.inr rfl)
theorem e_71_16 {rest : List xV} {a0 : Nat} {o : Nat} : Ev X 71 16 ls ((vr a0) :: vr o :: rest) h Q ↔ ((X.1 o = 8 ∧ wd rest ≤ 8) ∧ Cl X 72 [vr o, vr a0] h (fun r h2 => Ev X 71 17 ls (r.toList ++ rest) h2 Q)) := R_cv (x := o) (as := [vr a0]) (k2 := 72) rfl rfl (Nat.le_of_ble_eq_true rfl)
theorem e_71_17 : Ev X 71 17 ls st h Q ↔ onR (gl ls 0) (fun z => Ev X 71 18 ls (vr z :: st) h Q) := R_al rfl (Or.inl rfl)
theorem e_71_18 : Ev X 71 18 ls st h Q ↔ onI (gl ls 2) (fun z => Ev X 71 19 ls (vi z :: st) h Q) := R_il rfl (Or.inl rfl)
theorem e_71_19 {x : Nat} {v : Int} : Ev X 71 19 ls (vi v :: vr x :: st) h Q ↔ (X.1 x = 8 ∧ Ev X 71 20 ls st (h.1, up2 h.2 x 11 v) Q) := R_pi rfl
theorem e_71_20 : Ev X 71 20 ls st h Q ↔ Ev X 71 21 ls (vi 0 :: st) h Q := R_kc rfl (Or.inl ⟨Or.inl rfl, by decide⟩)
theorem e_71_21 {x : Int} : Ev X 71 21 ls (vi x :: st) h Q ↔ (stOK ls 10 = true ∧ Ev X 71 22 (ls.set 10 (some (vi x))) st h Q) := R_is rfl (Or.inr rfl)
theorem e_71_22 : Ev X 71 22 ls st h Q ↔ onI (gl ls 10) (fun z => Ev X 71 23 ls (vi z :: st) h Q) := R_il rfl (Or.inr rfl)
theorem e_71_23 : Ev X 71 23 ls st h Q ↔ onI (gl ls 3) (fun z => Ev X 71 24 ls (vi z :: st) h Q) := R_il rfl (Or.inl rfl)
theorem e_71_24 {x y : Int} : Ev X 71 24 ls (vi y :: vi x :: st) h Q ↔ (if y ≤ x then Ev X 71 66 ls st h Q else Ev X 71 25 ls st h Q) := R_icge rfl
theorem e_71_25 : Ev X 71 25 ls st h Q ↔ onR (gl ls 0) (fun z => Ev X 71 26 ls (vr z :: st) h Q) := R_al rfl (Or.inl rfl)
theorem e_71_26 : Ev X 71 26 ls st h Q ↔ onR (gl ls 5) (fun z => Ev X 71 27 ls (vr z :: st) h Q) := R_al rfl (Or.inr rfl)
theorem e_71_27 {x : Nat} : Ev X 71 27 ls (vr x :: st) h Q ↔ (X.1 x = 3 ∧ Ev X 71 28 ls (vi (h.2 x 0) :: st) h Q) := R_gi rfl
theorem e_71_28 {rest : List xV} {a0 : Int} {o : Nat} : Ev X 71 28 ls ((vi a0) :: vr o :: rest) h Q ↔ ((X.1 o = 8 ∧ wd rest ≤ 8) ∧ Cl X 73 [vr o, vi a0] h (fun r h2 => Ev X 71 29 ls (r.toList ++ rest) h2 Q)) := R_cv (x := o) (as := [vi a0]) (k2 := 73) rfl rfl (Nat.le_of_ble_eq_true rfl)
theorem e_71_29 {x : Int} : Ev X 71 29 ls (vi x :: st) h Q ↔ (stOK ls 11 = true ∧ Ev X 71 30 (ls.set 11 (some (vi x))) st h Q) := R_is rfl (Or.inr rfl)
theorem e_71_30 : Ev X 71 30 ls st h Q ↔ onR (gl ls 0) (fun z => Ev X 71 31 ls (vr z :: st) h Q) := R_al rfl (Or.inl rfl)
theorem e_71_31 : Ev X 71 31 ls st h Q ↔ onR (gl ls 5) (fun z => Ev X 71 32 ls (vr z :: st) h Q) := R_al rfl (Or.inr rfl)
theorem e_71_32 {x : Nat} : Ev X 71 32 ls (vr x :: st) h Q ↔ (X.1 x = 3 ∧ Ev X 71 33 ls (vi (h.2 x 0) :: st) h Q) := R_gi rfl
theorem e_71_33 {rest : List xV} {a0 : Int} {o : Nat} : Ev X 71 33 ls ((vi a0) :: vr o :: rest) h Q ↔ ((X.1 o = 8 ∧ wd rest ≤ 8) ∧ Cl X 73 [vr o, vi a0] h (fun r h2 => Ev X 71 34 ls (r.toList ++ rest) h2 Q)) := R_cv (x := o) (as := [vi a0]) (k2 := 73) rfl rfl (Nat.le_of_ble_eq_true rfl)
theorem e_71_34 {x : Int} : Ev X 71 34 ls (vi x :: st) h Q ↔ (stOK ls 12 = true ∧ Ev X 71 35 (ls.set 12 (some (vi x))) st h Q) := R_is rfl (Or.inr rfl)
theorem e_71_35 : Ev X 71 35 ls st h Q ↔ onR (gl ls 5) (fun z => Ev X 71 36 ls (vr z :: st) h Q) := R_al rfl (Or.inr rfl)
theorem e_71_36 : Ev X 71 36 ls st h Q ↔ onI (gl ls 11) (fun z => Ev X 71 37 ls (vi z :: st) h Q) := R_il rfl (Or.inr rfl)
theorem e_71_37 : Ev X 71 37 ls st h Q ↔ onI (gl ls 12) (fun z => Ev X 71 38 ls (vi z :: st) h Q) := R_il rfl (Or.inr rfl)
theorem e_71_38 {rest : List xV} {a0 : Int} {a1 : Int} {o : Nat} : Ev X 71 38 ls ((vi a1) :: (vi a0) :: vr o :: rest) h Q ↔ ((X.1 o = 3 ∧ wd rest ≤ 8) ∧ Cl X 24 [vr o, vi a0, vi a1] h (fun r h2 => Ev X 71 39 ls (r.toList ++ rest) h2 Q)) := R_cv (x := o) (as := [vi a0, vi a1]) (k2 := 24) rfl rfl (Nat.le_of_ble_eq_true rfl)
theorem e_71_39 {x : Int} : Ev X 71 39 ls (vi x :: st) h Q ↔ (if x = 0 then Ev X 71 50 ls st h Q else Ev X 71 40 ls st h Q) := R_ifeq rfl
theorem e_71_40 : Ev X 71 40 ls st h Q ↔ onR (gl ls 0) (fun z => Ev X 71 41 ls (vr z :: st) h Q) := R_al rfl (Or.inl rfl)
theorem e_71_41 : Ev X 71 41 ls st h Q ↔ onR (gl ls 1) (fun z => Ev X 71 42 ls (vr z :: st) h Q) := R_al rfl (Or.inl rfl)
theorem e_71_42 : Ev X 71 42 ls st h Q ↔ onI (gl ls 11) (fun z => Ev X 71 43 ls (vi z :: st) h Q) := R_il rfl (Or.inr rfl)
theorem e_71_43 : Ev X 71 43 ls st h Q ↔ onI (gl ls 12) (fun z => Ev X 71 44 ls (vi z :: st) h Q) := R_il rfl (Or.inr rfl)
theorem e_71_44 : Ev X 71 44 ls st h Q ↔ onI (gl ls 7) (fun z => Ev X 71 45 ls (vi z :: st) h Q) := R_il rfl (Or.inr rfl)
theorem e_71_45 : Ev X 71 45 ls st h Q ↔ onI (gl ls 7) (fun z => Ev X 71 46 ls (vi z :: st) h Q) := R_il rfl (Or.inr rfl)
theorem e_71_46 : Ev X 71 46 ls st h Q ↔ onI (gl ls 9) (fun z => Ev X 71 47 ls (vi z :: st) h Q) := R_il rfl (Or.inr rfl)
theorem e_71_47 {x y : Int} : Ev X 71 47 ls (vi y :: vi x :: st) h Q ↔ ((inR (x + y)) ∧ Ev X 71 48 ls (vi (x + y) :: st) h Q) := R_add rfl
theorem e_71_48 {rest : List xV} {a0 : Nat} {a1 : Int} {a2 : Int} {a3 : Int} {a4 : Int} {o : Nat} : Ev X 71 48 ls ((vi a4) :: (vi a3) :: (vi a2) :: (vi a1) :: (vr a0) :: vr o :: rest) h Q ↔ ((X.1 o = 8 ∧ wd rest ≤ 8) ∧ Cl X 63 [vr o, vr a0, vi a1, vi a2, vi a3, vi a4] h (fun r h2 => Ev X 71 49 ls (r.toList ++ rest) h2 Q)) := R_cv (x := o) (as := [vr a0, vi a1, vi a2, vi a3, vi a4]) (k2 := 63) rfl rfl (Nat.le_of_ble_eq_true rfl)
theorem e_71_49 {x : Int} : Ev X 71 49 ls (vi x :: st) h Q ↔ (stOK ls 7 = true ∧ Ev X 71 50 (ls.set 7 (some (vi x))) st h Q) := R_is rfl (Or.inr rfl)
theorem e_71_50 : Ev X 71 50 ls st h Q ↔ onI (gl ls 7) (fun z => Ev X 71 51 ls (vi z :: st) h Q) := R_il rfl (Or.inr rfl)
theorem e_71_51 : Ev X 71 51 ls st h Q ↔ onI (gl ls 8) (fun z => Ev X 71 52 ls (vi z :: st) h Q) := R_il rfl (Or.inr rfl)
theorem e_71_52 {x y : Int} : Ev X 71 52 ls (vi y :: vi x :: st) h Q ↔ (if y ≤ x then Ev X 71 58 ls st h Q else Ev X 71 53 ls st h Q) := R_icge rfl
theorem e_71_53 : Ev X 71 53 ls st h Q ↔ onI (gl ls 7) (fun z => Ev X 71 54 ls (vi z :: st) h Q) := R_il rfl (Or.inr rfl)
theorem e_71_54 {x : Int} : Ev X 71 54 ls (vi x :: st) h Q ↔ (stOK ls 8 = true ∧ Ev X 71 55 (ls.set 8 (some (vi x))) st h Q) := R_is rfl (Or.inr rfl)
theorem e_71_55 : Ev X 71 55 ls st h Q ↔ onR (gl ls 0) (fun z => Ev X 71 56 ls (vr z :: st) h Q) := R_al rfl (Or.inl rfl)
theorem e_71_56 : Ev X 71 56 ls st h Q ↔ onR (gl ls 5) (fun z => Ev X 71 57 ls (vr z :: st) h Q) := R_al rfl (Or.inr rfl)
theorem e_71_57 {rest : List xV} {a0 : Nat} {o : Nat} : Ev X 71 57 ls ((vr a0) :: vr o :: rest) h Q ↔ ((X.1 o = 8 ∧ wd rest ≤ 8) ∧ Cl X 72 [vr o, vr a0] h (fun r h2 => Ev X 71 58 ls (r.toList ++ rest) h2 Q)) := R_cv (x := o) (as := [vr a0]) (k2 := 72) rfl rfl (Nat.le_of_ble_eq_true rfl)
theorem e_71_58 : Ev X 71 58 ls st h Q ↔ Ev X 71 59 ls (vi 7 :: st) h Q := R_kc rfl (Or.inr (Or.inl ⟨rfl, by decide⟩))
theorem e_71_59 : Ev X 71 59 ls st h Q ↔ onI (gl ls 9) (fun z => Ev X 71 60 ls (vi z :: st) h Q) := R_il rfl (Or.inr rfl)
theorem e_71_60 {x y : Int} : Ev X 71 60 ls (vi y :: vi x :: st) h Q ↔ ((inR (x * y)) ∧ Ev X 71 61 ls (vi (x * y) :: st) h Q) := R_mul rfl
theorem e_71_61 : Ev X 71 61 ls st h Q ↔ Ev X 71 62 ls (vi 8 :: st) h Q := R_kc rfl (Or.inr (Or.inl ⟨rfl, by decide⟩))
theorem e_71_62 {x y : Int} : Ev X 71 62 ls (vi y :: vi x :: st) h Q ↔ ((y ≠ 0 ∧ inR (x.tdiv y)) ∧ Ev X 71 63 ls (vi (x.tdiv y) :: st) h Q) := R_div rfl
theorem e_71_63 {x : Int} : Ev X 71 63 ls (vi x :: st) h Q ↔ (stOK ls 9 = true ∧ Ev X 71 64 (ls.set 9 (some (vi x))) st h Q) := R_is rfl (Or.inr rfl)
theorem e_71_64 : Ev X 71 64 ls st h Q ↔ onI (gl ls 10) (fun x => (stOK ls 10 = true ∧ inR (x + 1)) ∧ Ev X 71 65 (ls.set 10 (some (vi (x + 1)))) st h Q) := R_inc rfl
theorem e_71_65 : Ev X 71 65 ls st h Q ↔ Ev X 71 22 ls st h Q := R_go rfl
theorem e_71_66 : Ev X 71 66 ls st h Q ↔ onR (gl ls 0) (fun z => Ev X 71 67 ls (vr z :: st) h Q) := R_al rfl (Or.inl rfl)
theorem e_71_67 {x : Nat} : Ev X 71 67 ls (vr x :: st) h Q ↔ (X.1 x = 8 ∧ Ev X 71 68 ls (vr (X.2.2.1 x 9) :: st) h Q) := R_gr rfl
theorem e_71_68 : Ev X 71 68 ls st h Q ↔ Ev X 71 69 ls (vi 0 :: st) h Q := R_kc rfl (Or.inl ⟨Or.inl rfl, by decide⟩)
theorem e_71_69 : Ev X 71 69 ls st h Q ↔ onR (gl ls 5) (fun z => Ev X 71 70 ls (vr z :: st) h Q) := R_al rfl (Or.inr rfl)
theorem e_71_70 {x : Nat} : Ev X 71 70 ls (vr x :: st) h Q ↔ (X.1 x = 3 ∧ Ev X 71 71 ls (vr (X.2.2.1 x 6) :: st) h Q) := R_gr rfl
theorem e_71_71 : Ev X 71 71 ls st h Q ↔ Ev X 71 72 ls (vi 0 :: st) h Q := R_kc rfl (Or.inl ⟨Or.inl rfl, by decide⟩)
theorem e_71_72 : Ev X 71 72 ls st h Q ↔ Ev X 71 73 ls (vi 20 :: st) h Q := R_kc rfl (Or.inr (Or.inl ⟨rfl, by decide⟩))
theorem e_71_73 {x d : Nat} {sp dp n : Int} : Ev X 71 73 ls [vi n, vi dp, vr d, vi sp, vr x] h Q ↔ ((((X.1 x = 13 ∧ X.1 d = 13) ∨ (X.1 x = 14 ∧ X.1 d = 14)) ∧ 0 ≤ sp ∧ 0 ≤ dp ∧ 0 ≤ n ∧ sp + n ≤ X.2.1 x ∧ dp + n ≤ X.2.1 d) ∧ Ev X 71 74 ls [] (up1 h.1 d (va_cpy (h.1 x) (h.1 d) sp.toNat dp.toNat n.toNat), h.2) Q) := R_cp rfl
theorem e_71_74 : Ev X 71 74 ls st h Q ↔ onR (gl ls 0) (fun z => Ev X 71 75 ls (vr z :: st) h Q) := R_al rfl (Or.inl rfl)
theorem e_71_75 {x : Nat} : Ev X 71 75 ls (vr x :: st) h Q ↔ (X.1 x = 8 ∧ Ev X 71 76 ls (vr (X.2.2.1 x 10) :: st) h Q) := R_gr rfl
theorem e_71_76 : Ev X 71 76 ls st h Q ↔ Ev X 71 77 ls (vi 0 :: st) h Q := R_kc rfl (Or.inl ⟨Or.inl rfl, by decide⟩)
theorem e_71_77 : Ev X 71 77 ls st h Q ↔ onR (gl ls 5) (fun z => Ev X 71 78 ls (vr z :: st) h Q) := R_al rfl (Or.inr rfl)
theorem e_71_78 {x : Nat} : Ev X 71 78 ls (vr x :: st) h Q ↔ (X.1 x = 3 ∧ Ev X 71 79 ls (vr (X.2.2.1 x 7) :: st) h Q) := R_gr rfl
theorem e_71_79 : Ev X 71 79 ls st h Q ↔ Ev X 71 80 ls (vi 0 :: st) h Q := R_kc rfl (Or.inl ⟨Or.inl rfl, by decide⟩)
theorem e_71_80 : Ev X 71 80 ls st h Q ↔ Ev X 71 81 ls (vi 20 :: st) h Q := R_kc rfl (Or.inr (Or.inl ⟨rfl, by decide⟩))
theorem e_71_81 {x d : Nat} {sp dp n : Int} : Ev X 71 81 ls [vi n, vi dp, vr d, vi sp, vr x] h Q ↔ ((((X.1 x = 13 ∧ X.1 d = 13) ∨ (X.1 x = 14 ∧ X.1 d = 14)) ∧ 0 ≤ sp ∧ 0 ≤ dp ∧ 0 ≤ n ∧ sp + n ≤ X.2.1 x ∧ dp + n ≤ X.2.1 d) ∧ Ev X 71 82 ls [] (up1 h.1 d (va_cpy (h.1 x) (h.1 d) sp.toNat dp.toNat n.toNat), h.2) Q) := R_cp rfl
theorem e_71_82 : Ev X 71 82 ls st h Q ↔ onI (gl ls 6) (fun z => Ev X 71 83 ls (vi z :: st) h Q) := R_il rfl (Or.inr rfl)
theorem e_71_83 : Ev X 71 83 ls st h Q ↔ onI (gl ls 8) (fun z => Ev X 71 84 ls (vi z :: st) h Q) := R_il rfl (Or.inr rfl)
theorem e_71_84 {x y : Int} : Ev X 71 84 ls (vi y :: vi x :: st) h Q ↔ ((inR (x - y)) ∧ Ev X 71 85 ls (vi (x - y) :: st) h Q) := R_sub rfl
theorem e_71_85 {z : Int} : Ev X 71 85 ls [vi z] h Q ↔ Q (some (vi z)) h := R_ir rfl
-- 72: CellRows$Passes.keepSpots(LCellRows$Cells;)V
theorem e_72_0 : Ev X 72 0 ls st h Q ↔ onR (gl ls 1) (fun z => Ev X 72 1 ls (vr z :: st) h Q) := R_al rfl (Or.inl rfl)
theorem e_72_1 {x : Nat} : Ev X 72 1 ls (vr x :: st) h Q ↔ (X.1 x = 3 ∧ Ev X 72 2 ls (vr (X.2.2.1 x 6) :: st) h Q) := R_gr rfl
theorem e_72_2 : Ev X 72 2 ls st h Q ↔ Ev X 72 3 ls (vi 0 :: st) h Q := R_kc rfl (Or.inl ⟨Or.inl rfl, by decide⟩)
theorem e_72_3 : Ev X 72 3 ls st h Q ↔ onR (gl ls 0) (fun z => Ev X 72 4 ls (vr z :: st) h Q) := R_al rfl (Or.inl rfl)
theorem e_72_4 {x : Nat} : Ev X 72 4 ls (vr x :: st) h Q ↔ (X.1 x = 8 ∧ Ev X 72 5 ls (vr (X.2.2.1 x 9) :: st) h Q) := R_gr rfl
theorem e_72_5 : Ev X 72 5 ls st h Q ↔ Ev X 72 6 ls (vi 0 :: st) h Q := R_kc rfl (Or.inl ⟨Or.inl rfl, by decide⟩)
theorem e_72_6 : Ev X 72 6 ls st h Q ↔ Ev X 72 7 ls (vi 20 :: st) h Q := R_kc rfl (Or.inr (Or.inl ⟨rfl, by decide⟩))
theorem e_72_7 {x d : Nat} {sp dp n : Int} : Ev X 72 7 ls [vi n, vi dp, vr d, vi sp, vr x] h Q ↔ ((((X.1 x = 13 ∧ X.1 d = 13) ∨ (X.1 x = 14 ∧ X.1 d = 14)) ∧ 0 ≤ sp ∧ 0 ≤ dp ∧ 0 ≤ n ∧ sp + n ≤ X.2.1 x ∧ dp + n ≤ X.2.1 d) ∧ Ev X 72 8 ls [] (up1 h.1 d (va_cpy (h.1 x) (h.1 d) sp.toNat dp.toNat n.toNat), h.2) Q) := R_cp rfl
theorem e_72_8 : Ev X 72 8 ls st h Q ↔ onR (gl ls 1) (fun z => Ev X 72 9 ls (vr z :: st) h Q) := R_al rfl (Or.inl rfl)
theorem e_72_9 {x : Nat} : Ev X 72 9 ls (vr x :: st) h Q ↔ (X.1 x = 3 ∧ Ev X 72 10 ls (vr (X.2.2.1 x 7) :: st) h Q) := R_gr rfl
theorem e_72_10 : Ev X 72 10 ls st h Q ↔ Ev X 72 11 ls (vi 0 :: st) h Q := R_kc rfl (Or.inl ⟨Or.inl rfl, by decide⟩)
theorem e_72_11 : Ev X 72 11 ls st h Q ↔ onR (gl ls 0) (fun z => Ev X 72 12 ls (vr z :: st) h Q) := R_al rfl (Or.inl rfl)
theorem e_72_12 {x : Nat} : Ev X 72 12 ls (vr x :: st) h Q ↔ (X.1 x = 8 ∧ Ev X 72 13 ls (vr (X.2.2.1 x 10) :: st) h Q) := R_gr rfl
theorem e_72_13 : Ev X 72 13 ls st h Q ↔ Ev X 72 14 ls (vi 0 :: st) h Q := R_kc rfl (Or.inl ⟨Or.inl rfl, by decide⟩)
theorem e_72_14 : Ev X 72 14 ls st h Q ↔ Ev X 72 15 ls (vi 20 :: st) h Q := R_kc rfl (Or.inr (Or.inl ⟨rfl, by decide⟩))
theorem e_72_15 {x d : Nat} {sp dp n : Int} : Ev X 72 15 ls [vi n, vi dp, vr d, vi sp, vr x] h Q ↔ ((((X.1 x = 13 ∧ X.1 d = 13) ∨ (X.1 x = 14 ∧ X.1 d = 14)) ∧ 0 ≤ sp ∧ 0 ≤ dp ∧ 0 ≤ n ∧ sp + n ≤ X.2.1 x ∧ dp + n ≤ X.2.1 d) ∧ Ev X 72 16 ls [] (up1 h.1 d (va_cpy (h.1 x) (h.1 d) sp.toNat dp.toNat n.toNat), h.2) Q) := R_cp rfl
theorem e_72_16 : Ev X 72 16 ls [] h Q ↔ Q none h := R_vr rfl
-- 73: CellRows$Passes.drawOf(I)I
theorem e_73_0 : Ev X 73 0 ls st h Q ↔ onR (gl ls 0) (fun z => Ev X 73 1 ls (vr z :: st) h Q) := R_al rfl (Or.inl rfl)
theorem e_73_1 : Ev X 73 1 ls st h Q ↔ onR (gl ls 0) (fun z => Ev X 73 2 ls (vr z :: st) h Q) := R_al rfl (Or.inl rfl)
theorem e_73_2 {x : Nat} : Ev X 73 2 ls (vr x :: st) h Q ↔ (X.1 x = 8 ∧ Ev X 73 3 ls (vi (h.2 x 11) :: st) h Q) := R_gi rfl
theorem e_73_3 : Ev X 73 3 ls st h Q ↔ Ev X 73 4 ls (vi 1103 :: st) h Q := R_kc rfl (Or.inr (Or.inr ⟨rfl, by decide⟩))
theorem e_73_4 {x y : Int} : Ev X 73 4 ls (vi y :: vi x :: st) h Q ↔ ((inR (x * y)) ∧ Ev X 73 5 ls (vi (x * y) :: st) h Q) := R_mul rfl
theorem e_73_5 : Ev X 73 5 ls st h Q ↔ Ev X 73 6 ls (vi 12345 :: st) h Q := R_kc rfl (Or.inr (Or.inr ⟨rfl, by decide⟩))
theorem e_73_6 {x y : Int} : Ev X 73 6 ls (vi y :: vi x :: st) h Q ↔ ((inR (x + y)) ∧ Ev X 73 7 ls (vi (x + y) :: st) h Q) := R_add rfl
theorem e_73_7 : Ev X 73 7 ls st h Q ↔ Ev X 73 8 ls (vi 1000003 :: st) h Q := R_kc rfl (Or.inl ⟨Or.inr (Or.inl rfl), by decide⟩)
theorem e_73_8 {x y : Int} : Ev X 73 8 ls (vi y :: vi x :: st) h Q ↔ ((y ≠ 0 ∧ inR (x.tdiv y)) ∧ Ev X 73 9 ls (vi (x.tmod y) :: st) h Q) := R_rem rfl
theorem e_73_9 {x : Nat} {v : Int} : Ev X 73 9 ls (vi v :: vr x :: st) h Q ↔ (X.1 x = 8 ∧ Ev X 73 10 ls st (h.1, up2 h.2 x 11 v) Q) := R_pi rfl
theorem e_73_10 : Ev X 73 10 ls st h Q ↔ onI (gl ls 1) (fun z => Ev X 73 11 ls (vi z :: st) h Q) := R_il rfl (Or.inl rfl)
theorem e_73_11 {x : Int} : Ev X 73 11 ls (vi x :: st) h Q ↔ (if 0 < x then Ev X 73 14 ls st h Q else Ev X 73 12 ls st h Q) := R_ifgt rfl
theorem e_73_12 : Ev X 73 12 ls st h Q ↔ Ev X 73 13 ls (vi 0 :: st) h Q := R_kc rfl (Or.inl ⟨Or.inl rfl, by decide⟩)
theorem e_73_13 : Ev X 73 13 ls st h Q ↔ Ev X 73 18 ls st h Q := R_go rfl
theorem e_73_14 : Ev X 73 14 ls st h Q ↔ onR (gl ls 0) (fun z => Ev X 73 15 ls (vr z :: st) h Q) := R_al rfl (Or.inl rfl)
theorem e_73_15 {x : Nat} : Ev X 73 15 ls (vr x :: st) h Q ↔ (X.1 x = 8 ∧ Ev X 73 16 ls (vi (h.2 x 11) :: st) h Q) := R_gi rfl
theorem e_73_16 : Ev X 73 16 ls st h Q ↔ onI (gl ls 1) (fun z => Ev X 73 17 ls (vi z :: st) h Q) := R_il rfl (Or.inl rfl)
theorem e_73_17 {x y : Int} : Ev X 73 17 ls (vi y :: vi x :: st) h Q ↔ ((y ≠ 0 ∧ inR (x.tdiv y)) ∧ Ev X 73 18 ls (vi (x.tmod y) :: st) h Q) := R_rem rfl
theorem e_73_18 {z : Int} : Ev X 73 18 ls [vi z] h Q ↔ Q (some (vi z)) h := R_ir rfl
-- 74: CellRows$Plan.copyFrom(LCellRows$Plan;)V
theorem e_74_0 : Ev X 74 0 ls st h Q ↔ onR (gl ls 0) (fun z => Ev X 74 1 ls (vr z :: st) h Q) := R_al rfl (Or.inl rfl)
theorem e_74_1 {x : Nat} : Ev X 74 1 ls (vr x :: st) h Q ↔ (X.1 x = 9 ∧ Ev X 74 2 ls (vr (X.2.2.1 x 2) :: st) h Q) := R_gr rfl
theorem e_74_2 : Ev X 74 2 ls st h Q ↔ onR (gl ls 1) (fun z => Ev X 74 3 ls (vr z :: st) h Q) := R_al rfl (Or.inl rfl)
theorem e_74_3 {x : Nat} : Ev X 74 3 ls (vr x :: st) h Q ↔ (X.1 x = 9 ∧ Ev X 74 4 ls (vr (X.2.2.1 x 2) :: st) h Q) := R_gr rfl
theorem e_74_4 {rest : List xV} {a0 : Nat} {o : Nat} : Ev X 74 4 ls ((vr a0) :: vr o :: rest) h Q ↔ ((X.1 o = 2 ∧ wd rest ≤ 8) ∧ Cl X 14 [vr o, vr a0] h (fun r h2 => Ev X 74 5 ls (r.toList ++ rest) h2 Q)) := R_cv (x := o) (as := [vr a0]) (k2 := 14) rfl rfl (Nat.le_of_ble_eq_true rfl)
theorem e_74_5 : Ev X 74 5 ls st h Q ↔ onR (gl ls 0) (fun z => Ev X 74 6 ls (vr z :: st) h Q) := R_al rfl (Or.inl rfl)
theorem e_74_6 {x : Nat} : Ev X 74 6 ls (vr x :: st) h Q ↔ (X.1 x = 9 ∧ Ev X 74 7 ls (vr (X.2.2.1 x 3) :: st) h Q) := R_gr rfl
theorem e_74_7 : Ev X 74 7 ls st h Q ↔ onR (gl ls 1) (fun z => Ev X 74 8 ls (vr z :: st) h Q) := R_al rfl (Or.inl rfl)
theorem e_74_8 {x : Nat} : Ev X 74 8 ls (vr x :: st) h Q ↔ (X.1 x = 9 ∧ Ev X 74 9 ls (vr (X.2.2.1 x 3) :: st) h Q) := R_gr rfl
theorem e_74_9 {rest : List xV} {a0 : Nat} {o : Nat} : Ev X 74 9 ls ((vr a0) :: vr o :: rest) h Q ↔ ((X.1 o = 2 ∧ wd rest ≤ 8) ∧ Cl X 14 [vr o, vr a0] h (fun r h2 => Ev X 74 10 ls (r.toList ++ rest) h2 Q)) := R_cv (x := o) (as := [vr a0]) (k2 := 14) rfl rfl (Nat.le_of_ble_eq_true rfl)
theorem e_74_10 : Ev X 74 10 ls st h Q ↔ onR (gl ls 0) (fun z => Ev X 74 11 ls (vr z :: st) h Q) := R_al rfl (Or.inl rfl)
theorem e_74_11 {x : Nat} : Ev X 74 11 ls (vr x :: st) h Q ↔ (X.1 x = 9 ∧ Ev X 74 12 ls (vr (X.2.2.1 x 4) :: st) h Q) := R_gr rfl
theorem e_74_12 : Ev X 74 12 ls st h Q ↔ onR (gl ls 1) (fun z => Ev X 74 13 ls (vr z :: st) h Q) := R_al rfl (Or.inl rfl)
theorem e_74_13 {x : Nat} : Ev X 74 13 ls (vr x :: st) h Q ↔ (X.1 x = 9 ∧ Ev X 74 14 ls (vr (X.2.2.1 x 4) :: st) h Q) := R_gr rfl
theorem e_74_14 {rest : List xV} {a0 : Nat} {o : Nat} : Ev X 74 14 ls ((vr a0) :: vr o :: rest) h Q ↔ ((X.1 o = 3 ∧ wd rest ≤ 8) ∧ Cl X 18 [vr o, vr a0] h (fun r h2 => Ev X 74 15 ls (r.toList ++ rest) h2 Q)) := R_cv (x := o) (as := [vr a0]) (k2 := 18) rfl rfl (Nat.le_of_ble_eq_true rfl)
theorem e_74_15 : Ev X 74 15 ls st h Q ↔ onR (gl ls 0) (fun z => Ev X 74 16 ls (vr z :: st) h Q) := R_al rfl (Or.inl rfl)
theorem e_74_16 {x : Nat} : Ev X 74 16 ls (vr x :: st) h Q ↔ (X.1 x = 9 ∧ Ev X 74 17 ls (vr (X.2.2.1 x 5) :: st) h Q) := R_gr rfl
theorem e_74_17 : Ev X 74 17 ls st h Q ↔ onR (gl ls 1) (fun z => Ev X 74 18 ls (vr z :: st) h Q) := R_al rfl (Or.inl rfl)
theorem e_74_18 {x : Nat} : Ev X 74 18 ls (vr x :: st) h Q ↔ (X.1 x = 9 ∧ Ev X 74 19 ls (vr (X.2.2.1 x 5) :: st) h Q) := R_gr rfl
theorem e_74_19 {rest : List xV} {a0 : Nat} {o : Nat} : Ev X 74 19 ls ((vr a0) :: vr o :: rest) h Q ↔ ((X.1 o = 6 ∧ wd rest ≤ 8) ∧ Cl X 42 [vr o, vr a0] h (fun r h2 => Ev X 74 20 ls (r.toList ++ rest) h2 Q)) := R_cv (x := o) (as := [vr a0]) (k2 := 42) rfl rfl (Nat.le_of_ble_eq_true rfl)
theorem e_74_20 : Ev X 74 20 ls [] h Q ↔ Q none h := R_vr rfl
-- 75: CellRows$Plan.greatestX(I)I
theorem e_75_0 : Ev X 75 0 ls st h Q ↔ Ev X 75 1 ls (vi 16 :: st) h Q := R_kc rfl (Or.inr (Or.inl ⟨rfl, by decide⟩))
theorem e_75_1 : Ev X 75 1 ls st h Q ↔ onR (gl ls 0) (fun z => Ev X 75 2 ls (vr z :: st) h Q) := R_al rfl (Or.inl rfl)
theorem e_75_2 {x : Nat} : Ev X 75 2 ls (vr x :: st) h Q ↔ (X.1 x = 9 ∧ Ev X 75 3 ls (vi (h.2 x 1) :: st) h Q) := R_gi rfl
theorem e_75_3 : Ev X 75 3 ls st h Q ↔ onI (gl ls 1) (fun z => Ev X 75 4 ls (vi z :: st) h Q) := R_il rfl (Or.inl rfl)
theorem e_75_4 {x y : Int} : Ev X 75 4 ls (vi y :: vi x :: st) h Q ↔ ((inR (x - y)) ∧ Ev X 75 5 ls (vi (x - y) :: st) h Q) := R_sub rfl
theorem e_75_5 {x y : Int} : Ev X 75 5 ls (vi y :: vi x :: st) h Q ↔ ((inR (x * y)) ∧ Ev X 75 6 ls (vi (x * y) :: st) h Q) := R_mul rfl
theorem e_75_6 {z : Int} : Ev X 75 6 ls [vi z] h Q ↔ Q (some (vi z)) h := R_ir rfl
-- 76: CellRows$Plan.greatestY()I
theorem e_76_0 : Ev X 76 0 ls st h Q ↔ Ev X 76 1 ls (vi 16 :: st) h Q := R_kc rfl (Or.inr (Or.inl ⟨rfl, by decide⟩))
theorem e_76_1 : Ev X 76 1 ls st h Q ↔ onR (gl ls 0) (fun z => Ev X 76 2 ls (vr z :: st) h Q) := R_al rfl (Or.inl rfl)
theorem e_76_2 {x : Nat} : Ev X 76 2 ls (vr x :: st) h Q ↔ (X.1 x = 9 ∧ Ev X 76 3 ls (vi (h.2 x 0) :: st) h Q) := R_gi rfl
theorem e_76_3 : Ev X 76 3 ls st h Q ↔ Ev X 76 4 ls (vi 1 :: st) h Q := R_kc rfl (Or.inl ⟨Or.inl rfl, by decide⟩)
theorem e_76_4 {x y : Int} : Ev X 76 4 ls (vi y :: vi x :: st) h Q ↔ ((inR (x - y)) ∧ Ev X 76 5 ls (vi (x - y) :: st) h Q) := R_sub rfl
theorem e_76_5 {x y : Int} : Ev X 76 5 ls (vi y :: vi x :: st) h Q ↔ ((inR (x * y)) ∧ Ev X 76 6 ls (vi (x * y) :: st) h Q) := R_mul rfl
theorem e_76_6 {z : Int} : Ev X 76 6 ls [vi z] h Q ↔ Q (some (vi z)) h := R_ir rfl
-- 77: CellRows$Plan.hasSite(II)Z
theorem e_77_0 : Ev X 77 0 ls st h Q ↔ onI (gl ls 1) (fun z => Ev X 77 1 ls (vi z :: st) h Q) := R_il rfl (Or.inl rfl)
theorem e_77_1 {x : Int} : Ev X 77 1 ls (vi x :: st) h Q ↔ (if x < 0 then Ev X 77 14 ls st h Q else Ev X 77 2 ls st h Q) := R_iflt rfl
theorem e_77_2 : Ev X 77 2 ls st h Q ↔ onI (gl ls 1) (fun z => Ev X 77 3 ls (vi z :: st) h Q) := R_il rfl (Or.inl rfl)
theorem e_77_3 : Ev X 77 3 ls st h Q ↔ onR (gl ls 0) (fun z => Ev X 77 4 ls (vr z :: st) h Q) := R_al rfl (Or.inl rfl)
theorem e_77_4 {x : Nat} : Ev X 77 4 ls (vr x :: st) h Q ↔ (X.1 x = 9 ∧ Ev X 77 5 ls (vi (h.2 x 0) :: st) h Q) := R_gi rfl
theorem e_77_5 {x y : Int} : Ev X 77 5 ls (vi y :: vi x :: st) h Q ↔ (if y ≤ x then Ev X 77 14 ls st h Q else Ev X 77 6 ls st h Q) := R_icge rfl
theorem e_77_6 : Ev X 77 6 ls st h Q ↔ onI (gl ls 2) (fun z => Ev X 77 7 ls (vi z :: st) h Q) := R_il rfl (Or.inl rfl)
theorem e_77_7 {x : Int} : Ev X 77 7 ls (vi x :: st) h Q ↔ (if x < 0 then Ev X 77 14 ls st h Q else Ev X 77 8 ls st h Q) := R_iflt rfl
theorem e_77_8 : Ev X 77 8 ls st h Q ↔ onI (gl ls 2) (fun z => Ev X 77 9 ls (vi z :: st) h Q) := R_il rfl (Or.inl rfl)
theorem e_77_9 : Ev X 77 9 ls st h Q ↔ onR (gl ls 0) (fun z => Ev X 77 10 ls (vr z :: st) h Q) := R_al rfl (Or.inl rfl)
theorem e_77_10 {x : Nat} : Ev X 77 10 ls (vr x :: st) h Q ↔ (X.1 x = 9 ∧ Ev X 77 11 ls (vi (h.2 x 1) :: st) h Q) := R_gi rfl
theorem e_77_11 {x y : Int} : Ev X 77 11 ls (vi y :: vi x :: st) h Q ↔ (if y ≤ x then Ev X 77 14 ls st h Q else Ev X 77 12 ls st h Q) := R_icge rfl
theorem e_77_12 : Ev X 77 12 ls st h Q ↔ Ev X 77 13 ls (vi 1 :: st) h Q := R_kc rfl (Or.inl ⟨Or.inl rfl, by decide⟩)
theorem e_77_13 : Ev X 77 13 ls st h Q ↔ Ev X 77 15 ls st h Q := R_go rfl
theorem e_77_14 : Ev X 77 14 ls st h Q ↔ Ev X 77 15 ls (vi 0 :: st) h Q := R_kc rfl (Or.inl ⟨Or.inl rfl, by decide⟩)
theorem e_77_15 {z : Int} : Ev X 77 15 ls [vi z] h Q ↔ ((z = 0 ∨ z = 1) ∧ Q (some (vi z)) h) := R_zr rfl
-- 78: CellRows$Plan.hasFence(I)Z
theorem e_78_0 : Ev X 78 0 ls st h Q ↔ onI (gl ls 1) (fun z => Ev X 78 1 ls (vi z :: st) h Q) := R_il rfl (Or.inl rfl)
theorem e_78_1 : Ev X 78 1 ls st h Q ↔ Ev X 78 2 ls (vi (-1) :: st) h Q := R_kc rfl (Or.inl ⟨Or.inl rfl, by decide⟩)
theorem e_78_2 {x y : Int} : Ev X 78 2 ls (vi y :: vi x :: st) h Q ↔ (if x = y then Ev X 78 10 ls st h Q else Ev X 78 3 ls st h Q) := R_iceq rfl
theorem e_78_3 : Ev X 78 3 ls st h Q ↔ onI (gl ls 1) (fun z => Ev X 78 4 ls (vi z :: st) h Q) := R_il rfl (Or.inl rfl)
theorem e_78_4 {x : Int} : Ev X 78 4 ls (vi x :: st) h Q ↔ (if x < 0 then Ev X 78 12 ls st h Q else Ev X 78 5 ls st h Q) := R_iflt rfl
theorem e_78_5 : Ev X 78 5 ls st h Q ↔ onI (gl ls 1) (fun z => Ev X 78 6 ls (vi z :: st) h Q) := R_il rfl (Or.inl rfl)
theorem e_78_6 : Ev X 78 6 ls st h Q ↔ onR (gl ls 0) (fun z => Ev X 78 7 ls (vr z :: st) h Q) := R_al rfl (Or.inl rfl)
theorem e_78_7 {x : Nat} : Ev X 78 7 ls (vr x :: st) h Q ↔ (X.1 x = 9 ∧ Ev X 78 8 ls (vr (X.2.2.1 x 3) :: st) h Q) := R_gr rfl
theorem e_78_8 {x : Nat} : Ev X 78 8 ls (vr x :: st) h Q ↔ (X.1 x = 2 ∧ Ev X 78 9 ls (vi (h.2 x 0) :: st) h Q) := R_gi rfl
theorem e_78_9 {x y : Int} : Ev X 78 9 ls (vi y :: vi x :: st) h Q ↔ (if y ≤ x then Ev X 78 12 ls st h Q else Ev X 78 10 ls st h Q) := R_icge rfl
theorem e_78_10 : Ev X 78 10 ls st h Q ↔ Ev X 78 11 ls (vi 1 :: st) h Q := R_kc rfl (Or.inl ⟨Or.inl rfl, by decide⟩)
theorem e_78_11 : Ev X 78 11 ls st h Q ↔ Ev X 78 13 ls st h Q := R_go rfl
theorem e_78_12 : Ev X 78 12 ls st h Q ↔ Ev X 78 13 ls (vi 0 :: st) h Q := R_kc rfl (Or.inl ⟨Or.inl rfl, by decide⟩)
theorem e_78_13 {z : Int} : Ev X 78 13 ls [vi z] h Q ↔ ((z = 0 ∨ z = 1) ∧ Q (some (vi z)) h) := R_zr rfl
-- 79: CellRows$Plan.hasCell(I)Z
theorem e_79_0 : Ev X 79 0 ls st h Q ↔ onI (gl ls 1) (fun z => Ev X 79 1 ls (vi z :: st) h Q) := R_il rfl (Or.inl rfl)
theorem e_79_1 {x : Int} : Ev X 79 1 ls (vi x :: st) h Q ↔ (if x < 0 then Ev X 79 9 ls st h Q else Ev X 79 2 ls st h Q) := R_iflt rfl
theorem e_79_2 : Ev X 79 2 ls st h Q ↔ onI (gl ls 1) (fun z => Ev X 79 3 ls (vi z :: st) h Q) := R_il rfl (Or.inl rfl)
theorem e_79_3 : Ev X 79 3 ls st h Q ↔ onR (gl ls 0) (fun z => Ev X 79 4 ls (vr z :: st) h Q) := R_al rfl (Or.inl rfl)
theorem e_79_4 {x : Nat} : Ev X 79 4 ls (vr x :: st) h Q ↔ (X.1 x = 9 ∧ Ev X 79 5 ls (vr (X.2.2.1 x 4) :: st) h Q) := R_gr rfl
theorem e_79_5 {x : Nat} : Ev X 79 5 ls (vr x :: st) h Q ↔ (X.1 x = 3 ∧ Ev X 79 6 ls (vi (h.2 x 0) :: st) h Q) := R_gi rfl
theorem e_79_6 {x y : Int} : Ev X 79 6 ls (vi y :: vi x :: st) h Q ↔ (if y ≤ x then Ev X 79 9 ls st h Q else Ev X 79 7 ls st h Q) := R_icge rfl
theorem e_79_7 : Ev X 79 7 ls st h Q ↔ Ev X 79 8 ls (vi 1 :: st) h Q := R_kc rfl (Or.inl ⟨Or.inl rfl, by decide⟩)
theorem e_79_8 : Ev X 79 8 ls st h Q ↔ Ev X 79 10 ls st h Q := R_go rfl
theorem e_79_9 : Ev X 79 9 ls st h Q ↔ Ev X 79 10 ls (vi 0 :: st) h Q := R_kc rfl (Or.inl ⟨Or.inl rfl, by decide⟩)
theorem e_79_10 {z : Int} : Ev X 79 10 ls [vi z] h Q ↔ ((z = 0 ∨ z = 1) ∧ Q (some (vi z)) h) := R_zr rfl
-- 80: CellRows$Plan.hasNet(I)Z
theorem e_80_0 : Ev X 80 0 ls st h Q ↔ onI (gl ls 1) (fun z => Ev X 80 1 ls (vi z :: st) h Q) := R_il rfl (Or.inl rfl)
theorem e_80_1 {x : Int} : Ev X 80 1 ls (vi x :: st) h Q ↔ (if x < 0 then Ev X 80 9 ls st h Q else Ev X 80 2 ls st h Q) := R_iflt rfl
theorem e_80_2 : Ev X 80 2 ls st h Q ↔ onI (gl ls 1) (fun z => Ev X 80 3 ls (vi z :: st) h Q) := R_il rfl (Or.inl rfl)
theorem e_80_3 : Ev X 80 3 ls st h Q ↔ onR (gl ls 0) (fun z => Ev X 80 4 ls (vr z :: st) h Q) := R_al rfl (Or.inl rfl)
theorem e_80_4 {x : Nat} : Ev X 80 4 ls (vr x :: st) h Q ↔ (X.1 x = 9 ∧ Ev X 80 5 ls (vr (X.2.2.1 x 5) :: st) h Q) := R_gr rfl
theorem e_80_5 {x : Nat} : Ev X 80 5 ls (vr x :: st) h Q ↔ (X.1 x = 6 ∧ Ev X 80 6 ls (vi (h.2 x 0) :: st) h Q) := R_gi rfl
theorem e_80_6 {x y : Int} : Ev X 80 6 ls (vi y :: vi x :: st) h Q ↔ (if y ≤ x then Ev X 80 9 ls st h Q else Ev X 80 7 ls st h Q) := R_icge rfl
theorem e_80_7 : Ev X 80 7 ls st h Q ↔ Ev X 80 8 ls (vi 1 :: st) h Q := R_kc rfl (Or.inl ⟨Or.inl rfl, by decide⟩)
theorem e_80_8 : Ev X 80 8 ls st h Q ↔ Ev X 80 10 ls st h Q := R_go rfl
theorem e_80_9 : Ev X 80 9 ls st h Q ↔ Ev X 80 10 ls (vi 0 :: st) h Q := R_kc rfl (Or.inl ⟨Or.inl rfl, by decide⟩)
theorem e_80_10 {z : Int} : Ev X 80 10 ls [vi z] h Q ↔ ((z = 0 ∨ z = 1) ∧ Q (some (vi z)) h) := R_zr rfl
-- 81: CellRows$Plan.isInChip(III)Z
theorem e_81_0 : Ev X 81 0 ls st h Q ↔ onI (gl ls 2) (fun z => Ev X 81 1 ls (vi z :: st) h Q) := R_il rfl (Or.inl rfl)
theorem e_81_1 {x : Int} : Ev X 81 1 ls (vi x :: st) h Q ↔ (if x < 0 then Ev X 81 20 ls st h Q else Ev X 81 2 ls st h Q) := R_iflt rfl
theorem e_81_2 : Ev X 81 2 ls st h Q ↔ onI (gl ls 2) (fun z => Ev X 81 3 ls (vi z :: st) h Q) := R_il rfl (Or.inl rfl)
theorem e_81_3 : Ev X 81 3 ls st h Q ↔ onR (gl ls 0) (fun z => Ev X 81 4 ls (vr z :: st) h Q) := R_al rfl (Or.inl rfl)
theorem e_81_4 {x : Nat} : Ev X 81 4 ls (vr x :: st) h Q ↔ (X.1 x = 9 ∧ Ev X 81 5 ls (vi (h.2 x 0) :: st) h Q) := R_gi rfl
theorem e_81_5 {x y : Int} : Ev X 81 5 ls (vi y :: vi x :: st) h Q ↔ (if y ≤ x then Ev X 81 20 ls st h Q else Ev X 81 6 ls st h Q) := R_icge rfl
theorem e_81_6 : Ev X 81 6 ls st h Q ↔ onI (gl ls 3) (fun z => Ev X 81 7 ls (vi z :: st) h Q) := R_il rfl (Or.inl rfl)
theorem e_81_7 {x : Int} : Ev X 81 7 ls (vi x :: st) h Q ↔ (if x < 0 then Ev X 81 20 ls st h Q else Ev X 81 8 ls st h Q) := R_iflt rfl
theorem e_81_8 : Ev X 81 8 ls st h Q ↔ onI (gl ls 3) (fun z => Ev X 81 9 ls (vi z :: st) h Q) := R_il rfl (Or.inl rfl)
theorem e_81_9 : Ev X 81 9 ls st h Q ↔ onR (gl ls 0) (fun z => Ev X 81 10 ls (vr z :: st) h Q) := R_al rfl (Or.inl rfl)
theorem e_81_10 {x : Nat} : Ev X 81 10 ls (vr x :: st) h Q ↔ (X.1 x = 9 ∧ Ev X 81 11 ls (vi (h.2 x 1) :: st) h Q) := R_gi rfl
theorem e_81_11 : Ev X 81 11 ls st h Q ↔ onR (gl ls 0) (fun z => Ev X 81 12 ls (vr z :: st) h Q) := R_al rfl (Or.inl rfl)
theorem e_81_12 {x : Nat} : Ev X 81 12 ls (vr x :: st) h Q ↔ (X.1 x = 9 ∧ Ev X 81 13 ls (vr (X.2.2.1 x 4) :: st) h Q) := R_gr rfl
theorem e_81_13 {x : Nat} : Ev X 81 13 ls (vr x :: st) h Q ↔ (X.1 x = 3 ∧ Ev X 81 14 ls (vr (X.2.2.1 x 1) :: st) h Q) := R_gr rfl
theorem e_81_14 : Ev X 81 14 ls st h Q ↔ onI (gl ls 1) (fun z => Ev X 81 15 ls (vi z :: st) h Q) := R_il rfl (Or.inl rfl)
theorem e_81_15 {x : Nat} {j : Int} : Ev X 81 15 ls (vi j :: vr x :: st) h Q ↔ (((X.1 x = 13 ∨ X.1 x = 20) ∧ 0 ≤ j ∧ j < X.2.1 x) ∧ Ev X 81 16 ls (vi (h.1 x j.toNat) :: st) h Q) := R_ia rfl
theorem e_81_16 {x y : Int} : Ev X 81 16 ls (vi y :: vi x :: st) h Q ↔ ((inR (x - y)) ∧ Ev X 81 17 ls (vi (x - y) :: st) h Q) := R_sub rfl
theorem e_81_17 {x y : Int} : Ev X 81 17 ls (vi y :: vi x :: st) h Q ↔ (if y < x then Ev X 81 20 ls st h Q else Ev X 81 18 ls st h Q) := R_icgt rfl
theorem e_81_18 : Ev X 81 18 ls st h Q ↔ Ev X 81 19 ls (vi 1 :: st) h Q := R_kc rfl (Or.inl ⟨Or.inl rfl, by decide⟩)
theorem e_81_19 : Ev X 81 19 ls st h Q ↔ Ev X 81 21 ls st h Q := R_go rfl
theorem e_81_20 : Ev X 81 20 ls st h Q ↔ Ev X 81 21 ls (vi 0 :: st) h Q := R_kc rfl (Or.inl ⟨Or.inl rfl, by decide⟩)
theorem e_81_21 {z : Int} : Ev X 81 21 ls [vi z] h Q ↔ ((z = 0 ∨ z = 1) ∧ Q (some (vi z)) h) := R_zr rfl
-- 82: CellRows$Plan.isGroundFor(III)Z
theorem e_82_0 : Ev X 82 0 ls st h Q ↔ onR (gl ls 0) (fun z => Ev X 82 1 ls (vr z :: st) h Q) := R_al rfl (Or.inl rfl)
theorem e_82_1 : Ev X 82 1 ls st h Q ↔ onI (gl ls 1) (fun z => Ev X 82 2 ls (vi z :: st) h Q) := R_il rfl (Or.inl rfl)
theorem e_82_2 : Ev X 82 2 ls st h Q ↔ onI (gl ls 2) (fun z => Ev X 82 3 ls (vi z :: st) h Q) := R_il rfl (Or.inl rfl)
theorem e_82_3 : Ev X 82 3 ls st h Q ↔ onI (gl ls 3) (fun z => Ev X 82 4 ls (vi z :: st) h Q) := R_il rfl (Or.inl rfl)
theorem e_82_4 {rest : List xV} {a0 : Int} {a1 : Int} {a2 : Int} {o : Nat} : Ev X 82 4 ls ((vi a2) :: (vi a1) :: (vi a0) :: vr o :: rest) h Q ↔ ((X.1 o = 9 ∧ wd rest ≤ 8) ∧ Cl X 81 [vr o, vi a0, vi a1, vi a2] h (fun r h2 => Ev X 82 5 ls (r.toList ++ rest) h2 Q)) := R_cv (x := o) (as := [vi a0, vi a1, vi a2]) (k2 := 81) rfl rfl (Nat.le_of_ble_eq_true rfl)
theorem e_82_5 {x : Int} : Ev X 82 5 ls (vi x :: st) h Q ↔ (if ¬ x = 0 then Ev X 82 8 ls st h Q else Ev X 82 6 ls st h Q) := R_ifne rfl
theorem e_82_6 : Ev X 82 6 ls st h Q ↔ Ev X 82 7 ls (vi 0 :: st) h Q := R_kc rfl (Or.inl ⟨Or.inl rfl, by decide⟩)
theorem e_82_7 {z : Int} : Ev X 82 7 ls [vi z] h Q ↔ ((z = 0 ∨ z = 1) ∧ Q (some (vi z)) h) := R_zr rfl
theorem e_82_8 : Ev X 82 8 ls st h Q ↔ onI (gl ls 3) (fun z => Ev X 82 9 ls (vi z :: st) h Q) := R_il rfl (Or.inl rfl)
theorem e_82_9 : Ev X 82 9 ls st h Q ↔ onR (gl ls 0) (fun z => Ev X 82 10 ls (vr z :: st) h Q) := R_al rfl (Or.inl rfl)
theorem e_82_10 {x : Nat} : Ev X 82 10 ls (vr x :: st) h Q ↔ (X.1 x = 9 ∧ Ev X 82 11 ls (vr (X.2.2.1 x 4) :: st) h Q) := R_gr rfl
theorem e_82_11 {x : Nat} : Ev X 82 11 ls (vr x :: st) h Q ↔ (X.1 x = 3 ∧ Ev X 82 12 ls (vr (X.2.2.1 x 1) :: st) h Q) := R_gr rfl
theorem e_82_12 : Ev X 82 12 ls st h Q ↔ onI (gl ls 1) (fun z => Ev X 82 13 ls (vi z :: st) h Q) := R_il rfl (Or.inl rfl)
theorem e_82_13 {x : Nat} {j : Int} : Ev X 82 13 ls (vi j :: vr x :: st) h Q ↔ (((X.1 x = 13 ∨ X.1 x = 20) ∧ 0 ≤ j ∧ j < X.2.1 x) ∧ Ev X 82 14 ls (vi (h.1 x j.toNat) :: st) h Q) := R_ia rfl
theorem e_82_14 {x y : Int} : Ev X 82 14 ls (vi y :: vi x :: st) h Q ↔ ((inR (x + y)) ∧ Ev X 82 15 ls (vi (x + y) :: st) h Q) := R_add rfl
theorem e_82_15 : Ev X 82 15 ls st h Q ↔ Ev X 82 16 ls (vi 1 :: st) h Q := R_kc rfl (Or.inl ⟨Or.inl rfl, by decide⟩)
theorem e_82_16 {x y : Int} : Ev X 82 16 ls (vi y :: vi x :: st) h Q ↔ ((inR (x - y)) ∧ Ev X 82 17 ls (vi (x - y) :: st) h Q) := R_sub rfl
theorem e_82_17 {x : Int} : Ev X 82 17 ls (vi x :: st) h Q ↔ (stOK ls 4 = true ∧ Ev X 82 18 (ls.set 4 (some (vi x))) st h Q) := R_is rfl (Or.inr rfl)
theorem e_82_18 : Ev X 82 18 ls st h Q ↔ onR (gl ls 0) (fun z => Ev X 82 19 ls (vr z :: st) h Q) := R_al rfl (Or.inl rfl)
theorem e_82_19 {x : Nat} : Ev X 82 19 ls (vr x :: st) h Q ↔ (X.1 x = 9 ∧ Ev X 82 20 ls (vr (X.2.2.1 x 2) :: st) h Q) := R_gr rfl
theorem e_82_20 : Ev X 82 20 ls st h Q ↔ onI (gl ls 2) (fun z => Ev X 82 21 ls (vi z :: st) h Q) := R_il rfl (Or.inl rfl)
theorem e_82_21 : Ev X 82 21 ls st h Q ↔ onI (gl ls 2) (fun z => Ev X 82 22 ls (vi z :: st) h Q) := R_il rfl (Or.inl rfl)
theorem e_82_22 : Ev X 82 22 ls st h Q ↔ onI (gl ls 3) (fun z => Ev X 82 23 ls (vi z :: st) h Q) := R_il rfl (Or.inl rfl)
theorem e_82_23 : Ev X 82 23 ls st h Q ↔ onI (gl ls 4) (fun z => Ev X 82 24 ls (vi z :: st) h Q) := R_il rfl (Or.inr rfl)
theorem e_82_24 {rest : List xV} {a0 : Int} {a1 : Int} {a2 : Int} {a3 : Int} {o : Nat} : Ev X 82 24 ls ((vi a3) :: (vi a2) :: (vi a1) :: (vi a0) :: vr o :: rest) h Q ↔ ((X.1 o = 2 ∧ wd rest ≤ 8) ∧ Cl X 16 [vr o, vi a0, vi a1, vi a2, vi a3] h (fun r h2 => Ev X 82 25 ls (r.toList ++ rest) h2 Q)) := R_cv (x := o) (as := [vi a0, vi a1, vi a2, vi a3]) (k2 := 16) rfl rfl (Nat.le_of_ble_eq_true rfl)
theorem e_82_25 {x : Int} : Ev X 82 25 ls (vi x :: st) h Q ↔ (if x = 0 then Ev X 82 28 ls st h Q else Ev X 82 26 ls st h Q) := R_ifeq rfl
theorem e_82_26 : Ev X 82 26 ls st h Q ↔ Ev X 82 27 ls (vi 0 :: st) h Q := R_kc rfl (Or.inl ⟨Or.inl rfl, by decide⟩)
theorem e_82_27 {z : Int} : Ev X 82 27 ls [vi z] h Q ↔ ((z = 0 ∨ z = 1) ∧ Q (some (vi z)) h) := R_zr rfl
theorem e_82_28 : Ev X 82 28 ls st h Q ↔ onR (gl ls 0) (fun z => Ev X 82 29 ls (vr z :: st) h Q) := R_al rfl (Or.inl rfl)
theorem e_82_29 {x : Nat} : Ev X 82 29 ls (vr x :: st) h Q ↔ (X.1 x = 9 ∧ Ev X 82 30 ls (vr (X.2.2.1 x 4) :: st) h Q) := R_gr rfl
theorem e_82_30 {x : Nat} : Ev X 82 30 ls (vr x :: st) h Q ↔ (X.1 x = 3 ∧ Ev X 82 31 ls (vr (X.2.2.1 x 2) :: st) h Q) := R_gr rfl
theorem e_82_31 : Ev X 82 31 ls st h Q ↔ onI (gl ls 1) (fun z => Ev X 82 32 ls (vi z :: st) h Q) := R_il rfl (Or.inl rfl)
theorem e_82_32 {x : Nat} {j : Int} : Ev X 82 32 ls (vi j :: vr x :: st) h Q ↔ (((X.1 x = 13 ∨ X.1 x = 20) ∧ 0 ≤ j ∧ j < X.2.1 x) ∧ Ev X 82 33 ls (vi (h.1 x j.toNat) :: st) h Q) := R_ia rfl
theorem e_82_33 {x : Int} : Ev X 82 33 ls (vi x :: st) h Q ↔ (stOK ls 5 = true ∧ Ev X 82 34 (ls.set 5 (some (vi x))) st h Q) := R_is rfl (Or.inr rfl)
theorem e_82_34 : Ev X 82 34 ls st h Q ↔ onI (gl ls 5) (fun z => Ev X 82 35 ls (vi z :: st) h Q) := R_il rfl (Or.inr rfl)
theorem e_82_35 : Ev X 82 35 ls st h Q ↔ Ev X 82 36 ls (vi (-1) :: st) h Q := R_kc rfl (Or.inl ⟨Or.inl rfl, by decide⟩)
theorem e_82_36 {x y : Int} : Ev X 82 36 ls (vi y :: vi x :: st) h Q ↔ (if ¬ x = y then Ev X 82 49 ls st h Q else Ev X 82 37 ls st h Q) := R_icne rfl
theorem e_82_37 : Ev X 82 37 ls st h Q ↔ onR (gl ls 0) (fun z => Ev X 82 38 ls (vr z :: st) h Q) := R_al rfl (Or.inl rfl)
theorem e_82_38 {x : Nat} : Ev X 82 38 ls (vr x :: st) h Q ↔ (X.1 x = 9 ∧ Ev X 82 39 ls (vr (X.2.2.1 x 3) :: st) h Q) := R_gr rfl
theorem e_82_39 : Ev X 82 39 ls st h Q ↔ onI (gl ls 2) (fun z => Ev X 82 40 ls (vi z :: st) h Q) := R_il rfl (Or.inl rfl)
theorem e_82_40 : Ev X 82 40 ls st h Q ↔ onI (gl ls 2) (fun z => Ev X 82 41 ls (vi z :: st) h Q) := R_il rfl (Or.inl rfl)
theorem e_82_41 : Ev X 82 41 ls st h Q ↔ onI (gl ls 3) (fun z => Ev X 82 42 ls (vi z :: st) h Q) := R_il rfl (Or.inl rfl)
theorem e_82_42 : Ev X 82 42 ls st h Q ↔ onI (gl ls 4) (fun z => Ev X 82 43 ls (vi z :: st) h Q) := R_il rfl (Or.inr rfl)
theorem e_82_43 {rest : List xV} {a0 : Int} {a1 : Int} {a2 : Int} {a3 : Int} {o : Nat} : Ev X 82 43 ls ((vi a3) :: (vi a2) :: (vi a1) :: (vi a0) :: vr o :: rest) h Q ↔ ((X.1 o = 2 ∧ wd rest ≤ 8) ∧ Cl X 16 [vr o, vi a0, vi a1, vi a2, vi a3] h (fun r h2 => Ev X 82 44 ls (r.toList ++ rest) h2 Q)) := R_cv (x := o) (as := [vi a0, vi a1, vi a2, vi a3]) (k2 := 16) rfl rfl (Nat.le_of_ble_eq_true rfl)
theorem e_82_44 {x : Int} : Ev X 82 44 ls (vi x :: st) h Q ↔ (if ¬ x = 0 then Ev X 82 47 ls st h Q else Ev X 82 45 ls st h Q) := R_ifne rfl
theorem e_82_45 : Ev X 82 45 ls st h Q ↔ Ev X 82 46 ls (vi 1 :: st) h Q := R_kc rfl (Or.inl ⟨Or.inl rfl, by decide⟩)
theorem e_82_46 : Ev X 82 46 ls st h Q ↔ Ev X 82 56 ls st h Q := R_go rfl
theorem e_82_47 : Ev X 82 47 ls st h Q ↔ Ev X 82 48 ls (vi 0 :: st) h Q := R_kc rfl (Or.inl ⟨Or.inl rfl, by decide⟩)
theorem e_82_48 : Ev X 82 48 ls st h Q ↔ Ev X 82 56 ls st h Q := R_go rfl
theorem e_82_49 : Ev X 82 49 ls st h Q ↔ onR (gl ls 0) (fun z => Ev X 82 50 ls (vr z :: st) h Q) := R_al rfl (Or.inl rfl)
theorem e_82_50 {x : Nat} : Ev X 82 50 ls (vr x :: st) h Q ↔ (X.1 x = 9 ∧ Ev X 82 51 ls (vr (X.2.2.1 x 3) :: st) h Q) := R_gr rfl
theorem e_82_51 : Ev X 82 51 ls st h Q ↔ onI (gl ls 5) (fun z => Ev X 82 52 ls (vi z :: st) h Q) := R_il rfl (Or.inr rfl)
theorem e_82_52 : Ev X 82 52 ls st h Q ↔ onI (gl ls 2) (fun z => Ev X 82 53 ls (vi z :: st) h Q) := R_il rfl (Or.inl rfl)
theorem e_82_53 : Ev X 82 53 ls st h Q ↔ onI (gl ls 3) (fun z => Ev X 82 54 ls (vi z :: st) h Q) := R_il rfl (Or.inl rfl)
theorem e_82_54 : Ev X 82 54 ls st h Q ↔ onI (gl ls 4) (fun z => Ev X 82 55 ls (vi z :: st) h Q) := R_il rfl (Or.inr rfl)
theorem e_82_55 {rest : List xV} {a0 : Int} {a1 : Int} {a2 : Int} {a3 : Int} {o : Nat} : Ev X 82 55 ls ((vi a3) :: (vi a2) :: (vi a1) :: (vi a0) :: vr o :: rest) h Q ↔ ((X.1 o = 2 ∧ wd rest ≤ 8) ∧ Cl X 17 [vr o, vi a0, vi a1, vi a2, vi a3] h (fun r h2 => Ev X 82 56 ls (r.toList ++ rest) h2 Q)) := R_cv (x := o) (as := [vi a0, vi a1, vi a2, vi a3]) (k2 := 17) rfl rfl (Nat.le_of_ble_eq_true rfl)
theorem e_82_56 {z : Int} : Ev X 82 56 ls [vi z] h Q ↔ ((z = 0 ∨ z = 1) ∧ Q (some (vi z)) h) := R_zr rfl
-- 83: CellRows$Plan.isLawful(III)Z
theorem e_83_0 : Ev X 83 0 ls st h Q ↔ onR (gl ls 0) (fun z => Ev X 83 1 ls (vr z :: st) h Q) := R_al rfl (Or.inl rfl)
theorem e_83_1 : Ev X 83 1 ls st h Q ↔ onI (gl ls 1) (fun z => Ev X 83 2 ls (vi z :: st) h Q) := R_il rfl (Or.inl rfl)
theorem e_83_2 : Ev X 83 2 ls st h Q ↔ onI (gl ls 2) (fun z => Ev X 83 3 ls (vi z :: st) h Q) := R_il rfl (Or.inl rfl)
theorem e_83_3 : Ev X 83 3 ls st h Q ↔ onI (gl ls 3) (fun z => Ev X 83 4 ls (vi z :: st) h Q) := R_il rfl (Or.inl rfl)
theorem e_83_4 {rest : List xV} {a0 : Int} {a1 : Int} {a2 : Int} {o : Nat} : Ev X 83 4 ls ((vi a2) :: (vi a1) :: (vi a0) :: vr o :: rest) h Q ↔ ((X.1 o = 9 ∧ wd rest ≤ 8) ∧ Cl X 82 [vr o, vi a0, vi a1, vi a2] h (fun r h2 => Ev X 83 5 ls (r.toList ++ rest) h2 Q)) := R_cv (x := o) (as := [vi a0, vi a1, vi a2]) (k2 := 82) rfl rfl (Nat.le_of_ble_eq_true rfl)
theorem e_83_5 {x : Int} : Ev X 83 5 ls (vi x :: st) h Q ↔ (if x = 0 then Ev X 83 24 ls st h Q else Ev X 83 6 ls st h Q) := R_ifeq rfl
theorem e_83_6 : Ev X 83 6 ls st h Q ↔ onR (gl ls 0) (fun z => Ev X 83 7 ls (vr z :: st) h Q) := R_al rfl (Or.inl rfl)
theorem e_83_7 {x : Nat} : Ev X 83 7 ls (vr x :: st) h Q ↔ (X.1 x = 9 ∧ Ev X 83 8 ls (vr (X.2.2.1 x 4) :: st) h Q) := R_gr rfl
theorem e_83_8 : Ev X 83 8 ls st h Q ↔ onI (gl ls 1) (fun z => Ev X 83 9 ls (vi z :: st) h Q) := R_il rfl (Or.inl rfl)
theorem e_83_9 : Ev X 83 9 ls st h Q ↔ onI (gl ls 2) (fun z => Ev X 83 10 ls (vi z :: st) h Q) := R_il rfl (Or.inl rfl)
theorem e_83_10 : Ev X 83 10 ls st h Q ↔ onI (gl ls 3) (fun z => Ev X 83 11 ls (vi z :: st) h Q) := R_il rfl (Or.inl rfl)
theorem e_83_11 : Ev X 83 11 ls st h Q ↔ onI (gl ls 3) (fun z => Ev X 83 12 ls (vi z :: st) h Q) := R_il rfl (Or.inl rfl)
theorem e_83_12 : Ev X 83 12 ls st h Q ↔ onR (gl ls 0) (fun z => Ev X 83 13 ls (vr z :: st) h Q) := R_al rfl (Or.inl rfl)
theorem e_83_13 {x : Nat} : Ev X 83 13 ls (vr x :: st) h Q ↔ (X.1 x = 9 ∧ Ev X 83 14 ls (vr (X.2.2.1 x 4) :: st) h Q) := R_gr rfl
theorem e_83_14 {x : Nat} : Ev X 83 14 ls (vr x :: st) h Q ↔ (X.1 x = 3 ∧ Ev X 83 15 ls (vr (X.2.2.1 x 1) :: st) h Q) := R_gr rfl
theorem e_83_15 : Ev X 83 15 ls st h Q ↔ onI (gl ls 1) (fun z => Ev X 83 16 ls (vi z :: st) h Q) := R_il rfl (Or.inl rfl)
theorem e_83_16 {x : Nat} {j : Int} : Ev X 83 16 ls (vi j :: vr x :: st) h Q ↔ (((X.1 x = 13 ∨ X.1 x = 20) ∧ 0 ≤ j ∧ j < X.2.1 x) ∧ Ev X 83 17 ls (vi (h.1 x j.toNat) :: st) h Q) := R_ia rfl
theorem e_83_17 {x y : Int} : Ev X 83 17 ls (vi y :: vi x :: st) h Q ↔ ((inR (x + y)) ∧ Ev X 83 18 ls (vi (x + y) :: st) h Q) := R_add rfl
theorem e_83_18 : Ev X 83 18 ls st h Q ↔ Ev X 83 19 ls (vi 1 :: st) h Q := R_kc rfl (Or.inl ⟨Or.inl rfl, by decide⟩)
theorem e_83_19 {x y : Int} : Ev X 83 19 ls (vi y :: vi x :: st) h Q ↔ ((inR (x - y)) ∧ Ev X 83 20 ls (vi (x - y) :: st) h Q) := R_sub rfl
theorem e_83_20 {rest : List xV} {a0 : Int} {a1 : Int} {a2 : Int} {a3 : Int} {o : Nat} : Ev X 83 20 ls ((vi a3) :: (vi a2) :: (vi a1) :: (vi a0) :: vr o :: rest) h Q ↔ ((X.1 o = 3 ∧ wd rest ≤ 8) ∧ Cl X 27 [vr o, vi a0, vi a1, vi a2, vi a3] h (fun r h2 => Ev X 83 21 ls (r.toList ++ rest) h2 Q)) := R_cv (x := o) (as := [vi a0, vi a1, vi a2, vi a3]) (k2 := 27) rfl rfl (Nat.le_of_ble_eq_true rfl)
theorem e_83_21 {x : Int} : Ev X 83 21 ls (vi x :: st) h Q ↔ (if ¬ x = 0 then Ev X 83 24 ls st h Q else Ev X 83 22 ls st h Q) := R_ifne rfl
theorem e_83_22 : Ev X 83 22 ls st h Q ↔ Ev X 83 23 ls (vi 1 :: st) h Q := R_kc rfl (Or.inl ⟨Or.inl rfl, by decide⟩)
theorem e_83_23 : Ev X 83 23 ls st h Q ↔ Ev X 83 25 ls st h Q := R_go rfl
theorem e_83_24 : Ev X 83 24 ls st h Q ↔ Ev X 83 25 ls (vi 0 :: st) h Q := R_kc rfl (Or.inl ⟨Or.inl rfl, by decide⟩)
theorem e_83_25 {z : Int} : Ev X 83 25 ls [vi z] h Q ↔ ((z = 0 ∨ z = 1) ∧ Q (some (vi z)) h) := R_zr rfl
-- 84: CellRows$Plan.loseUnlawfulSpots()V
theorem e_84_0 : Ev X 84 0 ls st h Q ↔ Ev X 84 1 ls (vi 0 :: st) h Q := R_kc rfl (Or.inl ⟨Or.inl rfl, by decide⟩)
theorem e_84_1 {x : Int} : Ev X 84 1 ls (vi x :: st) h Q ↔ (stOK ls 1 = true ∧ Ev X 84 2 (ls.set 1 (some (vi x))) st h Q) := R_is rfl (Or.inl rfl)
theorem e_84_2 : Ev X 84 2 ls st h Q ↔ onI (gl ls 1) (fun z => Ev X 84 3 ls (vi z :: st) h Q) := R_il rfl (Or.inl rfl)
theorem e_84_3 : Ev X 84 3 ls st h Q ↔ onR (gl ls 0) (fun z => Ev X 84 4 ls (vr z :: st) h Q) := R_al rfl (Or.inl rfl)
theorem e_84_4 {x : Nat} : Ev X 84 4 ls (vr x :: st) h Q ↔ (X.1 x = 9 ∧ Ev X 84 5 ls (vr (X.2.2.1 x 4) :: st) h Q) := R_gr rfl
theorem e_84_5 {x : Nat} : Ev X 84 5 ls (vr x :: st) h Q ↔ (X.1 x = 3 ∧ Ev X 84 6 ls (vi (h.2 x 0) :: st) h Q) := R_gi rfl
theorem e_84_6 {x y : Int} : Ev X 84 6 ls (vi y :: vi x :: st) h Q ↔ (if y ≤ x then Ev X 84 34 ls st h Q else Ev X 84 7 ls st h Q) := R_icge rfl
theorem e_84_7 : Ev X 84 7 ls st h Q ↔ onR (gl ls 0) (fun z => Ev X 84 8 ls (vr z :: st) h Q) := R_al rfl (Or.inl rfl)
theorem e_84_8 {x : Nat} : Ev X 84 8 ls (vr x :: st) h Q ↔ (X.1 x = 9 ∧ Ev X 84 9 ls (vr (X.2.2.1 x 4) :: st) h Q) := R_gr rfl
theorem e_84_9 : Ev X 84 9 ls st h Q ↔ onI (gl ls 1) (fun z => Ev X 84 10 ls (vi z :: st) h Q) := R_il rfl (Or.inl rfl)
theorem e_84_10 {rest : List xV} {a0 : Int} {o : Nat} : Ev X 84 10 ls ((vi a0) :: vr o :: rest) h Q ↔ ((X.1 o = 3 ∧ wd rest ≤ 8) ∧ Cl X 23 [vr o, vi a0] h (fun r h2 => Ev X 84 11 ls (r.toList ++ rest) h2 Q)) := R_cv (x := o) (as := [vi a0]) (k2 := 23) rfl rfl (Nat.le_of_ble_eq_true rfl)
theorem e_84_11 {x : Int} : Ev X 84 11 ls (vi x :: st) h Q ↔ (if x = 0 then Ev X 84 32 ls st h Q else Ev X 84 12 ls st h Q) := R_ifeq rfl
theorem e_84_12 : Ev X 84 12 ls st h Q ↔ onR (gl ls 0) (fun z => Ev X 84 13 ls (vr z :: st) h Q) := R_al rfl (Or.inl rfl)
theorem e_84_13 : Ev X 84 13 ls st h Q ↔ onI (gl ls 1) (fun z => Ev X 84 14 ls (vi z :: st) h Q) := R_il rfl (Or.inl rfl)
theorem e_84_14 : Ev X 84 14 ls st h Q ↔ onR (gl ls 0) (fun z => Ev X 84 15 ls (vr z :: st) h Q) := R_al rfl (Or.inl rfl)
theorem e_84_15 {x : Nat} : Ev X 84 15 ls (vr x :: st) h Q ↔ (X.1 x = 9 ∧ Ev X 84 16 ls (vr (X.2.2.1 x 4) :: st) h Q) := R_gr rfl
theorem e_84_16 {x : Nat} : Ev X 84 16 ls (vr x :: st) h Q ↔ (X.1 x = 3 ∧ Ev X 84 17 ls (vr (X.2.2.1 x 6) :: st) h Q) := R_gr rfl
theorem e_84_17 : Ev X 84 17 ls st h Q ↔ onI (gl ls 1) (fun z => Ev X 84 18 ls (vi z :: st) h Q) := R_il rfl (Or.inl rfl)
theorem e_84_18 {x : Nat} {j : Int} : Ev X 84 18 ls (vi j :: vr x :: st) h Q ↔ (((X.1 x = 13 ∨ X.1 x = 20) ∧ 0 ≤ j ∧ j < X.2.1 x) ∧ Ev X 84 19 ls (vi (h.1 x j.toNat) :: st) h Q) := R_ia rfl
theorem e_84_19 : Ev X 84 19 ls st h Q ↔ onR (gl ls 0) (fun z => Ev X 84 20 ls (vr z :: st) h Q) := R_al rfl (Or.inl rfl)
theorem e_84_20 {x : Nat} : Ev X 84 20 ls (vr x :: st) h Q ↔ (X.1 x = 9 ∧ Ev X 84 21 ls (vr (X.2.2.1 x 4) :: st) h Q) := R_gr rfl
theorem e_84_21 {x : Nat} : Ev X 84 21 ls (vr x :: st) h Q ↔ (X.1 x = 3 ∧ Ev X 84 22 ls (vr (X.2.2.1 x 7) :: st) h Q) := R_gr rfl
theorem e_84_22 : Ev X 84 22 ls st h Q ↔ onI (gl ls 1) (fun z => Ev X 84 23 ls (vi z :: st) h Q) := R_il rfl (Or.inl rfl)
theorem e_84_23 {x : Nat} {j : Int} : Ev X 84 23 ls (vi j :: vr x :: st) h Q ↔ (((X.1 x = 13 ∨ X.1 x = 20) ∧ 0 ≤ j ∧ j < X.2.1 x) ∧ Ev X 84 24 ls (vi (h.1 x j.toNat) :: st) h Q) := R_ia rfl
theorem e_84_24 {rest : List xV} {a0 : Int} {a1 : Int} {a2 : Int} {o : Nat} : Ev X 84 24 ls ((vi a2) :: (vi a1) :: (vi a0) :: vr o :: rest) h Q ↔ ((X.1 o = 9 ∧ wd rest ≤ 8) ∧ Cl X 82 [vr o, vi a0, vi a1, vi a2] h (fun r h2 => Ev X 84 25 ls (r.toList ++ rest) h2 Q)) := R_cv (x := o) (as := [vi a0, vi a1, vi a2]) (k2 := 82) rfl rfl (Nat.le_of_ble_eq_true rfl)
theorem e_84_25 {x : Int} : Ev X 84 25 ls (vi x :: st) h Q ↔ (if ¬ x = 0 then Ev X 84 32 ls st h Q else Ev X 84 26 ls st h Q) := R_ifne rfl
theorem e_84_26 : Ev X 84 26 ls st h Q ↔ onR (gl ls 0) (fun z => Ev X 84 27 ls (vr z :: st) h Q) := R_al rfl (Or.inl rfl)
theorem e_84_27 {x : Nat} : Ev X 84 27 ls (vr x :: st) h Q ↔ (X.1 x = 9 ∧ Ev X 84 28 ls (vr (X.2.2.1 x 4) :: st) h Q) := R_gr rfl
theorem e_84_28 : Ev X 84 28 ls st h Q ↔ onI (gl ls 1) (fun z => Ev X 84 29 ls (vi z :: st) h Q) := R_il rfl (Or.inl rfl)
theorem e_84_29 : Ev X 84 29 ls st h Q ↔ Ev X 84 30 ls (vi (-1) :: st) h Q := R_kc rfl (Or.inl ⟨Or.inl rfl, by decide⟩)
theorem e_84_30 : Ev X 84 30 ls st h Q ↔ Ev X 84 31 ls (vi (-1) :: st) h Q := R_kc rfl (Or.inl ⟨Or.inl rfl, by decide⟩)
theorem e_84_31 {rest : List xV} {a0 : Int} {a1 : Int} {a2 : Int} {o : Nat} : Ev X 84 31 ls ((vi a2) :: (vi a1) :: (vi a0) :: vr o :: rest) h Q ↔ ((X.1 o = 3 ∧ wd rest ≤ 8) ∧ Cl X 20 [vr o, vi a0, vi a1, vi a2] h (fun r h2 => Ev X 84 32 ls (r.toList ++ rest) h2 Q)) := R_cv (x := o) (as := [vi a0, vi a1, vi a2]) (k2 := 20) rfl rfl (Nat.le_of_ble_eq_true rfl)
theorem e_84_32 : Ev X 84 32 ls st h Q ↔ onI (gl ls 1) (fun x => (stOK ls 1 = true ∧ inR (x + 1)) ∧ Ev X 84 33 (ls.set 1 (some (vi (x + 1)))) st h Q) := R_inc rfl
theorem e_84_33 : Ev X 84 33 ls st h Q ↔ Ev X 84 2 ls st h Q := R_go rfl
theorem e_84_34 : Ev X 84 34 ls [] h Q ↔ Q none h := R_vr rfl
-- 85: CellRows$Plan.cornerX(I)I
theorem e_85_0 : Ev X 85 0 ls st h Q ↔ onR (gl ls 0) (fun z => Ev X 85 1 ls (vr z :: st) h Q) := R_al rfl (Or.inl rfl)
theorem e_85_1 {x : Nat} : Ev X 85 1 ls (vr x :: st) h Q ↔ (X.1 x = 9 ∧ Ev X 85 2 ls (vr (X.2.2.1 x 4) :: st) h Q) := R_gr rfl
theorem e_85_2 {x : Nat} : Ev X 85 2 ls (vr x :: st) h Q ↔ (X.1 x = 3 ∧ Ev X 85 3 ls (vr (X.2.2.1 x 6) :: st) h Q) := R_gr rfl
theorem e_85_3 : Ev X 85 3 ls st h Q ↔ onI (gl ls 1) (fun z => Ev X 85 4 ls (vi z :: st) h Q) := R_il rfl (Or.inl rfl)
theorem e_85_4 {x : Nat} {j : Int} : Ev X 85 4 ls (vi j :: vr x :: st) h Q ↔ (((X.1 x = 13 ∨ X.1 x = 20) ∧ 0 ≤ j ∧ j < X.2.1 x) ∧ Ev X 85 5 ls (vi (h.1 x j.toNat) :: st) h Q) := R_ia rfl
theorem e_85_5 : Ev X 85 5 ls st h Q ↔ Ev X 85 6 ls (vi (-1) :: st) h Q := R_kc rfl (Or.inl ⟨Or.inl rfl, by decide⟩)
theorem e_85_6 {x y : Int} : Ev X 85 6 ls (vi y :: vi x :: st) h Q ↔ (if ¬ x = y then Ev X 85 13 ls st h Q else Ev X 85 7 ls st h Q) := R_icne rfl
theorem e_85_7 : Ev X 85 7 ls st h Q ↔ onR (gl ls 0) (fun z => Ev X 85 8 ls (vr z :: st) h Q) := R_al rfl (Or.inl rfl)
theorem e_85_8 {x : Nat} : Ev X 85 8 ls (vr x :: st) h Q ↔ (X.1 x = 9 ∧ Ev X 85 9 ls (vr (X.2.2.1 x 4) :: st) h Q) := R_gr rfl
theorem e_85_9 {x : Nat} : Ev X 85 9 ls (vr x :: st) h Q ↔ (X.1 x = 3 ∧ Ev X 85 10 ls (vr (X.2.2.1 x 4) :: st) h Q) := R_gr rfl
theorem e_85_10 : Ev X 85 10 ls st h Q ↔ onI (gl ls 1) (fun z => Ev X 85 11 ls (vi z :: st) h Q) := R_il rfl (Or.inl rfl)
theorem e_85_11 {x : Nat} {j : Int} : Ev X 85 11 ls (vi j :: vr x :: st) h Q ↔ (((X.1 x = 13 ∨ X.1 x = 20) ∧ 0 ≤ j ∧ j < X.2.1 x) ∧ Ev X 85 12 ls (vi (h.1 x j.toNat) :: st) h Q) := R_ia rfl
theorem e_85_12 : Ev X 85 12 ls st h Q ↔ Ev X 85 20 ls st h Q := R_go rfl
theorem e_85_13 : Ev X 85 13 ls st h Q ↔ Ev X 85 14 ls (vi 16 :: st) h Q := R_kc rfl (Or.inr (Or.inl ⟨rfl, by decide⟩))
theorem e_85_14 : Ev X 85 14 ls st h Q ↔ onR (gl ls 0) (fun z => Ev X 85 15 ls (vr z :: st) h Q) := R_al rfl (Or.inl rfl)
theorem e_85_15 {x : Nat} : Ev X 85 15 ls (vr x :: st) h Q ↔ (X.1 x = 9 ∧ Ev X 85 16 ls (vr (X.2.2.1 x 4) :: st) h Q) := R_gr rfl
theorem e_85_16 {x : Nat} : Ev X 85 16 ls (vr x :: st) h Q ↔ (X.1 x = 3 ∧ Ev X 85 17 ls (vr (X.2.2.1 x 7) :: st) h Q) := R_gr rfl
theorem e_85_17 : Ev X 85 17 ls st h Q ↔ onI (gl ls 1) (fun z => Ev X 85 18 ls (vi z :: st) h Q) := R_il rfl (Or.inl rfl)
theorem e_85_18 {x : Nat} {j : Int} : Ev X 85 18 ls (vi j :: vr x :: st) h Q ↔ (((X.1 x = 13 ∨ X.1 x = 20) ∧ 0 ≤ j ∧ j < X.2.1 x) ∧ Ev X 85 19 ls (vi (h.1 x j.toNat) :: st) h Q) := R_ia rfl
theorem e_85_19 {x y : Int} : Ev X 85 19 ls (vi y :: vi x :: st) h Q ↔ ((inR (x * y)) ∧ Ev X 85 20 ls (vi (x * y) :: st) h Q) := R_mul rfl
theorem e_85_20 {z : Int} : Ev X 85 20 ls [vi z] h Q ↔ Q (some (vi z)) h := R_ir rfl
-- 86: CellRows$Plan.cornerY(I)I
theorem e_86_0 : Ev X 86 0 ls st h Q ↔ onR (gl ls 0) (fun z => Ev X 86 1 ls (vr z :: st) h Q) := R_al rfl (Or.inl rfl)
theorem e_86_1 {x : Nat} : Ev X 86 1 ls (vr x :: st) h Q ↔ (X.1 x = 9 ∧ Ev X 86 2 ls (vr (X.2.2.1 x 4) :: st) h Q) := R_gr rfl
theorem e_86_2 {x : Nat} : Ev X 86 2 ls (vr x :: st) h Q ↔ (X.1 x = 3 ∧ Ev X 86 3 ls (vr (X.2.2.1 x 6) :: st) h Q) := R_gr rfl
theorem e_86_3 : Ev X 86 3 ls st h Q ↔ onI (gl ls 1) (fun z => Ev X 86 4 ls (vi z :: st) h Q) := R_il rfl (Or.inl rfl)
theorem e_86_4 {x : Nat} {j : Int} : Ev X 86 4 ls (vi j :: vr x :: st) h Q ↔ (((X.1 x = 13 ∨ X.1 x = 20) ∧ 0 ≤ j ∧ j < X.2.1 x) ∧ Ev X 86 5 ls (vi (h.1 x j.toNat) :: st) h Q) := R_ia rfl
theorem e_86_5 : Ev X 86 5 ls st h Q ↔ Ev X 86 6 ls (vi (-1) :: st) h Q := R_kc rfl (Or.inl ⟨Or.inl rfl, by decide⟩)
theorem e_86_6 {x y : Int} : Ev X 86 6 ls (vi y :: vi x :: st) h Q ↔ (if ¬ x = y then Ev X 86 13 ls st h Q else Ev X 86 7 ls st h Q) := R_icne rfl
theorem e_86_7 : Ev X 86 7 ls st h Q ↔ onR (gl ls 0) (fun z => Ev X 86 8 ls (vr z :: st) h Q) := R_al rfl (Or.inl rfl)
theorem e_86_8 {x : Nat} : Ev X 86 8 ls (vr x :: st) h Q ↔ (X.1 x = 9 ∧ Ev X 86 9 ls (vr (X.2.2.1 x 4) :: st) h Q) := R_gr rfl
theorem e_86_9 {x : Nat} : Ev X 86 9 ls (vr x :: st) h Q ↔ (X.1 x = 3 ∧ Ev X 86 10 ls (vr (X.2.2.1 x 5) :: st) h Q) := R_gr rfl
theorem e_86_10 : Ev X 86 10 ls st h Q ↔ onI (gl ls 1) (fun z => Ev X 86 11 ls (vi z :: st) h Q) := R_il rfl (Or.inl rfl)
theorem e_86_11 {x : Nat} {j : Int} : Ev X 86 11 ls (vi j :: vr x :: st) h Q ↔ (((X.1 x = 13 ∨ X.1 x = 20) ∧ 0 ≤ j ∧ j < X.2.1 x) ∧ Ev X 86 12 ls (vi (h.1 x j.toNat) :: st) h Q) := R_ia rfl
theorem e_86_12 : Ev X 86 12 ls st h Q ↔ Ev X 86 20 ls st h Q := R_go rfl
theorem e_86_13 : Ev X 86 13 ls st h Q ↔ Ev X 86 14 ls (vi 16 :: st) h Q := R_kc rfl (Or.inr (Or.inl ⟨rfl, by decide⟩))
theorem e_86_14 : Ev X 86 14 ls st h Q ↔ onR (gl ls 0) (fun z => Ev X 86 15 ls (vr z :: st) h Q) := R_al rfl (Or.inl rfl)
theorem e_86_15 {x : Nat} : Ev X 86 15 ls (vr x :: st) h Q ↔ (X.1 x = 9 ∧ Ev X 86 16 ls (vr (X.2.2.1 x 4) :: st) h Q) := R_gr rfl
theorem e_86_16 {x : Nat} : Ev X 86 16 ls (vr x :: st) h Q ↔ (X.1 x = 3 ∧ Ev X 86 17 ls (vr (X.2.2.1 x 6) :: st) h Q) := R_gr rfl
theorem e_86_17 : Ev X 86 17 ls st h Q ↔ onI (gl ls 1) (fun z => Ev X 86 18 ls (vi z :: st) h Q) := R_il rfl (Or.inl rfl)
theorem e_86_18 {x : Nat} {j : Int} : Ev X 86 18 ls (vi j :: vr x :: st) h Q ↔ (((X.1 x = 13 ∨ X.1 x = 20) ∧ 0 ≤ j ∧ j < X.2.1 x) ∧ Ev X 86 19 ls (vi (h.1 x j.toNat) :: st) h Q) := R_ia rfl
theorem e_86_19 {x y : Int} : Ev X 86 19 ls (vi y :: vi x :: st) h Q ↔ ((inR (x * y)) ∧ Ev X 86 20 ls (vi (x * y) :: st) h Q) := R_mul rfl
theorem e_86_20 {z : Int} : Ev X 86 20 ls [vi z] h Q ↔ Q (some (vi z)) h := R_ir rfl
-- 87: CellRows$Plan.heldX(II)I
theorem e_87_0 : Ev X 87 0 ls st h Q ↔ onI (gl ls 2) (fun z => Ev X 87 1 ls (vi z :: st) h Q) := R_il rfl (Or.inl rfl)
theorem e_87_1 {x : Int} : Ev X 87 1 ls (vi x :: st) h Q ↔ (stOK ls 3 = true ∧ Ev X 87 2 (ls.set 3 (some (vi x))) st h Q) := R_is rfl (Or.inl rfl)
theorem e_87_2 : Ev X 87 2 ls st h Q ↔ onR (gl ls 0) (fun z => Ev X 87 3 ls (vr z :: st) h Q) := R_al rfl (Or.inl rfl)
theorem e_87_3 {x : Nat} : Ev X 87 3 ls (vr x :: st) h Q ↔ (X.1 x = 9 ∧ Ev X 87 4 ls (vr (X.2.2.1 x 4) :: st) h Q) := R_gr rfl
theorem e_87_4 {x : Nat} : Ev X 87 4 ls (vr x :: st) h Q ↔ (X.1 x = 3 ∧ Ev X 87 5 ls (vr (X.2.2.1 x 2) :: st) h Q) := R_gr rfl
theorem e_87_5 : Ev X 87 5 ls st h Q ↔ onI (gl ls 1) (fun z => Ev X 87 6 ls (vi z :: st) h Q) := R_il rfl (Or.inl rfl)
theorem e_87_6 {x : Nat} {j : Int} : Ev X 87 6 ls (vi j :: vr x :: st) h Q ↔ (((X.1 x = 13 ∨ X.1 x = 20) ∧ 0 ≤ j ∧ j < X.2.1 x) ∧ Ev X 87 7 ls (vi (h.1 x j.toNat) :: st) h Q) := R_ia rfl
theorem e_87_7 {x : Int} : Ev X 87 7 ls (vi x :: st) h Q ↔ (stOK ls 4 = true ∧ Ev X 87 8 (ls.set 4 (some (vi x))) st h Q) := R_is rfl (Or.inr rfl)
theorem e_87_8 : Ev X 87 8 ls st h Q ↔ onI (gl ls 4) (fun z => Ev X 87 9 ls (vi z :: st) h Q) := R_il rfl (Or.inr rfl)
theorem e_87_9 : Ev X 87 9 ls st h Q ↔ Ev X 87 10 ls (vi (-1) :: st) h Q := R_kc rfl (Or.inl ⟨Or.inl rfl, by decide⟩)
theorem e_87_10 {x y : Int} : Ev X 87 10 ls (vi y :: vi x :: st) h Q ↔ (if x = y then Ev X 87 45 ls st h Q else Ev X 87 11 ls st h Q) := R_iceq rfl
theorem e_87_11 : Ev X 87 11 ls st h Q ↔ onR (gl ls 0) (fun z => Ev X 87 12 ls (vr z :: st) h Q) := R_al rfl (Or.inl rfl)
theorem e_87_12 {x : Nat} : Ev X 87 12 ls (vr x :: st) h Q ↔ (X.1 x = 9 ∧ Ev X 87 13 ls (vr (X.2.2.1 x 3) :: st) h Q) := R_gr rfl
theorem e_87_13 {x : Nat} : Ev X 87 13 ls (vr x :: st) h Q ↔ (X.1 x = 2 ∧ Ev X 87 14 ls (vr (X.2.2.1 x 3) :: st) h Q) := R_gr rfl
theorem e_87_14 : Ev X 87 14 ls st h Q ↔ onI (gl ls 4) (fun z => Ev X 87 15 ls (vi z :: st) h Q) := R_il rfl (Or.inr rfl)
theorem e_87_15 {x : Nat} {j : Int} : Ev X 87 15 ls (vi j :: vr x :: st) h Q ↔ (((X.1 x = 13 ∨ X.1 x = 20) ∧ 0 ≤ j ∧ j < X.2.1 x) ∧ Ev X 87 16 ls (vi (h.1 x j.toNat) :: st) h Q) := R_ia rfl
theorem e_87_16 : Ev X 87 16 ls st h Q ↔ onR (gl ls 0) (fun z => Ev X 87 17 ls (vr z :: st) h Q) := R_al rfl (Or.inl rfl)
theorem e_87_17 {x : Nat} : Ev X 87 17 ls (vr x :: st) h Q ↔ (X.1 x = 9 ∧ Ev X 87 18 ls (vr (X.2.2.1 x 3) :: st) h Q) := R_gr rfl
theorem e_87_18 {x : Nat} : Ev X 87 18 ls (vr x :: st) h Q ↔ (X.1 x = 2 ∧ Ev X 87 19 ls (vr (X.2.2.1 x 4) :: st) h Q) := R_gr rfl
theorem e_87_19 : Ev X 87 19 ls st h Q ↔ onI (gl ls 4) (fun z => Ev X 87 20 ls (vi z :: st) h Q) := R_il rfl (Or.inr rfl)
theorem e_87_20 {x : Nat} {j : Int} : Ev X 87 20 ls (vi j :: vr x :: st) h Q ↔ (((X.1 x = 13 ∨ X.1 x = 20) ∧ 0 ≤ j ∧ j < X.2.1 x) ∧ Ev X 87 21 ls (vi (h.1 x j.toNat) :: st) h Q) := R_ia rfl
theorem e_87_21 : Ev X 87 21 ls st h Q ↔ Ev X 87 22 ls (vi 1 :: st) h Q := R_kc rfl (Or.inl ⟨Or.inl rfl, by decide⟩)
theorem e_87_22 {x y : Int} : Ev X 87 22 ls (vi y :: vi x :: st) h Q ↔ ((inR (x + y)) ∧ Ev X 87 23 ls (vi (x + y) :: st) h Q) := R_add rfl
theorem e_87_23 : Ev X 87 23 ls st h Q ↔ onR (gl ls 0) (fun z => Ev X 87 24 ls (vr z :: st) h Q) := R_al rfl (Or.inl rfl)
theorem e_87_24 {x : Nat} : Ev X 87 24 ls (vr x :: st) h Q ↔ (X.1 x = 9 ∧ Ev X 87 25 ls (vr (X.2.2.1 x 4) :: st) h Q) := R_gr rfl
theorem e_87_25 {x : Nat} : Ev X 87 25 ls (vr x :: st) h Q ↔ (X.1 x = 3 ∧ Ev X 87 26 ls (vr (X.2.2.1 x 1) :: st) h Q) := R_gr rfl
theorem e_87_26 : Ev X 87 26 ls st h Q ↔ onI (gl ls 1) (fun z => Ev X 87 27 ls (vi z :: st) h Q) := R_il rfl (Or.inl rfl)
theorem e_87_27 {x : Nat} {j : Int} : Ev X 87 27 ls (vi j :: vr x :: st) h Q ↔ (((X.1 x = 13 ∨ X.1 x = 20) ∧ 0 ≤ j ∧ j < X.2.1 x) ∧ Ev X 87 28 ls (vi (h.1 x j.toNat) :: st) h Q) := R_ia rfl
theorem e_87_28 {x y : Int} : Ev X 87 28 ls (vi y :: vi x :: st) h Q ↔ ((inR (x - y)) ∧ Ev X 87 29 ls (vi (x - y) :: st) h Q) := R_sub rfl
theorem e_87_29 {rest : List xV} {a0 : Int} {a1 : Int} : Ev X 87 29 ls ((vi a1) :: (vi a0) :: rest) h Q ↔ (wd rest ≤ 8 ∧ Cl X 284 [vi a0, vi a1] h (fun r h2 => Ev X 87 30 ls (r.toList ++ rest) h2 Q)) := R_cs (as := [vi a0, vi a1]) (k2 := 284) rfl rfl (Nat.le_of_ble_eq_true rfl)
theorem e_87_30 {x : Int} : Ev X 87 30 ls (vi x :: st) h Q ↔ (stOK ls 5 = true ∧ Ev X 87 31 (ls.set 5 (some (vi x))) st h Q) := R_is rfl (Or.inr rfl)
theorem e_87_31 : Ev X 87 31 ls st h Q ↔ Ev X 87 32 ls (vi 16 :: st) h Q := R_kc rfl (Or.inr (Or.inl ⟨rfl, by decide⟩))
theorem e_87_32 : Ev X 87 32 ls st h Q ↔ onR (gl ls 0) (fun z => Ev X 87 33 ls (vr z :: st) h Q) := R_al rfl (Or.inl rfl)
theorem e_87_33 {x : Nat} : Ev X 87 33 ls (vr x :: st) h Q ↔ (X.1 x = 9 ∧ Ev X 87 34 ls (vr (X.2.2.1 x 3) :: st) h Q) := R_gr rfl
theorem e_87_34 {x : Nat} : Ev X 87 34 ls (vr x :: st) h Q ↔ (X.1 x = 2 ∧ Ev X 87 35 ls (vr (X.2.2.1 x 3) :: st) h Q) := R_gr rfl
theorem e_87_35 : Ev X 87 35 ls st h Q ↔ onI (gl ls 4) (fun z => Ev X 87 36 ls (vi z :: st) h Q) := R_il rfl (Or.inr rfl)
theorem e_87_36 {x : Nat} {j : Int} : Ev X 87 36 ls (vi j :: vr x :: st) h Q ↔ (((X.1 x = 13 ∨ X.1 x = 20) ∧ 0 ≤ j ∧ j < X.2.1 x) ∧ Ev X 87 37 ls (vi (h.1 x j.toNat) :: st) h Q) := R_ia rfl
theorem e_87_37 {x y : Int} : Ev X 87 37 ls (vi y :: vi x :: st) h Q ↔ ((inR (x * y)) ∧ Ev X 87 38 ls (vi (x * y) :: st) h Q) := R_mul rfl
theorem e_87_38 : Ev X 87 38 ls st h Q ↔ Ev X 87 39 ls (vi 16 :: st) h Q := R_kc rfl (Or.inr (Or.inl ⟨rfl, by decide⟩))
theorem e_87_39 : Ev X 87 39 ls st h Q ↔ onI (gl ls 5) (fun z => Ev X 87 40 ls (vi z :: st) h Q) := R_il rfl (Or.inr rfl)
theorem e_87_40 {x y : Int} : Ev X 87 40 ls (vi y :: vi x :: st) h Q ↔ ((inR (x * y)) ∧ Ev X 87 41 ls (vi (x * y) :: st) h Q) := R_mul rfl
theorem e_87_41 : Ev X 87 41 ls st h Q ↔ onI (gl ls 3) (fun z => Ev X 87 42 ls (vi z :: st) h Q) := R_il rfl (Or.inl rfl)
theorem e_87_42 {rest : List xV} {a0 : Int} {a1 : Int} : Ev X 87 42 ls ((vi a1) :: (vi a0) :: rest) h Q ↔ (wd rest ≤ 8 ∧ Cl X 285 [vi a0, vi a1] h (fun r h2 => Ev X 87 43 ls (r.toList ++ rest) h2 Q)) := R_cs (as := [vi a0, vi a1]) (k2 := 285) rfl rfl (Nat.le_of_ble_eq_true rfl)
theorem e_87_43 {rest : List xV} {a0 : Int} {a1 : Int} : Ev X 87 43 ls ((vi a1) :: (vi a0) :: rest) h Q ↔ (wd rest ≤ 8 ∧ Cl X 284 [vi a0, vi a1] h (fun r h2 => Ev X 87 44 ls (r.toList ++ rest) h2 Q)) := R_cs (as := [vi a0, vi a1]) (k2 := 284) rfl rfl (Nat.le_of_ble_eq_true rfl)
theorem e_87_44 {x : Int} : Ev X 87 44 ls (vi x :: st) h Q ↔ (stOK ls 3 = true ∧ Ev X 87 45 (ls.set 3 (some (vi x))) st h Q) := R_is rfl (Or.inl rfl)
theorem e_87_45 : Ev X 87 45 ls st h Q ↔ Ev X 87 46 ls (vi 0 :: st) h Q := R_kc rfl (Or.inl ⟨Or.inl rfl, by decide⟩)
theorem e_87_46 : Ev X 87 46 ls st h Q ↔ onR (gl ls 0) (fun z => Ev X 87 47 ls (vr z :: st) h Q) := R_al rfl (Or.inl rfl)
theorem e_87_47 : Ev X 87 47 ls st h Q ↔ onR (gl ls 0) (fun z => Ev X 87 48 ls (vr z :: st) h Q) := R_al rfl (Or.inl rfl)
theorem e_87_48 {x : Nat} : Ev X 87 48 ls (vr x :: st) h Q ↔ (X.1 x = 9 ∧ Ev X 87 49 ls (vr (X.2.2.1 x 4) :: st) h Q) := R_gr rfl
theorem e_87_49 {x : Nat} : Ev X 87 49 ls (vr x :: st) h Q ↔ (X.1 x = 3 ∧ Ev X 87 50 ls (vr (X.2.2.1 x 1) :: st) h Q) := R_gr rfl
theorem e_87_50 : Ev X 87 50 ls st h Q ↔ onI (gl ls 1) (fun z => Ev X 87 51 ls (vi z :: st) h Q) := R_il rfl (Or.inl rfl)
theorem e_87_51 {x : Nat} {j : Int} : Ev X 87 51 ls (vi j :: vr x :: st) h Q ↔ (((X.1 x = 13 ∨ X.1 x = 20) ∧ 0 ≤ j ∧ j < X.2.1 x) ∧ Ev X 87 52 ls (vi (h.1 x j.toNat) :: st) h Q) := R_ia rfl
theorem e_87_52 {rest : List xV} {a0 : Int} {o : Nat} : Ev X 87 52 ls ((vi a0) :: vr o :: rest) h Q ↔ ((X.1 o = 9 ∧ wd rest ≤ 8) ∧ Cl X 75 [vr o, vi a0] h (fun r h2 => Ev X 87 53 ls (r.toList ++ rest) h2 Q)) := R_cv (x := o) (as := [vi a0]) (k2 := 75) rfl rfl (Nat.le_of_ble_eq_true rfl)
theorem e_87_53 : Ev X 87 53 ls st h Q ↔ onI (gl ls 3) (fun z => Ev X 87 54 ls (vi z :: st) h Q) := R_il rfl (Or.inl rfl)
theorem e_87_54 {rest : List xV} {a0 : Int} {a1 : Int} : Ev X 87 54 ls ((vi a1) :: (vi a0) :: rest) h Q ↔ (wd rest ≤ 8 ∧ Cl X 285 [vi a0, vi a1] h (fun r h2 => Ev X 87 55 ls (r.toList ++ rest) h2 Q)) := R_cs (as := [vi a0, vi a1]) (k2 := 285) rfl rfl (Nat.le_of_ble_eq_true rfl)
theorem e_87_55 {rest : List xV} {a0 : Int} {a1 : Int} : Ev X 87 55 ls ((vi a1) :: (vi a0) :: rest) h Q ↔ (wd rest ≤ 8 ∧ Cl X 284 [vi a0, vi a1] h (fun r h2 => Ev X 87 56 ls (r.toList ++ rest) h2 Q)) := R_cs (as := [vi a0, vi a1]) (k2 := 284) rfl rfl (Nat.le_of_ble_eq_true rfl)
theorem e_87_56 {z : Int} : Ev X 87 56 ls [vi z] h Q ↔ Q (some (vi z)) h := R_ir rfl
-- 88: CellRows$Plan.heldY(II)I
theorem e_88_0 : Ev X 88 0 ls st h Q ↔ onI (gl ls 2) (fun z => Ev X 88 1 ls (vi z :: st) h Q) := R_il rfl (Or.inl rfl)
theorem e_88_1 {x : Int} : Ev X 88 1 ls (vi x :: st) h Q ↔ (stOK ls 3 = true ∧ Ev X 88 2 (ls.set 3 (some (vi x))) st h Q) := R_is rfl (Or.inl rfl)
theorem e_88_2 : Ev X 88 2 ls st h Q ↔ onR (gl ls 0) (fun z => Ev X 88 3 ls (vr z :: st) h Q) := R_al rfl (Or.inl rfl)
theorem e_88_3 {x : Nat} : Ev X 88 3 ls (vr x :: st) h Q ↔ (X.1 x = 9 ∧ Ev X 88 4 ls (vr (X.2.2.1 x 4) :: st) h Q) := R_gr rfl
theorem e_88_4 {x : Nat} : Ev X 88 4 ls (vr x :: st) h Q ↔ (X.1 x = 3 ∧ Ev X 88 5 ls (vr (X.2.2.1 x 2) :: st) h Q) := R_gr rfl
theorem e_88_5 : Ev X 88 5 ls st h Q ↔ onI (gl ls 1) (fun z => Ev X 88 6 ls (vi z :: st) h Q) := R_il rfl (Or.inl rfl)
theorem e_88_6 {x : Nat} {j : Int} : Ev X 88 6 ls (vi j :: vr x :: st) h Q ↔ (((X.1 x = 13 ∨ X.1 x = 20) ∧ 0 ≤ j ∧ j < X.2.1 x) ∧ Ev X 88 7 ls (vi (h.1 x j.toNat) :: st) h Q) := R_ia rfl
theorem e_88_7 {x : Int} : Ev X 88 7 ls (vi x :: st) h Q ↔ (stOK ls 4 = true ∧ Ev X 88 8 (ls.set 4 (some (vi x))) st h Q) := R_is rfl (Or.inr rfl)
theorem e_88_8 : Ev X 88 8 ls st h Q ↔ onI (gl ls 4) (fun z => Ev X 88 9 ls (vi z :: st) h Q) := R_il rfl (Or.inr rfl)
theorem e_88_9 : Ev X 88 9 ls st h Q ↔ Ev X 88 10 ls (vi (-1) :: st) h Q := R_kc rfl (Or.inl ⟨Or.inl rfl, by decide⟩)
theorem e_88_10 {x y : Int} : Ev X 88 10 ls (vi y :: vi x :: st) h Q ↔ (if x = y then Ev X 88 29 ls st h Q else Ev X 88 11 ls st h Q) := R_iceq rfl
theorem e_88_11 : Ev X 88 11 ls st h Q ↔ Ev X 88 12 ls (vi 16 :: st) h Q := R_kc rfl (Or.inr (Or.inl ⟨rfl, by decide⟩))
theorem e_88_12 : Ev X 88 12 ls st h Q ↔ onR (gl ls 0) (fun z => Ev X 88 13 ls (vr z :: st) h Q) := R_al rfl (Or.inl rfl)
theorem e_88_13 {x : Nat} : Ev X 88 13 ls (vr x :: st) h Q ↔ (X.1 x = 9 ∧ Ev X 88 14 ls (vr (X.2.2.1 x 3) :: st) h Q) := R_gr rfl
theorem e_88_14 {x : Nat} : Ev X 88 14 ls (vr x :: st) h Q ↔ (X.1 x = 2 ∧ Ev X 88 15 ls (vr (X.2.2.1 x 1) :: st) h Q) := R_gr rfl
theorem e_88_15 : Ev X 88 15 ls st h Q ↔ onI (gl ls 4) (fun z => Ev X 88 16 ls (vi z :: st) h Q) := R_il rfl (Or.inr rfl)
theorem e_88_16 {x : Nat} {j : Int} : Ev X 88 16 ls (vi j :: vr x :: st) h Q ↔ (((X.1 x = 13 ∨ X.1 x = 20) ∧ 0 ≤ j ∧ j < X.2.1 x) ∧ Ev X 88 17 ls (vi (h.1 x j.toNat) :: st) h Q) := R_ia rfl
theorem e_88_17 {x y : Int} : Ev X 88 17 ls (vi y :: vi x :: st) h Q ↔ ((inR (x * y)) ∧ Ev X 88 18 ls (vi (x * y) :: st) h Q) := R_mul rfl
theorem e_88_18 : Ev X 88 18 ls st h Q ↔ Ev X 88 19 ls (vi 16 :: st) h Q := R_kc rfl (Or.inr (Or.inl ⟨rfl, by decide⟩))
theorem e_88_19 : Ev X 88 19 ls st h Q ↔ onR (gl ls 0) (fun z => Ev X 88 20 ls (vr z :: st) h Q) := R_al rfl (Or.inl rfl)
theorem e_88_20 {x : Nat} : Ev X 88 20 ls (vr x :: st) h Q ↔ (X.1 x = 9 ∧ Ev X 88 21 ls (vr (X.2.2.1 x 3) :: st) h Q) := R_gr rfl
theorem e_88_21 {x : Nat} : Ev X 88 21 ls (vr x :: st) h Q ↔ (X.1 x = 2 ∧ Ev X 88 22 ls (vr (X.2.2.1 x 2) :: st) h Q) := R_gr rfl
theorem e_88_22 : Ev X 88 22 ls st h Q ↔ onI (gl ls 4) (fun z => Ev X 88 23 ls (vi z :: st) h Q) := R_il rfl (Or.inr rfl)
theorem e_88_23 {x : Nat} {j : Int} : Ev X 88 23 ls (vi j :: vr x :: st) h Q ↔ (((X.1 x = 13 ∨ X.1 x = 20) ∧ 0 ≤ j ∧ j < X.2.1 x) ∧ Ev X 88 24 ls (vi (h.1 x j.toNat) :: st) h Q) := R_ia rfl
theorem e_88_24 {x y : Int} : Ev X 88 24 ls (vi y :: vi x :: st) h Q ↔ ((inR (x * y)) ∧ Ev X 88 25 ls (vi (x * y) :: st) h Q) := R_mul rfl
theorem e_88_25 : Ev X 88 25 ls st h Q ↔ onI (gl ls 3) (fun z => Ev X 88 26 ls (vi z :: st) h Q) := R_il rfl (Or.inl rfl)
theorem e_88_26 {rest : List xV} {a0 : Int} {a1 : Int} : Ev X 88 26 ls ((vi a1) :: (vi a0) :: rest) h Q ↔ (wd rest ≤ 8 ∧ Cl X 285 [vi a0, vi a1] h (fun r h2 => Ev X 88 27 ls (r.toList ++ rest) h2 Q)) := R_cs (as := [vi a0, vi a1]) (k2 := 285) rfl rfl (Nat.le_of_ble_eq_true rfl)
theorem e_88_27 {rest : List xV} {a0 : Int} {a1 : Int} : Ev X 88 27 ls ((vi a1) :: (vi a0) :: rest) h Q ↔ (wd rest ≤ 8 ∧ Cl X 284 [vi a0, vi a1] h (fun r h2 => Ev X 88 28 ls (r.toList ++ rest) h2 Q)) := R_cs (as := [vi a0, vi a1]) (k2 := 284) rfl rfl (Nat.le_of_ble_eq_true rfl)
theorem e_88_28 {x : Int} : Ev X 88 28 ls (vi x :: st) h Q ↔ (stOK ls 3 = true ∧ Ev X 88 29 (ls.set 3 (some (vi x))) st h Q) := R_is rfl (Or.inl rfl)
theorem e_88_29 : Ev X 88 29 ls st h Q ↔ Ev X 88 30 ls (vi 0 :: st) h Q := R_kc rfl (Or.inl ⟨Or.inl rfl, by decide⟩)
theorem e_88_30 : Ev X 88 30 ls st h Q ↔ onR (gl ls 0) (fun z => Ev X 88 31 ls (vr z :: st) h Q) := R_al rfl (Or.inl rfl)
theorem e_88_31 {rest : List xV}  {o : Nat} : Ev X 88 31 ls (vr o :: rest) h Q ↔ ((X.1 o = 9 ∧ wd rest ≤ 8) ∧ Cl X 76 [vr o] h (fun r h2 => Ev X 88 32 ls (r.toList ++ rest) h2 Q)) := R_cv (x := o) (as := []) (k2 := 76) rfl rfl (Nat.le_of_ble_eq_true rfl)
theorem e_88_32 : Ev X 88 32 ls st h Q ↔ onI (gl ls 3) (fun z => Ev X 88 33 ls (vi z :: st) h Q) := R_il rfl (Or.inl rfl)
theorem e_88_33 {rest : List xV} {a0 : Int} {a1 : Int} : Ev X 88 33 ls ((vi a1) :: (vi a0) :: rest) h Q ↔ (wd rest ≤ 8 ∧ Cl X 285 [vi a0, vi a1] h (fun r h2 => Ev X 88 34 ls (r.toList ++ rest) h2 Q)) := R_cs (as := [vi a0, vi a1]) (k2 := 285) rfl rfl (Nat.le_of_ble_eq_true rfl)
theorem e_88_34 {rest : List xV} {a0 : Int} {a1 : Int} : Ev X 88 34 ls ((vi a1) :: (vi a0) :: rest) h Q ↔ (wd rest ≤ 8 ∧ Cl X 284 [vi a0, vi a1] h (fun r h2 => Ev X 88 35 ls (r.toList ++ rest) h2 Q)) := R_cs (as := [vi a0, vi a1]) (k2 := 284) rfl rfl (Nat.le_of_ble_eq_true rfl)
theorem e_88_35 {z : Int} : Ev X 88 35 ls [vi z] h Q ↔ Q (some (vi z)) h := R_ir rfl
-- 89: CellRows$Wire.lookAtBox(LCellRows$Plan;II)V
theorem e_89_0 : Ev X 89 0 ls st h Q ↔ onR (gl ls 0) (fun z => Ev X 89 1 ls (vr z :: st) h Q) := R_al rfl (Or.inl rfl)
theorem e_89_1 : Ev X 89 1 ls st h Q ↔ Ev X 89 2 ls (vi 268435456 :: st) h Q := R_kc rfl (Or.inl ⟨Or.inr (Or.inl rfl), by decide⟩)
theorem e_89_2 {x : Nat} {v : Int} : Ev X 89 2 ls (vi v :: vr x :: st) h Q ↔ (X.1 x = 10 ∧ Ev X 89 3 ls st (h.1, up2 h.2 x 1 v) Q) := R_pi rfl
theorem e_89_3 : Ev X 89 3 ls st h Q ↔ onR (gl ls 0) (fun z => Ev X 89 4 ls (vr z :: st) h Q) := R_al rfl (Or.inl rfl)
theorem e_89_4 : Ev X 89 4 ls st h Q ↔ Ev X 89 5 ls (vi (-268435456) :: st) h Q := R_kc rfl (Or.inl ⟨Or.inr (Or.inl rfl), by decide⟩)
theorem e_89_5 {x : Nat} {v : Int} : Ev X 89 5 ls (vi v :: vr x :: st) h Q ↔ (X.1 x = 10 ∧ Ev X 89 6 ls st (h.1, up2 h.2 x 2 v) Q) := R_pi rfl
theorem e_89_6 : Ev X 89 6 ls st h Q ↔ onR (gl ls 0) (fun z => Ev X 89 7 ls (vr z :: st) h Q) := R_al rfl (Or.inl rfl)
theorem e_89_7 : Ev X 89 7 ls st h Q ↔ Ev X 89 8 ls (vi 268435456 :: st) h Q := R_kc rfl (Or.inl ⟨Or.inr (Or.inl rfl), by decide⟩)
theorem e_89_8 {x : Nat} {v : Int} : Ev X 89 8 ls (vi v :: vr x :: st) h Q ↔ (X.1 x = 10 ∧ Ev X 89 9 ls st (h.1, up2 h.2 x 3 v) Q) := R_pi rfl
theorem e_89_9 : Ev X 89 9 ls st h Q ↔ onR (gl ls 0) (fun z => Ev X 89 10 ls (vr z :: st) h Q) := R_al rfl (Or.inl rfl)
theorem e_89_10 : Ev X 89 10 ls st h Q ↔ Ev X 89 11 ls (vi (-268435456) :: st) h Q := R_kc rfl (Or.inl ⟨Or.inr (Or.inl rfl), by decide⟩)
theorem e_89_11 {x : Nat} {v : Int} : Ev X 89 11 ls (vi v :: vr x :: st) h Q ↔ (X.1 x = 10 ∧ Ev X 89 12 ls st (h.1, up2 h.2 x 4 v) Q) := R_pi rfl
theorem e_89_12 : Ev X 89 12 ls st h Q ↔ onR (gl ls 1) (fun z => Ev X 89 13 ls (vr z :: st) h Q) := R_al rfl (Or.inl rfl)
theorem e_89_13 {x : Nat} : Ev X 89 13 ls (vr x :: st) h Q ↔ (X.1 x = 9 ∧ Ev X 89 14 ls (vr (X.2.2.1 x 5) :: st) h Q) := R_gr rfl
theorem e_89_14 {x : Nat} : Ev X 89 14 ls (vr x :: st) h Q ↔ (stOK ls 4 = true ∧ Ev X 89 15 (ls.set 4 (some (vr x))) st h Q) := R_as rfl (Or.inr rfl)
theorem e_89_15 : Ev X 89 15 ls st h Q ↔ onI (gl ls 2) (fun z => Ev X 89 16 ls (vi z :: st) h Q) := R_il rfl (Or.inl rfl)
theorem e_89_16 : Ev X 89 16 ls st h Q ↔ Ev X 89 17 ls (vi 6 :: st) h Q := R_kc rfl (Or.inr (Or.inl ⟨rfl, by decide⟩))
theorem e_89_17 {x y : Int} : Ev X 89 17 ls (vi y :: vi x :: st) h Q ↔ ((inR (x * y)) ∧ Ev X 89 18 ls (vi (x * y) :: st) h Q) := R_mul rfl
theorem e_89_18 {x : Int} : Ev X 89 18 ls (vi x :: st) h Q ↔ (stOK ls 5 = true ∧ Ev X 89 19 (ls.set 5 (some (vi x))) st h Q) := R_is rfl (Or.inr rfl)
theorem e_89_19 : Ev X 89 19 ls st h Q ↔ Ev X 89 20 ls (vi 0 :: st) h Q := R_kc rfl (Or.inl ⟨Or.inl rfl, by decide⟩)
theorem e_89_20 {x : Int} : Ev X 89 20 ls (vi x :: st) h Q ↔ (stOK ls 6 = true ∧ Ev X 89 21 (ls.set 6 (some (vi x))) st h Q) := R_is rfl (Or.inr rfl)
theorem e_89_21 : Ev X 89 21 ls st h Q ↔ onI (gl ls 6) (fun z => Ev X 89 22 ls (vi z :: st) h Q) := R_il rfl (Or.inr rfl)
theorem e_89_22 : Ev X 89 22 ls st h Q ↔ onR (gl ls 4) (fun z => Ev X 89 23 ls (vr z :: st) h Q) := R_al rfl (Or.inr rfl)
theorem e_89_23 {x : Nat} : Ev X 89 23 ls (vr x :: st) h Q ↔ (X.1 x = 6 ∧ Ev X 89 24 ls (vr (X.2.2.1 x 2) :: st) h Q) := R_gr rfl
theorem e_89_24 : Ev X 89 24 ls st h Q ↔ onI (gl ls 2) (fun z => Ev X 89 25 ls (vi z :: st) h Q) := R_il rfl (Or.inl rfl)
theorem e_89_25 {x : Nat} {j : Int} : Ev X 89 25 ls (vi j :: vr x :: st) h Q ↔ (((X.1 x = 13 ∨ X.1 x = 20) ∧ 0 ≤ j ∧ j < X.2.1 x) ∧ Ev X 89 26 ls (vi (h.1 x j.toNat) :: st) h Q) := R_ia rfl
theorem e_89_26 {x y : Int} : Ev X 89 26 ls (vi y :: vi x :: st) h Q ↔ (if y ≤ x then Ev X 89 76 ls st h Q else Ev X 89 27 ls st h Q) := R_icge rfl
theorem e_89_27 : Ev X 89 27 ls st h Q ↔ onI (gl ls 6) (fun z => Ev X 89 28 ls (vi z :: st) h Q) := R_il rfl (Or.inr rfl)
theorem e_89_28 : Ev X 89 28 ls st h Q ↔ onI (gl ls 3) (fun z => Ev X 89 29 ls (vi z :: st) h Q) := R_il rfl (Or.inl rfl)
theorem e_89_29 {x y : Int} : Ev X 89 29 ls (vi y :: vi x :: st) h Q ↔ (if x = y then Ev X 89 74 ls st h Q else Ev X 89 30 ls st h Q) := R_iceq rfl
theorem e_89_30 : Ev X 89 30 ls st h Q ↔ onR (gl ls 4) (fun z => Ev X 89 31 ls (vr z :: st) h Q) := R_al rfl (Or.inr rfl)
theorem e_89_31 {x : Nat} : Ev X 89 31 ls (vr x :: st) h Q ↔ (X.1 x = 6 ∧ Ev X 89 32 ls (vr (X.2.2.1 x 3) :: st) h Q) := R_gr rfl
theorem e_89_32 : Ev X 89 32 ls st h Q ↔ onI (gl ls 5) (fun z => Ev X 89 33 ls (vi z :: st) h Q) := R_il rfl (Or.inr rfl)
theorem e_89_33 : Ev X 89 33 ls st h Q ↔ onI (gl ls 6) (fun z => Ev X 89 34 ls (vi z :: st) h Q) := R_il rfl (Or.inr rfl)
theorem e_89_34 {x y : Int} : Ev X 89 34 ls (vi y :: vi x :: st) h Q ↔ ((inR (x + y)) ∧ Ev X 89 35 ls (vi (x + y) :: st) h Q) := R_add rfl
theorem e_89_35 {x : Nat} {j : Int} : Ev X 89 35 ls (vi j :: vr x :: st) h Q ↔ (((X.1 x = 13 ∨ X.1 x = 20) ∧ 0 ≤ j ∧ j < X.2.1 x) ∧ Ev X 89 36 ls (vi (h.1 x j.toNat) :: st) h Q) := R_ia rfl
theorem e_89_36 {x : Int} : Ev X 89 36 ls (vi x :: st) h Q ↔ (stOK ls 7 = true ∧ Ev X 89 37 (ls.set 7 (some (vi x))) st h Q) := R_is rfl (Or.inr rfl)
theorem e_89_37 : Ev X 89 37 ls st h Q ↔ Ev X 89 38 ls (vi 16 :: st) h Q := R_kc rfl (Or.inr (Or.inl ⟨rfl, by decide⟩))
theorem e_89_38 : Ev X 89 38 ls st h Q ↔ onR (gl ls 4) (fun z => Ev X 89 39 ls (vr z :: st) h Q) := R_al rfl (Or.inr rfl)
theorem e_89_39 {x : Nat} : Ev X 89 39 ls (vr x :: st) h Q ↔ (X.1 x = 6 ∧ Ev X 89 40 ls (vr (X.2.2.1 x 4) :: st) h Q) := R_gr rfl
theorem e_89_40 : Ev X 89 40 ls st h Q ↔ onI (gl ls 5) (fun z => Ev X 89 41 ls (vi z :: st) h Q) := R_il rfl (Or.inr rfl)
theorem e_89_41 : Ev X 89 41 ls st h Q ↔ onI (gl ls 6) (fun z => Ev X 89 42 ls (vi z :: st) h Q) := R_il rfl (Or.inr rfl)
theorem e_89_42 {x y : Int} : Ev X 89 42 ls (vi y :: vi x :: st) h Q ↔ ((inR (x + y)) ∧ Ev X 89 43 ls (vi (x + y) :: st) h Q) := R_add rfl
theorem e_89_43 {x : Nat} {j : Int} : Ev X 89 43 ls (vi j :: vr x :: st) h Q ↔ (((X.1 x = 13 ∨ X.1 x = 20) ∧ 0 ≤ j ∧ j < X.2.1 x) ∧ Ev X 89 44 ls (vi (h.1 x j.toNat) :: st) h Q) := R_ia rfl
theorem e_89_44 {x y : Int} : Ev X 89 44 ls (vi y :: vi x :: st) h Q ↔ ((inR (x * y)) ∧ Ev X 89 45 ls (vi (x * y) :: st) h Q) := R_mul rfl
theorem e_89_45 : Ev X 89 45 ls st h Q ↔ Ev X 89 46 ls (vi 8 :: st) h Q := R_kc rfl (Or.inr (Or.inl ⟨rfl, by decide⟩))
theorem e_89_46 {x y : Int} : Ev X 89 46 ls (vi y :: vi x :: st) h Q ↔ ((inR (x + y)) ∧ Ev X 89 47 ls (vi (x + y) :: st) h Q) := R_add rfl
theorem e_89_47 {x : Int} : Ev X 89 47 ls (vi x :: st) h Q ↔ (stOK ls 8 = true ∧ Ev X 89 48 (ls.set 8 (some (vi x))) st h Q) := R_is rfl (Or.inr rfl)
theorem e_89_48 : Ev X 89 48 ls st h Q ↔ onI (gl ls 7) (fun z => Ev X 89 49 ls (vi z :: st) h Q) := R_il rfl (Or.inr rfl)
theorem e_89_49 : Ev X 89 49 ls st h Q ↔ Ev X 89 50 ls (vi 200 :: st) h Q := R_kc rfl (Or.inr (Or.inr ⟨rfl, by decide⟩))
theorem e_89_50 {x y : Int} : Ev X 89 50 ls (vi y :: vi x :: st) h Q ↔ (if x < y then Ev X 89 62 ls st h Q else Ev X 89 51 ls st h Q) := R_iclt rfl
theorem e_89_51 : Ev X 89 51 ls st h Q ↔ onR (gl ls 0) (fun z => Ev X 89 52 ls (vr z :: st) h Q) := R_al rfl (Or.inl rfl)
theorem e_89_52 : Ev X 89 52 ls st h Q ↔ onI (gl ls 8) (fun z => Ev X 89 53 ls (vi z :: st) h Q) := R_il rfl (Or.inr rfl)
theorem e_89_53 : Ev X 89 53 ls st h Q ↔ Ev X 89 54 ls (vi 16 :: st) h Q := R_kc rfl (Or.inr (Or.inl ⟨rfl, by decide⟩))
theorem e_89_54 : Ev X 89 54 ls st h Q ↔ onI (gl ls 7) (fun z => Ev X 89 55 ls (vi z :: st) h Q) := R_il rfl (Or.inr rfl)
theorem e_89_55 : Ev X 89 55 ls st h Q ↔ Ev X 89 56 ls (vi 200 :: st) h Q := R_kc rfl (Or.inr (Or.inr ⟨rfl, by decide⟩))
theorem e_89_56 {x y : Int} : Ev X 89 56 ls (vi y :: vi x :: st) h Q ↔ ((inR (x - y)) ∧ Ev X 89 57 ls (vi (x - y) :: st) h Q) := R_sub rfl
theorem e_89_57 {x y : Int} : Ev X 89 57 ls (vi y :: vi x :: st) h Q ↔ ((inR (x * y)) ∧ Ev X 89 58 ls (vi (x * y) :: st) h Q) := R_mul rfl
theorem e_89_58 : Ev X 89 58 ls st h Q ↔ Ev X 89 59 ls (vi 8 :: st) h Q := R_kc rfl (Or.inr (Or.inl ⟨rfl, by decide⟩))
theorem e_89_59 {x y : Int} : Ev X 89 59 ls (vi y :: vi x :: st) h Q ↔ ((inR (x + y)) ∧ Ev X 89 60 ls (vi (x + y) :: st) h Q) := R_add rfl
theorem e_89_60 {rest : List xV} {a0 : Int} {a1 : Int} {o : Nat} : Ev X 89 60 ls ((vi a1) :: (vi a0) :: vr o :: rest) h Q ↔ ((X.1 o = 10 ∧ wd rest ≤ 8) ∧ Cl X 90 [vr o, vi a0, vi a1] h (fun r h2 => Ev X 89 61 ls (r.toList ++ rest) h2 Q)) := R_cv (x := o) (as := [vi a0, vi a1]) (k2 := 90) rfl rfl (Nat.le_of_ble_eq_true rfl)
theorem e_89_61 : Ev X 89 61 ls st h Q ↔ Ev X 89 74 ls st h Q := R_go rfl
theorem e_89_62 : Ev X 89 62 ls st h Q ↔ onR (gl ls 0) (fun z => Ev X 89 63 ls (vr z :: st) h Q) := R_al rfl (Or.inl rfl)
theorem e_89_63 : Ev X 89 63 ls st h Q ↔ onR (gl ls 1) (fun z => Ev X 89 64 ls (vr z :: st) h Q) := R_al rfl (Or.inl rfl)
theorem e_89_64 : Ev X 89 64 ls st h Q ↔ onI (gl ls 7) (fun z => Ev X 89 65 ls (vi z :: st) h Q) := R_il rfl (Or.inr rfl)
theorem e_89_65 {rest : List xV} {a0 : Int} {o : Nat} : Ev X 89 65 ls ((vi a0) :: vr o :: rest) h Q ↔ ((X.1 o = 9 ∧ wd rest ≤ 8) ∧ Cl X 85 [vr o, vi a0] h (fun r h2 => Ev X 89 66 ls (r.toList ++ rest) h2 Q)) := R_cv (x := o) (as := [vi a0]) (k2 := 85) rfl rfl (Nat.le_of_ble_eq_true rfl)
theorem e_89_66 : Ev X 89 66 ls st h Q ↔ onI (gl ls 8) (fun z => Ev X 89 67 ls (vi z :: st) h Q) := R_il rfl (Or.inr rfl)
theorem e_89_67 {x y : Int} : Ev X 89 67 ls (vi y :: vi x :: st) h Q ↔ ((inR (x + y)) ∧ Ev X 89 68 ls (vi (x + y) :: st) h Q) := R_add rfl
theorem e_89_68 : Ev X 89 68 ls st h Q ↔ onR (gl ls 1) (fun z => Ev X 89 69 ls (vr z :: st) h Q) := R_al rfl (Or.inl rfl)
theorem e_89_69 : Ev X 89 69 ls st h Q ↔ onI (gl ls 7) (fun z => Ev X 89 70 ls (vi z :: st) h Q) := R_il rfl (Or.inr rfl)
theorem e_89_70 {rest : List xV} {a0 : Int} {o : Nat} : Ev X 89 70 ls ((vi a0) :: vr o :: rest) h Q ↔ ((X.1 o = 9 ∧ wd rest ≤ 8) ∧ Cl X 86 [vr o, vi a0] h (fun r h2 => Ev X 89 71 ls (r.toList ++ rest) h2 Q)) := R_cv (x := o) (as := [vi a0]) (k2 := 86) rfl rfl (Nat.le_of_ble_eq_true rfl)
theorem e_89_71 : Ev X 89 71 ls st h Q ↔ Ev X 89 72 ls (vi 8 :: st) h Q := R_kc rfl (Or.inr (Or.inl ⟨rfl, by decide⟩))
theorem e_89_72 {x y : Int} : Ev X 89 72 ls (vi y :: vi x :: st) h Q ↔ ((inR (x + y)) ∧ Ev X 89 73 ls (vi (x + y) :: st) h Q) := R_add rfl
theorem e_89_73 {rest : List xV} {a0 : Int} {a1 : Int} {o : Nat} : Ev X 89 73 ls ((vi a1) :: (vi a0) :: vr o :: rest) h Q ↔ ((X.1 o = 10 ∧ wd rest ≤ 8) ∧ Cl X 90 [vr o, vi a0, vi a1] h (fun r h2 => Ev X 89 74 ls (r.toList ++ rest) h2 Q)) := R_cv (x := o) (as := [vi a0, vi a1]) (k2 := 90) rfl rfl (Nat.le_of_ble_eq_true rfl)
theorem e_89_74 : Ev X 89 74 ls st h Q ↔ onI (gl ls 6) (fun x => (stOK ls 6 = true ∧ inR (x + 1)) ∧ Ev X 89 75 (ls.set 6 (some (vi (x + 1)))) st h Q) := R_inc rfl
theorem e_89_75 : Ev X 89 75 ls st h Q ↔ Ev X 89 21 ls st h Q := R_go rfl
theorem e_89_76 : Ev X 89 76 ls [] h Q ↔ Q none h := R_vr rfl
-- 90: CellRows$Wire.stretchTo(II)V
theorem e_90_0 : Ev X 90 0 ls st h Q ↔ onI (gl ls 1) (fun z => Ev X 90 1 ls (vi z :: st) h Q) := R_il rfl (Or.inl rfl)
theorem e_90_1 : Ev X 90 1 ls st h Q ↔ onR (gl ls 0) (fun z => Ev X 90 2 ls (vr z :: st) h Q) := R_al rfl (Or.inl rfl)
theorem e_90_2 {x : Nat} : Ev X 90 2 ls (vr x :: st) h Q ↔ (X.1 x = 10 ∧ Ev X 90 3 ls (vi (h.2 x 1) :: st) h Q) := R_gi rfl
theorem e_90_3 {x y : Int} : Ev X 90 3 ls (vi y :: vi x :: st) h Q ↔ (if y ≤ x then Ev X 90 7 ls st h Q else Ev X 90 4 ls st h Q) := R_icge rfl
theorem e_90_4 : Ev X 90 4 ls st h Q ↔ onR (gl ls 0) (fun z => Ev X 90 5 ls (vr z :: st) h Q) := R_al rfl (Or.inl rfl)
theorem e_90_5 : Ev X 90 5 ls st h Q ↔ onI (gl ls 1) (fun z => Ev X 90 6 ls (vi z :: st) h Q) := R_il rfl (Or.inl rfl)
theorem e_90_6 {x : Nat} {v : Int} : Ev X 90 6 ls (vi v :: vr x :: st) h Q ↔ (X.1 x = 10 ∧ Ev X 90 7 ls st (h.1, up2 h.2 x 1 v) Q) := R_pi rfl
theorem e_90_7 : Ev X 90 7 ls st h Q ↔ onI (gl ls 1) (fun z => Ev X 90 8 ls (vi z :: st) h Q) := R_il rfl (Or.inl rfl)
theorem e_90_8 : Ev X 90 8 ls st h Q ↔ onR (gl ls 0) (fun z => Ev X 90 9 ls (vr z :: st) h Q) := R_al rfl (Or.inl rfl)
theorem e_90_9 {x : Nat} : Ev X 90 9 ls (vr x :: st) h Q ↔ (X.1 x = 10 ∧ Ev X 90 10 ls (vi (h.2 x 2) :: st) h Q) := R_gi rfl
theorem e_90_10 {x y : Int} : Ev X 90 10 ls (vi y :: vi x :: st) h Q ↔ (if x ≤ y then Ev X 90 14 ls st h Q else Ev X 90 11 ls st h Q) := R_icle rfl
theorem e_90_11 : Ev X 90 11 ls st h Q ↔ onR (gl ls 0) (fun z => Ev X 90 12 ls (vr z :: st) h Q) := R_al rfl (Or.inl rfl)
theorem e_90_12 : Ev X 90 12 ls st h Q ↔ onI (gl ls 1) (fun z => Ev X 90 13 ls (vi z :: st) h Q) := R_il rfl (Or.inl rfl)
theorem e_90_13 {x : Nat} {v : Int} : Ev X 90 13 ls (vi v :: vr x :: st) h Q ↔ (X.1 x = 10 ∧ Ev X 90 14 ls st (h.1, up2 h.2 x 2 v) Q) := R_pi rfl
theorem e_90_14 : Ev X 90 14 ls st h Q ↔ onI (gl ls 2) (fun z => Ev X 90 15 ls (vi z :: st) h Q) := R_il rfl (Or.inl rfl)
theorem e_90_15 : Ev X 90 15 ls st h Q ↔ onR (gl ls 0) (fun z => Ev X 90 16 ls (vr z :: st) h Q) := R_al rfl (Or.inl rfl)
theorem e_90_16 {x : Nat} : Ev X 90 16 ls (vr x :: st) h Q ↔ (X.1 x = 10 ∧ Ev X 90 17 ls (vi (h.2 x 3) :: st) h Q) := R_gi rfl
theorem e_90_17 {x y : Int} : Ev X 90 17 ls (vi y :: vi x :: st) h Q ↔ (if y ≤ x then Ev X 90 21 ls st h Q else Ev X 90 18 ls st h Q) := R_icge rfl
theorem e_90_18 : Ev X 90 18 ls st h Q ↔ onR (gl ls 0) (fun z => Ev X 90 19 ls (vr z :: st) h Q) := R_al rfl (Or.inl rfl)
theorem e_90_19 : Ev X 90 19 ls st h Q ↔ onI (gl ls 2) (fun z => Ev X 90 20 ls (vi z :: st) h Q) := R_il rfl (Or.inl rfl)
theorem e_90_20 {x : Nat} {v : Int} : Ev X 90 20 ls (vi v :: vr x :: st) h Q ↔ (X.1 x = 10 ∧ Ev X 90 21 ls st (h.1, up2 h.2 x 3 v) Q) := R_pi rfl
theorem e_90_21 : Ev X 90 21 ls st h Q ↔ onI (gl ls 2) (fun z => Ev X 90 22 ls (vi z :: st) h Q) := R_il rfl (Or.inl rfl)
theorem e_90_22 : Ev X 90 22 ls st h Q ↔ onR (gl ls 0) (fun z => Ev X 90 23 ls (vr z :: st) h Q) := R_al rfl (Or.inl rfl)
theorem e_90_23 {x : Nat} : Ev X 90 23 ls (vr x :: st) h Q ↔ (X.1 x = 10 ∧ Ev X 90 24 ls (vi (h.2 x 4) :: st) h Q) := R_gi rfl
theorem e_90_24 {x y : Int} : Ev X 90 24 ls (vi y :: vi x :: st) h Q ↔ (if x ≤ y then Ev X 90 28 ls st h Q else Ev X 90 25 ls st h Q) := R_icle rfl
theorem e_90_25 : Ev X 90 25 ls st h Q ↔ onR (gl ls 0) (fun z => Ev X 90 26 ls (vr z :: st) h Q) := R_al rfl (Or.inl rfl)
theorem e_90_26 : Ev X 90 26 ls st h Q ↔ onI (gl ls 2) (fun z => Ev X 90 27 ls (vi z :: st) h Q) := R_il rfl (Or.inl rfl)
theorem e_90_27 {x : Nat} {v : Int} : Ev X 90 27 ls (vi v :: vr x :: st) h Q ↔ (X.1 x = 10 ∧ Ev X 90 28 ls st (h.1, up2 h.2 x 4 v) Q) := R_pi rfl
theorem e_90_28 : Ev X 90 28 ls [] h Q ↔ Q none h := R_vr rfl
-- 91: CellRows$Wire.spanOf(LCellRows$Plan;I)I
theorem e_91_0 : Ev X 91 0 ls st h Q ↔ onR (gl ls 0) (fun z => Ev X 91 1 ls (vr z :: st) h Q) := R_al rfl (Or.inl rfl)
theorem e_91_1 : Ev X 91 1 ls st h Q ↔ onR (gl ls 1) (fun z => Ev X 91 2 ls (vr z :: st) h Q) := R_al rfl (Or.inl rfl)
theorem e_91_2 : Ev X 91 2 ls st h Q ↔ onI (gl ls 2) (fun z => Ev X 91 3 ls (vi z :: st) h Q) := R_il rfl (Or.inl rfl)
theorem e_91_3 : Ev X 91 3 ls st h Q ↔ Ev X 91 4 ls (vi (-1) :: st) h Q := R_kc rfl (Or.inl ⟨Or.inl rfl, by decide⟩)
theorem e_91_4 {rest : List xV} {a0 : Nat} {a1 : Int} {a2 : Int} {o : Nat} : Ev X 91 4 ls ((vi a2) :: (vi a1) :: (vr a0) :: vr o :: rest) h Q ↔ ((X.1 o = 10 ∧ wd rest ≤ 8) ∧ Cl X 89 [vr o, vr a0, vi a1, vi a2] h (fun r h2 => Ev X 91 5 ls (r.toList ++ rest) h2 Q)) := R_cv (x := o) (as := [vr a0, vi a1, vi a2]) (k2 := 89) rfl rfl (Nat.le_of_ble_eq_true rfl)
theorem e_91_5 : Ev X 91 5 ls st h Q ↔ onR (gl ls 0) (fun z => Ev X 91 6 ls (vr z :: st) h Q) := R_al rfl (Or.inl rfl)
theorem e_91_6 {x : Nat} : Ev X 91 6 ls (vr x :: st) h Q ↔ (X.1 x = 10 ∧ Ev X 91 7 ls (vi (h.2 x 2) :: st) h Q) := R_gi rfl
theorem e_91_7 : Ev X 91 7 ls st h Q ↔ onR (gl ls 0) (fun z => Ev X 91 8 ls (vr z :: st) h Q) := R_al rfl (Or.inl rfl)
theorem e_91_8 {x : Nat} : Ev X 91 8 ls (vr x :: st) h Q ↔ (X.1 x = 10 ∧ Ev X 91 9 ls (vi (h.2 x 1) :: st) h Q) := R_gi rfl
theorem e_91_9 {x y : Int} : Ev X 91 9 ls (vi y :: vi x :: st) h Q ↔ ((inR (x - y)) ∧ Ev X 91 10 ls (vi (x - y) :: st) h Q) := R_sub rfl
theorem e_91_10 : Ev X 91 10 ls st h Q ↔ onR (gl ls 0) (fun z => Ev X 91 11 ls (vr z :: st) h Q) := R_al rfl (Or.inl rfl)
theorem e_91_11 {x : Nat} : Ev X 91 11 ls (vr x :: st) h Q ↔ (X.1 x = 10 ∧ Ev X 91 12 ls (vr (X.2.2.1 x 0) :: st) h Q) := R_gr rfl
theorem e_91_12 : Ev X 91 12 ls st h Q ↔ Ev X 91 13 ls (vi 4 :: st) h Q := R_kc rfl (Or.inl ⟨Or.inl rfl, by decide⟩)
theorem e_91_13 {x : Nat} {j : Int} : Ev X 91 13 ls (vi j :: vr x :: st) h Q ↔ (((X.1 x = 13 ∨ X.1 x = 20) ∧ 0 ≤ j ∧ j < X.2.1 x) ∧ Ev X 91 14 ls (vi (h.1 x j.toNat) :: st) h Q) := R_ia rfl
theorem e_91_14 : Ev X 91 14 ls st h Q ↔ onR (gl ls 0) (fun z => Ev X 91 15 ls (vr z :: st) h Q) := R_al rfl (Or.inl rfl)
theorem e_91_15 {x : Nat} : Ev X 91 15 ls (vr x :: st) h Q ↔ (X.1 x = 10 ∧ Ev X 91 16 ls (vi (h.2 x 4) :: st) h Q) := R_gi rfl
theorem e_91_16 : Ev X 91 16 ls st h Q ↔ onR (gl ls 0) (fun z => Ev X 91 17 ls (vr z :: st) h Q) := R_al rfl (Or.inl rfl)
theorem e_91_17 {x : Nat} : Ev X 91 17 ls (vr x :: st) h Q ↔ (X.1 x = 10 ∧ Ev X 91 18 ls (vi (h.2 x 3) :: st) h Q) := R_gi rfl
theorem e_91_18 {x y : Int} : Ev X 91 18 ls (vi y :: vi x :: st) h Q ↔ ((inR (x - y)) ∧ Ev X 91 19 ls (vi (x - y) :: st) h Q) := R_sub rfl
theorem e_91_19 {x y : Int} : Ev X 91 19 ls (vi y :: vi x :: st) h Q ↔ ((inR (x * y)) ∧ Ev X 91 20 ls (vi (x * y) :: st) h Q) := R_mul rfl
theorem e_91_20 {x y : Int} : Ev X 91 20 ls (vi y :: vi x :: st) h Q ↔ ((inR (x + y)) ∧ Ev X 91 21 ls (vi (x + y) :: st) h Q) := R_add rfl
theorem e_91_21 {z : Int} : Ev X 91 21 ls [vi z] h Q ↔ Q (some (vi z)) h := R_ir rfl
-- 92: CellRows$Wire.wireOf(LCellRows$Plan;)I
theorem e_92_0 : Ev X 92 0 ls st h Q ↔ Ev X 92 1 ls (vi 0 :: st) h Q := R_kc rfl (Or.inl ⟨Or.inl rfl, by decide⟩)
theorem e_92_1 {x : Int} : Ev X 92 1 ls (vi x :: st) h Q ↔ (stOK ls 2 = true ∧ Ev X 92 2 (ls.set 2 (some (vi x))) st h Q) := R_is rfl (Or.inl rfl)
theorem e_92_2 : Ev X 92 2 ls st h Q ↔ Ev X 92 3 ls (vi 0 :: st) h Q := R_kc rfl (Or.inl ⟨Or.inl rfl, by decide⟩)
theorem e_92_3 {x : Int} : Ev X 92 3 ls (vi x :: st) h Q ↔ (stOK ls 3 = true ∧ Ev X 92 4 (ls.set 3 (some (vi x))) st h Q) := R_is rfl (Or.inl rfl)
theorem e_92_4 : Ev X 92 4 ls st h Q ↔ onI (gl ls 3) (fun z => Ev X 92 5 ls (vi z :: st) h Q) := R_il rfl (Or.inl rfl)
theorem e_92_5 : Ev X 92 5 ls st h Q ↔ onR (gl ls 1) (fun z => Ev X 92 6 ls (vr z :: st) h Q) := R_al rfl (Or.inl rfl)
theorem e_92_6 {x : Nat} : Ev X 92 6 ls (vr x :: st) h Q ↔ (X.1 x = 9 ∧ Ev X 92 7 ls (vr (X.2.2.1 x 5) :: st) h Q) := R_gr rfl
theorem e_92_7 {x : Nat} : Ev X 92 7 ls (vr x :: st) h Q ↔ (X.1 x = 6 ∧ Ev X 92 8 ls (vi (h.2 x 0) :: st) h Q) := R_gi rfl
theorem e_92_8 {x y : Int} : Ev X 92 8 ls (vi y :: vi x :: st) h Q ↔ (if y ≤ x then Ev X 92 24 ls st h Q else Ev X 92 9 ls st h Q) := R_icge rfl
theorem e_92_9 : Ev X 92 9 ls st h Q ↔ onI (gl ls 2) (fun z => Ev X 92 10 ls (vi z :: st) h Q) := R_il rfl (Or.inl rfl)
theorem e_92_10 : Ev X 92 10 ls st h Q ↔ onR (gl ls 1) (fun z => Ev X 92 11 ls (vr z :: st) h Q) := R_al rfl (Or.inl rfl)
theorem e_92_11 {x : Nat} : Ev X 92 11 ls (vr x :: st) h Q ↔ (X.1 x = 9 ∧ Ev X 92 12 ls (vr (X.2.2.1 x 5) :: st) h Q) := R_gr rfl
theorem e_92_12 {x : Nat} : Ev X 92 12 ls (vr x :: st) h Q ↔ (X.1 x = 6 ∧ Ev X 92 13 ls (vr (X.2.2.1 x 1) :: st) h Q) := R_gr rfl
theorem e_92_13 : Ev X 92 13 ls st h Q ↔ onI (gl ls 3) (fun z => Ev X 92 14 ls (vi z :: st) h Q) := R_il rfl (Or.inl rfl)
theorem e_92_14 {x : Nat} {j : Int} : Ev X 92 14 ls (vi j :: vr x :: st) h Q ↔ (((X.1 x = 13 ∨ X.1 x = 20) ∧ 0 ≤ j ∧ j < X.2.1 x) ∧ Ev X 92 15 ls (vi (h.1 x j.toNat) :: st) h Q) := R_ia rfl
theorem e_92_15 : Ev X 92 15 ls st h Q ↔ onR (gl ls 0) (fun z => Ev X 92 16 ls (vr z :: st) h Q) := R_al rfl (Or.inl rfl)
theorem e_92_16 : Ev X 92 16 ls st h Q ↔ onR (gl ls 1) (fun z => Ev X 92 17 ls (vr z :: st) h Q) := R_al rfl (Or.inl rfl)
theorem e_92_17 : Ev X 92 17 ls st h Q ↔ onI (gl ls 3) (fun z => Ev X 92 18 ls (vi z :: st) h Q) := R_il rfl (Or.inl rfl)
theorem e_92_18 {rest : List xV} {a0 : Nat} {a1 : Int} {o : Nat} : Ev X 92 18 ls ((vi a1) :: (vr a0) :: vr o :: rest) h Q ↔ ((X.1 o = 10 ∧ wd rest ≤ 8) ∧ Cl X 91 [vr o, vr a0, vi a1] h (fun r h2 => Ev X 92 19 ls (r.toList ++ rest) h2 Q)) := R_cv (x := o) (as := [vr a0, vi a1]) (k2 := 91) rfl rfl (Nat.le_of_ble_eq_true rfl)
theorem e_92_19 {x y : Int} : Ev X 92 19 ls (vi y :: vi x :: st) h Q ↔ ((inR (x * y)) ∧ Ev X 92 20 ls (vi (x * y) :: st) h Q) := R_mul rfl
theorem e_92_20 {x y : Int} : Ev X 92 20 ls (vi y :: vi x :: st) h Q ↔ ((inR (x + y)) ∧ Ev X 92 21 ls (vi (x + y) :: st) h Q) := R_add rfl
theorem e_92_21 {x : Int} : Ev X 92 21 ls (vi x :: st) h Q ↔ (stOK ls 2 = true ∧ Ev X 92 22 (ls.set 2 (some (vi x))) st h Q) := R_is rfl (Or.inl rfl)
theorem e_92_22 : Ev X 92 22 ls st h Q ↔ onI (gl ls 3) (fun x => (stOK ls 3 = true ∧ inR (x + 1)) ∧ Ev X 92 23 (ls.set 3 (some (vi (x + 1)))) st h Q) := R_inc rfl
theorem e_92_23 : Ev X 92 23 ls st h Q ↔ Ev X 92 4 ls st h Q := R_go rfl
theorem e_92_24 : Ev X 92 24 ls st h Q ↔ onI (gl ls 2) (fun z => Ev X 92 25 ls (vi z :: st) h Q) := R_il rfl (Or.inl rfl)
theorem e_92_25 {z : Int} : Ev X 92 25 ls [vi z] h Q ↔ Q (some (vi z)) h := R_ir rfl
-- 93: CellRows$Wire.lookAround(LCellRows$Plan;I)V
theorem e_93_0 : Ev X 93 0 ls st h Q ↔ onR (gl ls 0) (fun z => Ev X 93 1 ls (vr z :: st) h Q) := R_al rfl (Or.inl rfl)
theorem e_93_1 : Ev X 93 1 ls st h Q ↔ Ev X 93 2 ls (vi 0 :: st) h Q := R_kc rfl (Or.inl ⟨Or.inl rfl, by decide⟩)
theorem e_93_2 {x : Nat} {v : Int} : Ev X 93 2 ls (vi v :: vr x :: st) h Q ↔ (X.1 x = 10 ∧ Ev X 93 3 ls st (h.1, up2 h.2 x 6 v) Q) := R_pi rfl
theorem e_93_3 : Ev X 93 3 ls st h Q ↔ onR (gl ls 1) (fun z => Ev X 93 4 ls (vr z :: st) h Q) := R_al rfl (Or.inl rfl)
theorem e_93_4 {x : Nat} : Ev X 93 4 ls (vr x :: st) h Q ↔ (X.1 x = 9 ∧ Ev X 93 5 ls (vr (X.2.2.1 x 5) :: st) h Q) := R_gr rfl
theorem e_93_5 {x : Nat} : Ev X 93 5 ls (vr x :: st) h Q ↔ (stOK ls 3 = true ∧ Ev X 93 6 (ls.set 3 (some (vr x))) st h Q) := R_as rfl (Or.inl rfl)
theorem e_93_6 : Ev X 93 6 ls st h Q ↔ Ev X 93 7 ls (vi 0 :: st) h Q := R_kc rfl (Or.inl ⟨Or.inl rfl, by decide⟩)
theorem e_93_7 {x : Int} : Ev X 93 7 ls (vi x :: st) h Q ↔ (stOK ls 4 = true ∧ Ev X 93 8 (ls.set 4 (some (vi x))) st h Q) := R_is rfl (Or.inr rfl)
theorem e_93_8 : Ev X 93 8 ls st h Q ↔ onI (gl ls 4) (fun z => Ev X 93 9 ls (vi z :: st) h Q) := R_il rfl (Or.inr rfl)
theorem e_93_9 : Ev X 93 9 ls st h Q ↔ onR (gl ls 3) (fun z => Ev X 93 10 ls (vr z :: st) h Q) := R_al rfl (Or.inl rfl)
theorem e_93_10 {x : Nat} : Ev X 93 10 ls (vr x :: st) h Q ↔ (X.1 x = 6 ∧ Ev X 93 11 ls (vi (h.2 x 0) :: st) h Q) := R_gi rfl
theorem e_93_11 {x y : Int} : Ev X 93 11 ls (vi y :: vi x :: st) h Q ↔ (if y ≤ x then Ev X 93 83 ls st h Q else Ev X 93 12 ls st h Q) := R_icge rfl
theorem e_93_12 : Ev X 93 12 ls st h Q ↔ onR (gl ls 3) (fun z => Ev X 93 13 ls (vr z :: st) h Q) := R_al rfl (Or.inl rfl)
theorem e_93_13 : Ev X 93 13 ls st h Q ↔ onI (gl ls 4) (fun z => Ev X 93 14 ls (vi z :: st) h Q) := R_il rfl (Or.inr rfl)
theorem e_93_14 : Ev X 93 14 ls st h Q ↔ onI (gl ls 2) (fun z => Ev X 93 15 ls (vi z :: st) h Q) := R_il rfl (Or.inl rfl)
theorem e_93_15 {rest : List xV} {a0 : Int} {a1 : Int} {o : Nat} : Ev X 93 15 ls ((vi a1) :: (vi a0) :: vr o :: rest) h Q ↔ ((X.1 o = 6 ∧ wd rest ≤ 8) ∧ Cl X 45 [vr o, vi a0, vi a1] h (fun r h2 => Ev X 93 16 ls (r.toList ++ rest) h2 Q)) := R_cv (x := o) (as := [vi a0, vi a1]) (k2 := 45) rfl rfl (Nat.le_of_ble_eq_true rfl)
theorem e_93_16 {x : Int} : Ev X 93 16 ls (vi x :: st) h Q ↔ (stOK ls 5 = true ∧ Ev X 93 17 (ls.set 5 (some (vi x))) st h Q) := R_is rfl (Or.inr rfl)
theorem e_93_17 : Ev X 93 17 ls st h Q ↔ onI (gl ls 5) (fun z => Ev X 93 18 ls (vi z :: st) h Q) := R_il rfl (Or.inr rfl)
theorem e_93_18 : Ev X 93 18 ls st h Q ↔ Ev X 93 19 ls (vi (-1) :: st) h Q := R_kc rfl (Or.inl ⟨Or.inl rfl, by decide⟩)
theorem e_93_19 {x y : Int} : Ev X 93 19 ls (vi y :: vi x :: st) h Q ↔ (if x = y then Ev X 93 81 ls st h Q else Ev X 93 20 ls st h Q) := R_iceq rfl
theorem e_93_20 : Ev X 93 20 ls st h Q ↔ onR (gl ls 0) (fun z => Ev X 93 21 ls (vr z :: st) h Q) := R_al rfl (Or.inl rfl)
theorem e_93_21 : Ev X 93 21 ls st h Q ↔ onR (gl ls 1) (fun z => Ev X 93 22 ls (vr z :: st) h Q) := R_al rfl (Or.inl rfl)
theorem e_93_22 : Ev X 93 22 ls st h Q ↔ onI (gl ls 4) (fun z => Ev X 93 23 ls (vi z :: st) h Q) := R_il rfl (Or.inr rfl)
theorem e_93_23 : Ev X 93 23 ls st h Q ↔ onI (gl ls 5) (fun z => Ev X 93 24 ls (vi z :: st) h Q) := R_il rfl (Or.inr rfl)
theorem e_93_24 {rest : List xV} {a0 : Nat} {a1 : Int} {a2 : Int} {o : Nat} : Ev X 93 24 ls ((vi a2) :: (vi a1) :: (vr a0) :: vr o :: rest) h Q ↔ ((X.1 o = 10 ∧ wd rest ≤ 8) ∧ Cl X 89 [vr o, vr a0, vi a1, vi a2] h (fun r h2 => Ev X 93 25 ls (r.toList ++ rest) h2 Q)) := R_cv (x := o) (as := [vr a0, vi a1, vi a2]) (k2 := 89) rfl rfl (Nat.le_of_ble_eq_true rfl)
theorem e_93_25 : Ev X 93 25 ls st h Q ↔ onR (gl ls 0) (fun z => Ev X 93 26 ls (vr z :: st) h Q) := R_al rfl (Or.inl rfl)
theorem e_93_26 {x : Nat} : Ev X 93 26 ls (vr x :: st) h Q ↔ (X.1 x = 10 ∧ Ev X 93 27 ls (vr (X.2.2.1 x 7) :: st) h Q) := R_gr rfl
theorem e_93_27 : Ev X 93 27 ls st h Q ↔ onR (gl ls 0) (fun z => Ev X 93 28 ls (vr z :: st) h Q) := R_al rfl (Or.inl rfl)
theorem e_93_28 {x : Nat} : Ev X 93 28 ls (vr x :: st) h Q ↔ (X.1 x = 10 ∧ Ev X 93 29 ls (vi (h.2 x 6) :: st) h Q) := R_gi rfl
theorem e_93_29 : Ev X 93 29 ls st h Q ↔ onR (gl ls 3) (fun z => Ev X 93 30 ls (vr z :: st) h Q) := R_al rfl (Or.inl rfl)
theorem e_93_30 {x : Nat} : Ev X 93 30 ls (vr x :: st) h Q ↔ (X.1 x = 6 ∧ Ev X 93 31 ls (vr (X.2.2.1 x 4) :: st) h Q) := R_gr rfl
theorem e_93_31 : Ev X 93 31 ls st h Q ↔ onI (gl ls 4) (fun z => Ev X 93 32 ls (vi z :: st) h Q) := R_il rfl (Or.inr rfl)
theorem e_93_32 : Ev X 93 32 ls st h Q ↔ Ev X 93 33 ls (vi 6 :: st) h Q := R_kc rfl (Or.inr (Or.inl ⟨rfl, by decide⟩))
theorem e_93_33 {x y : Int} : Ev X 93 33 ls (vi y :: vi x :: st) h Q ↔ ((inR (x * y)) ∧ Ev X 93 34 ls (vi (x * y) :: st) h Q) := R_mul rfl
theorem e_93_34 : Ev X 93 34 ls st h Q ↔ onI (gl ls 5) (fun z => Ev X 93 35 ls (vi z :: st) h Q) := R_il rfl (Or.inr rfl)
theorem e_93_35 {x y : Int} : Ev X 93 35 ls (vi y :: vi x :: st) h Q ↔ ((inR (x + y)) ∧ Ev X 93 36 ls (vi (x + y) :: st) h Q) := R_add rfl
theorem e_93_36 {x : Nat} {j : Int} : Ev X 93 36 ls (vi j :: vr x :: st) h Q ↔ (((X.1 x = 13 ∨ X.1 x = 20) ∧ 0 ≤ j ∧ j < X.2.1 x) ∧ Ev X 93 37 ls (vi (h.1 x j.toNat) :: st) h Q) := R_ia rfl
theorem e_93_37 {x : Nat} {j v : Int} : Ev X 93 37 ls (vi v :: vi j :: vr x :: st) h Q ↔ ((X.1 x = 13 ∧ 0 ≤ j ∧ j < X.2.1 x) ∧ Ev X 93 38 ls st (up2 h.1 x j.toNat v, h.2) Q) := R_ias rfl
theorem e_93_38 : Ev X 93 38 ls st h Q ↔ onR (gl ls 0) (fun z => Ev X 93 39 ls (vr z :: st) h Q) := R_al rfl (Or.inl rfl)
theorem e_93_39 {x : Nat} : Ev X 93 39 ls (vr x :: st) h Q ↔ (X.1 x = 10 ∧ Ev X 93 40 ls (vr (X.2.2.1 x 8) :: st) h Q) := R_gr rfl
theorem e_93_40 : Ev X 93 40 ls st h Q ↔ onR (gl ls 0) (fun z => Ev X 93 41 ls (vr z :: st) h Q) := R_al rfl (Or.inl rfl)
theorem e_93_41 {x : Nat} : Ev X 93 41 ls (vr x :: st) h Q ↔ (X.1 x = 10 ∧ Ev X 93 42 ls (vi (h.2 x 6) :: st) h Q) := R_gi rfl
theorem e_93_42 : Ev X 93 42 ls st h Q ↔ onR (gl ls 3) (fun z => Ev X 93 43 ls (vr z :: st) h Q) := R_al rfl (Or.inl rfl)
theorem e_93_43 {x : Nat} : Ev X 93 43 ls (vr x :: st) h Q ↔ (X.1 x = 6 ∧ Ev X 93 44 ls (vr (X.2.2.1 x 1) :: st) h Q) := R_gr rfl
theorem e_93_44 : Ev X 93 44 ls st h Q ↔ onI (gl ls 4) (fun z => Ev X 93 45 ls (vi z :: st) h Q) := R_il rfl (Or.inr rfl)
theorem e_93_45 {x : Nat} {j : Int} : Ev X 93 45 ls (vi j :: vr x :: st) h Q ↔ (((X.1 x = 13 ∨ X.1 x = 20) ∧ 0 ≤ j ∧ j < X.2.1 x) ∧ Ev X 93 46 ls (vi (h.1 x j.toNat) :: st) h Q) := R_ia rfl
theorem e_93_46 {x : Nat} {j v : Int} : Ev X 93 46 ls (vi v :: vi j :: vr x :: st) h Q ↔ ((X.1 x = 13 ∧ 0 ≤ j ∧ j < X.2.1 x) ∧ Ev X 93 47 ls st (up2 h.1 x j.toNat v, h.2) Q) := R_ias rfl
theorem e_93_47 : Ev X 93 47 ls st h Q ↔ onR (gl ls 0) (fun z => Ev X 93 48 ls (vr z :: st) h Q) := R_al rfl (Or.inl rfl)
theorem e_93_48 {x : Nat} : Ev X 93 48 ls (vr x :: st) h Q ↔ (X.1 x = 10 ∧ Ev X 93 49 ls (vr (X.2.2.1 x 9) :: st) h Q) := R_gr rfl
theorem e_93_49 : Ev X 93 49 ls st h Q ↔ onR (gl ls 0) (fun z => Ev X 93 50 ls (vr z :: st) h Q) := R_al rfl (Or.inl rfl)
theorem e_93_50 {x : Nat} : Ev X 93 50 ls (vr x :: st) h Q ↔ (X.1 x = 10 ∧ Ev X 93 51 ls (vi (h.2 x 6) :: st) h Q) := R_gi rfl
theorem e_93_51 : Ev X 93 51 ls st h Q ↔ onR (gl ls 0) (fun z => Ev X 93 52 ls (vr z :: st) h Q) := R_al rfl (Or.inl rfl)
theorem e_93_52 {x : Nat} : Ev X 93 52 ls (vr x :: st) h Q ↔ (X.1 x = 10 ∧ Ev X 93 53 ls (vi (h.2 x 1) :: st) h Q) := R_gi rfl
theorem e_93_53 {x : Nat} {j v : Int} : Ev X 93 53 ls (vi v :: vi j :: vr x :: st) h Q ↔ ((X.1 x = 13 ∧ 0 ≤ j ∧ j < X.2.1 x) ∧ Ev X 93 54 ls st (up2 h.1 x j.toNat v, h.2) Q) := R_ias rfl
theorem e_93_54 : Ev X 93 54 ls st h Q ↔ onR (gl ls 0) (fun z => Ev X 93 55 ls (vr z :: st) h Q) := R_al rfl (Or.inl rfl)
theorem e_93_55 {x : Nat} : Ev X 93 55 ls (vr x :: st) h Q ↔ (X.1 x = 10 ∧ Ev X 93 56 ls (vr (X.2.2.1 x 10) :: st) h Q) := R_gr rfl
theorem e_93_56 : Ev X 93 56 ls st h Q ↔ onR (gl ls 0) (fun z => Ev X 93 57 ls (vr z :: st) h Q) := R_al rfl (Or.inl rfl)
theorem e_93_57 {x : Nat} : Ev X 93 57 ls (vr x :: st) h Q ↔ (X.1 x = 10 ∧ Ev X 93 58 ls (vi (h.2 x 6) :: st) h Q) := R_gi rfl
theorem e_93_58 : Ev X 93 58 ls st h Q ↔ onR (gl ls 0) (fun z => Ev X 93 59 ls (vr z :: st) h Q) := R_al rfl (Or.inl rfl)
theorem e_93_59 {x : Nat} : Ev X 93 59 ls (vr x :: st) h Q ↔ (X.1 x = 10 ∧ Ev X 93 60 ls (vi (h.2 x 2) :: st) h Q) := R_gi rfl
theorem e_93_60 {x : Nat} {j v : Int} : Ev X 93 60 ls (vi v :: vi j :: vr x :: st) h Q ↔ ((X.1 x = 13 ∧ 0 ≤ j ∧ j < X.2.1 x) ∧ Ev X 93 61 ls st (up2 h.1 x j.toNat v, h.2) Q) := R_ias rfl
theorem e_93_61 : Ev X 93 61 ls st h Q ↔ onR (gl ls 0) (fun z => Ev X 93 62 ls (vr z :: st) h Q) := R_al rfl (Or.inl rfl)
theorem e_93_62 {x : Nat} : Ev X 93 62 ls (vr x :: st) h Q ↔ (X.1 x = 10 ∧ Ev X 93 63 ls (vr (X.2.2.1 x 11) :: st) h Q) := R_gr rfl
theorem e_93_63 : Ev X 93 63 ls st h Q ↔ onR (gl ls 0) (fun z => Ev X 93 64 ls (vr z :: st) h Q) := R_al rfl (Or.inl rfl)
theorem e_93_64 {x : Nat} : Ev X 93 64 ls (vr x :: st) h Q ↔ (X.1 x = 10 ∧ Ev X 93 65 ls (vi (h.2 x 6) :: st) h Q) := R_gi rfl
theorem e_93_65 : Ev X 93 65 ls st h Q ↔ onR (gl ls 0) (fun z => Ev X 93 66 ls (vr z :: st) h Q) := R_al rfl (Or.inl rfl)
theorem e_93_66 {x : Nat} : Ev X 93 66 ls (vr x :: st) h Q ↔ (X.1 x = 10 ∧ Ev X 93 67 ls (vi (h.2 x 3) :: st) h Q) := R_gi rfl
theorem e_93_67 {x : Nat} {j v : Int} : Ev X 93 67 ls (vi v :: vi j :: vr x :: st) h Q ↔ ((X.1 x = 13 ∧ 0 ≤ j ∧ j < X.2.1 x) ∧ Ev X 93 68 ls st (up2 h.1 x j.toNat v, h.2) Q) := R_ias rfl
theorem e_93_68 : Ev X 93 68 ls st h Q ↔ onR (gl ls 0) (fun z => Ev X 93 69 ls (vr z :: st) h Q) := R_al rfl (Or.inl rfl)
theorem e_93_69 {x : Nat} : Ev X 93 69 ls (vr x :: st) h Q ↔ (X.1 x = 10 ∧ Ev X 93 70 ls (vr (X.2.2.1 x 12) :: st) h Q) := R_gr rfl
theorem e_93_70 : Ev X 93 70 ls st h Q ↔ onR (gl ls 0) (fun z => Ev X 93 71 ls (vr z :: st) h Q) := R_al rfl (Or.inl rfl)
theorem e_93_71 {x : Nat} : Ev X 93 71 ls (vr x :: st) h Q ↔ (X.1 x = 10 ∧ Ev X 93 72 ls (vi (h.2 x 6) :: st) h Q) := R_gi rfl
theorem e_93_72 : Ev X 93 72 ls st h Q ↔ onR (gl ls 0) (fun z => Ev X 93 73 ls (vr z :: st) h Q) := R_al rfl (Or.inl rfl)
theorem e_93_73 {x : Nat} : Ev X 93 73 ls (vr x :: st) h Q ↔ (X.1 x = 10 ∧ Ev X 93 74 ls (vi (h.2 x 4) :: st) h Q) := R_gi rfl
theorem e_93_74 {x : Nat} {j v : Int} : Ev X 93 74 ls (vi v :: vi j :: vr x :: st) h Q ↔ ((X.1 x = 13 ∧ 0 ≤ j ∧ j < X.2.1 x) ∧ Ev X 93 75 ls st (up2 h.1 x j.toNat v, h.2) Q) := R_ias rfl
theorem e_93_75 : Ev X 93 75 ls st h Q ↔ onR (gl ls 0) (fun z => Ev X 93 76 ls (vr z :: st) h Q) := R_al rfl (Or.inl rfl)
theorem e_93_76 {v : xV} : Ev X 93 76 ls (v :: st) h Q ↔ (ct1 v = true ∧ Ev X 93 77 ls (v :: v :: st) h Q) := R_dup rfl
theorem e_93_77 {x : Nat} : Ev X 93 77 ls (vr x :: st) h Q ↔ (X.1 x = 10 ∧ Ev X 93 78 ls (vi (h.2 x 6) :: st) h Q) := R_gi rfl
theorem e_93_78 : Ev X 93 78 ls st h Q ↔ Ev X 93 79 ls (vi 1 :: st) h Q := R_kc rfl (Or.inl ⟨Or.inl rfl, by decide⟩)
theorem e_93_79 {x y : Int} : Ev X 93 79 ls (vi y :: vi x :: st) h Q ↔ ((inR (x + y)) ∧ Ev X 93 80 ls (vi (x + y) :: st) h Q) := R_add rfl
theorem e_93_80 {x : Nat} {v : Int} : Ev X 93 80 ls (vi v :: vr x :: st) h Q ↔ (X.1 x = 10 ∧ Ev X 93 81 ls st (h.1, up2 h.2 x 6 v) Q) := R_pi rfl
theorem e_93_81 : Ev X 93 81 ls st h Q ↔ onI (gl ls 4) (fun x => (stOK ls 4 = true ∧ inR (x + 1)) ∧ Ev X 93 82 (ls.set 4 (some (vi (x + 1)))) st h Q) := R_inc rfl
theorem e_93_82 : Ev X 93 82 ls st h Q ↔ Ev X 93 8 ls st h Q := R_go rfl
theorem e_93_83 : Ev X 93 83 ls [] h Q ↔ Q none h := R_vr rfl
-- 94: CellRows$Wire.wireAt(II)I
theorem e_94_0 : Ev X 94 0 ls st h Q ↔ Ev X 94 1 ls (vi 0 :: st) h Q := R_kc rfl (Or.inl ⟨Or.inl rfl, by decide⟩)
theorem e_94_1 {x : Int} : Ev X 94 1 ls (vi x :: st) h Q ↔ (stOK ls 3 = true ∧ Ev X 94 2 (ls.set 3 (some (vi x))) st h Q) := R_is rfl (Or.inl rfl)
theorem e_94_2 : Ev X 94 2 ls st h Q ↔ Ev X 94 3 ls (vi 0 :: st) h Q := R_kc rfl (Or.inl ⟨Or.inl rfl, by decide⟩)
theorem e_94_3 {x : Int} : Ev X 94 3 ls (vi x :: st) h Q ↔ (stOK ls 4 = true ∧ Ev X 94 4 (ls.set 4 (some (vi x))) st h Q) := R_is rfl (Or.inr rfl)
theorem e_94_4 : Ev X 94 4 ls st h Q ↔ onI (gl ls 4) (fun z => Ev X 94 5 ls (vi z :: st) h Q) := R_il rfl (Or.inr rfl)
theorem e_94_5 : Ev X 94 5 ls st h Q ↔ onR (gl ls 0) (fun z => Ev X 94 6 ls (vr z :: st) h Q) := R_al rfl (Or.inl rfl)
theorem e_94_6 {x : Nat} : Ev X 94 6 ls (vr x :: st) h Q ↔ (X.1 x = 10 ∧ Ev X 94 7 ls (vi (h.2 x 6) :: st) h Q) := R_gi rfl
theorem e_94_7 {x y : Int} : Ev X 94 7 ls (vi y :: vi x :: st) h Q ↔ (if y ≤ x then Ev X 94 69 ls st h Q else Ev X 94 8 ls st h Q) := R_icge rfl
theorem e_94_8 : Ev X 94 8 ls st h Q ↔ onI (gl ls 1) (fun z => Ev X 94 9 ls (vi z :: st) h Q) := R_il rfl (Or.inl rfl)
theorem e_94_9 : Ev X 94 9 ls st h Q ↔ Ev X 94 10 ls (vi 16 :: st) h Q := R_kc rfl (Or.inr (Or.inl ⟨rfl, by decide⟩))
theorem e_94_10 : Ev X 94 10 ls st h Q ↔ onR (gl ls 0) (fun z => Ev X 94 11 ls (vr z :: st) h Q) := R_al rfl (Or.inl rfl)
theorem e_94_11 {x : Nat} : Ev X 94 11 ls (vr x :: st) h Q ↔ (X.1 x = 10 ∧ Ev X 94 12 ls (vr (X.2.2.1 x 7) :: st) h Q) := R_gr rfl
theorem e_94_12 : Ev X 94 12 ls st h Q ↔ onI (gl ls 4) (fun z => Ev X 94 13 ls (vi z :: st) h Q) := R_il rfl (Or.inr rfl)
theorem e_94_13 {x : Nat} {j : Int} : Ev X 94 13 ls (vi j :: vr x :: st) h Q ↔ (((X.1 x = 13 ∨ X.1 x = 20) ∧ 0 ≤ j ∧ j < X.2.1 x) ∧ Ev X 94 14 ls (vi (h.1 x j.toNat) :: st) h Q) := R_ia rfl
theorem e_94_14 {x y : Int} : Ev X 94 14 ls (vi y :: vi x :: st) h Q ↔ ((inR (x * y)) ∧ Ev X 94 15 ls (vi (x * y) :: st) h Q) := R_mul rfl
theorem e_94_15 {x y : Int} : Ev X 94 15 ls (vi y :: vi x :: st) h Q ↔ ((inR (x + y)) ∧ Ev X 94 16 ls (vi (x + y) :: st) h Q) := R_add rfl
theorem e_94_16 : Ev X 94 16 ls st h Q ↔ Ev X 94 17 ls (vi 8 :: st) h Q := R_kc rfl (Or.inr (Or.inl ⟨rfl, by decide⟩))
theorem e_94_17 {x y : Int} : Ev X 94 17 ls (vi y :: vi x :: st) h Q ↔ ((inR (x + y)) ∧ Ev X 94 18 ls (vi (x + y) :: st) h Q) := R_add rfl
theorem e_94_18 {x : Int} : Ev X 94 18 ls (vi x :: st) h Q ↔ (stOK ls 5 = true ∧ Ev X 94 19 (ls.set 5 (some (vi x))) st h Q) := R_is rfl (Or.inr rfl)
theorem e_94_19 : Ev X 94 19 ls st h Q ↔ onI (gl ls 2) (fun z => Ev X 94 20 ls (vi z :: st) h Q) := R_il rfl (Or.inl rfl)
theorem e_94_20 : Ev X 94 20 ls st h Q ↔ Ev X 94 21 ls (vi 8 :: st) h Q := R_kc rfl (Or.inr (Or.inl ⟨rfl, by decide⟩))
theorem e_94_21 {x y : Int} : Ev X 94 21 ls (vi y :: vi x :: st) h Q ↔ ((inR (x + y)) ∧ Ev X 94 22 ls (vi (x + y) :: st) h Q) := R_add rfl
theorem e_94_22 {x : Int} : Ev X 94 22 ls (vi x :: st) h Q ↔ (stOK ls 6 = true ∧ Ev X 94 23 (ls.set 6 (some (vi x))) st h Q) := R_is rfl (Or.inr rfl)
theorem e_94_23 : Ev X 94 23 ls st h Q ↔ onR (gl ls 0) (fun z => Ev X 94 24 ls (vr z :: st) h Q) := R_al rfl (Or.inl rfl)
theorem e_94_24 {x : Nat} : Ev X 94 24 ls (vr x :: st) h Q ↔ (X.1 x = 10 ∧ Ev X 94 25 ls (vr (X.2.2.1 x 10) :: st) h Q) := R_gr rfl
theorem e_94_25 : Ev X 94 25 ls st h Q ↔ onI (gl ls 4) (fun z => Ev X 94 26 ls (vi z :: st) h Q) := R_il rfl (Or.inr rfl)
theorem e_94_26 {x : Nat} {j : Int} : Ev X 94 26 ls (vi j :: vr x :: st) h Q ↔ (((X.1 x = 13 ∨ X.1 x = 20) ∧ 0 ≤ j ∧ j < X.2.1 x) ∧ Ev X 94 27 ls (vi (h.1 x j.toNat) :: st) h Q) := R_ia rfl
theorem e_94_27 : Ev X 94 27 ls st h Q ↔ onI (gl ls 5) (fun z => Ev X 94 28 ls (vi z :: st) h Q) := R_il rfl (Or.inr rfl)
theorem e_94_28 {rest : List xV} {a0 : Int} {a1 : Int} : Ev X 94 28 ls ((vi a1) :: (vi a0) :: rest) h Q ↔ (wd rest ≤ 8 ∧ Cl X 284 [vi a0, vi a1] h (fun r h2 => Ev X 94 29 ls (r.toList ++ rest) h2 Q)) := R_cs (as := [vi a0, vi a1]) (k2 := 284) rfl rfl (Nat.le_of_ble_eq_true rfl)
theorem e_94_29 : Ev X 94 29 ls st h Q ↔ onR (gl ls 0) (fun z => Ev X 94 30 ls (vr z :: st) h Q) := R_al rfl (Or.inl rfl)
theorem e_94_30 {x : Nat} : Ev X 94 30 ls (vr x :: st) h Q ↔ (X.1 x = 10 ∧ Ev X 94 31 ls (vr (X.2.2.1 x 9) :: st) h Q) := R_gr rfl
theorem e_94_31 : Ev X 94 31 ls st h Q ↔ onI (gl ls 4) (fun z => Ev X 94 32 ls (vi z :: st) h Q) := R_il rfl (Or.inr rfl)
theorem e_94_32 {x : Nat} {j : Int} : Ev X 94 32 ls (vi j :: vr x :: st) h Q ↔ (((X.1 x = 13 ∨ X.1 x = 20) ∧ 0 ≤ j ∧ j < X.2.1 x) ∧ Ev X 94 33 ls (vi (h.1 x j.toNat) :: st) h Q) := R_ia rfl
theorem e_94_33 : Ev X 94 33 ls st h Q ↔ onI (gl ls 5) (fun z => Ev X 94 34 ls (vi z :: st) h Q) := R_il rfl (Or.inr rfl)
theorem e_94_34 {rest : List xV} {a0 : Int} {a1 : Int} : Ev X 94 34 ls ((vi a1) :: (vi a0) :: rest) h Q ↔ (wd rest ≤ 8 ∧ Cl X 285 [vi a0, vi a1] h (fun r h2 => Ev X 94 35 ls (r.toList ++ rest) h2 Q)) := R_cs (as := [vi a0, vi a1]) (k2 := 285) rfl rfl (Nat.le_of_ble_eq_true rfl)
theorem e_94_35 {x y : Int} : Ev X 94 35 ls (vi y :: vi x :: st) h Q ↔ ((inR (x - y)) ∧ Ev X 94 36 ls (vi (x - y) :: st) h Q) := R_sub rfl
theorem e_94_36 {x : Int} : Ev X 94 36 ls (vi x :: st) h Q ↔ (stOK ls 7 = true ∧ Ev X 94 37 (ls.set 7 (some (vi x))) st h Q) := R_is rfl (Or.inr rfl)
theorem e_94_37 : Ev X 94 37 ls st h Q ↔ onR (gl ls 0) (fun z => Ev X 94 38 ls (vr z :: st) h Q) := R_al rfl (Or.inl rfl)
theorem e_94_38 {x : Nat} : Ev X 94 38 ls (vr x :: st) h Q ↔ (X.1 x = 10 ∧ Ev X 94 39 ls (vr (X.2.2.1 x 12) :: st) h Q) := R_gr rfl
theorem e_94_39 : Ev X 94 39 ls st h Q ↔ onI (gl ls 4) (fun z => Ev X 94 40 ls (vi z :: st) h Q) := R_il rfl (Or.inr rfl)
theorem e_94_40 {x : Nat} {j : Int} : Ev X 94 40 ls (vi j :: vr x :: st) h Q ↔ (((X.1 x = 13 ∨ X.1 x = 20) ∧ 0 ≤ j ∧ j < X.2.1 x) ∧ Ev X 94 41 ls (vi (h.1 x j.toNat) :: st) h Q) := R_ia rfl
theorem e_94_41 : Ev X 94 41 ls st h Q ↔ onI (gl ls 6) (fun z => Ev X 94 42 ls (vi z :: st) h Q) := R_il rfl (Or.inr rfl)
theorem e_94_42 {rest : List xV} {a0 : Int} {a1 : Int} : Ev X 94 42 ls ((vi a1) :: (vi a0) :: rest) h Q ↔ (wd rest ≤ 8 ∧ Cl X 284 [vi a0, vi a1] h (fun r h2 => Ev X 94 43 ls (r.toList ++ rest) h2 Q)) := R_cs (as := [vi a0, vi a1]) (k2 := 284) rfl rfl (Nat.le_of_ble_eq_true rfl)
theorem e_94_43 : Ev X 94 43 ls st h Q ↔ onR (gl ls 0) (fun z => Ev X 94 44 ls (vr z :: st) h Q) := R_al rfl (Or.inl rfl)
theorem e_94_44 {x : Nat} : Ev X 94 44 ls (vr x :: st) h Q ↔ (X.1 x = 10 ∧ Ev X 94 45 ls (vr (X.2.2.1 x 11) :: st) h Q) := R_gr rfl
theorem e_94_45 : Ev X 94 45 ls st h Q ↔ onI (gl ls 4) (fun z => Ev X 94 46 ls (vi z :: st) h Q) := R_il rfl (Or.inr rfl)
theorem e_94_46 {x : Nat} {j : Int} : Ev X 94 46 ls (vi j :: vr x :: st) h Q ↔ (((X.1 x = 13 ∨ X.1 x = 20) ∧ 0 ≤ j ∧ j < X.2.1 x) ∧ Ev X 94 47 ls (vi (h.1 x j.toNat) :: st) h Q) := R_ia rfl
theorem e_94_47 : Ev X 94 47 ls st h Q ↔ onI (gl ls 6) (fun z => Ev X 94 48 ls (vi z :: st) h Q) := R_il rfl (Or.inr rfl)
theorem e_94_48 {rest : List xV} {a0 : Int} {a1 : Int} : Ev X 94 48 ls ((vi a1) :: (vi a0) :: rest) h Q ↔ (wd rest ≤ 8 ∧ Cl X 285 [vi a0, vi a1] h (fun r h2 => Ev X 94 49 ls (r.toList ++ rest) h2 Q)) := R_cs (as := [vi a0, vi a1]) (k2 := 285) rfl rfl (Nat.le_of_ble_eq_true rfl)
theorem e_94_49 {x y : Int} : Ev X 94 49 ls (vi y :: vi x :: st) h Q ↔ ((inR (x - y)) ∧ Ev X 94 50 ls (vi (x - y) :: st) h Q) := R_sub rfl
theorem e_94_50 {x : Int} : Ev X 94 50 ls (vi x :: st) h Q ↔ (stOK ls 8 = true ∧ Ev X 94 51 (ls.set 8 (some (vi x))) st h Q) := R_is rfl (Or.inr rfl)
theorem e_94_51 : Ev X 94 51 ls st h Q ↔ onI (gl ls 3) (fun z => Ev X 94 52 ls (vi z :: st) h Q) := R_il rfl (Or.inl rfl)
theorem e_94_52 : Ev X 94 52 ls st h Q ↔ onR (gl ls 0) (fun z => Ev X 94 53 ls (vr z :: st) h Q) := R_al rfl (Or.inl rfl)
theorem e_94_53 {x : Nat} : Ev X 94 53 ls (vr x :: st) h Q ↔ (X.1 x = 10 ∧ Ev X 94 54 ls (vr (X.2.2.1 x 8) :: st) h Q) := R_gr rfl
theorem e_94_54 : Ev X 94 54 ls st h Q ↔ onI (gl ls 4) (fun z => Ev X 94 55 ls (vi z :: st) h Q) := R_il rfl (Or.inr rfl)
theorem e_94_55 {x : Nat} {j : Int} : Ev X 94 55 ls (vi j :: vr x :: st) h Q ↔ (((X.1 x = 13 ∨ X.1 x = 20) ∧ 0 ≤ j ∧ j < X.2.1 x) ∧ Ev X 94 56 ls (vi (h.1 x j.toNat) :: st) h Q) := R_ia rfl
theorem e_94_56 : Ev X 94 56 ls st h Q ↔ onI (gl ls 7) (fun z => Ev X 94 57 ls (vi z :: st) h Q) := R_il rfl (Or.inr rfl)
theorem e_94_57 : Ev X 94 57 ls st h Q ↔ onR (gl ls 0) (fun z => Ev X 94 58 ls (vr z :: st) h Q) := R_al rfl (Or.inl rfl)
theorem e_94_58 {x : Nat} : Ev X 94 58 ls (vr x :: st) h Q ↔ (X.1 x = 10 ∧ Ev X 94 59 ls (vr (X.2.2.1 x 0) :: st) h Q) := R_gr rfl
theorem e_94_59 : Ev X 94 59 ls st h Q ↔ Ev X 94 60 ls (vi 4 :: st) h Q := R_kc rfl (Or.inl ⟨Or.inl rfl, by decide⟩)
theorem e_94_60 {x : Nat} {j : Int} : Ev X 94 60 ls (vi j :: vr x :: st) h Q ↔ (((X.1 x = 13 ∨ X.1 x = 20) ∧ 0 ≤ j ∧ j < X.2.1 x) ∧ Ev X 94 61 ls (vi (h.1 x j.toNat) :: st) h Q) := R_ia rfl
theorem e_94_61 : Ev X 94 61 ls st h Q ↔ onI (gl ls 8) (fun z => Ev X 94 62 ls (vi z :: st) h Q) := R_il rfl (Or.inr rfl)
theorem e_94_62 {x y : Int} : Ev X 94 62 ls (vi y :: vi x :: st) h Q ↔ ((inR (x * y)) ∧ Ev X 94 63 ls (vi (x * y) :: st) h Q) := R_mul rfl
theorem e_94_63 {x y : Int} : Ev X 94 63 ls (vi y :: vi x :: st) h Q ↔ ((inR (x + y)) ∧ Ev X 94 64 ls (vi (x + y) :: st) h Q) := R_add rfl
theorem e_94_64 {x y : Int} : Ev X 94 64 ls (vi y :: vi x :: st) h Q ↔ ((inR (x * y)) ∧ Ev X 94 65 ls (vi (x * y) :: st) h Q) := R_mul rfl
theorem e_94_65 {x y : Int} : Ev X 94 65 ls (vi y :: vi x :: st) h Q ↔ ((inR (x + y)) ∧ Ev X 94 66 ls (vi (x + y) :: st) h Q) := R_add rfl
theorem e_94_66 {x : Int} : Ev X 94 66 ls (vi x :: st) h Q ↔ (stOK ls 3 = true ∧ Ev X 94 67 (ls.set 3 (some (vi x))) st h Q) := R_is rfl (Or.inl rfl)
theorem e_94_67 : Ev X 94 67 ls st h Q ↔ onI (gl ls 4) (fun x => (stOK ls 4 = true ∧ inR (x + 1)) ∧ Ev X 94 68 (ls.set 4 (some (vi (x + 1)))) st h Q) := R_inc rfl
theorem e_94_68 : Ev X 94 68 ls st h Q ↔ Ev X 94 4 ls st h Q := R_go rfl
theorem e_94_69 : Ev X 94 69 ls st h Q ↔ onI (gl ls 3) (fun z => Ev X 94 70 ls (vi z :: st) h Q) := R_il rfl (Or.inl rfl)
theorem e_94_70 {z : Int} : Ev X 94 70 ls [vi z] h Q ↔ Q (some (vi z)) h := R_ir rfl
-- 95: CellRows$Wire.wireAsItIs(LCellRows$Plan;I)I
theorem e_95_0 : Ev X 95 0 ls st h Q ↔ onR (gl ls 0) (fun z => Ev X 95 1 ls (vr z :: st) h Q) := R_al rfl (Or.inl rfl)
theorem e_95_1 : Ev X 95 1 ls st h Q ↔ onR (gl ls 1) (fun z => Ev X 95 2 ls (vr z :: st) h Q) := R_al rfl (Or.inl rfl)
theorem e_95_2 : Ev X 95 2 ls st h Q ↔ onI (gl ls 2) (fun z => Ev X 95 3 ls (vi z :: st) h Q) := R_il rfl (Or.inl rfl)
theorem e_95_3 {rest : List xV} {a0 : Int} {o : Nat} : Ev X 95 3 ls ((vi a0) :: vr o :: rest) h Q ↔ ((X.1 o = 9 ∧ wd rest ≤ 8) ∧ Cl X 85 [vr o, vi a0] h (fun r h2 => Ev X 95 4 ls (r.toList ++ rest) h2 Q)) := R_cv (x := o) (as := [vi a0]) (k2 := 85) rfl rfl (Nat.le_of_ble_eq_true rfl)
theorem e_95_4 : Ev X 95 4 ls st h Q ↔ onR (gl ls 1) (fun z => Ev X 95 5 ls (vr z :: st) h Q) := R_al rfl (Or.inl rfl)
theorem e_95_5 : Ev X 95 5 ls st h Q ↔ onI (gl ls 2) (fun z => Ev X 95 6 ls (vi z :: st) h Q) := R_il rfl (Or.inl rfl)
theorem e_95_6 {rest : List xV} {a0 : Int} {o : Nat} : Ev X 95 6 ls ((vi a0) :: vr o :: rest) h Q ↔ ((X.1 o = 9 ∧ wd rest ≤ 8) ∧ Cl X 86 [vr o, vi a0] h (fun r h2 => Ev X 95 7 ls (r.toList ++ rest) h2 Q)) := R_cv (x := o) (as := [vi a0]) (k2 := 86) rfl rfl (Nat.le_of_ble_eq_true rfl)
theorem e_95_7 {rest : List xV} {a0 : Int} {a1 : Int} {o : Nat} : Ev X 95 7 ls ((vi a1) :: (vi a0) :: vr o :: rest) h Q ↔ ((X.1 o = 10 ∧ wd rest ≤ 8) ∧ Cl X 94 [vr o, vi a0, vi a1] h (fun r h2 => Ev X 95 8 ls (r.toList ++ rest) h2 Q)) := R_cv (x := o) (as := [vi a0, vi a1]) (k2 := 94) rfl rfl (Nat.le_of_ble_eq_true rfl)
theorem e_95_8 {z : Int} : Ev X 95 8 ls [vi z] h Q ↔ Q (some (vi z)) h := R_ir rfl
-- 96: CellRows$Wire.smoothOf(LCellRows$Plan;)I
theorem e_96_0 : Ev X 96 0 ls st h Q ↔ Ev X 96 1 ls (vi 0 :: st) h Q := R_kc rfl (Or.inl ⟨Or.inl rfl, by decide⟩)
theorem e_96_1 {x : Int} : Ev X 96 1 ls (vi x :: st) h Q ↔ (stOK ls 2 = true ∧ Ev X 96 2 (ls.set 2 (some (vi x))) st h Q) := R_is rfl (Or.inl rfl)
theorem e_96_2 : Ev X 96 2 ls st h Q ↔ Ev X 96 3 ls (vi 0 :: st) h Q := R_kc rfl (Or.inl ⟨Or.inl rfl, by decide⟩)
theorem e_96_3 {x : Int} : Ev X 96 3 ls (vi x :: st) h Q ↔ (stOK ls 3 = true ∧ Ev X 96 4 (ls.set 3 (some (vi x))) st h Q) := R_is rfl (Or.inl rfl)
theorem e_96_4 : Ev X 96 4 ls st h Q ↔ onI (gl ls 3) (fun z => Ev X 96 5 ls (vi z :: st) h Q) := R_il rfl (Or.inl rfl)
theorem e_96_5 : Ev X 96 5 ls st h Q ↔ onR (gl ls 1) (fun z => Ev X 96 6 ls (vr z :: st) h Q) := R_al rfl (Or.inl rfl)
theorem e_96_6 {x : Nat} : Ev X 96 6 ls (vr x :: st) h Q ↔ (X.1 x = 9 ∧ Ev X 96 7 ls (vr (X.2.2.1 x 5) :: st) h Q) := R_gr rfl
theorem e_96_7 {x : Nat} : Ev X 96 7 ls (vr x :: st) h Q ↔ (X.1 x = 6 ∧ Ev X 96 8 ls (vi (h.2 x 0) :: st) h Q) := R_gi rfl
theorem e_96_8 {x y : Int} : Ev X 96 8 ls (vi y :: vi x :: st) h Q ↔ (if y ≤ x then Ev X 96 24 ls st h Q else Ev X 96 9 ls st h Q) := R_icge rfl
theorem e_96_9 : Ev X 96 9 ls st h Q ↔ onI (gl ls 2) (fun z => Ev X 96 10 ls (vi z :: st) h Q) := R_il rfl (Or.inl rfl)
theorem e_96_10 : Ev X 96 10 ls st h Q ↔ onR (gl ls 1) (fun z => Ev X 96 11 ls (vr z :: st) h Q) := R_al rfl (Or.inl rfl)
theorem e_96_11 {x : Nat} : Ev X 96 11 ls (vr x :: st) h Q ↔ (X.1 x = 9 ∧ Ev X 96 12 ls (vr (X.2.2.1 x 5) :: st) h Q) := R_gr rfl
theorem e_96_12 {x : Nat} : Ev X 96 12 ls (vr x :: st) h Q ↔ (X.1 x = 6 ∧ Ev X 96 13 ls (vr (X.2.2.1 x 1) :: st) h Q) := R_gr rfl
theorem e_96_13 : Ev X 96 13 ls st h Q ↔ onI (gl ls 3) (fun z => Ev X 96 14 ls (vi z :: st) h Q) := R_il rfl (Or.inl rfl)
theorem e_96_14 {x : Nat} {j : Int} : Ev X 96 14 ls (vi j :: vr x :: st) h Q ↔ (((X.1 x = 13 ∨ X.1 x = 20) ∧ 0 ≤ j ∧ j < X.2.1 x) ∧ Ev X 96 15 ls (vi (h.1 x j.toNat) :: st) h Q) := R_ia rfl
theorem e_96_15 : Ev X 96 15 ls st h Q ↔ onR (gl ls 0) (fun z => Ev X 96 16 ls (vr z :: st) h Q) := R_al rfl (Or.inl rfl)
theorem e_96_16 : Ev X 96 16 ls st h Q ↔ onR (gl ls 1) (fun z => Ev X 96 17 ls (vr z :: st) h Q) := R_al rfl (Or.inl rfl)
theorem e_96_17 : Ev X 96 17 ls st h Q ↔ onI (gl ls 3) (fun z => Ev X 96 18 ls (vi z :: st) h Q) := R_il rfl (Or.inl rfl)
theorem e_96_18 {rest : List xV} {a0 : Nat} {a1 : Int} {o : Nat} : Ev X 96 18 ls ((vi a1) :: (vr a0) :: vr o :: rest) h Q ↔ ((X.1 o = 10 ∧ wd rest ≤ 8) ∧ Cl X 98 [vr o, vr a0, vi a1] h (fun r h2 => Ev X 96 19 ls (r.toList ++ rest) h2 Q)) := R_cv (x := o) (as := [vr a0, vi a1]) (k2 := 98) rfl rfl (Nat.le_of_ble_eq_true rfl)
theorem e_96_19 {x y : Int} : Ev X 96 19 ls (vi y :: vi x :: st) h Q ↔ ((inR (x * y)) ∧ Ev X 96 20 ls (vi (x * y) :: st) h Q) := R_mul rfl
theorem e_96_20 {x y : Int} : Ev X 96 20 ls (vi y :: vi x :: st) h Q ↔ ((inR (x + y)) ∧ Ev X 96 21 ls (vi (x + y) :: st) h Q) := R_add rfl
theorem e_96_21 {x : Int} : Ev X 96 21 ls (vi x :: st) h Q ↔ (stOK ls 2 = true ∧ Ev X 96 22 (ls.set 2 (some (vi x))) st h Q) := R_is rfl (Or.inl rfl)
theorem e_96_22 : Ev X 96 22 ls st h Q ↔ onI (gl ls 3) (fun x => (stOK ls 3 = true ∧ inR (x + 1)) ∧ Ev X 96 23 (ls.set 3 (some (vi (x + 1)))) st h Q) := R_inc rfl
theorem e_96_23 : Ev X 96 23 ls st h Q ↔ Ev X 96 4 ls st h Q := R_go rfl
theorem e_96_24 : Ev X 96 24 ls st h Q ↔ onI (gl ls 2) (fun z => Ev X 96 25 ls (vi z :: st) h Q) := R_il rfl (Or.inl rfl)
theorem e_96_25 {z : Int} : Ev X 96 25 ls [vi z] h Q ↔ Q (some (vi z)) h := R_ir rfl
-- 97: CellRows$Wire.smoothOfNetsWith(LCellRows$Plan;I)I
theorem e_97_0 : Ev X 97 0 ls st h Q ↔ Ev X 97 1 ls (vi 0 :: st) h Q := R_kc rfl (Or.inl ⟨Or.inl rfl, by decide⟩)
theorem e_97_1 {x : Int} : Ev X 97 1 ls (vi x :: st) h Q ↔ (stOK ls 3 = true ∧ Ev X 97 2 (ls.set 3 (some (vi x))) st h Q) := R_is rfl (Or.inl rfl)
theorem e_97_2 : Ev X 97 2 ls st h Q ↔ Ev X 97 3 ls (vi 0 :: st) h Q := R_kc rfl (Or.inl ⟨Or.inl rfl, by decide⟩)
theorem e_97_3 {x : Int} : Ev X 97 3 ls (vi x :: st) h Q ↔ (stOK ls 4 = true ∧ Ev X 97 4 (ls.set 4 (some (vi x))) st h Q) := R_is rfl (Or.inr rfl)
theorem e_97_4 : Ev X 97 4 ls st h Q ↔ onI (gl ls 4) (fun z => Ev X 97 5 ls (vi z :: st) h Q) := R_il rfl (Or.inr rfl)
theorem e_97_5 : Ev X 97 5 ls st h Q ↔ onR (gl ls 1) (fun z => Ev X 97 6 ls (vr z :: st) h Q) := R_al rfl (Or.inl rfl)
theorem e_97_6 {x : Nat} : Ev X 97 6 ls (vr x :: st) h Q ↔ (X.1 x = 9 ∧ Ev X 97 7 ls (vr (X.2.2.1 x 5) :: st) h Q) := R_gr rfl
theorem e_97_7 {x : Nat} : Ev X 97 7 ls (vr x :: st) h Q ↔ (X.1 x = 6 ∧ Ev X 97 8 ls (vi (h.2 x 0) :: st) h Q) := R_gi rfl
theorem e_97_8 {x y : Int} : Ev X 97 8 ls (vi y :: vi x :: st) h Q ↔ (if y ≤ x then Ev X 97 31 ls st h Q else Ev X 97 9 ls st h Q) := R_icge rfl
theorem e_97_9 : Ev X 97 9 ls st h Q ↔ onR (gl ls 1) (fun z => Ev X 97 10 ls (vr z :: st) h Q) := R_al rfl (Or.inl rfl)
theorem e_97_10 {x : Nat} : Ev X 97 10 ls (vr x :: st) h Q ↔ (X.1 x = 9 ∧ Ev X 97 11 ls (vr (X.2.2.1 x 5) :: st) h Q) := R_gr rfl
theorem e_97_11 : Ev X 97 11 ls st h Q ↔ onI (gl ls 4) (fun z => Ev X 97 12 ls (vi z :: st) h Q) := R_il rfl (Or.inr rfl)
theorem e_97_12 : Ev X 97 12 ls st h Q ↔ onI (gl ls 2) (fun z => Ev X 97 13 ls (vi z :: st) h Q) := R_il rfl (Or.inl rfl)
theorem e_97_13 {rest : List xV} {a0 : Int} {a1 : Int} {o : Nat} : Ev X 97 13 ls ((vi a1) :: (vi a0) :: vr o :: rest) h Q ↔ ((X.1 o = 6 ∧ wd rest ≤ 8) ∧ Cl X 45 [vr o, vi a0, vi a1] h (fun r h2 => Ev X 97 14 ls (r.toList ++ rest) h2 Q)) := R_cv (x := o) (as := [vi a0, vi a1]) (k2 := 45) rfl rfl (Nat.le_of_ble_eq_true rfl)
theorem e_97_14 : Ev X 97 14 ls st h Q ↔ Ev X 97 15 ls (vi (-1) :: st) h Q := R_kc rfl (Or.inl ⟨Or.inl rfl, by decide⟩)
theorem e_97_15 {x y : Int} : Ev X 97 15 ls (vi y :: vi x :: st) h Q ↔ (if x = y then Ev X 97 29 ls st h Q else Ev X 97 16 ls st h Q) := R_iceq rfl
theorem e_97_16 : Ev X 97 16 ls st h Q ↔ onI (gl ls 3) (fun z => Ev X 97 17 ls (vi z :: st) h Q) := R_il rfl (Or.inl rfl)
theorem e_97_17 : Ev X 97 17 ls st h Q ↔ onR (gl ls 1) (fun z => Ev X 97 18 ls (vr z :: st) h Q) := R_al rfl (Or.inl rfl)
theorem e_97_18 {x : Nat} : Ev X 97 18 ls (vr x :: st) h Q ↔ (X.1 x = 9 ∧ Ev X 97 19 ls (vr (X.2.2.1 x 5) :: st) h Q) := R_gr rfl
theorem e_97_19 {x : Nat} : Ev X 97 19 ls (vr x :: st) h Q ↔ (X.1 x = 6 ∧ Ev X 97 20 ls (vr (X.2.2.1 x 1) :: st) h Q) := R_gr rfl
theorem e_97_20 : Ev X 97 20 ls st h Q ↔ onI (gl ls 4) (fun z => Ev X 97 21 ls (vi z :: st) h Q) := R_il rfl (Or.inr rfl)
theorem e_97_21 {x : Nat} {j : Int} : Ev X 97 21 ls (vi j :: vr x :: st) h Q ↔ (((X.1 x = 13 ∨ X.1 x = 20) ∧ 0 ≤ j ∧ j < X.2.1 x) ∧ Ev X 97 22 ls (vi (h.1 x j.toNat) :: st) h Q) := R_ia rfl
theorem e_97_22 : Ev X 97 22 ls st h Q ↔ onR (gl ls 0) (fun z => Ev X 97 23 ls (vr z :: st) h Q) := R_al rfl (Or.inl rfl)
theorem e_97_23 : Ev X 97 23 ls st h Q ↔ onR (gl ls 1) (fun z => Ev X 97 24 ls (vr z :: st) h Q) := R_al rfl (Or.inl rfl)
theorem e_97_24 : Ev X 97 24 ls st h Q ↔ onI (gl ls 4) (fun z => Ev X 97 25 ls (vi z :: st) h Q) := R_il rfl (Or.inr rfl)
theorem e_97_25 {rest : List xV} {a0 : Nat} {a1 : Int} {o : Nat} : Ev X 97 25 ls ((vi a1) :: (vr a0) :: vr o :: rest) h Q ↔ ((X.1 o = 10 ∧ wd rest ≤ 8) ∧ Cl X 98 [vr o, vr a0, vi a1] h (fun r h2 => Ev X 97 26 ls (r.toList ++ rest) h2 Q)) := R_cv (x := o) (as := [vr a0, vi a1]) (k2 := 98) rfl rfl (Nat.le_of_ble_eq_true rfl)
theorem e_97_26 {x y : Int} : Ev X 97 26 ls (vi y :: vi x :: st) h Q ↔ ((inR (x * y)) ∧ Ev X 97 27 ls (vi (x * y) :: st) h Q) := R_mul rfl
theorem e_97_27 {x y : Int} : Ev X 97 27 ls (vi y :: vi x :: st) h Q ↔ ((inR (x + y)) ∧ Ev X 97 28 ls (vi (x + y) :: st) h Q) := R_add rfl
theorem e_97_28 {x : Int} : Ev X 97 28 ls (vi x :: st) h Q ↔ (stOK ls 3 = true ∧ Ev X 97 29 (ls.set 3 (some (vi x))) st h Q) := R_is rfl (Or.inl rfl)
theorem e_97_29 : Ev X 97 29 ls st h Q ↔ onI (gl ls 4) (fun x => (stOK ls 4 = true ∧ inR (x + 1)) ∧ Ev X 97 30 (ls.set 4 (some (vi (x + 1)))) st h Q) := R_inc rfl
theorem e_97_30 : Ev X 97 30 ls st h Q ↔ Ev X 97 4 ls st h Q := R_go rfl
theorem e_97_31 : Ev X 97 31 ls st h Q ↔ onI (gl ls 3) (fun z => Ev X 97 32 ls (vi z :: st) h Q) := R_il rfl (Or.inl rfl)
theorem e_97_32 {z : Int} : Ev X 97 32 ls [vi z] h Q ↔ Q (some (vi z)) h := R_ir rfl
-- 98: CellRows$Wire.smoothSpanOf(LCellRows$Plan;I)I
theorem e_98_0 : Ev X 98 0 ls st h Q ↔ onR (gl ls 1) (fun z => Ev X 98 1 ls (vr z :: st) h Q) := R_al rfl (Or.inl rfl)
theorem e_98_1 {x : Nat} : Ev X 98 1 ls (vr x :: st) h Q ↔ (X.1 x = 9 ∧ Ev X 98 2 ls (vr (X.2.2.1 x 5) :: st) h Q) := R_gr rfl
theorem e_98_2 {x : Nat} : Ev X 98 2 ls (vr x :: st) h Q ↔ (stOK ls 3 = true ∧ Ev X 98 3 (ls.set 3 (some (vr x))) st h Q) := R_as rfl (Or.inl rfl)
theorem e_98_3 : Ev X 98 3 ls st h Q ↔ onR (gl ls 3) (fun z => Ev X 98 4 ls (vr z :: st) h Q) := R_al rfl (Or.inl rfl)
theorem e_98_4 {x : Nat} : Ev X 98 4 ls (vr x :: st) h Q ↔ (X.1 x = 6 ∧ Ev X 98 5 ls (vr (X.2.2.1 x 2) :: st) h Q) := R_gr rfl
theorem e_98_5 : Ev X 98 5 ls st h Q ↔ onI (gl ls 2) (fun z => Ev X 98 6 ls (vi z :: st) h Q) := R_il rfl (Or.inl rfl)
theorem e_98_6 {x : Nat} {j : Int} : Ev X 98 6 ls (vi j :: vr x :: st) h Q ↔ (((X.1 x = 13 ∨ X.1 x = 20) ∧ 0 ≤ j ∧ j < X.2.1 x) ∧ Ev X 98 7 ls (vi (h.1 x j.toNat) :: st) h Q) := R_ia rfl
theorem e_98_7 {x : Int} : Ev X 98 7 ls (vi x :: st) h Q ↔ (stOK ls 4 = true ∧ Ev X 98 8 (ls.set 4 (some (vi x))) st h Q) := R_is rfl (Or.inr rfl)
theorem e_98_8 : Ev X 98 8 ls st h Q ↔ onI (gl ls 2) (fun z => Ev X 98 9 ls (vi z :: st) h Q) := R_il rfl (Or.inl rfl)
theorem e_98_9 : Ev X 98 9 ls st h Q ↔ Ev X 98 10 ls (vi 6 :: st) h Q := R_kc rfl (Or.inr (Or.inl ⟨rfl, by decide⟩))
theorem e_98_10 {x y : Int} : Ev X 98 10 ls (vi y :: vi x :: st) h Q ↔ ((inR (x * y)) ∧ Ev X 98 11 ls (vi (x * y) :: st) h Q) := R_mul rfl
theorem e_98_11 {x : Int} : Ev X 98 11 ls (vi x :: st) h Q ↔ (stOK ls 5 = true ∧ Ev X 98 12 (ls.set 5 (some (vi x))) st h Q) := R_is rfl (Or.inr rfl)
theorem e_98_12 : Ev X 98 12 ls st h Q ↔ Ev X 98 13 ls (vi 0 :: st) h Q := R_kc rfl (Or.inl ⟨Or.inl rfl, by decide⟩)
theorem e_98_13 {x : Int} : Ev X 98 13 ls (vi x :: st) h Q ↔ (stOK ls 6 = true ∧ Ev X 98 14 (ls.set 6 (some (vi x))) st h Q) := R_is rfl (Or.inr rfl)
theorem e_98_14 : Ev X 98 14 ls st h Q ↔ onI (gl ls 6) (fun z => Ev X 98 15 ls (vi z :: st) h Q) := R_il rfl (Or.inr rfl)
theorem e_98_15 : Ev X 98 15 ls st h Q ↔ onI (gl ls 4) (fun z => Ev X 98 16 ls (vi z :: st) h Q) := R_il rfl (Or.inr rfl)
theorem e_98_16 {x y : Int} : Ev X 98 16 ls (vi y :: vi x :: st) h Q ↔ (if y ≤ x then Ev X 98 38 ls st h Q else Ev X 98 17 ls st h Q) := R_icge rfl
theorem e_98_17 : Ev X 98 17 ls st h Q ↔ onR (gl ls 0) (fun z => Ev X 98 18 ls (vr z :: st) h Q) := R_al rfl (Or.inl rfl)
theorem e_98_18 {x : Nat} : Ev X 98 18 ls (vr x :: st) h Q ↔ (X.1 x = 10 ∧ Ev X 98 19 ls (vr (X.2.2.1 x 5) :: st) h Q) := R_gr rfl
theorem e_98_19 : Ev X 98 19 ls st h Q ↔ onI (gl ls 6) (fun z => Ev X 98 20 ls (vi z :: st) h Q) := R_il rfl (Or.inr rfl)
theorem e_98_20 : Ev X 98 20 ls st h Q ↔ onR (gl ls 1) (fun z => Ev X 98 21 ls (vr z :: st) h Q) := R_al rfl (Or.inl rfl)
theorem e_98_21 {x : Nat} : Ev X 98 21 ls (vr x :: st) h Q ↔ (X.1 x = 9 ∧ Ev X 98 22 ls (vr (X.2.2.1 x 4) :: st) h Q) := R_gr rfl
theorem e_98_22 : Ev X 98 22 ls st h Q ↔ onR (gl ls 3) (fun z => Ev X 98 23 ls (vr z :: st) h Q) := R_al rfl (Or.inl rfl)
theorem e_98_23 {x : Nat} : Ev X 98 23 ls (vr x :: st) h Q ↔ (X.1 x = 6 ∧ Ev X 98 24 ls (vr (X.2.2.1 x 3) :: st) h Q) := R_gr rfl
theorem e_98_24 : Ev X 98 24 ls st h Q ↔ onI (gl ls 5) (fun z => Ev X 98 25 ls (vi z :: st) h Q) := R_il rfl (Or.inr rfl)
theorem e_98_25 : Ev X 98 25 ls st h Q ↔ onI (gl ls 6) (fun z => Ev X 98 26 ls (vi z :: st) h Q) := R_il rfl (Or.inr rfl)
theorem e_98_26 {x y : Int} : Ev X 98 26 ls (vi y :: vi x :: st) h Q ↔ ((inR (x + y)) ∧ Ev X 98 27 ls (vi (x + y) :: st) h Q) := R_add rfl
theorem e_98_27 {x : Nat} {j : Int} : Ev X 98 27 ls (vi j :: vr x :: st) h Q ↔ (((X.1 x = 13 ∨ X.1 x = 20) ∧ 0 ≤ j ∧ j < X.2.1 x) ∧ Ev X 98 28 ls (vi (h.1 x j.toNat) :: st) h Q) := R_ia rfl
theorem e_98_28 : Ev X 98 28 ls st h Q ↔ onR (gl ls 3) (fun z => Ev X 98 29 ls (vr z :: st) h Q) := R_al rfl (Or.inl rfl)
theorem e_98_29 {x : Nat} : Ev X 98 29 ls (vr x :: st) h Q ↔ (X.1 x = 6 ∧ Ev X 98 30 ls (vr (X.2.2.1 x 4) :: st) h Q) := R_gr rfl
theorem e_98_30 : Ev X 98 30 ls st h Q ↔ onI (gl ls 5) (fun z => Ev X 98 31 ls (vi z :: st) h Q) := R_il rfl (Or.inr rfl)
theorem e_98_31 : Ev X 98 31 ls st h Q ↔ onI (gl ls 6) (fun z => Ev X 98 32 ls (vi z :: st) h Q) := R_il rfl (Or.inr rfl)
theorem e_98_32 {x y : Int} : Ev X 98 32 ls (vi y :: vi x :: st) h Q ↔ ((inR (x + y)) ∧ Ev X 98 33 ls (vi (x + y) :: st) h Q) := R_add rfl
theorem e_98_33 {x : Nat} {j : Int} : Ev X 98 33 ls (vi j :: vr x :: st) h Q ↔ (((X.1 x = 13 ∨ X.1 x = 20) ∧ 0 ≤ j ∧ j < X.2.1 x) ∧ Ev X 98 34 ls (vi (h.1 x j.toNat) :: st) h Q) := R_ia rfl
theorem e_98_34 {rest : List xV} {a0 : Nat} {a1 : Int} {a2 : Int} : Ev X 98 34 ls ((vi a2) :: (vi a1) :: (vr a0) :: rest) h Q ↔ (wd rest ≤ 8 ∧ Cl X 99 [vr a0, vi a1, vi a2] h (fun r h2 => Ev X 98 35 ls (r.toList ++ rest) h2 Q)) := R_cs (as := [vr a0, vi a1, vi a2]) (k2 := 99) rfl rfl (Nat.le_of_ble_eq_true rfl)
theorem e_98_35 {x : Nat} {j v : Int} : Ev X 98 35 ls (vi v :: vi j :: vr x :: st) h Q ↔ ((X.1 x = 13 ∧ 0 ≤ j ∧ j < X.2.1 x) ∧ Ev X 98 36 ls st (up2 h.1 x j.toNat v, h.2) Q) := R_ias rfl
theorem e_98_36 : Ev X 98 36 ls st h Q ↔ onI (gl ls 6) (fun x => (stOK ls 6 = true ∧ inR (x + 1)) ∧ Ev X 98 37 (ls.set 6 (some (vi (x + 1)))) st h Q) := R_inc rfl
theorem e_98_37 : Ev X 98 37 ls st h Q ↔ Ev X 98 14 ls st h Q := R_go rfl
theorem e_98_38 : Ev X 98 38 ls st h Q ↔ onR (gl ls 0) (fun z => Ev X 98 39 ls (vr z :: st) h Q) := R_al rfl (Or.inl rfl)
theorem e_98_39 : Ev X 98 39 ls st h Q ↔ onI (gl ls 4) (fun z => Ev X 98 40 ls (vi z :: st) h Q) := R_il rfl (Or.inr rfl)
theorem e_98_40 {rest : List xV} {a0 : Int} {o : Nat} : Ev X 98 40 ls ((vi a0) :: vr o :: rest) h Q ↔ ((X.1 o = 10 ∧ wd rest ≤ 8) ∧ Cl X 101 [vr o, vi a0] h (fun r h2 => Ev X 98 41 ls (r.toList ++ rest) h2 Q)) := R_cv (x := o) (as := [vi a0]) (k2 := 101) rfl rfl (Nat.le_of_ble_eq_true rfl)
theorem e_98_41 {x : Int} : Ev X 98 41 ls (vi x :: st) h Q ↔ (stOK ls 6 = true ∧ Ev X 98 42 (ls.set 6 (some (vi x))) st h Q) := R_is rfl (Or.inr rfl)
theorem e_98_42 : Ev X 98 42 ls st h Q ↔ Ev X 98 43 ls (vi 0 :: st) h Q := R_kc rfl (Or.inl ⟨Or.inl rfl, by decide⟩)
theorem e_98_43 {x : Int} : Ev X 98 43 ls (vi x :: st) h Q ↔ (stOK ls 7 = true ∧ Ev X 98 44 (ls.set 7 (some (vi x))) st h Q) := R_is rfl (Or.inr rfl)
theorem e_98_44 : Ev X 98 44 ls st h Q ↔ onI (gl ls 7) (fun z => Ev X 98 45 ls (vi z :: st) h Q) := R_il rfl (Or.inr rfl)
theorem e_98_45 : Ev X 98 45 ls st h Q ↔ onI (gl ls 4) (fun z => Ev X 98 46 ls (vi z :: st) h Q) := R_il rfl (Or.inr rfl)
theorem e_98_46 {x y : Int} : Ev X 98 46 ls (vi y :: vi x :: st) h Q ↔ (if y ≤ x then Ev X 98 62 ls st h Q else Ev X 98 47 ls st h Q) := R_icge rfl
theorem e_98_47 : Ev X 98 47 ls st h Q ↔ onR (gl ls 0) (fun z => Ev X 98 48 ls (vr z :: st) h Q) := R_al rfl (Or.inl rfl)
theorem e_98_48 {x : Nat} : Ev X 98 48 ls (vr x :: st) h Q ↔ (X.1 x = 10 ∧ Ev X 98 49 ls (vr (X.2.2.1 x 5) :: st) h Q) := R_gr rfl
theorem e_98_49 : Ev X 98 49 ls st h Q ↔ onI (gl ls 7) (fun z => Ev X 98 50 ls (vi z :: st) h Q) := R_il rfl (Or.inr rfl)
theorem e_98_50 : Ev X 98 50 ls st h Q ↔ onR (gl ls 1) (fun z => Ev X 98 51 ls (vr z :: st) h Q) := R_al rfl (Or.inl rfl)
theorem e_98_51 {x : Nat} : Ev X 98 51 ls (vr x :: st) h Q ↔ (X.1 x = 9 ∧ Ev X 98 52 ls (vr (X.2.2.1 x 4) :: st) h Q) := R_gr rfl
theorem e_98_52 : Ev X 98 52 ls st h Q ↔ onR (gl ls 3) (fun z => Ev X 98 53 ls (vr z :: st) h Q) := R_al rfl (Or.inl rfl)
theorem e_98_53 {x : Nat} : Ev X 98 53 ls (vr x :: st) h Q ↔ (X.1 x = 6 ∧ Ev X 98 54 ls (vr (X.2.2.1 x 3) :: st) h Q) := R_gr rfl
theorem e_98_54 : Ev X 98 54 ls st h Q ↔ onI (gl ls 5) (fun z => Ev X 98 55 ls (vi z :: st) h Q) := R_il rfl (Or.inr rfl)
theorem e_98_55 : Ev X 98 55 ls st h Q ↔ onI (gl ls 7) (fun z => Ev X 98 56 ls (vi z :: st) h Q) := R_il rfl (Or.inr rfl)
theorem e_98_56 {x y : Int} : Ev X 98 56 ls (vi y :: vi x :: st) h Q ↔ ((inR (x + y)) ∧ Ev X 98 57 ls (vi (x + y) :: st) h Q) := R_add rfl
theorem e_98_57 {x : Nat} {j : Int} : Ev X 98 57 ls (vi j :: vr x :: st) h Q ↔ (((X.1 x = 13 ∨ X.1 x = 20) ∧ 0 ≤ j ∧ j < X.2.1 x) ∧ Ev X 98 58 ls (vi (h.1 x j.toNat) :: st) h Q) := R_ia rfl
theorem e_98_58 {rest : List xV} {a0 : Nat} {a1 : Int} : Ev X 98 58 ls ((vi a1) :: (vr a0) :: rest) h Q ↔ (wd rest ≤ 8 ∧ Cl X 100 [vr a0, vi a1] h (fun r h2 => Ev X 98 59 ls (r.toList ++ rest) h2 Q)) := R_cs (as := [vr a0, vi a1]) (k2 := 100) rfl rfl (Nat.le_of_ble_eq_true rfl)
theorem e_98_59 {x : Nat} {j v : Int} : Ev X 98 59 ls (vi v :: vi j :: vr x :: st) h Q ↔ ((X.1 x = 13 ∧ 0 ≤ j ∧ j < X.2.1 x) ∧ Ev X 98 60 ls st (up2 h.1 x j.toNat v, h.2) Q) := R_ias rfl
theorem e_98_60 : Ev X 98 60 ls st h Q ↔ onI (gl ls 7) (fun x => (stOK ls 7 = true ∧ inR (x + 1)) ∧ Ev X 98 61 (ls.set 7 (some (vi (x + 1)))) st h Q) := R_inc rfl
theorem e_98_61 : Ev X 98 61 ls st h Q ↔ Ev X 98 44 ls st h Q := R_go rfl
theorem e_98_62 : Ev X 98 62 ls st h Q ↔ onI (gl ls 6) (fun z => Ev X 98 63 ls (vi z :: st) h Q) := R_il rfl (Or.inr rfl)
theorem e_98_63 : Ev X 98 63 ls st h Q ↔ onR (gl ls 0) (fun z => Ev X 98 64 ls (vr z :: st) h Q) := R_al rfl (Or.inl rfl)
theorem e_98_64 {x : Nat} : Ev X 98 64 ls (vr x :: st) h Q ↔ (X.1 x = 10 ∧ Ev X 98 65 ls (vr (X.2.2.1 x 0) :: st) h Q) := R_gr rfl
theorem e_98_65 : Ev X 98 65 ls st h Q ↔ Ev X 98 66 ls (vi 4 :: st) h Q := R_kc rfl (Or.inl ⟨Or.inl rfl, by decide⟩)
theorem e_98_66 {x : Nat} {j : Int} : Ev X 98 66 ls (vi j :: vr x :: st) h Q ↔ (((X.1 x = 13 ∨ X.1 x = 20) ∧ 0 ≤ j ∧ j < X.2.1 x) ∧ Ev X 98 67 ls (vi (h.1 x j.toNat) :: st) h Q) := R_ia rfl
theorem e_98_67 : Ev X 98 67 ls st h Q ↔ onR (gl ls 0) (fun z => Ev X 98 68 ls (vr z :: st) h Q) := R_al rfl (Or.inl rfl)
theorem e_98_68 : Ev X 98 68 ls st h Q ↔ onI (gl ls 4) (fun z => Ev X 98 69 ls (vi z :: st) h Q) := R_il rfl (Or.inr rfl)
theorem e_98_69 {rest : List xV} {a0 : Int} {o : Nat} : Ev X 98 69 ls ((vi a0) :: vr o :: rest) h Q ↔ ((X.1 o = 10 ∧ wd rest ≤ 8) ∧ Cl X 101 [vr o, vi a0] h (fun r h2 => Ev X 98 70 ls (r.toList ++ rest) h2 Q)) := R_cv (x := o) (as := [vi a0]) (k2 := 101) rfl rfl (Nat.le_of_ble_eq_true rfl)
theorem e_98_70 {x y : Int} : Ev X 98 70 ls (vi y :: vi x :: st) h Q ↔ ((inR (x * y)) ∧ Ev X 98 71 ls (vi (x * y) :: st) h Q) := R_mul rfl
theorem e_98_71 {x y : Int} : Ev X 98 71 ls (vi y :: vi x :: st) h Q ↔ ((inR (x + y)) ∧ Ev X 98 72 ls (vi (x + y) :: st) h Q) := R_add rfl
theorem e_98_72 {z : Int} : Ev X 98 72 ls [vi z] h Q ↔ Q (some (vi z)) h := R_ir rfl
-- 99: CellRows$Wire.wantedX(LCellRows$Cells;II)I
theorem e_99_0 : Ev X 99 0 ls st h Q ↔ onI (gl ls 1) (fun z => Ev X 99 1 ls (vi z :: st) h Q) := R_il rfl (Or.inl rfl)
theorem e_99_1 : Ev X 99 1 ls st h Q ↔ Ev X 99 2 ls (vi 200 :: st) h Q := R_kc rfl (Or.inr (Or.inr ⟨rfl, by decide⟩))
theorem e_99_2 {x y : Int} : Ev X 99 2 ls (vi y :: vi x :: st) h Q ↔ (if x < y then Ev X 99 5 ls st h Q else Ev X 99 3 ls st h Q) := R_iclt rfl
theorem e_99_3 : Ev X 99 3 ls st h Q ↔ Ev X 99 4 ls (vi 0 :: st) h Q := R_kc rfl (Or.inl ⟨Or.inl rfl, by decide⟩)
theorem e_99_4 : Ev X 99 4 ls st h Q ↔ Ev X 99 9 ls st h Q := R_go rfl
theorem e_99_5 : Ev X 99 5 ls st h Q ↔ onR (gl ls 0) (fun z => Ev X 99 6 ls (vr z :: st) h Q) := R_al rfl (Or.inl rfl)
theorem e_99_6 {x : Nat} : Ev X 99 6 ls (vr x :: st) h Q ↔ (X.1 x = 3 ∧ Ev X 99 7 ls (vr (X.2.2.1 x 4) :: st) h Q) := R_gr rfl
theorem e_99_7 : Ev X 99 7 ls st h Q ↔ onI (gl ls 1) (fun z => Ev X 99 8 ls (vi z :: st) h Q) := R_il rfl (Or.inl rfl)
theorem e_99_8 {x : Nat} {j : Int} : Ev X 99 8 ls (vi j :: vr x :: st) h Q ↔ (((X.1 x = 13 ∨ X.1 x = 20) ∧ 0 ≤ j ∧ j < X.2.1 x) ∧ Ev X 99 9 ls (vi (h.1 x j.toNat) :: st) h Q) := R_ia rfl
theorem e_99_9 : Ev X 99 9 ls st h Q ↔ Ev X 99 10 ls (vi 16 :: st) h Q := R_kc rfl (Or.inr (Or.inl ⟨rfl, by decide⟩))
theorem e_99_10 : Ev X 99 10 ls st h Q ↔ onI (gl ls 2) (fun z => Ev X 99 11 ls (vi z :: st) h Q) := R_il rfl (Or.inl rfl)
theorem e_99_11 {x y : Int} : Ev X 99 11 ls (vi y :: vi x :: st) h Q ↔ ((inR (x * y)) ∧ Ev X 99 12 ls (vi (x * y) :: st) h Q) := R_mul rfl
theorem e_99_12 {x y : Int} : Ev X 99 12 ls (vi y :: vi x :: st) h Q ↔ ((inR (x + y)) ∧ Ev X 99 13 ls (vi (x + y) :: st) h Q) := R_add rfl
theorem e_99_13 : Ev X 99 13 ls st h Q ↔ Ev X 99 14 ls (vi 8 :: st) h Q := R_kc rfl (Or.inr (Or.inl ⟨rfl, by decide⟩))
theorem e_99_14 {x y : Int} : Ev X 99 14 ls (vi y :: vi x :: st) h Q ↔ ((inR (x + y)) ∧ Ev X 99 15 ls (vi (x + y) :: st) h Q) := R_add rfl
theorem e_99_15 {z : Int} : Ev X 99 15 ls [vi z] h Q ↔ Q (some (vi z)) h := R_ir rfl
-- 100: CellRows$Wire.wantedY(LCellRows$Cells;I)I
theorem e_100_0 : Ev X 100 0 ls st h Q ↔ onI (gl ls 1) (fun z => Ev X 100 1 ls (vi z :: st) h Q) := R_il rfl (Or.inl rfl)
theorem e_100_1 : Ev X 100 1 ls st h Q ↔ Ev X 100 2 ls (vi 200 :: st) h Q := R_kc rfl (Or.inr (Or.inr ⟨rfl, by decide⟩))
theorem e_100_2 {x y : Int} : Ev X 100 2 ls (vi y :: vi x :: st) h Q ↔ (if x < y then Ev X 100 9 ls st h Q else Ev X 100 3 ls st h Q) := R_iclt rfl
theorem e_100_3 : Ev X 100 3 ls st h Q ↔ Ev X 100 4 ls (vi 16 :: st) h Q := R_kc rfl (Or.inr (Or.inl ⟨rfl, by decide⟩))
theorem e_100_4 : Ev X 100 4 ls st h Q ↔ onI (gl ls 1) (fun z => Ev X 100 5 ls (vi z :: st) h Q) := R_il rfl (Or.inl rfl)
theorem e_100_5 : Ev X 100 5 ls st h Q ↔ Ev X 100 6 ls (vi 200 :: st) h Q := R_kc rfl (Or.inr (Or.inr ⟨rfl, by decide⟩))
theorem e_100_6 {x y : Int} : Ev X 100 6 ls (vi y :: vi x :: st) h Q ↔ ((inR (x - y)) ∧ Ev X 100 7 ls (vi (x - y) :: st) h Q) := R_sub rfl
theorem e_100_7 {x y : Int} : Ev X 100 7 ls (vi y :: vi x :: st) h Q ↔ ((inR (x * y)) ∧ Ev X 100 8 ls (vi (x * y) :: st) h Q) := R_mul rfl
theorem e_100_8 : Ev X 100 8 ls st h Q ↔ Ev X 100 13 ls st h Q := R_go rfl
theorem e_100_9 : Ev X 100 9 ls st h Q ↔ onR (gl ls 0) (fun z => Ev X 100 10 ls (vr z :: st) h Q) := R_al rfl (Or.inl rfl)
theorem e_100_10 {x : Nat} : Ev X 100 10 ls (vr x :: st) h Q ↔ (X.1 x = 3 ∧ Ev X 100 11 ls (vr (X.2.2.1 x 5) :: st) h Q) := R_gr rfl
theorem e_100_11 : Ev X 100 11 ls st h Q ↔ onI (gl ls 1) (fun z => Ev X 100 12 ls (vi z :: st) h Q) := R_il rfl (Or.inl rfl)
theorem e_100_12 {x : Nat} {j : Int} : Ev X 100 12 ls (vi j :: vr x :: st) h Q ↔ (((X.1 x = 13 ∨ X.1 x = 20) ∧ 0 ≤ j ∧ j < X.2.1 x) ∧ Ev X 100 13 ls (vi (h.1 x j.toNat) :: st) h Q) := R_ia rfl
theorem e_100_13 : Ev X 100 13 ls st h Q ↔ Ev X 100 14 ls (vi 8 :: st) h Q := R_kc rfl (Or.inr (Or.inl ⟨rfl, by decide⟩))
theorem e_100_14 {x y : Int} : Ev X 100 14 ls (vi y :: vi x :: st) h Q ↔ ((inR (x + y)) ∧ Ev X 100 15 ls (vi (x + y) :: st) h Q) := R_add rfl
theorem e_100_15 {z : Int} : Ev X 100 15 ls [vi z] h Q ↔ Q (some (vi z)) h := R_ir rfl
-- 101: CellRows$Wire.smoothLength(I)I
theorem e_101_0 : Ev X 101 0 ls st h Q ↔ Ev X 101 1 ls (vi 268435456 :: st) h Q := R_kc rfl (Or.inl ⟨Or.inr (Or.inl rfl), by decide⟩)
theorem e_101_1 {x : Int} : Ev X 101 1 ls (vi x :: st) h Q ↔ (stOK ls 2 = true ∧ Ev X 101 2 (ls.set 2 (some (vi x))) st h Q) := R_is rfl (Or.inl rfl)
theorem e_101_2 : Ev X 101 2 ls st h Q ↔ Ev X 101 3 ls (vi (-268435456) :: st) h Q := R_kc rfl (Or.inl ⟨Or.inr (Or.inl rfl), by decide⟩)
theorem e_101_3 {x : Int} : Ev X 101 3 ls (vi x :: st) h Q ↔ (stOK ls 3 = true ∧ Ev X 101 4 (ls.set 3 (some (vi x))) st h Q) := R_is rfl (Or.inl rfl)
theorem e_101_4 : Ev X 101 4 ls st h Q ↔ Ev X 101 5 ls (vi 0 :: st) h Q := R_kc rfl (Or.inl ⟨Or.inl rfl, by decide⟩)
theorem e_101_5 {x : Int} : Ev X 101 5 ls (vi x :: st) h Q ↔ (stOK ls 4 = true ∧ Ev X 101 6 (ls.set 4 (some (vi x))) st h Q) := R_is rfl (Or.inr rfl)
theorem e_101_6 : Ev X 101 6 ls st h Q ↔ onI (gl ls 4) (fun z => Ev X 101 7 ls (vi z :: st) h Q) := R_il rfl (Or.inr rfl)
theorem e_101_7 : Ev X 101 7 ls st h Q ↔ onI (gl ls 1) (fun z => Ev X 101 8 ls (vi z :: st) h Q) := R_il rfl (Or.inl rfl)
theorem e_101_8 {x y : Int} : Ev X 101 8 ls (vi y :: vi x :: st) h Q ↔ (if y ≤ x then Ev X 101 25 ls st h Q else Ev X 101 9 ls st h Q) := R_icge rfl
theorem e_101_9 : Ev X 101 9 ls st h Q ↔ onI (gl ls 2) (fun z => Ev X 101 10 ls (vi z :: st) h Q) := R_il rfl (Or.inl rfl)
theorem e_101_10 : Ev X 101 10 ls st h Q ↔ onR (gl ls 0) (fun z => Ev X 101 11 ls (vr z :: st) h Q) := R_al rfl (Or.inl rfl)
theorem e_101_11 {x : Nat} : Ev X 101 11 ls (vr x :: st) h Q ↔ (X.1 x = 10 ∧ Ev X 101 12 ls (vr (X.2.2.1 x 5) :: st) h Q) := R_gr rfl
theorem e_101_12 : Ev X 101 12 ls st h Q ↔ onI (gl ls 4) (fun z => Ev X 101 13 ls (vi z :: st) h Q) := R_il rfl (Or.inr rfl)
theorem e_101_13 {x : Nat} {j : Int} : Ev X 101 13 ls (vi j :: vr x :: st) h Q ↔ (((X.1 x = 13 ∨ X.1 x = 20) ∧ 0 ≤ j ∧ j < X.2.1 x) ∧ Ev X 101 14 ls (vi (h.1 x j.toNat) :: st) h Q) := R_ia rfl
theorem e_101_14 {rest : List xV} {a0 : Int} {a1 : Int} : Ev X 101 14 ls ((vi a1) :: (vi a0) :: rest) h Q ↔ (wd rest ≤ 8 ∧ Cl X 285 [vi a0, vi a1] h (fun r h2 => Ev X 101 15 ls (r.toList ++ rest) h2 Q)) := R_cs (as := [vi a0, vi a1]) (k2 := 285) rfl rfl (Nat.le_of_ble_eq_true rfl)
theorem e_101_15 {x : Int} : Ev X 101 15 ls (vi x :: st) h Q ↔ (stOK ls 2 = true ∧ Ev X 101 16 (ls.set 2 (some (vi x))) st h Q) := R_is rfl (Or.inl rfl)
theorem e_101_16 : Ev X 101 16 ls st h Q ↔ onI (gl ls 3) (fun z => Ev X 101 17 ls (vi z :: st) h Q) := R_il rfl (Or.inl rfl)
theorem e_101_17 : Ev X 101 17 ls st h Q ↔ onR (gl ls 0) (fun z => Ev X 101 18 ls (vr z :: st) h Q) := R_al rfl (Or.inl rfl)
theorem e_101_18 {x : Nat} : Ev X 101 18 ls (vr x :: st) h Q ↔ (X.1 x = 10 ∧ Ev X 101 19 ls (vr (X.2.2.1 x 5) :: st) h Q) := R_gr rfl
theorem e_101_19 : Ev X 101 19 ls st h Q ↔ onI (gl ls 4) (fun z => Ev X 101 20 ls (vi z :: st) h Q) := R_il rfl (Or.inr rfl)
theorem e_101_20 {x : Nat} {j : Int} : Ev X 101 20 ls (vi j :: vr x :: st) h Q ↔ (((X.1 x = 13 ∨ X.1 x = 20) ∧ 0 ≤ j ∧ j < X.2.1 x) ∧ Ev X 101 21 ls (vi (h.1 x j.toNat) :: st) h Q) := R_ia rfl
theorem e_101_21 {rest : List xV} {a0 : Int} {a1 : Int} : Ev X 101 21 ls ((vi a1) :: (vi a0) :: rest) h Q ↔ (wd rest ≤ 8 ∧ Cl X 284 [vi a0, vi a1] h (fun r h2 => Ev X 101 22 ls (r.toList ++ rest) h2 Q)) := R_cs (as := [vi a0, vi a1]) (k2 := 284) rfl rfl (Nat.le_of_ble_eq_true rfl)
theorem e_101_22 {x : Int} : Ev X 101 22 ls (vi x :: st) h Q ↔ (stOK ls 3 = true ∧ Ev X 101 23 (ls.set 3 (some (vi x))) st h Q) := R_is rfl (Or.inl rfl)
theorem e_101_23 : Ev X 101 23 ls st h Q ↔ onI (gl ls 4) (fun x => (stOK ls 4 = true ∧ inR (x + 1)) ∧ Ev X 101 24 (ls.set 4 (some (vi (x + 1)))) st h Q) := R_inc rfl
theorem e_101_24 : Ev X 101 24 ls st h Q ↔ Ev X 101 6 ls st h Q := R_go rfl
theorem e_101_25 : Ev X 101 25 ls st h Q ↔ onI (gl ls 3) (fun z => Ev X 101 26 ls (vi z :: st) h Q) := R_il rfl (Or.inl rfl)
theorem e_101_26 : Ev X 101 26 ls st h Q ↔ onR (gl ls 0) (fun z => Ev X 101 27 ls (vr z :: st) h Q) := R_al rfl (Or.inl rfl)
theorem e_101_27 : Ev X 101 27 ls st h Q ↔ onI (gl ls 3) (fun z => Ev X 101 28 ls (vi z :: st) h Q) := R_il rfl (Or.inl rfl)
theorem e_101_28 : Ev X 101 28 ls st h Q ↔ onI (gl ls 1) (fun z => Ev X 101 29 ls (vi z :: st) h Q) := R_il rfl (Or.inl rfl)
theorem e_101_29 {rest : List xV} {a0 : Int} {a1 : Int} {o : Nat} : Ev X 101 29 ls ((vi a1) :: (vi a0) :: vr o :: rest) h Q ↔ ((X.1 o = 10 ∧ wd rest ≤ 8) ∧ Cl X 102 [vr o, vi a0, vi a1] h (fun r h2 => Ev X 101 30 ls (r.toList ++ rest) h2 Q)) := R_cv (x := o) (as := [vi a0, vi a1]) (k2 := 102) rfl rfl (Nat.le_of_ble_eq_true rfl)
theorem e_101_30 {x y : Int} : Ev X 101 30 ls (vi y :: vi x :: st) h Q ↔ ((inR (x - y)) ∧ Ev X 101 31 ls (vi (x - y) :: st) h Q) := R_sub rfl
theorem e_101_31 : Ev X 101 31 ls st h Q ↔ onI (gl ls 2) (fun z => Ev X 101 32 ls (vi z :: st) h Q) := R_il rfl (Or.inl rfl)
theorem e_101_32 : Ev X 101 32 ls st h Q ↔ onR (gl ls 0) (fun z => Ev X 101 33 ls (vr z :: st) h Q) := R_al rfl (Or.inl rfl)
theorem e_101_33 : Ev X 101 33 ls st h Q ↔ onI (gl ls 2) (fun z => Ev X 101 34 ls (vi z :: st) h Q) := R_il rfl (Or.inl rfl)
theorem e_101_34 : Ev X 101 34 ls st h Q ↔ onI (gl ls 1) (fun z => Ev X 101 35 ls (vi z :: st) h Q) := R_il rfl (Or.inl rfl)
theorem e_101_35 {rest : List xV} {a0 : Int} {a1 : Int} {o : Nat} : Ev X 101 35 ls ((vi a1) :: (vi a0) :: vr o :: rest) h Q ↔ ((X.1 o = 10 ∧ wd rest ≤ 8) ∧ Cl X 102 [vr o, vi a0, vi a1] h (fun r h2 => Ev X 101 36 ls (r.toList ++ rest) h2 Q)) := R_cv (x := o) (as := [vi a0, vi a1]) (k2 := 102) rfl rfl (Nat.le_of_ble_eq_true rfl)
theorem e_101_36 {x y : Int} : Ev X 101 36 ls (vi y :: vi x :: st) h Q ↔ ((inR (x + y)) ∧ Ev X 101 37 ls (vi (x + y) :: st) h Q) := R_add rfl
theorem e_101_37 {x y : Int} : Ev X 101 37 ls (vi y :: vi x :: st) h Q ↔ ((inR (x - y)) ∧ Ev X 101 38 ls (vi (x - y) :: st) h Q) := R_sub rfl
theorem e_101_38 {z : Int} : Ev X 101 38 ls [vi z] h Q ↔ Q (some (vi z)) h := R_ir rfl
-- 102: CellRows$Wire.meanFarFrom(II)I
theorem e_102_0 : Ev X 102 0 ls st h Q ↔ Ev X 102 1 ls (vi 1 :: st) h Q := R_kc rfl (Or.inl ⟨Or.inl rfl, by decide⟩)
theorem e_102_1 : Ev X 102 1 ls st h Q ↔ onR (gl ls 0) (fun z => Ev X 102 2 ls (vr z :: st) h Q) := R_al rfl (Or.inl rfl)
theorem e_102_2 {x : Nat} : Ev X 102 2 ls (vr x :: st) h Q ↔ (X.1 x = 10 ∧ Ev X 102 3 ls (vr (X.2.2.1 x 0) :: st) h Q) := R_gr rfl
theorem e_102_3 : Ev X 102 3 ls st h Q ↔ Ev X 102 4 ls (vi 0 :: st) h Q := R_kc rfl (Or.inl ⟨Or.inl rfl, by decide⟩)
theorem e_102_4 {x : Nat} {j : Int} : Ev X 102 4 ls (vi j :: vr x :: st) h Q ↔ (((X.1 x = 13 ∨ X.1 x = 20) ∧ 0 ≤ j ∧ j < X.2.1 x) ∧ Ev X 102 5 ls (vi (h.1 x j.toNat) :: st) h Q) := R_ia rfl
theorem e_102_5 {rest : List xV} {a0 : Int} {a1 : Int} : Ev X 102 5 ls ((vi a1) :: (vi a0) :: rest) h Q ↔ (wd rest ≤ 8 ∧ Cl X 284 [vi a0, vi a1] h (fun r h2 => Ev X 102 6 ls (r.toList ++ rest) h2 Q)) := R_cs (as := [vi a0, vi a1]) (k2 := 284) rfl rfl (Nat.le_of_ble_eq_true rfl)
theorem e_102_6 {x : Int} : Ev X 102 6 ls (vi x :: st) h Q ↔ (stOK ls 3 = true ∧ Ev X 102 7 (ls.set 3 (some (vi x))) st h Q) := R_is rfl (Or.inl rfl)
theorem e_102_7 : Ev X 102 7 ls st h Q ↔ Ev X 102 8 ls (vi 0 :: st) h Q := R_kc rfl (Or.inl ⟨Or.inl rfl, by decide⟩)
theorem e_102_8 {x : Int} : Ev X 102 8 ls (vi x :: st) h Q ↔ (stOK ls 4 = true ∧ Ev X 102 9 (ls.set 4 (some (vi x))) st h Q) := R_is rfl (Or.inr rfl)
theorem e_102_9 : Ev X 102 9 ls st h Q ↔ Ev X 102 10 ls (vi 0 :: st) h Q := R_kc rfl (Or.inl ⟨Or.inl rfl, by decide⟩)
theorem e_102_10 {x : Int} : Ev X 102 10 ls (vi x :: st) h Q ↔ (stOK ls 5 = true ∧ Ev X 102 11 (ls.set 5 (some (vi x))) st h Q) := R_is rfl (Or.inr rfl)
theorem e_102_11 : Ev X 102 11 ls st h Q ↔ Ev X 102 12 ls (vi 0 :: st) h Q := R_kc rfl (Or.inl ⟨Or.inl rfl, by decide⟩)
theorem e_102_12 {x : Int} : Ev X 102 12 ls (vi x :: st) h Q ↔ (stOK ls 6 = true ∧ Ev X 102 13 (ls.set 6 (some (vi x))) st h Q) := R_is rfl (Or.inr rfl)
theorem e_102_13 : Ev X 102 13 ls st h Q ↔ onI (gl ls 6) (fun z => Ev X 102 14 ls (vi z :: st) h Q) := R_il rfl (Or.inr rfl)
theorem e_102_14 : Ev X 102 14 ls st h Q ↔ onI (gl ls 2) (fun z => Ev X 102 15 ls (vi z :: st) h Q) := R_il rfl (Or.inl rfl)
theorem e_102_15 {x y : Int} : Ev X 102 15 ls (vi y :: vi x :: st) h Q ↔ (if y ≤ x then Ev X 102 49 ls st h Q else Ev X 102 16 ls st h Q) := R_icge rfl
theorem e_102_16 : Ev X 102 16 ls st h Q ↔ onI (gl ls 1) (fun z => Ev X 102 17 ls (vi z :: st) h Q) := R_il rfl (Or.inl rfl)
theorem e_102_17 : Ev X 102 17 ls st h Q ↔ onR (gl ls 0) (fun z => Ev X 102 18 ls (vr z :: st) h Q) := R_al rfl (Or.inl rfl)
theorem e_102_18 {x : Nat} : Ev X 102 18 ls (vr x :: st) h Q ↔ (X.1 x = 10 ∧ Ev X 102 19 ls (vr (X.2.2.1 x 5) :: st) h Q) := R_gr rfl
theorem e_102_19 : Ev X 102 19 ls st h Q ↔ onI (gl ls 6) (fun z => Ev X 102 20 ls (vi z :: st) h Q) := R_il rfl (Or.inr rfl)
theorem e_102_20 {x : Nat} {j : Int} : Ev X 102 20 ls (vi j :: vr x :: st) h Q ↔ (((X.1 x = 13 ∨ X.1 x = 20) ∧ 0 ≤ j ∧ j < X.2.1 x) ∧ Ev X 102 21 ls (vi (h.1 x j.toNat) :: st) h Q) := R_ia rfl
theorem e_102_21 {x y : Int} : Ev X 102 21 ls (vi y :: vi x :: st) h Q ↔ ((inR (x - y)) ∧ Ev X 102 22 ls (vi (x - y) :: st) h Q) := R_sub rfl
theorem e_102_22 {rest : List xV} {a0 : Int} : Ev X 102 22 ls ((vi a0) :: rest) h Q ↔ (wd rest ≤ 8 ∧ Cl X 283 [vi a0] h (fun r h2 => Ev X 102 23 ls (r.toList ++ rest) h2 Q)) := R_cs (as := [vi a0]) (k2 := 283) rfl rfl (Nat.le_of_ble_eq_true rfl)
theorem e_102_23 {x : Int} : Ev X 102 23 ls (vi x :: st) h Q ↔ (stOK ls 7 = true ∧ Ev X 102 24 (ls.set 7 (some (vi x))) st h Q) := R_is rfl (Or.inr rfl)
theorem e_102_24 : Ev X 102 24 ls st h Q ↔ onI (gl ls 7) (fun z => Ev X 102 25 ls (vi z :: st) h Q) := R_il rfl (Or.inr rfl)
theorem e_102_25 : Ev X 102 25 ls st h Q ↔ onI (gl ls 3) (fun z => Ev X 102 26 ls (vi z :: st) h Q) := R_il rfl (Or.inl rfl)
theorem e_102_26 {x y : Int} : Ev X 102 26 ls (vi y :: vi x :: st) h Q ↔ ((y ≠ 0 ∧ inR (x.tdiv y)) ∧ Ev X 102 27 ls (vi (x.tdiv y) :: st) h Q) := R_div rfl
theorem e_102_27 {x : Int} : Ev X 102 27 ls (vi x :: st) h Q ↔ (stOK ls 8 = true ∧ Ev X 102 28 (ls.set 8 (some (vi x))) st h Q) := R_is rfl (Or.inr rfl)
theorem e_102_28 : Ev X 102 28 ls st h Q ↔ onI (gl ls 8) (fun z => Ev X 102 29 ls (vi z :: st) h Q) := R_il rfl (Or.inr rfl)
theorem e_102_29 : Ev X 102 29 ls st h Q ↔ Ev X 102 30 ls (vi 13 :: st) h Q := R_kc rfl (Or.inr (Or.inl ⟨rfl, by decide⟩))
theorem e_102_30 {x y : Int} : Ev X 102 30 ls (vi y :: vi x :: st) h Q ↔ (if x < y then Ev X 102 33 ls st h Q else Ev X 102 31 ls st h Q) := R_iclt rfl
theorem e_102_31 : Ev X 102 31 ls st h Q ↔ Ev X 102 32 ls (vi 0 :: st) h Q := R_kc rfl (Or.inl ⟨Or.inl rfl, by decide⟩)
theorem e_102_32 : Ev X 102 32 ls st h Q ↔ Ev X 102 36 ls st h Q := R_go rfl
theorem e_102_33 : Ev X 102 33 ls st h Q ↔ Ev X 102 34 ls (vi 4096 :: st) h Q := R_kc rfl (Or.inr (Or.inr ⟨rfl, by decide⟩))
theorem e_102_34 : Ev X 102 34 ls st h Q ↔ onI (gl ls 8) (fun z => Ev X 102 35 ls (vi z :: st) h Q) := R_il rfl (Or.inr rfl)
theorem e_102_35 {x y : Int} : Ev X 102 35 ls (vi y :: vi x :: st) h Q ↔ Ev X 102 36 ls (vi ((Int32.ofInt x >>> (Int32.ofInt y &&& 31)).toInt) :: st) h Q := R_shr rfl
theorem e_102_36 {x : Int} : Ev X 102 36 ls (vi x :: st) h Q ↔ (stOK ls 9 = true ∧ Ev X 102 37 (ls.set 9 (some (vi x))) st h Q) := R_is rfl (Or.inr rfl)
theorem e_102_37 : Ev X 102 37 ls st h Q ↔ onI (gl ls 4) (fun z => Ev X 102 38 ls (vi z :: st) h Q) := R_il rfl (Or.inr rfl)
theorem e_102_38 : Ev X 102 38 ls st h Q ↔ onI (gl ls 7) (fun z => Ev X 102 39 ls (vi z :: st) h Q) := R_il rfl (Or.inr rfl)
theorem e_102_39 : Ev X 102 39 ls st h Q ↔ onI (gl ls 9) (fun z => Ev X 102 40 ls (vi z :: st) h Q) := R_il rfl (Or.inr rfl)
theorem e_102_40 {x y : Int} : Ev X 102 40 ls (vi y :: vi x :: st) h Q ↔ ((inR (x * y)) ∧ Ev X 102 41 ls (vi (x * y) :: st) h Q) := R_mul rfl
theorem e_102_41 {x y : Int} : Ev X 102 41 ls (vi y :: vi x :: st) h Q ↔ ((inR (x + y)) ∧ Ev X 102 42 ls (vi (x + y) :: st) h Q) := R_add rfl
theorem e_102_42 {x : Int} : Ev X 102 42 ls (vi x :: st) h Q ↔ (stOK ls 4 = true ∧ Ev X 102 43 (ls.set 4 (some (vi x))) st h Q) := R_is rfl (Or.inr rfl)
theorem e_102_43 : Ev X 102 43 ls st h Q ↔ onI (gl ls 5) (fun z => Ev X 102 44 ls (vi z :: st) h Q) := R_il rfl (Or.inr rfl)
theorem e_102_44 : Ev X 102 44 ls st h Q ↔ onI (gl ls 9) (fun z => Ev X 102 45 ls (vi z :: st) h Q) := R_il rfl (Or.inr rfl)
theorem e_102_45 {x y : Int} : Ev X 102 45 ls (vi y :: vi x :: st) h Q ↔ ((inR (x + y)) ∧ Ev X 102 46 ls (vi (x + y) :: st) h Q) := R_add rfl
theorem e_102_46 {x : Int} : Ev X 102 46 ls (vi x :: st) h Q ↔ (stOK ls 5 = true ∧ Ev X 102 47 (ls.set 5 (some (vi x))) st h Q) := R_is rfl (Or.inr rfl)
theorem e_102_47 : Ev X 102 47 ls st h Q ↔ onI (gl ls 6) (fun x => (stOK ls 6 = true ∧ inR (x + 1)) ∧ Ev X 102 48 (ls.set 6 (some (vi (x + 1)))) st h Q) := R_inc rfl
theorem e_102_48 : Ev X 102 48 ls st h Q ↔ Ev X 102 13 ls st h Q := R_go rfl
theorem e_102_49 : Ev X 102 49 ls st h Q ↔ onI (gl ls 5) (fun z => Ev X 102 50 ls (vi z :: st) h Q) := R_il rfl (Or.inr rfl)
theorem e_102_50 {x : Int} : Ev X 102 50 ls (vi x :: st) h Q ↔ (if ¬ x = 0 then Ev X 102 53 ls st h Q else Ev X 102 51 ls st h Q) := R_ifne rfl
theorem e_102_51 : Ev X 102 51 ls st h Q ↔ Ev X 102 52 ls (vi 0 :: st) h Q := R_kc rfl (Or.inl ⟨Or.inl rfl, by decide⟩)
theorem e_102_52 : Ev X 102 52 ls st h Q ↔ Ev X 102 56 ls st h Q := R_go rfl
theorem e_102_53 : Ev X 102 53 ls st h Q ↔ onI (gl ls 4) (fun z => Ev X 102 54 ls (vi z :: st) h Q) := R_il rfl (Or.inr rfl)
theorem e_102_54 : Ev X 102 54 ls st h Q ↔ onI (gl ls 5) (fun z => Ev X 102 55 ls (vi z :: st) h Q) := R_il rfl (Or.inr rfl)
theorem e_102_55 {x y : Int} : Ev X 102 55 ls (vi y :: vi x :: st) h Q ↔ ((y ≠ 0 ∧ inR (x.tdiv y)) ∧ Ev X 102 56 ls (vi (x.tdiv y) :: st) h Q) := R_div rfl
theorem e_102_56 {z : Int} : Ev X 102 56 ls [vi z] h Q ↔ Q (some (vi z)) h := R_ir rfl
-- 103: CellRows.terms(II)I
theorem e_103_0 : Ev X 103 0 ls st h Q ↔ onI (gl ls 1) (fun z => Ev X 103 1 ls (vi z :: st) h Q) := R_il rfl (Or.inl rfl)
theorem e_103_1 {x : Int} : Ev X 103 1 ls (vi x :: st) h Q ↔ (if x < 0 then Ev X 103 15 ls st h Q else Ev X 103 2 ls st h Q) := R_iflt rfl
theorem e_103_2 : Ev X 103 2 ls st h Q ↔ onI (gl ls 1) (fun z => Ev X 103 3 ls (vi z :: st) h Q) := R_il rfl (Or.inl rfl)
theorem e_103_3 : Ev X 103 3 ls st h Q ↔ Ev X 103 4 ls (vi 6 :: st) h Q := R_kc rfl (Or.inr (Or.inl ⟨rfl, by decide⟩))
theorem e_103_4 {x y : Int} : Ev X 103 4 ls (vi y :: vi x :: st) h Q ↔ (if y ≤ x then Ev X 103 15 ls st h Q else Ev X 103 5 ls st h Q) := R_icge rfl
theorem e_103_5 : Ev X 103 5 ls st h Q ↔ onI (gl ls 2) (fun z => Ev X 103 6 ls (vi z :: st) h Q) := R_il rfl (Or.inl rfl)
theorem e_103_6 : Ev X 103 6 ls st h Q ↔ Ev X 103 7 ls (vr (X.2.2.2 1) :: st) h Q := R_gs rfl
theorem e_103_7 : Ev X 103 7 ls st h Q ↔ onI (gl ls 1) (fun z => Ev X 103 8 ls (vi z :: st) h Q) := R_il rfl (Or.inl rfl)
theorem e_103_8 {x : Nat} {j : Int} : Ev X 103 8 ls (vi j :: vr x :: st) h Q ↔ (((X.1 x = 13 ∨ X.1 x = 20) ∧ 0 ≤ j ∧ j < X.2.1 x) ∧ Ev X 103 9 ls (vi (h.1 x j.toNat) :: st) h Q) := R_ia rfl
theorem e_103_9 {x y : Int} : Ev X 103 9 ls (vi y :: vi x :: st) h Q ↔ (if x < y then Ev X 103 15 ls st h Q else Ev X 103 10 ls st h Q) := R_iclt rfl
theorem e_103_10 : Ev X 103 10 ls st h Q ↔ onI (gl ls 2) (fun z => Ev X 103 11 ls (vi z :: st) h Q) := R_il rfl (Or.inl rfl)
theorem e_103_11 : Ev X 103 11 ls st h Q ↔ Ev X 103 12 ls (vr (X.2.2.2 2) :: st) h Q := R_gs rfl
theorem e_103_12 : Ev X 103 12 ls st h Q ↔ onI (gl ls 1) (fun z => Ev X 103 13 ls (vi z :: st) h Q) := R_il rfl (Or.inl rfl)
theorem e_103_13 {x : Nat} {j : Int} : Ev X 103 13 ls (vi j :: vr x :: st) h Q ↔ (((X.1 x = 13 ∨ X.1 x = 20) ∧ 0 ≤ j ∧ j < X.2.1 x) ∧ Ev X 103 14 ls (vi (h.1 x j.toNat) :: st) h Q) := R_ia rfl
theorem e_103_14 {x y : Int} : Ev X 103 14 ls (vi y :: vi x :: st) h Q ↔ (if x ≤ y then Ev X 103 19 ls st h Q else Ev X 103 15 ls st h Q) := R_icle rfl
theorem e_103_15 : Ev X 103 15 ls st h Q ↔ onR (gl ls 0) (fun z => Ev X 103 16 ls (vr z :: st) h Q) := R_al rfl (Or.inl rfl)
theorem e_103_16 : Ev X 103 16 ls st h Q ↔ Ev X 103 17 ls (vi (-1) :: st) h Q := R_kc rfl (Or.inl ⟨Or.inl rfl, by decide⟩)
theorem e_103_17 {rest : List xV} {a0 : Int} {o : Nat} : Ev X 103 17 ls ((vi a0) :: vr o :: rest) h Q ↔ ((X.1 o = 11 ∧ wd rest ≤ 8) ∧ Cl X 138 [vr o, vi a0] h (fun r h2 => Ev X 103 18 ls (r.toList ++ rest) h2 Q)) := R_cv (x := o) (as := [vi a0]) (k2 := 138) rfl rfl (Nat.le_of_ble_eq_true rfl)
theorem e_103_18 {z : Int} : Ev X 103 18 ls [vi z] h Q ↔ Q (some (vi z)) h := R_ir rfl
theorem e_103_19 : Ev X 103 19 ls st h Q ↔ onR (gl ls 0) (fun z => Ev X 103 20 ls (vr z :: st) h Q) := R_al rfl (Or.inl rfl)
theorem e_103_20 : Ev X 103 20 ls st h Q ↔ Ev X 103 21 ls (vi 0 :: st) h Q := R_kc rfl (Or.inl ⟨Or.inl rfl, by decide⟩)
theorem e_103_21 {x : Nat} {v : Int} : Ev X 103 21 ls (vi v :: vr x :: st) h Q ↔ (X.1 x = 11 ∧ Ev X 103 22 ls st (h.1, up2 h.2 x 4 v) Q) := R_pi rfl
theorem e_103_22 : Ev X 103 22 ls st h Q ↔ onR (gl ls 0) (fun z => Ev X 103 23 ls (vr z :: st) h Q) := R_al rfl (Or.inl rfl)
theorem e_103_23 {x : Nat} : Ev X 103 23 ls (vr x :: st) h Q ↔ (X.1 x = 11 ∧ Ev X 103 24 ls (vr (X.2.2.1 x 0) :: st) h Q) := R_gr rfl
theorem e_103_24 : Ev X 103 24 ls st h Q ↔ onI (gl ls 1) (fun z => Ev X 103 25 ls (vi z :: st) h Q) := R_il rfl (Or.inl rfl)
theorem e_103_25 {x : Nat} {j : Int} : Ev X 103 25 ls (vi j :: vr x :: st) h Q ↔ (((X.1 x = 13 ∨ X.1 x = 20) ∧ 0 ≤ j ∧ j < X.2.1 x) ∧ Ev X 103 26 ls (vi (h.1 x j.toNat) :: st) h Q) := R_ia rfl
theorem e_103_26 {x : Int} : Ev X 103 26 ls (vi x :: st) h Q ↔ (stOK ls 3 = true ∧ Ev X 103 27 (ls.set 3 (some (vi x))) st h Q) := R_is rfl (Or.inl rfl)
theorem e_103_27 : Ev X 103 27 ls st h Q ↔ onR (gl ls 0) (fun z => Ev X 103 28 ls (vr z :: st) h Q) := R_al rfl (Or.inl rfl)
theorem e_103_28 {x : Nat} : Ev X 103 28 ls (vr x :: st) h Q ↔ (X.1 x = 11 ∧ Ev X 103 29 ls (vr (X.2.2.1 x 0) :: st) h Q) := R_gr rfl
theorem e_103_29 : Ev X 103 29 ls st h Q ↔ onI (gl ls 1) (fun z => Ev X 103 30 ls (vi z :: st) h Q) := R_il rfl (Or.inl rfl)
theorem e_103_30 : Ev X 103 30 ls st h Q ↔ onI (gl ls 2) (fun z => Ev X 103 31 ls (vi z :: st) h Q) := R_il rfl (Or.inl rfl)
theorem e_103_31 {x : Nat} {j v : Int} : Ev X 103 31 ls (vi v :: vi j :: vr x :: st) h Q ↔ ((X.1 x = 13 ∧ 0 ≤ j ∧ j < X.2.1 x) ∧ Ev X 103 32 ls st (up2 h.1 x j.toNat v, h.2) Q) := R_ias rfl
theorem e_103_32 : Ev X 103 32 ls st h Q ↔ onI (gl ls 3) (fun z => Ev X 103 33 ls (vi z :: st) h Q) := R_il rfl (Or.inl rfl)
theorem e_103_33 {z : Int} : Ev X 103 33 ls [vi z] h Q ↔ Q (some (vi z)) h := R_ir rfl
-- 104: CellRows.feed(IIIII)I
theorem e_104_0 : Ev X 104 0 ls st h Q ↔ onR (gl ls 0) (fun z => Ev X 104 1 ls (vr z :: st) h Q) := R_al rfl (Or.inl rfl)
theorem e_104_1 {x : Nat} : Ev X 104 1 ls (vr x :: st) h Q ↔ (X.1 x = 11 ∧ Ev X 104 2 ls (vi (h.2 x 2) :: st) h Q) := R_gi rfl
theorem e_104_2 : Ev X 104 2 ls st h Q ↔ Ev X 104 3 ls (vi 20 :: st) h Q := R_kc rfl (Or.inr (Or.inl ⟨rfl, by decide⟩))
theorem e_104_3 {x y : Int} : Ev X 104 3 ls (vi y :: vi x :: st) h Q ↔ ((inR (x + y)) ∧ Ev X 104 4 ls (vi (x + y) :: st) h Q) := R_add rfl
theorem e_104_4 : Ev X 104 4 ls st h Q ↔ Ev X 104 5 ls (vi 100 :: st) h Q := R_kc rfl (Or.inr (Or.inl ⟨rfl, by decide⟩))
theorem e_104_5 {x y : Int} : Ev X 104 5 ls (vi y :: vi x :: st) h Q ↔ (if x ≤ y then Ev X 104 8 ls st h Q else Ev X 104 6 ls st h Q) := R_icle rfl
theorem e_104_6 : Ev X 104 6 ls st h Q ↔ Ev X 104 7 ls (vi (-1) :: st) h Q := R_kc rfl (Or.inl ⟨Or.inl rfl, by decide⟩)
theorem e_104_7 {z : Int} : Ev X 104 7 ls [vi z] h Q ↔ Q (some (vi z)) h := R_ir rfl
theorem e_104_8 : Ev X 104 8 ls st h Q ↔ onR (gl ls 0) (fun z => Ev X 104 9 ls (vr z :: st) h Q) := R_al rfl (Or.inl rfl)
theorem e_104_9 : Ev X 104 9 ls st h Q ↔ onI (gl ls 1) (fun z => Ev X 104 10 ls (vi z :: st) h Q) := R_il rfl (Or.inl rfl)
theorem e_104_10 {rest : List xV} {a0 : Int} {o : Nat} : Ev X 104 10 ls ((vi a0) :: vr o :: rest) h Q ↔ ((X.1 o = 11 ∧ wd rest ≤ 8) ∧ Cl X 140 [vr o, vi a0] h (fun r h2 => Ev X 104 11 ls (r.toList ++ rest) h2 Q)) := R_cv (x := o) (as := [vi a0]) (k2 := 140) rfl rfl (Nat.le_of_ble_eq_true rfl)
theorem e_104_11 : Ev X 104 11 ls st h Q ↔ onR (gl ls 0) (fun z => Ev X 104 12 ls (vr z :: st) h Q) := R_al rfl (Or.inl rfl)
theorem e_104_12 : Ev X 104 12 ls st h Q ↔ onI (gl ls 2) (fun z => Ev X 104 13 ls (vi z :: st) h Q) := R_il rfl (Or.inl rfl)
theorem e_104_13 {rest : List xV} {a0 : Int} {o : Nat} : Ev X 104 13 ls ((vi a0) :: vr o :: rest) h Q ↔ ((X.1 o = 11 ∧ wd rest ≤ 8) ∧ Cl X 140 [vr o, vi a0] h (fun r h2 => Ev X 104 14 ls (r.toList ++ rest) h2 Q)) := R_cv (x := o) (as := [vi a0]) (k2 := 140) rfl rfl (Nat.le_of_ble_eq_true rfl)
theorem e_104_14 : Ev X 104 14 ls st h Q ↔ onR (gl ls 0) (fun z => Ev X 104 15 ls (vr z :: st) h Q) := R_al rfl (Or.inl rfl)
theorem e_104_15 : Ev X 104 15 ls st h Q ↔ onI (gl ls 3) (fun z => Ev X 104 16 ls (vi z :: st) h Q) := R_il rfl (Or.inl rfl)
theorem e_104_16 {rest : List xV} {a0 : Int} {o : Nat} : Ev X 104 16 ls ((vi a0) :: vr o :: rest) h Q ↔ ((X.1 o = 11 ∧ wd rest ≤ 8) ∧ Cl X 140 [vr o, vi a0] h (fun r h2 => Ev X 104 17 ls (r.toList ++ rest) h2 Q)) := R_cv (x := o) (as := [vi a0]) (k2 := 140) rfl rfl (Nat.le_of_ble_eq_true rfl)
theorem e_104_17 : Ev X 104 17 ls st h Q ↔ onR (gl ls 0) (fun z => Ev X 104 18 ls (vr z :: st) h Q) := R_al rfl (Or.inl rfl)
theorem e_104_18 : Ev X 104 18 ls st h Q ↔ onI (gl ls 4) (fun z => Ev X 104 19 ls (vi z :: st) h Q) := R_il rfl (Or.inr rfl)
theorem e_104_19 {rest : List xV} {a0 : Int} {o : Nat} : Ev X 104 19 ls ((vi a0) :: vr o :: rest) h Q ↔ ((X.1 o = 11 ∧ wd rest ≤ 8) ∧ Cl X 140 [vr o, vi a0] h (fun r h2 => Ev X 104 20 ls (r.toList ++ rest) h2 Q)) := R_cv (x := o) (as := [vi a0]) (k2 := 140) rfl rfl (Nat.le_of_ble_eq_true rfl)
theorem e_104_20 : Ev X 104 20 ls st h Q ↔ onR (gl ls 0) (fun z => Ev X 104 21 ls (vr z :: st) h Q) := R_al rfl (Or.inl rfl)
theorem e_104_21 : Ev X 104 21 ls st h Q ↔ onI (gl ls 5) (fun z => Ev X 104 22 ls (vi z :: st) h Q) := R_il rfl (Or.inr rfl)
theorem e_104_22 {rest : List xV} {a0 : Int} {o : Nat} : Ev X 104 22 ls ((vi a0) :: vr o :: rest) h Q ↔ ((X.1 o = 11 ∧ wd rest ≤ 8) ∧ Cl X 140 [vr o, vi a0] h (fun r h2 => Ev X 104 23 ls (r.toList ++ rest) h2 Q)) := R_cv (x := o) (as := [vi a0]) (k2 := 140) rfl rfl (Nat.le_of_ble_eq_true rfl)
theorem e_104_23 : Ev X 104 23 ls st h Q ↔ onR (gl ls 0) (fun z => Ev X 104 24 ls (vr z :: st) h Q) := R_al rfl (Or.inl rfl)
theorem e_104_24 {x : Nat} : Ev X 104 24 ls (vr x :: st) h Q ↔ (X.1 x = 11 ∧ Ev X 104 25 ls (vi (h.2 x 2) :: st) h Q) := R_gi rfl
theorem e_104_25 {z : Int} : Ev X 104 25 ls [vi z] h Q ↔ Q (some (vi z)) h := R_ir rfl
-- 105: CellRows.end(I)I
theorem e_105_0 : Ev X 105 0 ls st h Q ↔ onI (gl ls 1) (fun z => Ev X 105 1 ls (vi z :: st) h Q) := R_il rfl (Or.inl rfl)
theorem e_105_1 {x : Int} : Ev X 105 1 ls (vi x :: st) h Q ↔ (if x < 0 then Ev X 105 6 ls st h Q else Ev X 105 2 ls st h Q) := R_iflt rfl
theorem e_105_2 : Ev X 105 2 ls st h Q ↔ onI (gl ls 1) (fun z => Ev X 105 3 ls (vi z :: st) h Q) := R_il rfl (Or.inl rfl)
theorem e_105_3 : Ev X 105 3 ls st h Q ↔ onR (gl ls 0) (fun z => Ev X 105 4 ls (vr z :: st) h Q) := R_al rfl (Or.inl rfl)
theorem e_105_4 {x : Nat} : Ev X 105 4 ls (vr x :: st) h Q ↔ (X.1 x = 11 ∧ Ev X 105 5 ls (vi (h.2 x 2) :: st) h Q) := R_gi rfl
theorem e_105_5 {x y : Int} : Ev X 105 5 ls (vi y :: vi x :: st) h Q ↔ (if x ≤ y then Ev X 105 8 ls st h Q else Ev X 105 6 ls st h Q) := R_icle rfl
theorem e_105_6 : Ev X 105 6 ls st h Q ↔ Ev X 105 7 ls (vi (-1) :: st) h Q := R_kc rfl (Or.inl ⟨Or.inl rfl, by decide⟩)
theorem e_105_7 {z : Int} : Ev X 105 7 ls [vi z] h Q ↔ Q (some (vi z)) h := R_ir rfl
theorem e_105_8 : Ev X 105 8 ls st h Q ↔ onR (gl ls 0) (fun z => Ev X 105 9 ls (vr z :: st) h Q) := R_al rfl (Or.inl rfl)
theorem e_105_9 : Ev X 105 9 ls st h Q ↔ onI (gl ls 1) (fun z => Ev X 105 10 ls (vi z :: st) h Q) := R_il rfl (Or.inl rfl)
theorem e_105_10 {x : Nat} {v : Int} : Ev X 105 10 ls (vi v :: vr x :: st) h Q ↔ (X.1 x = 11 ∧ Ev X 105 11 ls st (h.1, up2 h.2 x 2 v) Q) := R_pi rfl
theorem e_105_11 : Ev X 105 11 ls st h Q ↔ onI (gl ls 1) (fun z => Ev X 105 12 ls (vi z :: st) h Q) := R_il rfl (Or.inl rfl)
theorem e_105_12 {z : Int} : Ev X 105 12 ls [vi z] h Q ↔ Q (some (vi z)) h := R_ir rfl
-- 106: CellRows.block(IIIII)I
theorem e_106_0 : Ev X 106 0 ls st h Q ↔ onR (gl ls 0) (fun z => Ev X 106 1 ls (vr z :: st) h Q) := R_al rfl (Or.inl rfl)
theorem e_106_1 : Ev X 106 1 ls st h Q ↔ onI (gl ls 1) (fun z => Ev X 106 2 ls (vi z :: st) h Q) := R_il rfl (Or.inl rfl)
theorem e_106_2 : Ev X 106 2 ls st h Q ↔ onI (gl ls 2) (fun z => Ev X 106 3 ls (vi z :: st) h Q) := R_il rfl (Or.inl rfl)
theorem e_106_3 : Ev X 106 3 ls st h Q ↔ onI (gl ls 3) (fun z => Ev X 106 4 ls (vi z :: st) h Q) := R_il rfl (Or.inl rfl)
theorem e_106_4 : Ev X 106 4 ls st h Q ↔ onI (gl ls 4) (fun z => Ev X 106 5 ls (vi z :: st) h Q) := R_il rfl (Or.inr rfl)
theorem e_106_5 {rest : List xV} {a0 : Int} {a1 : Int} {a2 : Int} {a3 : Int} {o : Nat} : Ev X 106 5 ls ((vi a3) :: (vi a2) :: (vi a1) :: (vi a0) :: vr o :: rest) h Q ↔ ((X.1 o = 11 ∧ wd rest ≤ 8) ∧ Cl X 141 [vr o, vi a0, vi a1, vi a2, vi a3] h (fun r h2 => Ev X 106 6 ls (r.toList ++ rest) h2 Q)) := R_cv (x := o) (as := [vi a0, vi a1, vi a2, vi a3]) (k2 := 141) rfl rfl (Nat.le_of_ble_eq_true rfl)
theorem e_106_6 {x : Int} : Ev X 106 6 ls (vi x :: st) h Q ↔ (if x = 0 then Ev X 106 12 ls st h Q else Ev X 106 7 ls st h Q) := R_ifeq rfl
theorem e_106_7 : Ev X 106 7 ls st h Q ↔ onI (gl ls 5) (fun z => Ev X 106 8 ls (vi z :: st) h Q) := R_il rfl (Or.inr rfl)
theorem e_106_8 {x : Int} : Ev X 106 8 ls (vi x :: st) h Q ↔ (if x < 0 then Ev X 106 12 ls st h Q else Ev X 106 9 ls st h Q) := R_iflt rfl
theorem e_106_9 : Ev X 106 9 ls st h Q ↔ onI (gl ls 5) (fun z => Ev X 106 10 ls (vi z :: st) h Q) := R_il rfl (Or.inr rfl)
theorem e_106_10 : Ev X 106 10 ls st h Q ↔ Ev X 106 11 ls (vi 4 :: st) h Q := R_kc rfl (Or.inl ⟨Or.inl rfl, by decide⟩)
theorem e_106_11 {x y : Int} : Ev X 106 11 ls (vi y :: vi x :: st) h Q ↔ (if x ≤ y then Ev X 106 16 ls st h Q else Ev X 106 12 ls st h Q) := R_icle rfl
theorem e_106_12 : Ev X 106 12 ls st h Q ↔ onR (gl ls 0) (fun z => Ev X 106 13 ls (vr z :: st) h Q) := R_al rfl (Or.inl rfl)
theorem e_106_13 : Ev X 106 13 ls st h Q ↔ Ev X 106 14 ls (vi (-1) :: st) h Q := R_kc rfl (Or.inl ⟨Or.inl rfl, by decide⟩)
theorem e_106_14 {rest : List xV} {a0 : Int} {o : Nat} : Ev X 106 14 ls ((vi a0) :: vr o :: rest) h Q ↔ ((X.1 o = 11 ∧ wd rest ≤ 8) ∧ Cl X 138 [vr o, vi a0] h (fun r h2 => Ev X 106 15 ls (r.toList ++ rest) h2 Q)) := R_cv (x := o) (as := [vi a0]) (k2 := 138) rfl rfl (Nat.le_of_ble_eq_true rfl)
theorem e_106_15 {z : Int} : Ev X 106 15 ls [vi z] h Q ↔ Q (some (vi z)) h := R_ir rfl
theorem e_106_16 : Ev X 106 16 ls st h Q ↔ Ev X 106 17 ls (vi 0 :: st) h Q := R_kc rfl (Or.inl ⟨Or.inl rfl, by decide⟩)
theorem e_106_17 : Ev X 106 17 ls st h Q ↔ onI (gl ls 3) (fun z => Ev X 106 18 ls (vi z :: st) h Q) := R_il rfl (Or.inl rfl)
theorem e_106_18 : Ev X 106 18 ls st h Q ↔ onI (gl ls 5) (fun z => Ev X 106 19 ls (vi z :: st) h Q) := R_il rfl (Or.inr rfl)
theorem e_106_19 {x y : Int} : Ev X 106 19 ls (vi y :: vi x :: st) h Q ↔ ((inR (x - y)) ∧ Ev X 106 20 ls (vi (x - y) :: st) h Q) := R_sub rfl
theorem e_106_20 {rest : List xV} {a0 : Int} {a1 : Int} : Ev X 106 20 ls ((vi a1) :: (vi a0) :: rest) h Q ↔ (wd rest ≤ 8 ∧ Cl X 284 [vi a0, vi a1] h (fun r h2 => Ev X 106 21 ls (r.toList ++ rest) h2 Q)) := R_cs (as := [vi a0, vi a1]) (k2 := 284) rfl rfl (Nat.le_of_ble_eq_true rfl)
theorem e_106_21 {x : Int} : Ev X 106 21 ls (vi x :: st) h Q ↔ (stOK ls 6 = true ∧ Ev X 106 22 (ls.set 6 (some (vi x))) st h Q) := R_is rfl (Or.inr rfl)
theorem e_106_22 : Ev X 106 22 ls st h Q ↔ onR (gl ls 0) (fun z => Ev X 106 23 ls (vr z :: st) h Q) := R_al rfl (Or.inl rfl)
theorem e_106_23 {x : Nat} : Ev X 106 23 ls (vr x :: st) h Q ↔ (X.1 x = 11 ∧ Ev X 106 24 ls (vr (X.2.2.1 x 5) :: st) h Q) := R_gr rfl
theorem e_106_24 {x : Nat} : Ev X 106 24 ls (vr x :: st) h Q ↔ (X.1 x = 9 ∧ Ev X 106 25 ls (vi (h.2 x 1) :: st) h Q) := R_gi rfl
theorem e_106_25 : Ev X 106 25 ls st h Q ↔ Ev X 106 26 ls (vi 1 :: st) h Q := R_kc rfl (Or.inl ⟨Or.inl rfl, by decide⟩)
theorem e_106_26 {x y : Int} : Ev X 106 26 ls (vi y :: vi x :: st) h Q ↔ ((inR (x - y)) ∧ Ev X 106 27 ls (vi (x - y) :: st) h Q) := R_sub rfl
theorem e_106_27 : Ev X 106 27 ls st h Q ↔ onI (gl ls 4) (fun z => Ev X 106 28 ls (vi z :: st) h Q) := R_il rfl (Or.inr rfl)
theorem e_106_28 : Ev X 106 28 ls st h Q ↔ onI (gl ls 5) (fun z => Ev X 106 29 ls (vi z :: st) h Q) := R_il rfl (Or.inr rfl)
theorem e_106_29 {x y : Int} : Ev X 106 29 ls (vi y :: vi x :: st) h Q ↔ ((inR (x + y)) ∧ Ev X 106 30 ls (vi (x + y) :: st) h Q) := R_add rfl
theorem e_106_30 {rest : List xV} {a0 : Int} {a1 : Int} : Ev X 106 30 ls ((vi a1) :: (vi a0) :: rest) h Q ↔ (wd rest ≤ 8 ∧ Cl X 285 [vi a0, vi a1] h (fun r h2 => Ev X 106 31 ls (r.toList ++ rest) h2 Q)) := R_cs (as := [vi a0, vi a1]) (k2 := 285) rfl rfl (Nat.le_of_ble_eq_true rfl)
theorem e_106_31 {x : Int} : Ev X 106 31 ls (vi x :: st) h Q ↔ (stOK ls 7 = true ∧ Ev X 106 32 (ls.set 7 (some (vi x))) st h Q) := R_is rfl (Or.inr rfl)
theorem e_106_32 : Ev X 106 32 ls st h Q ↔ onR (gl ls 0) (fun z => Ev X 106 33 ls (vr z :: st) h Q) := R_al rfl (Or.inl rfl)
theorem e_106_33 {x : Nat} : Ev X 106 33 ls (vr x :: st) h Q ↔ (X.1 x = 11 ∧ Ev X 106 34 ls (vr (X.2.2.1 x 5) :: st) h Q) := R_gr rfl
theorem e_106_34 {x : Nat} : Ev X 106 34 ls (vr x :: st) h Q ↔ (X.1 x = 9 ∧ Ev X 106 35 ls (vr (X.2.2.1 x 4) :: st) h Q) := R_gr rfl
theorem e_106_35 : Ev X 106 35 ls st h Q ↔ onI (gl ls 1) (fun z => Ev X 106 36 ls (vi z :: st) h Q) := R_il rfl (Or.inl rfl)
theorem e_106_36 : Ev X 106 36 ls st h Q ↔ onI (gl ls 2) (fun z => Ev X 106 37 ls (vi z :: st) h Q) := R_il rfl (Or.inl rfl)
theorem e_106_37 : Ev X 106 37 ls st h Q ↔ onI (gl ls 6) (fun z => Ev X 106 38 ls (vi z :: st) h Q) := R_il rfl (Or.inr rfl)
theorem e_106_38 : Ev X 106 38 ls st h Q ↔ onI (gl ls 7) (fun z => Ev X 106 39 ls (vi z :: st) h Q) := R_il rfl (Or.inr rfl)
theorem e_106_39 {rest : List xV} {a0 : Int} {a1 : Int} {a2 : Int} {a3 : Int} {o : Nat} : Ev X 106 39 ls ((vi a3) :: (vi a2) :: (vi a1) :: (vi a0) :: vr o :: rest) h Q ↔ ((X.1 o = 3 ∧ wd rest ≤ 8) ∧ Cl X 26 [vr o, vi a0, vi a1, vi a2, vi a3] h (fun r h2 => Ev X 106 40 ls (r.toList ++ rest) h2 Q)) := R_cv (x := o) (as := [vi a0, vi a1, vi a2, vi a3]) (k2 := 26) rfl rfl (Nat.le_of_ble_eq_true rfl)
theorem e_106_40 {x : Int} : Ev X 106 40 ls (vi x :: st) h Q ↔ (if x = 0 then Ev X 106 45 ls st h Q else Ev X 106 41 ls st h Q) := R_ifeq rfl
theorem e_106_41 : Ev X 106 41 ls st h Q ↔ onR (gl ls 0) (fun z => Ev X 106 42 ls (vr z :: st) h Q) := R_al rfl (Or.inl rfl)
theorem e_106_42 : Ev X 106 42 ls st h Q ↔ Ev X 106 43 ls (vi (-4) :: st) h Q := R_kc rfl (Or.inr (Or.inl ⟨rfl, by decide⟩))
theorem e_106_43 {rest : List xV} {a0 : Int} {o : Nat} : Ev X 106 43 ls ((vi a0) :: vr o :: rest) h Q ↔ ((X.1 o = 11 ∧ wd rest ≤ 8) ∧ Cl X 138 [vr o, vi a0] h (fun r h2 => Ev X 106 44 ls (r.toList ++ rest) h2 Q)) := R_cv (x := o) (as := [vi a0]) (k2 := 138) rfl rfl (Nat.le_of_ble_eq_true rfl)
theorem e_106_44 {z : Int} : Ev X 106 44 ls [vi z] h Q ↔ Q (some (vi z)) h := R_ir rfl
theorem e_106_45 : Ev X 106 45 ls st h Q ↔ onR (gl ls 0) (fun z => Ev X 106 46 ls (vr z :: st) h Q) := R_al rfl (Or.inl rfl)
theorem e_106_46 {x : Nat} : Ev X 106 46 ls (vr x :: st) h Q ↔ (X.1 x = 11 ∧ Ev X 106 47 ls (vr (X.2.2.1 x 5) :: st) h Q) := R_gr rfl
theorem e_106_47 {x : Nat} : Ev X 106 47 ls (vr x :: st) h Q ↔ (X.1 x = 9 ∧ Ev X 106 48 ls (vr (X.2.2.1 x 2) :: st) h Q) := R_gr rfl
theorem e_106_48 {x : Nat} : Ev X 106 48 ls (vr x :: st) h Q ↔ (X.1 x = 2 ∧ Ev X 106 49 ls (vi (h.2 x 0) :: st) h Q) := R_gi rfl
theorem e_106_49 : Ev X 106 49 ls st h Q ↔ Ev X 106 50 ls (vi 4 :: st) h Q := R_kc rfl (Or.inl ⟨Or.inl rfl, by decide⟩)
theorem e_106_50 {x y : Int} : Ev X 106 50 ls (vi y :: vi x :: st) h Q ↔ (if x < y then Ev X 106 55 ls st h Q else Ev X 106 51 ls st h Q) := R_iclt rfl
theorem e_106_51 : Ev X 106 51 ls st h Q ↔ onR (gl ls 0) (fun z => Ev X 106 52 ls (vr z :: st) h Q) := R_al rfl (Or.inl rfl)
theorem e_106_52 : Ev X 106 52 ls st h Q ↔ Ev X 106 53 ls (vi (-5) :: st) h Q := R_kc rfl (Or.inr (Or.inl ⟨rfl, by decide⟩))
theorem e_106_53 {rest : List xV} {a0 : Int} {o : Nat} : Ev X 106 53 ls ((vi a0) :: vr o :: rest) h Q ↔ ((X.1 o = 11 ∧ wd rest ≤ 8) ∧ Cl X 138 [vr o, vi a0] h (fun r h2 => Ev X 106 54 ls (r.toList ++ rest) h2 Q)) := R_cv (x := o) (as := [vi a0]) (k2 := 138) rfl rfl (Nat.le_of_ble_eq_true rfl)
theorem e_106_54 {z : Int} : Ev X 106 54 ls [vi z] h Q ↔ Q (some (vi z)) h := R_ir rfl
theorem e_106_55 : Ev X 106 55 ls st h Q ↔ onR (gl ls 0) (fun z => Ev X 106 56 ls (vr z :: st) h Q) := R_al rfl (Or.inl rfl)
theorem e_106_56 : Ev X 106 56 ls st h Q ↔ Ev X 106 57 ls (vi 0 :: st) h Q := R_kc rfl (Or.inl ⟨Or.inl rfl, by decide⟩)
theorem e_106_57 {rest : List xV} {a0 : Int} {o : Nat} : Ev X 106 57 ls ((vi a0) :: vr o :: rest) h Q ↔ ((X.1 o = 11 ∧ wd rest ≤ 8) ∧ Cl X 139 [vr o, vi a0] h (fun r h2 => Ev X 106 58 ls (r.toList ++ rest) h2 Q)) := R_cv (x := o) (as := [vi a0]) (k2 := 139) rfl rfl (Nat.le_of_ble_eq_true rfl)
theorem e_106_58 : Ev X 106 58 ls st h Q ↔ onR (gl ls 0) (fun z => Ev X 106 59 ls (vr z :: st) h Q) := R_al rfl (Or.inl rfl)
theorem e_106_59 {x : Nat} : Ev X 106 59 ls (vr x :: st) h Q ↔ (X.1 x = 11 ∧ Ev X 106 60 ls (vr (X.2.2.1 x 5) :: st) h Q) := R_gr rfl
theorem e_106_60 {x : Nat} : Ev X 106 60 ls (vr x :: st) h Q ↔ (X.1 x = 9 ∧ Ev X 106 61 ls (vr (X.2.2.1 x 2) :: st) h Q) := R_gr rfl
theorem e_106_61 : Ev X 106 61 ls st h Q ↔ onI (gl ls 1) (fun z => Ev X 106 62 ls (vi z :: st) h Q) := R_il rfl (Or.inl rfl)
theorem e_106_62 : Ev X 106 62 ls st h Q ↔ onI (gl ls 2) (fun z => Ev X 106 63 ls (vi z :: st) h Q) := R_il rfl (Or.inl rfl)
theorem e_106_63 : Ev X 106 63 ls st h Q ↔ onI (gl ls 6) (fun z => Ev X 106 64 ls (vi z :: st) h Q) := R_il rfl (Or.inr rfl)
theorem e_106_64 : Ev X 106 64 ls st h Q ↔ onI (gl ls 7) (fun z => Ev X 106 65 ls (vi z :: st) h Q) := R_il rfl (Or.inr rfl)
theorem e_106_65 {rest : List xV} {a0 : Int} {a1 : Int} {a2 : Int} {a3 : Int} {o : Nat} : Ev X 106 65 ls ((vi a3) :: (vi a2) :: (vi a1) :: (vi a0) :: vr o :: rest) h Q ↔ ((X.1 o = 2 ∧ wd rest ≤ 8) ∧ Cl X 15 [vr o, vi a0, vi a1, vi a2, vi a3] h (fun r h2 => Ev X 106 66 ls (r.toList ++ rest) h2 Q)) := R_cv (x := o) (as := [vi a0, vi a1, vi a2, vi a3]) (k2 := 15) rfl rfl (Nat.le_of_ble_eq_true rfl)
theorem e_106_66 : Ev X 106 66 ls st h Q ↔ onR (gl ls 0) (fun z => Ev X 106 67 ls (vr z :: st) h Q) := R_al rfl (Or.inl rfl)
theorem e_106_67 {x : Nat} : Ev X 106 67 ls (vr x :: st) h Q ↔ (X.1 x = 11 ∧ Ev X 106 68 ls (vr (X.2.2.1 x 5) :: st) h Q) := R_gr rfl
theorem e_106_68 {rest : List xV}  {o : Nat} : Ev X 106 68 ls (vr o :: rest) h Q ↔ ((X.1 o = 9 ∧ wd rest ≤ 8) ∧ Cl X 84 [vr o] h (fun r h2 => Ev X 106 69 ls (r.toList ++ rest) h2 Q)) := R_cv (x := o) (as := []) (k2 := 84) rfl rfl (Nat.le_of_ble_eq_true rfl)
theorem e_106_69 : Ev X 106 69 ls st h Q ↔ onR (gl ls 0) (fun z => Ev X 106 70 ls (vr z :: st) h Q) := R_al rfl (Or.inl rfl)
theorem e_106_70 {x : Nat} : Ev X 106 70 ls (vr x :: st) h Q ↔ (X.1 x = 11 ∧ Ev X 106 71 ls (vr (X.2.2.1 x 5) :: st) h Q) := R_gr rfl
theorem e_106_71 {x : Nat} : Ev X 106 71 ls (vr x :: st) h Q ↔ (X.1 x = 9 ∧ Ev X 106 72 ls (vr (X.2.2.1 x 2) :: st) h Q) := R_gr rfl
theorem e_106_72 {x : Nat} : Ev X 106 72 ls (vr x :: st) h Q ↔ (X.1 x = 2 ∧ Ev X 106 73 ls (vi (h.2 x 0) :: st) h Q) := R_gi rfl
theorem e_106_73 : Ev X 106 73 ls st h Q ↔ Ev X 106 74 ls (vi 1 :: st) h Q := R_kc rfl (Or.inl ⟨Or.inl rfl, by decide⟩)
theorem e_106_74 {x y : Int} : Ev X 106 74 ls (vi y :: vi x :: st) h Q ↔ ((inR (x - y)) ∧ Ev X 106 75 ls (vi (x - y) :: st) h Q) := R_sub rfl
theorem e_106_75 {z : Int} : Ev X 106 75 ls [vi z] h Q ↔ Q (some (vi z)) h := R_ir rfl
-- 107: CellRows.fence(IIII)I
theorem e_107_0 : Ev X 107 0 ls st h Q ↔ onR (gl ls 0) (fun z => Ev X 107 1 ls (vr z :: st) h Q) := R_al rfl (Or.inl rfl)
theorem e_107_1 : Ev X 107 1 ls st h Q ↔ onI (gl ls 1) (fun z => Ev X 107 2 ls (vi z :: st) h Q) := R_il rfl (Or.inl rfl)
theorem e_107_2 : Ev X 107 2 ls st h Q ↔ onI (gl ls 2) (fun z => Ev X 107 3 ls (vi z :: st) h Q) := R_il rfl (Or.inl rfl)
theorem e_107_3 : Ev X 107 3 ls st h Q ↔ onI (gl ls 3) (fun z => Ev X 107 4 ls (vi z :: st) h Q) := R_il rfl (Or.inl rfl)
theorem e_107_4 : Ev X 107 4 ls st h Q ↔ onI (gl ls 4) (fun z => Ev X 107 5 ls (vi z :: st) h Q) := R_il rfl (Or.inr rfl)
theorem e_107_5 {rest : List xV} {a0 : Int} {a1 : Int} {a2 : Int} {a3 : Int} {o : Nat} : Ev X 107 5 ls ((vi a3) :: (vi a2) :: (vi a1) :: (vi a0) :: vr o :: rest) h Q ↔ ((X.1 o = 11 ∧ wd rest ≤ 8) ∧ Cl X 141 [vr o, vi a0, vi a1, vi a2, vi a3] h (fun r h2 => Ev X 107 6 ls (r.toList ++ rest) h2 Q)) := R_cv (x := o) (as := [vi a0, vi a1, vi a2, vi a3]) (k2 := 141) rfl rfl (Nat.le_of_ble_eq_true rfl)
theorem e_107_6 {x : Int} : Ev X 107 6 ls (vi x :: st) h Q ↔ (if ¬ x = 0 then Ev X 107 11 ls st h Q else Ev X 107 7 ls st h Q) := R_ifne rfl
theorem e_107_7 : Ev X 107 7 ls st h Q ↔ onR (gl ls 0) (fun z => Ev X 107 8 ls (vr z :: st) h Q) := R_al rfl (Or.inl rfl)
theorem e_107_8 : Ev X 107 8 ls st h Q ↔ Ev X 107 9 ls (vi (-1) :: st) h Q := R_kc rfl (Or.inl ⟨Or.inl rfl, by decide⟩)
theorem e_107_9 {rest : List xV} {a0 : Int} {o : Nat} : Ev X 107 9 ls ((vi a0) :: vr o :: rest) h Q ↔ ((X.1 o = 11 ∧ wd rest ≤ 8) ∧ Cl X 138 [vr o, vi a0] h (fun r h2 => Ev X 107 10 ls (r.toList ++ rest) h2 Q)) := R_cv (x := o) (as := [vi a0]) (k2 := 138) rfl rfl (Nat.le_of_ble_eq_true rfl)
theorem e_107_10 {z : Int} : Ev X 107 10 ls [vi z] h Q ↔ Q (some (vi z)) h := R_ir rfl
theorem e_107_11 : Ev X 107 11 ls st h Q ↔ onR (gl ls 0) (fun z => Ev X 107 12 ls (vr z :: st) h Q) := R_al rfl (Or.inl rfl)
theorem e_107_12 {x : Nat} : Ev X 107 12 ls (vr x :: st) h Q ↔ (X.1 x = 11 ∧ Ev X 107 13 ls (vr (X.2.2.1 x 5) :: st) h Q) := R_gr rfl
theorem e_107_13 {x : Nat} : Ev X 107 13 ls (vr x :: st) h Q ↔ (X.1 x = 9 ∧ Ev X 107 14 ls (vr (X.2.2.1 x 3) :: st) h Q) := R_gr rfl
theorem e_107_14 : Ev X 107 14 ls st h Q ↔ onI (gl ls 1) (fun z => Ev X 107 15 ls (vi z :: st) h Q) := R_il rfl (Or.inl rfl)
theorem e_107_15 : Ev X 107 15 ls st h Q ↔ onI (gl ls 2) (fun z => Ev X 107 16 ls (vi z :: st) h Q) := R_il rfl (Or.inl rfl)
theorem e_107_16 : Ev X 107 16 ls st h Q ↔ onI (gl ls 3) (fun z => Ev X 107 17 ls (vi z :: st) h Q) := R_il rfl (Or.inl rfl)
theorem e_107_17 : Ev X 107 17 ls st h Q ↔ onI (gl ls 4) (fun z => Ev X 107 18 ls (vi z :: st) h Q) := R_il rfl (Or.inr rfl)
theorem e_107_18 {rest : List xV} {a0 : Int} {a1 : Int} {a2 : Int} {a3 : Int} {o : Nat} : Ev X 107 18 ls ((vi a3) :: (vi a2) :: (vi a1) :: (vi a0) :: vr o :: rest) h Q ↔ ((X.1 o = 2 ∧ wd rest ≤ 8) ∧ Cl X 16 [vr o, vi a0, vi a1, vi a2, vi a3] h (fun r h2 => Ev X 107 19 ls (r.toList ++ rest) h2 Q)) := R_cv (x := o) (as := [vi a0, vi a1, vi a2, vi a3]) (k2 := 16) rfl rfl (Nat.le_of_ble_eq_true rfl)
theorem e_107_19 {x : Int} : Ev X 107 19 ls (vi x :: st) h Q ↔ (if ¬ x = 0 then Ev X 107 29 ls st h Q else Ev X 107 20 ls st h Q) := R_ifne rfl
theorem e_107_20 : Ev X 107 20 ls st h Q ↔ onR (gl ls 0) (fun z => Ev X 107 21 ls (vr z :: st) h Q) := R_al rfl (Or.inl rfl)
theorem e_107_21 {x : Nat} : Ev X 107 21 ls (vr x :: st) h Q ↔ (X.1 x = 11 ∧ Ev X 107 22 ls (vr (X.2.2.1 x 5) :: st) h Q) := R_gr rfl
theorem e_107_22 {x : Nat} : Ev X 107 22 ls (vr x :: st) h Q ↔ (X.1 x = 9 ∧ Ev X 107 23 ls (vr (X.2.2.1 x 4) :: st) h Q) := R_gr rfl
theorem e_107_23 : Ev X 107 23 ls st h Q ↔ onI (gl ls 1) (fun z => Ev X 107 24 ls (vi z :: st) h Q) := R_il rfl (Or.inl rfl)
theorem e_107_24 : Ev X 107 24 ls st h Q ↔ onI (gl ls 2) (fun z => Ev X 107 25 ls (vi z :: st) h Q) := R_il rfl (Or.inl rfl)
theorem e_107_25 : Ev X 107 25 ls st h Q ↔ onI (gl ls 3) (fun z => Ev X 107 26 ls (vi z :: st) h Q) := R_il rfl (Or.inl rfl)
theorem e_107_26 : Ev X 107 26 ls st h Q ↔ onI (gl ls 4) (fun z => Ev X 107 27 ls (vi z :: st) h Q) := R_il rfl (Or.inr rfl)
theorem e_107_27 {rest : List xV} {a0 : Int} {a1 : Int} {a2 : Int} {a3 : Int} {o : Nat} : Ev X 107 27 ls ((vi a3) :: (vi a2) :: (vi a1) :: (vi a0) :: vr o :: rest) h Q ↔ ((X.1 o = 3 ∧ wd rest ≤ 8) ∧ Cl X 26 [vr o, vi a0, vi a1, vi a2, vi a3] h (fun r h2 => Ev X 107 28 ls (r.toList ++ rest) h2 Q)) := R_cv (x := o) (as := [vi a0, vi a1, vi a2, vi a3]) (k2 := 26) rfl rfl (Nat.le_of_ble_eq_true rfl)
theorem e_107_28 {x : Int} : Ev X 107 28 ls (vi x :: st) h Q ↔ (if x = 0 then Ev X 107 33 ls st h Q else Ev X 107 29 ls st h Q) := R_ifeq rfl
theorem e_107_29 : Ev X 107 29 ls st h Q ↔ onR (gl ls 0) (fun z => Ev X 107 30 ls (vr z :: st) h Q) := R_al rfl (Or.inl rfl)
theorem e_107_30 : Ev X 107 30 ls st h Q ↔ Ev X 107 31 ls (vi (-4) :: st) h Q := R_kc rfl (Or.inr (Or.inl ⟨rfl, by decide⟩))
theorem e_107_31 {rest : List xV} {a0 : Int} {o : Nat} : Ev X 107 31 ls ((vi a0) :: vr o :: rest) h Q ↔ ((X.1 o = 11 ∧ wd rest ≤ 8) ∧ Cl X 138 [vr o, vi a0] h (fun r h2 => Ev X 107 32 ls (r.toList ++ rest) h2 Q)) := R_cv (x := o) (as := [vi a0]) (k2 := 138) rfl rfl (Nat.le_of_ble_eq_true rfl)
theorem e_107_32 {z : Int} : Ev X 107 32 ls [vi z] h Q ↔ Q (some (vi z)) h := R_ir rfl
theorem e_107_33 : Ev X 107 33 ls st h Q ↔ onR (gl ls 0) (fun z => Ev X 107 34 ls (vr z :: st) h Q) := R_al rfl (Or.inl rfl)
theorem e_107_34 {x : Nat} : Ev X 107 34 ls (vr x :: st) h Q ↔ (X.1 x = 11 ∧ Ev X 107 35 ls (vr (X.2.2.1 x 5) :: st) h Q) := R_gr rfl
theorem e_107_35 {x : Nat} : Ev X 107 35 ls (vr x :: st) h Q ↔ (X.1 x = 9 ∧ Ev X 107 36 ls (vr (X.2.2.1 x 3) :: st) h Q) := R_gr rfl
theorem e_107_36 {x : Nat} : Ev X 107 36 ls (vr x :: st) h Q ↔ (X.1 x = 2 ∧ Ev X 107 37 ls (vi (h.2 x 0) :: st) h Q) := R_gi rfl
theorem e_107_37 : Ev X 107 37 ls st h Q ↔ Ev X 107 38 ls (vi 3 :: st) h Q := R_kc rfl (Or.inl ⟨Or.inl rfl, by decide⟩)
theorem e_107_38 {x y : Int} : Ev X 107 38 ls (vi y :: vi x :: st) h Q ↔ (if x < y then Ev X 107 43 ls st h Q else Ev X 107 39 ls st h Q) := R_iclt rfl
theorem e_107_39 : Ev X 107 39 ls st h Q ↔ onR (gl ls 0) (fun z => Ev X 107 40 ls (vr z :: st) h Q) := R_al rfl (Or.inl rfl)
theorem e_107_40 : Ev X 107 40 ls st h Q ↔ Ev X 107 41 ls (vi (-5) :: st) h Q := R_kc rfl (Or.inr (Or.inl ⟨rfl, by decide⟩))
theorem e_107_41 {rest : List xV} {a0 : Int} {o : Nat} : Ev X 107 41 ls ((vi a0) :: vr o :: rest) h Q ↔ ((X.1 o = 11 ∧ wd rest ≤ 8) ∧ Cl X 138 [vr o, vi a0] h (fun r h2 => Ev X 107 42 ls (r.toList ++ rest) h2 Q)) := R_cv (x := o) (as := [vi a0]) (k2 := 138) rfl rfl (Nat.le_of_ble_eq_true rfl)
theorem e_107_42 {z : Int} : Ev X 107 42 ls [vi z] h Q ↔ Q (some (vi z)) h := R_ir rfl
theorem e_107_43 : Ev X 107 43 ls st h Q ↔ onR (gl ls 0) (fun z => Ev X 107 44 ls (vr z :: st) h Q) := R_al rfl (Or.inl rfl)
theorem e_107_44 : Ev X 107 44 ls st h Q ↔ Ev X 107 45 ls (vi 1 :: st) h Q := R_kc rfl (Or.inl ⟨Or.inl rfl, by decide⟩)
theorem e_107_45 {rest : List xV} {a0 : Int} {o : Nat} : Ev X 107 45 ls ((vi a0) :: vr o :: rest) h Q ↔ ((X.1 o = 11 ∧ wd rest ≤ 8) ∧ Cl X 139 [vr o, vi a0] h (fun r h2 => Ev X 107 46 ls (r.toList ++ rest) h2 Q)) := R_cv (x := o) (as := [vi a0]) (k2 := 139) rfl rfl (Nat.le_of_ble_eq_true rfl)
theorem e_107_46 : Ev X 107 46 ls st h Q ↔ onR (gl ls 0) (fun z => Ev X 107 47 ls (vr z :: st) h Q) := R_al rfl (Or.inl rfl)
theorem e_107_47 {x : Nat} : Ev X 107 47 ls (vr x :: st) h Q ↔ (X.1 x = 11 ∧ Ev X 107 48 ls (vr (X.2.2.1 x 5) :: st) h Q) := R_gr rfl
theorem e_107_48 {x : Nat} : Ev X 107 48 ls (vr x :: st) h Q ↔ (X.1 x = 9 ∧ Ev X 107 49 ls (vr (X.2.2.1 x 3) :: st) h Q) := R_gr rfl
theorem e_107_49 : Ev X 107 49 ls st h Q ↔ onI (gl ls 1) (fun z => Ev X 107 50 ls (vi z :: st) h Q) := R_il rfl (Or.inl rfl)
theorem e_107_50 : Ev X 107 50 ls st h Q ↔ onI (gl ls 2) (fun z => Ev X 107 51 ls (vi z :: st) h Q) := R_il rfl (Or.inl rfl)
theorem e_107_51 : Ev X 107 51 ls st h Q ↔ onI (gl ls 3) (fun z => Ev X 107 52 ls (vi z :: st) h Q) := R_il rfl (Or.inl rfl)
theorem e_107_52 : Ev X 107 52 ls st h Q ↔ onI (gl ls 4) (fun z => Ev X 107 53 ls (vi z :: st) h Q) := R_il rfl (Or.inr rfl)
theorem e_107_53 {rest : List xV} {a0 : Int} {a1 : Int} {a2 : Int} {a3 : Int} {o : Nat} : Ev X 107 53 ls ((vi a3) :: (vi a2) :: (vi a1) :: (vi a0) :: vr o :: rest) h Q ↔ ((X.1 o = 2 ∧ wd rest ≤ 8) ∧ Cl X 15 [vr o, vi a0, vi a1, vi a2, vi a3] h (fun r h2 => Ev X 107 54 ls (r.toList ++ rest) h2 Q)) := R_cv (x := o) (as := [vi a0, vi a1, vi a2, vi a3]) (k2 := 15) rfl rfl (Nat.le_of_ble_eq_true rfl)
theorem e_107_54 : Ev X 107 54 ls st h Q ↔ onR (gl ls 0) (fun z => Ev X 107 55 ls (vr z :: st) h Q) := R_al rfl (Or.inl rfl)
theorem e_107_55 {x : Nat} : Ev X 107 55 ls (vr x :: st) h Q ↔ (X.1 x = 11 ∧ Ev X 107 56 ls (vr (X.2.2.1 x 5) :: st) h Q) := R_gr rfl
theorem e_107_56 {rest : List xV}  {o : Nat} : Ev X 107 56 ls (vr o :: rest) h Q ↔ ((X.1 o = 9 ∧ wd rest ≤ 8) ∧ Cl X 84 [vr o] h (fun r h2 => Ev X 107 57 ls (r.toList ++ rest) h2 Q)) := R_cv (x := o) (as := []) (k2 := 84) rfl rfl (Nat.le_of_ble_eq_true rfl)
theorem e_107_57 : Ev X 107 57 ls st h Q ↔ onR (gl ls 0) (fun z => Ev X 107 58 ls (vr z :: st) h Q) := R_al rfl (Or.inl rfl)
theorem e_107_58 {x : Nat} : Ev X 107 58 ls (vr x :: st) h Q ↔ (X.1 x = 11 ∧ Ev X 107 59 ls (vr (X.2.2.1 x 5) :: st) h Q) := R_gr rfl
theorem e_107_59 {x : Nat} : Ev X 107 59 ls (vr x :: st) h Q ↔ (X.1 x = 9 ∧ Ev X 107 60 ls (vr (X.2.2.1 x 3) :: st) h Q) := R_gr rfl
theorem e_107_60 {x : Nat} : Ev X 107 60 ls (vr x :: st) h Q ↔ (X.1 x = 2 ∧ Ev X 107 61 ls (vi (h.2 x 0) :: st) h Q) := R_gi rfl
theorem e_107_61 : Ev X 107 61 ls st h Q ↔ Ev X 107 62 ls (vi 1 :: st) h Q := R_kc rfl (Or.inl ⟨Or.inl rfl, by decide⟩)
theorem e_107_62 {x y : Int} : Ev X 107 62 ls (vi y :: vi x :: st) h Q ↔ ((inR (x - y)) ∧ Ev X 107 63 ls (vi (x - y) :: st) h Q) := R_sub rfl
theorem e_107_63 {z : Int} : Ev X 107 63 ls [vi z] h Q ↔ Q (some (vi z)) h := R_ir rfl
-- 108: CellRows.cell(II)I
theorem e_108_0 : Ev X 108 0 ls st h Q ↔ onI (gl ls 1) (fun z => Ev X 108 1 ls (vi z :: st) h Q) := R_il rfl (Or.inl rfl)
theorem e_108_1 : Ev X 108 1 ls st h Q ↔ Ev X 108 2 ls (vi 1 :: st) h Q := R_kc rfl (Or.inl ⟨Or.inl rfl, by decide⟩)
theorem e_108_2 {x y : Int} : Ev X 108 2 ls (vi y :: vi x :: st) h Q ↔ (if x < y then Ev X 108 6 ls st h Q else Ev X 108 3 ls st h Q) := R_iclt rfl
theorem e_108_3 : Ev X 108 3 ls st h Q ↔ onI (gl ls 1) (fun z => Ev X 108 4 ls (vi z :: st) h Q) := R_il rfl (Or.inl rfl)
theorem e_108_4 : Ev X 108 4 ls st h Q ↔ Ev X 108 5 ls (vi 6 :: st) h Q := R_kc rfl (Or.inr (Or.inl ⟨rfl, by decide⟩))
theorem e_108_5 {x y : Int} : Ev X 108 5 ls (vi y :: vi x :: st) h Q ↔ (if x ≤ y then Ev X 108 10 ls st h Q else Ev X 108 6 ls st h Q) := R_icle rfl
theorem e_108_6 : Ev X 108 6 ls st h Q ↔ onR (gl ls 0) (fun z => Ev X 108 7 ls (vr z :: st) h Q) := R_al rfl (Or.inl rfl)
theorem e_108_7 : Ev X 108 7 ls st h Q ↔ Ev X 108 8 ls (vi (-1) :: st) h Q := R_kc rfl (Or.inl ⟨Or.inl rfl, by decide⟩)
theorem e_108_8 {rest : List xV} {a0 : Int} {o : Nat} : Ev X 108 8 ls ((vi a0) :: vr o :: rest) h Q ↔ ((X.1 o = 11 ∧ wd rest ≤ 8) ∧ Cl X 138 [vr o, vi a0] h (fun r h2 => Ev X 108 9 ls (r.toList ++ rest) h2 Q)) := R_cv (x := o) (as := [vi a0]) (k2 := 138) rfl rfl (Nat.le_of_ble_eq_true rfl)
theorem e_108_9 {z : Int} : Ev X 108 9 ls [vi z] h Q ↔ Q (some (vi z)) h := R_ir rfl
theorem e_108_10 : Ev X 108 10 ls st h Q ↔ onR (gl ls 0) (fun z => Ev X 108 11 ls (vr z :: st) h Q) := R_al rfl (Or.inl rfl)
theorem e_108_11 {x : Nat} : Ev X 108 11 ls (vr x :: st) h Q ↔ (X.1 x = 11 ∧ Ev X 108 12 ls (vr (X.2.2.1 x 5) :: st) h Q) := R_gr rfl
theorem e_108_12 : Ev X 108 12 ls st h Q ↔ onI (gl ls 2) (fun z => Ev X 108 13 ls (vi z :: st) h Q) := R_il rfl (Or.inl rfl)
theorem e_108_13 {rest : List xV} {a0 : Int} {o : Nat} : Ev X 108 13 ls ((vi a0) :: vr o :: rest) h Q ↔ ((X.1 o = 9 ∧ wd rest ≤ 8) ∧ Cl X 78 [vr o, vi a0] h (fun r h2 => Ev X 108 14 ls (r.toList ++ rest) h2 Q)) := R_cv (x := o) (as := [vi a0]) (k2 := 78) rfl rfl (Nat.le_of_ble_eq_true rfl)
theorem e_108_14 {x : Int} : Ev X 108 14 ls (vi x :: st) h Q ↔ (if ¬ x = 0 then Ev X 108 19 ls st h Q else Ev X 108 15 ls st h Q) := R_ifne rfl
theorem e_108_15 : Ev X 108 15 ls st h Q ↔ onR (gl ls 0) (fun z => Ev X 108 16 ls (vr z :: st) h Q) := R_al rfl (Or.inl rfl)
theorem e_108_16 : Ev X 108 16 ls st h Q ↔ Ev X 108 17 ls (vi (-2) :: st) h Q := R_kc rfl (Or.inr (Or.inl ⟨rfl, by decide⟩))
theorem e_108_17 {rest : List xV} {a0 : Int} {o : Nat} : Ev X 108 17 ls ((vi a0) :: vr o :: rest) h Q ↔ ((X.1 o = 11 ∧ wd rest ≤ 8) ∧ Cl X 138 [vr o, vi a0] h (fun r h2 => Ev X 108 18 ls (r.toList ++ rest) h2 Q)) := R_cv (x := o) (as := [vi a0]) (k2 := 138) rfl rfl (Nat.le_of_ble_eq_true rfl)
theorem e_108_18 {z : Int} : Ev X 108 18 ls [vi z] h Q ↔ Q (some (vi z)) h := R_ir rfl
theorem e_108_19 : Ev X 108 19 ls st h Q ↔ onR (gl ls 0) (fun z => Ev X 108 20 ls (vr z :: st) h Q) := R_al rfl (Or.inl rfl)
theorem e_108_20 {x : Nat} : Ev X 108 20 ls (vr x :: st) h Q ↔ (X.1 x = 11 ∧ Ev X 108 21 ls (vr (X.2.2.1 x 5) :: st) h Q) := R_gr rfl
theorem e_108_21 {x : Nat} : Ev X 108 21 ls (vr x :: st) h Q ↔ (X.1 x = 9 ∧ Ev X 108 22 ls (vr (X.2.2.1 x 4) :: st) h Q) := R_gr rfl
theorem e_108_22 {x : Nat} : Ev X 108 22 ls (vr x :: st) h Q ↔ (X.1 x = 3 ∧ Ev X 108 23 ls (vi (h.2 x 0) :: st) h Q) := R_gi rfl
theorem e_108_23 : Ev X 108 23 ls st h Q ↔ Ev X 108 24 ls (vi 20 :: st) h Q := R_kc rfl (Or.inr (Or.inl ⟨rfl, by decide⟩))
theorem e_108_24 {x y : Int} : Ev X 108 24 ls (vi y :: vi x :: st) h Q ↔ (if x < y then Ev X 108 29 ls st h Q else Ev X 108 25 ls st h Q) := R_iclt rfl
theorem e_108_25 : Ev X 108 25 ls st h Q ↔ onR (gl ls 0) (fun z => Ev X 108 26 ls (vr z :: st) h Q) := R_al rfl (Or.inl rfl)
theorem e_108_26 : Ev X 108 26 ls st h Q ↔ Ev X 108 27 ls (vi (-5) :: st) h Q := R_kc rfl (Or.inr (Or.inl ⟨rfl, by decide⟩))
theorem e_108_27 {rest : List xV} {a0 : Int} {o : Nat} : Ev X 108 27 ls ((vi a0) :: vr o :: rest) h Q ↔ ((X.1 o = 11 ∧ wd rest ≤ 8) ∧ Cl X 138 [vr o, vi a0] h (fun r h2 => Ev X 108 28 ls (r.toList ++ rest) h2 Q)) := R_cv (x := o) (as := [vi a0]) (k2 := 138) rfl rfl (Nat.le_of_ble_eq_true rfl)
theorem e_108_28 {z : Int} : Ev X 108 28 ls [vi z] h Q ↔ Q (some (vi z)) h := R_ir rfl
theorem e_108_29 : Ev X 108 29 ls st h Q ↔ onR (gl ls 0) (fun z => Ev X 108 30 ls (vr z :: st) h Q) := R_al rfl (Or.inl rfl)
theorem e_108_30 : Ev X 108 30 ls st h Q ↔ Ev X 108 31 ls (vi 2 :: st) h Q := R_kc rfl (Or.inl ⟨Or.inl rfl, by decide⟩)
theorem e_108_31 {rest : List xV} {a0 : Int} {o : Nat} : Ev X 108 31 ls ((vi a0) :: vr o :: rest) h Q ↔ ((X.1 o = 11 ∧ wd rest ≤ 8) ∧ Cl X 139 [vr o, vi a0] h (fun r h2 => Ev X 108 32 ls (r.toList ++ rest) h2 Q)) := R_cv (x := o) (as := [vi a0]) (k2 := 139) rfl rfl (Nat.le_of_ble_eq_true rfl)
theorem e_108_32 : Ev X 108 32 ls st h Q ↔ onR (gl ls 0) (fun z => Ev X 108 33 ls (vr z :: st) h Q) := R_al rfl (Or.inl rfl)
theorem e_108_33 {x : Nat} : Ev X 108 33 ls (vr x :: st) h Q ↔ (X.1 x = 11 ∧ Ev X 108 34 ls (vr (X.2.2.1 x 5) :: st) h Q) := R_gr rfl
theorem e_108_34 {x : Nat} : Ev X 108 34 ls (vr x :: st) h Q ↔ (X.1 x = 9 ∧ Ev X 108 35 ls (vr (X.2.2.1 x 4) :: st) h Q) := R_gr rfl
theorem e_108_35 : Ev X 108 35 ls st h Q ↔ onI (gl ls 1) (fun z => Ev X 108 36 ls (vi z :: st) h Q) := R_il rfl (Or.inl rfl)
theorem e_108_36 : Ev X 108 36 ls st h Q ↔ onI (gl ls 2) (fun z => Ev X 108 37 ls (vi z :: st) h Q) := R_il rfl (Or.inl rfl)
theorem e_108_37 : Ev X 108 37 ls st h Q ↔ onR (gl ls 0) (fun z => Ev X 108 38 ls (vr z :: st) h Q) := R_al rfl (Or.inl rfl)
theorem e_108_38 {x : Nat} : Ev X 108 38 ls (vr x :: st) h Q ↔ (X.1 x = 11 ∧ Ev X 108 39 ls (vr (X.2.2.1 x 5) :: st) h Q) := R_gr rfl
theorem e_108_39 : Ev X 108 39 ls st h Q ↔ onI (gl ls 1) (fun z => Ev X 108 40 ls (vi z :: st) h Q) := R_il rfl (Or.inl rfl)
theorem e_108_40 {rest : List xV} {a0 : Int} {o : Nat} : Ev X 108 40 ls ((vi a0) :: vr o :: rest) h Q ↔ ((X.1 o = 9 ∧ wd rest ≤ 8) ∧ Cl X 75 [vr o, vi a0] h (fun r h2 => Ev X 108 41 ls (r.toList ++ rest) h2 Q)) := R_cv (x := o) (as := [vi a0]) (k2 := 75) rfl rfl (Nat.le_of_ble_eq_true rfl)
theorem e_108_41 : Ev X 108 41 ls st h Q ↔ Ev X 108 42 ls (vi 2 :: st) h Q := R_kc rfl (Or.inl ⟨Or.inl rfl, by decide⟩)
theorem e_108_42 {x y : Int} : Ev X 108 42 ls (vi y :: vi x :: st) h Q ↔ ((y ≠ 0 ∧ inR (x.tdiv y)) ∧ Ev X 108 43 ls (vi (x.tdiv y) :: st) h Q) := R_div rfl
theorem e_108_43 : Ev X 108 43 ls st h Q ↔ onR (gl ls 0) (fun z => Ev X 108 44 ls (vr z :: st) h Q) := R_al rfl (Or.inl rfl)
theorem e_108_44 {x : Nat} : Ev X 108 44 ls (vr x :: st) h Q ↔ (X.1 x = 11 ∧ Ev X 108 45 ls (vr (X.2.2.1 x 5) :: st) h Q) := R_gr rfl
theorem e_108_45 {rest : List xV}  {o : Nat} : Ev X 108 45 ls (vr o :: rest) h Q ↔ ((X.1 o = 9 ∧ wd rest ≤ 8) ∧ Cl X 76 [vr o] h (fun r h2 => Ev X 108 46 ls (r.toList ++ rest) h2 Q)) := R_cv (x := o) (as := []) (k2 := 76) rfl rfl (Nat.le_of_ble_eq_true rfl)
theorem e_108_46 : Ev X 108 46 ls st h Q ↔ Ev X 108 47 ls (vi 2 :: st) h Q := R_kc rfl (Or.inl ⟨Or.inl rfl, by decide⟩)
theorem e_108_47 {x y : Int} : Ev X 108 47 ls (vi y :: vi x :: st) h Q ↔ ((y ≠ 0 ∧ inR (x.tdiv y)) ∧ Ev X 108 48 ls (vi (x.tdiv y) :: st) h Q) := R_div rfl
theorem e_108_48 {rest : List xV} {a0 : Int} {a1 : Int} {a2 : Int} {a3 : Int} {o : Nat} : Ev X 108 48 ls ((vi a3) :: (vi a2) :: (vi a1) :: (vi a0) :: vr o :: rest) h Q ↔ ((X.1 o = 3 ∧ wd rest ≤ 8) ∧ Cl X 19 [vr o, vi a0, vi a1, vi a2, vi a3] h (fun r h2 => Ev X 108 49 ls (r.toList ++ rest) h2 Q)) := R_cv (x := o) (as := [vi a0, vi a1, vi a2, vi a3]) (k2 := 19) rfl rfl (Nat.le_of_ble_eq_true rfl)
theorem e_108_49 : Ev X 108 49 ls st h Q ↔ onR (gl ls 0) (fun z => Ev X 108 50 ls (vr z :: st) h Q) := R_al rfl (Or.inl rfl)
theorem e_108_50 {x : Nat} : Ev X 108 50 ls (vr x :: st) h Q ↔ (X.1 x = 11 ∧ Ev X 108 51 ls (vr (X.2.2.1 x 5) :: st) h Q) := R_gr rfl
theorem e_108_51 {x : Nat} : Ev X 108 51 ls (vr x :: st) h Q ↔ (X.1 x = 9 ∧ Ev X 108 52 ls (vr (X.2.2.1 x 4) :: st) h Q) := R_gr rfl
theorem e_108_52 {x : Nat} : Ev X 108 52 ls (vr x :: st) h Q ↔ (X.1 x = 3 ∧ Ev X 108 53 ls (vi (h.2 x 0) :: st) h Q) := R_gi rfl
theorem e_108_53 : Ev X 108 53 ls st h Q ↔ Ev X 108 54 ls (vi 1 :: st) h Q := R_kc rfl (Or.inl ⟨Or.inl rfl, by decide⟩)
theorem e_108_54 {x y : Int} : Ev X 108 54 ls (vi y :: vi x :: st) h Q ↔ ((inR (x - y)) ∧ Ev X 108 55 ls (vi (x - y) :: st) h Q) := R_sub rfl
theorem e_108_55 {z : Int} : Ev X 108 55 ls [vi z] h Q ↔ Q (some (vi z)) h := R_ir rfl
-- 109: CellRows.net(I)I
theorem e_109_0 : Ev X 109 0 ls st h Q ↔ onI (gl ls 1) (fun z => Ev X 109 1 ls (vi z :: st) h Q) := R_il rfl (Or.inl rfl)
theorem e_109_1 : Ev X 109 1 ls st h Q ↔ Ev X 109 2 ls (vi 1 :: st) h Q := R_kc rfl (Or.inl ⟨Or.inl rfl, by decide⟩)
theorem e_109_2 {x y : Int} : Ev X 109 2 ls (vi y :: vi x :: st) h Q ↔ (if x < y then Ev X 109 6 ls st h Q else Ev X 109 3 ls st h Q) := R_iclt rfl
theorem e_109_3 : Ev X 109 3 ls st h Q ↔ onI (gl ls 1) (fun z => Ev X 109 4 ls (vi z :: st) h Q) := R_il rfl (Or.inl rfl)
theorem e_109_4 : Ev X 109 4 ls st h Q ↔ Ev X 109 5 ls (vi 9 :: st) h Q := R_kc rfl (Or.inr (Or.inl ⟨rfl, by decide⟩))
theorem e_109_5 {x y : Int} : Ev X 109 5 ls (vi y :: vi x :: st) h Q ↔ (if x ≤ y then Ev X 109 10 ls st h Q else Ev X 109 6 ls st h Q) := R_icle rfl
theorem e_109_6 : Ev X 109 6 ls st h Q ↔ onR (gl ls 0) (fun z => Ev X 109 7 ls (vr z :: st) h Q) := R_al rfl (Or.inl rfl)
theorem e_109_7 : Ev X 109 7 ls st h Q ↔ Ev X 109 8 ls (vi (-1) :: st) h Q := R_kc rfl (Or.inl ⟨Or.inl rfl, by decide⟩)
theorem e_109_8 {rest : List xV} {a0 : Int} {o : Nat} : Ev X 109 8 ls ((vi a0) :: vr o :: rest) h Q ↔ ((X.1 o = 11 ∧ wd rest ≤ 8) ∧ Cl X 138 [vr o, vi a0] h (fun r h2 => Ev X 109 9 ls (r.toList ++ rest) h2 Q)) := R_cv (x := o) (as := [vi a0]) (k2 := 138) rfl rfl (Nat.le_of_ble_eq_true rfl)
theorem e_109_9 {z : Int} : Ev X 109 9 ls [vi z] h Q ↔ Q (some (vi z)) h := R_ir rfl
theorem e_109_10 : Ev X 109 10 ls st h Q ↔ onR (gl ls 0) (fun z => Ev X 109 11 ls (vr z :: st) h Q) := R_al rfl (Or.inl rfl)
theorem e_109_11 {x : Nat} : Ev X 109 11 ls (vr x :: st) h Q ↔ (X.1 x = 11 ∧ Ev X 109 12 ls (vr (X.2.2.1 x 5) :: st) h Q) := R_gr rfl
theorem e_109_12 {x : Nat} : Ev X 109 12 ls (vr x :: st) h Q ↔ (X.1 x = 9 ∧ Ev X 109 13 ls (vr (X.2.2.1 x 5) :: st) h Q) := R_gr rfl
theorem e_109_13 {x : Nat} : Ev X 109 13 ls (vr x :: st) h Q ↔ (X.1 x = 6 ∧ Ev X 109 14 ls (vi (h.2 x 0) :: st) h Q) := R_gi rfl
theorem e_109_14 : Ev X 109 14 ls st h Q ↔ Ev X 109 15 ls (vi 16 :: st) h Q := R_kc rfl (Or.inr (Or.inl ⟨rfl, by decide⟩))
theorem e_109_15 {x y : Int} : Ev X 109 15 ls (vi y :: vi x :: st) h Q ↔ (if x < y then Ev X 109 20 ls st h Q else Ev X 109 16 ls st h Q) := R_iclt rfl
theorem e_109_16 : Ev X 109 16 ls st h Q ↔ onR (gl ls 0) (fun z => Ev X 109 17 ls (vr z :: st) h Q) := R_al rfl (Or.inl rfl)
theorem e_109_17 : Ev X 109 17 ls st h Q ↔ Ev X 109 18 ls (vi (-5) :: st) h Q := R_kc rfl (Or.inr (Or.inl ⟨rfl, by decide⟩))
theorem e_109_18 {rest : List xV} {a0 : Int} {o : Nat} : Ev X 109 18 ls ((vi a0) :: vr o :: rest) h Q ↔ ((X.1 o = 11 ∧ wd rest ≤ 8) ∧ Cl X 138 [vr o, vi a0] h (fun r h2 => Ev X 109 19 ls (r.toList ++ rest) h2 Q)) := R_cv (x := o) (as := [vi a0]) (k2 := 138) rfl rfl (Nat.le_of_ble_eq_true rfl)
theorem e_109_19 {z : Int} : Ev X 109 19 ls [vi z] h Q ↔ Q (some (vi z)) h := R_ir rfl
theorem e_109_20 : Ev X 109 20 ls st h Q ↔ onR (gl ls 0) (fun z => Ev X 109 21 ls (vr z :: st) h Q) := R_al rfl (Or.inl rfl)
theorem e_109_21 {x : Nat} : Ev X 109 21 ls (vr x :: st) h Q ↔ (X.1 x = 11 ∧ Ev X 109 22 ls (vi (h.2 x 2) :: st) h Q) := R_gi rfl
theorem e_109_22 {x : Int} : Ev X 109 22 ls (vi x :: st) h Q ↔ (stOK ls 2 = true ∧ Ev X 109 23 (ls.set 2 (some (vi x))) st h Q) := R_is rfl (Or.inl rfl)
theorem e_109_23 : Ev X 109 23 ls st h Q ↔ onR (gl ls 0) (fun z => Ev X 109 24 ls (vr z :: st) h Q) := R_al rfl (Or.inl rfl)
theorem e_109_24 : Ev X 109 24 ls st h Q ↔ Ev X 109 25 ls (vi 0 :: st) h Q := R_kc rfl (Or.inl ⟨Or.inl rfl, by decide⟩)
theorem e_109_25 {x : Nat} {v : Int} : Ev X 109 25 ls (vi v :: vr x :: st) h Q ↔ (X.1 x = 11 ∧ Ev X 109 26 ls st (h.1, up2 h.2 x 2 v) Q) := R_pi rfl
theorem e_109_26 : Ev X 109 26 ls st h Q ↔ onR (gl ls 0) (fun z => Ev X 109 27 ls (vr z :: st) h Q) := R_al rfl (Or.inl rfl)
theorem e_109_27 : Ev X 109 27 ls st h Q ↔ onI (gl ls 2) (fun z => Ev X 109 28 ls (vi z :: st) h Q) := R_il rfl (Or.inl rfl)
theorem e_109_28 {rest : List xV} {a0 : Int} {o : Nat} : Ev X 109 28 ls ((vi a0) :: vr o :: rest) h Q ↔ ((X.1 o = 11 ∧ wd rest ≤ 8) ∧ Cl X 142 [vr o, vi a0] h (fun r h2 => Ev X 109 29 ls (r.toList ++ rest) h2 Q)) := R_cv (x := o) (as := [vi a0]) (k2 := 142) rfl rfl (Nat.le_of_ble_eq_true rfl)
theorem e_109_29 {x : Int} : Ev X 109 29 ls (vi x :: st) h Q ↔ (if ¬ x = 0 then Ev X 109 34 ls st h Q else Ev X 109 30 ls st h Q) := R_ifne rfl
theorem e_109_30 : Ev X 109 30 ls st h Q ↔ onR (gl ls 0) (fun z => Ev X 109 31 ls (vr z :: st) h Q) := R_al rfl (Or.inl rfl)
theorem e_109_31 : Ev X 109 31 ls st h Q ↔ Ev X 109 32 ls (vi (-6) :: st) h Q := R_kc rfl (Or.inr (Or.inl ⟨rfl, by decide⟩))
theorem e_109_32 {rest : List xV} {a0 : Int} {o : Nat} : Ev X 109 32 ls ((vi a0) :: vr o :: rest) h Q ↔ ((X.1 o = 11 ∧ wd rest ≤ 8) ∧ Cl X 138 [vr o, vi a0] h (fun r h2 => Ev X 109 33 ls (r.toList ++ rest) h2 Q)) := R_cv (x := o) (as := [vi a0]) (k2 := 138) rfl rfl (Nat.le_of_ble_eq_true rfl)
theorem e_109_33 {z : Int} : Ev X 109 33 ls [vi z] h Q ↔ Q (some (vi z)) h := R_ir rfl
theorem e_109_34 : Ev X 109 34 ls st h Q ↔ onR (gl ls 0) (fun z => Ev X 109 35 ls (vr z :: st) h Q) := R_al rfl (Or.inl rfl)
theorem e_109_35 : Ev X 109 35 ls st h Q ↔ Ev X 109 36 ls (vi 3 :: st) h Q := R_kc rfl (Or.inl ⟨Or.inl rfl, by decide⟩)
theorem e_109_36 {rest : List xV} {a0 : Int} {o : Nat} : Ev X 109 36 ls ((vi a0) :: vr o :: rest) h Q ↔ ((X.1 o = 11 ∧ wd rest ≤ 8) ∧ Cl X 139 [vr o, vi a0] h (fun r h2 => Ev X 109 37 ls (r.toList ++ rest) h2 Q)) := R_cv (x := o) (as := [vi a0]) (k2 := 139) rfl rfl (Nat.le_of_ble_eq_true rfl)
theorem e_109_37 : Ev X 109 37 ls st h Q ↔ onR (gl ls 0) (fun z => Ev X 109 38 ls (vr z :: st) h Q) := R_al rfl (Or.inl rfl)
theorem e_109_38 {x : Nat} : Ev X 109 38 ls (vr x :: st) h Q ↔ (X.1 x = 11 ∧ Ev X 109 39 ls (vr (X.2.2.1 x 5) :: st) h Q) := R_gr rfl
theorem e_109_39 {x : Nat} : Ev X 109 39 ls (vr x :: st) h Q ↔ (X.1 x = 9 ∧ Ev X 109 40 ls (vr (X.2.2.1 x 5) :: st) h Q) := R_gr rfl
theorem e_109_40 : Ev X 109 40 ls st h Q ↔ onI (gl ls 1) (fun z => Ev X 109 41 ls (vi z :: st) h Q) := R_il rfl (Or.inl rfl)
theorem e_109_41 : Ev X 109 41 ls st h Q ↔ onR (gl ls 0) (fun z => Ev X 109 42 ls (vr z :: st) h Q) := R_al rfl (Or.inl rfl)
theorem e_109_42 {x : Nat} : Ev X 109 42 ls (vr x :: st) h Q ↔ (X.1 x = 11 ∧ Ev X 109 43 ls (vr (X.2.2.1 x 1) :: st) h Q) := R_gr rfl
theorem e_109_43 : Ev X 109 43 ls st h Q ↔ onI (gl ls 2) (fun z => Ev X 109 44 ls (vi z :: st) h Q) := R_il rfl (Or.inl rfl)
theorem e_109_44 : Ev X 109 44 ls st h Q ↔ Ev X 109 45 ls (vi 2 :: st) h Q := R_kc rfl (Or.inl ⟨Or.inl rfl, by decide⟩)
theorem e_109_45 {x y : Int} : Ev X 109 45 ls (vi y :: vi x :: st) h Q ↔ ((y ≠ 0 ∧ inR (x.tdiv y)) ∧ Ev X 109 46 ls (vi (x.tdiv y) :: st) h Q) := R_div rfl
theorem e_109_46 {rest : List xV} {a0 : Int} {a1 : Nat} {a2 : Int} {o : Nat} : Ev X 109 46 ls ((vi a2) :: (vr a1) :: (vi a0) :: vr o :: rest) h Q ↔ ((X.1 o = 6 ∧ wd rest ≤ 8) ∧ Cl X 43 [vr o, vi a0, vr a1, vi a2] h (fun r h2 => Ev X 109 47 ls (r.toList ++ rest) h2 Q)) := R_cv (x := o) (as := [vi a0, vr a1, vi a2]) (k2 := 43) rfl rfl (Nat.le_of_ble_eq_true rfl)
theorem e_109_47 : Ev X 109 47 ls st h Q ↔ onR (gl ls 0) (fun z => Ev X 109 48 ls (vr z :: st) h Q) := R_al rfl (Or.inl rfl)
theorem e_109_48 {x : Nat} : Ev X 109 48 ls (vr x :: st) h Q ↔ (X.1 x = 11 ∧ Ev X 109 49 ls (vr (X.2.2.1 x 5) :: st) h Q) := R_gr rfl
theorem e_109_49 {x : Nat} : Ev X 109 49 ls (vr x :: st) h Q ↔ (X.1 x = 9 ∧ Ev X 109 50 ls (vr (X.2.2.1 x 5) :: st) h Q) := R_gr rfl
theorem e_109_50 {x : Nat} : Ev X 109 50 ls (vr x :: st) h Q ↔ (X.1 x = 6 ∧ Ev X 109 51 ls (vi (h.2 x 0) :: st) h Q) := R_gi rfl
theorem e_109_51 : Ev X 109 51 ls st h Q ↔ Ev X 109 52 ls (vi 1 :: st) h Q := R_kc rfl (Or.inl ⟨Or.inl rfl, by decide⟩)
theorem e_109_52 {x y : Int} : Ev X 109 52 ls (vi y :: vi x :: st) h Q ↔ ((inR (x - y)) ∧ Ev X 109 53 ls (vi (x - y) :: st) h Q) := R_sub rfl
theorem e_109_53 {z : Int} : Ev X 109 53 ls [vi z] h Q ↔ Q (some (vi z)) h := R_ir rfl
-- 110: CellRows.drop(I)I
theorem e_110_0 : Ev X 110 0 ls st h Q ↔ onR (gl ls 0) (fun z => Ev X 110 1 ls (vr z :: st) h Q) := R_al rfl (Or.inl rfl)
theorem e_110_1 {x : Nat} : Ev X 110 1 ls (vr x :: st) h Q ↔ (X.1 x = 11 ∧ Ev X 110 2 ls (vr (X.2.2.1 x 5) :: st) h Q) := R_gr rfl
theorem e_110_2 : Ev X 110 2 ls st h Q ↔ onI (gl ls 1) (fun z => Ev X 110 3 ls (vi z :: st) h Q) := R_il rfl (Or.inl rfl)
theorem e_110_3 {rest : List xV} {a0 : Int} {o : Nat} : Ev X 110 3 ls ((vi a0) :: vr o :: rest) h Q ↔ ((X.1 o = 9 ∧ wd rest ≤ 8) ∧ Cl X 80 [vr o, vi a0] h (fun r h2 => Ev X 110 4 ls (r.toList ++ rest) h2 Q)) := R_cv (x := o) (as := [vi a0]) (k2 := 80) rfl rfl (Nat.le_of_ble_eq_true rfl)
theorem e_110_4 {x : Int} : Ev X 110 4 ls (vi x :: st) h Q ↔ (if ¬ x = 0 then Ev X 110 9 ls st h Q else Ev X 110 5 ls st h Q) := R_ifne rfl
theorem e_110_5 : Ev X 110 5 ls st h Q ↔ onR (gl ls 0) (fun z => Ev X 110 6 ls (vr z :: st) h Q) := R_al rfl (Or.inl rfl)
theorem e_110_6 : Ev X 110 6 ls st h Q ↔ Ev X 110 7 ls (vi (-2) :: st) h Q := R_kc rfl (Or.inr (Or.inl ⟨rfl, by decide⟩))
theorem e_110_7 {rest : List xV} {a0 : Int} {o : Nat} : Ev X 110 7 ls ((vi a0) :: vr o :: rest) h Q ↔ ((X.1 o = 11 ∧ wd rest ≤ 8) ∧ Cl X 138 [vr o, vi a0] h (fun r h2 => Ev X 110 8 ls (r.toList ++ rest) h2 Q)) := R_cv (x := o) (as := [vi a0]) (k2 := 138) rfl rfl (Nat.le_of_ble_eq_true rfl)
theorem e_110_8 {z : Int} : Ev X 110 8 ls [vi z] h Q ↔ Q (some (vi z)) h := R_ir rfl
theorem e_110_9 : Ev X 110 9 ls st h Q ↔ onR (gl ls 0) (fun z => Ev X 110 10 ls (vr z :: st) h Q) := R_al rfl (Or.inl rfl)
theorem e_110_10 : Ev X 110 10 ls st h Q ↔ Ev X 110 11 ls (vi 4 :: st) h Q := R_kc rfl (Or.inl ⟨Or.inl rfl, by decide⟩)
theorem e_110_11 {rest : List xV} {a0 : Int} {o : Nat} : Ev X 110 11 ls ((vi a0) :: vr o :: rest) h Q ↔ ((X.1 o = 11 ∧ wd rest ≤ 8) ∧ Cl X 139 [vr o, vi a0] h (fun r h2 => Ev X 110 12 ls (r.toList ++ rest) h2 Q)) := R_cv (x := o) (as := [vi a0]) (k2 := 139) rfl rfl (Nat.le_of_ble_eq_true rfl)
theorem e_110_12 : Ev X 110 12 ls st h Q ↔ onR (gl ls 0) (fun z => Ev X 110 13 ls (vr z :: st) h Q) := R_al rfl (Or.inl rfl)
theorem e_110_13 {x : Nat} : Ev X 110 13 ls (vr x :: st) h Q ↔ (X.1 x = 11 ∧ Ev X 110 14 ls (vr (X.2.2.1 x 5) :: st) h Q) := R_gr rfl
theorem e_110_14 {x : Nat} : Ev X 110 14 ls (vr x :: st) h Q ↔ (X.1 x = 9 ∧ Ev X 110 15 ls (vr (X.2.2.1 x 5) :: st) h Q) := R_gr rfl
theorem e_110_15 {x : Nat} : Ev X 110 15 ls (vr x :: st) h Q ↔ (X.1 x = 6 ∧ Ev X 110 16 ls (vr (X.2.2.1 x 2) :: st) h Q) := R_gr rfl
theorem e_110_16 : Ev X 110 16 ls st h Q ↔ onI (gl ls 1) (fun z => Ev X 110 17 ls (vi z :: st) h Q) := R_il rfl (Or.inl rfl)
theorem e_110_17 {x : Nat} {j : Int} : Ev X 110 17 ls (vi j :: vr x :: st) h Q ↔ (((X.1 x = 13 ∨ X.1 x = 20) ∧ 0 ≤ j ∧ j < X.2.1 x) ∧ Ev X 110 18 ls (vi (h.1 x j.toNat) :: st) h Q) := R_ia rfl
theorem e_110_18 {x : Int} : Ev X 110 18 ls (vi x :: st) h Q ↔ (stOK ls 2 = true ∧ Ev X 110 19 (ls.set 2 (some (vi x))) st h Q) := R_is rfl (Or.inl rfl)
theorem e_110_19 : Ev X 110 19 ls st h Q ↔ onR (gl ls 0) (fun z => Ev X 110 20 ls (vr z :: st) h Q) := R_al rfl (Or.inl rfl)
theorem e_110_20 {x : Nat} : Ev X 110 20 ls (vr x :: st) h Q ↔ (X.1 x = 11 ∧ Ev X 110 21 ls (vr (X.2.2.1 x 5) :: st) h Q) := R_gr rfl
theorem e_110_21 {x : Nat} : Ev X 110 21 ls (vr x :: st) h Q ↔ (X.1 x = 9 ∧ Ev X 110 22 ls (vr (X.2.2.1 x 5) :: st) h Q) := R_gr rfl
theorem e_110_22 : Ev X 110 22 ls st h Q ↔ onI (gl ls 1) (fun z => Ev X 110 23 ls (vi z :: st) h Q) := R_il rfl (Or.inl rfl)
theorem e_110_23 {rest : List xV} {a0 : Int} {o : Nat} : Ev X 110 23 ls ((vi a0) :: vr o :: rest) h Q ↔ ((X.1 o = 6 ∧ wd rest ≤ 8) ∧ Cl X 44 [vr o, vi a0] h (fun r h2 => Ev X 110 24 ls (r.toList ++ rest) h2 Q)) := R_cv (x := o) (as := [vi a0]) (k2 := 44) rfl rfl (Nat.le_of_ble_eq_true rfl)
theorem e_110_24 : Ev X 110 24 ls st h Q ↔ onI (gl ls 2) (fun z => Ev X 110 25 ls (vi z :: st) h Q) := R_il rfl (Or.inl rfl)
theorem e_110_25 {z : Int} : Ev X 110 25 ls [vi z] h Q ↔ Q (some (vi z)) h := R_ir rfl
-- 111: CellRows.want(III)I
theorem e_111_0 : Ev X 111 0 ls st h Q ↔ onI (gl ls 2) (fun z => Ev X 111 1 ls (vi z :: st) h Q) := R_il rfl (Or.inl rfl)
theorem e_111_1 {x : Int} : Ev X 111 1 ls (vi x :: st) h Q ↔ (if x < 0 then Ev X 111 15 ls st h Q else Ev X 111 2 ls st h Q) := R_iflt rfl
theorem e_111_2 : Ev X 111 2 ls st h Q ↔ onI (gl ls 2) (fun z => Ev X 111 3 ls (vi z :: st) h Q) := R_il rfl (Or.inl rfl)
theorem e_111_3 : Ev X 111 3 ls st h Q ↔ onR (gl ls 0) (fun z => Ev X 111 4 ls (vr z :: st) h Q) := R_al rfl (Or.inl rfl)
theorem e_111_4 {x : Nat} : Ev X 111 4 ls (vr x :: st) h Q ↔ (X.1 x = 11 ∧ Ev X 111 5 ls (vr (X.2.2.1 x 5) :: st) h Q) := R_gr rfl
theorem e_111_5 : Ev X 111 5 ls st h Q ↔ Ev X 111 6 ls (vi 1 :: st) h Q := R_kc rfl (Or.inl ⟨Or.inl rfl, by decide⟩)
theorem e_111_6 {rest : List xV} {a0 : Int} {o : Nat} : Ev X 111 6 ls ((vi a0) :: vr o :: rest) h Q ↔ ((X.1 o = 9 ∧ wd rest ≤ 8) ∧ Cl X 75 [vr o, vi a0] h (fun r h2 => Ev X 111 7 ls (r.toList ++ rest) h2 Q)) := R_cv (x := o) (as := [vi a0]) (k2 := 75) rfl rfl (Nat.le_of_ble_eq_true rfl)
theorem e_111_7 {x y : Int} : Ev X 111 7 ls (vi y :: vi x :: st) h Q ↔ (if y < x then Ev X 111 15 ls st h Q else Ev X 111 8 ls st h Q) := R_icgt rfl
theorem e_111_8 : Ev X 111 8 ls st h Q ↔ onI (gl ls 3) (fun z => Ev X 111 9 ls (vi z :: st) h Q) := R_il rfl (Or.inl rfl)
theorem e_111_9 {x : Int} : Ev X 111 9 ls (vi x :: st) h Q ↔ (if x < 0 then Ev X 111 15 ls st h Q else Ev X 111 10 ls st h Q) := R_iflt rfl
theorem e_111_10 : Ev X 111 10 ls st h Q ↔ onI (gl ls 3) (fun z => Ev X 111 11 ls (vi z :: st) h Q) := R_il rfl (Or.inl rfl)
theorem e_111_11 : Ev X 111 11 ls st h Q ↔ onR (gl ls 0) (fun z => Ev X 111 12 ls (vr z :: st) h Q) := R_al rfl (Or.inl rfl)
theorem e_111_12 {x : Nat} : Ev X 111 12 ls (vr x :: st) h Q ↔ (X.1 x = 11 ∧ Ev X 111 13 ls (vr (X.2.2.1 x 5) :: st) h Q) := R_gr rfl
theorem e_111_13 {rest : List xV}  {o : Nat} : Ev X 111 13 ls (vr o :: rest) h Q ↔ ((X.1 o = 9 ∧ wd rest ≤ 8) ∧ Cl X 76 [vr o] h (fun r h2 => Ev X 111 14 ls (r.toList ++ rest) h2 Q)) := R_cv (x := o) (as := []) (k2 := 76) rfl rfl (Nat.le_of_ble_eq_true rfl)
theorem e_111_14 {x y : Int} : Ev X 111 14 ls (vi y :: vi x :: st) h Q ↔ (if x ≤ y then Ev X 111 19 ls st h Q else Ev X 111 15 ls st h Q) := R_icle rfl
theorem e_111_15 : Ev X 111 15 ls st h Q ↔ onR (gl ls 0) (fun z => Ev X 111 16 ls (vr z :: st) h Q) := R_al rfl (Or.inl rfl)
theorem e_111_16 : Ev X 111 16 ls st h Q ↔ Ev X 111 17 ls (vi (-1) :: st) h Q := R_kc rfl (Or.inl ⟨Or.inl rfl, by decide⟩)
theorem e_111_17 {rest : List xV} {a0 : Int} {o : Nat} : Ev X 111 17 ls ((vi a0) :: vr o :: rest) h Q ↔ ((X.1 o = 11 ∧ wd rest ≤ 8) ∧ Cl X 138 [vr o, vi a0] h (fun r h2 => Ev X 111 18 ls (r.toList ++ rest) h2 Q)) := R_cv (x := o) (as := [vi a0]) (k2 := 138) rfl rfl (Nat.le_of_ble_eq_true rfl)
theorem e_111_18 {z : Int} : Ev X 111 18 ls [vi z] h Q ↔ Q (some (vi z)) h := R_ir rfl
theorem e_111_19 : Ev X 111 19 ls st h Q ↔ onR (gl ls 0) (fun z => Ev X 111 20 ls (vr z :: st) h Q) := R_al rfl (Or.inl rfl)
theorem e_111_20 {x : Nat} : Ev X 111 20 ls (vr x :: st) h Q ↔ (X.1 x = 11 ∧ Ev X 111 21 ls (vr (X.2.2.1 x 5) :: st) h Q) := R_gr rfl
theorem e_111_21 : Ev X 111 21 ls st h Q ↔ onI (gl ls 1) (fun z => Ev X 111 22 ls (vi z :: st) h Q) := R_il rfl (Or.inl rfl)
theorem e_111_22 {rest : List xV} {a0 : Int} {o : Nat} : Ev X 111 22 ls ((vi a0) :: vr o :: rest) h Q ↔ ((X.1 o = 9 ∧ wd rest ≤ 8) ∧ Cl X 79 [vr o, vi a0] h (fun r h2 => Ev X 111 23 ls (r.toList ++ rest) h2 Q)) := R_cv (x := o) (as := [vi a0]) (k2 := 79) rfl rfl (Nat.le_of_ble_eq_true rfl)
theorem e_111_23 {x : Int} : Ev X 111 23 ls (vi x :: st) h Q ↔ (if ¬ x = 0 then Ev X 111 28 ls st h Q else Ev X 111 24 ls st h Q) := R_ifne rfl
theorem e_111_24 : Ev X 111 24 ls st h Q ↔ onR (gl ls 0) (fun z => Ev X 111 25 ls (vr z :: st) h Q) := R_al rfl (Or.inl rfl)
theorem e_111_25 : Ev X 111 25 ls st h Q ↔ Ev X 111 26 ls (vi (-2) :: st) h Q := R_kc rfl (Or.inr (Or.inl ⟨rfl, by decide⟩))
theorem e_111_26 {rest : List xV} {a0 : Int} {o : Nat} : Ev X 111 26 ls ((vi a0) :: vr o :: rest) h Q ↔ ((X.1 o = 11 ∧ wd rest ≤ 8) ∧ Cl X 138 [vr o, vi a0] h (fun r h2 => Ev X 111 27 ls (r.toList ++ rest) h2 Q)) := R_cv (x := o) (as := [vi a0]) (k2 := 138) rfl rfl (Nat.le_of_ble_eq_true rfl)
theorem e_111_27 {z : Int} : Ev X 111 27 ls [vi z] h Q ↔ Q (some (vi z)) h := R_ir rfl
theorem e_111_28 : Ev X 111 28 ls st h Q ↔ onR (gl ls 0) (fun z => Ev X 111 29 ls (vr z :: st) h Q) := R_al rfl (Or.inl rfl)
theorem e_111_29 {x : Nat} : Ev X 111 29 ls (vr x :: st) h Q ↔ (X.1 x = 11 ∧ Ev X 111 30 ls (vr (X.2.2.1 x 5) :: st) h Q) := R_gr rfl
theorem e_111_30 {x : Nat} : Ev X 111 30 ls (vr x :: st) h Q ↔ (X.1 x = 9 ∧ Ev X 111 31 ls (vr (X.2.2.1 x 4) :: st) h Q) := R_gr rfl
theorem e_111_31 {x : Nat} : Ev X 111 31 ls (vr x :: st) h Q ↔ (stOK ls 4 = true ∧ Ev X 111 32 (ls.set 4 (some (vr x))) st h Q) := R_as rfl (Or.inr rfl)
theorem e_111_32 : Ev X 111 32 ls st h Q ↔ onR (gl ls 4) (fun z => Ev X 111 33 ls (vr z :: st) h Q) := R_al rfl (Or.inr rfl)
theorem e_111_33 {x : Nat} : Ev X 111 33 ls (vr x :: st) h Q ↔ (X.1 x = 3 ∧ Ev X 111 34 ls (vr (X.2.2.1 x 3) :: st) h Q) := R_gr rfl
theorem e_111_34 : Ev X 111 34 ls st h Q ↔ onI (gl ls 1) (fun z => Ev X 111 35 ls (vi z :: st) h Q) := R_il rfl (Or.inl rfl)
theorem e_111_35 {x : Nat} {j : Int} : Ev X 111 35 ls (vi j :: vr x :: st) h Q ↔ ((X.1 x = 14 ∧ 0 ≤ j ∧ j < X.2.1 x) ∧ Ev X 111 36 ls (vi (h.1 x j.toNat) :: st) h Q) := R_ba rfl
theorem e_111_36 {x : Int} : Ev X 111 36 ls (vi x :: st) h Q ↔ (if ¬ x = 0 then Ev X 111 46 ls st h Q else Ev X 111 37 ls st h Q) := R_ifne rfl
theorem e_111_37 : Ev X 111 37 ls st h Q ↔ onI (gl ls 2) (fun z => Ev X 111 38 ls (vi z :: st) h Q) := R_il rfl (Or.inl rfl)
theorem e_111_38 : Ev X 111 38 ls st h Q ↔ onR (gl ls 0) (fun z => Ev X 111 39 ls (vr z :: st) h Q) := R_al rfl (Or.inl rfl)
theorem e_111_39 {x : Nat} : Ev X 111 39 ls (vr x :: st) h Q ↔ (X.1 x = 11 ∧ Ev X 111 40 ls (vr (X.2.2.1 x 5) :: st) h Q) := R_gr rfl
theorem e_111_40 : Ev X 111 40 ls st h Q ↔ onR (gl ls 4) (fun z => Ev X 111 41 ls (vr z :: st) h Q) := R_al rfl (Or.inr rfl)
theorem e_111_41 {x : Nat} : Ev X 111 41 ls (vr x :: st) h Q ↔ (X.1 x = 3 ∧ Ev X 111 42 ls (vr (X.2.2.1 x 1) :: st) h Q) := R_gr rfl
theorem e_111_42 : Ev X 111 42 ls st h Q ↔ onI (gl ls 1) (fun z => Ev X 111 43 ls (vi z :: st) h Q) := R_il rfl (Or.inl rfl)
theorem e_111_43 {x : Nat} {j : Int} : Ev X 111 43 ls (vi j :: vr x :: st) h Q ↔ (((X.1 x = 13 ∨ X.1 x = 20) ∧ 0 ≤ j ∧ j < X.2.1 x) ∧ Ev X 111 44 ls (vi (h.1 x j.toNat) :: st) h Q) := R_ia rfl
theorem e_111_44 {rest : List xV} {a0 : Int} {o : Nat} : Ev X 111 44 ls ((vi a0) :: vr o :: rest) h Q ↔ ((X.1 o = 9 ∧ wd rest ≤ 8) ∧ Cl X 75 [vr o, vi a0] h (fun r h2 => Ev X 111 45 ls (r.toList ++ rest) h2 Q)) := R_cv (x := o) (as := [vi a0]) (k2 := 75) rfl rfl (Nat.le_of_ble_eq_true rfl)
theorem e_111_45 {x y : Int} : Ev X 111 45 ls (vi y :: vi x :: st) h Q ↔ (if x ≤ y then Ev X 111 50 ls st h Q else Ev X 111 46 ls st h Q) := R_icle rfl
theorem e_111_46 : Ev X 111 46 ls st h Q ↔ onR (gl ls 0) (fun z => Ev X 111 47 ls (vr z :: st) h Q) := R_al rfl (Or.inl rfl)
theorem e_111_47 : Ev X 111 47 ls st h Q ↔ Ev X 111 48 ls (vi (-4) :: st) h Q := R_kc rfl (Or.inr (Or.inl ⟨rfl, by decide⟩))
theorem e_111_48 {rest : List xV} {a0 : Int} {o : Nat} : Ev X 111 48 ls ((vi a0) :: vr o :: rest) h Q ↔ ((X.1 o = 11 ∧ wd rest ≤ 8) ∧ Cl X 138 [vr o, vi a0] h (fun r h2 => Ev X 111 49 ls (r.toList ++ rest) h2 Q)) := R_cv (x := o) (as := [vi a0]) (k2 := 138) rfl rfl (Nat.le_of_ble_eq_true rfl)
theorem e_111_49 {z : Int} : Ev X 111 49 ls [vi z] h Q ↔ Q (some (vi z)) h := R_ir rfl
theorem e_111_50 : Ev X 111 50 ls st h Q ↔ onR (gl ls 0) (fun z => Ev X 111 51 ls (vr z :: st) h Q) := R_al rfl (Or.inl rfl)
theorem e_111_51 : Ev X 111 51 ls st h Q ↔ Ev X 111 52 ls (vi 5 :: st) h Q := R_kc rfl (Or.inl ⟨Or.inl rfl, by decide⟩)
theorem e_111_52 {rest : List xV} {a0 : Int} {o : Nat} : Ev X 111 52 ls ((vi a0) :: vr o :: rest) h Q ↔ ((X.1 o = 11 ∧ wd rest ≤ 8) ∧ Cl X 139 [vr o, vi a0] h (fun r h2 => Ev X 111 53 ls (r.toList ++ rest) h2 Q)) := R_cv (x := o) (as := [vi a0]) (k2 := 139) rfl rfl (Nat.le_of_ble_eq_true rfl)
theorem e_111_53 : Ev X 111 53 ls st h Q ↔ onI (gl ls 2) (fun z => Ev X 111 54 ls (vi z :: st) h Q) := R_il rfl (Or.inl rfl)
theorem e_111_54 : Ev X 111 54 ls st h Q ↔ onR (gl ls 4) (fun z => Ev X 111 55 ls (vr z :: st) h Q) := R_al rfl (Or.inr rfl)
theorem e_111_55 {x : Nat} : Ev X 111 55 ls (vr x :: st) h Q ↔ (X.1 x = 3 ∧ Ev X 111 56 ls (vr (X.2.2.1 x 4) :: st) h Q) := R_gr rfl
theorem e_111_56 : Ev X 111 56 ls st h Q ↔ onI (gl ls 1) (fun z => Ev X 111 57 ls (vi z :: st) h Q) := R_il rfl (Or.inl rfl)
theorem e_111_57 {x : Nat} {j : Int} : Ev X 111 57 ls (vi j :: vr x :: st) h Q ↔ (((X.1 x = 13 ∨ X.1 x = 20) ∧ 0 ≤ j ∧ j < X.2.1 x) ∧ Ev X 111 58 ls (vi (h.1 x j.toNat) :: st) h Q) := R_ia rfl
theorem e_111_58 {x y : Int} : Ev X 111 58 ls (vi y :: vi x :: st) h Q ↔ ((inR (x - y)) ∧ Ev X 111 59 ls (vi (x - y) :: st) h Q) := R_sub rfl
theorem e_111_59 {rest : List xV} {a0 : Int} : Ev X 111 59 ls ((vi a0) :: rest) h Q ↔ (wd rest ≤ 8 ∧ Cl X 283 [vi a0] h (fun r h2 => Ev X 111 60 ls (r.toList ++ rest) h2 Q)) := R_cs (as := [vi a0]) (k2 := 283) rfl rfl (Nat.le_of_ble_eq_true rfl)
theorem e_111_60 : Ev X 111 60 ls st h Q ↔ onI (gl ls 3) (fun z => Ev X 111 61 ls (vi z :: st) h Q) := R_il rfl (Or.inl rfl)
theorem e_111_61 : Ev X 111 61 ls st h Q ↔ onR (gl ls 4) (fun z => Ev X 111 62 ls (vr z :: st) h Q) := R_al rfl (Or.inr rfl)
theorem e_111_62 {x : Nat} : Ev X 111 62 ls (vr x :: st) h Q ↔ (X.1 x = 3 ∧ Ev X 111 63 ls (vr (X.2.2.1 x 5) :: st) h Q) := R_gr rfl
theorem e_111_63 : Ev X 111 63 ls st h Q ↔ onI (gl ls 1) (fun z => Ev X 111 64 ls (vi z :: st) h Q) := R_il rfl (Or.inl rfl)
theorem e_111_64 {x : Nat} {j : Int} : Ev X 111 64 ls (vi j :: vr x :: st) h Q ↔ (((X.1 x = 13 ∨ X.1 x = 20) ∧ 0 ≤ j ∧ j < X.2.1 x) ∧ Ev X 111 65 ls (vi (h.1 x j.toNat) :: st) h Q) := R_ia rfl
theorem e_111_65 {x y : Int} : Ev X 111 65 ls (vi y :: vi x :: st) h Q ↔ ((inR (x - y)) ∧ Ev X 111 66 ls (vi (x - y) :: st) h Q) := R_sub rfl
theorem e_111_66 {rest : List xV} {a0 : Int} : Ev X 111 66 ls ((vi a0) :: rest) h Q ↔ (wd rest ≤ 8 ∧ Cl X 283 [vi a0] h (fun r h2 => Ev X 111 67 ls (r.toList ++ rest) h2 Q)) := R_cs (as := [vi a0]) (k2 := 283) rfl rfl (Nat.le_of_ble_eq_true rfl)
theorem e_111_67 {x y : Int} : Ev X 111 67 ls (vi y :: vi x :: st) h Q ↔ ((inR (x + y)) ∧ Ev X 111 68 ls (vi (x + y) :: st) h Q) := R_add rfl
theorem e_111_68 {x : Int} : Ev X 111 68 ls (vi x :: st) h Q ↔ (stOK ls 5 = true ∧ Ev X 111 69 (ls.set 5 (some (vi x))) st h Q) := R_is rfl (Or.inr rfl)
theorem e_111_69 : Ev X 111 69 ls st h Q ↔ onR (gl ls 4) (fun z => Ev X 111 70 ls (vr z :: st) h Q) := R_al rfl (Or.inr rfl)
theorem e_111_70 {x : Nat} : Ev X 111 70 ls (vr x :: st) h Q ↔ (X.1 x = 3 ∧ Ev X 111 71 ls (vr (X.2.2.1 x 4) :: st) h Q) := R_gr rfl
theorem e_111_71 : Ev X 111 71 ls st h Q ↔ onI (gl ls 1) (fun z => Ev X 111 72 ls (vi z :: st) h Q) := R_il rfl (Or.inl rfl)
theorem e_111_72 : Ev X 111 72 ls st h Q ↔ onI (gl ls 2) (fun z => Ev X 111 73 ls (vi z :: st) h Q) := R_il rfl (Or.inl rfl)
theorem e_111_73 {x : Nat} {j v : Int} : Ev X 111 73 ls (vi v :: vi j :: vr x :: st) h Q ↔ ((X.1 x = 13 ∧ 0 ≤ j ∧ j < X.2.1 x) ∧ Ev X 111 74 ls st (up2 h.1 x j.toNat v, h.2) Q) := R_ias rfl
theorem e_111_74 : Ev X 111 74 ls st h Q ↔ onR (gl ls 4) (fun z => Ev X 111 75 ls (vr z :: st) h Q) := R_al rfl (Or.inr rfl)
theorem e_111_75 {x : Nat} : Ev X 111 75 ls (vr x :: st) h Q ↔ (X.1 x = 3 ∧ Ev X 111 76 ls (vr (X.2.2.1 x 5) :: st) h Q) := R_gr rfl
theorem e_111_76 : Ev X 111 76 ls st h Q ↔ onI (gl ls 1) (fun z => Ev X 111 77 ls (vi z :: st) h Q) := R_il rfl (Or.inl rfl)
theorem e_111_77 : Ev X 111 77 ls st h Q ↔ onI (gl ls 3) (fun z => Ev X 111 78 ls (vi z :: st) h Q) := R_il rfl (Or.inl rfl)
theorem e_111_78 {x : Nat} {j v : Int} : Ev X 111 78 ls (vi v :: vi j :: vr x :: st) h Q ↔ ((X.1 x = 13 ∧ 0 ≤ j ∧ j < X.2.1 x) ∧ Ev X 111 79 ls st (up2 h.1 x j.toNat v, h.2) Q) := R_ias rfl
theorem e_111_79 : Ev X 111 79 ls st h Q ↔ onI (gl ls 5) (fun z => Ev X 111 80 ls (vi z :: st) h Q) := R_il rfl (Or.inr rfl)
theorem e_111_80 {z : Int} : Ev X 111 80 ls [vi z] h Q ↔ Q (some (vi z)) h := R_ir rfl
end RUL
