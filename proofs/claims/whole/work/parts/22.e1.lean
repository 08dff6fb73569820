section RUL
variable {X : xL} {ls : List (Option xV)} {st : List xV} {h : xH} {Q : Option xV → xH → Prop}
-- 39: CellRows$Ground.findCellsIn(ILCellRows$Cells;)I
theorem e_39_0 : Ev X 39 0 ls st h Q ↔ Ev X 39 1 ls (vi 0 :: st) h Q := R_kc rfl (Or.inl ⟨Or.inl rfl, by decide⟩)
theorem e_39_1 {x : Int} : Ev X 39 1 ls (vi x :: st) h Q ↔ (stOK ls 3 = true ∧ Ev X 39 2 (ls.set 3 (some (vi x))) st h Q) := R_is rfl (Or.inl rfl)
theorem e_39_2 : Ev X 39 2 ls st h Q ↔ onR (gl ls 0) (fun z => Ev X 39 3 ls (vr z :: st) h Q) := R_al rfl (Or.inl rfl)
theorem e_39_3 {x : Nat} : Ev X 39 3 ls (vr x :: st) h Q ↔ (X.1 x = 4 ∧ Ev X 39 4 ls (vr (X.2.2.1 x 6) :: st) h Q) := R_gr rfl
theorem e_39_4 : Ev X 39 4 ls st h Q ↔ onI (gl ls 1) (fun z => Ev X 39 5 ls (vi z :: st) h Q) := R_il rfl (Or.inl rfl)
theorem e_39_5 {x : Nat} {j : Int} : Ev X 39 5 ls (vi j :: vr x :: st) h Q ↔ (((X.1 x = 13 ∨ X.1 x = 20) ∧ 0 ≤ j ∧ j < X.2.1 x) ∧ Ev X 39 6 ls (vi (h.1 x j.toNat) :: st) h Q) := R_ia rfl
theorem e_39_6 {x : Int} : Ev X 39 6 ls (vi x :: st) h Q ↔ (stOK ls 4 = true ∧ Ev X 39 7 (ls.set 4 (some (vi x))) st h Q) := R_is rfl (Or.inr rfl)
theorem e_39_7 : Ev X 39 7 ls st h Q ↔ onI (gl ls 4) (fun z => Ev X 39 8 ls (vi z :: st) h Q) := R_il rfl (Or.inr rfl)
theorem e_39_8 : Ev X 39 8 ls st h Q ↔ onR (gl ls 0) (fun z => Ev X 39 9 ls (vr z :: st) h Q) := R_al rfl (Or.inl rfl)
theorem e_39_9 {x : Nat} : Ev X 39 9 ls (vr x :: st) h Q ↔ (X.1 x = 4 ∧ Ev X 39 10 ls (vr (X.2.2.1 x 7) :: st) h Q) := R_gr rfl
theorem e_39_10 : Ev X 39 10 ls st h Q ↔ onI (gl ls 1) (fun z => Ev X 39 11 ls (vi z :: st) h Q) := R_il rfl (Or.inl rfl)
theorem e_39_11 {x : Nat} {j : Int} : Ev X 39 11 ls (vi j :: vr x :: st) h Q ↔ (((X.1 x = 13 ∨ X.1 x = 20) ∧ 0 ≤ j ∧ j < X.2.1 x) ∧ Ev X 39 12 ls (vi (h.1 x j.toNat) :: st) h Q) := R_ia rfl
theorem e_39_12 {x y : Int} : Ev X 39 12 ls (vi y :: vi x :: st) h Q ↔ ((inR (x + y)) ∧ Ev X 39 13 ls (vi (x + y) :: st) h Q) := R_add rfl
theorem e_39_13 : Ev X 39 13 ls st h Q ↔ Ev X 39 14 ls (vi 1 :: st) h Q := R_kc rfl (Or.inl ⟨Or.inl rfl, by decide⟩)
theorem e_39_14 {x y : Int} : Ev X 39 14 ls (vi y :: vi x :: st) h Q ↔ ((inR (x - y)) ∧ Ev X 39 15 ls (vi (x - y) :: st) h Q) := R_sub rfl
theorem e_39_15 {x : Int} : Ev X 39 15 ls (vi x :: st) h Q ↔ (stOK ls 5 = true ∧ Ev X 39 16 (ls.set 5 (some (vi x))) st h Q) := R_is rfl (Or.inr rfl)
theorem e_39_16 : Ev X 39 16 ls st h Q ↔ Ev X 39 17 ls (vi 0 :: st) h Q := R_kc rfl (Or.inl ⟨Or.inl rfl, by decide⟩)
theorem e_39_17 {x : Int} : Ev X 39 17 ls (vi x :: st) h Q ↔ (stOK ls 6 = true ∧ Ev X 39 18 (ls.set 6 (some (vi x))) st h Q) := R_is rfl (Or.inr rfl)
theorem e_39_18 : Ev X 39 18 ls st h Q ↔ onI (gl ls 6) (fun z => Ev X 39 19 ls (vi z :: st) h Q) := R_il rfl (Or.inr rfl)
theorem e_39_19 : Ev X 39 19 ls st h Q ↔ onR (gl ls 2) (fun z => Ev X 39 20 ls (vr z :: st) h Q) := R_al rfl (Or.inl rfl)
theorem e_39_20 {x : Nat} : Ev X 39 20 ls (vr x :: st) h Q ↔ (X.1 x = 3 ∧ Ev X 39 21 ls (vi (h.2 x 0) :: st) h Q) := R_gi rfl
theorem e_39_21 {x y : Int} : Ev X 39 21 ls (vi y :: vi x :: st) h Q ↔ (if y ≤ x then Ev X 39 75 ls st h Q else Ev X 39 22 ls st h Q) := R_icge rfl
theorem e_39_22 : Ev X 39 22 ls st h Q ↔ onR (gl ls 2) (fun z => Ev X 39 23 ls (vr z :: st) h Q) := R_al rfl (Or.inl rfl)
theorem e_39_23 {x : Nat} : Ev X 39 23 ls (vr x :: st) h Q ↔ (X.1 x = 3 ∧ Ev X 39 24 ls (vr (X.2.2.1 x 3) :: st) h Q) := R_gr rfl
theorem e_39_24 : Ev X 39 24 ls st h Q ↔ onI (gl ls 6) (fun z => Ev X 39 25 ls (vi z :: st) h Q) := R_il rfl (Or.inr rfl)
theorem e_39_25 {x : Nat} {j : Int} : Ev X 39 25 ls (vi j :: vr x :: st) h Q ↔ ((X.1 x = 14 ∧ 0 ≤ j ∧ j < X.2.1 x) ∧ Ev X 39 26 ls (vi (h.1 x j.toNat) :: st) h Q) := R_ba rfl
theorem e_39_26 {x : Int} : Ev X 39 26 ls (vi x :: st) h Q ↔ (if ¬ x = 0 then Ev X 39 73 ls st h Q else Ev X 39 27 ls st h Q) := R_ifne rfl
theorem e_39_27 : Ev X 39 27 ls st h Q ↔ onR (gl ls 2) (fun z => Ev X 39 28 ls (vr z :: st) h Q) := R_al rfl (Or.inl rfl)
theorem e_39_28 : Ev X 39 28 ls st h Q ↔ onI (gl ls 6) (fun z => Ev X 39 29 ls (vi z :: st) h Q) := R_il rfl (Or.inr rfl)
theorem e_39_29 : Ev X 39 29 ls st h Q ↔ onR (gl ls 0) (fun z => Ev X 39 30 ls (vr z :: st) h Q) := R_al rfl (Or.inl rfl)
theorem e_39_30 {x : Nat} : Ev X 39 30 ls (vr x :: st) h Q ↔ (X.1 x = 4 ∧ Ev X 39 31 ls (vr (X.2.2.1 x 4) :: st) h Q) := R_gr rfl
theorem e_39_31 : Ev X 39 31 ls st h Q ↔ onI (gl ls 1) (fun z => Ev X 39 32 ls (vi z :: st) h Q) := R_il rfl (Or.inl rfl)
theorem e_39_32 {x : Nat} {j : Int} : Ev X 39 32 ls (vi j :: vr x :: st) h Q ↔ (((X.1 x = 13 ∨ X.1 x = 20) ∧ 0 ≤ j ∧ j < X.2.1 x) ∧ Ev X 39 33 ls (vi (h.1 x j.toNat) :: st) h Q) := R_ia rfl
theorem e_39_33 : Ev X 39 33 ls st h Q ↔ onI (gl ls 4) (fun z => Ev X 39 34 ls (vi z :: st) h Q) := R_il rfl (Or.inr rfl)
theorem e_39_34 : Ev X 39 34 ls st h Q ↔ onI (gl ls 5) (fun z => Ev X 39 35 ls (vi z :: st) h Q) := R_il rfl (Or.inr rfl)
theorem e_39_35 {rest : List xV} {a0 : Int} {a1 : Int} {a2 : Int} {a3 : Int} {o : Nat} : Ev X 39 35 ls ((vi a3) :: (vi a2) :: (vi a1) :: (vi a0) :: vr o :: rest) h Q ↔ ((X.1 o = 3 ∧ wd rest ≤ 8) ∧ Cl X 25 [vr o, vi a0, vi a1, vi a2, vi a3] h (fun r h2 => Ev X 39 36 ls (r.toList ++ rest) h2 Q)) := R_cv (x := o) (as := [vi a0, vi a1, vi a2, vi a3]) (k2 := 25) rfl rfl (Nat.le_of_ble_eq_true rfl)
theorem e_39_36 {x : Int} : Ev X 39 36 ls (vi x :: st) h Q ↔ (if x = 0 then Ev X 39 73 ls st h Q else Ev X 39 37 ls st h Q) := R_ifeq rfl
theorem e_39_37 : Ev X 39 37 ls st h Q ↔ onI (gl ls 3) (fun z => Ev X 39 38 ls (vi z :: st) h Q) := R_il rfl (Or.inl rfl)
theorem e_39_38 {x : Int} : Ev X 39 38 ls (vi x :: st) h Q ↔ (stOK ls 7 = true ∧ Ev X 39 39 (ls.set 7 (some (vi x))) st h Q) := R_is rfl (Or.inr rfl)
theorem e_39_39 : Ev X 39 39 ls st h Q ↔ onI (gl ls 7) (fun z => Ev X 39 40 ls (vi z :: st) h Q) := R_il rfl (Or.inr rfl)
theorem e_39_40 {x : Int} : Ev X 39 40 ls (vi x :: st) h Q ↔ (if x ≤ 0 then Ev X 39 67 ls st h Q else Ev X 39 41 ls st h Q) := R_ifle rfl
theorem e_39_41 : Ev X 39 41 ls st h Q ↔ onR (gl ls 2) (fun z => Ev X 39 42 ls (vr z :: st) h Q) := R_al rfl (Or.inl rfl)
theorem e_39_42 {x : Nat} : Ev X 39 42 ls (vr x :: st) h Q ↔ (X.1 x = 3 ∧ Ev X 39 43 ls (vr (X.2.2.1 x 7) :: st) h Q) := R_gr rfl
theorem e_39_43 : Ev X 39 43 ls st h Q ↔ onR (gl ls 0) (fun z => Ev X 39 44 ls (vr z :: st) h Q) := R_al rfl (Or.inl rfl)
theorem e_39_44 {x : Nat} : Ev X 39 44 ls (vr x :: st) h Q ↔ (X.1 x = 4 ∧ Ev X 39 45 ls (vr (X.2.2.1 x 8) :: st) h Q) := R_gr rfl
theorem e_39_45 : Ev X 39 45 ls st h Q ↔ onI (gl ls 7) (fun z => Ev X 39 46 ls (vi z :: st) h Q) := R_il rfl (Or.inr rfl)
theorem e_39_46 : Ev X 39 46 ls st h Q ↔ Ev X 39 47 ls (vi 1 :: st) h Q := R_kc rfl (Or.inl ⟨Or.inl rfl, by decide⟩)
theorem e_39_47 {x y : Int} : Ev X 39 47 ls (vi y :: vi x :: st) h Q ↔ ((inR (x - y)) ∧ Ev X 39 48 ls (vi (x - y) :: st) h Q) := R_sub rfl
theorem e_39_48 {x : Nat} {j : Int} : Ev X 39 48 ls (vi j :: vr x :: st) h Q ↔ (((X.1 x = 13 ∨ X.1 x = 20) ∧ 0 ≤ j ∧ j < X.2.1 x) ∧ Ev X 39 49 ls (vi (h.1 x j.toNat) :: st) h Q) := R_ia rfl
theorem e_39_49 {x : Nat} {j : Int} : Ev X 39 49 ls (vi j :: vr x :: st) h Q ↔ (((X.1 x = 13 ∨ X.1 x = 20) ∧ 0 ≤ j ∧ j < X.2.1 x) ∧ Ev X 39 50 ls (vi (h.1 x j.toNat) :: st) h Q) := R_ia rfl
theorem e_39_50 : Ev X 39 50 ls st h Q ↔ onR (gl ls 2) (fun z => Ev X 39 51 ls (vr z :: st) h Q) := R_al rfl (Or.inl rfl)
theorem e_39_51 {x : Nat} : Ev X 39 51 ls (vr x :: st) h Q ↔ (X.1 x = 3 ∧ Ev X 39 52 ls (vr (X.2.2.1 x 7) :: st) h Q) := R_gr rfl
theorem e_39_52 : Ev X 39 52 ls st h Q ↔ onI (gl ls 6) (fun z => Ev X 39 53 ls (vi z :: st) h Q) := R_il rfl (Or.inr rfl)
theorem e_39_53 {x : Nat} {j : Int} : Ev X 39 53 ls (vi j :: vr x :: st) h Q ↔ (((X.1 x = 13 ∨ X.1 x = 20) ∧ 0 ≤ j ∧ j < X.2.1 x) ∧ Ev X 39 54 ls (vi (h.1 x j.toNat) :: st) h Q) := R_ia rfl
theorem e_39_54 {x y : Int} : Ev X 39 54 ls (vi y :: vi x :: st) h Q ↔ (if x ≤ y then Ev X 39 67 ls st h Q else Ev X 39 55 ls st h Q) := R_icle rfl
theorem e_39_55 : Ev X 39 55 ls st h Q ↔ onR (gl ls 0) (fun z => Ev X 39 56 ls (vr z :: st) h Q) := R_al rfl (Or.inl rfl)
theorem e_39_56 {x : Nat} : Ev X 39 56 ls (vr x :: st) h Q ↔ (X.1 x = 4 ∧ Ev X 39 57 ls (vr (X.2.2.1 x 8) :: st) h Q) := R_gr rfl
theorem e_39_57 : Ev X 39 57 ls st h Q ↔ onI (gl ls 7) (fun z => Ev X 39 58 ls (vi z :: st) h Q) := R_il rfl (Or.inr rfl)
theorem e_39_58 : Ev X 39 58 ls st h Q ↔ onR (gl ls 0) (fun z => Ev X 39 59 ls (vr z :: st) h Q) := R_al rfl (Or.inl rfl)
theorem e_39_59 {x : Nat} : Ev X 39 59 ls (vr x :: st) h Q ↔ (X.1 x = 4 ∧ Ev X 39 60 ls (vr (X.2.2.1 x 8) :: st) h Q) := R_gr rfl
theorem e_39_60 : Ev X 39 60 ls st h Q ↔ onI (gl ls 7) (fun z => Ev X 39 61 ls (vi z :: st) h Q) := R_il rfl (Or.inr rfl)
theorem e_39_61 : Ev X 39 61 ls st h Q ↔ Ev X 39 62 ls (vi 1 :: st) h Q := R_kc rfl (Or.inl ⟨Or.inl rfl, by decide⟩)
theorem e_39_62 {x y : Int} : Ev X 39 62 ls (vi y :: vi x :: st) h Q ↔ ((inR (x - y)) ∧ Ev X 39 63 ls (vi (x - y) :: st) h Q) := R_sub rfl
theorem e_39_63 {x : Nat} {j : Int} : Ev X 39 63 ls (vi j :: vr x :: st) h Q ↔ (((X.1 x = 13 ∨ X.1 x = 20) ∧ 0 ≤ j ∧ j < X.2.1 x) ∧ Ev X 39 64 ls (vi (h.1 x j.toNat) :: st) h Q) := R_ia rfl
theorem e_39_64 {x : Nat} {j v : Int} : Ev X 39 64 ls (vi v :: vi j :: vr x :: st) h Q ↔ ((X.1 x = 13 ∧ 0 ≤ j ∧ j < X.2.1 x) ∧ Ev X 39 65 ls st (up2 h.1 x j.toNat v, h.2) Q) := R_ias rfl
theorem e_39_65 : Ev X 39 65 ls st h Q ↔ onI (gl ls 7) (fun x => (stOK ls 7 = true ∧ inR (x + (-1))) ∧ Ev X 39 66 (ls.set 7 (some (vi (x + (-1))))) st h Q) := R_inc rfl
theorem e_39_66 : Ev X 39 66 ls st h Q ↔ Ev X 39 39 ls st h Q := R_go rfl
theorem e_39_67 : Ev X 39 67 ls st h Q ↔ onR (gl ls 0) (fun z => Ev X 39 68 ls (vr z :: st) h Q) := R_al rfl (Or.inl rfl)
theorem e_39_68 {x : Nat} : Ev X 39 68 ls (vr x :: st) h Q ↔ (X.1 x = 4 ∧ Ev X 39 69 ls (vr (X.2.2.1 x 8) :: st) h Q) := R_gr rfl
theorem e_39_69 : Ev X 39 69 ls st h Q ↔ onI (gl ls 7) (fun z => Ev X 39 70 ls (vi z :: st) h Q) := R_il rfl (Or.inr rfl)
theorem e_39_70 : Ev X 39 70 ls st h Q ↔ onI (gl ls 6) (fun z => Ev X 39 71 ls (vi z :: st) h Q) := R_il rfl (Or.inr rfl)
theorem e_39_71 {x : Nat} {j v : Int} : Ev X 39 71 ls (vi v :: vi j :: vr x :: st) h Q ↔ ((X.1 x = 13 ∧ 0 ≤ j ∧ j < X.2.1 x) ∧ Ev X 39 72 ls st (up2 h.1 x j.toNat v, h.2) Q) := R_ias rfl
theorem e_39_72 : Ev X 39 72 ls st h Q ↔ onI (gl ls 3) (fun x => (stOK ls 3 = true ∧ inR (x + 1)) ∧ Ev X 39 73 (ls.set 3 (some (vi (x + 1)))) st h Q) := R_inc rfl
theorem e_39_73 : Ev X 39 73 ls st h Q ↔ onI (gl ls 6) (fun x => (stOK ls 6 = true ∧ inR (x + 1)) ∧ Ev X 39 74 (ls.set 6 (some (vi (x + 1)))) st h Q) := R_inc rfl
theorem e_39_74 : Ev X 39 74 ls st h Q ↔ Ev X 39 18 ls st h Q := R_go rfl
theorem e_39_75 : Ev X 39 75 ls st h Q ↔ onI (gl ls 3) (fun z => Ev X 39 76 ls (vi z :: st) h Q) := R_il rfl (Or.inl rfl)
theorem e_39_76 {z : Int} : Ev X 39 76 ls [vi z] h Q ↔ Q (some (vi z)) h := R_ir rfl
-- 40: CellRows$History.keep(LCellRows$Plan;I)V
theorem e_40_0 : Ev X 40 0 ls st h Q ↔ onR (gl ls 0) (fun z => Ev X 40 1 ls (vr z :: st) h Q) := R_al rfl (Or.inl rfl)
theorem e_40_1 {x : Nat} : Ev X 40 1 ls (vr x :: st) h Q ↔ (X.1 x = 5 ∧ Ev X 40 2 ls (vr (X.2.2.1 x 2) :: st) h Q) := R_gr rfl
theorem e_40_2 : Ev X 40 2 ls st h Q ↔ onR (gl ls 0) (fun z => Ev X 40 3 ls (vr z :: st) h Q) := R_al rfl (Or.inl rfl)
theorem e_40_3 {x : Nat} : Ev X 40 3 ls (vr x :: st) h Q ↔ (X.1 x = 5 ∧ Ev X 40 4 ls (vi (h.2 x 1) :: st) h Q) := R_gi rfl
theorem e_40_4 {x : Nat} {j : Int} : Ev X 40 4 ls (vi j :: vr x :: st) h Q ↔ ((X.1 x = 15 ∧ 0 ≤ j ∧ j < X.2.1 x) ∧ Ev X 40 5 ls (vr (X.2.2.1 x j.toNat) :: st) h Q) := R_aa rfl
theorem e_40_5 : Ev X 40 5 ls st h Q ↔ onR (gl ls 1) (fun z => Ev X 40 6 ls (vr z :: st) h Q) := R_al rfl (Or.inl rfl)
theorem e_40_6 {rest : List xV} {a0 : Nat} {o : Nat} : Ev X 40 6 ls ((vr a0) :: vr o :: rest) h Q ↔ ((X.1 o = 9 ∧ wd rest ≤ 8) ∧ Cl X 74 [vr o, vr a0] h (fun r h2 => Ev X 40 7 ls (r.toList ++ rest) h2 Q)) := R_cv (x := o) (as := [vr a0]) (k2 := 74) rfl rfl (Nat.le_of_ble_eq_true rfl)
theorem e_40_7 : Ev X 40 7 ls st h Q ↔ onR (gl ls 0) (fun z => Ev X 40 8 ls (vr z :: st) h Q) := R_al rfl (Or.inl rfl)
theorem e_40_8 {x : Nat} : Ev X 40 8 ls (vr x :: st) h Q ↔ (X.1 x = 5 ∧ Ev X 40 9 ls (vr (X.2.2.1 x 3) :: st) h Q) := R_gr rfl
theorem e_40_9 : Ev X 40 9 ls st h Q ↔ onR (gl ls 0) (fun z => Ev X 40 10 ls (vr z :: st) h Q) := R_al rfl (Or.inl rfl)
theorem e_40_10 {x : Nat} : Ev X 40 10 ls (vr x :: st) h Q ↔ (X.1 x = 5 ∧ Ev X 40 11 ls (vi (h.2 x 1) :: st) h Q) := R_gi rfl
theorem e_40_11 : Ev X 40 11 ls st h Q ↔ onI (gl ls 2) (fun z => Ev X 40 12 ls (vi z :: st) h Q) := R_il rfl (Or.inl rfl)
theorem e_40_12 {x : Nat} {j v : Int} : Ev X 40 12 ls (vi v :: vi j :: vr x :: st) h Q ↔ ((X.1 x = 13 ∧ 0 ≤ j ∧ j < X.2.1 x) ∧ Ev X 40 13 ls st (up2 h.1 x j.toNat v, h.2) Q) := R_ias rfl
theorem e_40_13 : Ev X 40 13 ls st h Q ↔ onR (gl ls 0) (fun z => Ev X 40 14 ls (vr z :: st) h Q) := R_al rfl (Or.inl rfl)
theorem e_40_14 : Ev X 40 14 ls st h Q ↔ onR (gl ls 0) (fun z => Ev X 40 15 ls (vr z :: st) h Q) := R_al rfl (Or.inl rfl)
theorem e_40_15 {x : Nat} : Ev X 40 15 ls (vr x :: st) h Q ↔ (X.1 x = 5 ∧ Ev X 40 16 ls (vi (h.2 x 1) :: st) h Q) := R_gi rfl
theorem e_40_16 : Ev X 40 16 ls st h Q ↔ Ev X 40 17 ls (vi 1 :: st) h Q := R_kc rfl (Or.inl ⟨Or.inl rfl, by decide⟩)
theorem e_40_17 {x y : Int} : Ev X 40 17 ls (vi y :: vi x :: st) h Q ↔ ((inR (x + y)) ∧ Ev X 40 18 ls (vi (x + y) :: st) h Q) := R_add rfl
theorem e_40_18 : Ev X 40 18 ls st h Q ↔ Ev X 40 19 ls (vi 12 :: st) h Q := R_kc rfl (Or.inr (Or.inl ⟨rfl, by decide⟩))
theorem e_40_19 {x y : Int} : Ev X 40 19 ls (vi y :: vi x :: st) h Q ↔ ((y ≠ 0 ∧ inR (x.tdiv y)) ∧ Ev X 40 20 ls (vi (x.tmod y) :: st) h Q) := R_rem rfl
theorem e_40_20 {x : Nat} {v : Int} : Ev X 40 20 ls (vi v :: vr x :: st) h Q ↔ (X.1 x = 5 ∧ Ev X 40 21 ls st (h.1, up2 h.2 x 1 v) Q) := R_pi rfl
theorem e_40_21 : Ev X 40 21 ls st h Q ↔ onR (gl ls 0) (fun z => Ev X 40 22 ls (vr z :: st) h Q) := R_al rfl (Or.inl rfl)
theorem e_40_22 : Ev X 40 22 ls st h Q ↔ Ev X 40 23 ls (vi 12 :: st) h Q := R_kc rfl (Or.inr (Or.inl ⟨rfl, by decide⟩))
theorem e_40_23 : Ev X 40 23 ls st h Q ↔ onR (gl ls 0) (fun z => Ev X 40 24 ls (vr z :: st) h Q) := R_al rfl (Or.inl rfl)
theorem e_40_24 {x : Nat} : Ev X 40 24 ls (vr x :: st) h Q ↔ (X.1 x = 5 ∧ Ev X 40 25 ls (vi (h.2 x 0) :: st) h Q) := R_gi rfl
theorem e_40_25 : Ev X 40 25 ls st h Q ↔ Ev X 40 26 ls (vi 1 :: st) h Q := R_kc rfl (Or.inl ⟨Or.inl rfl, by decide⟩)
theorem e_40_26 {x y : Int} : Ev X 40 26 ls (vi y :: vi x :: st) h Q ↔ ((inR (x + y)) ∧ Ev X 40 27 ls (vi (x + y) :: st) h Q) := R_add rfl
theorem e_40_27 {rest : List xV} {a0 : Int} {a1 : Int} : Ev X 40 27 ls ((vi a1) :: (vi a0) :: rest) h Q ↔ (wd rest ≤ 8 ∧ Cl X 285 [vi a0, vi a1] h (fun r h2 => Ev X 40 28 ls (r.toList ++ rest) h2 Q)) := R_cs (as := [vi a0, vi a1]) (k2 := 285) rfl rfl (Nat.le_of_ble_eq_true rfl)
theorem e_40_28 {x : Nat} {v : Int} : Ev X 40 28 ls (vi v :: vr x :: st) h Q ↔ (X.1 x = 5 ∧ Ev X 40 29 ls st (h.1, up2 h.2 x 0 v) Q) := R_pi rfl
theorem e_40_29 : Ev X 40 29 ls [] h Q ↔ Q none h := R_vr rfl
-- 41: CellRows$History.takeBack(LCellRows$Plan;)I
theorem e_41_0 : Ev X 41 0 ls st h Q ↔ onR (gl ls 0) (fun z => Ev X 41 1 ls (vr z :: st) h Q) := R_al rfl (Or.inl rfl)
theorem e_41_1 : Ev X 41 1 ls st h Q ↔ onR (gl ls 0) (fun z => Ev X 41 2 ls (vr z :: st) h Q) := R_al rfl (Or.inl rfl)
theorem e_41_2 {x : Nat} : Ev X 41 2 ls (vr x :: st) h Q ↔ (X.1 x = 5 ∧ Ev X 41 3 ls (vi (h.2 x 1) :: st) h Q) := R_gi rfl
theorem e_41_3 : Ev X 41 3 ls st h Q ↔ Ev X 41 4 ls (vi 12 :: st) h Q := R_kc rfl (Or.inr (Or.inl ⟨rfl, by decide⟩))
theorem e_41_4 {x y : Int} : Ev X 41 4 ls (vi y :: vi x :: st) h Q ↔ ((inR (x + y)) ∧ Ev X 41 5 ls (vi (x + y) :: st) h Q) := R_add rfl
theorem e_41_5 : Ev X 41 5 ls st h Q ↔ Ev X 41 6 ls (vi 1 :: st) h Q := R_kc rfl (Or.inl ⟨Or.inl rfl, by decide⟩)
theorem e_41_6 {x y : Int} : Ev X 41 6 ls (vi y :: vi x :: st) h Q ↔ ((inR (x - y)) ∧ Ev X 41 7 ls (vi (x - y) :: st) h Q) := R_sub rfl
theorem e_41_7 : Ev X 41 7 ls st h Q ↔ Ev X 41 8 ls (vi 12 :: st) h Q := R_kc rfl (Or.inr (Or.inl ⟨rfl, by decide⟩))
theorem e_41_8 {x y : Int} : Ev X 41 8 ls (vi y :: vi x :: st) h Q ↔ ((y ≠ 0 ∧ inR (x.tdiv y)) ∧ Ev X 41 9 ls (vi (x.tmod y) :: st) h Q) := R_rem rfl
theorem e_41_9 {x : Nat} {v : Int} : Ev X 41 9 ls (vi v :: vr x :: st) h Q ↔ (X.1 x = 5 ∧ Ev X 41 10 ls st (h.1, up2 h.2 x 1 v) Q) := R_pi rfl
theorem e_41_10 : Ev X 41 10 ls st h Q ↔ onR (gl ls 0) (fun z => Ev X 41 11 ls (vr z :: st) h Q) := R_al rfl (Or.inl rfl)
theorem e_41_11 {v : xV} : Ev X 41 11 ls (v :: st) h Q ↔ (ct1 v = true ∧ Ev X 41 12 ls (v :: v :: st) h Q) := R_dup rfl
theorem e_41_12 {x : Nat} : Ev X 41 12 ls (vr x :: st) h Q ↔ (X.1 x = 5 ∧ Ev X 41 13 ls (vi (h.2 x 0) :: st) h Q) := R_gi rfl
theorem e_41_13 : Ev X 41 13 ls st h Q ↔ Ev X 41 14 ls (vi 1 :: st) h Q := R_kc rfl (Or.inl ⟨Or.inl rfl, by decide⟩)
theorem e_41_14 {x y : Int} : Ev X 41 14 ls (vi y :: vi x :: st) h Q ↔ ((inR (x - y)) ∧ Ev X 41 15 ls (vi (x - y) :: st) h Q) := R_sub rfl
theorem e_41_15 {x : Nat} {v : Int} : Ev X 41 15 ls (vi v :: vr x :: st) h Q ↔ (X.1 x = 5 ∧ Ev X 41 16 ls st (h.1, up2 h.2 x 0 v) Q) := R_pi rfl
theorem e_41_16 : Ev X 41 16 ls st h Q ↔ onR (gl ls 1) (fun z => Ev X 41 17 ls (vr z :: st) h Q) := R_al rfl (Or.inl rfl)
theorem e_41_17 : Ev X 41 17 ls st h Q ↔ onR (gl ls 0) (fun z => Ev X 41 18 ls (vr z :: st) h Q) := R_al rfl (Or.inl rfl)
theorem e_41_18 {x : Nat} : Ev X 41 18 ls (vr x :: st) h Q ↔ (X.1 x = 5 ∧ Ev X 41 19 ls (vr (X.2.2.1 x 2) :: st) h Q) := R_gr rfl
theorem e_41_19 : Ev X 41 19 ls st h Q ↔ onR (gl ls 0) (fun z => Ev X 41 20 ls (vr z :: st) h Q) := R_al rfl (Or.inl rfl)
theorem e_41_20 {x : Nat} : Ev X 41 20 ls (vr x :: st) h Q ↔ (X.1 x = 5 ∧ Ev X 41 21 ls (vi (h.2 x 1) :: st) h Q) := R_gi rfl
theorem e_41_21 {x : Nat} {j : Int} : Ev X 41 21 ls (vi j :: vr x :: st) h Q ↔ ((X.1 x = 15 ∧ 0 ≤ j ∧ j < X.2.1 x) ∧ Ev X 41 22 ls (vr (X.2.2.1 x j.toNat) :: st) h Q) := R_aa rfl
theorem e_41_22 {rest : List xV} {a0 : Nat} {o : Nat} : Ev X 41 22 ls ((vr a0) :: vr o :: rest) h Q ↔ ((X.1 o = 9 ∧ wd rest ≤ 8) ∧ Cl X 74 [vr o, vr a0] h (fun r h2 => Ev X 41 23 ls (r.toList ++ rest) h2 Q)) := R_cv (x := o) (as := [vr a0]) (k2 := 74) rfl rfl (Nat.le_of_ble_eq_true rfl)
theorem e_41_23 : Ev X 41 23 ls st h Q ↔ onR (gl ls 0) (fun z => Ev X 41 24 ls (vr z :: st) h Q) := R_al rfl (Or.inl rfl)
theorem e_41_24 {x : Nat} : Ev X 41 24 ls (vr x :: st) h Q ↔ (X.1 x = 5 ∧ Ev X 41 25 ls (vr (X.2.2.1 x 3) :: st) h Q) := R_gr rfl
theorem e_41_25 : Ev X 41 25 ls st h Q ↔ onR (gl ls 0) (fun z => Ev X 41 26 ls (vr z :: st) h Q) := R_al rfl (Or.inl rfl)
theorem e_41_26 {x : Nat} : Ev X 41 26 ls (vr x :: st) h Q ↔ (X.1 x = 5 ∧ Ev X 41 27 ls (vi (h.2 x 1) :: st) h Q) := R_gi rfl
theorem e_41_27 {x : Nat} {j : Int} : Ev X 41 27 ls (vi j :: vr x :: st) h Q ↔ (((X.1 x = 13 ∨ X.1 x = 20) ∧ 0 ≤ j ∧ j < X.2.1 x) ∧ Ev X 41 28 ls (vi (h.1 x j.toNat) :: st) h Q) := R_ia rfl
theorem e_41_28 {z : Int} : Ev X 41 28 ls [vi z] h Q ↔ Q (some (vi z)) h := R_ir rfl
-- 42: CellRows$Nets.copyFrom(LCellRows$Nets;)V
theorem e_42_0 : Ev X 42 0 ls st h Q ↔ onR (gl ls 0) (fun z => Ev X 42 1 ls (vr z :: st) h Q) := R_al rfl (Or.inl rfl)
theorem e_42_1 : Ev X 42 1 ls st h Q ↔ onR (gl ls 1) (fun z => Ev X 42 2 ls (vr z :: st) h Q) := R_al rfl (Or.inl rfl)
theorem e_42_2 {x : Nat} : Ev X 42 2 ls (vr x :: st) h Q ↔ (X.1 x = 6 ∧ Ev X 42 3 ls (vi (h.2 x 0) :: st) h Q) := R_gi rfl
theorem e_42_3 {x : Nat} {v : Int} : Ev X 42 3 ls (vi v :: vr x :: st) h Q ↔ (X.1 x = 6 ∧ Ev X 42 4 ls st (h.1, up2 h.2 x 0 v) Q) := R_pi rfl
theorem e_42_4 : Ev X 42 4 ls st h Q ↔ onR (gl ls 1) (fun z => Ev X 42 5 ls (vr z :: st) h Q) := R_al rfl (Or.inl rfl)
theorem e_42_5 {x : Nat} : Ev X 42 5 ls (vr x :: st) h Q ↔ (X.1 x = 6 ∧ Ev X 42 6 ls (vr (X.2.2.1 x 1) :: st) h Q) := R_gr rfl
theorem e_42_6 : Ev X 42 6 ls st h Q ↔ Ev X 42 7 ls (vi 0 :: st) h Q := R_kc rfl (Or.inl ⟨Or.inl rfl, by decide⟩)
theorem e_42_7 : Ev X 42 7 ls st h Q ↔ onR (gl ls 0) (fun z => Ev X 42 8 ls (vr z :: st) h Q) := R_al rfl (Or.inl rfl)
theorem e_42_8 {x : Nat} : Ev X 42 8 ls (vr x :: st) h Q ↔ (X.1 x = 6 ∧ Ev X 42 9 ls (vr (X.2.2.1 x 1) :: st) h Q) := R_gr rfl
theorem e_42_9 : Ev X 42 9 ls st h Q ↔ Ev X 42 10 ls (vi 0 :: st) h Q := R_kc rfl (Or.inl ⟨Or.inl rfl, by decide⟩)
theorem e_42_10 : Ev X 42 10 ls st h Q ↔ Ev X 42 11 ls (vi 16 :: st) h Q := R_kc rfl (Or.inr (Or.inl ⟨rfl, by decide⟩))
theorem e_42_11 {x d : Nat} {sp dp n : Int} : Ev X 42 11 ls [vi n, vi dp, vr d, vi sp, vr x] h Q ↔ ((((X.1 x = 13 ∧ X.1 d = 13) ∨ (X.1 x = 14 ∧ X.1 d = 14)) ∧ 0 ≤ sp ∧ 0 ≤ dp ∧ 0 ≤ n ∧ sp + n ≤ X.2.1 x ∧ dp + n ≤ X.2.1 d) ∧ Ev X 42 12 ls [] (up1 h.1 d (va_cpy (h.1 x) (h.1 d) sp.toNat dp.toNat n.toNat), h.2) Q) := R_cp rfl
theorem e_42_12 : Ev X 42 12 ls st h Q ↔ onR (gl ls 1) (fun z => Ev X 42 13 ls (vr z :: st) h Q) := R_al rfl (Or.inl rfl)
theorem e_42_13 {x : Nat} : Ev X 42 13 ls (vr x :: st) h Q ↔ (X.1 x = 6 ∧ Ev X 42 14 ls (vr (X.2.2.1 x 2) :: st) h Q) := R_gr rfl
theorem e_42_14 : Ev X 42 14 ls st h Q ↔ Ev X 42 15 ls (vi 0 :: st) h Q := R_kc rfl (Or.inl ⟨Or.inl rfl, by decide⟩)
theorem e_42_15 : Ev X 42 15 ls st h Q ↔ onR (gl ls 0) (fun z => Ev X 42 16 ls (vr z :: st) h Q) := R_al rfl (Or.inl rfl)
theorem e_42_16 {x : Nat} : Ev X 42 16 ls (vr x :: st) h Q ↔ (X.1 x = 6 ∧ Ev X 42 17 ls (vr (X.2.2.1 x 2) :: st) h Q) := R_gr rfl
theorem e_42_17 : Ev X 42 17 ls st h Q ↔ Ev X 42 18 ls (vi 0 :: st) h Q := R_kc rfl (Or.inl ⟨Or.inl rfl, by decide⟩)
theorem e_42_18 : Ev X 42 18 ls st h Q ↔ Ev X 42 19 ls (vi 16 :: st) h Q := R_kc rfl (Or.inr (Or.inl ⟨rfl, by decide⟩))
theorem e_42_19 {x d : Nat} {sp dp n : Int} : Ev X 42 19 ls [vi n, vi dp, vr d, vi sp, vr x] h Q ↔ ((((X.1 x = 13 ∧ X.1 d = 13) ∨ (X.1 x = 14 ∧ X.1 d = 14)) ∧ 0 ≤ sp ∧ 0 ≤ dp ∧ 0 ≤ n ∧ sp + n ≤ X.2.1 x ∧ dp + n ≤ X.2.1 d) ∧ Ev X 42 20 ls [] (up1 h.1 d (va_cpy (h.1 x) (h.1 d) sp.toNat dp.toNat n.toNat), h.2) Q) := R_cp rfl
theorem e_42_20 : Ev X 42 20 ls st h Q ↔ onR (gl ls 1) (fun z => Ev X 42 21 ls (vr z :: st) h Q) := R_al rfl (Or.inl rfl)
theorem e_42_21 {x : Nat} : Ev X 42 21 ls (vr x :: st) h Q ↔ (X.1 x = 6 ∧ Ev X 42 22 ls (vr (X.2.2.1 x 3) :: st) h Q) := R_gr rfl
theorem e_42_22 : Ev X 42 22 ls st h Q ↔ Ev X 42 23 ls (vi 0 :: st) h Q := R_kc rfl (Or.inl ⟨Or.inl rfl, by decide⟩)
theorem e_42_23 : Ev X 42 23 ls st h Q ↔ onR (gl ls 0) (fun z => Ev X 42 24 ls (vr z :: st) h Q) := R_al rfl (Or.inl rfl)
theorem e_42_24 {x : Nat} : Ev X 42 24 ls (vr x :: st) h Q ↔ (X.1 x = 6 ∧ Ev X 42 25 ls (vr (X.2.2.1 x 3) :: st) h Q) := R_gr rfl
theorem e_42_25 : Ev X 42 25 ls st h Q ↔ Ev X 42 26 ls (vi 0 :: st) h Q := R_kc rfl (Or.inl ⟨Or.inl rfl, by decide⟩)
theorem e_42_26 : Ev X 42 26 ls st h Q ↔ Ev X 42 27 ls (vi 96 :: st) h Q := R_kc rfl (Or.inr (Or.inl ⟨rfl, by decide⟩))
theorem e_42_27 {x d : Nat} {sp dp n : Int} : Ev X 42 27 ls [vi n, vi dp, vr d, vi sp, vr x] h Q ↔ ((((X.1 x = 13 ∧ X.1 d = 13) ∨ (X.1 x = 14 ∧ X.1 d = 14)) ∧ 0 ≤ sp ∧ 0 ≤ dp ∧ 0 ≤ n ∧ sp + n ≤ X.2.1 x ∧ dp + n ≤ X.2.1 d) ∧ Ev X 42 28 ls [] (up1 h.1 d (va_cpy (h.1 x) (h.1 d) sp.toNat dp.toNat n.toNat), h.2) Q) := R_cp rfl
theorem e_42_28 : Ev X 42 28 ls st h Q ↔ onR (gl ls 1) (fun z => Ev X 42 29 ls (vr z :: st) h Q) := R_al rfl (Or.inl rfl)
theorem e_42_29 {x : Nat} : Ev X 42 29 ls (vr x :: st) h Q ↔ (X.1 x = 6 ∧ Ev X 42 30 ls (vr (X.2.2.1 x 4) :: st) h Q) := R_gr rfl
theorem e_42_30 : Ev X 42 30 ls st h Q ↔ Ev X 42 31 ls (vi 0 :: st) h Q := R_kc rfl (Or.inl ⟨Or.inl rfl, by decide⟩)
theorem e_42_31 : Ev X 42 31 ls st h Q ↔ onR (gl ls 0) (fun z => Ev X 42 32 ls (vr z :: st) h Q) := R_al rfl (Or.inl rfl)
theorem e_42_32 {x : Nat} : Ev X 42 32 ls (vr x :: st) h Q ↔ (X.1 x = 6 ∧ Ev X 42 33 ls (vr (X.2.2.1 x 4) :: st) h Q) := R_gr rfl
theorem e_42_33 : Ev X 42 33 ls st h Q ↔ Ev X 42 34 ls (vi 0 :: st) h Q := R_kc rfl (Or.inl ⟨Or.inl rfl, by decide⟩)
theorem e_42_34 : Ev X 42 34 ls st h Q ↔ Ev X 42 35 ls (vi 96 :: st) h Q := R_kc rfl (Or.inr (Or.inl ⟨rfl, by decide⟩))
theorem e_42_35 {x d : Nat} {sp dp n : Int} : Ev X 42 35 ls [vi n, vi dp, vr d, vi sp, vr x] h Q ↔ ((((X.1 x = 13 ∧ X.1 d = 13) ∨ (X.1 x = 14 ∧ X.1 d = 14)) ∧ 0 ≤ sp ∧ 0 ≤ dp ∧ 0 ≤ n ∧ sp + n ≤ X.2.1 x ∧ dp + n ≤ X.2.1 d) ∧ Ev X 42 36 ls [] (up1 h.1 d (va_cpy (h.1 x) (h.1 d) sp.toNat dp.toNat n.toNat), h.2) Q) := R_cp rfl
theorem e_42_36 : Ev X 42 36 ls [] h Q ↔ Q none h := R_vr rfl
-- 43: CellRows$Nets.add(I[II)V
theorem e_43_0 : Ev X 43 0 ls st h Q ↔ onR (gl ls 0) (fun z => Ev X 43 1 ls (vr z :: st) h Q) := R_al rfl (Or.inl rfl)
theorem e_43_1 {x : Nat} : Ev X 43 1 ls (vr x :: st) h Q ↔ (X.1 x = 6 ∧ Ev X 43 2 ls (vi (h.2 x 0) :: st) h Q) := R_gi rfl
theorem e_43_2 : Ev X 43 2 ls st h Q ↔ Ev X 43 3 ls (vi 16 :: st) h Q := R_kc rfl (Or.inr (Or.inl ⟨rfl, by decide⟩))
theorem e_43_3 {x y : Int} : Ev X 43 3 ls (vi y :: vi x :: st) h Q ↔ (if y ≤ x then Ev X 43 13 ls st h Q else Ev X 43 4 ls st h Q) := R_icge rfl
theorem e_43_4 : Ev X 43 4 ls st h Q ↔ onI (gl ls 3) (fun z => Ev X 43 5 ls (vi z :: st) h Q) := R_il rfl (Or.inl rfl)
theorem e_43_5 : Ev X 43 5 ls st h Q ↔ Ev X 43 6 ls (vi 6 :: st) h Q := R_kc rfl (Or.inr (Or.inl ⟨rfl, by decide⟩))
theorem e_43_6 {x y : Int} : Ev X 43 6 ls (vi y :: vi x :: st) h Q ↔ (if y < x then Ev X 43 13 ls st h Q else Ev X 43 7 ls st h Q) := R_icgt rfl
theorem e_43_7 : Ev X 43 7 ls st h Q ↔ Ev X 43 8 ls (vi 2 :: st) h Q := R_kc rfl (Or.inl ⟨Or.inl rfl, by decide⟩)
theorem e_43_8 : Ev X 43 8 ls st h Q ↔ onI (gl ls 3) (fun z => Ev X 43 9 ls (vi z :: st) h Q) := R_il rfl (Or.inl rfl)
theorem e_43_9 {x y : Int} : Ev X 43 9 ls (vi y :: vi x :: st) h Q ↔ ((inR (x * y)) ∧ Ev X 43 10 ls (vi (x * y) :: st) h Q) := R_mul rfl
theorem e_43_10 : Ev X 43 10 ls st h Q ↔ onR (gl ls 2) (fun z => Ev X 43 11 ls (vr z :: st) h Q) := R_al rfl (Or.inl rfl)
theorem e_43_11 {x : Nat} : Ev X 43 11 ls (vr x :: st) h Q ↔ ((X.1 x = 13 ∨ X.1 x = 20) ∧ Ev X 43 12 ls (vi (X.2.1 x) :: st) h Q) := R_len rfl
theorem e_43_12 {x y : Int} : Ev X 43 12 ls (vi y :: vi x :: st) h Q ↔ (if x ≤ y then Ev X 43 14 ls st h Q else Ev X 43 13 ls st h Q) := R_icle rfl
theorem e_43_13 : Ev X 43 13 ls [] h Q ↔ Q none h := R_vr rfl
theorem e_43_14 : Ev X 43 14 ls st h Q ↔ onR (gl ls 0) (fun z => Ev X 43 15 ls (vr z :: st) h Q) := R_al rfl (Or.inl rfl)
theorem e_43_15 {x : Nat} : Ev X 43 15 ls (vr x :: st) h Q ↔ (X.1 x = 6 ∧ Ev X 43 16 ls (vr (X.2.2.1 x 1) :: st) h Q) := R_gr rfl
theorem e_43_16 : Ev X 43 16 ls st h Q ↔ onR (gl ls 0) (fun z => Ev X 43 17 ls (vr z :: st) h Q) := R_al rfl (Or.inl rfl)
theorem e_43_17 {x : Nat} : Ev X 43 17 ls (vr x :: st) h Q ↔ (X.1 x = 6 ∧ Ev X 43 18 ls (vi (h.2 x 0) :: st) h Q) := R_gi rfl
theorem e_43_18 : Ev X 43 18 ls st h Q ↔ onI (gl ls 1) (fun z => Ev X 43 19 ls (vi z :: st) h Q) := R_il rfl (Or.inl rfl)
theorem e_43_19 {x : Nat} {j v : Int} : Ev X 43 19 ls (vi v :: vi j :: vr x :: st) h Q ↔ ((X.1 x = 13 ∧ 0 ≤ j ∧ j < X.2.1 x) ∧ Ev X 43 20 ls st (up2 h.1 x j.toNat v, h.2) Q) := R_ias rfl
theorem e_43_20 : Ev X 43 20 ls st h Q ↔ onR (gl ls 0) (fun z => Ev X 43 21 ls (vr z :: st) h Q) := R_al rfl (Or.inl rfl)
theorem e_43_21 {x : Nat} : Ev X 43 21 ls (vr x :: st) h Q ↔ (X.1 x = 6 ∧ Ev X 43 22 ls (vr (X.2.2.1 x 2) :: st) h Q) := R_gr rfl
theorem e_43_22 : Ev X 43 22 ls st h Q ↔ onR (gl ls 0) (fun z => Ev X 43 23 ls (vr z :: st) h Q) := R_al rfl (Or.inl rfl)
theorem e_43_23 {x : Nat} : Ev X 43 23 ls (vr x :: st) h Q ↔ (X.1 x = 6 ∧ Ev X 43 24 ls (vi (h.2 x 0) :: st) h Q) := R_gi rfl
theorem e_43_24 : Ev X 43 24 ls st h Q ↔ onI (gl ls 3) (fun z => Ev X 43 25 ls (vi z :: st) h Q) := R_il rfl (Or.inl rfl)
theorem e_43_25 {x : Nat} {j v : Int} : Ev X 43 25 ls (vi v :: vi j :: vr x :: st) h Q ↔ ((X.1 x = 13 ∧ 0 ≤ j ∧ j < X.2.1 x) ∧ Ev X 43 26 ls st (up2 h.1 x j.toNat v, h.2) Q) := R_ias rfl
theorem e_43_26 : Ev X 43 26 ls st h Q ↔ Ev X 43 27 ls (vi 0 :: st) h Q := R_kc rfl (Or.inl ⟨Or.inl rfl, by decide⟩)
theorem e_43_27 {x : Int} : Ev X 43 27 ls (vi x :: st) h Q ↔ (stOK ls 4 = true ∧ Ev X 43 28 (ls.set 4 (some (vi x))) st h Q) := R_is rfl (Or.inr rfl)
theorem e_43_28 : Ev X 43 28 ls st h Q ↔ onI (gl ls 4) (fun z => Ev X 43 29 ls (vi z :: st) h Q) := R_il rfl (Or.inr rfl)
theorem e_43_29 : Ev X 43 29 ls st h Q ↔ onI (gl ls 3) (fun z => Ev X 43 30 ls (vi z :: st) h Q) := R_il rfl (Or.inl rfl)
theorem e_43_30 {x y : Int} : Ev X 43 30 ls (vi y :: vi x :: st) h Q ↔ (if y ≤ x then Ev X 43 63 ls st h Q else Ev X 43 31 ls st h Q) := R_icge rfl
theorem e_43_31 : Ev X 43 31 ls st h Q ↔ onR (gl ls 0) (fun z => Ev X 43 32 ls (vr z :: st) h Q) := R_al rfl (Or.inl rfl)
theorem e_43_32 {x : Nat} : Ev X 43 32 ls (vr x :: st) h Q ↔ (X.1 x = 6 ∧ Ev X 43 33 ls (vr (X.2.2.1 x 3) :: st) h Q) := R_gr rfl
theorem e_43_33 : Ev X 43 33 ls st h Q ↔ onR (gl ls 0) (fun z => Ev X 43 34 ls (vr z :: st) h Q) := R_al rfl (Or.inl rfl)
theorem e_43_34 {x : Nat} : Ev X 43 34 ls (vr x :: st) h Q ↔ (X.1 x = 6 ∧ Ev X 43 35 ls (vi (h.2 x 0) :: st) h Q) := R_gi rfl
theorem e_43_35 : Ev X 43 35 ls st h Q ↔ Ev X 43 36 ls (vi 6 :: st) h Q := R_kc rfl (Or.inr (Or.inl ⟨rfl, by decide⟩))
theorem e_43_36 {x y : Int} : Ev X 43 36 ls (vi y :: vi x :: st) h Q ↔ ((inR (x * y)) ∧ Ev X 43 37 ls (vi (x * y) :: st) h Q) := R_mul rfl
theorem e_43_37 : Ev X 43 37 ls st h Q ↔ onI (gl ls 4) (fun z => Ev X 43 38 ls (vi z :: st) h Q) := R_il rfl (Or.inr rfl)
theorem e_43_38 {x y : Int} : Ev X 43 38 ls (vi y :: vi x :: st) h Q ↔ ((inR (x + y)) ∧ Ev X 43 39 ls (vi (x + y) :: st) h Q) := R_add rfl
theorem e_43_39 : Ev X 43 39 ls st h Q ↔ onR (gl ls 2) (fun z => Ev X 43 40 ls (vr z :: st) h Q) := R_al rfl (Or.inl rfl)
theorem e_43_40 : Ev X 43 40 ls st h Q ↔ Ev X 43 41 ls (vi 2 :: st) h Q := R_kc rfl (Or.inl ⟨Or.inl rfl, by decide⟩)
theorem e_43_41 : Ev X 43 41 ls st h Q ↔ onI (gl ls 4) (fun z => Ev X 43 42 ls (vi z :: st) h Q) := R_il rfl (Or.inr rfl)
theorem e_43_42 {x y : Int} : Ev X 43 42 ls (vi y :: vi x :: st) h Q ↔ ((inR (x * y)) ∧ Ev X 43 43 ls (vi (x * y) :: st) h Q) := R_mul rfl
theorem e_43_43 {x : Nat} {j : Int} : Ev X 43 43 ls (vi j :: vr x :: st) h Q ↔ (((X.1 x = 13 ∨ X.1 x = 20) ∧ 0 ≤ j ∧ j < X.2.1 x) ∧ Ev X 43 44 ls (vi (h.1 x j.toNat) :: st) h Q) := R_ia rfl
theorem e_43_44 {x : Nat} {j v : Int} : Ev X 43 44 ls (vi v :: vi j :: vr x :: st) h Q ↔ ((X.1 x = 13 ∧ 0 ≤ j ∧ j < X.2.1 x) ∧ Ev X 43 45 ls st (up2 h.1 x j.toNat v, h.2) Q) := R_ias rfl
theorem e_43_45 : Ev X 43 45 ls st h Q ↔ onR (gl ls 0) (fun z => Ev X 43 46 ls (vr z :: st) h Q) := R_al rfl (Or.inl rfl)
theorem e_43_46 {x : Nat} : Ev X 43 46 ls (vr x :: st) h Q ↔ (X.1 x = 6 ∧ Ev X 43 47 ls (vr (X.2.2.1 x 4) :: st) h Q) := R_gr rfl
theorem e_43_47 : Ev X 43 47 ls st h Q ↔ onR (gl ls 0) (fun z => Ev X 43 48 ls (vr z :: st) h Q) := R_al rfl (Or.inl rfl)
theorem e_43_48 {x : Nat} : Ev X 43 48 ls (vr x :: st) h Q ↔ (X.1 x = 6 ∧ Ev X 43 49 ls (vi (h.2 x 0) :: st) h Q) := R_gi rfl
theorem e_43_49 : Ev X 43 49 ls st h Q ↔ Ev X 43 50 ls (vi 6 :: st) h Q := R_kc rfl (Or.inr (Or.inl ⟨rfl, by decide⟩))
theorem e_43_50 {x y : Int} : Ev X 43 50 ls (vi y :: vi x :: st) h Q ↔ ((inR (x * y)) ∧ Ev X 43 51 ls (vi (x * y) :: st) h Q) := R_mul rfl
theorem e_43_51 : Ev X 43 51 ls st h Q ↔ onI (gl ls 4) (fun z => Ev X 43 52 ls (vi z :: st) h Q) := R_il rfl (Or.inr rfl)
theorem e_43_52 {x y : Int} : Ev X 43 52 ls (vi y :: vi x :: st) h Q ↔ ((inR (x + y)) ∧ Ev X 43 53 ls (vi (x + y) :: st) h Q) := R_add rfl
theorem e_43_53 : Ev X 43 53 ls st h Q ↔ onR (gl ls 2) (fun z => Ev X 43 54 ls (vr z :: st) h Q) := R_al rfl (Or.inl rfl)
theorem e_43_54 : Ev X 43 54 ls st h Q ↔ Ev X 43 55 ls (vi 2 :: st) h Q := R_kc rfl (Or.inl ⟨Or.inl rfl, by decide⟩)
theorem e_43_55 : Ev X 43 55 ls st h Q ↔ onI (gl ls 4) (fun z => Ev X 43 56 ls (vi z :: st) h Q) := R_il rfl (Or.inr rfl)
theorem e_43_56 {x y : Int} : Ev X 43 56 ls (vi y :: vi x :: st) h Q ↔ ((inR (x * y)) ∧ Ev X 43 57 ls (vi (x * y) :: st) h Q) := R_mul rfl
theorem e_43_57 : Ev X 43 57 ls st h Q ↔ Ev X 43 58 ls (vi 1 :: st) h Q := R_kc rfl (Or.inl ⟨Or.inl rfl, by decide⟩)
theorem e_43_58 {x y : Int} : Ev X 43 58 ls (vi y :: vi x :: st) h Q ↔ ((inR (x + y)) ∧ Ev X 43 59 ls (vi (x + y) :: st) h Q) := R_add rfl
theorem e_43_59 {x : Nat} {j : Int} : Ev X 43 59 ls (vi j :: vr x :: st) h Q ↔ (((X.1 x = 13 ∨ X.1 x = 20) ∧ 0 ≤ j ∧ j < X.2.1 x) ∧ Ev X 43 60 ls (vi (h.1 x j.toNat) :: st) h Q) := R_ia rfl
theorem e_43_60 {x : Nat} {j v : Int} : Ev X 43 60 ls (vi v :: vi j :: vr x :: st) h Q ↔ ((X.1 x = 13 ∧ 0 ≤ j ∧ j < X.2.1 x) ∧ Ev X 43 61 ls st (up2 h.1 x j.toNat v, h.2) Q) := R_ias rfl
theorem e_43_61 : Ev X 43 61 ls st h Q ↔ onI (gl ls 4) (fun x => (stOK ls 4 = true ∧ inR (x + 1)) ∧ Ev X 43 62 (ls.set 4 (some (vi (x + 1)))) st h Q) := R_inc rfl
theorem e_43_62 : Ev X 43 62 ls st h Q ↔ Ev X 43 28 ls st h Q := R_go rfl
theorem e_43_63 : Ev X 43 63 ls st h Q ↔ onR (gl ls 0) (fun z => Ev X 43 64 ls (vr z :: st) h Q) := R_al rfl (Or.inl rfl)
theorem e_43_64 {v : xV} : Ev X 43 64 ls (v :: st) h Q ↔ (ct1 v = true ∧ Ev X 43 65 ls (v :: v :: st) h Q) := R_dup rfl
theorem e_43_65 {x : Nat} : Ev X 43 65 ls (vr x :: st) h Q ↔ (X.1 x = 6 ∧ Ev X 43 66 ls (vi (h.2 x 0) :: st) h Q) := R_gi rfl
theorem e_43_66 : Ev X 43 66 ls st h Q ↔ Ev X 43 67 ls (vi 1 :: st) h Q := R_kc rfl (Or.inl ⟨Or.inl rfl, by decide⟩)
theorem e_43_67 {x y : Int} : Ev X 43 67 ls (vi y :: vi x :: st) h Q ↔ ((inR (x + y)) ∧ Ev X 43 68 ls (vi (x + y) :: st) h Q) := R_add rfl
theorem e_43_68 {x : Nat} {v : Int} : Ev X 43 68 ls (vi v :: vr x :: st) h Q ↔ (X.1 x = 6 ∧ Ev X 43 69 ls st (h.1, up2 h.2 x 0 v) Q) := R_pi rfl
theorem e_43_69 : Ev X 43 69 ls [] h Q ↔ Q none h := R_vr rfl
-- 44: CellRows$Nets.remove(I)V
theorem e_44_0 : Ev X 44 0 ls st h Q ↔ onI (gl ls 1) (fun z => Ev X 44 1 ls (vi z :: st) h Q) := R_il rfl (Or.inl rfl)
theorem e_44_1 : Ev X 44 1 ls st h Q ↔ Ev X 44 2 ls (vi 1 :: st) h Q := R_kc rfl (Or.inl ⟨Or.inl rfl, by decide⟩)
theorem e_44_2 {x y : Int} : Ev X 44 2 ls (vi y :: vi x :: st) h Q ↔ ((inR (x + y)) ∧ Ev X 44 3 ls (vi (x + y) :: st) h Q) := R_add rfl
theorem e_44_3 {x : Int} : Ev X 44 3 ls (vi x :: st) h Q ↔ (stOK ls 2 = true ∧ Ev X 44 4 (ls.set 2 (some (vi x))) st h Q) := R_is rfl (Or.inl rfl)
theorem e_44_4 : Ev X 44 4 ls st h Q ↔ onI (gl ls 2) (fun z => Ev X 44 5 ls (vi z :: st) h Q) := R_il rfl (Or.inl rfl)
theorem e_44_5 : Ev X 44 5 ls st h Q ↔ onR (gl ls 0) (fun z => Ev X 44 6 ls (vr z :: st) h Q) := R_al rfl (Or.inl rfl)
theorem e_44_6 {x : Nat} : Ev X 44 6 ls (vr x :: st) h Q ↔ (X.1 x = 6 ∧ Ev X 44 7 ls (vi (h.2 x 0) :: st) h Q) := R_gi rfl
theorem e_44_7 {x y : Int} : Ev X 44 7 ls (vi y :: vi x :: st) h Q ↔ (if y ≤ x then Ev X 44 73 ls st h Q else Ev X 44 8 ls st h Q) := R_icge rfl
theorem e_44_8 : Ev X 44 8 ls st h Q ↔ onR (gl ls 0) (fun z => Ev X 44 9 ls (vr z :: st) h Q) := R_al rfl (Or.inl rfl)
theorem e_44_9 {x : Nat} : Ev X 44 9 ls (vr x :: st) h Q ↔ (X.1 x = 6 ∧ Ev X 44 10 ls (vr (X.2.2.1 x 1) :: st) h Q) := R_gr rfl
theorem e_44_10 : Ev X 44 10 ls st h Q ↔ onI (gl ls 2) (fun z => Ev X 44 11 ls (vi z :: st) h Q) := R_il rfl (Or.inl rfl)
theorem e_44_11 : Ev X 44 11 ls st h Q ↔ Ev X 44 12 ls (vi 1 :: st) h Q := R_kc rfl (Or.inl ⟨Or.inl rfl, by decide⟩)
theorem e_44_12 {x y : Int} : Ev X 44 12 ls (vi y :: vi x :: st) h Q ↔ ((inR (x - y)) ∧ Ev X 44 13 ls (vi (x - y) :: st) h Q) := R_sub rfl
theorem e_44_13 : Ev X 44 13 ls st h Q ↔ onR (gl ls 0) (fun z => Ev X 44 14 ls (vr z :: st) h Q) := R_al rfl (Or.inl rfl)
theorem e_44_14 {x : Nat} : Ev X 44 14 ls (vr x :: st) h Q ↔ (X.1 x = 6 ∧ Ev X 44 15 ls (vr (X.2.2.1 x 1) :: st) h Q) := R_gr rfl
theorem e_44_15 : Ev X 44 15 ls st h Q ↔ onI (gl ls 2) (fun z => Ev X 44 16 ls (vi z :: st) h Q) := R_il rfl (Or.inl rfl)
theorem e_44_16 {x : Nat} {j : Int} : Ev X 44 16 ls (vi j :: vr x :: st) h Q ↔ (((X.1 x = 13 ∨ X.1 x = 20) ∧ 0 ≤ j ∧ j < X.2.1 x) ∧ Ev X 44 17 ls (vi (h.1 x j.toNat) :: st) h Q) := R_ia rfl
theorem e_44_17 {x : Nat} {j v : Int} : Ev X 44 17 ls (vi v :: vi j :: vr x :: st) h Q ↔ ((X.1 x = 13 ∧ 0 ≤ j ∧ j < X.2.1 x) ∧ Ev X 44 18 ls st (up2 h.1 x j.toNat v, h.2) Q) := R_ias rfl
theorem e_44_18 : Ev X 44 18 ls st h Q ↔ onR (gl ls 0) (fun z => Ev X 44 19 ls (vr z :: st) h Q) := R_al rfl (Or.inl rfl)
theorem e_44_19 {x : Nat} : Ev X 44 19 ls (vr x :: st) h Q ↔ (X.1 x = 6 ∧ Ev X 44 20 ls (vr (X.2.2.1 x 2) :: st) h Q) := R_gr rfl
theorem e_44_20 : Ev X 44 20 ls st h Q ↔ onI (gl ls 2) (fun z => Ev X 44 21 ls (vi z :: st) h Q) := R_il rfl (Or.inl rfl)
theorem e_44_21 : Ev X 44 21 ls st h Q ↔ Ev X 44 22 ls (vi 1 :: st) h Q := R_kc rfl (Or.inl ⟨Or.inl rfl, by decide⟩)
theorem e_44_22 {x y : Int} : Ev X 44 22 ls (vi y :: vi x :: st) h Q ↔ ((inR (x - y)) ∧ Ev X 44 23 ls (vi (x - y) :: st) h Q) := R_sub rfl
theorem e_44_23 : Ev X 44 23 ls st h Q ↔ onR (gl ls 0) (fun z => Ev X 44 24 ls (vr z :: st) h Q) := R_al rfl (Or.inl rfl)
theorem e_44_24 {x : Nat} : Ev X 44 24 ls (vr x :: st) h Q ↔ (X.1 x = 6 ∧ Ev X 44 25 ls (vr (X.2.2.1 x 2) :: st) h Q) := R_gr rfl
theorem e_44_25 : Ev X 44 25 ls st h Q ↔ onI (gl ls 2) (fun z => Ev X 44 26 ls (vi z :: st) h Q) := R_il rfl (Or.inl rfl)
theorem e_44_26 {x : Nat} {j : Int} : Ev X 44 26 ls (vi j :: vr x :: st) h Q ↔ (((X.1 x = 13 ∨ X.1 x = 20) ∧ 0 ≤ j ∧ j < X.2.1 x) ∧ Ev X 44 27 ls (vi (h.1 x j.toNat) :: st) h Q) := R_ia rfl
theorem e_44_27 {x : Nat} {j v : Int} : Ev X 44 27 ls (vi v :: vi j :: vr x :: st) h Q ↔ ((X.1 x = 13 ∧ 0 ≤ j ∧ j < X.2.1 x) ∧ Ev X 44 28 ls st (up2 h.1 x j.toNat v, h.2) Q) := R_ias rfl
theorem e_44_28 : Ev X 44 28 ls st h Q ↔ Ev X 44 29 ls (vi 0 :: st) h Q := R_kc rfl (Or.inl ⟨Or.inl rfl, by decide⟩)
theorem e_44_29 {x : Int} : Ev X 44 29 ls (vi x :: st) h Q ↔ (stOK ls 3 = true ∧ Ev X 44 30 (ls.set 3 (some (vi x))) st h Q) := R_is rfl (Or.inl rfl)
theorem e_44_30 : Ev X 44 30 ls st h Q ↔ onI (gl ls 3) (fun z => Ev X 44 31 ls (vi z :: st) h Q) := R_il rfl (Or.inl rfl)
theorem e_44_31 : Ev X 44 31 ls st h Q ↔ Ev X 44 32 ls (vi 6 :: st) h Q := R_kc rfl (Or.inr (Or.inl ⟨rfl, by decide⟩))
theorem e_44_32 {x y : Int} : Ev X 44 32 ls (vi y :: vi x :: st) h Q ↔ (if y ≤ x then Ev X 44 71 ls st h Q else Ev X 44 33 ls st h Q) := R_icge rfl
theorem e_44_33 : Ev X 44 33 ls st h Q ↔ onR (gl ls 0) (fun z => Ev X 44 34 ls (vr z :: st) h Q) := R_al rfl (Or.inl rfl)
theorem e_44_34 {x : Nat} : Ev X 44 34 ls (vr x :: st) h Q ↔ (X.1 x = 6 ∧ Ev X 44 35 ls (vr (X.2.2.1 x 3) :: st) h Q) := R_gr rfl
theorem e_44_35 : Ev X 44 35 ls st h Q ↔ onI (gl ls 2) (fun z => Ev X 44 36 ls (vi z :: st) h Q) := R_il rfl (Or.inl rfl)
theorem e_44_36 : Ev X 44 36 ls st h Q ↔ Ev X 44 37 ls (vi 1 :: st) h Q := R_kc rfl (Or.inl ⟨Or.inl rfl, by decide⟩)
theorem e_44_37 {x y : Int} : Ev X 44 37 ls (vi y :: vi x :: st) h Q ↔ ((inR (x - y)) ∧ Ev X 44 38 ls (vi (x - y) :: st) h Q) := R_sub rfl
theorem e_44_38 : Ev X 44 38 ls st h Q ↔ Ev X 44 39 ls (vi 6 :: st) h Q := R_kc rfl (Or.inr (Or.inl ⟨rfl, by decide⟩))
theorem e_44_39 {x y : Int} : Ev X 44 39 ls (vi y :: vi x :: st) h Q ↔ ((inR (x * y)) ∧ Ev X 44 40 ls (vi (x * y) :: st) h Q) := R_mul rfl
theorem e_44_40 : Ev X 44 40 ls st h Q ↔ onI (gl ls 3) (fun z => Ev X 44 41 ls (vi z :: st) h Q) := R_il rfl (Or.inl rfl)
theorem e_44_41 {x y : Int} : Ev X 44 41 ls (vi y :: vi x :: st) h Q ↔ ((inR (x + y)) ∧ Ev X 44 42 ls (vi (x + y) :: st) h Q) := R_add rfl
theorem e_44_42 : Ev X 44 42 ls st h Q ↔ onR (gl ls 0) (fun z => Ev X 44 43 ls (vr z :: st) h Q) := R_al rfl (Or.inl rfl)
theorem e_44_43 {x : Nat} : Ev X 44 43 ls (vr x :: st) h Q ↔ (X.1 x = 6 ∧ Ev X 44 44 ls (vr (X.2.2.1 x 3) :: st) h Q) := R_gr rfl
theorem e_44_44 : Ev X 44 44 ls st h Q ↔ onI (gl ls 2) (fun z => Ev X 44 45 ls (vi z :: st) h Q) := R_il rfl (Or.inl rfl)
theorem e_44_45 : Ev X 44 45 ls st h Q ↔ Ev X 44 46 ls (vi 6 :: st) h Q := R_kc rfl (Or.inr (Or.inl ⟨rfl, by decide⟩))
theorem e_44_46 {x y : Int} : Ev X 44 46 ls (vi y :: vi x :: st) h Q ↔ ((inR (x * y)) ∧ Ev X 44 47 ls (vi (x * y) :: st) h Q) := R_mul rfl
theorem e_44_47 : Ev X 44 47 ls st h Q ↔ onI (gl ls 3) (fun z => Ev X 44 48 ls (vi z :: st) h Q) := R_il rfl (Or.inl rfl)
theorem e_44_48 {x y : Int} : Ev X 44 48 ls (vi y :: vi x :: st) h Q ↔ ((inR (x + y)) ∧ Ev X 44 49 ls (vi (x + y) :: st) h Q) := R_add rfl
theorem e_44_49 {x : Nat} {j : Int} : Ev X 44 49 ls (vi j :: vr x :: st) h Q ↔ (((X.1 x = 13 ∨ X.1 x = 20) ∧ 0 ≤ j ∧ j < X.2.1 x) ∧ Ev X 44 50 ls (vi (h.1 x j.toNat) :: st) h Q) := R_ia rfl
theorem e_44_50 {x : Nat} {j v : Int} : Ev X 44 50 ls (vi v :: vi j :: vr x :: st) h Q ↔ ((X.1 x = 13 ∧ 0 ≤ j ∧ j < X.2.1 x) ∧ Ev X 44 51 ls st (up2 h.1 x j.toNat v, h.2) Q) := R_ias rfl
theorem e_44_51 : Ev X 44 51 ls st h Q ↔ onR (gl ls 0) (fun z => Ev X 44 52 ls (vr z :: st) h Q) := R_al rfl (Or.inl rfl)
theorem e_44_52 {x : Nat} : Ev X 44 52 ls (vr x :: st) h Q ↔ (X.1 x = 6 ∧ Ev X 44 53 ls (vr (X.2.2.1 x 4) :: st) h Q) := R_gr rfl
theorem e_44_53 : Ev X 44 53 ls st h Q ↔ onI (gl ls 2) (fun z => Ev X 44 54 ls (vi z :: st) h Q) := R_il rfl (Or.inl rfl)
theorem e_44_54 : Ev X 44 54 ls st h Q ↔ Ev X 44 55 ls (vi 1 :: st) h Q := R_kc rfl (Or.inl ⟨Or.inl rfl, by decide⟩)
theorem e_44_55 {x y : Int} : Ev X 44 55 ls (vi y :: vi x :: st) h Q ↔ ((inR (x - y)) ∧ Ev X 44 56 ls (vi (x - y) :: st) h Q) := R_sub rfl
theorem e_44_56 : Ev X 44 56 ls st h Q ↔ Ev X 44 57 ls (vi 6 :: st) h Q := R_kc rfl (Or.inr (Or.inl ⟨rfl, by decide⟩))
theorem e_44_57 {x y : Int} : Ev X 44 57 ls (vi y :: vi x :: st) h Q ↔ ((inR (x * y)) ∧ Ev X 44 58 ls (vi (x * y) :: st) h Q) := R_mul rfl
theorem e_44_58 : Ev X 44 58 ls st h Q ↔ onI (gl ls 3) (fun z => Ev X 44 59 ls (vi z :: st) h Q) := R_il rfl (Or.inl rfl)
theorem e_44_59 {x y : Int} : Ev X 44 59 ls (vi y :: vi x :: st) h Q ↔ ((inR (x + y)) ∧ Ev X 44 60 ls (vi (x + y) :: st) h Q) := R_add rfl
theorem e_44_60 : Ev X 44 60 ls st h Q ↔ onR (gl ls 0) (fun z => Ev X 44 61 ls (vr z :: st) h Q) := R_al rfl (Or.inl rfl)
theorem e_44_61 {x : Nat} : Ev X 44 61 ls (vr x :: st) h Q ↔ (X.1 x = 6 ∧ Ev X 44 62 ls (vr (X.2.2.1 x 4) :: st) h Q) := R_gr rfl
theorem e_44_62 : Ev X 44 62 ls st h Q ↔ onI (gl ls 2) (fun z => Ev X 44 63 ls (vi z :: st) h Q) := R_il rfl (Or.inl rfl)
theorem e_44_63 : Ev X 44 63 ls st h Q ↔ Ev X 44 64 ls (vi 6 :: st) h Q := R_kc rfl (Or.inr (Or.inl ⟨rfl, by decide⟩))
theorem e_44_64 {x y : Int} : Ev X 44 64 ls (vi y :: vi x :: st) h Q ↔ ((inR (x * y)) ∧ Ev X 44 65 ls (vi (x * y) :: st) h Q) := R_mul rfl
theorem e_44_65 : Ev X 44 65 ls st h Q ↔ onI (gl ls 3) (fun z => Ev X 44 66 ls (vi z :: st) h Q) := R_il rfl (Or.inl rfl)
theorem e_44_66 {x y : Int} : Ev X 44 66 ls (vi y :: vi x :: st) h Q ↔ ((inR (x + y)) ∧ Ev X 44 67 ls (vi (x + y) :: st) h Q) := R_add rfl
theorem e_44_67 {x : Nat} {j : Int} : Ev X 44 67 ls (vi j :: vr x :: st) h Q ↔ (((X.1 x = 13 ∨ X.1 x = 20) ∧ 0 ≤ j ∧ j < X.2.1 x) ∧ Ev X 44 68 ls (vi (h.1 x j.toNat) :: st) h Q) := R_ia rfl
theorem e_44_68 {x : Nat} {j v : Int} : Ev X 44 68 ls (vi v :: vi j :: vr x :: st) h Q ↔ ((X.1 x = 13 ∧ 0 ≤ j ∧ j < X.2.1 x) ∧ Ev X 44 69 ls st (up2 h.1 x j.toNat v, h.2) Q) := R_ias rfl
theorem e_44_69 : Ev X 44 69 ls st h Q ↔ onI (gl ls 3) (fun x => (stOK ls 3 = true ∧ inR (x + 1)) ∧ Ev X 44 70 (ls.set 3 (some (vi (x + 1)))) st h Q) := R_inc rfl
theorem e_44_70 : Ev X 44 70 ls st h Q ↔ Ev X 44 30 ls st h Q := R_go rfl
theorem e_44_71 : Ev X 44 71 ls st h Q ↔ onI (gl ls 2) (fun x => (stOK ls 2 = true ∧ inR (x + 1)) ∧ Ev X 44 72 (ls.set 2 (some (vi (x + 1)))) st h Q) := R_inc rfl
theorem e_44_72 : Ev X 44 72 ls st h Q ↔ Ev X 44 4 ls st h Q := R_go rfl
theorem e_44_73 : Ev X 44 73 ls st h Q ↔ onR (gl ls 0) (fun z => Ev X 44 74 ls (vr z :: st) h Q) := R_al rfl (Or.inl rfl)
theorem e_44_74 {v : xV} : Ev X 44 74 ls (v :: st) h Q ↔ (ct1 v = true ∧ Ev X 44 75 ls (v :: v :: st) h Q) := R_dup rfl
theorem e_44_75 {x : Nat} : Ev X 44 75 ls (vr x :: st) h Q ↔ (X.1 x = 6 ∧ Ev X 44 76 ls (vi (h.2 x 0) :: st) h Q) := R_gi rfl
theorem e_44_76 : Ev X 44 76 ls st h Q ↔ Ev X 44 77 ls (vi 1 :: st) h Q := R_kc rfl (Or.inl ⟨Or.inl rfl, by decide⟩)
theorem e_44_77 {x y : Int} : Ev X 44 77 ls (vi y :: vi x :: st) h Q ↔ ((inR (x - y)) ∧ Ev X 44 78 ls (vi (x - y) :: st) h Q) := R_sub rfl
theorem e_44_78 {x : Nat} {v : Int} : Ev X 44 78 ls (vi v :: vr x :: st) h Q ↔ (X.1 x = 6 ∧ Ev X 44 79 ls st (h.1, up2 h.2 x 0 v) Q) := R_pi rfl
theorem e_44_79 : Ev X 44 79 ls [] h Q ↔ Q none h := R_vr rfl
-- 45: CellRows$Nets.pinOf(II)I
theorem e_45_0 : Ev X 45 0 ls st h Q ↔ onI (gl ls 1) (fun z => Ev X 45 1 ls (vi z :: st) h Q) := R_il rfl (Or.inl rfl)
theorem e_45_1 : Ev X 45 1 ls st h Q ↔ Ev X 45 2 ls (vi 6 :: st) h Q := R_kc rfl (Or.inr (Or.inl ⟨rfl, by decide⟩))
theorem e_45_2 {x y : Int} : Ev X 45 2 ls (vi y :: vi x :: st) h Q ↔ ((inR (x * y)) ∧ Ev X 45 3 ls (vi (x * y) :: st) h Q) := R_mul rfl
theorem e_45_3 {x : Int} : Ev X 45 3 ls (vi x :: st) h Q ↔ (stOK ls 3 = true ∧ Ev X 45 4 (ls.set 3 (some (vi x))) st h Q) := R_is rfl (Or.inl rfl)
theorem e_45_4 : Ev X 45 4 ls st h Q ↔ Ev X 45 5 ls (vi 0 :: st) h Q := R_kc rfl (Or.inl ⟨Or.inl rfl, by decide⟩)
theorem e_45_5 {x : Int} : Ev X 45 5 ls (vi x :: st) h Q ↔ (stOK ls 4 = true ∧ Ev X 45 6 (ls.set 4 (some (vi x))) st h Q) := R_is rfl (Or.inr rfl)
theorem e_45_6 : Ev X 45 6 ls st h Q ↔ onI (gl ls 4) (fun z => Ev X 45 7 ls (vi z :: st) h Q) := R_il rfl (Or.inr rfl)
theorem e_45_7 : Ev X 45 7 ls st h Q ↔ onR (gl ls 0) (fun z => Ev X 45 8 ls (vr z :: st) h Q) := R_al rfl (Or.inl rfl)
theorem e_45_8 {x : Nat} : Ev X 45 8 ls (vr x :: st) h Q ↔ (X.1 x = 6 ∧ Ev X 45 9 ls (vr (X.2.2.1 x 2) :: st) h Q) := R_gr rfl
theorem e_45_9 : Ev X 45 9 ls st h Q ↔ onI (gl ls 1) (fun z => Ev X 45 10 ls (vi z :: st) h Q) := R_il rfl (Or.inl rfl)
theorem e_45_10 {x : Nat} {j : Int} : Ev X 45 10 ls (vi j :: vr x :: st) h Q ↔ (((X.1 x = 13 ∨ X.1 x = 20) ∧ 0 ≤ j ∧ j < X.2.1 x) ∧ Ev X 45 11 ls (vi (h.1 x j.toNat) :: st) h Q) := R_ia rfl
theorem e_45_11 {x y : Int} : Ev X 45 11 ls (vi y :: vi x :: st) h Q ↔ (if y ≤ x then Ev X 45 24 ls st h Q else Ev X 45 12 ls st h Q) := R_icge rfl
theorem e_45_12 : Ev X 45 12 ls st h Q ↔ onR (gl ls 0) (fun z => Ev X 45 13 ls (vr z :: st) h Q) := R_al rfl (Or.inl rfl)
theorem e_45_13 {x : Nat} : Ev X 45 13 ls (vr x :: st) h Q ↔ (X.1 x = 6 ∧ Ev X 45 14 ls (vr (X.2.2.1 x 3) :: st) h Q) := R_gr rfl
theorem e_45_14 : Ev X 45 14 ls st h Q ↔ onI (gl ls 3) (fun z => Ev X 45 15 ls (vi z :: st) h Q) := R_il rfl (Or.inl rfl)
theorem e_45_15 : Ev X 45 15 ls st h Q ↔ onI (gl ls 4) (fun z => Ev X 45 16 ls (vi z :: st) h Q) := R_il rfl (Or.inr rfl)
theorem e_45_16 {x y : Int} : Ev X 45 16 ls (vi y :: vi x :: st) h Q ↔ ((inR (x + y)) ∧ Ev X 45 17 ls (vi (x + y) :: st) h Q) := R_add rfl
theorem e_45_17 {x : Nat} {j : Int} : Ev X 45 17 ls (vi j :: vr x :: st) h Q ↔ (((X.1 x = 13 ∨ X.1 x = 20) ∧ 0 ≤ j ∧ j < X.2.1 x) ∧ Ev X 45 18 ls (vi (h.1 x j.toNat) :: st) h Q) := R_ia rfl
theorem e_45_18 : Ev X 45 18 ls st h Q ↔ onI (gl ls 2) (fun z => Ev X 45 19 ls (vi z :: st) h Q) := R_il rfl (Or.inl rfl)
theorem e_45_19 {x y : Int} : Ev X 45 19 ls (vi y :: vi x :: st) h Q ↔ (if ¬ x = y then Ev X 45 22 ls st h Q else Ev X 45 20 ls st h Q) := R_icne rfl
theorem e_45_20 : Ev X 45 20 ls st h Q ↔ onI (gl ls 4) (fun z => Ev X 45 21 ls (vi z :: st) h Q) := R_il rfl (Or.inr rfl)
theorem e_45_21 {z : Int} : Ev X 45 21 ls [vi z] h Q ↔ Q (some (vi z)) h := R_ir rfl
theorem e_45_22 : Ev X 45 22 ls st h Q ↔ onI (gl ls 4) (fun x => (stOK ls 4 = true ∧ inR (x + 1)) ∧ Ev X 45 23 (ls.set 4 (some (vi (x + 1)))) st h Q) := R_inc rfl
theorem e_45_23 : Ev X 45 23 ls st h Q ↔ Ev X 45 6 ls st h Q := R_go rfl
theorem e_45_24 : Ev X 45 24 ls st h Q ↔ Ev X 45 25 ls (vi (-1) :: st) h Q := R_kc rfl (Or.inl ⟨Or.inl rfl, by decide⟩)
theorem e_45_25 {z : Int} : Ev X 45 25 ls [vi z] h Q ↔ Q (some (vi z)) h := R_ir rfl
-- 46: CellRows$Nets.netsWith(I)I
theorem e_46_0 : Ev X 46 0 ls st h Q ↔ Ev X 46 1 ls (vi 0 :: st) h Q := R_kc rfl (Or.inl ⟨Or.inl rfl, by decide⟩)
theorem e_46_1 {x : Int} : Ev X 46 1 ls (vi x :: st) h Q ↔ (stOK ls 2 = true ∧ Ev X 46 2 (ls.set 2 (some (vi x))) st h Q) := R_is rfl (Or.inl rfl)
theorem e_46_2 : Ev X 46 2 ls st h Q ↔ Ev X 46 3 ls (vi 0 :: st) h Q := R_kc rfl (Or.inl ⟨Or.inl rfl, by decide⟩)
theorem e_46_3 {x : Int} : Ev X 46 3 ls (vi x :: st) h Q ↔ (stOK ls 3 = true ∧ Ev X 46 4 (ls.set 3 (some (vi x))) st h Q) := R_is rfl (Or.inl rfl)
theorem e_46_4 : Ev X 46 4 ls st h Q ↔ onI (gl ls 3) (fun z => Ev X 46 5 ls (vi z :: st) h Q) := R_il rfl (Or.inl rfl)
theorem e_46_5 : Ev X 46 5 ls st h Q ↔ onR (gl ls 0) (fun z => Ev X 46 6 ls (vr z :: st) h Q) := R_al rfl (Or.inl rfl)
theorem e_46_6 {x : Nat} : Ev X 46 6 ls (vr x :: st) h Q ↔ (X.1 x = 6 ∧ Ev X 46 7 ls (vi (h.2 x 0) :: st) h Q) := R_gi rfl
theorem e_46_7 {x y : Int} : Ev X 46 7 ls (vi y :: vi x :: st) h Q ↔ (if y ≤ x then Ev X 46 17 ls st h Q else Ev X 46 8 ls st h Q) := R_icge rfl
theorem e_46_8 : Ev X 46 8 ls st h Q ↔ onR (gl ls 0) (fun z => Ev X 46 9 ls (vr z :: st) h Q) := R_al rfl (Or.inl rfl)
theorem e_46_9 : Ev X 46 9 ls st h Q ↔ onI (gl ls 3) (fun z => Ev X 46 10 ls (vi z :: st) h Q) := R_il rfl (Or.inl rfl)
theorem e_46_10 : Ev X 46 10 ls st h Q ↔ onI (gl ls 1) (fun z => Ev X 46 11 ls (vi z :: st) h Q) := R_il rfl (Or.inl rfl)
theorem e_46_11 {rest : List xV} {a0 : Int} {a1 : Int} {o : Nat} : Ev X 46 11 ls ((vi a1) :: (vi a0) :: vr o :: rest) h Q ↔ ((X.1 o = 6 ∧ wd rest ≤ 8) ∧ Cl X 45 [vr o, vi a0, vi a1] h (fun r h2 => Ev X 46 12 ls (r.toList ++ rest) h2 Q)) := R_cv (x := o) (as := [vi a0, vi a1]) (k2 := 45) rfl rfl (Nat.le_of_ble_eq_true rfl)
theorem e_46_12 : Ev X 46 12 ls st h Q ↔ Ev X 46 13 ls (vi (-1) :: st) h Q := R_kc rfl (Or.inl ⟨Or.inl rfl, by decide⟩)
theorem e_46_13 {x y : Int} : Ev X 46 13 ls (vi y :: vi x :: st) h Q ↔ (if x = y then Ev X 46 15 ls st h Q else Ev X 46 14 ls st h Q) := R_iceq rfl
theorem e_46_14 : Ev X 46 14 ls st h Q ↔ onI (gl ls 2) (fun x => (stOK ls 2 = true ∧ inR (x + 1)) ∧ Ev X 46 15 (ls.set 2 (some (vi (x + 1)))) st h Q) := R_inc rfl
theorem e_46_15 : Ev X 46 15 ls st h Q ↔ onI (gl ls 3) (fun x => (stOK ls 3 = true ∧ inR (x + 1)) ∧ Ev X 46 16 (ls.set 3 (some (vi (x + 1)))) st h Q) := R_inc rfl
theorem e_46_16 : Ev X 46 16 ls st h Q ↔ Ev X 46 4 ls st h Q := R_go rfl
theorem e_46_17 : Ev X 46 17 ls st h Q ↔ onI (gl ls 2) (fun z => Ev X 46 18 ls (vi z :: st) h Q) := R_il rfl (Or.inl rfl)
theorem e_46_18 {z : Int} : Ev X 46 18 ls [vi z] h Q ↔ Q (some (vi z)) h := R_ir rfl
-- 47: CellRows$Nets.share(II)Z
theorem e_47_0 : Ev X 47 0 ls st h Q ↔ Ev X 47 1 ls (vi 0 :: st) h Q := R_kc rfl (Or.inl ⟨Or.inl rfl, by decide⟩)
theorem e_47_1 {x : Int} : Ev X 47 1 ls (vi x :: st) h Q ↔ (stOK ls 3 = true ∧ Ev X 47 2 (ls.set 3 (some (vi x))) st h Q) := R_is rfl (Or.inl rfl)
theorem e_47_2 : Ev X 47 2 ls st h Q ↔ onI (gl ls 3) (fun z => Ev X 47 3 ls (vi z :: st) h Q) := R_il rfl (Or.inl rfl)
theorem e_47_3 : Ev X 47 3 ls st h Q ↔ onR (gl ls 0) (fun z => Ev X 47 4 ls (vr z :: st) h Q) := R_al rfl (Or.inl rfl)
theorem e_47_4 {x : Nat} : Ev X 47 4 ls (vr x :: st) h Q ↔ (X.1 x = 6 ∧ Ev X 47 5 ls (vi (h.2 x 0) :: st) h Q) := R_gi rfl
theorem e_47_5 {x y : Int} : Ev X 47 5 ls (vi y :: vi x :: st) h Q ↔ (if y ≤ x then Ev X 47 22 ls st h Q else Ev X 47 6 ls st h Q) := R_icge rfl
theorem e_47_6 : Ev X 47 6 ls st h Q ↔ onR (gl ls 0) (fun z => Ev X 47 7 ls (vr z :: st) h Q) := R_al rfl (Or.inl rfl)
theorem e_47_7 : Ev X 47 7 ls st h Q ↔ onI (gl ls 3) (fun z => Ev X 47 8 ls (vi z :: st) h Q) := R_il rfl (Or.inl rfl)
theorem e_47_8 : Ev X 47 8 ls st h Q ↔ onI (gl ls 1) (fun z => Ev X 47 9 ls (vi z :: st) h Q) := R_il rfl (Or.inl rfl)
theorem e_47_9 {rest : List xV} {a0 : Int} {a1 : Int} {o : Nat} : Ev X 47 9 ls ((vi a1) :: (vi a0) :: vr o :: rest) h Q ↔ ((X.1 o = 6 ∧ wd rest ≤ 8) ∧ Cl X 45 [vr o, vi a0, vi a1] h (fun r h2 => Ev X 47 10 ls (r.toList ++ rest) h2 Q)) := R_cv (x := o) (as := [vi a0, vi a1]) (k2 := 45) rfl rfl (Nat.le_of_ble_eq_true rfl)
theorem e_47_10 : Ev X 47 10 ls st h Q ↔ Ev X 47 11 ls (vi (-1) :: st) h Q := R_kc rfl (Or.inl ⟨Or.inl rfl, by decide⟩)
theorem e_47_11 {x y : Int} : Ev X 47 11 ls (vi y :: vi x :: st) h Q ↔ (if x = y then Ev X 47 20 ls st h Q else Ev X 47 12 ls st h Q) := R_iceq rfl
theorem e_47_12 : Ev X 47 12 ls st h Q ↔ onR (gl ls 0) (fun z => Ev X 47 13 ls (vr z :: st) h Q) := R_al rfl (Or.inl rfl)
theorem e_47_13 : Ev X 47 13 ls st h Q ↔ onI (gl ls 3) (fun z => Ev X 47 14 ls (vi z :: st) h Q) := R_il rfl (Or.inl rfl)
theorem e_47_14 : Ev X 47 14 ls st h Q ↔ onI (gl ls 2) (fun z => Ev X 47 15 ls (vi z :: st) h Q) := R_il rfl (Or.inl rfl)
theorem e_47_15 {rest : List xV} {a0 : Int} {a1 : Int} {o : Nat} : Ev X 47 15 ls ((vi a1) :: (vi a0) :: vr o :: rest) h Q ↔ ((X.1 o = 6 ∧ wd rest ≤ 8) ∧ Cl X 45 [vr o, vi a0, vi a1] h (fun r h2 => Ev X 47 16 ls (r.toList ++ rest) h2 Q)) := R_cv (x := o) (as := [vi a0, vi a1]) (k2 := 45) rfl rfl (Nat.le_of_ble_eq_true rfl)
theorem e_47_16 : Ev X 47 16 ls st h Q ↔ Ev X 47 17 ls (vi (-1) :: st) h Q := R_kc rfl (Or.inl ⟨Or.inl rfl, by decide⟩)
theorem e_47_17 {x y : Int} : Ev X 47 17 ls (vi y :: vi x :: st) h Q ↔ (if x = y then Ev X 47 20 ls st h Q else Ev X 47 18 ls st h Q) := R_iceq rfl
theorem e_47_18 : Ev X 47 18 ls st h Q ↔ Ev X 47 19 ls (vi 1 :: st) h Q := R_kc rfl (Or.inl ⟨Or.inl rfl, by decide⟩)
theorem e_47_19 {z : Int} : Ev X 47 19 ls [vi z] h Q ↔ ((z = 0 ∨ z = 1) ∧ Q (some (vi z)) h) := R_zr rfl
theorem e_47_20 : Ev X 47 20 ls st h Q ↔ onI (gl ls 3) (fun x => (stOK ls 3 = true ∧ inR (x + 1)) ∧ Ev X 47 21 (ls.set 3 (some (vi (x + 1)))) st h Q) := R_inc rfl
theorem e_47_21 : Ev X 47 21 ls st h Q ↔ Ev X 47 2 ls st h Q := R_go rfl
theorem e_47_22 : Ev X 47 22 ls st h Q ↔ Ev X 47 23 ls (vi 0 :: st) h Q := R_kc rfl (Or.inl ⟨Or.inl rfl, by decide⟩)
theorem e_47_23 {z : Int} : Ev X 47 23 ls [vi z] h Q ↔ ((z = 0 ∨ z = 1) ∧ Q (some (vi z)) h) := R_zr rfl
-- 48: CellRows$Packing.leastOf(LCellRows$Cells;[III)I
theorem e_48_0 : Ev X 48 0 ls st h Q ↔ onR (gl ls 0) (fun z => Ev X 48 1 ls (vr z :: st) h Q) := R_al rfl (Or.inl rfl)
theorem e_48_1 {x : Nat} : Ev X 48 1 ls (vr x :: st) h Q ↔ (X.1 x = 7 ∧ Ev X 48 2 ls (vr (X.2.2.1 x 1) :: st) h Q) := R_gr rfl
theorem e_48_2 {x : Nat} : Ev X 48 2 ls (vr x :: st) h Q ↔ (X.1 x = 4 ∧ Ev X 48 3 ls (vr (X.2.2.1 x 7) :: st) h Q) := R_gr rfl
theorem e_48_3 : Ev X 48 3 ls st h Q ↔ onI (gl ls 4) (fun z => Ev X 48 4 ls (vi z :: st) h Q) := R_il rfl (Or.inr rfl)
theorem e_48_4 {x : Nat} {j : Int} : Ev X 48 4 ls (vi j :: vr x :: st) h Q ↔ (((X.1 x = 13 ∨ X.1 x = 20) ∧ 0 ≤ j ∧ j < X.2.1 x) ∧ Ev X 48 5 ls (vi (h.1 x j.toNat) :: st) h Q) := R_ia rfl
theorem e_48_5 {x : Int} : Ev X 48 5 ls (vi x :: st) h Q ↔ (stOK ls 5 = true ∧ Ev X 48 6 (ls.set 5 (some (vi x))) st h Q) := R_is rfl (Or.inr rfl)
theorem e_48_6 : Ev X 48 6 ls st h Q ↔ onR (gl ls 0) (fun z => Ev X 48 7 ls (vr z :: st) h Q) := R_al rfl (Or.inl rfl)
theorem e_48_7 {x : Nat} : Ev X 48 7 ls (vr x :: st) h Q ↔ (X.1 x = 7 ∧ Ev X 48 8 ls (vr (X.2.2.1 x 1) :: st) h Q) := R_gr rfl
theorem e_48_8 {x : Nat} : Ev X 48 8 ls (vr x :: st) h Q ↔ (X.1 x = 4 ∧ Ev X 48 9 ls (vr (X.2.2.1 x 6) :: st) h Q) := R_gr rfl
theorem e_48_9 : Ev X 48 9 ls st h Q ↔ onI (gl ls 4) (fun z => Ev X 48 10 ls (vi z :: st) h Q) := R_il rfl (Or.inr rfl)
theorem e_48_10 {x : Nat} {j : Int} : Ev X 48 10 ls (vi j :: vr x :: st) h Q ↔ (((X.1 x = 13 ∨ X.1 x = 20) ∧ 0 ≤ j ∧ j < X.2.1 x) ∧ Ev X 48 11 ls (vi (h.1 x j.toNat) :: st) h Q) := R_ia rfl
theorem e_48_11 {x : Int} : Ev X 48 11 ls (vi x :: st) h Q ↔ (stOK ls 6 = true ∧ Ev X 48 12 (ls.set 6 (some (vi x))) st h Q) := R_is rfl (Or.inr rfl)
theorem e_48_12 : Ev X 48 12 ls st h Q ↔ Ev X 48 13 ls (vi 0 :: st) h Q := R_kc rfl (Or.inl ⟨Or.inl rfl, by decide⟩)
theorem e_48_13 {x : Int} : Ev X 48 13 ls (vi x :: st) h Q ↔ (stOK ls 7 = true ∧ Ev X 48 14 (ls.set 7 (some (vi x))) st h Q) := R_is rfl (Or.inr rfl)
theorem e_48_14 : Ev X 48 14 ls st h Q ↔ onI (gl ls 7) (fun z => Ev X 48 15 ls (vi z :: st) h Q) := R_il rfl (Or.inr rfl)
theorem e_48_15 : Ev X 48 15 ls st h Q ↔ onI (gl ls 5) (fun z => Ev X 48 16 ls (vi z :: st) h Q) := R_il rfl (Or.inr rfl)
theorem e_48_16 {x y : Int} : Ev X 48 16 ls (vi y :: vi x :: st) h Q ↔ (if y < x then Ev X 48 26 ls st h Q else Ev X 48 17 ls st h Q) := R_icgt rfl
theorem e_48_17 : Ev X 48 17 ls st h Q ↔ onR (gl ls 0) (fun z => Ev X 48 18 ls (vr z :: st) h Q) := R_al rfl (Or.inl rfl)
theorem e_48_18 {x : Nat} : Ev X 48 18 ls (vr x :: st) h Q ↔ (X.1 x = 7 ∧ Ev X 48 19 ls (vr (X.2.2.1 x 8) :: st) h Q) := R_gr rfl
theorem e_48_19 : Ev X 48 19 ls st h Q ↔ onI (gl ls 3) (fun z => Ev X 48 20 ls (vi z :: st) h Q) := R_il rfl (Or.inl rfl)
theorem e_48_20 {x : Nat} {j : Int} : Ev X 48 20 ls (vi j :: vr x :: st) h Q ↔ ((X.1 x = 16 ∧ 0 ≤ j ∧ j < X.2.1 x) ∧ Ev X 48 21 ls (vr (X.2.2.1 x j.toNat) :: st) h Q) := R_aa2 rfl
theorem e_48_21 : Ev X 48 21 ls st h Q ↔ onI (gl ls 7) (fun z => Ev X 48 22 ls (vi z :: st) h Q) := R_il rfl (Or.inr rfl)
theorem e_48_22 : Ev X 48 22 ls st h Q ↔ Ev X 48 23 ls (vi 0 :: st) h Q := R_kc rfl (Or.inl ⟨Or.inl rfl, by decide⟩)
theorem e_48_23 {x : Nat} {j v : Int} : Ev X 48 23 ls (vi v :: vi j :: vr x :: st) h Q ↔ ((X.1 x = 13 ∧ 0 ≤ j ∧ j < X.2.1 x) ∧ Ev X 48 24 ls st (up2 h.1 x j.toNat v, h.2) Q) := R_ias rfl
theorem e_48_24 : Ev X 48 24 ls st h Q ↔ onI (gl ls 7) (fun x => (stOK ls 7 = true ∧ inR (x + 1)) ∧ Ev X 48 25 (ls.set 7 (some (vi (x + 1)))) st h Q) := R_inc rfl
theorem e_48_25 : Ev X 48 25 ls st h Q ↔ Ev X 48 14 ls st h Q := R_go rfl
theorem e_48_26 : Ev X 48 26 ls st h Q ↔ onI (gl ls 3) (fun z => Ev X 48 27 ls (vi z :: st) h Q) := R_il rfl (Or.inl rfl)
theorem e_48_27 : Ev X 48 27 ls st h Q ↔ Ev X 48 28 ls (vi 1 :: st) h Q := R_kc rfl (Or.inl ⟨Or.inl rfl, by decide⟩)
theorem e_48_28 {x y : Int} : Ev X 48 28 ls (vi y :: vi x :: st) h Q ↔ ((inR (x - y)) ∧ Ev X 48 29 ls (vi (x - y) :: st) h Q) := R_sub rfl
theorem e_48_29 {x : Int} : Ev X 48 29 ls (vi x :: st) h Q ↔ (stOK ls 7 = true ∧ Ev X 48 30 (ls.set 7 (some (vi x))) st h Q) := R_is rfl (Or.inr rfl)
theorem e_48_30 : Ev X 48 30 ls st h Q ↔ onI (gl ls 7) (fun z => Ev X 48 31 ls (vi z :: st) h Q) := R_il rfl (Or.inr rfl)
theorem e_48_31 {x : Int} : Ev X 48 31 ls (vi x :: st) h Q ↔ (if x < 0 then Ev X 48 83 ls st h Q else Ev X 48 32 ls st h Q) := R_iflt rfl
theorem e_48_32 : Ev X 48 32 ls st h Q ↔ onR (gl ls 2) (fun z => Ev X 48 33 ls (vr z :: st) h Q) := R_al rfl (Or.inl rfl)
theorem e_48_33 : Ev X 48 33 ls st h Q ↔ onI (gl ls 7) (fun z => Ev X 48 34 ls (vi z :: st) h Q) := R_il rfl (Or.inr rfl)
theorem e_48_34 {x : Nat} {j : Int} : Ev X 48 34 ls (vi j :: vr x :: st) h Q ↔ (((X.1 x = 13 ∨ X.1 x = 20) ∧ 0 ≤ j ∧ j < X.2.1 x) ∧ Ev X 48 35 ls (vi (h.1 x j.toNat) :: st) h Q) := R_ia rfl
theorem e_48_35 {x : Int} : Ev X 48 35 ls (vi x :: st) h Q ↔ (stOK ls 8 = true ∧ Ev X 48 36 (ls.set 8 (some (vi x))) st h Q) := R_is rfl (Or.inr rfl)
theorem e_48_36 : Ev X 48 36 ls st h Q ↔ onR (gl ls 1) (fun z => Ev X 48 37 ls (vr z :: st) h Q) := R_al rfl (Or.inl rfl)
theorem e_48_37 {x : Nat} : Ev X 48 37 ls (vr x :: st) h Q ↔ (X.1 x = 3 ∧ Ev X 48 38 ls (vr (X.2.2.1 x 1) :: st) h Q) := R_gr rfl
theorem e_48_38 : Ev X 48 38 ls st h Q ↔ onI (gl ls 8) (fun z => Ev X 48 39 ls (vi z :: st) h Q) := R_il rfl (Or.inr rfl)
theorem e_48_39 {x : Nat} {j : Int} : Ev X 48 39 ls (vi j :: vr x :: st) h Q ↔ (((X.1 x = 13 ∨ X.1 x = 20) ∧ 0 ≤ j ∧ j < X.2.1 x) ∧ Ev X 48 40 ls (vi (h.1 x j.toNat) :: st) h Q) := R_ia rfl
theorem e_48_40 {x : Int} : Ev X 48 40 ls (vi x :: st) h Q ↔ (stOK ls 9 = true ∧ Ev X 48 41 (ls.set 9 (some (vi x))) st h Q) := R_is rfl (Or.inr rfl)
theorem e_48_41 : Ev X 48 41 ls st h Q ↔ Ev X 48 42 ls (vi 268435456 :: st) h Q := R_kc rfl (Or.inl ⟨Or.inr (Or.inl rfl), by decide⟩)
theorem e_48_42 {x : Int} : Ev X 48 42 ls (vi x :: st) h Q ↔ (stOK ls 10 = true ∧ Ev X 48 43 (ls.set 10 (some (vi x))) st h Q) := R_is rfl (Or.inr rfl)
theorem e_48_43 : Ev X 48 43 ls st h Q ↔ onI (gl ls 5) (fun z => Ev X 48 44 ls (vi z :: st) h Q) := R_il rfl (Or.inr rfl)
theorem e_48_44 {x : Int} : Ev X 48 44 ls (vi x :: st) h Q ↔ (stOK ls 11 = true ∧ Ev X 48 45 (ls.set 11 (some (vi x))) st h Q) := R_is rfl (Or.inr rfl)
theorem e_48_45 : Ev X 48 45 ls st h Q ↔ onI (gl ls 11) (fun z => Ev X 48 46 ls (vi z :: st) h Q) := R_il rfl (Or.inr rfl)
theorem e_48_46 {x : Int} : Ev X 48 46 ls (vi x :: st) h Q ↔ (if x < 0 then Ev X 48 81 ls st h Q else Ev X 48 47 ls st h Q) := R_iflt rfl
theorem e_48_47 : Ev X 48 47 ls st h Q ↔ onI (gl ls 11) (fun z => Ev X 48 48 ls (vi z :: st) h Q) := R_il rfl (Or.inr rfl)
theorem e_48_48 : Ev X 48 48 ls st h Q ↔ onI (gl ls 9) (fun z => Ev X 48 49 ls (vi z :: st) h Q) := R_il rfl (Or.inr rfl)
theorem e_48_49 {x y : Int} : Ev X 48 49 ls (vi y :: vi x :: st) h Q ↔ ((inR (x + y)) ∧ Ev X 48 50 ls (vi (x + y) :: st) h Q) := R_add rfl
theorem e_48_50 : Ev X 48 50 ls st h Q ↔ onI (gl ls 5) (fun z => Ev X 48 51 ls (vi z :: st) h Q) := R_il rfl (Or.inr rfl)
theorem e_48_51 {x y : Int} : Ev X 48 51 ls (vi y :: vi x :: st) h Q ↔ (if y < x then Ev X 48 72 ls st h Q else Ev X 48 52 ls st h Q) := R_icgt rfl
theorem e_48_52 : Ev X 48 52 ls st h Q ↔ onI (gl ls 10) (fun z => Ev X 48 53 ls (vi z :: st) h Q) := R_il rfl (Or.inr rfl)
theorem e_48_53 : Ev X 48 53 ls st h Q ↔ onR (gl ls 1) (fun z => Ev X 48 54 ls (vr z :: st) h Q) := R_al rfl (Or.inl rfl)
theorem e_48_54 : Ev X 48 54 ls st h Q ↔ onI (gl ls 8) (fun z => Ev X 48 55 ls (vi z :: st) h Q) := R_il rfl (Or.inr rfl)
theorem e_48_55 : Ev X 48 55 ls st h Q ↔ onI (gl ls 6) (fun z => Ev X 48 56 ls (vi z :: st) h Q) := R_il rfl (Or.inr rfl)
theorem e_48_56 : Ev X 48 56 ls st h Q ↔ onI (gl ls 11) (fun z => Ev X 48 57 ls (vi z :: st) h Q) := R_il rfl (Or.inr rfl)
theorem e_48_57 {x y : Int} : Ev X 48 57 ls (vi y :: vi x :: st) h Q ↔ ((inR (x + y)) ∧ Ev X 48 58 ls (vi (x + y) :: st) h Q) := R_add rfl
theorem e_48_58 {rest : List xV} {a0 : Nat} {a1 : Int} {a2 : Int} : Ev X 48 58 ls ((vi a2) :: (vi a1) :: (vr a0) :: rest) h Q ↔ (wd rest ≤ 8 ∧ Cl X 49 [vr a0, vi a1, vi a2] h (fun r h2 => Ev X 48 59 ls (r.toList ++ rest) h2 Q)) := R_cs (as := [vr a0, vi a1, vi a2]) (k2 := 49) rfl rfl (Nat.le_of_ble_eq_true rfl)
theorem e_48_59 : Ev X 48 59 ls st h Q ↔ onR (gl ls 0) (fun z => Ev X 48 60 ls (vr z :: st) h Q) := R_al rfl (Or.inl rfl)
theorem e_48_60 {x : Nat} : Ev X 48 60 ls (vr x :: st) h Q ↔ (X.1 x = 7 ∧ Ev X 48 61 ls (vr (X.2.2.1 x 8) :: st) h Q) := R_gr rfl
theorem e_48_61 : Ev X 48 61 ls st h Q ↔ onI (gl ls 7) (fun z => Ev X 48 62 ls (vi z :: st) h Q) := R_il rfl (Or.inr rfl)
theorem e_48_62 : Ev X 48 62 ls st h Q ↔ Ev X 48 63 ls (vi 1 :: st) h Q := R_kc rfl (Or.inl ⟨Or.inl rfl, by decide⟩)
theorem e_48_63 {x y : Int} : Ev X 48 63 ls (vi y :: vi x :: st) h Q ↔ ((inR (x + y)) ∧ Ev X 48 64 ls (vi (x + y) :: st) h Q) := R_add rfl
theorem e_48_64 {x : Nat} {j : Int} : Ev X 48 64 ls (vi j :: vr x :: st) h Q ↔ ((X.1 x = 16 ∧ 0 ≤ j ∧ j < X.2.1 x) ∧ Ev X 48 65 ls (vr (X.2.2.1 x j.toNat) :: st) h Q) := R_aa2 rfl
theorem e_48_65 : Ev X 48 65 ls st h Q ↔ onI (gl ls 11) (fun z => Ev X 48 66 ls (vi z :: st) h Q) := R_il rfl (Or.inr rfl)
theorem e_48_66 : Ev X 48 66 ls st h Q ↔ onI (gl ls 9) (fun z => Ev X 48 67 ls (vi z :: st) h Q) := R_il rfl (Or.inr rfl)
theorem e_48_67 {x y : Int} : Ev X 48 67 ls (vi y :: vi x :: st) h Q ↔ ((inR (x + y)) ∧ Ev X 48 68 ls (vi (x + y) :: st) h Q) := R_add rfl
theorem e_48_68 {x : Nat} {j : Int} : Ev X 48 68 ls (vi j :: vr x :: st) h Q ↔ (((X.1 x = 13 ∨ X.1 x = 20) ∧ 0 ≤ j ∧ j < X.2.1 x) ∧ Ev X 48 69 ls (vi (h.1 x j.toNat) :: st) h Q) := R_ia rfl
theorem e_48_69 {x y : Int} : Ev X 48 69 ls (vi y :: vi x :: st) h Q ↔ ((inR (x + y)) ∧ Ev X 48 70 ls (vi (x + y) :: st) h Q) := R_add rfl
theorem e_48_70 {rest : List xV} {a0 : Int} {a1 : Int} : Ev X 48 70 ls ((vi a1) :: (vi a0) :: rest) h Q ↔ (wd rest ≤ 8 ∧ Cl X 285 [vi a0, vi a1] h (fun r h2 => Ev X 48 71 ls (r.toList ++ rest) h2 Q)) := R_cs (as := [vi a0, vi a1]) (k2 := 285) rfl rfl (Nat.le_of_ble_eq_true rfl)
theorem e_48_71 {x : Int} : Ev X 48 71 ls (vi x :: st) h Q ↔ (stOK ls 10 = true ∧ Ev X 48 72 (ls.set 10 (some (vi x))) st h Q) := R_is rfl (Or.inr rfl)
theorem e_48_72 : Ev X 48 72 ls st h Q ↔ onR (gl ls 0) (fun z => Ev X 48 73 ls (vr z :: st) h Q) := R_al rfl (Or.inl rfl)
theorem e_48_73 {x : Nat} : Ev X 48 73 ls (vr x :: st) h Q ↔ (X.1 x = 7 ∧ Ev X 48 74 ls (vr (X.2.2.1 x 8) :: st) h Q) := R_gr rfl
theorem e_48_74 : Ev X 48 74 ls st h Q ↔ onI (gl ls 7) (fun z => Ev X 48 75 ls (vi z :: st) h Q) := R_il rfl (Or.inr rfl)
theorem e_48_75 {x : Nat} {j : Int} : Ev X 48 75 ls (vi j :: vr x :: st) h Q ↔ ((X.1 x = 16 ∧ 0 ≤ j ∧ j < X.2.1 x) ∧ Ev X 48 76 ls (vr (X.2.2.1 x j.toNat) :: st) h Q) := R_aa2 rfl
theorem e_48_76 : Ev X 48 76 ls st h Q ↔ onI (gl ls 11) (fun z => Ev X 48 77 ls (vi z :: st) h Q) := R_il rfl (Or.inr rfl)
theorem e_48_77 : Ev X 48 77 ls st h Q ↔ onI (gl ls 10) (fun z => Ev X 48 78 ls (vi z :: st) h Q) := R_il rfl (Or.inr rfl)
theorem e_48_78 {x : Nat} {j v : Int} : Ev X 48 78 ls (vi v :: vi j :: vr x :: st) h Q ↔ ((X.1 x = 13 ∧ 0 ≤ j ∧ j < X.2.1 x) ∧ Ev X 48 79 ls st (up2 h.1 x j.toNat v, h.2) Q) := R_ias rfl
theorem e_48_79 : Ev X 48 79 ls st h Q ↔ onI (gl ls 11) (fun x => (stOK ls 11 = true ∧ inR (x + (-1))) ∧ Ev X 48 80 (ls.set 11 (some (vi (x + (-1))))) st h Q) := R_inc rfl
theorem e_48_80 : Ev X 48 80 ls st h Q ↔ Ev X 48 45 ls st h Q := R_go rfl
theorem e_48_81 : Ev X 48 81 ls st h Q ↔ onI (gl ls 7) (fun x => (stOK ls 7 = true ∧ inR (x + (-1))) ∧ Ev X 48 82 (ls.set 7 (some (vi (x + (-1))))) st h Q) := R_inc rfl
theorem e_48_82 : Ev X 48 82 ls st h Q ↔ Ev X 48 30 ls st h Q := R_go rfl
theorem e_48_83 : Ev X 48 83 ls st h Q ↔ onR (gl ls 0) (fun z => Ev X 48 84 ls (vr z :: st) h Q) := R_al rfl (Or.inl rfl)
theorem e_48_84 {x : Nat} : Ev X 48 84 ls (vr x :: st) h Q ↔ (X.1 x = 7 ∧ Ev X 48 85 ls (vr (X.2.2.1 x 8) :: st) h Q) := R_gr rfl
theorem e_48_85 : Ev X 48 85 ls st h Q ↔ Ev X 48 86 ls (vi 0 :: st) h Q := R_kc rfl (Or.inl ⟨Or.inl rfl, by decide⟩)
theorem e_48_86 {x : Nat} {j : Int} : Ev X 48 86 ls (vi j :: vr x :: st) h Q ↔ ((X.1 x = 16 ∧ 0 ≤ j ∧ j < X.2.1 x) ∧ Ev X 48 87 ls (vr (X.2.2.1 x j.toNat) :: st) h Q) := R_aa2 rfl
theorem e_48_87 : Ev X 48 87 ls st h Q ↔ Ev X 48 88 ls (vi 0 :: st) h Q := R_kc rfl (Or.inl ⟨Or.inl rfl, by decide⟩)
theorem e_48_88 {x : Nat} {j : Int} : Ev X 48 88 ls (vi j :: vr x :: st) h Q ↔ (((X.1 x = 13 ∨ X.1 x = 20) ∧ 0 ≤ j ∧ j < X.2.1 x) ∧ Ev X 48 89 ls (vi (h.1 x j.toNat) :: st) h Q) := R_ia rfl
theorem e_48_89 {z : Int} : Ev X 48 89 ls [vi z] h Q ↔ Q (some (vi z)) h := R_ir rfl
-- 49: CellRows$Packing.costAt(LCellRows$Cells;II)I
theorem e_49_0 : Ev X 49 0 ls st h Q ↔ onR (gl ls 0) (fun z => Ev X 49 1 ls (vr z :: st) h Q) := R_al rfl (Or.inl rfl)
theorem e_49_1 {x : Nat} : Ev X 49 1 ls (vr x :: st) h Q ↔ (X.1 x = 3 ∧ Ev X 49 2 ls (vr (X.2.2.1 x 1) :: st) h Q) := R_gr rfl
theorem e_49_2 : Ev X 49 2 ls st h Q ↔ onI (gl ls 1) (fun z => Ev X 49 3 ls (vi z :: st) h Q) := R_il rfl (Or.inl rfl)
theorem e_49_3 {x : Nat} {j : Int} : Ev X 49 3 ls (vi j :: vr x :: st) h Q ↔ (((X.1 x = 13 ∨ X.1 x = 20) ∧ 0 ≤ j ∧ j < X.2.1 x) ∧ Ev X 49 4 ls (vi (h.1 x j.toNat) :: st) h Q) := R_ia rfl
theorem e_49_4 : Ev X 49 4 ls st h Q ↔ Ev X 49 5 ls (vi 16 :: st) h Q := R_kc rfl (Or.inr (Or.inl ⟨rfl, by decide⟩))
theorem e_49_5 : Ev X 49 5 ls st h Q ↔ onI (gl ls 2) (fun z => Ev X 49 6 ls (vi z :: st) h Q) := R_il rfl (Or.inl rfl)
theorem e_49_6 {x y : Int} : Ev X 49 6 ls (vi y :: vi x :: st) h Q ↔ ((inR (x * y)) ∧ Ev X 49 7 ls (vi (x * y) :: st) h Q) := R_mul rfl
theorem e_49_7 : Ev X 49 7 ls st h Q ↔ onR (gl ls 0) (fun z => Ev X 49 8 ls (vr z :: st) h Q) := R_al rfl (Or.inl rfl)
theorem e_49_8 {x : Nat} : Ev X 49 8 ls (vr x :: st) h Q ↔ (X.1 x = 3 ∧ Ev X 49 9 ls (vr (X.2.2.1 x 4) :: st) h Q) := R_gr rfl
theorem e_49_9 : Ev X 49 9 ls st h Q ↔ onI (gl ls 1) (fun z => Ev X 49 10 ls (vi z :: st) h Q) := R_il rfl (Or.inl rfl)
theorem e_49_10 {x : Nat} {j : Int} : Ev X 49 10 ls (vi j :: vr x :: st) h Q ↔ (((X.1 x = 13 ∨ X.1 x = 20) ∧ 0 ≤ j ∧ j < X.2.1 x) ∧ Ev X 49 11 ls (vi (h.1 x j.toNat) :: st) h Q) := R_ia rfl
theorem e_49_11 {x y : Int} : Ev X 49 11 ls (vi y :: vi x :: st) h Q ↔ ((inR (x - y)) ∧ Ev X 49 12 ls (vi (x - y) :: st) h Q) := R_sub rfl
theorem e_49_12 {rest : List xV} {a0 : Int} : Ev X 49 12 ls ((vi a0) :: rest) h Q ↔ (wd rest ≤ 8 ∧ Cl X 283 [vi a0] h (fun r h2 => Ev X 49 13 ls (r.toList ++ rest) h2 Q)) := R_cs (as := [vi a0]) (k2 := 283) rfl rfl (Nat.le_of_ble_eq_true rfl)
theorem e_49_13 {x y : Int} : Ev X 49 13 ls (vi y :: vi x :: st) h Q ↔ ((inR (x * y)) ∧ Ev X 49 14 ls (vi (x * y) :: st) h Q) := R_mul rfl
theorem e_49_14 {z : Int} : Ev X 49 14 ls [vi z] h Q ↔ Q (some (vi z)) h := R_ir rfl
-- 50: CellRows$Packing.makeLawful(LCellRows$Plan;)Z
theorem e_50_0 : Ev X 50 0 ls st h Q ↔ onR (gl ls 1) (fun z => Ev X 50 1 ls (vr z :: st) h Q) := R_al rfl (Or.inl rfl)
theorem e_50_1 {x : Nat} : Ev X 50 1 ls (vr x :: st) h Q ↔ (X.1 x = 9 ∧ Ev X 50 2 ls (vr (X.2.2.1 x 4) :: st) h Q) := R_gr rfl
theorem e_50_2 {x : Nat} : Ev X 50 2 ls (vr x :: st) h Q ↔ (stOK ls 2 = true ∧ Ev X 50 3 (ls.set 2 (some (vr x))) st h Q) := R_as rfl (Or.inl rfl)
theorem e_50_3 : Ev X 50 3 ls st h Q ↔ onR (gl ls 0) (fun z => Ev X 50 4 ls (vr z :: st) h Q) := R_al rfl (Or.inl rfl)
theorem e_50_4 {x : Nat} : Ev X 50 4 ls (vr x :: st) h Q ↔ (X.1 x = 7 ∧ Ev X 50 5 ls (vr (X.2.2.1 x 1) :: st) h Q) := R_gr rfl
theorem e_50_5 : Ev X 50 5 ls st h Q ↔ onR (gl ls 1) (fun z => Ev X 50 6 ls (vr z :: st) h Q) := R_al rfl (Or.inl rfl)
theorem e_50_6 {rest : List xV} {a0 : Nat} {o : Nat} : Ev X 50 6 ls ((vr a0) :: vr o :: rest) h Q ↔ ((X.1 o = 4 ∧ wd rest ≤ 8) ∧ Cl X 32 [vr o, vr a0] h (fun r h2 => Ev X 50 7 ls (r.toList ++ rest) h2 Q)) := R_cv (x := o) (as := [vr a0]) (k2 := 32) rfl rfl (Nat.le_of_ble_eq_true rfl)
theorem e_50_7 : Ev X 50 7 ls st h Q ↔ onR (gl ls 0) (fun z => Ev X 50 8 ls (vr z :: st) h Q) := R_al rfl (Or.inl rfl)
theorem e_50_8 {x : Nat} : Ev X 50 8 ls (vr x :: st) h Q ↔ (X.1 x = 7 ∧ Ev X 50 9 ls (vr (X.2.2.1 x 1) :: st) h Q) := R_gr rfl
theorem e_50_9 : Ev X 50 9 ls st h Q ↔ onR (gl ls 1) (fun z => Ev X 50 10 ls (vr z :: st) h Q) := R_al rfl (Or.inl rfl)
theorem e_50_10 {x : Nat} : Ev X 50 10 ls (vr x :: st) h Q ↔ (X.1 x = 9 ∧ Ev X 50 11 ls (vr (X.2.2.1 x 3) :: st) h Q) := R_gr rfl
theorem e_50_11 {x : Nat} : Ev X 50 11 ls (vr x :: st) h Q ↔ (X.1 x = 2 ∧ Ev X 50 12 ls (vi (h.2 x 0) :: st) h Q) := R_gi rfl
theorem e_50_12 {rest : List xV} {a0 : Int} {o : Nat} : Ev X 50 12 ls ((vi a0) :: vr o :: rest) h Q ↔ ((X.1 o = 4 ∧ wd rest ≤ 8) ∧ Cl X 37 [vr o, vi a0] h (fun r h2 => Ev X 50 13 ls (r.toList ++ rest) h2 Q)) := R_cv (x := o) (as := [vi a0]) (k2 := 37) rfl rfl (Nat.le_of_ble_eq_true rfl)
theorem e_50_13 : Ev X 50 13 ls st h Q ↔ Ev X 50 14 ls (vi 0 :: st) h Q := R_kc rfl (Or.inl ⟨Or.inl rfl, by decide⟩)
theorem e_50_14 {x : Int} : Ev X 50 14 ls (vi x :: st) h Q ↔ (stOK ls 3 = true ∧ Ev X 50 15 (ls.set 3 (some (vi x))) st h Q) := R_is rfl (Or.inl rfl)
theorem e_50_15 : Ev X 50 15 ls st h Q ↔ onI (gl ls 3) (fun z => Ev X 50 16 ls (vi z :: st) h Q) := R_il rfl (Or.inl rfl)
theorem e_50_16 : Ev X 50 16 ls st h Q ↔ onR (gl ls 0) (fun z => Ev X 50 17 ls (vr z :: st) h Q) := R_al rfl (Or.inl rfl)
theorem e_50_17 {x : Nat} : Ev X 50 17 ls (vr x :: st) h Q ↔ (X.1 x = 7 ∧ Ev X 50 18 ls (vr (X.2.2.1 x 1) :: st) h Q) := R_gr rfl
theorem e_50_18 {x : Nat} : Ev X 50 18 ls (vr x :: st) h Q ↔ (X.1 x = 4 ∧ Ev X 50 19 ls (vi (h.2 x 3) :: st) h Q) := R_gi rfl
theorem e_50_19 {x y : Int} : Ev X 50 19 ls (vi y :: vi x :: st) h Q ↔ (if y ≤ x then Ev X 50 32 ls st h Q else Ev X 50 20 ls st h Q) := R_icge rfl
theorem e_50_20 : Ev X 50 20 ls st h Q ↔ onR (gl ls 0) (fun z => Ev X 50 21 ls (vr z :: st) h Q) := R_al rfl (Or.inl rfl)
theorem e_50_21 {x : Nat} : Ev X 50 21 ls (vr x :: st) h Q ↔ (X.1 x = 7 ∧ Ev X 50 22 ls (vr (X.2.2.1 x 5) :: st) h Q) := R_gr rfl
theorem e_50_22 : Ev X 50 22 ls st h Q ↔ onI (gl ls 3) (fun z => Ev X 50 23 ls (vi z :: st) h Q) := R_il rfl (Or.inl rfl)
theorem e_50_23 : Ev X 50 23 ls st h Q ↔ Ev X 50 24 ls (vi 0 :: st) h Q := R_kc rfl (Or.inl ⟨Or.inl rfl, by decide⟩)
theorem e_50_24 {x : Nat} {j v : Int} : Ev X 50 24 ls (vi v :: vi j :: vr x :: st) h Q ↔ ((X.1 x = 13 ∧ 0 ≤ j ∧ j < X.2.1 x) ∧ Ev X 50 25 ls st (up2 h.1 x j.toNat v, h.2) Q) := R_ias rfl
theorem e_50_25 : Ev X 50 25 ls st h Q ↔ onR (gl ls 0) (fun z => Ev X 50 26 ls (vr z :: st) h Q) := R_al rfl (Or.inl rfl)
theorem e_50_26 {x : Nat} : Ev X 50 26 ls (vr x :: st) h Q ↔ (X.1 x = 7 ∧ Ev X 50 27 ls (vr (X.2.2.1 x 6) :: st) h Q) := R_gr rfl
theorem e_50_27 : Ev X 50 27 ls st h Q ↔ onI (gl ls 3) (fun z => Ev X 50 28 ls (vi z :: st) h Q) := R_il rfl (Or.inl rfl)
theorem e_50_28 : Ev X 50 28 ls st h Q ↔ Ev X 50 29 ls (vi 0 :: st) h Q := R_kc rfl (Or.inl ⟨Or.inl rfl, by decide⟩)
theorem e_50_29 {x : Nat} {j v : Int} : Ev X 50 29 ls (vi v :: vi j :: vr x :: st) h Q ↔ ((X.1 x = 13 ∧ 0 ≤ j ∧ j < X.2.1 x) ∧ Ev X 50 30 ls st (up2 h.1 x j.toNat v, h.2) Q) := R_ias rfl
theorem e_50_30 : Ev X 50 30 ls st h Q ↔ onI (gl ls 3) (fun x => (stOK ls 3 = true ∧ inR (x + 1)) ∧ Ev X 50 31 (ls.set 3 (some (vi (x + 1)))) st h Q) := R_inc rfl
theorem e_50_31 : Ev X 50 31 ls st h Q ↔ Ev X 50 15 ls st h Q := R_go rfl
theorem e_50_32 : Ev X 50 32 ls st h Q ↔ onR (gl ls 0) (fun z => Ev X 50 33 ls (vr z :: st) h Q) := R_al rfl (Or.inl rfl)
theorem e_50_33 : Ev X 50 33 ls st h Q ↔ onR (gl ls 2) (fun z => Ev X 50 34 ls (vr z :: st) h Q) := R_al rfl (Or.inl rfl)
theorem e_50_34 {rest : List xV} {a0 : Nat} {o : Nat} : Ev X 50 34 ls ((vr a0) :: vr o :: rest) h Q ↔ ((X.1 o = 7 ∧ wd rest ≤ 8) ∧ Cl X 51 [vr o, vr a0] h (fun r h2 => Ev X 50 35 ls (r.toList ++ rest) h2 Q)) := R_cv (x := o) (as := [vr a0]) (k2 := 51) rfl rfl (Nat.le_of_ble_eq_true rfl)
theorem e_50_35 : Ev X 50 35 ls st h Q ↔ Ev X 50 36 ls (vi 0 :: st) h Q := R_kc rfl (Or.inl ⟨Or.inl rfl, by decide⟩)
theorem e_50_36 {x : Int} : Ev X 50 36 ls (vi x :: st) h Q ↔ (stOK ls 3 = true ∧ Ev X 50 37 (ls.set 3 (some (vi x))) st h Q) := R_is rfl (Or.inl rfl)
theorem e_50_37 : Ev X 50 37 ls st h Q ↔ onI (gl ls 3) (fun z => Ev X 50 38 ls (vi z :: st) h Q) := R_il rfl (Or.inl rfl)
theorem e_50_38 : Ev X 50 38 ls st h Q ↔ onR (gl ls 0) (fun z => Ev X 50 39 ls (vr z :: st) h Q) := R_al rfl (Or.inl rfl)
theorem e_50_39 {x : Nat} : Ev X 50 39 ls (vr x :: st) h Q ↔ (X.1 x = 7 ∧ Ev X 50 40 ls (vi (h.2 x 3) :: st) h Q) := R_gi rfl
theorem e_50_40 {x y : Int} : Ev X 50 40 ls (vi y :: vi x :: st) h Q ↔ (if y ≤ x then Ev X 50 91 ls st h Q else Ev X 50 41 ls st h Q) := R_icge rfl
theorem e_50_41 : Ev X 50 41 ls st h Q ↔ onR (gl ls 0) (fun z => Ev X 50 42 ls (vr z :: st) h Q) := R_al rfl (Or.inl rfl)
theorem e_50_42 : Ev X 50 42 ls st h Q ↔ onR (gl ls 2) (fun z => Ev X 50 43 ls (vr z :: st) h Q) := R_al rfl (Or.inl rfl)
theorem e_50_43 : Ev X 50 43 ls st h Q ↔ onI (gl ls 3) (fun z => Ev X 50 44 ls (vi z :: st) h Q) := R_il rfl (Or.inl rfl)
theorem e_50_44 {rest : List xV} {a0 : Nat} {a1 : Int} {o : Nat} : Ev X 50 44 ls ((vi a1) :: (vr a0) :: vr o :: rest) h Q ↔ ((X.1 o = 7 ∧ wd rest ≤ 8) ∧ Cl X 53 [vr o, vr a0, vi a1] h (fun r h2 => Ev X 50 45 ls (r.toList ++ rest) h2 Q)) := R_cv (x := o) (as := [vr a0, vi a1]) (k2 := 53) rfl rfl (Nat.le_of_ble_eq_true rfl)
theorem e_50_45 {x : Int} : Ev X 50 45 ls (vi x :: st) h Q ↔ (stOK ls 4 = true ∧ Ev X 50 46 (ls.set 4 (some (vi x))) st h Q) := R_is rfl (Or.inr rfl)
theorem e_50_46 : Ev X 50 46 ls st h Q ↔ onI (gl ls 4) (fun z => Ev X 50 47 ls (vi z :: st) h Q) := R_il rfl (Or.inr rfl)
theorem e_50_47 : Ev X 50 47 ls st h Q ↔ Ev X 50 48 ls (vi (-1) :: st) h Q := R_kc rfl (Or.inl ⟨Or.inl rfl, by decide⟩)
theorem e_50_48 {x y : Int} : Ev X 50 48 ls (vi y :: vi x :: st) h Q ↔ (if ¬ x = y then Ev X 50 51 ls st h Q else Ev X 50 49 ls st h Q) := R_icne rfl
theorem e_50_49 : Ev X 50 49 ls st h Q ↔ Ev X 50 50 ls (vi 0 :: st) h Q := R_kc rfl (Or.inl ⟨Or.inl rfl, by decide⟩)
theorem e_50_50 {z : Int} : Ev X 50 50 ls [vi z] h Q ↔ ((z = 0 ∨ z = 1) ∧ Q (some (vi z)) h) := R_zr rfl
theorem e_50_51 : Ev X 50 51 ls st h Q ↔ onR (gl ls 0) (fun z => Ev X 50 52 ls (vr z :: st) h Q) := R_al rfl (Or.inl rfl)
theorem e_50_52 {x : Nat} : Ev X 50 52 ls (vr x :: st) h Q ↔ (X.1 x = 7 ∧ Ev X 50 53 ls (vr (X.2.2.1 x 4) :: st) h Q) := R_gr rfl
theorem e_50_53 : Ev X 50 53 ls st h Q ↔ onR (gl ls 0) (fun z => Ev X 50 54 ls (vr z :: st) h Q) := R_al rfl (Or.inl rfl)
theorem e_50_54 {x : Nat} : Ev X 50 54 ls (vr x :: st) h Q ↔ (X.1 x = 7 ∧ Ev X 50 55 ls (vr (X.2.2.1 x 2) :: st) h Q) := R_gr rfl
theorem e_50_55 : Ev X 50 55 ls st h Q ↔ onI (gl ls 3) (fun z => Ev X 50 56 ls (vi z :: st) h Q) := R_il rfl (Or.inl rfl)
theorem e_50_56 {x : Nat} {j : Int} : Ev X 50 56 ls (vi j :: vr x :: st) h Q ↔ (((X.1 x = 13 ∨ X.1 x = 20) ∧ 0 ≤ j ∧ j < X.2.1 x) ∧ Ev X 50 57 ls (vi (h.1 x j.toNat) :: st) h Q) := R_ia rfl
theorem e_50_57 : Ev X 50 57 ls st h Q ↔ onI (gl ls 4) (fun z => Ev X 50 58 ls (vi z :: st) h Q) := R_il rfl (Or.inr rfl)
theorem e_50_58 {x : Nat} {j v : Int} : Ev X 50 58 ls (vi v :: vi j :: vr x :: st) h Q ↔ ((X.1 x = 13 ∧ 0 ≤ j ∧ j < X.2.1 x) ∧ Ev X 50 59 ls st (up2 h.1 x j.toNat v, h.2) Q) := R_ias rfl
theorem e_50_59 : Ev X 50 59 ls st h Q ↔ onR (gl ls 0) (fun z => Ev X 50 60 ls (vr z :: st) h Q) := R_al rfl (Or.inl rfl)
theorem e_50_60 {x : Nat} : Ev X 50 60 ls (vr x :: st) h Q ↔ (X.1 x = 7 ∧ Ev X 50 61 ls (vr (X.2.2.1 x 6) :: st) h Q) := R_gr rfl
theorem e_50_61 : Ev X 50 61 ls st h Q ↔ onI (gl ls 4) (fun z => Ev X 50 62 ls (vi z :: st) h Q) := R_il rfl (Or.inr rfl)
theorem e_50_62 {v w : xV} : Ev X 50 62 ls (v :: w :: st) h Q ↔ ((ct1 v = true ∧ ct1 w = true) ∧ Ev X 50 63 ls (v :: w :: v :: w :: st) h Q) := R_dup2 rfl
theorem e_50_63 {x : Nat} {j : Int} : Ev X 50 63 ls (vi j :: vr x :: st) h Q ↔ (((X.1 x = 13 ∨ X.1 x = 20) ∧ 0 ≤ j ∧ j < X.2.1 x) ∧ Ev X 50 64 ls (vi (h.1 x j.toNat) :: st) h Q) := R_ia rfl
theorem e_50_64 : Ev X 50 64 ls st h Q ↔ onR (gl ls 2) (fun z => Ev X 50 65 ls (vr z :: st) h Q) := R_al rfl (Or.inl rfl)
theorem e_50_65 {x : Nat} : Ev X 50 65 ls (vr x :: st) h Q ↔ (X.1 x = 3 ∧ Ev X 50 66 ls (vr (X.2.2.1 x 1) :: st) h Q) := R_gr rfl
theorem e_50_66 : Ev X 50 66 ls st h Q ↔ onR (gl ls 0) (fun z => Ev X 50 67 ls (vr z :: st) h Q) := R_al rfl (Or.inl rfl)
theorem e_50_67 {x : Nat} : Ev X 50 67 ls (vr x :: st) h Q ↔ (X.1 x = 7 ∧ Ev X 50 68 ls (vr (X.2.2.1 x 2) :: st) h Q) := R_gr rfl
theorem e_50_68 : Ev X 50 68 ls st h Q ↔ onI (gl ls 3) (fun z => Ev X 50 69 ls (vi z :: st) h Q) := R_il rfl (Or.inl rfl)
theorem e_50_69 {x : Nat} {j : Int} : Ev X 50 69 ls (vi j :: vr x :: st) h Q ↔ (((X.1 x = 13 ∨ X.1 x = 20) ∧ 0 ≤ j ∧ j < X.2.1 x) ∧ Ev X 50 70 ls (vi (h.1 x j.toNat) :: st) h Q) := R_ia rfl
theorem e_50_70 {x : Nat} {j : Int} : Ev X 50 70 ls (vi j :: vr x :: st) h Q ↔ (((X.1 x = 13 ∨ X.1 x = 20) ∧ 0 ≤ j ∧ j < X.2.1 x) ∧ Ev X 50 71 ls (vi (h.1 x j.toNat) :: st) h Q) := R_ia rfl
theorem e_50_71 {x y : Int} : Ev X 50 71 ls (vi y :: vi x :: st) h Q ↔ ((inR (x + y)) ∧ Ev X 50 72 ls (vi (x + y) :: st) h Q) := R_add rfl
theorem e_50_72 {x : Nat} {j v : Int} : Ev X 50 72 ls (vi v :: vi j :: vr x :: st) h Q ↔ ((X.1 x = 13 ∧ 0 ≤ j ∧ j < X.2.1 x) ∧ Ev X 50 73 ls st (up2 h.1 x j.toNat v, h.2) Q) := R_ias rfl
theorem e_50_73 : Ev X 50 73 ls st h Q ↔ onR (gl ls 0) (fun z => Ev X 50 74 ls (vr z :: st) h Q) := R_al rfl (Or.inl rfl)
theorem e_50_74 {x : Nat} : Ev X 50 74 ls (vr x :: st) h Q ↔ (X.1 x = 7 ∧ Ev X 50 75 ls (vr (X.2.2.1 x 5) :: st) h Q) := R_gr rfl
theorem e_50_75 : Ev X 50 75 ls st h Q ↔ onI (gl ls 4) (fun z => Ev X 50 76 ls (vi z :: st) h Q) := R_il rfl (Or.inr rfl)
theorem e_50_76 : Ev X 50 76 ls st h Q ↔ onR (gl ls 0) (fun z => Ev X 50 77 ls (vr z :: st) h Q) := R_al rfl (Or.inl rfl)
theorem e_50_77 : Ev X 50 77 ls st h Q ↔ onR (gl ls 2) (fun z => Ev X 50 78 ls (vr z :: st) h Q) := R_al rfl (Or.inl rfl)
theorem e_50_78 : Ev X 50 78 ls st h Q ↔ onR (gl ls 0) (fun z => Ev X 50 79 ls (vr z :: st) h Q) := R_al rfl (Or.inl rfl)
theorem e_50_79 {x : Nat} : Ev X 50 79 ls (vr x :: st) h Q ↔ (X.1 x = 7 ∧ Ev X 50 80 ls (vr (X.2.2.1 x 7) :: st) h Q) := R_gr rfl
theorem e_50_80 : Ev X 50 80 ls st h Q ↔ onR (gl ls 0) (fun z => Ev X 50 81 ls (vr z :: st) h Q) := R_al rfl (Or.inl rfl)
theorem e_50_81 : Ev X 50 81 ls st h Q ↔ onI (gl ls 4) (fun z => Ev X 50 82 ls (vi z :: st) h Q) := R_il rfl (Or.inr rfl)
theorem e_50_82 : Ev X 50 82 ls st h Q ↔ onI (gl ls 3) (fun z => Ev X 50 83 ls (vi z :: st) h Q) := R_il rfl (Or.inl rfl)
theorem e_50_83 : Ev X 50 83 ls st h Q ↔ Ev X 50 84 ls (vi 1 :: st) h Q := R_kc rfl (Or.inl ⟨Or.inl rfl, by decide⟩)
theorem e_50_84 {x y : Int} : Ev X 50 84 ls (vi y :: vi x :: st) h Q ↔ ((inR (x + y)) ∧ Ev X 50 85 ls (vi (x + y) :: st) h Q) := R_add rfl
theorem e_50_85 {rest : List xV} {a0 : Int} {a1 : Int} {o : Nat} : Ev X 50 85 ls ((vi a1) :: (vi a0) :: vr o :: rest) h Q ↔ ((X.1 o = 7 ∧ wd rest ≤ 8) ∧ Cl X 52 [vr o, vi a0, vi a1] h (fun r h2 => Ev X 50 86 ls (r.toList ++ rest) h2 Q)) := R_cv (x := o) (as := [vi a0, vi a1]) (k2 := 52) rfl rfl (Nat.le_of_ble_eq_true rfl)
theorem e_50_86 : Ev X 50 86 ls st h Q ↔ onI (gl ls 4) (fun z => Ev X 50 87 ls (vi z :: st) h Q) := R_il rfl (Or.inr rfl)
theorem e_50_87 {rest : List xV} {a0 : Nat} {a1 : Nat} {a2 : Int} {a3 : Int} {o : Nat} : Ev X 50 87 ls ((vi a3) :: (vi a2) :: (vr a1) :: (vr a0) :: vr o :: rest) h Q ↔ ((X.1 o = 7 ∧ wd rest ≤ 8) ∧ Cl X 48 [vr o, vr a0, vr a1, vi a2, vi a3] h (fun r h2 => Ev X 50 88 ls (r.toList ++ rest) h2 Q)) := R_cv (x := o) (as := [vr a0, vr a1, vi a2, vi a3]) (k2 := 48) rfl rfl (Nat.le_of_ble_eq_true rfl)
theorem e_50_88 {x : Nat} {j v : Int} : Ev X 50 88 ls (vi v :: vi j :: vr x :: st) h Q ↔ ((X.1 x = 13 ∧ 0 ≤ j ∧ j < X.2.1 x) ∧ Ev X 50 89 ls st (up2 h.1 x j.toNat v, h.2) Q) := R_ias rfl
theorem e_50_89 : Ev X 50 89 ls st h Q ↔ onI (gl ls 3) (fun x => (stOK ls 3 = true ∧ inR (x + 1)) ∧ Ev X 50 90 (ls.set 3 (some (vi (x + 1)))) st h Q) := R_inc rfl
theorem e_50_90 : Ev X 50 90 ls st h Q ↔ Ev X 50 37 ls st h Q := R_go rfl
theorem e_50_91 : Ev X 50 91 ls st h Q ↔ Ev X 50 92 ls (vi 0 :: st) h Q := R_kc rfl (Or.inl ⟨Or.inl rfl, by decide⟩)
theorem e_50_92 {x : Int} : Ev X 50 92 ls (vi x :: st) h Q ↔ (stOK ls 3 = true ∧ Ev X 50 93 (ls.set 3 (some (vi x))) st h Q) := R_is rfl (Or.inl rfl)
theorem e_50_93 : Ev X 50 93 ls st h Q ↔ onI (gl ls 3) (fun z => Ev X 50 94 ls (vi z :: st) h Q) := R_il rfl (Or.inl rfl)
theorem e_50_94 : Ev X 50 94 ls st h Q ↔ onR (gl ls 0) (fun z => Ev X 50 95 ls (vr z :: st) h Q) := R_al rfl (Or.inl rfl)
theorem e_50_95 {x : Nat} : Ev X 50 95 ls (vr x :: st) h Q ↔ (X.1 x = 7 ∧ Ev X 50 96 ls (vr (X.2.2.1 x 1) :: st) h Q) := R_gr rfl
theorem e_50_96 {x : Nat} : Ev X 50 96 ls (vr x :: st) h Q ↔ (X.1 x = 4 ∧ Ev X 50 97 ls (vi (h.2 x 3) :: st) h Q) := R_gi rfl
theorem e_50_97 {x y : Int} : Ev X 50 97 ls (vi y :: vi x :: st) h Q ↔ (if y ≤ x then Ev X 50 109 ls st h Q else Ev X 50 98 ls st h Q) := R_icge rfl
theorem e_50_98 : Ev X 50 98 ls st h Q ↔ onR (gl ls 0) (fun z => Ev X 50 99 ls (vr z :: st) h Q) := R_al rfl (Or.inl rfl)
theorem e_50_99 {x : Nat} : Ev X 50 99 ls (vr x :: st) h Q ↔ (X.1 x = 7 ∧ Ev X 50 100 ls (vr (X.2.2.1 x 6) :: st) h Q) := R_gr rfl
theorem e_50_100 : Ev X 50 100 ls st h Q ↔ onI (gl ls 3) (fun z => Ev X 50 101 ls (vi z :: st) h Q) := R_il rfl (Or.inl rfl)
theorem e_50_101 {x : Nat} {j : Int} : Ev X 50 101 ls (vi j :: vr x :: st) h Q ↔ (((X.1 x = 13 ∨ X.1 x = 20) ∧ 0 ≤ j ∧ j < X.2.1 x) ∧ Ev X 50 102 ls (vi (h.1 x j.toNat) :: st) h Q) := R_ia rfl
theorem e_50_102 {x : Int} : Ev X 50 102 ls (vi x :: st) h Q ↔ (if x ≤ 0 then Ev X 50 107 ls st h Q else Ev X 50 103 ls st h Q) := R_ifle rfl
theorem e_50_103 : Ev X 50 103 ls st h Q ↔ onR (gl ls 0) (fun z => Ev X 50 104 ls (vr z :: st) h Q) := R_al rfl (Or.inl rfl)
theorem e_50_104 : Ev X 50 104 ls st h Q ↔ onR (gl ls 2) (fun z => Ev X 50 105 ls (vr z :: st) h Q) := R_al rfl (Or.inl rfl)
theorem e_50_105 : Ev X 50 105 ls st h Q ↔ onI (gl ls 3) (fun z => Ev X 50 106 ls (vi z :: st) h Q) := R_il rfl (Or.inl rfl)
theorem e_50_106 {rest : List xV} {a0 : Nat} {a1 : Int} {o : Nat} : Ev X 50 106 ls ((vi a1) :: (vr a0) :: vr o :: rest) h Q ↔ ((X.1 o = 7 ∧ wd rest ≤ 8) ∧ Cl X 54 [vr o, vr a0, vi a1] h (fun r h2 => Ev X 50 107 ls (r.toList ++ rest) h2 Q)) := R_cv (x := o) (as := [vr a0, vi a1]) (k2 := 54) rfl rfl (Nat.le_of_ble_eq_true rfl)
theorem e_50_107 : Ev X 50 107 ls st h Q ↔ onI (gl ls 3) (fun x => (stOK ls 3 = true ∧ inR (x + 1)) ∧ Ev X 50 108 (ls.set 3 (some (vi (x + 1)))) st h Q) := R_inc rfl
theorem e_50_108 : Ev X 50 108 ls st h Q ↔ Ev X 50 93 ls st h Q := R_go rfl
theorem e_50_109 : Ev X 50 109 ls st h Q ↔ Ev X 50 110 ls (vi 1 :: st) h Q := R_kc rfl (Or.inl ⟨Or.inl rfl, by decide⟩)
theorem e_50_110 {z : Int} : Ev X 50 110 ls [vi z] h Q ↔ ((z = 0 ∨ z = 1) ∧ Q (some (vi z)) h) := R_zr rfl
-- 51: CellRows$Packing.orderByWant(LCellRows$Cells;)V
theorem e_51_0 : Ev X 51 0 ls st h Q ↔ onR (gl ls 0) (fun z => Ev X 51 1 ls (vr z :: st) h Q) := R_al rfl (Or.inl rfl)
theorem e_51_1 : Ev X 51 1 ls st h Q ↔ Ev X 51 2 ls (vi 0 :: st) h Q := R_kc rfl (Or.inl ⟨Or.inl rfl, by decide⟩)
theorem e_51_2 {x : Nat} {v : Int} : Ev X 51 2 ls (vi v :: vr x :: st) h Q ↔ (X.1 x = 7 ∧ Ev X 51 3 ls st (h.1, up2 h.2 x 3 v) Q) := R_pi rfl
theorem e_51_3 : Ev X 51 3 ls st h Q ↔ Ev X 51 4 ls (vi 0 :: st) h Q := R_kc rfl (Or.inl ⟨Or.inl rfl, by decide⟩)
theorem e_51_4 {x : Int} : Ev X 51 4 ls (vi x :: st) h Q ↔ (stOK ls 2 = true ∧ Ev X 51 5 (ls.set 2 (some (vi x))) st h Q) := R_is rfl (Or.inl rfl)
theorem e_51_5 : Ev X 51 5 ls st h Q ↔ onI (gl ls 2) (fun z => Ev X 51 6 ls (vi z :: st) h Q) := R_il rfl (Or.inl rfl)
theorem e_51_6 : Ev X 51 6 ls st h Q ↔ onR (gl ls 1) (fun z => Ev X 51 7 ls (vr z :: st) h Q) := R_al rfl (Or.inl rfl)
theorem e_51_7 {x : Nat} : Ev X 51 7 ls (vr x :: st) h Q ↔ (X.1 x = 3 ∧ Ev X 51 8 ls (vi (h.2 x 0) :: st) h Q) := R_gi rfl
theorem e_51_8 {x y : Int} : Ev X 51 8 ls (vi y :: vi x :: st) h Q ↔ (if y ≤ x then Ev X 51 58 ls st h Q else Ev X 51 9 ls st h Q) := R_icge rfl
theorem e_51_9 : Ev X 51 9 ls st h Q ↔ onR (gl ls 1) (fun z => Ev X 51 10 ls (vr z :: st) h Q) := R_al rfl (Or.inl rfl)
theorem e_51_10 {x : Nat} : Ev X 51 10 ls (vr x :: st) h Q ↔ (X.1 x = 3 ∧ Ev X 51 11 ls (vr (X.2.2.1 x 3) :: st) h Q) := R_gr rfl
theorem e_51_11 : Ev X 51 11 ls st h Q ↔ onI (gl ls 2) (fun z => Ev X 51 12 ls (vi z :: st) h Q) := R_il rfl (Or.inl rfl)
theorem e_51_12 {x : Nat} {j : Int} : Ev X 51 12 ls (vi j :: vr x :: st) h Q ↔ ((X.1 x = 14 ∧ 0 ≤ j ∧ j < X.2.1 x) ∧ Ev X 51 13 ls (vi (h.1 x j.toNat) :: st) h Q) := R_ba rfl
theorem e_51_13 {x : Int} : Ev X 51 13 ls (vi x :: st) h Q ↔ (if ¬ x = 0 then Ev X 51 56 ls st h Q else Ev X 51 14 ls st h Q) := R_ifne rfl
theorem e_51_14 : Ev X 51 14 ls st h Q ↔ onR (gl ls 0) (fun z => Ev X 51 15 ls (vr z :: st) h Q) := R_al rfl (Or.inl rfl)
theorem e_51_15 {x : Nat} : Ev X 51 15 ls (vr x :: st) h Q ↔ (X.1 x = 7 ∧ Ev X 51 16 ls (vi (h.2 x 3) :: st) h Q) := R_gi rfl
theorem e_51_16 {x : Int} : Ev X 51 16 ls (vi x :: st) h Q ↔ (stOK ls 3 = true ∧ Ev X 51 17 (ls.set 3 (some (vi x))) st h Q) := R_is rfl (Or.inl rfl)
theorem e_51_17 : Ev X 51 17 ls st h Q ↔ onI (gl ls 3) (fun z => Ev X 51 18 ls (vi z :: st) h Q) := R_il rfl (Or.inl rfl)
theorem e_51_18 {x : Int} : Ev X 51 18 ls (vi x :: st) h Q ↔ (if x ≤ 0 then Ev X 51 45 ls st h Q else Ev X 51 19 ls st h Q) := R_ifle rfl
theorem e_51_19 : Ev X 51 19 ls st h Q ↔ onR (gl ls 1) (fun z => Ev X 51 20 ls (vr z :: st) h Q) := R_al rfl (Or.inl rfl)
theorem e_51_20 {x : Nat} : Ev X 51 20 ls (vr x :: st) h Q ↔ (X.1 x = 3 ∧ Ev X 51 21 ls (vr (X.2.2.1 x 4) :: st) h Q) := R_gr rfl
theorem e_51_21 : Ev X 51 21 ls st h Q ↔ onR (gl ls 0) (fun z => Ev X 51 22 ls (vr z :: st) h Q) := R_al rfl (Or.inl rfl)
theorem e_51_22 {x : Nat} : Ev X 51 22 ls (vr x :: st) h Q ↔ (X.1 x = 7 ∧ Ev X 51 23 ls (vr (X.2.2.1 x 2) :: st) h Q) := R_gr rfl
theorem e_51_23 : Ev X 51 23 ls st h Q ↔ onI (gl ls 3) (fun z => Ev X 51 24 ls (vi z :: st) h Q) := R_il rfl (Or.inl rfl)
theorem e_51_24 : Ev X 51 24 ls st h Q ↔ Ev X 51 25 ls (vi 1 :: st) h Q := R_kc rfl (Or.inl ⟨Or.inl rfl, by decide⟩)
theorem e_51_25 {x y : Int} : Ev X 51 25 ls (vi y :: vi x :: st) h Q ↔ ((inR (x - y)) ∧ Ev X 51 26 ls (vi (x - y) :: st) h Q) := R_sub rfl
theorem e_51_26 {x : Nat} {j : Int} : Ev X 51 26 ls (vi j :: vr x :: st) h Q ↔ (((X.1 x = 13 ∨ X.1 x = 20) ∧ 0 ≤ j ∧ j < X.2.1 x) ∧ Ev X 51 27 ls (vi (h.1 x j.toNat) :: st) h Q) := R_ia rfl
theorem e_51_27 {x : Nat} {j : Int} : Ev X 51 27 ls (vi j :: vr x :: st) h Q ↔ (((X.1 x = 13 ∨ X.1 x = 20) ∧ 0 ≤ j ∧ j < X.2.1 x) ∧ Ev X 51 28 ls (vi (h.1 x j.toNat) :: st) h Q) := R_ia rfl
theorem e_51_28 : Ev X 51 28 ls st h Q ↔ onR (gl ls 1) (fun z => Ev X 51 29 ls (vr z :: st) h Q) := R_al rfl (Or.inl rfl)
theorem e_51_29 {x : Nat} : Ev X 51 29 ls (vr x :: st) h Q ↔ (X.1 x = 3 ∧ Ev X 51 30 ls (vr (X.2.2.1 x 4) :: st) h Q) := R_gr rfl
theorem e_51_30 : Ev X 51 30 ls st h Q ↔ onI (gl ls 2) (fun z => Ev X 51 31 ls (vi z :: st) h Q) := R_il rfl (Or.inl rfl)
theorem e_51_31 {x : Nat} {j : Int} : Ev X 51 31 ls (vi j :: vr x :: st) h Q ↔ (((X.1 x = 13 ∨ X.1 x = 20) ∧ 0 ≤ j ∧ j < X.2.1 x) ∧ Ev X 51 32 ls (vi (h.1 x j.toNat) :: st) h Q) := R_ia rfl
theorem e_51_32 {x y : Int} : Ev X 51 32 ls (vi y :: vi x :: st) h Q ↔ (if x ≤ y then Ev X 51 45 ls st h Q else Ev X 51 33 ls st h Q) := R_icle rfl
theorem e_51_33 : Ev X 51 33 ls st h Q ↔ onR (gl ls 0) (fun z => Ev X 51 34 ls (vr z :: st) h Q) := R_al rfl (Or.inl rfl)
theorem e_51_34 {x : Nat} : Ev X 51 34 ls (vr x :: st) h Q ↔ (X.1 x = 7 ∧ Ev X 51 35 ls (vr (X.2.2.1 x 2) :: st) h Q) := R_gr rfl
theorem e_51_35 : Ev X 51 35 ls st h Q ↔ onI (gl ls 3) (fun z => Ev X 51 36 ls (vi z :: st) h Q) := R_il rfl (Or.inl rfl)
theorem e_51_36 : Ev X 51 36 ls st h Q ↔ onR (gl ls 0) (fun z => Ev X 51 37 ls (vr z :: st) h Q) := R_al rfl (Or.inl rfl)
theorem e_51_37 {x : Nat} : Ev X 51 37 ls (vr x :: st) h Q ↔ (X.1 x = 7 ∧ Ev X 51 38 ls (vr (X.2.2.1 x 2) :: st) h Q) := R_gr rfl
theorem e_51_38 : Ev X 51 38 ls st h Q ↔ onI (gl ls 3) (fun z => Ev X 51 39 ls (vi z :: st) h Q) := R_il rfl (Or.inl rfl)
theorem e_51_39 : Ev X 51 39 ls st h Q ↔ Ev X 51 40 ls (vi 1 :: st) h Q := R_kc rfl (Or.inl ⟨Or.inl rfl, by decide⟩)
theorem e_51_40 {x y : Int} : Ev X 51 40 ls (vi y :: vi x :: st) h Q ↔ ((inR (x - y)) ∧ Ev X 51 41 ls (vi (x - y) :: st) h Q) := R_sub rfl
theorem e_51_41 {x : Nat} {j : Int} : Ev X 51 41 ls (vi j :: vr x :: st) h Q ↔ (((X.1 x = 13 ∨ X.1 x = 20) ∧ 0 ≤ j ∧ j < X.2.1 x) ∧ Ev X 51 42 ls (vi (h.1 x j.toNat) :: st) h Q) := R_ia rfl
theorem e_51_42 {x : Nat} {j v : Int} : Ev X 51 42 ls (vi v :: vi j :: vr x :: st) h Q ↔ ((X.1 x = 13 ∧ 0 ≤ j ∧ j < X.2.1 x) ∧ Ev X 51 43 ls st (up2 h.1 x j.toNat v, h.2) Q) := R_ias rfl
theorem e_51_43 : Ev X 51 43 ls st h Q ↔ onI (gl ls 3) (fun x => (stOK ls 3 = true ∧ inR (x + (-1))) ∧ Ev X 51 44 (ls.set 3 (some (vi (x + (-1))))) st h Q) := R_inc rfl
theorem e_51_44 : Ev X 51 44 ls st h Q ↔ Ev X 51 17 ls st h Q := R_go rfl
theorem e_51_45 : Ev X 51 45 ls st h Q ↔ onR (gl ls 0) (fun z => Ev X 51 46 ls (vr z :: st) h Q) := R_al rfl (Or.inl rfl)
theorem e_51_46 {x : Nat} : Ev X 51 46 ls (vr x :: st) h Q ↔ (X.1 x = 7 ∧ Ev X 51 47 ls (vr (X.2.2.1 x 2) :: st) h Q) := R_gr rfl
theorem e_51_47 : Ev X 51 47 ls st h Q ↔ onI (gl ls 3) (fun z => Ev X 51 48 ls (vi z :: st) h Q) := R_il rfl (Or.inl rfl)
theorem e_51_48 : Ev X 51 48 ls st h Q ↔ onI (gl ls 2) (fun z => Ev X 51 49 ls (vi z :: st) h Q) := R_il rfl (Or.inl rfl)
theorem e_51_49 {x : Nat} {j v : Int} : Ev X 51 49 ls (vi v :: vi j :: vr x :: st) h Q ↔ ((X.1 x = 13 ∧ 0 ≤ j ∧ j < X.2.1 x) ∧ Ev X 51 50 ls st (up2 h.1 x j.toNat v, h.2) Q) := R_ias rfl
theorem e_51_50 : Ev X 51 50 ls st h Q ↔ onR (gl ls 0) (fun z => Ev X 51 51 ls (vr z :: st) h Q) := R_al rfl (Or.inl rfl)
theorem e_51_51 {v : xV} : Ev X 51 51 ls (v :: st) h Q ↔ (ct1 v = true ∧ Ev X 51 52 ls (v :: v :: st) h Q) := R_dup rfl
theorem e_51_52 {x : Nat} : Ev X 51 52 ls (vr x :: st) h Q ↔ (X.1 x = 7 ∧ Ev X 51 53 ls (vi (h.2 x 3) :: st) h Q) := R_gi rfl
theorem e_51_53 : Ev X 51 53 ls st h Q ↔ Ev X 51 54 ls (vi 1 :: st) h Q := R_kc rfl (Or.inl ⟨Or.inl rfl, by decide⟩)
theorem e_51_54 {x y : Int} : Ev X 51 54 ls (vi y :: vi x :: st) h Q ↔ ((inR (x + y)) ∧ Ev X 51 55 ls (vi (x + y) :: st) h Q) := R_add rfl
theorem e_51_55 {x : Nat} {v : Int} : Ev X 51 55 ls (vi v :: vr x :: st) h Q ↔ (X.1 x = 7 ∧ Ev X 51 56 ls st (h.1, up2 h.2 x 3 v) Q) := R_pi rfl
theorem e_51_56 : Ev X 51 56 ls st h Q ↔ onI (gl ls 2) (fun x => (stOK ls 2 = true ∧ inR (x + 1)) ∧ Ev X 51 57 (ls.set 2 (some (vi (x + 1)))) st h Q) := R_inc rfl
theorem e_51_57 : Ev X 51 57 ls st h Q ↔ Ev X 51 5 ls st h Q := R_go rfl
theorem e_51_58 : Ev X 51 58 ls [] h Q ↔ Q none h := R_vr rfl
-- 52: CellRows$Packing.listOf(II)I
theorem e_52_0 : Ev X 52 0 ls st h Q ↔ Ev X 52 1 ls (vi 0 :: st) h Q := R_kc rfl (Or.inl ⟨Or.inl rfl, by decide⟩)
theorem e_52_1 {x : Int} : Ev X 52 1 ls (vi x :: st) h Q ↔ (stOK ls 3 = true ∧ Ev X 52 2 (ls.set 3 (some (vi x))) st h Q) := R_is rfl (Or.inl rfl)
theorem e_52_2 : Ev X 52 2 ls st h Q ↔ Ev X 52 3 ls (vi 0 :: st) h Q := R_kc rfl (Or.inl ⟨Or.inl rfl, by decide⟩)
theorem e_52_3 {x : Int} : Ev X 52 3 ls (vi x :: st) h Q ↔ (stOK ls 4 = true ∧ Ev X 52 4 (ls.set 4 (some (vi x))) st h Q) := R_is rfl (Or.inr rfl)
theorem e_52_4 : Ev X 52 4 ls st h Q ↔ onI (gl ls 4) (fun z => Ev X 52 5 ls (vi z :: st) h Q) := R_il rfl (Or.inr rfl)
theorem e_52_5 : Ev X 52 5 ls st h Q ↔ onI (gl ls 2) (fun z => Ev X 52 6 ls (vi z :: st) h Q) := R_il rfl (Or.inl rfl)
theorem e_52_6 {x y : Int} : Ev X 52 6 ls (vi y :: vi x :: st) h Q ↔ (if y ≤ x then Ev X 52 27 ls st h Q else Ev X 52 7 ls st h Q) := R_icge rfl
theorem e_52_7 : Ev X 52 7 ls st h Q ↔ onR (gl ls 0) (fun z => Ev X 52 8 ls (vr z :: st) h Q) := R_al rfl (Or.inl rfl)
theorem e_52_8 {x : Nat} : Ev X 52 8 ls (vr x :: st) h Q ↔ (X.1 x = 7 ∧ Ev X 52 9 ls (vr (X.2.2.1 x 4) :: st) h Q) := R_gr rfl
theorem e_52_9 : Ev X 52 9 ls st h Q ↔ onR (gl ls 0) (fun z => Ev X 52 10 ls (vr z :: st) h Q) := R_al rfl (Or.inl rfl)
theorem e_52_10 {x : Nat} : Ev X 52 10 ls (vr x :: st) h Q ↔ (X.1 x = 7 ∧ Ev X 52 11 ls (vr (X.2.2.1 x 2) :: st) h Q) := R_gr rfl
theorem e_52_11 : Ev X 52 11 ls st h Q ↔ onI (gl ls 4) (fun z => Ev X 52 12 ls (vi z :: st) h Q) := R_il rfl (Or.inr rfl)
theorem e_52_12 {x : Nat} {j : Int} : Ev X 52 12 ls (vi j :: vr x :: st) h Q ↔ (((X.1 x = 13 ∨ X.1 x = 20) ∧ 0 ≤ j ∧ j < X.2.1 x) ∧ Ev X 52 13 ls (vi (h.1 x j.toNat) :: st) h Q) := R_ia rfl
theorem e_52_13 {x : Nat} {j : Int} : Ev X 52 13 ls (vi j :: vr x :: st) h Q ↔ (((X.1 x = 13 ∨ X.1 x = 20) ∧ 0 ≤ j ∧ j < X.2.1 x) ∧ Ev X 52 14 ls (vi (h.1 x j.toNat) :: st) h Q) := R_ia rfl
theorem e_52_14 : Ev X 52 14 ls st h Q ↔ onI (gl ls 1) (fun z => Ev X 52 15 ls (vi z :: st) h Q) := R_il rfl (Or.inl rfl)
theorem e_52_15 {x y : Int} : Ev X 52 15 ls (vi y :: vi x :: st) h Q ↔ (if ¬ x = y then Ev X 52 25 ls st h Q else Ev X 52 16 ls st h Q) := R_icne rfl
theorem e_52_16 : Ev X 52 16 ls st h Q ↔ onR (gl ls 0) (fun z => Ev X 52 17 ls (vr z :: st) h Q) := R_al rfl (Or.inl rfl)
theorem e_52_17 {x : Nat} : Ev X 52 17 ls (vr x :: st) h Q ↔ (X.1 x = 7 ∧ Ev X 52 18 ls (vr (X.2.2.1 x 7) :: st) h Q) := R_gr rfl
theorem e_52_18 : Ev X 52 18 ls st h Q ↔ onI (gl ls 3) (fun z => Ev X 52 19 ls (vi z :: st) h Q) := R_il rfl (Or.inl rfl)
theorem e_52_19 : Ev X 52 19 ls st h Q ↔ onR (gl ls 0) (fun z => Ev X 52 20 ls (vr z :: st) h Q) := R_al rfl (Or.inl rfl)
theorem e_52_20 {x : Nat} : Ev X 52 20 ls (vr x :: st) h Q ↔ (X.1 x = 7 ∧ Ev X 52 21 ls (vr (X.2.2.1 x 2) :: st) h Q) := R_gr rfl
theorem e_52_21 : Ev X 52 21 ls st h Q ↔ onI (gl ls 4) (fun z => Ev X 52 22 ls (vi z :: st) h Q) := R_il rfl (Or.inr rfl)
theorem e_52_22 {x : Nat} {j : Int} : Ev X 52 22 ls (vi j :: vr x :: st) h Q ↔ (((X.1 x = 13 ∨ X.1 x = 20) ∧ 0 ≤ j ∧ j < X.2.1 x) ∧ Ev X 52 23 ls (vi (h.1 x j.toNat) :: st) h Q) := R_ia rfl
theorem e_52_23 {x : Nat} {j v : Int} : Ev X 52 23 ls (vi v :: vi j :: vr x :: st) h Q ↔ ((X.1 x = 13 ∧ 0 ≤ j ∧ j < X.2.1 x) ∧ Ev X 52 24 ls st (up2 h.1 x j.toNat v, h.2) Q) := R_ias rfl
theorem e_52_24 : Ev X 52 24 ls st h Q ↔ onI (gl ls 3) (fun x => (stOK ls 3 = true ∧ inR (x + 1)) ∧ Ev X 52 25 (ls.set 3 (some (vi (x + 1)))) st h Q) := R_inc rfl
theorem e_52_25 : Ev X 52 25 ls st h Q ↔ onI (gl ls 4) (fun x => (stOK ls 4 = true ∧ inR (x + 1)) ∧ Ev X 52 26 (ls.set 4 (some (vi (x + 1)))) st h Q) := R_inc rfl
theorem e_52_26 : Ev X 52 26 ls st h Q ↔ Ev X 52 4 ls st h Q := R_go rfl
theorem e_52_27 : Ev X 52 27 ls st h Q ↔ onI (gl ls 3) (fun z => Ev X 52 28 ls (vi z :: st) h Q) := R_il rfl (Or.inl rfl)
theorem e_52_28 {z : Int} : Ev X 52 28 ls [vi z] h Q ↔ Q (some (vi z)) h := R_ir rfl
-- 53: CellRows$Packing.cheapestRun(LCellRows$Cells;I)I
theorem e_53_0 : Ev X 53 0 ls st h Q ↔ onR (gl ls 0) (fun z => Ev X 53 1 ls (vr z :: st) h Q) := R_al rfl (Or.inl rfl)
theorem e_53_1 {x : Nat} : Ev X 53 1 ls (vr x :: st) h Q ↔ (X.1 x = 7 ∧ Ev X 53 2 ls (vr (X.2.2.1 x 2) :: st) h Q) := R_gr rfl
theorem e_53_2 : Ev X 53 2 ls st h Q ↔ onI (gl ls 2) (fun z => Ev X 53 3 ls (vi z :: st) h Q) := R_il rfl (Or.inl rfl)
theorem e_53_3 {x : Nat} {j : Int} : Ev X 53 3 ls (vi j :: vr x :: st) h Q ↔ (((X.1 x = 13 ∨ X.1 x = 20) ∧ 0 ≤ j ∧ j < X.2.1 x) ∧ Ev X 53 4 ls (vi (h.1 x j.toNat) :: st) h Q) := R_ia rfl
theorem e_53_4 {x : Int} : Ev X 53 4 ls (vi x :: st) h Q ↔ (stOK ls 3 = true ∧ Ev X 53 5 (ls.set 3 (some (vi x))) st h Q) := R_is rfl (Or.inl rfl)
theorem e_53_5 : Ev X 53 5 ls st h Q ↔ onR (gl ls 1) (fun z => Ev X 53 6 ls (vr z :: st) h Q) := R_al rfl (Or.inl rfl)
theorem e_53_6 {x : Nat} : Ev X 53 6 ls (vr x :: st) h Q ↔ (X.1 x = 3 ∧ Ev X 53 7 ls (vr (X.2.2.1 x 1) :: st) h Q) := R_gr rfl
theorem e_53_7 : Ev X 53 7 ls st h Q ↔ onI (gl ls 3) (fun z => Ev X 53 8 ls (vi z :: st) h Q) := R_il rfl (Or.inl rfl)
theorem e_53_8 {x : Nat} {j : Int} : Ev X 53 8 ls (vi j :: vr x :: st) h Q ↔ (((X.1 x = 13 ∨ X.1 x = 20) ∧ 0 ≤ j ∧ j < X.2.1 x) ∧ Ev X 53 9 ls (vi (h.1 x j.toNat) :: st) h Q) := R_ia rfl
theorem e_53_9 {x : Int} : Ev X 53 9 ls (vi x :: st) h Q ↔ (stOK ls 4 = true ∧ Ev X 53 10 (ls.set 4 (some (vi x))) st h Q) := R_is rfl (Or.inr rfl)
theorem e_53_10 : Ev X 53 10 ls st h Q ↔ Ev X 53 11 ls (vi (-1) :: st) h Q := R_kc rfl (Or.inl ⟨Or.inl rfl, by decide⟩)
theorem e_53_11 {x : Int} : Ev X 53 11 ls (vi x :: st) h Q ↔ (stOK ls 5 = true ∧ Ev X 53 12 (ls.set 5 (some (vi x))) st h Q) := R_is rfl (Or.inr rfl)
theorem e_53_12 : Ev X 53 12 ls st h Q ↔ Ev X 53 13 ls (vi 268435456 :: st) h Q := R_kc rfl (Or.inl ⟨Or.inr (Or.inl rfl), by decide⟩)
theorem e_53_13 {x : Int} : Ev X 53 13 ls (vi x :: st) h Q ↔ (stOK ls 6 = true ∧ Ev X 53 14 (ls.set 6 (some (vi x))) st h Q) := R_is rfl (Or.inr rfl)
theorem e_53_14 : Ev X 53 14 ls st h Q ↔ Ev X 53 15 ls (vi 0 :: st) h Q := R_kc rfl (Or.inl ⟨Or.inl rfl, by decide⟩)
theorem e_53_15 {x : Int} : Ev X 53 15 ls (vi x :: st) h Q ↔ (stOK ls 7 = true ∧ Ev X 53 16 (ls.set 7 (some (vi x))) st h Q) := R_is rfl (Or.inr rfl)
theorem e_53_16 : Ev X 53 16 ls st h Q ↔ onI (gl ls 7) (fun z => Ev X 53 17 ls (vi z :: st) h Q) := R_il rfl (Or.inr rfl)
theorem e_53_17 : Ev X 53 17 ls st h Q ↔ onR (gl ls 0) (fun z => Ev X 53 18 ls (vr z :: st) h Q) := R_al rfl (Or.inl rfl)
theorem e_53_18 {x : Nat} : Ev X 53 18 ls (vr x :: st) h Q ↔ (X.1 x = 7 ∧ Ev X 53 19 ls (vr (X.2.2.1 x 1) :: st) h Q) := R_gr rfl
theorem e_53_19 {x : Nat} : Ev X 53 19 ls (vr x :: st) h Q ↔ (X.1 x = 4 ∧ Ev X 53 20 ls (vi (h.2 x 3) :: st) h Q) := R_gi rfl
theorem e_53_20 {x y : Int} : Ev X 53 20 ls (vi y :: vi x :: st) h Q ↔ (if y ≤ x then Ev X 53 100 ls st h Q else Ev X 53 21 ls st h Q) := R_icge rfl
theorem e_53_21 : Ev X 53 21 ls st h Q ↔ onR (gl ls 0) (fun z => Ev X 53 22 ls (vr z :: st) h Q) := R_al rfl (Or.inl rfl)
theorem e_53_22 {x : Nat} : Ev X 53 22 ls (vr x :: st) h Q ↔ (X.1 x = 7 ∧ Ev X 53 23 ls (vr (X.2.2.1 x 1) :: st) h Q) := R_gr rfl
theorem e_53_23 {x : Nat} : Ev X 53 23 ls (vr x :: st) h Q ↔ (X.1 x = 4 ∧ Ev X 53 24 ls (vr (X.2.2.1 x 5) :: st) h Q) := R_gr rfl
theorem e_53_24 : Ev X 53 24 ls st h Q ↔ onI (gl ls 7) (fun z => Ev X 53 25 ls (vi z :: st) h Q) := R_il rfl (Or.inr rfl)
theorem e_53_25 {x : Nat} {j : Int} : Ev X 53 25 ls (vi j :: vr x :: st) h Q ↔ (((X.1 x = 13 ∨ X.1 x = 20) ∧ 0 ≤ j ∧ j < X.2.1 x) ∧ Ev X 53 26 ls (vi (h.1 x j.toNat) :: st) h Q) := R_ia rfl
theorem e_53_26 : Ev X 53 26 ls st h Q ↔ onR (gl ls 1) (fun z => Ev X 53 27 ls (vr z :: st) h Q) := R_al rfl (Or.inl rfl)
theorem e_53_27 {x : Nat} : Ev X 53 27 ls (vr x :: st) h Q ↔ (X.1 x = 3 ∧ Ev X 53 28 ls (vr (X.2.2.1 x 2) :: st) h Q) := R_gr rfl
theorem e_53_28 : Ev X 53 28 ls st h Q ↔ onI (gl ls 3) (fun z => Ev X 53 29 ls (vi z :: st) h Q) := R_il rfl (Or.inl rfl)
theorem e_53_29 {x : Nat} {j : Int} : Ev X 53 29 ls (vi j :: vr x :: st) h Q ↔ (((X.1 x = 13 ∨ X.1 x = 20) ∧ 0 ≤ j ∧ j < X.2.1 x) ∧ Ev X 53 30 ls (vi (h.1 x j.toNat) :: st) h Q) := R_ia rfl
theorem e_53_30 {x y : Int} : Ev X 53 30 ls (vi y :: vi x :: st) h Q ↔ (if ¬ x = y then Ev X 53 98 ls st h Q else Ev X 53 31 ls st h Q) := R_icne rfl
theorem e_53_31 : Ev X 53 31 ls st h Q ↔ onR (gl ls 0) (fun z => Ev X 53 32 ls (vr z :: st) h Q) := R_al rfl (Or.inl rfl)
theorem e_53_32 {x : Nat} : Ev X 53 32 ls (vr x :: st) h Q ↔ (X.1 x = 7 ∧ Ev X 53 33 ls (vr (X.2.2.1 x 6) :: st) h Q) := R_gr rfl
theorem e_53_33 : Ev X 53 33 ls st h Q ↔ onI (gl ls 7) (fun z => Ev X 53 34 ls (vi z :: st) h Q) := R_il rfl (Or.inr rfl)
theorem e_53_34 {x : Nat} {j : Int} : Ev X 53 34 ls (vi j :: vr x :: st) h Q ↔ (((X.1 x = 13 ∨ X.1 x = 20) ∧ 0 ≤ j ∧ j < X.2.1 x) ∧ Ev X 53 35 ls (vi (h.1 x j.toNat) :: st) h Q) := R_ia rfl
theorem e_53_35 : Ev X 53 35 ls st h Q ↔ onI (gl ls 4) (fun z => Ev X 53 36 ls (vi z :: st) h Q) := R_il rfl (Or.inr rfl)
theorem e_53_36 {x y : Int} : Ev X 53 36 ls (vi y :: vi x :: st) h Q ↔ ((inR (x + y)) ∧ Ev X 53 37 ls (vi (x + y) :: st) h Q) := R_add rfl
theorem e_53_37 : Ev X 53 37 ls st h Q ↔ onR (gl ls 0) (fun z => Ev X 53 38 ls (vr z :: st) h Q) := R_al rfl (Or.inl rfl)
theorem e_53_38 {x : Nat} : Ev X 53 38 ls (vr x :: st) h Q ↔ (X.1 x = 7 ∧ Ev X 53 39 ls (vr (X.2.2.1 x 1) :: st) h Q) := R_gr rfl
theorem e_53_39 {x : Nat} : Ev X 53 39 ls (vr x :: st) h Q ↔ (X.1 x = 4 ∧ Ev X 53 40 ls (vr (X.2.2.1 x 7) :: st) h Q) := R_gr rfl
theorem e_53_40 : Ev X 53 40 ls st h Q ↔ onI (gl ls 7) (fun z => Ev X 53 41 ls (vi z :: st) h Q) := R_il rfl (Or.inr rfl)
theorem e_53_41 {x : Nat} {j : Int} : Ev X 53 41 ls (vi j :: vr x :: st) h Q ↔ (((X.1 x = 13 ∨ X.1 x = 20) ∧ 0 ≤ j ∧ j < X.2.1 x) ∧ Ev X 53 42 ls (vi (h.1 x j.toNat) :: st) h Q) := R_ia rfl
theorem e_53_42 {x y : Int} : Ev X 53 42 ls (vi y :: vi x :: st) h Q ↔ (if y < x then Ev X 53 98 ls st h Q else Ev X 53 43 ls st h Q) := R_icgt rfl
theorem e_53_43 : Ev X 53 43 ls st h Q ↔ onR (gl ls 0) (fun z => Ev X 53 44 ls (vr z :: st) h Q) := R_al rfl (Or.inl rfl)
theorem e_53_44 : Ev X 53 44 ls st h Q ↔ onI (gl ls 7) (fun z => Ev X 53 45 ls (vi z :: st) h Q) := R_il rfl (Or.inr rfl)
theorem e_53_45 : Ev X 53 45 ls st h Q ↔ onI (gl ls 2) (fun z => Ev X 53 46 ls (vi z :: st) h Q) := R_il rfl (Or.inl rfl)
theorem e_53_46 {rest : List xV} {a0 : Int} {a1 : Int} {o : Nat} : Ev X 53 46 ls ((vi a1) :: (vi a0) :: vr o :: rest) h Q ↔ ((X.1 o = 7 ∧ wd rest ≤ 8) ∧ Cl X 52 [vr o, vi a0, vi a1] h (fun r h2 => Ev X 53 47 ls (r.toList ++ rest) h2 Q)) := R_cv (x := o) (as := [vi a0, vi a1]) (k2 := 52) rfl rfl (Nat.le_of_ble_eq_true rfl)
theorem e_53_47 {x : Int} : Ev X 53 47 ls (vi x :: st) h Q ↔ (stOK ls 8 = true ∧ Ev X 53 48 (ls.set 8 (some (vi x))) st h Q) := R_is rfl (Or.inr rfl)
theorem e_53_48 : Ev X 53 48 ls st h Q ↔ onR (gl ls 0) (fun z => Ev X 53 49 ls (vr z :: st) h Q) := R_al rfl (Or.inl rfl)
theorem e_53_49 {x : Nat} : Ev X 53 49 ls (vr x :: st) h Q ↔ (X.1 x = 7 ∧ Ev X 53 50 ls (vr (X.2.2.1 x 7) :: st) h Q) := R_gr rfl
theorem e_53_50 : Ev X 53 50 ls st h Q ↔ onI (gl ls 8) (fun z => Ev X 53 51 ls (vi z :: st) h Q) := R_il rfl (Or.inr rfl)
theorem e_53_51 : Ev X 53 51 ls st h Q ↔ onI (gl ls 3) (fun z => Ev X 53 52 ls (vi z :: st) h Q) := R_il rfl (Or.inl rfl)
theorem e_53_52 {x : Nat} {j v : Int} : Ev X 53 52 ls (vi v :: vi j :: vr x :: st) h Q ↔ ((X.1 x = 13 ∧ 0 ≤ j ∧ j < X.2.1 x) ∧ Ev X 53 53 ls st (up2 h.1 x j.toNat v, h.2) Q) := R_ias rfl
theorem e_53_53 : Ev X 53 53 ls st h Q ↔ Ev X 53 54 ls (vi 16 :: st) h Q := R_kc rfl (Or.inr (Or.inl ⟨rfl, by decide⟩))
theorem e_53_54 : Ev X 53 54 ls st h Q ↔ onR (gl ls 0) (fun z => Ev X 53 55 ls (vr z :: st) h Q) := R_al rfl (Or.inl rfl)
theorem e_53_55 {x : Nat} : Ev X 53 55 ls (vr x :: st) h Q ↔ (X.1 x = 7 ∧ Ev X 53 56 ls (vr (X.2.2.1 x 1) :: st) h Q) := R_gr rfl
theorem e_53_56 {x : Nat} : Ev X 53 56 ls (vr x :: st) h Q ↔ (X.1 x = 4 ∧ Ev X 53 57 ls (vr (X.2.2.1 x 4) :: st) h Q) := R_gr rfl
theorem e_53_57 : Ev X 53 57 ls st h Q ↔ onI (gl ls 7) (fun z => Ev X 53 58 ls (vi z :: st) h Q) := R_il rfl (Or.inr rfl)
theorem e_53_58 {x : Nat} {j : Int} : Ev X 53 58 ls (vi j :: vr x :: st) h Q ↔ (((X.1 x = 13 ∨ X.1 x = 20) ∧ 0 ≤ j ∧ j < X.2.1 x) ∧ Ev X 53 59 ls (vi (h.1 x j.toNat) :: st) h Q) := R_ia rfl
theorem e_53_59 {x y : Int} : Ev X 53 59 ls (vi y :: vi x :: st) h Q ↔ ((inR (x * y)) ∧ Ev X 53 60 ls (vi (x * y) :: st) h Q) := R_mul rfl
theorem e_53_60 : Ev X 53 60 ls st h Q ↔ onR (gl ls 1) (fun z => Ev X 53 61 ls (vr z :: st) h Q) := R_al rfl (Or.inl rfl)
theorem e_53_61 {x : Nat} : Ev X 53 61 ls (vr x :: st) h Q ↔ (X.1 x = 3 ∧ Ev X 53 62 ls (vr (X.2.2.1 x 5) :: st) h Q) := R_gr rfl
theorem e_53_62 : Ev X 53 62 ls st h Q ↔ onI (gl ls 3) (fun z => Ev X 53 63 ls (vi z :: st) h Q) := R_il rfl (Or.inl rfl)
theorem e_53_63 {x : Nat} {j : Int} : Ev X 53 63 ls (vi j :: vr x :: st) h Q ↔ (((X.1 x = 13 ∨ X.1 x = 20) ∧ 0 ≤ j ∧ j < X.2.1 x) ∧ Ev X 53 64 ls (vi (h.1 x j.toNat) :: st) h Q) := R_ia rfl
theorem e_53_64 {x y : Int} : Ev X 53 64 ls (vi y :: vi x :: st) h Q ↔ ((inR (x - y)) ∧ Ev X 53 65 ls (vi (x - y) :: st) h Q) := R_sub rfl
theorem e_53_65 {rest : List xV} {a0 : Int} : Ev X 53 65 ls ((vi a0) :: rest) h Q ↔ (wd rest ≤ 8 ∧ Cl X 283 [vi a0] h (fun r h2 => Ev X 53 66 ls (r.toList ++ rest) h2 Q)) := R_cs (as := [vi a0]) (k2 := 283) rfl rfl (Nat.le_of_ble_eq_true rfl)
theorem e_53_66 {x : Int} : Ev X 53 66 ls (vi x :: st) h Q ↔ (stOK ls 9 = true ∧ Ev X 53 67 (ls.set 9 (some (vi x))) st h Q) := R_is rfl (Or.inr rfl)
theorem e_53_67 : Ev X 53 67 ls st h Q ↔ onR (gl ls 0) (fun z => Ev X 53 68 ls (vr z :: st) h Q) := R_al rfl (Or.inl rfl)
theorem e_53_68 : Ev X 53 68 ls st h Q ↔ onR (gl ls 1) (fun z => Ev X 53 69 ls (vr z :: st) h Q) := R_al rfl (Or.inl rfl)
theorem e_53_69 : Ev X 53 69 ls st h Q ↔ onR (gl ls 0) (fun z => Ev X 53 70 ls (vr z :: st) h Q) := R_al rfl (Or.inl rfl)
theorem e_53_70 {x : Nat} : Ev X 53 70 ls (vr x :: st) h Q ↔ (X.1 x = 7 ∧ Ev X 53 71 ls (vr (X.2.2.1 x 7) :: st) h Q) := R_gr rfl
theorem e_53_71 : Ev X 53 71 ls st h Q ↔ onI (gl ls 8) (fun z => Ev X 53 72 ls (vi z :: st) h Q) := R_il rfl (Or.inr rfl)
theorem e_53_72 : Ev X 53 72 ls st h Q ↔ Ev X 53 73 ls (vi 1 :: st) h Q := R_kc rfl (Or.inl ⟨Or.inl rfl, by decide⟩)
theorem e_53_73 {x y : Int} : Ev X 53 73 ls (vi y :: vi x :: st) h Q ↔ ((inR (x + y)) ∧ Ev X 53 74 ls (vi (x + y) :: st) h Q) := R_add rfl
theorem e_53_74 : Ev X 53 74 ls st h Q ↔ onI (gl ls 7) (fun z => Ev X 53 75 ls (vi z :: st) h Q) := R_il rfl (Or.inr rfl)
theorem e_53_75 {rest : List xV} {a0 : Nat} {a1 : Nat} {a2 : Int} {a3 : Int} {o : Nat} : Ev X 53 75 ls ((vi a3) :: (vi a2) :: (vr a1) :: (vr a0) :: vr o :: rest) h Q ↔ ((X.1 o = 7 ∧ wd rest ≤ 8) ∧ Cl X 48 [vr o, vr a0, vr a1, vi a2, vi a3] h (fun r h2 => Ev X 53 76 ls (r.toList ++ rest) h2 Q)) := R_cv (x := o) (as := [vr a0, vr a1, vi a2, vi a3]) (k2 := 48) rfl rfl (Nat.le_of_ble_eq_true rfl)
theorem e_53_76 : Ev X 53 76 ls st h Q ↔ onR (gl ls 0) (fun z => Ev X 53 77 ls (vr z :: st) h Q) := R_al rfl (Or.inl rfl)
theorem e_53_77 {x : Nat} : Ev X 53 77 ls (vr x :: st) h Q ↔ (X.1 x = 7 ∧ Ev X 53 78 ls (vr (X.2.2.1 x 5) :: st) h Q) := R_gr rfl
theorem e_53_78 : Ev X 53 78 ls st h Q ↔ onI (gl ls 7) (fun z => Ev X 53 79 ls (vi z :: st) h Q) := R_il rfl (Or.inr rfl)
theorem e_53_79 {x : Nat} {j : Int} : Ev X 53 79 ls (vi j :: vr x :: st) h Q ↔ (((X.1 x = 13 ∨ X.1 x = 20) ∧ 0 ≤ j ∧ j < X.2.1 x) ∧ Ev X 53 80 ls (vi (h.1 x j.toNat) :: st) h Q) := R_ia rfl
theorem e_53_80 {x y : Int} : Ev X 53 80 ls (vi y :: vi x :: st) h Q ↔ ((inR (x - y)) ∧ Ev X 53 81 ls (vi (x - y) :: st) h Q) := R_sub rfl
theorem e_53_81 : Ev X 53 81 ls st h Q ↔ onI (gl ls 4) (fun z => Ev X 53 82 ls (vi z :: st) h Q) := R_il rfl (Or.inr rfl)
theorem e_53_82 : Ev X 53 82 ls st h Q ↔ onR (gl ls 0) (fun z => Ev X 53 83 ls (vr z :: st) h Q) := R_al rfl (Or.inl rfl)
theorem e_53_83 {x : Nat} : Ev X 53 83 ls (vr x :: st) h Q ↔ (X.1 x = 7 ∧ Ev X 53 84 ls (vr (X.2.2.1 x 0) :: st) h Q) := R_gr rfl
theorem e_53_84 : Ev X 53 84 ls st h Q ↔ Ev X 53 85 ls (vi 4 :: st) h Q := R_kc rfl (Or.inl ⟨Or.inl rfl, by decide⟩)
theorem e_53_85 {x : Nat} {j : Int} : Ev X 53 85 ls (vi j :: vr x :: st) h Q ↔ (((X.1 x = 13 ∨ X.1 x = 20) ∧ 0 ≤ j ∧ j < X.2.1 x) ∧ Ev X 53 86 ls (vi (h.1 x j.toNat) :: st) h Q) := R_ia rfl
theorem e_53_86 {x y : Int} : Ev X 53 86 ls (vi y :: vi x :: st) h Q ↔ ((inR (x * y)) ∧ Ev X 53 87 ls (vi (x * y) :: st) h Q) := R_mul rfl
theorem e_53_87 : Ev X 53 87 ls st h Q ↔ onI (gl ls 9) (fun z => Ev X 53 88 ls (vi z :: st) h Q) := R_il rfl (Or.inr rfl)
theorem e_53_88 {x y : Int} : Ev X 53 88 ls (vi y :: vi x :: st) h Q ↔ ((inR (x * y)) ∧ Ev X 53 89 ls (vi (x * y) :: st) h Q) := R_mul rfl
theorem e_53_89 {x y : Int} : Ev X 53 89 ls (vi y :: vi x :: st) h Q ↔ ((inR (x + y)) ∧ Ev X 53 90 ls (vi (x + y) :: st) h Q) := R_add rfl
theorem e_53_90 {x : Int} : Ev X 53 90 ls (vi x :: st) h Q ↔ (stOK ls 10 = true ∧ Ev X 53 91 (ls.set 10 (some (vi x))) st h Q) := R_is rfl (Or.inr rfl)
theorem e_53_91 : Ev X 53 91 ls st h Q ↔ onI (gl ls 10) (fun z => Ev X 53 92 ls (vi z :: st) h Q) := R_il rfl (Or.inr rfl)
theorem e_53_92 : Ev X 53 92 ls st h Q ↔ onI (gl ls 6) (fun z => Ev X 53 93 ls (vi z :: st) h Q) := R_il rfl (Or.inr rfl)
theorem e_53_93 {x y : Int} : Ev X 53 93 ls (vi y :: vi x :: st) h Q ↔ (if y ≤ x then Ev X 53 98 ls st h Q else Ev X 53 94 ls st h Q) := R_icge rfl
theorem e_53_94 : Ev X 53 94 ls st h Q ↔ onI (gl ls 10) (fun z => Ev X 53 95 ls (vi z :: st) h Q) := R_il rfl (Or.inr rfl)
theorem e_53_95 {x : Int} : Ev X 53 95 ls (vi x :: st) h Q ↔ (stOK ls 6 = true ∧ Ev X 53 96 (ls.set 6 (some (vi x))) st h Q) := R_is rfl (Or.inr rfl)
theorem e_53_96 : Ev X 53 96 ls st h Q ↔ onI (gl ls 7) (fun z => Ev X 53 97 ls (vi z :: st) h Q) := R_il rfl (Or.inr rfl)
theorem e_53_97 {x : Int} : Ev X 53 97 ls (vi x :: st) h Q ↔ (stOK ls 5 = true ∧ Ev X 53 98 (ls.set 5 (some (vi x))) st h Q) := R_is rfl (Or.inr rfl)
theorem e_53_98 : Ev X 53 98 ls st h Q ↔ onI (gl ls 7) (fun x => (stOK ls 7 = true ∧ inR (x + 1)) ∧ Ev X 53 99 (ls.set 7 (some (vi (x + 1)))) st h Q) := R_inc rfl
theorem e_53_99 : Ev X 53 99 ls st h Q ↔ Ev X 53 16 ls st h Q := R_go rfl
theorem e_53_100 : Ev X 53 100 ls st h Q ↔ onI (gl ls 5) (fun z => Ev X 53 101 ls (vi z :: st) h Q) := R_il rfl (Or.inr rfl)
theorem e_53_101 {z : Int} : Ev X 53 101 ls [vi z] h Q ↔ Q (some (vi z)) h := R_ir rfl
-- 54: CellRows$Packing.layOut(LCellRows$Cells;I)V
theorem e_54_0 : Ev X 54 0 ls st h Q ↔ onR (gl ls 0) (fun z => Ev X 54 1 ls (vr z :: st) h Q) := R_al rfl (Or.inl rfl)
theorem e_54_1 : Ev X 54 1 ls st h Q ↔ onI (gl ls 2) (fun z => Ev X 54 2 ls (vi z :: st) h Q) := R_il rfl (Or.inl rfl)
theorem e_54_2 : Ev X 54 2 ls st h Q ↔ onR (gl ls 0) (fun z => Ev X 54 3 ls (vr z :: st) h Q) := R_al rfl (Or.inl rfl)
theorem e_54_3 {x : Nat} : Ev X 54 3 ls (vr x :: st) h Q ↔ (X.1 x = 7 ∧ Ev X 54 4 ls (vi (h.2 x 3) :: st) h Q) := R_gi rfl
theorem e_54_4 {rest : List xV} {a0 : Int} {a1 : Int} {o : Nat} : Ev X 54 4 ls ((vi a1) :: (vi a0) :: vr o :: rest) h Q ↔ ((X.1 o = 7 ∧ wd rest ≤ 8) ∧ Cl X 52 [vr o, vi a0, vi a1] h (fun r h2 => Ev X 54 5 ls (r.toList ++ rest) h2 Q)) := R_cv (x := o) (as := [vi a0, vi a1]) (k2 := 52) rfl rfl (Nat.le_of_ble_eq_true rfl)
theorem e_54_5 {x : Int} : Ev X 54 5 ls (vi x :: st) h Q ↔ (stOK ls 3 = true ∧ Ev X 54 6 (ls.set 3 (some (vi x))) st h Q) := R_is rfl (Or.inl rfl)
theorem e_54_6 : Ev X 54 6 ls st h Q ↔ onR (gl ls 0) (fun z => Ev X 54 7 ls (vr z :: st) h Q) := R_al rfl (Or.inl rfl)
theorem e_54_7 : Ev X 54 7 ls st h Q ↔ onR (gl ls 1) (fun z => Ev X 54 8 ls (vr z :: st) h Q) := R_al rfl (Or.inl rfl)
theorem e_54_8 : Ev X 54 8 ls st h Q ↔ onR (gl ls 0) (fun z => Ev X 54 9 ls (vr z :: st) h Q) := R_al rfl (Or.inl rfl)
theorem e_54_9 {x : Nat} : Ev X 54 9 ls (vr x :: st) h Q ↔ (X.1 x = 7 ∧ Ev X 54 10 ls (vr (X.2.2.1 x 7) :: st) h Q) := R_gr rfl
theorem e_54_10 : Ev X 54 10 ls st h Q ↔ onI (gl ls 3) (fun z => Ev X 54 11 ls (vi z :: st) h Q) := R_il rfl (Or.inl rfl)
theorem e_54_11 : Ev X 54 11 ls st h Q ↔ onI (gl ls 2) (fun z => Ev X 54 12 ls (vi z :: st) h Q) := R_il rfl (Or.inl rfl)
theorem e_54_12 {rest : List xV} {a0 : Nat} {a1 : Nat} {a2 : Int} {a3 : Int} {o : Nat} : Ev X 54 12 ls ((vi a3) :: (vi a2) :: (vr a1) :: (vr a0) :: vr o :: rest) h Q ↔ ((X.1 o = 7 ∧ wd rest ≤ 8) ∧ Cl X 48 [vr o, vr a0, vr a1, vi a2, vi a3] h (fun r h2 => Ev X 54 13 ls (r.toList ++ rest) h2 Q)) := R_cv (x := o) (as := [vr a0, vr a1, vi a2, vi a3]) (k2 := 48) rfl rfl (Nat.le_of_ble_eq_true rfl)
theorem e_54_13 {v : xV} : Ev X 54 13 ls (v :: st) h Q ↔ (ct1 v = true ∧ Ev X 54 14 ls st h Q) := R_pop rfl
theorem e_54_14 : Ev X 54 14 ls st h Q ↔ Ev X 54 15 ls (vi 0 :: st) h Q := R_kc rfl (Or.inl ⟨Or.inl rfl, by decide⟩)
theorem e_54_15 {x : Int} : Ev X 54 15 ls (vi x :: st) h Q ↔ (stOK ls 4 = true ∧ Ev X 54 16 (ls.set 4 (some (vi x))) st h Q) := R_is rfl (Or.inr rfl)
theorem e_54_16 : Ev X 54 16 ls st h Q ↔ Ev X 54 17 ls (vi 0 :: st) h Q := R_kc rfl (Or.inl ⟨Or.inl rfl, by decide⟩)
theorem e_54_17 {x : Int} : Ev X 54 17 ls (vi x :: st) h Q ↔ (stOK ls 5 = true ∧ Ev X 54 18 (ls.set 5 (some (vi x))) st h Q) := R_is rfl (Or.inr rfl)
theorem e_54_18 : Ev X 54 18 ls st h Q ↔ onI (gl ls 5) (fun z => Ev X 54 19 ls (vi z :: st) h Q) := R_il rfl (Or.inr rfl)
theorem e_54_19 : Ev X 54 19 ls st h Q ↔ onI (gl ls 3) (fun z => Ev X 54 20 ls (vi z :: st) h Q) := R_il rfl (Or.inl rfl)
theorem e_54_20 {x y : Int} : Ev X 54 20 ls (vi y :: vi x :: st) h Q ↔ (if y ≤ x then Ev X 54 93 ls st h Q else Ev X 54 21 ls st h Q) := R_icge rfl
theorem e_54_21 : Ev X 54 21 ls st h Q ↔ onR (gl ls 0) (fun z => Ev X 54 22 ls (vr z :: st) h Q) := R_al rfl (Or.inl rfl)
theorem e_54_22 {x : Nat} : Ev X 54 22 ls (vr x :: st) h Q ↔ (X.1 x = 7 ∧ Ev X 54 23 ls (vr (X.2.2.1 x 7) :: st) h Q) := R_gr rfl
theorem e_54_23 : Ev X 54 23 ls st h Q ↔ onI (gl ls 5) (fun z => Ev X 54 24 ls (vi z :: st) h Q) := R_il rfl (Or.inr rfl)
theorem e_54_24 {x : Nat} {j : Int} : Ev X 54 24 ls (vi j :: vr x :: st) h Q ↔ (((X.1 x = 13 ∨ X.1 x = 20) ∧ 0 ≤ j ∧ j < X.2.1 x) ∧ Ev X 54 25 ls (vi (h.1 x j.toNat) :: st) h Q) := R_ia rfl
theorem e_54_25 {x : Int} : Ev X 54 25 ls (vi x :: st) h Q ↔ (stOK ls 6 = true ∧ Ev X 54 26 (ls.set 6 (some (vi x))) st h Q) := R_is rfl (Or.inr rfl)
theorem e_54_26 : Ev X 54 26 ls st h Q ↔ onR (gl ls 1) (fun z => Ev X 54 27 ls (vr z :: st) h Q) := R_al rfl (Or.inl rfl)
theorem e_54_27 {x : Nat} : Ev X 54 27 ls (vr x :: st) h Q ↔ (X.1 x = 3 ∧ Ev X 54 28 ls (vr (X.2.2.1 x 1) :: st) h Q) := R_gr rfl
theorem e_54_28 : Ev X 54 28 ls st h Q ↔ onI (gl ls 6) (fun z => Ev X 54 29 ls (vi z :: st) h Q) := R_il rfl (Or.inr rfl)
theorem e_54_29 {x : Nat} {j : Int} : Ev X 54 29 ls (vi j :: vr x :: st) h Q ↔ (((X.1 x = 13 ∨ X.1 x = 20) ∧ 0 ≤ j ∧ j < X.2.1 x) ∧ Ev X 54 30 ls (vi (h.1 x j.toNat) :: st) h Q) := R_ia rfl
theorem e_54_30 {x : Int} : Ev X 54 30 ls (vi x :: st) h Q ↔ (stOK ls 7 = true ∧ Ev X 54 31 (ls.set 7 (some (vi x))) st h Q) := R_is rfl (Or.inr rfl)
theorem e_54_31 : Ev X 54 31 ls st h Q ↔ onR (gl ls 0) (fun z => Ev X 54 32 ls (vr z :: st) h Q) := R_al rfl (Or.inl rfl)
theorem e_54_32 {x : Nat} : Ev X 54 32 ls (vr x :: st) h Q ↔ (X.1 x = 7 ∧ Ev X 54 33 ls (vr (X.2.2.1 x 1) :: st) h Q) := R_gr rfl
theorem e_54_33 {x : Nat} : Ev X 54 33 ls (vr x :: st) h Q ↔ (X.1 x = 4 ∧ Ev X 54 34 ls (vr (X.2.2.1 x 6) :: st) h Q) := R_gr rfl
theorem e_54_34 : Ev X 54 34 ls st h Q ↔ onI (gl ls 2) (fun z => Ev X 54 35 ls (vi z :: st) h Q) := R_il rfl (Or.inl rfl)
theorem e_54_35 {x : Nat} {j : Int} : Ev X 54 35 ls (vi j :: vr x :: st) h Q ↔ (((X.1 x = 13 ∨ X.1 x = 20) ∧ 0 ≤ j ∧ j < X.2.1 x) ∧ Ev X 54 36 ls (vi (h.1 x j.toNat) :: st) h Q) := R_ia rfl
theorem e_54_36 {x : Int} : Ev X 54 36 ls (vi x :: st) h Q ↔ (stOK ls 8 = true ∧ Ev X 54 37 (ls.set 8 (some (vi x))) st h Q) := R_is rfl (Or.inr rfl)
theorem e_54_37 : Ev X 54 37 ls st h Q ↔ onR (gl ls 0) (fun z => Ev X 54 38 ls (vr z :: st) h Q) := R_al rfl (Or.inl rfl)
theorem e_54_38 {x : Nat} : Ev X 54 38 ls (vr x :: st) h Q ↔ (X.1 x = 7 ∧ Ev X 54 39 ls (vr (X.2.2.1 x 8) :: st) h Q) := R_gr rfl
theorem e_54_39 : Ev X 54 39 ls st h Q ↔ onI (gl ls 5) (fun z => Ev X 54 40 ls (vi z :: st) h Q) := R_il rfl (Or.inr rfl)
theorem e_54_40 {x : Nat} {j : Int} : Ev X 54 40 ls (vi j :: vr x :: st) h Q ↔ ((X.1 x = 16 ∧ 0 ≤ j ∧ j < X.2.1 x) ∧ Ev X 54 41 ls (vr (X.2.2.1 x j.toNat) :: st) h Q) := R_aa2 rfl
theorem e_54_41 : Ev X 54 41 ls st h Q ↔ onI (gl ls 4) (fun z => Ev X 54 42 ls (vi z :: st) h Q) := R_il rfl (Or.inr rfl)
theorem e_54_42 {x : Nat} {j : Int} : Ev X 54 42 ls (vi j :: vr x :: st) h Q ↔ (((X.1 x = 13 ∨ X.1 x = 20) ∧ 0 ≤ j ∧ j < X.2.1 x) ∧ Ev X 54 43 ls (vi (h.1 x j.toNat) :: st) h Q) := R_ia rfl
theorem e_54_43 {x : Int} : Ev X 54 43 ls (vi x :: st) h Q ↔ (stOK ls 9 = true ∧ Ev X 54 44 (ls.set 9 (some (vi x))) st h Q) := R_is rfl (Or.inr rfl)
theorem e_54_44 : Ev X 54 44 ls st h Q ↔ onR (gl ls 0) (fun z => Ev X 54 45 ls (vr z :: st) h Q) := R_al rfl (Or.inl rfl)
theorem e_54_45 {x : Nat} : Ev X 54 45 ls (vr x :: st) h Q ↔ (X.1 x = 7 ∧ Ev X 54 46 ls (vr (X.2.2.1 x 1) :: st) h Q) := R_gr rfl
theorem e_54_46 {x : Nat} : Ev X 54 46 ls (vr x :: st) h Q ↔ (X.1 x = 4 ∧ Ev X 54 47 ls (vr (X.2.2.1 x 7) :: st) h Q) := R_gr rfl
theorem e_54_47 : Ev X 54 47 ls st h Q ↔ onI (gl ls 2) (fun z => Ev X 54 48 ls (vi z :: st) h Q) := R_il rfl (Or.inl rfl)
theorem e_54_48 {x : Nat} {j : Int} : Ev X 54 48 ls (vi j :: vr x :: st) h Q ↔ (((X.1 x = 13 ∨ X.1 x = 20) ∧ 0 ≤ j ∧ j < X.2.1 x) ∧ Ev X 54 49 ls (vi (h.1 x j.toNat) :: st) h Q) := R_ia rfl
theorem e_54_49 : Ev X 54 49 ls st h Q ↔ onI (gl ls 7) (fun z => Ev X 54 50 ls (vi z :: st) h Q) := R_il rfl (Or.inr rfl)
theorem e_54_50 {x y : Int} : Ev X 54 50 ls (vi y :: vi x :: st) h Q ↔ ((inR (x - y)) ∧ Ev X 54 51 ls (vi (x - y) :: st) h Q) := R_sub rfl
theorem e_54_51 {x : Int} : Ev X 54 51 ls (vi x :: st) h Q ↔ (stOK ls 10 = true ∧ Ev X 54 52 (ls.set 10 (some (vi x))) st h Q) := R_is rfl (Or.inr rfl)
theorem e_54_52 : Ev X 54 52 ls st h Q ↔ onI (gl ls 4) (fun z => Ev X 54 53 ls (vi z :: st) h Q) := R_il rfl (Or.inr rfl)
theorem e_54_53 : Ev X 54 53 ls st h Q ↔ onI (gl ls 10) (fun z => Ev X 54 54 ls (vi z :: st) h Q) := R_il rfl (Or.inr rfl)
theorem e_54_54 {x y : Int} : Ev X 54 54 ls (vi y :: vi x :: st) h Q ↔ (if y ≤ x then Ev X 54 76 ls st h Q else Ev X 54 55 ls st h Q) := R_icge rfl
theorem e_54_55 : Ev X 54 55 ls st h Q ↔ onR (gl ls 1) (fun z => Ev X 54 56 ls (vr z :: st) h Q) := R_al rfl (Or.inl rfl)
theorem e_54_56 : Ev X 54 56 ls st h Q ↔ onI (gl ls 6) (fun z => Ev X 54 57 ls (vi z :: st) h Q) := R_il rfl (Or.inr rfl)
theorem e_54_57 : Ev X 54 57 ls st h Q ↔ onI (gl ls 8) (fun z => Ev X 54 58 ls (vi z :: st) h Q) := R_il rfl (Or.inr rfl)
theorem e_54_58 : Ev X 54 58 ls st h Q ↔ onI (gl ls 4) (fun z => Ev X 54 59 ls (vi z :: st) h Q) := R_il rfl (Or.inr rfl)
theorem e_54_59 {x y : Int} : Ev X 54 59 ls (vi y :: vi x :: st) h Q ↔ ((inR (x + y)) ∧ Ev X 54 60 ls (vi (x + y) :: st) h Q) := R_add rfl
theorem e_54_60 {rest : List xV} {a0 : Nat} {a1 : Int} {a2 : Int} : Ev X 54 60 ls ((vi a2) :: (vi a1) :: (vr a0) :: rest) h Q ↔ (wd rest ≤ 8 ∧ Cl X 49 [vr a0, vi a1, vi a2] h (fun r h2 => Ev X 54 61 ls (r.toList ++ rest) h2 Q)) := R_cs (as := [vr a0, vi a1, vi a2]) (k2 := 49) rfl rfl (Nat.le_of_ble_eq_true rfl)
theorem e_54_61 : Ev X 54 61 ls st h Q ↔ onR (gl ls 0) (fun z => Ev X 54 62 ls (vr z :: st) h Q) := R_al rfl (Or.inl rfl)
theorem e_54_62 {x : Nat} : Ev X 54 62 ls (vr x :: st) h Q ↔ (X.1 x = 7 ∧ Ev X 54 63 ls (vr (X.2.2.1 x 8) :: st) h Q) := R_gr rfl
theorem e_54_63 : Ev X 54 63 ls st h Q ↔ onI (gl ls 5) (fun z => Ev X 54 64 ls (vi z :: st) h Q) := R_il rfl (Or.inr rfl)
theorem e_54_64 : Ev X 54 64 ls st h Q ↔ Ev X 54 65 ls (vi 1 :: st) h Q := R_kc rfl (Or.inl ⟨Or.inl rfl, by decide⟩)
theorem e_54_65 {x y : Int} : Ev X 54 65 ls (vi y :: vi x :: st) h Q ↔ ((inR (x + y)) ∧ Ev X 54 66 ls (vi (x + y) :: st) h Q) := R_add rfl
theorem e_54_66 {x : Nat} {j : Int} : Ev X 54 66 ls (vi j :: vr x :: st) h Q ↔ ((X.1 x = 16 ∧ 0 ≤ j ∧ j < X.2.1 x) ∧ Ev X 54 67 ls (vr (X.2.2.1 x j.toNat) :: st) h Q) := R_aa2 rfl
theorem e_54_67 : Ev X 54 67 ls st h Q ↔ onI (gl ls 4) (fun z => Ev X 54 68 ls (vi z :: st) h Q) := R_il rfl (Or.inr rfl)
theorem e_54_68 : Ev X 54 68 ls st h Q ↔ onI (gl ls 7) (fun z => Ev X 54 69 ls (vi z :: st) h Q) := R_il rfl (Or.inr rfl)
theorem e_54_69 {x y : Int} : Ev X 54 69 ls (vi y :: vi x :: st) h Q ↔ ((inR (x + y)) ∧ Ev X 54 70 ls (vi (x + y) :: st) h Q) := R_add rfl
theorem e_54_70 {x : Nat} {j : Int} : Ev X 54 70 ls (vi j :: vr x :: st) h Q ↔ (((X.1 x = 13 ∨ X.1 x = 20) ∧ 0 ≤ j ∧ j < X.2.1 x) ∧ Ev X 54 71 ls (vi (h.1 x j.toNat) :: st) h Q) := R_ia rfl
theorem e_54_71 {x y : Int} : Ev X 54 71 ls (vi y :: vi x :: st) h Q ↔ ((inR (x + y)) ∧ Ev X 54 72 ls (vi (x + y) :: st) h Q) := R_add rfl
theorem e_54_72 : Ev X 54 72 ls st h Q ↔ onI (gl ls 9) (fun z => Ev X 54 73 ls (vi z :: st) h Q) := R_il rfl (Or.inr rfl)
theorem e_54_73 {x y : Int} : Ev X 54 73 ls (vi y :: vi x :: st) h Q ↔ (if x = y then Ev X 54 76 ls st h Q else Ev X 54 74 ls st h Q) := R_iceq rfl
theorem e_54_74 : Ev X 54 74 ls st h Q ↔ onI (gl ls 4) (fun x => (stOK ls 4 = true ∧ inR (x + 1)) ∧ Ev X 54 75 (ls.set 4 (some (vi (x + 1)))) st h Q) := R_inc rfl
theorem e_54_75 : Ev X 54 75 ls st h Q ↔ Ev X 54 52 ls st h Q := R_go rfl
theorem e_54_76 : Ev X 54 76 ls st h Q ↔ onR (gl ls 1) (fun z => Ev X 54 77 ls (vr z :: st) h Q) := R_al rfl (Or.inl rfl)
theorem e_54_77 : Ev X 54 77 ls st h Q ↔ onI (gl ls 6) (fun z => Ev X 54 78 ls (vi z :: st) h Q) := R_il rfl (Or.inr rfl)
theorem e_54_78 : Ev X 54 78 ls st h Q ↔ onR (gl ls 0) (fun z => Ev X 54 79 ls (vr z :: st) h Q) := R_al rfl (Or.inl rfl)
theorem e_54_79 {x : Nat} : Ev X 54 79 ls (vr x :: st) h Q ↔ (X.1 x = 7 ∧ Ev X 54 80 ls (vr (X.2.2.1 x 1) :: st) h Q) := R_gr rfl
theorem e_54_80 {x : Nat} : Ev X 54 80 ls (vr x :: st) h Q ↔ (X.1 x = 4 ∧ Ev X 54 81 ls (vr (X.2.2.1 x 4) :: st) h Q) := R_gr rfl
theorem e_54_81 : Ev X 54 81 ls st h Q ↔ onI (gl ls 2) (fun z => Ev X 54 82 ls (vi z :: st) h Q) := R_il rfl (Or.inl rfl)
theorem e_54_82 {x : Nat} {j : Int} : Ev X 54 82 ls (vi j :: vr x :: st) h Q ↔ (((X.1 x = 13 ∨ X.1 x = 20) ∧ 0 ≤ j ∧ j < X.2.1 x) ∧ Ev X 54 83 ls (vi (h.1 x j.toNat) :: st) h Q) := R_ia rfl
theorem e_54_83 : Ev X 54 83 ls st h Q ↔ onI (gl ls 8) (fun z => Ev X 54 84 ls (vi z :: st) h Q) := R_il rfl (Or.inr rfl)
theorem e_54_84 : Ev X 54 84 ls st h Q ↔ onI (gl ls 4) (fun z => Ev X 54 85 ls (vi z :: st) h Q) := R_il rfl (Or.inr rfl)
theorem e_54_85 {x y : Int} : Ev X 54 85 ls (vi y :: vi x :: st) h Q ↔ ((inR (x + y)) ∧ Ev X 54 86 ls (vi (x + y) :: st) h Q) := R_add rfl
theorem e_54_86 {rest : List xV} {a0 : Int} {a1 : Int} {a2 : Int} {o : Nat} : Ev X 54 86 ls ((vi a2) :: (vi a1) :: (vi a0) :: vr o :: rest) h Q ↔ ((X.1 o = 3 ∧ wd rest ≤ 8) ∧ Cl X 20 [vr o, vi a0, vi a1, vi a2] h (fun r h2 => Ev X 54 87 ls (r.toList ++ rest) h2 Q)) := R_cv (x := o) (as := [vi a0, vi a1, vi a2]) (k2 := 20) rfl rfl (Nat.le_of_ble_eq_true rfl)
theorem e_54_87 : Ev X 54 87 ls st h Q ↔ onI (gl ls 4) (fun z => Ev X 54 88 ls (vi z :: st) h Q) := R_il rfl (Or.inr rfl)
theorem e_54_88 : Ev X 54 88 ls st h Q ↔ onI (gl ls 7) (fun z => Ev X 54 89 ls (vi z :: st) h Q) := R_il rfl (Or.inr rfl)
theorem e_54_89 {x y : Int} : Ev X 54 89 ls (vi y :: vi x :: st) h Q ↔ ((inR (x + y)) ∧ Ev X 54 90 ls (vi (x + y) :: st) h Q) := R_add rfl
theorem e_54_90 {x : Int} : Ev X 54 90 ls (vi x :: st) h Q ↔ (stOK ls 4 = true ∧ Ev X 54 91 (ls.set 4 (some (vi x))) st h Q) := R_is rfl (Or.inr rfl)
theorem e_54_91 : Ev X 54 91 ls st h Q ↔ onI (gl ls 5) (fun x => (stOK ls 5 = true ∧ inR (x + 1)) ∧ Ev X 54 92 (ls.set 5 (some (vi (x + 1)))) st h Q) := R_inc rfl
theorem e_54_92 : Ev X 54 92 ls st h Q ↔ Ev X 54 18 ls st h Q := R_go rfl
theorem e_54_93 : Ev X 54 93 ls [] h Q ↔ Q none h := R_vr rfl
-- 55: CellRows$Passes.firstOrder(I)V
theorem e_55_0 : Ev X 55 0 ls st h Q ↔ Ev X 55 1 ls (vi 0 :: st) h Q := R_kc rfl (Or.inl ⟨Or.inl rfl, by decide⟩)
theorem e_55_1 {x : Int} : Ev X 55 1 ls (vi x :: st) h Q ↔ (stOK ls 2 = true ∧ Ev X 55 2 (ls.set 2 (some (vi x))) st h Q) := R_is rfl (Or.inl rfl)
theorem e_55_2 : Ev X 55 2 ls st h Q ↔ onI (gl ls 2) (fun z => Ev X 55 3 ls (vi z :: st) h Q) := R_il rfl (Or.inl rfl)
theorem e_55_3 : Ev X 55 3 ls st h Q ↔ onI (gl ls 1) (fun z => Ev X 55 4 ls (vi z :: st) h Q) := R_il rfl (Or.inl rfl)
theorem e_55_4 {x y : Int} : Ev X 55 4 ls (vi y :: vi x :: st) h Q ↔ (if y ≤ x then Ev X 55 17 ls st h Q else Ev X 55 5 ls st h Q) := R_icge rfl
theorem e_55_5 : Ev X 55 5 ls st h Q ↔ onR (gl ls 0) (fun z => Ev X 55 6 ls (vr z :: st) h Q) := R_al rfl (Or.inl rfl)
theorem e_55_6 {x : Nat} : Ev X 55 6 ls (vr x :: st) h Q ↔ (X.1 x = 8 ∧ Ev X 55 7 ls (vr (X.2.2.1 x 2) :: st) h Q) := R_gr rfl
theorem e_55_7 : Ev X 55 7 ls st h Q ↔ onI (gl ls 2) (fun z => Ev X 55 8 ls (vi z :: st) h Q) := R_il rfl (Or.inl rfl)
theorem e_55_8 : Ev X 55 8 ls st h Q ↔ onI (gl ls 2) (fun z => Ev X 55 9 ls (vi z :: st) h Q) := R_il rfl (Or.inl rfl)
theorem e_55_9 {x : Nat} {j v : Int} : Ev X 55 9 ls (vi v :: vi j :: vr x :: st) h Q ↔ ((X.1 x = 13 ∧ 0 ≤ j ∧ j < X.2.1 x) ∧ Ev X 55 10 ls st (up2 h.1 x j.toNat v, h.2) Q) := R_ias rfl
theorem e_55_10 : Ev X 55 10 ls st h Q ↔ onR (gl ls 0) (fun z => Ev X 55 11 ls (vr z :: st) h Q) := R_al rfl (Or.inl rfl)
theorem e_55_11 {x : Nat} : Ev X 55 11 ls (vr x :: st) h Q ↔ (X.1 x = 8 ∧ Ev X 55 12 ls (vr (X.2.2.1 x 3) :: st) h Q) := R_gr rfl
theorem e_55_12 : Ev X 55 12 ls st h Q ↔ onI (gl ls 2) (fun z => Ev X 55 13 ls (vi z :: st) h Q) := R_il rfl (Or.inl rfl)
theorem e_55_13 : Ev X 55 13 ls st h Q ↔ onI (gl ls 2) (fun z => Ev X 55 14 ls (vi z :: st) h Q) := R_il rfl (Or.inl rfl)
theorem e_55_14 {x : Nat} {j v : Int} : Ev X 55 14 ls (vi v :: vi j :: vr x :: st) h Q ↔ ((X.1 x = 13 ∧ 0 ≤ j ∧ j < X.2.1 x) ∧ Ev X 55 15 ls st (up2 h.1 x j.toNat v, h.2) Q) := R_ias rfl
theorem e_55_15 : Ev X 55 15 ls st h Q ↔ onI (gl ls 2) (fun x => (stOK ls 2 = true ∧ inR (x + 1)) ∧ Ev X 55 16 (ls.set 2 (some (vi (x + 1)))) st h Q) := R_inc rfl
theorem e_55_16 : Ev X 55 16 ls st h Q ↔ Ev X 55 2 ls st h Q := R_go rfl
theorem e_55_17 : Ev X 55 17 ls [] h Q ↔ Q none h := R_vr rfl
-- 56: CellRows$Passes.keepOrder(I)V
theorem e_56_0 : Ev X 56 0 ls st h Q ↔ Ev X 56 1 ls (vi 0 :: st) h Q := R_kc rfl (Or.inl ⟨Or.inl rfl, by decide⟩)
theorem e_56_1 {x : Int} : Ev X 56 1 ls (vi x :: st) h Q ↔ (stOK ls 2 = true ∧ Ev X 56 2 (ls.set 2 (some (vi x))) st h Q) := R_is rfl (Or.inl rfl)
theorem e_56_2 : Ev X 56 2 ls st h Q ↔ onI (gl ls 2) (fun z => Ev X 56 3 ls (vi z :: st) h Q) := R_il rfl (Or.inl rfl)
theorem e_56_3 : Ev X 56 3 ls st h Q ↔ onI (gl ls 1) (fun z => Ev X 56 4 ls (vi z :: st) h Q) := R_il rfl (Or.inl rfl)
theorem e_56_4 {x y : Int} : Ev X 56 4 ls (vi y :: vi x :: st) h Q ↔ (if y ≤ x then Ev X 56 15 ls st h Q else Ev X 56 5 ls st h Q) := R_icge rfl
theorem e_56_5 : Ev X 56 5 ls st h Q ↔ onR (gl ls 0) (fun z => Ev X 56 6 ls (vr z :: st) h Q) := R_al rfl (Or.inl rfl)
theorem e_56_6 {x : Nat} : Ev X 56 6 ls (vr x :: st) h Q ↔ (X.1 x = 8 ∧ Ev X 56 7 ls (vr (X.2.2.1 x 3) :: st) h Q) := R_gr rfl
theorem e_56_7 : Ev X 56 7 ls st h Q ↔ onI (gl ls 2) (fun z => Ev X 56 8 ls (vi z :: st) h Q) := R_il rfl (Or.inl rfl)
theorem e_56_8 : Ev X 56 8 ls st h Q ↔ onR (gl ls 0) (fun z => Ev X 56 9 ls (vr z :: st) h Q) := R_al rfl (Or.inl rfl)
theorem e_56_9 {x : Nat} : Ev X 56 9 ls (vr x :: st) h Q ↔ (X.1 x = 8 ∧ Ev X 56 10 ls (vr (X.2.2.1 x 2) :: st) h Q) := R_gr rfl
theorem e_56_10 : Ev X 56 10 ls st h Q ↔ onI (gl ls 2) (fun z => Ev X 56 11 ls (vi z :: st) h Q) := R_il rfl (Or.inl rfl)
theorem e_56_11 {x : Nat} {j : Int} : Ev X 56 11 ls (vi j :: vr x :: st) h Q ↔ (((X.1 x = 13 ∨ X.1 x = 20) ∧ 0 ≤ j ∧ j < X.2.1 x) ∧ Ev X 56 12 ls (vi (h.1 x j.toNat) :: st) h Q) := R_ia rfl
theorem e_56_12 {x : Nat} {j v : Int} : Ev X 56 12 ls (vi v :: vi j :: vr x :: st) h Q ↔ ((X.1 x = 13 ∧ 0 ≤ j ∧ j < X.2.1 x) ∧ Ev X 56 13 ls st (up2 h.1 x j.toNat v, h.2) Q) := R_ias rfl
theorem e_56_13 : Ev X 56 13 ls st h Q ↔ onI (gl ls 2) (fun x => (stOK ls 2 = true ∧ inR (x + 1)) ∧ Ev X 56 14 (ls.set 2 (some (vi (x + 1)))) st h Q) := R_inc rfl
theorem e_56_14 : Ev X 56 14 ls st h Q ↔ Ev X 56 2 ls st h Q := R_go rfl
theorem e_56_15 : Ev X 56 15 ls [] h Q ↔ Q none h := R_vr rfl
-- 57: CellRows$Passes.nextOrder(I)Z
theorem e_57_0 : Ev X 57 0 ls st h Q ↔ onI (gl ls 1) (fun z => Ev X 57 1 ls (vi z :: st) h Q) := R_il rfl (Or.inl rfl)
theorem e_57_1 : Ev X 57 1 ls st h Q ↔ Ev X 57 2 ls (vi 2 :: st) h Q := R_kc rfl (Or.inl ⟨Or.inl rfl, by decide⟩)
theorem e_57_2 {x y : Int} : Ev X 57 2 ls (vi y :: vi x :: st) h Q ↔ ((inR (x - y)) ∧ Ev X 57 3 ls (vi (x - y) :: st) h Q) := R_sub rfl
theorem e_57_3 {x : Int} : Ev X 57 3 ls (vi x :: st) h Q ↔ (stOK ls 2 = true ∧ Ev X 57 4 (ls.set 2 (some (vi x))) st h Q) := R_is rfl (Or.inl rfl)
theorem e_57_4 : Ev X 57 4 ls st h Q ↔ onI (gl ls 2) (fun z => Ev X 57 5 ls (vi z :: st) h Q) := R_il rfl (Or.inl rfl)
theorem e_57_5 {x : Int} : Ev X 57 5 ls (vi x :: st) h Q ↔ (if x < 0 then Ev X 57 19 ls st h Q else Ev X 57 6 ls st h Q) := R_iflt rfl
theorem e_57_6 : Ev X 57 6 ls st h Q ↔ onR (gl ls 0) (fun z => Ev X 57 7 ls (vr z :: st) h Q) := R_al rfl (Or.inl rfl)
theorem e_57_7 {x : Nat} : Ev X 57 7 ls (vr x :: st) h Q ↔ (X.1 x = 8 ∧ Ev X 57 8 ls (vr (X.2.2.1 x 2) :: st) h Q) := R_gr rfl
theorem e_57_8 : Ev X 57 8 ls st h Q ↔ onI (gl ls 2) (fun z => Ev X 57 9 ls (vi z :: st) h Q) := R_il rfl (Or.inl rfl)
theorem e_57_9 {x : Nat} {j : Int} : Ev X 57 9 ls (vi j :: vr x :: st) h Q ↔ (((X.1 x = 13 ∨ X.1 x = 20) ∧ 0 ≤ j ∧ j < X.2.1 x) ∧ Ev X 57 10 ls (vi (h.1 x j.toNat) :: st) h Q) := R_ia rfl
theorem e_57_10 : Ev X 57 10 ls st h Q ↔ onR (gl ls 0) (fun z => Ev X 57 11 ls (vr z :: st) h Q) := R_al rfl (Or.inl rfl)
theorem e_57_11 {x : Nat} : Ev X 57 11 ls (vr x :: st) h Q ↔ (X.1 x = 8 ∧ Ev X 57 12 ls (vr (X.2.2.1 x 2) :: st) h Q) := R_gr rfl
theorem e_57_12 : Ev X 57 12 ls st h Q ↔ onI (gl ls 2) (fun z => Ev X 57 13 ls (vi z :: st) h Q) := R_il rfl (Or.inl rfl)
theorem e_57_13 : Ev X 57 13 ls st h Q ↔ Ev X 57 14 ls (vi 1 :: st) h Q := R_kc rfl (Or.inl ⟨Or.inl rfl, by decide⟩)
theorem e_57_14 {x y : Int} : Ev X 57 14 ls (vi y :: vi x :: st) h Q ↔ ((inR (x + y)) ∧ Ev X 57 15 ls (vi (x + y) :: st) h Q) := R_add rfl
theorem e_57_15 {x : Nat} {j : Int} : Ev X 57 15 ls (vi j :: vr x :: st) h Q ↔ (((X.1 x = 13 ∨ X.1 x = 20) ∧ 0 ≤ j ∧ j < X.2.1 x) ∧ Ev X 57 16 ls (vi (h.1 x j.toNat) :: st) h Q) := R_ia rfl
theorem e_57_16 {x y : Int} : Ev X 57 16 ls (vi y :: vi x :: st) h Q ↔ (if x ≤ y then Ev X 57 19 ls st h Q else Ev X 57 17 ls st h Q) := R_icle rfl
theorem e_57_17 : Ev X 57 17 ls st h Q ↔ onI (gl ls 2) (fun x => (stOK ls 2 = true ∧ inR (x + (-1))) ∧ Ev X 57 18 (ls.set 2 (some (vi (x + (-1))))) st h Q) := R_inc rfl
theorem e_57_18 : Ev X 57 18 ls st h Q ↔ Ev X 57 4 ls st h Q := R_go rfl
theorem e_57_19 : Ev X 57 19 ls st h Q ↔ onI (gl ls 2) (fun z => Ev X 57 20 ls (vi z :: st) h Q) := R_il rfl (Or.inl rfl)
theorem e_57_20 {x : Int} : Ev X 57 20 ls (vi x :: st) h Q ↔ (if 0 ≤ x then Ev X 57 23 ls st h Q else Ev X 57 21 ls st h Q) := R_ifge rfl
theorem e_57_21 : Ev X 57 21 ls st h Q ↔ Ev X 57 22 ls (vi 0 :: st) h Q := R_kc rfl (Or.inl ⟨Or.inl rfl, by decide⟩)
theorem e_57_22 {z : Int} : Ev X 57 22 ls [vi z] h Q ↔ ((z = 0 ∨ z = 1) ∧ Q (some (vi z)) h) := R_zr rfl
theorem e_57_23 : Ev X 57 23 ls st h Q ↔ onI (gl ls 1) (fun z => Ev X 57 24 ls (vi z :: st) h Q) := R_il rfl (Or.inl rfl)
theorem e_57_24 : Ev X 57 24 ls st h Q ↔ Ev X 57 25 ls (vi 1 :: st) h Q := R_kc rfl (Or.inl ⟨Or.inl rfl, by decide⟩)
theorem e_57_25 {x y : Int} : Ev X 57 25 ls (vi y :: vi x :: st) h Q ↔ ((inR (x - y)) ∧ Ev X 57 26 ls (vi (x - y) :: st) h Q) := R_sub rfl
theorem e_57_26 {x : Int} : Ev X 57 26 ls (vi x :: st) h Q ↔ (stOK ls 3 = true ∧ Ev X 57 27 (ls.set 3 (some (vi x))) st h Q) := R_is rfl (Or.inl rfl)
theorem e_57_27 : Ev X 57 27 ls st h Q ↔ onI (gl ls 3) (fun z => Ev X 57 28 ls (vi z :: st) h Q) := R_il rfl (Or.inl rfl)
theorem e_57_28 : Ev X 57 28 ls st h Q ↔ onI (gl ls 2) (fun z => Ev X 57 29 ls (vi z :: st) h Q) := R_il rfl (Or.inl rfl)
theorem e_57_29 {x y : Int} : Ev X 57 29 ls (vi y :: vi x :: st) h Q ↔ (if x ≤ y then Ev X 57 41 ls st h Q else Ev X 57 30 ls st h Q) := R_icle rfl
theorem e_57_30 : Ev X 57 30 ls st h Q ↔ onR (gl ls 0) (fun z => Ev X 57 31 ls (vr z :: st) h Q) := R_al rfl (Or.inl rfl)
theorem e_57_31 {x : Nat} : Ev X 57 31 ls (vr x :: st) h Q ↔ (X.1 x = 8 ∧ Ev X 57 32 ls (vr (X.2.2.1 x 2) :: st) h Q) := R_gr rfl
theorem e_57_32 : Ev X 57 32 ls st h Q ↔ onI (gl ls 3) (fun z => Ev X 57 33 ls (vi z :: st) h Q) := R_il rfl (Or.inl rfl)
theorem e_57_33 {x : Nat} {j : Int} : Ev X 57 33 ls (vi j :: vr x :: st) h Q ↔ (((X.1 x = 13 ∨ X.1 x = 20) ∧ 0 ≤ j ∧ j < X.2.1 x) ∧ Ev X 57 34 ls (vi (h.1 x j.toNat) :: st) h Q) := R_ia rfl
theorem e_57_34 : Ev X 57 34 ls st h Q ↔ onR (gl ls 0) (fun z => Ev X 57 35 ls (vr z :: st) h Q) := R_al rfl (Or.inl rfl)
theorem e_57_35 {x : Nat} : Ev X 57 35 ls (vr x :: st) h Q ↔ (X.1 x = 8 ∧ Ev X 57 36 ls (vr (X.2.2.1 x 2) :: st) h Q) := R_gr rfl
theorem e_57_36 : Ev X 57 36 ls st h Q ↔ onI (gl ls 2) (fun z => Ev X 57 37 ls (vi z :: st) h Q) := R_il rfl (Or.inl rfl)
theorem e_57_37 {x : Nat} {j : Int} : Ev X 57 37 ls (vi j :: vr x :: st) h Q ↔ (((X.1 x = 13 ∨ X.1 x = 20) ∧ 0 ≤ j ∧ j < X.2.1 x) ∧ Ev X 57 38 ls (vi (h.1 x j.toNat) :: st) h Q) := R_ia rfl
theorem e_57_38 {x y : Int} : Ev X 57 38 ls (vi y :: vi x :: st) h Q ↔ (if y ≤ x then Ev X 57 41 ls st h Q else Ev X 57 39 ls st h Q) := R_icge rfl
theorem e_57_39 : Ev X 57 39 ls st h Q ↔ onI (gl ls 3) (fun x => (stOK ls 3 = true ∧ inR (x + (-1))) ∧ Ev X 57 40 (ls.set 3 (some (vi (x + (-1))))) st h Q) := R_inc rfl
theorem e_57_40 : Ev X 57 40 ls st h Q ↔ Ev X 57 27 ls st h Q := R_go rfl
theorem e_57_41 : Ev X 57 41 ls st h Q ↔ onR (gl ls 0) (fun z => Ev X 57 42 ls (vr z :: st) h Q) := R_al rfl (Or.inl rfl)
theorem e_57_42 : Ev X 57 42 ls st h Q ↔ onI (gl ls 2) (fun z => Ev X 57 43 ls (vi z :: st) h Q) := R_il rfl (Or.inl rfl)
theorem e_57_43 : Ev X 57 43 ls st h Q ↔ onI (gl ls 3) (fun z => Ev X 57 44 ls (vi z :: st) h Q) := R_il rfl (Or.inl rfl)
theorem e_57_44 {rest : List xV} {a0 : Int} {a1 : Int} {o : Nat} : Ev X 57 44 ls ((vi a1) :: (vi a0) :: vr o :: rest) h Q ↔ ((X.1 o = 8 ∧ wd rest ≤ 8) ∧ Cl X 58 [vr o, vi a0, vi a1] h (fun r h2 => Ev X 57 45 ls (r.toList ++ rest) h2 Q)) := R_cv (x := o) (as := [vi a0, vi a1]) (k2 := 58) rfl rfl (Nat.le_of_ble_eq_true rfl)
theorem e_57_45 : Ev X 57 45 ls st h Q ↔ onI (gl ls 2) (fun z => Ev X 57 46 ls (vi z :: st) h Q) := R_il rfl (Or.inl rfl)
theorem e_57_46 : Ev X 57 46 ls st h Q ↔ Ev X 57 47 ls (vi 1 :: st) h Q := R_kc rfl (Or.inl ⟨Or.inl rfl, by decide⟩)
theorem e_57_47 {x y : Int} : Ev X 57 47 ls (vi y :: vi x :: st) h Q ↔ ((inR (x + y)) ∧ Ev X 57 48 ls (vi (x + y) :: st) h Q) := R_add rfl
theorem e_57_48 {x : Int} : Ev X 57 48 ls (vi x :: st) h Q ↔ (stOK ls 4 = true ∧ Ev X 57 49 (ls.set 4 (some (vi x))) st h Q) := R_is rfl (Or.inr rfl)
theorem e_57_49 : Ev X 57 49 ls st h Q ↔ onI (gl ls 1) (fun z => Ev X 57 50 ls (vi z :: st) h Q) := R_il rfl (Or.inl rfl)
theorem e_57_50 : Ev X 57 50 ls st h Q ↔ Ev X 57 51 ls (vi 1 :: st) h Q := R_kc rfl (Or.inl ⟨Or.inl rfl, by decide⟩)
theorem e_57_51 {x y : Int} : Ev X 57 51 ls (vi y :: vi x :: st) h Q ↔ ((inR (x - y)) ∧ Ev X 57 52 ls (vi (x - y) :: st) h Q) := R_sub rfl
theorem e_57_52 {x : Int} : Ev X 57 52 ls (vi x :: st) h Q ↔ (stOK ls 5 = true ∧ Ev X 57 53 (ls.set 5 (some (vi x))) st h Q) := R_is rfl (Or.inr rfl)
theorem e_57_53 : Ev X 57 53 ls st h Q ↔ onI (gl ls 4) (fun z => Ev X 57 54 ls (vi z :: st) h Q) := R_il rfl (Or.inr rfl)
theorem e_57_54 : Ev X 57 54 ls st h Q ↔ onI (gl ls 5) (fun z => Ev X 57 55 ls (vi z :: st) h Q) := R_il rfl (Or.inr rfl)
theorem e_57_55 {x y : Int} : Ev X 57 55 ls (vi y :: vi x :: st) h Q ↔ (if y ≤ x then Ev X 57 63 ls st h Q else Ev X 57 56 ls st h Q) := R_icge rfl
theorem e_57_56 : Ev X 57 56 ls st h Q ↔ onR (gl ls 0) (fun z => Ev X 57 57 ls (vr z :: st) h Q) := R_al rfl (Or.inl rfl)
theorem e_57_57 : Ev X 57 57 ls st h Q ↔ onI (gl ls 4) (fun z => Ev X 57 58 ls (vi z :: st) h Q) := R_il rfl (Or.inr rfl)
theorem e_57_58 : Ev X 57 58 ls st h Q ↔ onI (gl ls 5) (fun z => Ev X 57 59 ls (vi z :: st) h Q) := R_il rfl (Or.inr rfl)
theorem e_57_59 {rest : List xV} {a0 : Int} {a1 : Int} {o : Nat} : Ev X 57 59 ls ((vi a1) :: (vi a0) :: vr o :: rest) h Q ↔ ((X.1 o = 8 ∧ wd rest ≤ 8) ∧ Cl X 58 [vr o, vi a0, vi a1] h (fun r h2 => Ev X 57 60 ls (r.toList ++ rest) h2 Q)) := R_cv (x := o) (as := [vi a0, vi a1]) (k2 := 58) rfl rfl (Nat.le_of_ble_eq_true rfl)
theorem e_57_60 : Ev X 57 60 ls st h Q ↔ onI (gl ls 4) (fun x => (stOK ls 4 = true ∧ inR (x + 1)) ∧ Ev X 57 61 (ls.set 4 (some (vi (x + 1)))) st h Q) := R_inc rfl
theorem e_57_61 : Ev X 57 61 ls st h Q ↔ onI (gl ls 5) (fun x => (stOK ls 5 = true ∧ inR (x + (-1))) ∧ Ev X 57 62 (ls.set 5 (some (vi (x + (-1))))) st h Q) := R_inc rfl
theorem e_57_62 : Ev X 57 62 ls st h Q ↔ Ev X 57 53 ls st h Q := R_go rfl
theorem e_57_63 : Ev X 57 63 ls st h Q ↔ Ev X 57 64 ls (vi 1 :: st) h Q := R_kc rfl (Or.inl ⟨Or.inl rfl, by decide⟩)
theorem e_57_64 {z : Int} : Ev X 57 64 ls [vi z] h Q ↔ ((z = 0 ∨ z = 1) ∧ Q (some (vi z)) h) := R_zr rfl
-- 58: CellRows$Passes.swapPlaces(II)V
theorem e_58_0 : Ev X 58 0 ls st h Q ↔ onR (gl ls 0) (fun z => Ev X 58 1 ls (vr z :: st) h Q) := R_al rfl (Or.inl rfl)
theorem e_58_1 {x : Nat} : Ev X 58 1 ls (vr x :: st) h Q ↔ (X.1 x = 8 ∧ Ev X 58 2 ls (vr (X.2.2.1 x 2) :: st) h Q) := R_gr rfl
theorem e_58_2 : Ev X 58 2 ls st h Q ↔ onI (gl ls 1) (fun z => Ev X 58 3 ls (vi z :: st) h Q) := R_il rfl (Or.inl rfl)
theorem e_58_3 {x : Nat} {j : Int} : Ev X 58 3 ls (vi j :: vr x :: st) h Q ↔ (((X.1 x = 13 ∨ X.1 x = 20) ∧ 0 ≤ j ∧ j < X.2.1 x) ∧ Ev X 58 4 ls (vi (h.1 x j.toNat) :: st) h Q) := R_ia rfl
theorem e_58_4 {x : Int} : Ev X 58 4 ls (vi x :: st) h Q ↔ (stOK ls 3 = true ∧ Ev X 58 5 (ls.set 3 (some (vi x))) st h Q) := R_is rfl (Or.inl rfl)
theorem e_58_5 : Ev X 58 5 ls st h Q ↔ onR (gl ls 0) (fun z => Ev X 58 6 ls (vr z :: st) h Q) := R_al rfl (Or.inl rfl)
theorem e_58_6 {x : Nat} : Ev X 58 6 ls (vr x :: st) h Q ↔ (X.1 x = 8 ∧ Ev X 58 7 ls (vr (X.2.2.1 x 2) :: st) h Q) := R_gr rfl
theorem e_58_7 : Ev X 58 7 ls st h Q ↔ onI (gl ls 1) (fun z => Ev X 58 8 ls (vi z :: st) h Q) := R_il rfl (Or.inl rfl)
theorem e_58_8 : Ev X 58 8 ls st h Q ↔ onR (gl ls 0) (fun z => Ev X 58 9 ls (vr z :: st) h Q) := R_al rfl (Or.inl rfl)
theorem e_58_9 {x : Nat} : Ev X 58 9 ls (vr x :: st) h Q ↔ (X.1 x = 8 ∧ Ev X 58 10 ls (vr (X.2.2.1 x 2) :: st) h Q) := R_gr rfl
theorem e_58_10 : Ev X 58 10 ls st h Q ↔ onI (gl ls 2) (fun z => Ev X 58 11 ls (vi z :: st) h Q) := R_il rfl (Or.inl rfl)
theorem e_58_11 {x : Nat} {j : Int} : Ev X 58 11 ls (vi j :: vr x :: st) h Q ↔ (((X.1 x = 13 ∨ X.1 x = 20) ∧ 0 ≤ j ∧ j < X.2.1 x) ∧ Ev X 58 12 ls (vi (h.1 x j.toNat) :: st) h Q) := R_ia rfl
theorem e_58_12 {x : Nat} {j v : Int} : Ev X 58 12 ls (vi v :: vi j :: vr x :: st) h Q ↔ ((X.1 x = 13 ∧ 0 ≤ j ∧ j < X.2.1 x) ∧ Ev X 58 13 ls st (up2 h.1 x j.toNat v, h.2) Q) := R_ias rfl
theorem e_58_13 : Ev X 58 13 ls st h Q ↔ onR (gl ls 0) (fun z => Ev X 58 14 ls (vr z :: st) h Q) := R_al rfl (Or.inl rfl)
theorem e_58_14 {x : Nat} : Ev X 58 14 ls (vr x :: st) h Q ↔ (X.1 x = 8 ∧ Ev X 58 15 ls (vr (X.2.2.1 x 2) :: st) h Q) := R_gr rfl
theorem e_58_15 : Ev X 58 15 ls st h Q ↔ onI (gl ls 2) (fun z => Ev X 58 16 ls (vi z :: st) h Q) := R_il rfl (Or.inl rfl)
theorem e_58_16 : Ev X 58 16 ls st h Q ↔ onI (gl ls 3) (fun z => Ev X 58 17 ls (vi z :: st) h Q) := R_il rfl (Or.inl rfl)
theorem e_58_17 {x : Nat} {j v : Int} : Ev X 58 17 ls (vi v :: vi j :: vr x :: st) h Q ↔ ((X.1 x = 13 ∧ 0 ≤ j ∧ j < X.2.1 x) ∧ Ev X 58 18 ls st (up2 h.1 x j.toNat v, h.2) Q) := R_ias rfl
theorem e_58_18 : Ev X 58 18 ls [] h Q ↔ Q none h := R_vr rfl
-- 59: CellRows$Passes.reorderWindows(LCellRows$Plan;I)V
theorem e_59_0 : Ev X 59 0 ls st h Q ↔ onR (gl ls 0) (fun z => Ev X 59 1 ls (vr z :: st) h Q) := R_al rfl (Or.inl rfl)
theorem e_59_1 {x : Nat} : Ev X 59 1 ls (vr x :: st) h Q ↔ (X.1 x = 8 ∧ Ev X 59 2 ls (vr (X.2.2.1 x 1) :: st) h Q) := R_gr rfl
theorem e_59_2 : Ev X 59 2 ls st h Q ↔ onR (gl ls 1) (fun z => Ev X 59 3 ls (vr z :: st) h Q) := R_al rfl (Or.inl rfl)
theorem e_59_3 {rest : List xV} {a0 : Nat} {o : Nat} : Ev X 59 3 ls ((vr a0) :: vr o :: rest) h Q ↔ ((X.1 o = 4 ∧ wd rest ≤ 8) ∧ Cl X 32 [vr o, vr a0] h (fun r h2 => Ev X 59 4 ls (r.toList ++ rest) h2 Q)) := R_cv (x := o) (as := [vr a0]) (k2 := 32) rfl rfl (Nat.le_of_ble_eq_true rfl)
theorem e_59_4 : Ev X 59 4 ls st h Q ↔ onR (gl ls 0) (fun z => Ev X 59 5 ls (vr z :: st) h Q) := R_al rfl (Or.inl rfl)
theorem e_59_5 {x : Nat} : Ev X 59 5 ls (vr x :: st) h Q ↔ (X.1 x = 8 ∧ Ev X 59 6 ls (vr (X.2.2.1 x 1) :: st) h Q) := R_gr rfl
theorem e_59_6 : Ev X 59 6 ls st h Q ↔ onR (gl ls 1) (fun z => Ev X 59 7 ls (vr z :: st) h Q) := R_al rfl (Or.inl rfl)
theorem e_59_7 {x : Nat} : Ev X 59 7 ls (vr x :: st) h Q ↔ (X.1 x = 9 ∧ Ev X 59 8 ls (vr (X.2.2.1 x 3) :: st) h Q) := R_gr rfl
theorem e_59_8 {x : Nat} : Ev X 59 8 ls (vr x :: st) h Q ↔ (X.1 x = 2 ∧ Ev X 59 9 ls (vi (h.2 x 0) :: st) h Q) := R_gi rfl
theorem e_59_9 {rest : List xV} {a0 : Int} {o : Nat} : Ev X 59 9 ls ((vi a0) :: vr o :: rest) h Q ↔ ((X.1 o = 4 ∧ wd rest ≤ 8) ∧ Cl X 37 [vr o, vi a0] h (fun r h2 => Ev X 59 10 ls (r.toList ++ rest) h2 Q)) := R_cv (x := o) (as := [vi a0]) (k2 := 37) rfl rfl (Nat.le_of_ble_eq_true rfl)
theorem e_59_10 : Ev X 59 10 ls st h Q ↔ Ev X 59 11 ls (vi 0 :: st) h Q := R_kc rfl (Or.inl ⟨Or.inl rfl, by decide⟩)
theorem e_59_11 {x : Int} : Ev X 59 11 ls (vi x :: st) h Q ↔ (stOK ls 3 = true ∧ Ev X 59 12 (ls.set 3 (some (vi x))) st h Q) := R_is rfl (Or.inl rfl)
theorem e_59_12 : Ev X 59 12 ls st h Q ↔ onI (gl ls 3) (fun z => Ev X 59 13 ls (vi z :: st) h Q) := R_il rfl (Or.inl rfl)
theorem e_59_13 : Ev X 59 13 ls st h Q ↔ onR (gl ls 0) (fun z => Ev X 59 14 ls (vr z :: st) h Q) := R_al rfl (Or.inl rfl)
theorem e_59_14 {x : Nat} : Ev X 59 14 ls (vr x :: st) h Q ↔ (X.1 x = 8 ∧ Ev X 59 15 ls (vr (X.2.2.1 x 1) :: st) h Q) := R_gr rfl
theorem e_59_15 {x : Nat} : Ev X 59 15 ls (vr x :: st) h Q ↔ (X.1 x = 4 ∧ Ev X 59 16 ls (vi (h.2 x 3) :: st) h Q) := R_gi rfl
theorem e_59_16 {x y : Int} : Ev X 59 16 ls (vi y :: vi x :: st) h Q ↔ (if y ≤ x then Ev X 59 40 ls st h Q else Ev X 59 17 ls st h Q) := R_icge rfl
theorem e_59_17 : Ev X 59 17 ls st h Q ↔ onR (gl ls 0) (fun z => Ev X 59 18 ls (vr z :: st) h Q) := R_al rfl (Or.inl rfl)
theorem e_59_18 {x : Nat} : Ev X 59 18 ls (vr x :: st) h Q ↔ (X.1 x = 8 ∧ Ev X 59 19 ls (vr (X.2.2.1 x 1) :: st) h Q) := R_gr rfl
theorem e_59_19 : Ev X 59 19 ls st h Q ↔ onI (gl ls 3) (fun z => Ev X 59 20 ls (vi z :: st) h Q) := R_il rfl (Or.inl rfl)
theorem e_59_20 : Ev X 59 20 ls st h Q ↔ onR (gl ls 1) (fun z => Ev X 59 21 ls (vr z :: st) h Q) := R_al rfl (Or.inl rfl)
theorem e_59_21 {x : Nat} : Ev X 59 21 ls (vr x :: st) h Q ↔ (X.1 x = 9 ∧ Ev X 59 22 ls (vr (X.2.2.1 x 4) :: st) h Q) := R_gr rfl
theorem e_59_22 {rest : List xV} {a0 : Int} {a1 : Nat} {o : Nat} : Ev X 59 22 ls ((vr a1) :: (vi a0) :: vr o :: rest) h Q ↔ ((X.1 o = 4 ∧ wd rest ≤ 8) ∧ Cl X 39 [vr o, vi a0, vr a1] h (fun r h2 => Ev X 59 23 ls (r.toList ++ rest) h2 Q)) := R_cv (x := o) (as := [vi a0, vr a1]) (k2 := 39) rfl rfl (Nat.le_of_ble_eq_true rfl)
theorem e_59_23 {x : Int} : Ev X 59 23 ls (vi x :: st) h Q ↔ (stOK ls 4 = true ∧ Ev X 59 24 (ls.set 4 (some (vi x))) st h Q) := R_is rfl (Or.inr rfl)
theorem e_59_24 : Ev X 59 24 ls st h Q ↔ Ev X 59 25 ls (vi 0 :: st) h Q := R_kc rfl (Or.inl ⟨Or.inl rfl, by decide⟩)
theorem e_59_25 {x : Int} : Ev X 59 25 ls (vi x :: st) h Q ↔ (stOK ls 5 = true ∧ Ev X 59 26 (ls.set 5 (some (vi x))) st h Q) := R_is rfl (Or.inr rfl)
theorem e_59_26 : Ev X 59 26 ls st h Q ↔ onI (gl ls 5) (fun z => Ev X 59 27 ls (vi z :: st) h Q) := R_il rfl (Or.inr rfl)
theorem e_59_27 : Ev X 59 27 ls st h Q ↔ onI (gl ls 2) (fun z => Ev X 59 28 ls (vi z :: st) h Q) := R_il rfl (Or.inl rfl)
theorem e_59_28 {x y : Int} : Ev X 59 28 ls (vi y :: vi x :: st) h Q ↔ ((inR (x + y)) ∧ Ev X 59 29 ls (vi (x + y) :: st) h Q) := R_add rfl
theorem e_59_29 : Ev X 59 29 ls st h Q ↔ onI (gl ls 4) (fun z => Ev X 59 30 ls (vi z :: st) h Q) := R_il rfl (Or.inr rfl)
theorem e_59_30 {x y : Int} : Ev X 59 30 ls (vi y :: vi x :: st) h Q ↔ (if y < x then Ev X 59 38 ls st h Q else Ev X 59 31 ls st h Q) := R_icgt rfl
theorem e_59_31 : Ev X 59 31 ls st h Q ↔ onR (gl ls 0) (fun z => Ev X 59 32 ls (vr z :: st) h Q) := R_al rfl (Or.inl rfl)
theorem e_59_32 : Ev X 59 32 ls st h Q ↔ onR (gl ls 1) (fun z => Ev X 59 33 ls (vr z :: st) h Q) := R_al rfl (Or.inl rfl)
theorem e_59_33 : Ev X 59 33 ls st h Q ↔ onI (gl ls 5) (fun z => Ev X 59 34 ls (vi z :: st) h Q) := R_il rfl (Or.inr rfl)
theorem e_59_34 : Ev X 59 34 ls st h Q ↔ onI (gl ls 2) (fun z => Ev X 59 35 ls (vi z :: st) h Q) := R_il rfl (Or.inl rfl)
theorem e_59_35 {rest : List xV} {a0 : Nat} {a1 : Int} {a2 : Int} {o : Nat} : Ev X 59 35 ls ((vi a2) :: (vi a1) :: (vr a0) :: vr o :: rest) h Q ↔ ((X.1 o = 8 ∧ wd rest ≤ 8) ∧ Cl X 60 [vr o, vr a0, vi a1, vi a2] h (fun r h2 => Ev X 59 36 ls (r.toList ++ rest) h2 Q)) := R_cv (x := o) (as := [vr a0, vi a1, vi a2]) (k2 := 60) rfl rfl (Nat.le_of_ble_eq_true rfl)
theorem e_59_36 : Ev X 59 36 ls st h Q ↔ onI (gl ls 5) (fun x => (stOK ls 5 = true ∧ inR (x + 1)) ∧ Ev X 59 37 (ls.set 5 (some (vi (x + 1)))) st h Q) := R_inc rfl
theorem e_59_37 : Ev X 59 37 ls st h Q ↔ Ev X 59 26 ls st h Q := R_go rfl
theorem e_59_38 : Ev X 59 38 ls st h Q ↔ onI (gl ls 3) (fun x => (stOK ls 3 = true ∧ inR (x + 1)) ∧ Ev X 59 39 (ls.set 3 (some (vi (x + 1)))) st h Q) := R_inc rfl
theorem e_59_39 : Ev X 59 39 ls st h Q ↔ Ev X 59 12 ls st h Q := R_go rfl
theorem e_59_40 : Ev X 59 40 ls [] h Q ↔ Q none h := R_vr rfl
-- 60: CellRows$Passes.reorder(LCellRows$Plan;II)V
theorem e_60_0 : Ev X 60 0 ls st h Q ↔ onR (gl ls 1) (fun z => Ev X 60 1 ls (vr z :: st) h Q) := R_al rfl (Or.inl rfl)
theorem e_60_1 {x : Nat} : Ev X 60 1 ls (vr x :: st) h Q ↔ (X.1 x = 9 ∧ Ev X 60 2 ls (vr (X.2.2.1 x 4) :: st) h Q) := R_gr rfl
theorem e_60_2 {x : Nat} : Ev X 60 2 ls (vr x :: st) h Q ↔ (stOK ls 4 = true ∧ Ev X 60 3 (ls.set 4 (some (vr x))) st h Q) := R_as rfl (Or.inr rfl)
theorem e_60_3 : Ev X 60 3 ls st h Q ↔ Ev X 60 4 ls (vi 0 :: st) h Q := R_kc rfl (Or.inl ⟨Or.inl rfl, by decide⟩)
theorem e_60_4 {x : Int} : Ev X 60 4 ls (vi x :: st) h Q ↔ (stOK ls 5 = true ∧ Ev X 60 5 (ls.set 5 (some (vi x))) st h Q) := R_is rfl (Or.inr rfl)
theorem e_60_5 : Ev X 60 5 ls st h Q ↔ onI (gl ls 5) (fun z => Ev X 60 6 ls (vi z :: st) h Q) := R_il rfl (Or.inr rfl)
theorem e_60_6 : Ev X 60 6 ls st h Q ↔ onI (gl ls 3) (fun z => Ev X 60 7 ls (vi z :: st) h Q) := R_il rfl (Or.inl rfl)
theorem e_60_7 {x y : Int} : Ev X 60 7 ls (vi y :: vi x :: st) h Q ↔ (if y ≤ x then Ev X 60 21 ls st h Q else Ev X 60 8 ls st h Q) := R_icge rfl
theorem e_60_8 : Ev X 60 8 ls st h Q ↔ onR (gl ls 0) (fun z => Ev X 60 9 ls (vr z :: st) h Q) := R_al rfl (Or.inl rfl)
theorem e_60_9 {x : Nat} : Ev X 60 9 ls (vr x :: st) h Q ↔ (X.1 x = 8 ∧ Ev X 60 10 ls (vr (X.2.2.1 x 4) :: st) h Q) := R_gr rfl
theorem e_60_10 : Ev X 60 10 ls st h Q ↔ onI (gl ls 5) (fun z => Ev X 60 11 ls (vi z :: st) h Q) := R_il rfl (Or.inr rfl)
theorem e_60_11 : Ev X 60 11 ls st h Q ↔ onR (gl ls 0) (fun z => Ev X 60 12 ls (vr z :: st) h Q) := R_al rfl (Or.inl rfl)
theorem e_60_12 {x : Nat} : Ev X 60 12 ls (vr x :: st) h Q ↔ (X.1 x = 8 ∧ Ev X 60 13 ls (vr (X.2.2.1 x 1) :: st) h Q) := R_gr rfl
theorem e_60_13 {x : Nat} : Ev X 60 13 ls (vr x :: st) h Q ↔ (X.1 x = 4 ∧ Ev X 60 14 ls (vr (X.2.2.1 x 8) :: st) h Q) := R_gr rfl
theorem e_60_14 : Ev X 60 14 ls st h Q ↔ onI (gl ls 2) (fun z => Ev X 60 15 ls (vi z :: st) h Q) := R_il rfl (Or.inl rfl)
theorem e_60_15 : Ev X 60 15 ls st h Q ↔ onI (gl ls 5) (fun z => Ev X 60 16 ls (vi z :: st) h Q) := R_il rfl (Or.inr rfl)
theorem e_60_16 {x y : Int} : Ev X 60 16 ls (vi y :: vi x :: st) h Q ↔ ((inR (x + y)) ∧ Ev X 60 17 ls (vi (x + y) :: st) h Q) := R_add rfl
theorem e_60_17 {x : Nat} {j : Int} : Ev X 60 17 ls (vi j :: vr x :: st) h Q ↔ (((X.1 x = 13 ∨ X.1 x = 20) ∧ 0 ≤ j ∧ j < X.2.1 x) ∧ Ev X 60 18 ls (vi (h.1 x j.toNat) :: st) h Q) := R_ia rfl
theorem e_60_18 {x : Nat} {j v : Int} : Ev X 60 18 ls (vi v :: vi j :: vr x :: st) h Q ↔ ((X.1 x = 13 ∧ 0 ≤ j ∧ j < X.2.1 x) ∧ Ev X 60 19 ls st (up2 h.1 x j.toNat v, h.2) Q) := R_ias rfl
theorem e_60_19 : Ev X 60 19 ls st h Q ↔ onI (gl ls 5) (fun x => (stOK ls 5 = true ∧ inR (x + 1)) ∧ Ev X 60 20 (ls.set 5 (some (vi (x + 1)))) st h Q) := R_inc rfl
theorem e_60_20 : Ev X 60 20 ls st h Q ↔ Ev X 60 5 ls st h Q := R_go rfl
theorem e_60_21 : Ev X 60 21 ls st h Q ↔ Ev X 60 22 ls (vi 0 :: st) h Q := R_kc rfl (Or.inl ⟨Or.inl rfl, by decide⟩)
theorem e_60_22 {x : Int} : Ev X 60 22 ls (vi x :: st) h Q ↔ (stOK ls 5 = true ∧ Ev X 60 23 (ls.set 5 (some (vi x))) st h Q) := R_is rfl (Or.inr rfl)
theorem e_60_23 : Ev X 60 23 ls st h Q ↔ onI (gl ls 5) (fun z => Ev X 60 24 ls (vi z :: st) h Q) := R_il rfl (Or.inr rfl)
theorem e_60_24 : Ev X 60 24 ls st h Q ↔ Ev X 60 25 ls (vi 1 :: st) h Q := R_kc rfl (Or.inl ⟨Or.inl rfl, by decide⟩)
theorem e_60_25 {x y : Int} : Ev X 60 25 ls (vi y :: vi x :: st) h Q ↔ ((inR (x + y)) ∧ Ev X 60 26 ls (vi (x + y) :: st) h Q) := R_add rfl
theorem e_60_26 : Ev X 60 26 ls st h Q ↔ onI (gl ls 3) (fun z => Ev X 60 27 ls (vi z :: st) h Q) := R_il rfl (Or.inl rfl)
theorem e_60_27 {x y : Int} : Ev X 60 27 ls (vi y :: vi x :: st) h Q ↔ (if y ≤ x then Ev X 60 59 ls st h Q else Ev X 60 28 ls st h Q) := R_icge rfl
theorem e_60_28 : Ev X 60 28 ls st h Q ↔ onR (gl ls 0) (fun z => Ev X 60 29 ls (vr z :: st) h Q) := R_al rfl (Or.inl rfl)
theorem e_60_29 {x : Nat} : Ev X 60 29 ls (vr x :: st) h Q ↔ (X.1 x = 8 ∧ Ev X 60 30 ls (vr (X.2.2.1 x 5) :: st) h Q) := R_gr rfl
theorem e_60_30 : Ev X 60 30 ls st h Q ↔ onI (gl ls 5) (fun z => Ev X 60 31 ls (vi z :: st) h Q) := R_il rfl (Or.inr rfl)
theorem e_60_31 : Ev X 60 31 ls st h Q ↔ onR (gl ls 4) (fun z => Ev X 60 32 ls (vr z :: st) h Q) := R_al rfl (Or.inr rfl)
theorem e_60_32 {x : Nat} : Ev X 60 32 ls (vr x :: st) h Q ↔ (X.1 x = 3 ∧ Ev X 60 33 ls (vr (X.2.2.1 x 7) :: st) h Q) := R_gr rfl
theorem e_60_33 : Ev X 60 33 ls st h Q ↔ onR (gl ls 0) (fun z => Ev X 60 34 ls (vr z :: st) h Q) := R_al rfl (Or.inl rfl)
theorem e_60_34 {x : Nat} : Ev X 60 34 ls (vr x :: st) h Q ↔ (X.1 x = 8 ∧ Ev X 60 35 ls (vr (X.2.2.1 x 4) :: st) h Q) := R_gr rfl
theorem e_60_35 : Ev X 60 35 ls st h Q ↔ onI (gl ls 5) (fun z => Ev X 60 36 ls (vi z :: st) h Q) := R_il rfl (Or.inr rfl)
theorem e_60_36 : Ev X 60 36 ls st h Q ↔ Ev X 60 37 ls (vi 1 :: st) h Q := R_kc rfl (Or.inl ⟨Or.inl rfl, by decide⟩)
theorem e_60_37 {x y : Int} : Ev X 60 37 ls (vi y :: vi x :: st) h Q ↔ ((inR (x + y)) ∧ Ev X 60 38 ls (vi (x + y) :: st) h Q) := R_add rfl
theorem e_60_38 {x : Nat} {j : Int} : Ev X 60 38 ls (vi j :: vr x :: st) h Q ↔ (((X.1 x = 13 ∨ X.1 x = 20) ∧ 0 ≤ j ∧ j < X.2.1 x) ∧ Ev X 60 39 ls (vi (h.1 x j.toNat) :: st) h Q) := R_ia rfl
theorem e_60_39 {x : Nat} {j : Int} : Ev X 60 39 ls (vi j :: vr x :: st) h Q ↔ (((X.1 x = 13 ∨ X.1 x = 20) ∧ 0 ≤ j ∧ j < X.2.1 x) ∧ Ev X 60 40 ls (vi (h.1 x j.toNat) :: st) h Q) := R_ia rfl
theorem e_60_40 : Ev X 60 40 ls st h Q ↔ onR (gl ls 4) (fun z => Ev X 60 41 ls (vr z :: st) h Q) := R_al rfl (Or.inr rfl)
theorem e_60_41 {x : Nat} : Ev X 60 41 ls (vr x :: st) h Q ↔ (X.1 x = 3 ∧ Ev X 60 42 ls (vr (X.2.2.1 x 7) :: st) h Q) := R_gr rfl
theorem e_60_42 : Ev X 60 42 ls st h Q ↔ onR (gl ls 0) (fun z => Ev X 60 43 ls (vr z :: st) h Q) := R_al rfl (Or.inl rfl)
theorem e_60_43 {x : Nat} : Ev X 60 43 ls (vr x :: st) h Q ↔ (X.1 x = 8 ∧ Ev X 60 44 ls (vr (X.2.2.1 x 4) :: st) h Q) := R_gr rfl
theorem e_60_44 : Ev X 60 44 ls st h Q ↔ onI (gl ls 5) (fun z => Ev X 60 45 ls (vi z :: st) h Q) := R_il rfl (Or.inr rfl)
theorem e_60_45 {x : Nat} {j : Int} : Ev X 60 45 ls (vi j :: vr x :: st) h Q ↔ (((X.1 x = 13 ∨ X.1 x = 20) ∧ 0 ≤ j ∧ j < X.2.1 x) ∧ Ev X 60 46 ls (vi (h.1 x j.toNat) :: st) h Q) := R_ia rfl
theorem e_60_46 {x : Nat} {j : Int} : Ev X 60 46 ls (vi j :: vr x :: st) h Q ↔ (((X.1 x = 13 ∨ X.1 x = 20) ∧ 0 ≤ j ∧ j < X.2.1 x) ∧ Ev X 60 47 ls (vi (h.1 x j.toNat) :: st) h Q) := R_ia rfl
theorem e_60_47 {x y : Int} : Ev X 60 47 ls (vi y :: vi x :: st) h Q ↔ ((inR (x - y)) ∧ Ev X 60 48 ls (vi (x - y) :: st) h Q) := R_sub rfl
theorem e_60_48 : Ev X 60 48 ls st h Q ↔ onR (gl ls 4) (fun z => Ev X 60 49 ls (vr z :: st) h Q) := R_al rfl (Or.inr rfl)
theorem e_60_49 {x : Nat} : Ev X 60 49 ls (vr x :: st) h Q ↔ (X.1 x = 3 ∧ Ev X 60 50 ls (vr (X.2.2.1 x 1) :: st) h Q) := R_gr rfl
theorem e_60_50 : Ev X 60 50 ls st h Q ↔ onR (gl ls 0) (fun z => Ev X 60 51 ls (vr z :: st) h Q) := R_al rfl (Or.inl rfl)
theorem e_60_51 {x : Nat} : Ev X 60 51 ls (vr x :: st) h Q ↔ (X.1 x = 8 ∧ Ev X 60 52 ls (vr (X.2.2.1 x 4) :: st) h Q) := R_gr rfl
theorem e_60_52 : Ev X 60 52 ls st h Q ↔ onI (gl ls 5) (fun z => Ev X 60 53 ls (vi z :: st) h Q) := R_il rfl (Or.inr rfl)
theorem e_60_53 {x : Nat} {j : Int} : Ev X 60 53 ls (vi j :: vr x :: st) h Q ↔ (((X.1 x = 13 ∨ X.1 x = 20) ∧ 0 ≤ j ∧ j < X.2.1 x) ∧ Ev X 60 54 ls (vi (h.1 x j.toNat) :: st) h Q) := R_ia rfl
theorem e_60_54 {x : Nat} {j : Int} : Ev X 60 54 ls (vi j :: vr x :: st) h Q ↔ (((X.1 x = 13 ∨ X.1 x = 20) ∧ 0 ≤ j ∧ j < X.2.1 x) ∧ Ev X 60 55 ls (vi (h.1 x j.toNat) :: st) h Q) := R_ia rfl
theorem e_60_55 {x y : Int} : Ev X 60 55 ls (vi y :: vi x :: st) h Q ↔ ((inR (x - y)) ∧ Ev X 60 56 ls (vi (x - y) :: st) h Q) := R_sub rfl
theorem e_60_56 {x : Nat} {j v : Int} : Ev X 60 56 ls (vi v :: vi j :: vr x :: st) h Q ↔ ((X.1 x = 13 ∧ 0 ≤ j ∧ j < X.2.1 x) ∧ Ev X 60 57 ls st (up2 h.1 x j.toNat v, h.2) Q) := R_ias rfl
theorem e_60_57 : Ev X 60 57 ls st h Q ↔ onI (gl ls 5) (fun x => (stOK ls 5 = true ∧ inR (x + 1)) ∧ Ev X 60 58 (ls.set 5 (some (vi (x + 1)))) st h Q) := R_inc rfl
theorem e_60_58 : Ev X 60 58 ls st h Q ↔ Ev X 60 23 ls st h Q := R_go rfl
theorem e_60_59 : Ev X 60 59 ls st h Q ↔ onR (gl ls 4) (fun z => Ev X 60 60 ls (vr z :: st) h Q) := R_al rfl (Or.inr rfl)
theorem e_60_60 {x : Nat} : Ev X 60 60 ls (vr x :: st) h Q ↔ (X.1 x = 3 ∧ Ev X 60 61 ls (vr (X.2.2.1 x 7) :: st) h Q) := R_gr rfl
theorem e_60_61 : Ev X 60 61 ls st h Q ↔ onR (gl ls 0) (fun z => Ev X 60 62 ls (vr z :: st) h Q) := R_al rfl (Or.inl rfl)
theorem e_60_62 {x : Nat} : Ev X 60 62 ls (vr x :: st) h Q ↔ (X.1 x = 8 ∧ Ev X 60 63 ls (vr (X.2.2.1 x 4) :: st) h Q) := R_gr rfl
theorem e_60_63 : Ev X 60 63 ls st h Q ↔ Ev X 60 64 ls (vi 0 :: st) h Q := R_kc rfl (Or.inl ⟨Or.inl rfl, by decide⟩)
theorem e_60_64 {x : Nat} {j : Int} : Ev X 60 64 ls (vi j :: vr x :: st) h Q ↔ (((X.1 x = 13 ∨ X.1 x = 20) ∧ 0 ≤ j ∧ j < X.2.1 x) ∧ Ev X 60 65 ls (vi (h.1 x j.toNat) :: st) h Q) := R_ia rfl
theorem e_60_65 {x : Nat} {j : Int} : Ev X 60 65 ls (vi j :: vr x :: st) h Q ↔ (((X.1 x = 13 ∨ X.1 x = 20) ∧ 0 ≤ j ∧ j < X.2.1 x) ∧ Ev X 60 66 ls (vi (h.1 x j.toNat) :: st) h Q) := R_ia rfl
theorem e_60_66 {x : Int} : Ev X 60 66 ls (vi x :: st) h Q ↔ (stOK ls 5 = true ∧ Ev X 60 67 (ls.set 5 (some (vi x))) st h Q) := R_is rfl (Or.inr rfl)
theorem e_60_67 : Ev X 60 67 ls st h Q ↔ onR (gl ls 0) (fun z => Ev X 60 68 ls (vr z :: st) h Q) := R_al rfl (Or.inl rfl)
theorem e_60_68 : Ev X 60 68 ls st h Q ↔ onI (gl ls 3) (fun z => Ev X 60 69 ls (vi z :: st) h Q) := R_il rfl (Or.inl rfl)
theorem e_60_69 {rest : List xV} {a0 : Int} {o : Nat} : Ev X 60 69 ls ((vi a0) :: vr o :: rest) h Q ↔ ((X.1 o = 8 ∧ wd rest ≤ 8) ∧ Cl X 55 [vr o, vi a0] h (fun r h2 => Ev X 60 70 ls (r.toList ++ rest) h2 Q)) := R_cv (x := o) (as := [vi a0]) (k2 := 55) rfl rfl (Nat.le_of_ble_eq_true rfl)
theorem e_60_70 : Ev X 60 70 ls st h Q ↔ onR (gl ls 0) (fun z => Ev X 60 71 ls (vr z :: st) h Q) := R_al rfl (Or.inl rfl)
theorem e_60_71 {x : Nat} : Ev X 60 71 ls (vr x :: st) h Q ↔ (X.1 x = 8 ∧ Ev X 60 72 ls (vr (X.2.2.1 x 0) :: st) h Q) := R_gr rfl
theorem e_60_72 : Ev X 60 72 ls st h Q ↔ onR (gl ls 1) (fun z => Ev X 60 73 ls (vr z :: st) h Q) := R_al rfl (Or.inl rfl)
theorem e_60_73 {rest : List xV} {a0 : Nat} {o : Nat} : Ev X 60 73 ls ((vr a0) :: vr o :: rest) h Q ↔ ((X.1 o = 10 ∧ wd rest ≤ 8) ∧ Cl X 92 [vr o, vr a0] h (fun r h2 => Ev X 60 74 ls (r.toList ++ rest) h2 Q)) := R_cv (x := o) (as := [vr a0]) (k2 := 92) rfl rfl (Nat.le_of_ble_eq_true rfl)
theorem e_60_74 {x : Int} : Ev X 60 74 ls (vi x :: st) h Q ↔ (stOK ls 6 = true ∧ Ev X 60 75 (ls.set 6 (some (vi x))) st h Q) := R_is rfl (Or.inr rfl)
theorem e_60_75 : Ev X 60 75 ls st h Q ↔ Ev X 60 76 ls (vi 1 :: st) h Q := R_kc rfl (Or.inl ⟨Or.inl rfl, by decide⟩)
theorem e_60_76 {x : Int} : Ev X 60 76 ls (vi x :: st) h Q ↔ (stOK ls 7 = true ∧ Ev X 60 77 (ls.set 7 (some (vi x))) st h Q) := R_is rfl (Or.inr rfl)
theorem e_60_77 : Ev X 60 77 ls st h Q ↔ onI (gl ls 7) (fun z => Ev X 60 78 ls (vi z :: st) h Q) := R_il rfl (Or.inr rfl)
theorem e_60_78 : Ev X 60 78 ls st h Q ↔ Ev X 60 79 ls (vi 120 :: st) h Q := R_kc rfl (Or.inr (Or.inl ⟨rfl, by decide⟩))
theorem e_60_79 {x y : Int} : Ev X 60 79 ls (vi y :: vi x :: st) h Q ↔ (if y ≤ x then Ev X 60 106 ls st h Q else Ev X 60 80 ls st h Q) := R_icge rfl
theorem e_60_80 : Ev X 60 80 ls st h Q ↔ onR (gl ls 0) (fun z => Ev X 60 81 ls (vr z :: st) h Q) := R_al rfl (Or.inl rfl)
theorem e_60_81 : Ev X 60 81 ls st h Q ↔ onI (gl ls 3) (fun z => Ev X 60 82 ls (vi z :: st) h Q) := R_il rfl (Or.inl rfl)
theorem e_60_82 {rest : List xV} {a0 : Int} {o : Nat} : Ev X 60 82 ls ((vi a0) :: vr o :: rest) h Q ↔ ((X.1 o = 8 ∧ wd rest ≤ 8) ∧ Cl X 57 [vr o, vi a0] h (fun r h2 => Ev X 60 83 ls (r.toList ++ rest) h2 Q)) := R_cv (x := o) (as := [vi a0]) (k2 := 57) rfl rfl (Nat.le_of_ble_eq_true rfl)
theorem e_60_83 {x : Int} : Ev X 60 83 ls (vi x :: st) h Q ↔ (if x = 0 then Ev X 60 106 ls st h Q else Ev X 60 84 ls st h Q) := R_ifeq rfl
theorem e_60_84 : Ev X 60 84 ls st h Q ↔ onR (gl ls 0) (fun z => Ev X 60 85 ls (vr z :: st) h Q) := R_al rfl (Or.inl rfl)
theorem e_60_85 : Ev X 60 85 ls st h Q ↔ onR (gl ls 4) (fun z => Ev X 60 86 ls (vr z :: st) h Q) := R_al rfl (Or.inr rfl)
theorem e_60_86 : Ev X 60 86 ls st h Q ↔ onR (gl ls 0) (fun z => Ev X 60 87 ls (vr z :: st) h Q) := R_al rfl (Or.inl rfl)
theorem e_60_87 {x : Nat} : Ev X 60 87 ls (vr x :: st) h Q ↔ (X.1 x = 8 ∧ Ev X 60 88 ls (vr (X.2.2.1 x 2) :: st) h Q) := R_gr rfl
theorem e_60_88 : Ev X 60 88 ls st h Q ↔ onI (gl ls 5) (fun z => Ev X 60 89 ls (vi z :: st) h Q) := R_il rfl (Or.inr rfl)
theorem e_60_89 : Ev X 60 89 ls st h Q ↔ onI (gl ls 3) (fun z => Ev X 60 90 ls (vi z :: st) h Q) := R_il rfl (Or.inl rfl)
theorem e_60_90 {rest : List xV} {a0 : Nat} {a1 : Nat} {a2 : Int} {a3 : Int} {o : Nat} : Ev X 60 90 ls ((vi a3) :: (vi a2) :: (vr a1) :: (vr a0) :: vr o :: rest) h Q ↔ ((X.1 o = 8 ∧ wd rest ≤ 8) ∧ Cl X 61 [vr o, vr a0, vr a1, vi a2, vi a3] h (fun r h2 => Ev X 60 91 ls (r.toList ++ rest) h2 Q)) := R_cv (x := o) (as := [vr a0, vr a1, vi a2, vi a3]) (k2 := 61) rfl rfl (Nat.le_of_ble_eq_true rfl)
theorem e_60_91 : Ev X 60 91 ls st h Q ↔ onR (gl ls 0) (fun z => Ev X 60 92 ls (vr z :: st) h Q) := R_al rfl (Or.inl rfl)
theorem e_60_92 {x : Nat} : Ev X 60 92 ls (vr x :: st) h Q ↔ (X.1 x = 8 ∧ Ev X 60 93 ls (vr (X.2.2.1 x 0) :: st) h Q) := R_gr rfl
theorem e_60_93 : Ev X 60 93 ls st h Q ↔ onR (gl ls 1) (fun z => Ev X 60 94 ls (vr z :: st) h Q) := R_al rfl (Or.inl rfl)
theorem e_60_94 {rest : List xV} {a0 : Nat} {o : Nat} : Ev X 60 94 ls ((vr a0) :: vr o :: rest) h Q ↔ ((X.1 o = 10 ∧ wd rest ≤ 8) ∧ Cl X 92 [vr o, vr a0] h (fun r h2 => Ev X 60 95 ls (r.toList ++ rest) h2 Q)) := R_cv (x := o) (as := [vr a0]) (k2 := 92) rfl rfl (Nat.le_of_ble_eq_true rfl)
theorem e_60_95 {x : Int} : Ev X 60 95 ls (vi x :: st) h Q ↔ (stOK ls 8 = true ∧ Ev X 60 96 (ls.set 8 (some (vi x))) st h Q) := R_is rfl (Or.inr rfl)
theorem e_60_96 : Ev X 60 96 ls st h Q ↔ onI (gl ls 8) (fun z => Ev X 60 97 ls (vi z :: st) h Q) := R_il rfl (Or.inr rfl)
theorem e_60_97 : Ev X 60 97 ls st h Q ↔ onI (gl ls 6) (fun z => Ev X 60 98 ls (vi z :: st) h Q) := R_il rfl (Or.inr rfl)
theorem e_60_98 {x y : Int} : Ev X 60 98 ls (vi y :: vi x :: st) h Q ↔ (if y ≤ x then Ev X 60 104 ls st h Q else Ev X 60 99 ls st h Q) := R_icge rfl
theorem e_60_99 : Ev X 60 99 ls st h Q ↔ onI (gl ls 8) (fun z => Ev X 60 100 ls (vi z :: st) h Q) := R_il rfl (Or.inr rfl)
theorem e_60_100 {x : Int} : Ev X 60 100 ls (vi x :: st) h Q ↔ (stOK ls 6 = true ∧ Ev X 60 101 (ls.set 6 (some (vi x))) st h Q) := R_is rfl (Or.inr rfl)
theorem e_60_101 : Ev X 60 101 ls st h Q ↔ onR (gl ls 0) (fun z => Ev X 60 102 ls (vr z :: st) h Q) := R_al rfl (Or.inl rfl)
theorem e_60_102 : Ev X 60 102 ls st h Q ↔ onI (gl ls 3) (fun z => Ev X 60 103 ls (vi z :: st) h Q) := R_il rfl (Or.inl rfl)
theorem e_60_103 {rest : List xV} {a0 : Int} {o : Nat} : Ev X 60 103 ls ((vi a0) :: vr o :: rest) h Q ↔ ((X.1 o = 8 ∧ wd rest ≤ 8) ∧ Cl X 56 [vr o, vi a0] h (fun r h2 => Ev X 60 104 ls (r.toList ++ rest) h2 Q)) := R_cv (x := o) (as := [vi a0]) (k2 := 56) rfl rfl (Nat.le_of_ble_eq_true rfl)
theorem e_60_104 : Ev X 60 104 ls st h Q ↔ onI (gl ls 7) (fun x => (stOK ls 7 = true ∧ inR (x + 1)) ∧ Ev X 60 105 (ls.set 7 (some (vi (x + 1)))) st h Q) := R_inc rfl
theorem e_60_105 : Ev X 60 105 ls st h Q ↔ Ev X 60 77 ls st h Q := R_go rfl
theorem e_60_106 : Ev X 60 106 ls st h Q ↔ onR (gl ls 0) (fun z => Ev X 60 107 ls (vr z :: st) h Q) := R_al rfl (Or.inl rfl)
theorem e_60_107 : Ev X 60 107 ls st h Q ↔ onR (gl ls 4) (fun z => Ev X 60 108 ls (vr z :: st) h Q) := R_al rfl (Or.inr rfl)
theorem e_60_108 : Ev X 60 108 ls st h Q ↔ onR (gl ls 0) (fun z => Ev X 60 109 ls (vr z :: st) h Q) := R_al rfl (Or.inl rfl)
theorem e_60_109 {x : Nat} : Ev X 60 109 ls (vr x :: st) h Q ↔ (X.1 x = 8 ∧ Ev X 60 110 ls (vr (X.2.2.1 x 3) :: st) h Q) := R_gr rfl
theorem e_60_110 : Ev X 60 110 ls st h Q ↔ onI (gl ls 5) (fun z => Ev X 60 111 ls (vi z :: st) h Q) := R_il rfl (Or.inr rfl)
theorem e_60_111 : Ev X 60 111 ls st h Q ↔ onI (gl ls 3) (fun z => Ev X 60 112 ls (vi z :: st) h Q) := R_il rfl (Or.inl rfl)
theorem e_60_112 {rest : List xV} {a0 : Nat} {a1 : Nat} {a2 : Int} {a3 : Int} {o : Nat} : Ev X 60 112 ls ((vi a3) :: (vi a2) :: (vr a1) :: (vr a0) :: vr o :: rest) h Q ↔ ((X.1 o = 8 ∧ wd rest ≤ 8) ∧ Cl X 61 [vr o, vr a0, vr a1, vi a2, vi a3] h (fun r h2 => Ev X 60 113 ls (r.toList ++ rest) h2 Q)) := R_cv (x := o) (as := [vr a0, vr a1, vi a2, vi a3]) (k2 := 61) rfl rfl (Nat.le_of_ble_eq_true rfl)
theorem e_60_113 : Ev X 60 113 ls st h Q ↔ Ev X 60 114 ls (vi 0 :: st) h Q := R_kc rfl (Or.inl ⟨Or.inl rfl, by decide⟩)
theorem e_60_114 {x : Int} : Ev X 60 114 ls (vi x :: st) h Q ↔ (stOK ls 7 = true ∧ Ev X 60 115 (ls.set 7 (some (vi x))) st h Q) := R_is rfl (Or.inr rfl)
theorem e_60_115 : Ev X 60 115 ls st h Q ↔ onI (gl ls 7) (fun z => Ev X 60 116 ls (vi z :: st) h Q) := R_il rfl (Or.inr rfl)
theorem e_60_116 : Ev X 60 116 ls st h Q ↔ onI (gl ls 3) (fun z => Ev X 60 117 ls (vi z :: st) h Q) := R_il rfl (Or.inl rfl)
theorem e_60_117 {x y : Int} : Ev X 60 117 ls (vi y :: vi x :: st) h Q ↔ (if y ≤ x then Ev X 60 134 ls st h Q else Ev X 60 118 ls st h Q) := R_icge rfl
theorem e_60_118 : Ev X 60 118 ls st h Q ↔ onR (gl ls 0) (fun z => Ev X 60 119 ls (vr z :: st) h Q) := R_al rfl (Or.inl rfl)
theorem e_60_119 {x : Nat} : Ev X 60 119 ls (vr x :: st) h Q ↔ (X.1 x = 8 ∧ Ev X 60 120 ls (vr (X.2.2.1 x 1) :: st) h Q) := R_gr rfl
theorem e_60_120 {x : Nat} : Ev X 60 120 ls (vr x :: st) h Q ↔ (X.1 x = 4 ∧ Ev X 60 121 ls (vr (X.2.2.1 x 8) :: st) h Q) := R_gr rfl
theorem e_60_121 : Ev X 60 121 ls st h Q ↔ onI (gl ls 2) (fun z => Ev X 60 122 ls (vi z :: st) h Q) := R_il rfl (Or.inl rfl)
theorem e_60_122 : Ev X 60 122 ls st h Q ↔ onI (gl ls 7) (fun z => Ev X 60 123 ls (vi z :: st) h Q) := R_il rfl (Or.inr rfl)
theorem e_60_123 {x y : Int} : Ev X 60 123 ls (vi y :: vi x :: st) h Q ↔ ((inR (x + y)) ∧ Ev X 60 124 ls (vi (x + y) :: st) h Q) := R_add rfl
theorem e_60_124 : Ev X 60 124 ls st h Q ↔ onR (gl ls 0) (fun z => Ev X 60 125 ls (vr z :: st) h Q) := R_al rfl (Or.inl rfl)
theorem e_60_125 {x : Nat} : Ev X 60 125 ls (vr x :: st) h Q ↔ (X.1 x = 8 ∧ Ev X 60 126 ls (vr (X.2.2.1 x 4) :: st) h Q) := R_gr rfl
theorem e_60_126 : Ev X 60 126 ls st h Q ↔ onR (gl ls 0) (fun z => Ev X 60 127 ls (vr z :: st) h Q) := R_al rfl (Or.inl rfl)
theorem e_60_127 {x : Nat} : Ev X 60 127 ls (vr x :: st) h Q ↔ (X.1 x = 8 ∧ Ev X 60 128 ls (vr (X.2.2.1 x 3) :: st) h Q) := R_gr rfl
theorem e_60_128 : Ev X 60 128 ls st h Q ↔ onI (gl ls 7) (fun z => Ev X 60 129 ls (vi z :: st) h Q) := R_il rfl (Or.inr rfl)
theorem e_60_129 {x : Nat} {j : Int} : Ev X 60 129 ls (vi j :: vr x :: st) h Q ↔ (((X.1 x = 13 ∨ X.1 x = 20) ∧ 0 ≤ j ∧ j < X.2.1 x) ∧ Ev X 60 130 ls (vi (h.1 x j.toNat) :: st) h Q) := R_ia rfl
theorem e_60_130 {x : Nat} {j : Int} : Ev X 60 130 ls (vi j :: vr x :: st) h Q ↔ (((X.1 x = 13 ∨ X.1 x = 20) ∧ 0 ≤ j ∧ j < X.2.1 x) ∧ Ev X 60 131 ls (vi (h.1 x j.toNat) :: st) h Q) := R_ia rfl
theorem e_60_131 {x : Nat} {j v : Int} : Ev X 60 131 ls (vi v :: vi j :: vr x :: st) h Q ↔ ((X.1 x = 13 ∧ 0 ≤ j ∧ j < X.2.1 x) ∧ Ev X 60 132 ls st (up2 h.1 x j.toNat v, h.2) Q) := R_ias rfl
theorem e_60_132 : Ev X 60 132 ls st h Q ↔ onI (gl ls 7) (fun x => (stOK ls 7 = true ∧ inR (x + 1)) ∧ Ev X 60 133 (ls.set 7 (some (vi (x + 1)))) st h Q) := R_inc rfl
theorem e_60_133 : Ev X 60 133 ls st h Q ↔ Ev X 60 115 ls st h Q := R_go rfl
theorem e_60_134 : Ev X 60 134 ls [] h Q ↔ Q none h := R_vr rfl
-- 61: CellRows$Passes.lineUp(LCellRows$Cells;[III)V
theorem e_61_0 : Ev X 61 0 ls st h Q ↔ onI (gl ls 3) (fun z => Ev X 61 1 ls (vi z :: st) h Q) := R_il rfl (Or.inl rfl)
theorem e_61_1 {x : Int} : Ev X 61 1 ls (vi x :: st) h Q ↔ (stOK ls 5 = true ∧ Ev X 61 2 (ls.set 5 (some (vi x))) st h Q) := R_is rfl (Or.inr rfl)
theorem e_61_2 : Ev X 61 2 ls st h Q ↔ Ev X 61 3 ls (vi 0 :: st) h Q := R_kc rfl (Or.inl ⟨Or.inl rfl, by decide⟩)
theorem e_61_3 {x : Int} : Ev X 61 3 ls (vi x :: st) h Q ↔ (stOK ls 6 = true ∧ Ev X 61 4 (ls.set 6 (some (vi x))) st h Q) := R_is rfl (Or.inr rfl)
theorem e_61_4 : Ev X 61 4 ls st h Q ↔ onI (gl ls 6) (fun z => Ev X 61 5 ls (vi z :: st) h Q) := R_il rfl (Or.inr rfl)
theorem e_61_5 : Ev X 61 5 ls st h Q ↔ onI (gl ls 4) (fun z => Ev X 61 6 ls (vi z :: st) h Q) := R_il rfl (Or.inr rfl)
theorem e_61_6 {x y : Int} : Ev X 61 6 ls (vi y :: vi x :: st) h Q ↔ (if y ≤ x then Ev X 61 33 ls st h Q else Ev X 61 7 ls st h Q) := R_icge rfl
theorem e_61_7 : Ev X 61 7 ls st h Q ↔ onR (gl ls 0) (fun z => Ev X 61 8 ls (vr z :: st) h Q) := R_al rfl (Or.inl rfl)
theorem e_61_8 {x : Nat} : Ev X 61 8 ls (vr x :: st) h Q ↔ (X.1 x = 8 ∧ Ev X 61 9 ls (vr (X.2.2.1 x 4) :: st) h Q) := R_gr rfl
theorem e_61_9 : Ev X 61 9 ls st h Q ↔ onR (gl ls 2) (fun z => Ev X 61 10 ls (vr z :: st) h Q) := R_al rfl (Or.inl rfl)
theorem e_61_10 : Ev X 61 10 ls st h Q ↔ onI (gl ls 6) (fun z => Ev X 61 11 ls (vi z :: st) h Q) := R_il rfl (Or.inr rfl)
theorem e_61_11 {x : Nat} {j : Int} : Ev X 61 11 ls (vi j :: vr x :: st) h Q ↔ (((X.1 x = 13 ∨ X.1 x = 20) ∧ 0 ≤ j ∧ j < X.2.1 x) ∧ Ev X 61 12 ls (vi (h.1 x j.toNat) :: st) h Q) := R_ia rfl
theorem e_61_12 {x : Nat} {j : Int} : Ev X 61 12 ls (vi j :: vr x :: st) h Q ↔ (((X.1 x = 13 ∨ X.1 x = 20) ∧ 0 ≤ j ∧ j < X.2.1 x) ∧ Ev X 61 13 ls (vi (h.1 x j.toNat) :: st) h Q) := R_ia rfl
theorem e_61_13 {x : Int} : Ev X 61 13 ls (vi x :: st) h Q ↔ (stOK ls 7 = true ∧ Ev X 61 14 (ls.set 7 (some (vi x))) st h Q) := R_is rfl (Or.inr rfl)
theorem e_61_14 : Ev X 61 14 ls st h Q ↔ onR (gl ls 1) (fun z => Ev X 61 15 ls (vr z :: st) h Q) := R_al rfl (Or.inl rfl)
theorem e_61_15 {x : Nat} : Ev X 61 15 ls (vr x :: st) h Q ↔ (X.1 x = 3 ∧ Ev X 61 16 ls (vr (X.2.2.1 x 7) :: st) h Q) := R_gr rfl
theorem e_61_16 : Ev X 61 16 ls st h Q ↔ onI (gl ls 7) (fun z => Ev X 61 17 ls (vi z :: st) h Q) := R_il rfl (Or.inr rfl)
theorem e_61_17 : Ev X 61 17 ls st h Q ↔ onI (gl ls 5) (fun z => Ev X 61 18 ls (vi z :: st) h Q) := R_il rfl (Or.inr rfl)
theorem e_61_18 {x : Nat} {j v : Int} : Ev X 61 18 ls (vi v :: vi j :: vr x :: st) h Q ↔ ((X.1 x = 13 ∧ 0 ≤ j ∧ j < X.2.1 x) ∧ Ev X 61 19 ls st (up2 h.1 x j.toNat v, h.2) Q) := R_ias rfl
theorem e_61_19 : Ev X 61 19 ls st h Q ↔ onI (gl ls 5) (fun z => Ev X 61 20 ls (vi z :: st) h Q) := R_il rfl (Or.inr rfl)
theorem e_61_20 : Ev X 61 20 ls st h Q ↔ onR (gl ls 1) (fun z => Ev X 61 21 ls (vr z :: st) h Q) := R_al rfl (Or.inl rfl)
theorem e_61_21 {x : Nat} : Ev X 61 21 ls (vr x :: st) h Q ↔ (X.1 x = 3 ∧ Ev X 61 22 ls (vr (X.2.2.1 x 1) :: st) h Q) := R_gr rfl
theorem e_61_22 : Ev X 61 22 ls st h Q ↔ onI (gl ls 7) (fun z => Ev X 61 23 ls (vi z :: st) h Q) := R_il rfl (Or.inr rfl)
theorem e_61_23 {x : Nat} {j : Int} : Ev X 61 23 ls (vi j :: vr x :: st) h Q ↔ (((X.1 x = 13 ∨ X.1 x = 20) ∧ 0 ≤ j ∧ j < X.2.1 x) ∧ Ev X 61 24 ls (vi (h.1 x j.toNat) :: st) h Q) := R_ia rfl
theorem e_61_24 : Ev X 61 24 ls st h Q ↔ onR (gl ls 0) (fun z => Ev X 61 25 ls (vr z :: st) h Q) := R_al rfl (Or.inl rfl)
theorem e_61_25 {x : Nat} : Ev X 61 25 ls (vr x :: st) h Q ↔ (X.1 x = 8 ∧ Ev X 61 26 ls (vr (X.2.2.1 x 5) :: st) h Q) := R_gr rfl
theorem e_61_26 : Ev X 61 26 ls st h Q ↔ onI (gl ls 6) (fun z => Ev X 61 27 ls (vi z :: st) h Q) := R_il rfl (Or.inr rfl)
theorem e_61_27 {x : Nat} {j : Int} : Ev X 61 27 ls (vi j :: vr x :: st) h Q ↔ (((X.1 x = 13 ∨ X.1 x = 20) ∧ 0 ≤ j ∧ j < X.2.1 x) ∧ Ev X 61 28 ls (vi (h.1 x j.toNat) :: st) h Q) := R_ia rfl
theorem e_61_28 {x y : Int} : Ev X 61 28 ls (vi y :: vi x :: st) h Q ↔ Ev X 61 29 ls (vi (Int32.ofInt (x + y)).toInt :: st) h Q := R_addw rfl
theorem e_61_29 {x y : Int} : Ev X 61 29 ls (vi y :: vi x :: st) h Q ↔ Ev X 61 30 ls (vi (Int32.ofInt (x + y)).toInt :: st) h Q := R_addw rfl
theorem e_61_30 {x : Int} : Ev X 61 30 ls (vi x :: st) h Q ↔ (stOK ls 5 = true ∧ Ev X 61 31 (ls.set 5 (some (vi x))) st h Q) := R_is rfl (Or.inr rfl)
theorem e_61_31 : Ev X 61 31 ls st h Q ↔ onI (gl ls 6) (fun x => (stOK ls 6 = true ∧ inR (x + 1)) ∧ Ev X 61 32 (ls.set 6 (some (vi (x + 1)))) st h Q) := R_inc rfl
theorem e_61_32 : Ev X 61 32 ls st h Q ↔ Ev X 61 4 ls st h Q := R_go rfl
theorem e_61_33 : Ev X 61 33 ls [] h Q ↔ Q none h := R_vr rfl
-- 62: CellRows$Passes.exchangeAll(LCellRows$Plan;)I
theorem e_62_0 : Ev X 62 0 ls st h Q ↔ onR (gl ls 1) (fun z => Ev X 62 1 ls (vr z :: st) h Q) := R_al rfl (Or.inl rfl)
theorem e_62_1 {x : Nat} : Ev X 62 1 ls (vr x :: st) h Q ↔ (X.1 x = 9 ∧ Ev X 62 2 ls (vr (X.2.2.1 x 4) :: st) h Q) := R_gr rfl
theorem e_62_2 {x : Nat} : Ev X 62 2 ls (vr x :: st) h Q ↔ (stOK ls 2 = true ∧ Ev X 62 3 (ls.set 2 (some (vr x))) st h Q) := R_as rfl (Or.inl rfl)
theorem e_62_3 : Ev X 62 3 ls st h Q ↔ onR (gl ls 0) (fun z => Ev X 62 4 ls (vr z :: st) h Q) := R_al rfl (Or.inl rfl)
theorem e_62_4 {x : Nat} : Ev X 62 4 ls (vr x :: st) h Q ↔ (X.1 x = 8 ∧ Ev X 62 5 ls (vr (X.2.2.1 x 0) :: st) h Q) := R_gr rfl
theorem e_62_5 : Ev X 62 5 ls st h Q ↔ onR (gl ls 1) (fun z => Ev X 62 6 ls (vr z :: st) h Q) := R_al rfl (Or.inl rfl)
theorem e_62_6 {rest : List xV} {a0 : Nat} {o : Nat} : Ev X 62 6 ls ((vr a0) :: vr o :: rest) h Q ↔ ((X.1 o = 10 ∧ wd rest ≤ 8) ∧ Cl X 92 [vr o, vr a0] h (fun r h2 => Ev X 62 7 ls (r.toList ++ rest) h2 Q)) := R_cv (x := o) (as := [vr a0]) (k2 := 92) rfl rfl (Nat.le_of_ble_eq_true rfl)
theorem e_62_7 {x : Int} : Ev X 62 7 ls (vi x :: st) h Q ↔ (stOK ls 3 = true ∧ Ev X 62 8 (ls.set 3 (some (vi x))) st h Q) := R_is rfl (Or.inl rfl)
theorem e_62_8 : Ev X 62 8 ls st h Q ↔ onI (gl ls 3) (fun z => Ev X 62 9 ls (vi z :: st) h Q) := R_il rfl (Or.inl rfl)
theorem e_62_9 {x : Int} : Ev X 62 9 ls (vi x :: st) h Q ↔ (stOK ls 4 = true ∧ Ev X 62 10 (ls.set 4 (some (vi x))) st h Q) := R_is rfl (Or.inr rfl)
theorem e_62_10 : Ev X 62 10 ls st h Q ↔ Ev X 62 11 ls (vi 0 :: st) h Q := R_kc rfl (Or.inl ⟨Or.inl rfl, by decide⟩)
theorem e_62_11 {x : Int} : Ev X 62 11 ls (vi x :: st) h Q ↔ (stOK ls 5 = true ∧ Ev X 62 12 (ls.set 5 (some (vi x))) st h Q) := R_is rfl (Or.inr rfl)
theorem e_62_12 : Ev X 62 12 ls st h Q ↔ onI (gl ls 5) (fun z => Ev X 62 13 ls (vi z :: st) h Q) := R_il rfl (Or.inr rfl)
theorem e_62_13 : Ev X 62 13 ls st h Q ↔ onR (gl ls 2) (fun z => Ev X 62 14 ls (vr z :: st) h Q) := R_al rfl (Or.inl rfl)
theorem e_62_14 {x : Nat} : Ev X 62 14 ls (vr x :: st) h Q ↔ (X.1 x = 3 ∧ Ev X 62 15 ls (vi (h.2 x 0) :: st) h Q) := R_gi rfl
theorem e_62_15 {x y : Int} : Ev X 62 15 ls (vi y :: vi x :: st) h Q ↔ (if y ≤ x then Ev X 62 43 ls st h Q else Ev X 62 16 ls st h Q) := R_icge rfl
theorem e_62_16 : Ev X 62 16 ls st h Q ↔ onI (gl ls 5) (fun z => Ev X 62 17 ls (vi z :: st) h Q) := R_il rfl (Or.inr rfl)
theorem e_62_17 : Ev X 62 17 ls st h Q ↔ Ev X 62 18 ls (vi 1 :: st) h Q := R_kc rfl (Or.inl ⟨Or.inl rfl, by decide⟩)
theorem e_62_18 {x y : Int} : Ev X 62 18 ls (vi y :: vi x :: st) h Q ↔ ((inR (x + y)) ∧ Ev X 62 19 ls (vi (x + y) :: st) h Q) := R_add rfl
theorem e_62_19 {x : Int} : Ev X 62 19 ls (vi x :: st) h Q ↔ (stOK ls 6 = true ∧ Ev X 62 20 (ls.set 6 (some (vi x))) st h Q) := R_is rfl (Or.inr rfl)
theorem e_62_20 : Ev X 62 20 ls st h Q ↔ onI (gl ls 6) (fun z => Ev X 62 21 ls (vi z :: st) h Q) := R_il rfl (Or.inr rfl)
theorem e_62_21 : Ev X 62 21 ls st h Q ↔ onR (gl ls 2) (fun z => Ev X 62 22 ls (vr z :: st) h Q) := R_al rfl (Or.inl rfl)
theorem e_62_22 {x : Nat} : Ev X 62 22 ls (vr x :: st) h Q ↔ (X.1 x = 3 ∧ Ev X 62 23 ls (vi (h.2 x 0) :: st) h Q) := R_gi rfl
theorem e_62_23 {x y : Int} : Ev X 62 23 ls (vi y :: vi x :: st) h Q ↔ (if y ≤ x then Ev X 62 41 ls st h Q else Ev X 62 24 ls st h Q) := R_icge rfl
theorem e_62_24 : Ev X 62 24 ls st h Q ↔ onR (gl ls 2) (fun z => Ev X 62 25 ls (vr z :: st) h Q) := R_al rfl (Or.inl rfl)
theorem e_62_25 : Ev X 62 25 ls st h Q ↔ onI (gl ls 5) (fun z => Ev X 62 26 ls (vi z :: st) h Q) := R_il rfl (Or.inr rfl)
theorem e_62_26 : Ev X 62 26 ls st h Q ↔ onI (gl ls 6) (fun z => Ev X 62 27 ls (vi z :: st) h Q) := R_il rfl (Or.inr rfl)
theorem e_62_27 {rest : List xV} {a0 : Int} {a1 : Int} {o : Nat} : Ev X 62 27 ls ((vi a1) :: (vi a0) :: vr o :: rest) h Q ↔ ((X.1 o = 3 ∧ wd rest ≤ 8) ∧ Cl X 24 [vr o, vi a0, vi a1] h (fun r h2 => Ev X 62 28 ls (r.toList ++ rest) h2 Q)) := R_cv (x := o) (as := [vi a0, vi a1]) (k2 := 24) rfl rfl (Nat.le_of_ble_eq_true rfl)
theorem e_62_28 {x : Int} : Ev X 62 28 ls (vi x :: st) h Q ↔ (if x = 0 then Ev X 62 39 ls st h Q else Ev X 62 29 ls st h Q) := R_ifeq rfl
theorem e_62_29 : Ev X 62 29 ls st h Q ↔ onR (gl ls 0) (fun z => Ev X 62 30 ls (vr z :: st) h Q) := R_al rfl (Or.inl rfl)
theorem e_62_30 : Ev X 62 30 ls st h Q ↔ onR (gl ls 1) (fun z => Ev X 62 31 ls (vr z :: st) h Q) := R_al rfl (Or.inl rfl)
theorem e_62_31 : Ev X 62 31 ls st h Q ↔ onI (gl ls 5) (fun z => Ev X 62 32 ls (vi z :: st) h Q) := R_il rfl (Or.inr rfl)
theorem e_62_32 : Ev X 62 32 ls st h Q ↔ onI (gl ls 6) (fun z => Ev X 62 33 ls (vi z :: st) h Q) := R_il rfl (Or.inr rfl)
theorem e_62_33 : Ev X 62 33 ls st h Q ↔ onI (gl ls 4) (fun z => Ev X 62 34 ls (vi z :: st) h Q) := R_il rfl (Or.inr rfl)
theorem e_62_34 : Ev X 62 34 ls st h Q ↔ onI (gl ls 4) (fun z => Ev X 62 35 ls (vi z :: st) h Q) := R_il rfl (Or.inr rfl)
theorem e_62_35 : Ev X 62 35 ls st h Q ↔ Ev X 62 36 ls (vi 1 :: st) h Q := R_kc rfl (Or.inl ⟨Or.inl rfl, by decide⟩)
theorem e_62_36 {x y : Int} : Ev X 62 36 ls (vi y :: vi x :: st) h Q ↔ ((inR (x - y)) ∧ Ev X 62 37 ls (vi (x - y) :: st) h Q) := R_sub rfl
theorem e_62_37 {rest : List xV} {a0 : Nat} {a1 : Int} {a2 : Int} {a3 : Int} {a4 : Int} {o : Nat} : Ev X 62 37 ls ((vi a4) :: (vi a3) :: (vi a2) :: (vi a1) :: (vr a0) :: vr o :: rest) h Q ↔ ((X.1 o = 8 ∧ wd rest ≤ 8) ∧ Cl X 63 [vr o, vr a0, vi a1, vi a2, vi a3, vi a4] h (fun r h2 => Ev X 62 38 ls (r.toList ++ rest) h2 Q)) := R_cv (x := o) (as := [vr a0, vi a1, vi a2, vi a3, vi a4]) (k2 := 63) rfl rfl (Nat.le_of_ble_eq_true rfl)
theorem e_62_38 {x : Int} : Ev X 62 38 ls (vi x :: st) h Q ↔ (stOK ls 4 = true ∧ Ev X 62 39 (ls.set 4 (some (vi x))) st h Q) := R_is rfl (Or.inr rfl)
theorem e_62_39 : Ev X 62 39 ls st h Q ↔ onI (gl ls 6) (fun x => (stOK ls 6 = true ∧ inR (x + 1)) ∧ Ev X 62 40 (ls.set 6 (some (vi (x + 1)))) st h Q) := R_inc rfl
theorem e_62_40 : Ev X 62 40 ls st h Q ↔ Ev X 62 20 ls st h Q := R_go rfl
theorem e_62_41 : Ev X 62 41 ls st h Q ↔ onI (gl ls 5) (fun x => (stOK ls 5 = true ∧ inR (x + 1)) ∧ Ev X 62 42 (ls.set 5 (some (vi (x + 1)))) st h Q) := R_inc rfl
theorem e_62_42 : Ev X 62 42 ls st h Q ↔ Ev X 62 12 ls st h Q := R_go rfl
theorem e_62_43 : Ev X 62 43 ls st h Q ↔ onI (gl ls 3) (fun z => Ev X 62 44 ls (vi z :: st) h Q) := R_il rfl (Or.inl rfl)
theorem e_62_44 : Ev X 62 44 ls st h Q ↔ onI (gl ls 4) (fun z => Ev X 62 45 ls (vi z :: st) h Q) := R_il rfl (Or.inr rfl)
theorem e_62_45 {x y : Int} : Ev X 62 45 ls (vi y :: vi x :: st) h Q ↔ ((inR (x - y)) ∧ Ev X 62 46 ls (vi (x - y) :: st) h Q) := R_sub rfl
theorem e_62_46 {z : Int} : Ev X 62 46 ls [vi z] h Q ↔ Q (some (vi z)) h := R_ir rfl
-- 63: CellRows$Passes.exchangeWithin(LCellRows$Plan;IIII)I
theorem e_63_0 : Ev X 63 0 ls st h Q ↔ onR (gl ls 1) (fun z => Ev X 63 1 ls (vr z :: st) h Q) := R_al rfl (Or.inl rfl)
theorem e_63_1 {x : Nat} : Ev X 63 1 ls (vr x :: st) h Q ↔ (X.1 x = 9 ∧ Ev X 63 2 ls (vr (X.2.2.1 x 4) :: st) h Q) := R_gr rfl
theorem e_63_2 : Ev X 63 2 ls st h Q ↔ onI (gl ls 2) (fun z => Ev X 63 3 ls (vi z :: st) h Q) := R_il rfl (Or.inl rfl)
theorem e_63_3 : Ev X 63 3 ls st h Q ↔ onI (gl ls 3) (fun z => Ev X 63 4 ls (vi z :: st) h Q) := R_il rfl (Or.inl rfl)
theorem e_63_4 {rest : List xV} {a0 : Int} {a1 : Int} {o : Nat} : Ev X 63 4 ls ((vi a1) :: (vi a0) :: vr o :: rest) h Q ↔ ((X.1 o = 3 ∧ wd rest ≤ 8) ∧ Cl X 21 [vr o, vi a0, vi a1] h (fun r h2 => Ev X 63 5 ls (r.toList ++ rest) h2 Q)) := R_cv (x := o) (as := [vi a0, vi a1]) (k2 := 21) rfl rfl (Nat.le_of_ble_eq_true rfl)
theorem e_63_5 : Ev X 63 5 ls st h Q ↔ onR (gl ls 0) (fun z => Ev X 63 6 ls (vr z :: st) h Q) := R_al rfl (Or.inl rfl)
theorem e_63_6 {x : Nat} : Ev X 63 6 ls (vr x :: st) h Q ↔ (X.1 x = 8 ∧ Ev X 63 7 ls (vr (X.2.2.1 x 0) :: st) h Q) := R_gr rfl
theorem e_63_7 : Ev X 63 7 ls st h Q ↔ onR (gl ls 1) (fun z => Ev X 63 8 ls (vr z :: st) h Q) := R_al rfl (Or.inl rfl)
theorem e_63_8 {rest : List xV} {a0 : Nat} {o : Nat} : Ev X 63 8 ls ((vr a0) :: vr o :: rest) h Q ↔ ((X.1 o = 10 ∧ wd rest ≤ 8) ∧ Cl X 92 [vr o, vr a0] h (fun r h2 => Ev X 63 9 ls (r.toList ++ rest) h2 Q)) := R_cv (x := o) (as := [vr a0]) (k2 := 92) rfl rfl (Nat.le_of_ble_eq_true rfl)
theorem e_63_9 {x : Int} : Ev X 63 9 ls (vi x :: st) h Q ↔ (stOK ls 6 = true ∧ Ev X 63 10 (ls.set 6 (some (vi x))) st h Q) := R_is rfl (Or.inr rfl)
theorem e_63_10 : Ev X 63 10 ls st h Q ↔ onI (gl ls 6) (fun z => Ev X 63 11 ls (vi z :: st) h Q) := R_il rfl (Or.inr rfl)
theorem e_63_11 : Ev X 63 11 ls st h Q ↔ onI (gl ls 5) (fun z => Ev X 63 12 ls (vi z :: st) h Q) := R_il rfl (Or.inr rfl)
theorem e_63_12 {x y : Int} : Ev X 63 12 ls (vi y :: vi x :: st) h Q ↔ (if y < x then Ev X 63 15 ls st h Q else Ev X 63 13 ls st h Q) := R_icgt rfl
theorem e_63_13 : Ev X 63 13 ls st h Q ↔ onI (gl ls 6) (fun z => Ev X 63 14 ls (vi z :: st) h Q) := R_il rfl (Or.inr rfl)
theorem e_63_14 {z : Int} : Ev X 63 14 ls [vi z] h Q ↔ Q (some (vi z)) h := R_ir rfl
theorem e_63_15 : Ev X 63 15 ls st h Q ↔ onR (gl ls 1) (fun z => Ev X 63 16 ls (vr z :: st) h Q) := R_al rfl (Or.inl rfl)
theorem e_63_16 {x : Nat} : Ev X 63 16 ls (vr x :: st) h Q ↔ (X.1 x = 9 ∧ Ev X 63 17 ls (vr (X.2.2.1 x 4) :: st) h Q) := R_gr rfl
theorem e_63_17 : Ev X 63 17 ls st h Q ↔ onI (gl ls 2) (fun z => Ev X 63 18 ls (vi z :: st) h Q) := R_il rfl (Or.inl rfl)
theorem e_63_18 : Ev X 63 18 ls st h Q ↔ onI (gl ls 3) (fun z => Ev X 63 19 ls (vi z :: st) h Q) := R_il rfl (Or.inl rfl)
theorem e_63_19 {rest : List xV} {a0 : Int} {a1 : Int} {o : Nat} : Ev X 63 19 ls ((vi a1) :: (vi a0) :: vr o :: rest) h Q ↔ ((X.1 o = 3 ∧ wd rest ≤ 8) ∧ Cl X 21 [vr o, vi a0, vi a1] h (fun r h2 => Ev X 63 20 ls (r.toList ++ rest) h2 Q)) := R_cv (x := o) (as := [vi a0, vi a1]) (k2 := 21) rfl rfl (Nat.le_of_ble_eq_true rfl)
theorem e_63_20 : Ev X 63 20 ls st h Q ↔ onI (gl ls 4) (fun z => Ev X 63 21 ls (vi z :: st) h Q) := R_il rfl (Or.inr rfl)
theorem e_63_21 {z : Int} : Ev X 63 21 ls [vi z] h Q ↔ Q (some (vi z)) h := R_ir rfl
-- 64: CellRows$Passes.hopAll(LCellRows$Plan;)V
theorem e_64_0 : Ev X 64 0 ls st h Q ↔ Ev X 64 1 ls (vi 0 :: st) h Q := R_kc rfl (Or.inl ⟨Or.inl rfl, by decide⟩)
theorem e_64_1 {x : Int} : Ev X 64 1 ls (vi x :: st) h Q ↔ (stOK ls 2 = true ∧ Ev X 64 2 (ls.set 2 (some (vi x))) st h Q) := R_is rfl (Or.inl rfl)
theorem e_64_2 : Ev X 64 2 ls st h Q ↔ onI (gl ls 2) (fun z => Ev X 64 3 ls (vi z :: st) h Q) := R_il rfl (Or.inl rfl)
theorem e_64_3 : Ev X 64 3 ls st h Q ↔ onR (gl ls 1) (fun z => Ev X 64 4 ls (vr z :: st) h Q) := R_al rfl (Or.inl rfl)
theorem e_64_4 {x : Nat} : Ev X 64 4 ls (vr x :: st) h Q ↔ (X.1 x = 9 ∧ Ev X 64 5 ls (vr (X.2.2.1 x 4) :: st) h Q) := R_gr rfl
theorem e_64_5 {x : Nat} : Ev X 64 5 ls (vr x :: st) h Q ↔ (X.1 x = 3 ∧ Ev X 64 6 ls (vi (h.2 x 0) :: st) h Q) := R_gi rfl
theorem e_64_6 {x y : Int} : Ev X 64 6 ls (vi y :: vi x :: st) h Q ↔ (if y ≤ x then Ev X 64 18 ls st h Q else Ev X 64 7 ls st h Q) := R_icge rfl
theorem e_64_7 : Ev X 64 7 ls st h Q ↔ onR (gl ls 1) (fun z => Ev X 64 8 ls (vr z :: st) h Q) := R_al rfl (Or.inl rfl)
theorem e_64_8 {x : Nat} : Ev X 64 8 ls (vr x :: st) h Q ↔ (X.1 x = 9 ∧ Ev X 64 9 ls (vr (X.2.2.1 x 4) :: st) h Q) := R_gr rfl
theorem e_64_9 : Ev X 64 9 ls st h Q ↔ onI (gl ls 2) (fun z => Ev X 64 10 ls (vi z :: st) h Q) := R_il rfl (Or.inl rfl)
theorem e_64_10 {rest : List xV} {a0 : Int} {o : Nat} : Ev X 64 10 ls ((vi a0) :: vr o :: rest) h Q ↔ ((X.1 o = 3 ∧ wd rest ≤ 8) ∧ Cl X 23 [vr o, vi a0] h (fun r h2 => Ev X 64 11 ls (r.toList ++ rest) h2 Q)) := R_cv (x := o) (as := [vi a0]) (k2 := 23) rfl rfl (Nat.le_of_ble_eq_true rfl)
theorem e_64_11 {x : Int} : Ev X 64 11 ls (vi x :: st) h Q ↔ (if x = 0 then Ev X 64 16 ls st h Q else Ev X 64 12 ls st h Q) := R_ifeq rfl
theorem e_64_12 : Ev X 64 12 ls st h Q ↔ onR (gl ls 0) (fun z => Ev X 64 13 ls (vr z :: st) h Q) := R_al rfl (Or.inl rfl)
theorem e_64_13 : Ev X 64 13 ls st h Q ↔ onR (gl ls 1) (fun z => Ev X 64 14 ls (vr z :: st) h Q) := R_al rfl (Or.inl rfl)
theorem e_64_14 : Ev X 64 14 ls st h Q ↔ onI (gl ls 2) (fun z => Ev X 64 15 ls (vi z :: st) h Q) := R_il rfl (Or.inl rfl)
theorem e_64_15 {rest : List xV} {a0 : Nat} {a1 : Int} {o : Nat} : Ev X 64 15 ls ((vi a1) :: (vr a0) :: vr o :: rest) h Q ↔ ((X.1 o = 8 ∧ wd rest ≤ 8) ∧ Cl X 65 [vr o, vr a0, vi a1] h (fun r h2 => Ev X 64 16 ls (r.toList ++ rest) h2 Q)) := R_cv (x := o) (as := [vr a0, vi a1]) (k2 := 65) rfl rfl (Nat.le_of_ble_eq_true rfl)
theorem e_64_16 : Ev X 64 16 ls st h Q ↔ onI (gl ls 2) (fun x => (stOK ls 2 = true ∧ inR (x + 1)) ∧ Ev X 64 17 (ls.set 2 (some (vi (x + 1)))) st h Q) := R_inc rfl
theorem e_64_17 : Ev X 64 17 ls st h Q ↔ Ev X 64 2 ls st h Q := R_go rfl
theorem e_64_18 : Ev X 64 18 ls [] h Q ↔ Q none h := R_vr rfl
-- 65: CellRows$Passes.hop(LCellRows$Plan;I)V
theorem e_65_0 : Ev X 65 0 ls st h Q ↔ onR (gl ls 0) (fun z => Ev X 65 1 ls (vr z :: st) h Q) := R_al rfl (Or.inl rfl)
theorem e_65_1 {x : Nat} : Ev X 65 1 ls (vr x :: st) h Q ↔ (X.1 x = 8 ∧ Ev X 65 2 ls (vr (X.2.2.1 x 0) :: st) h Q) := R_gr rfl
theorem e_65_2 : Ev X 65 2 ls st h Q ↔ onR (gl ls 1) (fun z => Ev X 65 3 ls (vr z :: st) h Q) := R_al rfl (Or.inl rfl)
theorem e_65_3 : Ev X 65 3 ls st h Q ↔ onI (gl ls 2) (fun z => Ev X 65 4 ls (vi z :: st) h Q) := R_il rfl (Or.inl rfl)
theorem e_65_4 {rest : List xV} {a0 : Nat} {a1 : Int} {o : Nat} : Ev X 65 4 ls ((vi a1) :: (vr a0) :: vr o :: rest) h Q ↔ ((X.1 o = 10 ∧ wd rest ≤ 8) ∧ Cl X 93 [vr o, vr a0, vi a1] h (fun r h2 => Ev X 65 5 ls (r.toList ++ rest) h2 Q)) := R_cv (x := o) (as := [vr a0, vi a1]) (k2 := 93) rfl rfl (Nat.le_of_ble_eq_true rfl)
theorem e_65_5 : Ev X 65 5 ls st h Q ↔ onR (gl ls 0) (fun z => Ev X 65 6 ls (vr z :: st) h Q) := R_al rfl (Or.inl rfl)
theorem e_65_6 {x : Nat} : Ev X 65 6 ls (vr x :: st) h Q ↔ (X.1 x = 8 ∧ Ev X 65 7 ls (vr (X.2.2.1 x 0) :: st) h Q) := R_gr rfl
theorem e_65_7 : Ev X 65 7 ls st h Q ↔ onR (gl ls 1) (fun z => Ev X 65 8 ls (vr z :: st) h Q) := R_al rfl (Or.inl rfl)
theorem e_65_8 : Ev X 65 8 ls st h Q ↔ onI (gl ls 2) (fun z => Ev X 65 9 ls (vi z :: st) h Q) := R_il rfl (Or.inl rfl)
theorem e_65_9 {rest : List xV} {a0 : Nat} {a1 : Int} {o : Nat} : Ev X 65 9 ls ((vi a1) :: (vr a0) :: vr o :: rest) h Q ↔ ((X.1 o = 10 ∧ wd rest ≤ 8) ∧ Cl X 95 [vr o, vr a0, vi a1] h (fun r h2 => Ev X 65 10 ls (r.toList ++ rest) h2 Q)) := R_cv (x := o) (as := [vr a0, vi a1]) (k2 := 95) rfl rfl (Nat.le_of_ble_eq_true rfl)
theorem e_65_10 {x : Int} : Ev X 65 10 ls (vi x :: st) h Q ↔ (stOK ls 3 = true ∧ Ev X 65 11 (ls.set 3 (some (vi x))) st h Q) := R_is rfl (Or.inl rfl)
theorem e_65_11 : Ev X 65 11 ls st h Q ↔ onR (gl ls 1) (fun z => Ev X 65 12 ls (vr z :: st) h Q) := R_al rfl (Or.inl rfl)
theorem e_65_12 {x : Nat} : Ev X 65 12 ls (vr x :: st) h Q ↔ (X.1 x = 9 ∧ Ev X 65 13 ls (vr (X.2.2.1 x 4) :: st) h Q) := R_gr rfl
theorem e_65_13 {x : Nat} : Ev X 65 13 ls (vr x :: st) h Q ↔ (X.1 x = 3 ∧ Ev X 65 14 ls (vr (X.2.2.1 x 6) :: st) h Q) := R_gr rfl
theorem e_65_14 : Ev X 65 14 ls st h Q ↔ onI (gl ls 2) (fun z => Ev X 65 15 ls (vi z :: st) h Q) := R_il rfl (Or.inl rfl)
theorem e_65_15 {x : Nat} {j : Int} : Ev X 65 15 ls (vi j :: vr x :: st) h Q ↔ (((X.1 x = 13 ∨ X.1 x = 20) ∧ 0 ≤ j ∧ j < X.2.1 x) ∧ Ev X 65 16 ls (vi (h.1 x j.toNat) :: st) h Q) := R_ia rfl
theorem e_65_16 {x : Int} : Ev X 65 16 ls (vi x :: st) h Q ↔ (stOK ls 4 = true ∧ Ev X 65 17 (ls.set 4 (some (vi x))) st h Q) := R_is rfl (Or.inr rfl)
theorem e_65_17 : Ev X 65 17 ls st h Q ↔ onR (gl ls 1) (fun z => Ev X 65 18 ls (vr z :: st) h Q) := R_al rfl (Or.inl rfl)
theorem e_65_18 {x : Nat} : Ev X 65 18 ls (vr x :: st) h Q ↔ (X.1 x = 9 ∧ Ev X 65 19 ls (vr (X.2.2.1 x 4) :: st) h Q) := R_gr rfl
theorem e_65_19 {x : Nat} : Ev X 65 19 ls (vr x :: st) h Q ↔ (X.1 x = 3 ∧ Ev X 65 20 ls (vr (X.2.2.1 x 7) :: st) h Q) := R_gr rfl
theorem e_65_20 : Ev X 65 20 ls st h Q ↔ onI (gl ls 2) (fun z => Ev X 65 21 ls (vi z :: st) h Q) := R_il rfl (Or.inl rfl)
theorem e_65_21 {x : Nat} {j : Int} : Ev X 65 21 ls (vi j :: vr x :: st) h Q ↔ (((X.1 x = 13 ∨ X.1 x = 20) ∧ 0 ≤ j ∧ j < X.2.1 x) ∧ Ev X 65 22 ls (vi (h.1 x j.toNat) :: st) h Q) := R_ia rfl
theorem e_65_22 {x : Int} : Ev X 65 22 ls (vi x :: st) h Q ↔ (stOK ls 5 = true ∧ Ev X 65 23 (ls.set 5 (some (vi x))) st h Q) := R_is rfl (Or.inr rfl)
theorem e_65_23 : Ev X 65 23 ls st h Q ↔ Ev X 65 24 ls (vi 0 :: st) h Q := R_kc rfl (Or.inl ⟨Or.inl rfl, by decide⟩)
theorem e_65_24 {x : Int} : Ev X 65 24 ls (vi x :: st) h Q ↔ (stOK ls 6 = true ∧ Ev X 65 25 (ls.set 6 (some (vi x))) st h Q) := R_is rfl (Or.inr rfl)
theorem e_65_25 : Ev X 65 25 ls st h Q ↔ onI (gl ls 6) (fun z => Ev X 65 26 ls (vi z :: st) h Q) := R_il rfl (Or.inr rfl)
theorem e_65_26 : Ev X 65 26 ls st h Q ↔ onR (gl ls 1) (fun z => Ev X 65 27 ls (vr z :: st) h Q) := R_al rfl (Or.inl rfl)
theorem e_65_27 {x : Nat} : Ev X 65 27 ls (vr x :: st) h Q ↔ (X.1 x = 9 ∧ Ev X 65 28 ls (vi (h.2 x 0) :: st) h Q) := R_gi rfl
theorem e_65_28 {x y : Int} : Ev X 65 28 ls (vi y :: vi x :: st) h Q ↔ (if y ≤ x then Ev X 65 70 ls st h Q else Ev X 65 29 ls st h Q) := R_icge rfl
theorem e_65_29 : Ev X 65 29 ls st h Q ↔ Ev X 65 30 ls (vi 0 :: st) h Q := R_kc rfl (Or.inl ⟨Or.inl rfl, by decide⟩)
theorem e_65_30 {x : Int} : Ev X 65 30 ls (vi x :: st) h Q ↔ (stOK ls 7 = true ∧ Ev X 65 31 (ls.set 7 (some (vi x))) st h Q) := R_is rfl (Or.inr rfl)
theorem e_65_31 : Ev X 65 31 ls st h Q ↔ onI (gl ls 7) (fun z => Ev X 65 32 ls (vi z :: st) h Q) := R_il rfl (Or.inr rfl)
theorem e_65_32 : Ev X 65 32 ls st h Q ↔ onR (gl ls 1) (fun z => Ev X 65 33 ls (vr z :: st) h Q) := R_al rfl (Or.inl rfl)
theorem e_65_33 {x : Nat} : Ev X 65 33 ls (vr x :: st) h Q ↔ (X.1 x = 9 ∧ Ev X 65 34 ls (vi (h.2 x 1) :: st) h Q) := R_gi rfl
theorem e_65_34 : Ev X 65 34 ls st h Q ↔ onR (gl ls 1) (fun z => Ev X 65 35 ls (vr z :: st) h Q) := R_al rfl (Or.inl rfl)
theorem e_65_35 {x : Nat} : Ev X 65 35 ls (vr x :: st) h Q ↔ (X.1 x = 9 ∧ Ev X 65 36 ls (vr (X.2.2.1 x 4) :: st) h Q) := R_gr rfl
theorem e_65_36 {x : Nat} : Ev X 65 36 ls (vr x :: st) h Q ↔ (X.1 x = 3 ∧ Ev X 65 37 ls (vr (X.2.2.1 x 1) :: st) h Q) := R_gr rfl
theorem e_65_37 : Ev X 65 37 ls st h Q ↔ onI (gl ls 2) (fun z => Ev X 65 38 ls (vi z :: st) h Q) := R_il rfl (Or.inl rfl)
theorem e_65_38 {x : Nat} {j : Int} : Ev X 65 38 ls (vi j :: vr x :: st) h Q ↔ (((X.1 x = 13 ∨ X.1 x = 20) ∧ 0 ≤ j ∧ j < X.2.1 x) ∧ Ev X 65 39 ls (vi (h.1 x j.toNat) :: st) h Q) := R_ia rfl
theorem e_65_39 {x y : Int} : Ev X 65 39 ls (vi y :: vi x :: st) h Q ↔ ((inR (x - y)) ∧ Ev X 65 40 ls (vi (x - y) :: st) h Q) := R_sub rfl
theorem e_65_40 {x y : Int} : Ev X 65 40 ls (vi y :: vi x :: st) h Q ↔ (if y < x then Ev X 65 68 ls st h Q else Ev X 65 41 ls st h Q) := R_icgt rfl
theorem e_65_41 : Ev X 65 41 ls st h Q ↔ onR (gl ls 0) (fun z => Ev X 65 42 ls (vr z :: st) h Q) := R_al rfl (Or.inl rfl)
theorem e_65_42 {x : Nat} : Ev X 65 42 ls (vr x :: st) h Q ↔ (X.1 x = 8 ∧ Ev X 65 43 ls (vr (X.2.2.1 x 0) :: st) h Q) := R_gr rfl
theorem e_65_43 : Ev X 65 43 ls st h Q ↔ Ev X 65 44 ls (vi 16 :: st) h Q := R_kc rfl (Or.inr (Or.inl ⟨rfl, by decide⟩))
theorem e_65_44 : Ev X 65 44 ls st h Q ↔ onI (gl ls 7) (fun z => Ev X 65 45 ls (vi z :: st) h Q) := R_il rfl (Or.inr rfl)
theorem e_65_45 {x y : Int} : Ev X 65 45 ls (vi y :: vi x :: st) h Q ↔ ((inR (x * y)) ∧ Ev X 65 46 ls (vi (x * y) :: st) h Q) := R_mul rfl
theorem e_65_46 : Ev X 65 46 ls st h Q ↔ Ev X 65 47 ls (vi 16 :: st) h Q := R_kc rfl (Or.inr (Or.inl ⟨rfl, by decide⟩))
theorem e_65_47 : Ev X 65 47 ls st h Q ↔ onI (gl ls 6) (fun z => Ev X 65 48 ls (vi z :: st) h Q) := R_il rfl (Or.inr rfl)
theorem e_65_48 {x y : Int} : Ev X 65 48 ls (vi y :: vi x :: st) h Q ↔ ((inR (x * y)) ∧ Ev X 65 49 ls (vi (x * y) :: st) h Q) := R_mul rfl
theorem e_65_49 {rest : List xV} {a0 : Int} {a1 : Int} {o : Nat} : Ev X 65 49 ls ((vi a1) :: (vi a0) :: vr o :: rest) h Q ↔ ((X.1 o = 10 ∧ wd rest ≤ 8) ∧ Cl X 94 [vr o, vi a0, vi a1] h (fun r h2 => Ev X 65 50 ls (r.toList ++ rest) h2 Q)) := R_cv (x := o) (as := [vi a0, vi a1]) (k2 := 94) rfl rfl (Nat.le_of_ble_eq_true rfl)
theorem e_65_50 {x : Int} : Ev X 65 50 ls (vi x :: st) h Q ↔ (stOK ls 8 = true ∧ Ev X 65 51 (ls.set 8 (some (vi x))) st h Q) := R_is rfl (Or.inr rfl)
theorem e_65_51 : Ev X 65 51 ls st h Q ↔ onI (gl ls 8) (fun z => Ev X 65 52 ls (vi z :: st) h Q) := R_il rfl (Or.inr rfl)
theorem e_65_52 : Ev X 65 52 ls st h Q ↔ onI (gl ls 3) (fun z => Ev X 65 53 ls (vi z :: st) h Q) := R_il rfl (Or.inl rfl)
theorem e_65_53 {x y : Int} : Ev X 65 53 ls (vi y :: vi x :: st) h Q ↔ (if y ≤ x then Ev X 65 66 ls st h Q else Ev X 65 54 ls st h Q) := R_icge rfl
theorem e_65_54 : Ev X 65 54 ls st h Q ↔ onR (gl ls 1) (fun z => Ev X 65 55 ls (vr z :: st) h Q) := R_al rfl (Or.inl rfl)
theorem e_65_55 : Ev X 65 55 ls st h Q ↔ onI (gl ls 2) (fun z => Ev X 65 56 ls (vi z :: st) h Q) := R_il rfl (Or.inl rfl)
theorem e_65_56 : Ev X 65 56 ls st h Q ↔ onI (gl ls 6) (fun z => Ev X 65 57 ls (vi z :: st) h Q) := R_il rfl (Or.inr rfl)
theorem e_65_57 : Ev X 65 57 ls st h Q ↔ onI (gl ls 7) (fun z => Ev X 65 58 ls (vi z :: st) h Q) := R_il rfl (Or.inr rfl)
theorem e_65_58 {rest : List xV} {a0 : Int} {a1 : Int} {a2 : Int} {o : Nat} : Ev X 65 58 ls ((vi a2) :: (vi a1) :: (vi a0) :: vr o :: rest) h Q ↔ ((X.1 o = 9 ∧ wd rest ≤ 8) ∧ Cl X 83 [vr o, vi a0, vi a1, vi a2] h (fun r h2 => Ev X 65 59 ls (r.toList ++ rest) h2 Q)) := R_cv (x := o) (as := [vi a0, vi a1, vi a2]) (k2 := 83) rfl rfl (Nat.le_of_ble_eq_true rfl)
theorem e_65_59 {x : Int} : Ev X 65 59 ls (vi x :: st) h Q ↔ (if x = 0 then Ev X 65 66 ls st h Q else Ev X 65 60 ls st h Q) := R_ifeq rfl
theorem e_65_60 : Ev X 65 60 ls st h Q ↔ onI (gl ls 8) (fun z => Ev X 65 61 ls (vi z :: st) h Q) := R_il rfl (Or.inr rfl)
theorem e_65_61 {x : Int} : Ev X 65 61 ls (vi x :: st) h Q ↔ (stOK ls 3 = true ∧ Ev X 65 62 (ls.set 3 (some (vi x))) st h Q) := R_is rfl (Or.inl rfl)
theorem e_65_62 : Ev X 65 62 ls st h Q ↔ onI (gl ls 6) (fun z => Ev X 65 63 ls (vi z :: st) h Q) := R_il rfl (Or.inr rfl)
theorem e_65_63 {x : Int} : Ev X 65 63 ls (vi x :: st) h Q ↔ (stOK ls 4 = true ∧ Ev X 65 64 (ls.set 4 (some (vi x))) st h Q) := R_is rfl (Or.inr rfl)
theorem e_65_64 : Ev X 65 64 ls st h Q ↔ onI (gl ls 7) (fun z => Ev X 65 65 ls (vi z :: st) h Q) := R_il rfl (Or.inr rfl)
theorem e_65_65 {x : Int} : Ev X 65 65 ls (vi x :: st) h Q ↔ (stOK ls 5 = true ∧ Ev X 65 66 (ls.set 5 (some (vi x))) st h Q) := R_is rfl (Or.inr rfl)
theorem e_65_66 : Ev X 65 66 ls st h Q ↔ onI (gl ls 7) (fun x => (stOK ls 7 = true ∧ inR (x + 1)) ∧ Ev X 65 67 (ls.set 7 (some (vi (x + 1)))) st h Q) := R_inc rfl
theorem e_65_67 : Ev X 65 67 ls st h Q ↔ Ev X 65 31 ls st h Q := R_go rfl
theorem e_65_68 : Ev X 65 68 ls st h Q ↔ onI (gl ls 6) (fun x => (stOK ls 6 = true ∧ inR (x + 1)) ∧ Ev X 65 69 (ls.set 6 (some (vi (x + 1)))) st h Q) := R_inc rfl
theorem e_65_69 : Ev X 65 69 ls st h Q ↔ Ev X 65 25 ls st h Q := R_go rfl
theorem e_65_70 : Ev X 65 70 ls st h Q ↔ onR (gl ls 1) (fun z => Ev X 65 71 ls (vr z :: st) h Q) := R_al rfl (Or.inl rfl)
theorem e_65_71 {x : Nat} : Ev X 65 71 ls (vr x :: st) h Q ↔ (X.1 x = 9 ∧ Ev X 65 72 ls (vr (X.2.2.1 x 4) :: st) h Q) := R_gr rfl
theorem e_65_72 : Ev X 65 72 ls st h Q ↔ onI (gl ls 2) (fun z => Ev X 65 73 ls (vi z :: st) h Q) := R_il rfl (Or.inl rfl)
theorem e_65_73 : Ev X 65 73 ls st h Q ↔ onI (gl ls 4) (fun z => Ev X 65 74 ls (vi z :: st) h Q) := R_il rfl (Or.inr rfl)
theorem e_65_74 : Ev X 65 74 ls st h Q ↔ onI (gl ls 5) (fun z => Ev X 65 75 ls (vi z :: st) h Q) := R_il rfl (Or.inr rfl)
theorem e_65_75 {rest : List xV} {a0 : Int} {a1 : Int} {a2 : Int} {o : Nat} : Ev X 65 75 ls ((vi a2) :: (vi a1) :: (vi a0) :: vr o :: rest) h Q ↔ ((X.1 o = 3 ∧ wd rest ≤ 8) ∧ Cl X 20 [vr o, vi a0, vi a1, vi a2] h (fun r h2 => Ev X 65 76 ls (r.toList ++ rest) h2 Q)) := R_cv (x := o) (as := [vi a0, vi a1, vi a2]) (k2 := 20) rfl rfl (Nat.le_of_ble_eq_true rfl)
theorem e_65_76 : Ev X 65 76 ls [] h Q ↔ Q none h := R_vr rfl
-- 66: CellRows$Passes.sortAll(LCellRows$Plan;)V
theorem e_66_0 : Ev X 66 0 ls st h Q ↔ Ev X 66 1 ls (vi (-1) :: st) h Q := R_kc rfl (Or.inl ⟨Or.inl rfl, by decide⟩)
theorem e_66_1 {x : Int} : Ev X 66 1 ls (vi x :: st) h Q ↔ (stOK ls 2 = true ∧ Ev X 66 2 (ls.set 2 (some (vi x))) st h Q) := R_is rfl (Or.inl rfl)
theorem e_66_2 : Ev X 66 2 ls st h Q ↔ onI (gl ls 2) (fun z => Ev X 66 3 ls (vi z :: st) h Q) := R_il rfl (Or.inl rfl)
theorem e_66_3 : Ev X 66 3 ls st h Q ↔ onR (gl ls 1) (fun z => Ev X 66 4 ls (vr z :: st) h Q) := R_al rfl (Or.inl rfl)
theorem e_66_4 {x : Nat} : Ev X 66 4 ls (vr x :: st) h Q ↔ (X.1 x = 9 ∧ Ev X 66 5 ls (vr (X.2.2.1 x 3) :: st) h Q) := R_gr rfl
theorem e_66_5 {x : Nat} : Ev X 66 5 ls (vr x :: st) h Q ↔ (X.1 x = 2 ∧ Ev X 66 6 ls (vi (h.2 x 0) :: st) h Q) := R_gi rfl
theorem e_66_6 {x y : Int} : Ev X 66 6 ls (vi y :: vi x :: st) h Q ↔ (if y ≤ x then Ev X 66 29 ls st h Q else Ev X 66 7 ls st h Q) := R_icge rfl
theorem e_66_7 : Ev X 66 7 ls st h Q ↔ Ev X 66 8 ls (vi 1 :: st) h Q := R_kc rfl (Or.inl ⟨Or.inl rfl, by decide⟩)
theorem e_66_8 {x : Int} : Ev X 66 8 ls (vi x :: st) h Q ↔ (stOK ls 3 = true ∧ Ev X 66 9 (ls.set 3 (some (vi x))) st h Q) := R_is rfl (Or.inl rfl)
theorem e_66_9 : Ev X 66 9 ls st h Q ↔ onI (gl ls 3) (fun z => Ev X 66 10 ls (vi z :: st) h Q) := R_il rfl (Or.inl rfl)
theorem e_66_10 : Ev X 66 10 ls st h Q ↔ Ev X 66 11 ls (vi 6 :: st) h Q := R_kc rfl (Or.inr (Or.inl ⟨rfl, by decide⟩))
theorem e_66_11 {x y : Int} : Ev X 66 11 ls (vi y :: vi x :: st) h Q ↔ (if y < x then Ev X 66 27 ls st h Q else Ev X 66 12 ls st h Q) := R_icgt rfl
theorem e_66_12 : Ev X 66 12 ls st h Q ↔ onR (gl ls 0) (fun z => Ev X 66 13 ls (vr z :: st) h Q) := R_al rfl (Or.inl rfl)
theorem e_66_13 : Ev X 66 13 ls st h Q ↔ onR (gl ls 1) (fun z => Ev X 66 14 ls (vr z :: st) h Q) := R_al rfl (Or.inl rfl)
theorem e_66_14 : Ev X 66 14 ls st h Q ↔ onI (gl ls 2) (fun z => Ev X 66 15 ls (vi z :: st) h Q) := R_il rfl (Or.inl rfl)
theorem e_66_15 : Ev X 66 15 ls st h Q ↔ onI (gl ls 3) (fun z => Ev X 66 16 ls (vi z :: st) h Q) := R_il rfl (Or.inl rfl)
theorem e_66_16 {rest : List xV} {a0 : Nat} {a1 : Int} {a2 : Int} {o : Nat} : Ev X 66 16 ls ((vi a2) :: (vi a1) :: (vr a0) :: vr o :: rest) h Q ↔ ((X.1 o = 8 ∧ wd rest ≤ 8) ∧ Cl X 67 [vr o, vr a0, vi a1, vi a2] h (fun r h2 => Ev X 66 17 ls (r.toList ++ rest) h2 Q)) := R_cv (x := o) (as := [vr a0, vi a1, vi a2]) (k2 := 67) rfl rfl (Nat.le_of_ble_eq_true rfl)
theorem e_66_17 {x : Int} : Ev X 66 17 ls (vi x :: st) h Q ↔ (stOK ls 4 = true ∧ Ev X 66 18 (ls.set 4 (some (vi x))) st h Q) := R_is rfl (Or.inr rfl)
theorem e_66_18 : Ev X 66 18 ls st h Q ↔ onI (gl ls 4) (fun z => Ev X 66 19 ls (vi z :: st) h Q) := R_il rfl (Or.inr rfl)
theorem e_66_19 : Ev X 66 19 ls st h Q ↔ Ev X 66 20 ls (vi 1 :: st) h Q := R_kc rfl (Or.inl ⟨Or.inl rfl, by decide⟩)
theorem e_66_20 {x y : Int} : Ev X 66 20 ls (vi y :: vi x :: st) h Q ↔ (if x ≤ y then Ev X 66 25 ls st h Q else Ev X 66 21 ls st h Q) := R_icle rfl
theorem e_66_21 : Ev X 66 21 ls st h Q ↔ onR (gl ls 0) (fun z => Ev X 66 22 ls (vr z :: st) h Q) := R_al rfl (Or.inl rfl)
theorem e_66_22 : Ev X 66 22 ls st h Q ↔ onR (gl ls 1) (fun z => Ev X 66 23 ls (vr z :: st) h Q) := R_al rfl (Or.inl rfl)
theorem e_66_23 : Ev X 66 23 ls st h Q ↔ onI (gl ls 4) (fun z => Ev X 66 24 ls (vi z :: st) h Q) := R_il rfl (Or.inr rfl)
theorem e_66_24 {rest : List xV} {a0 : Nat} {a1 : Int} {o : Nat} : Ev X 66 24 ls ((vi a1) :: (vr a0) :: vr o :: rest) h Q ↔ ((X.1 o = 8 ∧ wd rest ≤ 8) ∧ Cl X 69 [vr o, vr a0, vi a1] h (fun r h2 => Ev X 66 25 ls (r.toList ++ rest) h2 Q)) := R_cv (x := o) (as := [vr a0, vi a1]) (k2 := 69) rfl rfl (Nat.le_of_ble_eq_true rfl)
theorem e_66_25 : Ev X 66 25 ls st h Q ↔ onI (gl ls 3) (fun x => (stOK ls 3 = true ∧ inR (x + 1)) ∧ Ev X 66 26 (ls.set 3 (some (vi (x + 1)))) st h Q) := R_inc rfl
theorem e_66_26 : Ev X 66 26 ls st h Q ↔ Ev X 66 9 ls st h Q := R_go rfl
theorem e_66_27 : Ev X 66 27 ls st h Q ↔ onI (gl ls 2) (fun x => (stOK ls 2 = true ∧ inR (x + 1)) ∧ Ev X 66 28 (ls.set 2 (some (vi (x + 1)))) st h Q) := R_inc rfl
theorem e_66_28 : Ev X 66 28 ls st h Q ↔ Ev X 66 2 ls st h Q := R_go rfl
theorem e_66_29 : Ev X 66 29 ls [] h Q ↔ Q none h := R_vr rfl
-- 67: CellRows$Passes.findGroup(LCellRows$Plan;II)I
theorem e_67_0 : Ev X 67 0 ls st h Q ↔ onR (gl ls 1) (fun z => Ev X 67 1 ls (vr z :: st) h Q) := R_al rfl (Or.inl rfl)
theorem e_67_1 {x : Nat} : Ev X 67 1 ls (vr x :: st) h Q ↔ (X.1 x = 9 ∧ Ev X 67 2 ls (vr (X.2.2.1 x 4) :: st) h Q) := R_gr rfl
theorem e_67_2 {x : Nat} : Ev X 67 2 ls (vr x :: st) h Q ↔ (stOK ls 4 = true ∧ Ev X 67 3 (ls.set 4 (some (vr x))) st h Q) := R_as rfl (Or.inr rfl)
theorem e_67_3 : Ev X 67 3 ls st h Q ↔ Ev X 67 4 ls (vi 0 :: st) h Q := R_kc rfl (Or.inl ⟨Or.inl rfl, by decide⟩)
theorem e_67_4 {x : Int} : Ev X 67 4 ls (vi x :: st) h Q ↔ (stOK ls 5 = true ∧ Ev X 67 5 (ls.set 5 (some (vi x))) st h Q) := R_is rfl (Or.inr rfl)
theorem e_67_5 : Ev X 67 5 ls st h Q ↔ Ev X 67 6 ls (vi 0 :: st) h Q := R_kc rfl (Or.inl ⟨Or.inl rfl, by decide⟩)
theorem e_67_6 {x : Int} : Ev X 67 6 ls (vi x :: st) h Q ↔ (stOK ls 6 = true ∧ Ev X 67 7 (ls.set 6 (some (vi x))) st h Q) := R_is rfl (Or.inr rfl)
theorem e_67_7 : Ev X 67 7 ls st h Q ↔ onI (gl ls 6) (fun z => Ev X 67 8 ls (vi z :: st) h Q) := R_il rfl (Or.inr rfl)
theorem e_67_8 : Ev X 67 8 ls st h Q ↔ onR (gl ls 4) (fun z => Ev X 67 9 ls (vr z :: st) h Q) := R_al rfl (Or.inr rfl)
theorem e_67_9 {x : Nat} : Ev X 67 9 ls (vr x :: st) h Q ↔ (X.1 x = 3 ∧ Ev X 67 10 ls (vi (h.2 x 0) :: st) h Q) := R_gi rfl
theorem e_67_10 {x y : Int} : Ev X 67 10 ls (vi y :: vi x :: st) h Q ↔ (if y ≤ x then Ev X 67 45 ls st h Q else Ev X 67 11 ls st h Q) := R_icge rfl
theorem e_67_11 : Ev X 67 11 ls st h Q ↔ onI (gl ls 5) (fun z => Ev X 67 12 ls (vi z :: st) h Q) := R_il rfl (Or.inr rfl)
theorem e_67_12 : Ev X 67 12 ls st h Q ↔ Ev X 67 13 ls (vi 5 :: st) h Q := R_kc rfl (Or.inl ⟨Or.inl rfl, by decide⟩)
theorem e_67_13 {x y : Int} : Ev X 67 13 ls (vi y :: vi x :: st) h Q ↔ (if y ≤ x then Ev X 67 45 ls st h Q else Ev X 67 14 ls st h Q) := R_icge rfl
theorem e_67_14 : Ev X 67 14 ls st h Q ↔ onR (gl ls 4) (fun z => Ev X 67 15 ls (vr z :: st) h Q) := R_al rfl (Or.inr rfl)
theorem e_67_15 : Ev X 67 15 ls st h Q ↔ onI (gl ls 6) (fun z => Ev X 67 16 ls (vi z :: st) h Q) := R_il rfl (Or.inr rfl)
theorem e_67_16 {rest : List xV} {a0 : Int} {o : Nat} : Ev X 67 16 ls ((vi a0) :: vr o :: rest) h Q ↔ ((X.1 o = 3 ∧ wd rest ≤ 8) ∧ Cl X 23 [vr o, vi a0] h (fun r h2 => Ev X 67 17 ls (r.toList ++ rest) h2 Q)) := R_cv (x := o) (as := [vi a0]) (k2 := 23) rfl rfl (Nat.le_of_ble_eq_true rfl)
theorem e_67_17 {x : Int} : Ev X 67 17 ls (vi x :: st) h Q ↔ (if x = 0 then Ev X 67 43 ls st h Q else Ev X 67 18 ls st h Q) := R_ifeq rfl
theorem e_67_18 : Ev X 67 18 ls st h Q ↔ onR (gl ls 4) (fun z => Ev X 67 19 ls (vr z :: st) h Q) := R_al rfl (Or.inr rfl)
theorem e_67_19 {x : Nat} : Ev X 67 19 ls (vr x :: st) h Q ↔ (X.1 x = 3 ∧ Ev X 67 20 ls (vr (X.2.2.1 x 2) :: st) h Q) := R_gr rfl
theorem e_67_20 : Ev X 67 20 ls st h Q ↔ onI (gl ls 6) (fun z => Ev X 67 21 ls (vi z :: st) h Q) := R_il rfl (Or.inr rfl)
theorem e_67_21 {x : Nat} {j : Int} : Ev X 67 21 ls (vi j :: vr x :: st) h Q ↔ (((X.1 x = 13 ∨ X.1 x = 20) ∧ 0 ≤ j ∧ j < X.2.1 x) ∧ Ev X 67 22 ls (vi (h.1 x j.toNat) :: st) h Q) := R_ia rfl
theorem e_67_22 : Ev X 67 22 ls st h Q ↔ onI (gl ls 2) (fun z => Ev X 67 23 ls (vi z :: st) h Q) := R_il rfl (Or.inl rfl)
theorem e_67_23 {x y : Int} : Ev X 67 23 ls (vi y :: vi x :: st) h Q ↔ (if ¬ x = y then Ev X 67 43 ls st h Q else Ev X 67 24 ls st h Q) := R_icne rfl
theorem e_67_24 : Ev X 67 24 ls st h Q ↔ onR (gl ls 4) (fun z => Ev X 67 25 ls (vr z :: st) h Q) := R_al rfl (Or.inr rfl)
theorem e_67_25 {x : Nat} : Ev X 67 25 ls (vr x :: st) h Q ↔ (X.1 x = 3 ∧ Ev X 67 26 ls (vr (X.2.2.1 x 1) :: st) h Q) := R_gr rfl
theorem e_67_26 : Ev X 67 26 ls st h Q ↔ onI (gl ls 6) (fun z => Ev X 67 27 ls (vi z :: st) h Q) := R_il rfl (Or.inr rfl)
theorem e_67_27 {x : Nat} {j : Int} : Ev X 67 27 ls (vi j :: vr x :: st) h Q ↔ (((X.1 x = 13 ∨ X.1 x = 20) ∧ 0 ≤ j ∧ j < X.2.1 x) ∧ Ev X 67 28 ls (vi (h.1 x j.toNat) :: st) h Q) := R_ia rfl
theorem e_67_28 : Ev X 67 28 ls st h Q ↔ onI (gl ls 3) (fun z => Ev X 67 29 ls (vi z :: st) h Q) := R_il rfl (Or.inl rfl)
theorem e_67_29 {x y : Int} : Ev X 67 29 ls (vi y :: vi x :: st) h Q ↔ (if ¬ x = y then Ev X 67 43 ls st h Q else Ev X 67 30 ls st h Q) := R_icne rfl
theorem e_67_30 : Ev X 67 30 ls st h Q ↔ onR (gl ls 0) (fun z => Ev X 67 31 ls (vr z :: st) h Q) := R_al rfl (Or.inl rfl)
theorem e_67_31 : Ev X 67 31 ls st h Q ↔ onR (gl ls 1) (fun z => Ev X 67 32 ls (vr z :: st) h Q) := R_al rfl (Or.inl rfl)
theorem e_67_32 {x : Nat} : Ev X 67 32 ls (vr x :: st) h Q ↔ (X.1 x = 9 ∧ Ev X 67 33 ls (vr (X.2.2.1 x 5) :: st) h Q) := R_gr rfl
theorem e_67_33 : Ev X 67 33 ls st h Q ↔ onI (gl ls 6) (fun z => Ev X 67 34 ls (vi z :: st) h Q) := R_il rfl (Or.inr rfl)
theorem e_67_34 : Ev X 67 34 ls st h Q ↔ onI (gl ls 5) (fun z => Ev X 67 35 ls (vi z :: st) h Q) := R_il rfl (Or.inr rfl)
theorem e_67_35 {rest : List xV} {a0 : Nat} {a1 : Int} {a2 : Int} {o : Nat} : Ev X 67 35 ls ((vi a2) :: (vi a1) :: (vr a0) :: vr o :: rest) h Q ↔ ((X.1 o = 8 ∧ wd rest ≤ 8) ∧ Cl X 68 [vr o, vr a0, vi a1, vi a2] h (fun r h2 => Ev X 67 36 ls (r.toList ++ rest) h2 Q)) := R_cv (x := o) (as := [vr a0, vi a1, vi a2]) (k2 := 68) rfl rfl (Nat.le_of_ble_eq_true rfl)
theorem e_67_36 {x : Int} : Ev X 67 36 ls (vi x :: st) h Q ↔ (if ¬ x = 0 then Ev X 67 43 ls st h Q else Ev X 67 37 ls st h Q) := R_ifne rfl
theorem e_67_37 : Ev X 67 37 ls st h Q ↔ onR (gl ls 0) (fun z => Ev X 67 38 ls (vr z :: st) h Q) := R_al rfl (Or.inl rfl)
theorem e_67_38 {x : Nat} : Ev X 67 38 ls (vr x :: st) h Q ↔ (X.1 x = 8 ∧ Ev X 67 39 ls (vr (X.2.2.1 x 4) :: st) h Q) := R_gr rfl
theorem e_67_39 : Ev X 67 39 ls st h Q ↔ onI (gl ls 5) (fun z => Ev X 67 40 ls (vi z :: st) h Q) := R_il rfl (Or.inr rfl)
theorem e_67_40 : Ev X 67 40 ls st h Q ↔ onI (gl ls 6) (fun z => Ev X 67 41 ls (vi z :: st) h Q) := R_il rfl (Or.inr rfl)
theorem e_67_41 {x : Nat} {j v : Int} : Ev X 67 41 ls (vi v :: vi j :: vr x :: st) h Q ↔ ((X.1 x = 13 ∧ 0 ≤ j ∧ j < X.2.1 x) ∧ Ev X 67 42 ls st (up2 h.1 x j.toNat v, h.2) Q) := R_ias rfl
theorem e_67_42 : Ev X 67 42 ls st h Q ↔ onI (gl ls 5) (fun x => (stOK ls 5 = true ∧ inR (x + 1)) ∧ Ev X 67 43 (ls.set 5 (some (vi (x + 1)))) st h Q) := R_inc rfl
theorem e_67_43 : Ev X 67 43 ls st h Q ↔ onI (gl ls 6) (fun x => (stOK ls 6 = true ∧ inR (x + 1)) ∧ Ev X 67 44 (ls.set 6 (some (vi (x + 1)))) st h Q) := R_inc rfl
theorem e_67_44 : Ev X 67 44 ls st h Q ↔ Ev X 67 7 ls st h Q := R_go rfl
theorem e_67_45 : Ev X 67 45 ls st h Q ↔ onI (gl ls 5) (fun z => Ev X 67 46 ls (vi z :: st) h Q) := R_il rfl (Or.inr rfl)
theorem e_67_46 {z : Int} : Ev X 67 46 ls [vi z] h Q ↔ Q (some (vi z)) h := R_ir rfl
-- 68: CellRows$Passes.sharesNet(LCellRows$Nets;II)Z
theorem e_68_0 : Ev X 68 0 ls st h Q ↔ Ev X 68 1 ls (vi 0 :: st) h Q := R_kc rfl (Or.inl ⟨Or.inl rfl, by decide⟩)
theorem e_68_1 {x : Int} : Ev X 68 1 ls (vi x :: st) h Q ↔ (stOK ls 4 = true ∧ Ev X 68 2 (ls.set 4 (some (vi x))) st h Q) := R_is rfl (Or.inr rfl)
theorem e_68_2 : Ev X 68 2 ls st h Q ↔ onI (gl ls 4) (fun z => Ev X 68 3 ls (vi z :: st) h Q) := R_il rfl (Or.inr rfl)
theorem e_68_3 : Ev X 68 3 ls st h Q ↔ onI (gl ls 3) (fun z => Ev X 68 4 ls (vi z :: st) h Q) := R_il rfl (Or.inl rfl)
theorem e_68_4 {x y : Int} : Ev X 68 4 ls (vi y :: vi x :: st) h Q ↔ (if y ≤ x then Ev X 68 17 ls st h Q else Ev X 68 5 ls st h Q) := R_icge rfl
theorem e_68_5 : Ev X 68 5 ls st h Q ↔ onR (gl ls 1) (fun z => Ev X 68 6 ls (vr z :: st) h Q) := R_al rfl (Or.inl rfl)
theorem e_68_6 : Ev X 68 6 ls st h Q ↔ onI (gl ls 2) (fun z => Ev X 68 7 ls (vi z :: st) h Q) := R_il rfl (Or.inl rfl)
theorem e_68_7 : Ev X 68 7 ls st h Q ↔ onR (gl ls 0) (fun z => Ev X 68 8 ls (vr z :: st) h Q) := R_al rfl (Or.inl rfl)
theorem e_68_8 {x : Nat} : Ev X 68 8 ls (vr x :: st) h Q ↔ (X.1 x = 8 ∧ Ev X 68 9 ls (vr (X.2.2.1 x 4) :: st) h Q) := R_gr rfl
theorem e_68_9 : Ev X 68 9 ls st h Q ↔ onI (gl ls 4) (fun z => Ev X 68 10 ls (vi z :: st) h Q) := R_il rfl (Or.inr rfl)
theorem e_68_10 {x : Nat} {j : Int} : Ev X 68 10 ls (vi j :: vr x :: st) h Q ↔ (((X.1 x = 13 ∨ X.1 x = 20) ∧ 0 ≤ j ∧ j < X.2.1 x) ∧ Ev X 68 11 ls (vi (h.1 x j.toNat) :: st) h Q) := R_ia rfl
theorem e_68_11 {rest : List xV} {a0 : Int} {a1 : Int} {o : Nat} : Ev X 68 11 ls ((vi a1) :: (vi a0) :: vr o :: rest) h Q ↔ ((X.1 o = 6 ∧ wd rest ≤ 8) ∧ Cl X 47 [vr o, vi a0, vi a1] h (fun r h2 => Ev X 68 12 ls (r.toList ++ rest) h2 Q)) := R_cv (x := o) (as := [vi a0, vi a1]) (k2 := 47) rfl rfl (Nat.le_of_ble_eq_true rfl)
theorem e_68_12 {x : Int} : Ev X 68 12 ls (vi x :: st) h Q ↔ (if x = 0 then Ev X 68 15 ls st h Q else Ev X 68 13 ls st h Q) := R_ifeq rfl
theorem e_68_13 : Ev X 68 13 ls st h Q ↔ Ev X 68 14 ls (vi 1 :: st) h Q := R_kc rfl (Or.inl ⟨Or.inl rfl, by decide⟩)
theorem e_68_14 {z : Int} : Ev X 68 14 ls [vi z] h Q ↔ ((z = 0 ∨ z = 1) ∧ Q (some (vi z)) h) := R_zr rfl
theorem e_68_15 : Ev X 68 15 ls st h Q ↔ onI (gl ls 4) (fun x => (stOK ls 4 = true ∧ inR (x + 1)) ∧ Ev X 68 16 (ls.set 4 (some (vi (x + 1)))) st h Q) := R_inc rfl
theorem e_68_16 : Ev X 68 16 ls st h Q ↔ Ev X 68 2 ls st h Q := R_go rfl
theorem e_68_17 : Ev X 68 17 ls st h Q ↔ Ev X 68 18 ls (vi 0 :: st) h Q := R_kc rfl (Or.inl ⟨Or.inl rfl, by decide⟩)
theorem e_68_18 {z : Int} : Ev X 68 18 ls [vi z] h Q ↔ ((z = 0 ∨ z = 1) ∧ Q (some (vi z)) h) := R_zr rfl
-- 69: CellRows$Passes.sortGroup(LCellRows$Plan;I)V
theorem e_69_0 : Ev X 69 0 ls st h Q ↔ onR (gl ls 1) (fun z => Ev X 69 1 ls (vr z :: st) h Q) := R_al rfl (Or.inl rfl)
theorem e_69_1 {x : Nat} : Ev X 69 1 ls (vr x :: st) h Q ↔ (X.1 x = 9 ∧ Ev X 69 2 ls (vr (X.2.2.1 x 4) :: st) h Q) := R_gr rfl
theorem e_69_2 {x : Nat} : Ev X 69 2 ls (vr x :: st) h Q ↔ (stOK ls 3 = true ∧ Ev X 69 3 (ls.set 3 (some (vr x))) st h Q) := R_as rfl (Or.inl rfl)
theorem e_69_3 : Ev X 69 3 ls st h Q ↔ Ev X 69 4 ls (vi 0 :: st) h Q := R_kc rfl (Or.inl ⟨Or.inl rfl, by decide⟩)
theorem e_69_4 {x : Int} : Ev X 69 4 ls (vi x :: st) h Q ↔ (stOK ls 4 = true ∧ Ev X 69 5 (ls.set 4 (some (vi x))) st h Q) := R_is rfl (Or.inr rfl)
theorem e_69_5 : Ev X 69 5 ls st h Q ↔ onI (gl ls 4) (fun z => Ev X 69 6 ls (vi z :: st) h Q) := R_il rfl (Or.inr rfl)
theorem e_69_6 : Ev X 69 6 ls st h Q ↔ onI (gl ls 2) (fun z => Ev X 69 7 ls (vi z :: st) h Q) := R_il rfl (Or.inl rfl)
theorem e_69_7 {x y : Int} : Ev X 69 7 ls (vi y :: vi x :: st) h Q ↔ (if y ≤ x then Ev X 69 32 ls st h Q else Ev X 69 8 ls st h Q) := R_icge rfl
theorem e_69_8 : Ev X 69 8 ls st h Q ↔ onR (gl ls 0) (fun z => Ev X 69 9 ls (vr z :: st) h Q) := R_al rfl (Or.inl rfl)
theorem e_69_9 {x : Nat} : Ev X 69 9 ls (vr x :: st) h Q ↔ (X.1 x = 8 ∧ Ev X 69 10 ls (vr (X.2.2.1 x 6) :: st) h Q) := R_gr rfl
theorem e_69_10 : Ev X 69 10 ls st h Q ↔ onI (gl ls 4) (fun z => Ev X 69 11 ls (vi z :: st) h Q) := R_il rfl (Or.inr rfl)
theorem e_69_11 : Ev X 69 11 ls st h Q ↔ onR (gl ls 3) (fun z => Ev X 69 12 ls (vr z :: st) h Q) := R_al rfl (Or.inl rfl)
theorem e_69_12 {x : Nat} : Ev X 69 12 ls (vr x :: st) h Q ↔ (X.1 x = 3 ∧ Ev X 69 13 ls (vr (X.2.2.1 x 6) :: st) h Q) := R_gr rfl
theorem e_69_13 : Ev X 69 13 ls st h Q ↔ onR (gl ls 0) (fun z => Ev X 69 14 ls (vr z :: st) h Q) := R_al rfl (Or.inl rfl)
theorem e_69_14 {x : Nat} : Ev X 69 14 ls (vr x :: st) h Q ↔ (X.1 x = 8 ∧ Ev X 69 15 ls (vr (X.2.2.1 x 4) :: st) h Q) := R_gr rfl
theorem e_69_15 : Ev X 69 15 ls st h Q ↔ onI (gl ls 4) (fun z => Ev X 69 16 ls (vi z :: st) h Q) := R_il rfl (Or.inr rfl)
theorem e_69_16 {x : Nat} {j : Int} : Ev X 69 16 ls (vi j :: vr x :: st) h Q ↔ (((X.1 x = 13 ∨ X.1 x = 20) ∧ 0 ≤ j ∧ j < X.2.1 x) ∧ Ev X 69 17 ls (vi (h.1 x j.toNat) :: st) h Q) := R_ia rfl
theorem e_69_17 {x : Nat} {j : Int} : Ev X 69 17 ls (vi j :: vr x :: st) h Q ↔ (((X.1 x = 13 ∨ X.1 x = 20) ∧ 0 ≤ j ∧ j < X.2.1 x) ∧ Ev X 69 18 ls (vi (h.1 x j.toNat) :: st) h Q) := R_ia rfl
theorem e_69_18 {x : Nat} {j v : Int} : Ev X 69 18 ls (vi v :: vi j :: vr x :: st) h Q ↔ ((X.1 x = 13 ∧ 0 ≤ j ∧ j < X.2.1 x) ∧ Ev X 69 19 ls st (up2 h.1 x j.toNat v, h.2) Q) := R_ias rfl
theorem e_69_19 : Ev X 69 19 ls st h Q ↔ onR (gl ls 0) (fun z => Ev X 69 20 ls (vr z :: st) h Q) := R_al rfl (Or.inl rfl)
theorem e_69_20 {x : Nat} : Ev X 69 20 ls (vr x :: st) h Q ↔ (X.1 x = 8 ∧ Ev X 69 21 ls (vr (X.2.2.1 x 7) :: st) h Q) := R_gr rfl
theorem e_69_21 : Ev X 69 21 ls st h Q ↔ onI (gl ls 4) (fun z => Ev X 69 22 ls (vi z :: st) h Q) := R_il rfl (Or.inr rfl)
theorem e_69_22 : Ev X 69 22 ls st h Q ↔ onR (gl ls 3) (fun z => Ev X 69 23 ls (vr z :: st) h Q) := R_al rfl (Or.inl rfl)
theorem e_69_23 {x : Nat} : Ev X 69 23 ls (vr x :: st) h Q ↔ (X.1 x = 3 ∧ Ev X 69 24 ls (vr (X.2.2.1 x 7) :: st) h Q) := R_gr rfl
theorem e_69_24 : Ev X 69 24 ls st h Q ↔ onR (gl ls 0) (fun z => Ev X 69 25 ls (vr z :: st) h Q) := R_al rfl (Or.inl rfl)
theorem e_69_25 {x : Nat} : Ev X 69 25 ls (vr x :: st) h Q ↔ (X.1 x = 8 ∧ Ev X 69 26 ls (vr (X.2.2.1 x 4) :: st) h Q) := R_gr rfl
theorem e_69_26 : Ev X 69 26 ls st h Q ↔ onI (gl ls 4) (fun z => Ev X 69 27 ls (vi z :: st) h Q) := R_il rfl (Or.inr rfl)
theorem e_69_27 {x : Nat} {j : Int} : Ev X 69 27 ls (vi j :: vr x :: st) h Q ↔ (((X.1 x = 13 ∨ X.1 x = 20) ∧ 0 ≤ j ∧ j < X.2.1 x) ∧ Ev X 69 28 ls (vi (h.1 x j.toNat) :: st) h Q) := R_ia rfl
theorem e_69_28 {x : Nat} {j : Int} : Ev X 69 28 ls (vi j :: vr x :: st) h Q ↔ (((X.1 x = 13 ∨ X.1 x = 20) ∧ 0 ≤ j ∧ j < X.2.1 x) ∧ Ev X 69 29 ls (vi (h.1 x j.toNat) :: st) h Q) := R_ia rfl
theorem e_69_29 {x : Nat} {j v : Int} : Ev X 69 29 ls (vi v :: vi j :: vr x :: st) h Q ↔ ((X.1 x = 13 ∧ 0 ≤ j ∧ j < X.2.1 x) ∧ Ev X 69 30 ls st (up2 h.1 x j.toNat v, h.2) Q) := R_ias rfl
theorem e_69_30 : Ev X 69 30 ls st h Q ↔ onI (gl ls 4) (fun x => (stOK ls 4 = true ∧ inR (x + 1)) ∧ Ev X 69 31 (ls.set 4 (some (vi (x + 1)))) st h Q) := R_inc rfl
theorem e_69_31 : Ev X 69 31 ls st h Q ↔ Ev X 69 5 ls st h Q := R_go rfl
theorem e_69_32 : Ev X 69 32 ls st h Q ↔ Ev X 69 33 ls (vi 0 :: st) h Q := R_kc rfl (Or.inl ⟨Or.inl rfl, by decide⟩)
theorem e_69_33 {x : Int} : Ev X 69 33 ls (vi x :: st) h Q ↔ (stOK ls 4 = true ∧ Ev X 69 34 (ls.set 4 (some (vi x))) st h Q) := R_is rfl (Or.inr rfl)
theorem e_69_34 : Ev X 69 34 ls st h Q ↔ onI (gl ls 4) (fun z => Ev X 69 35 ls (vi z :: st) h Q) := R_il rfl (Or.inr rfl)
theorem e_69_35 : Ev X 69 35 ls st h Q ↔ onI (gl ls 2) (fun z => Ev X 69 36 ls (vi z :: st) h Q) := R_il rfl (Or.inl rfl)
theorem e_69_36 {x y : Int} : Ev X 69 36 ls (vi y :: vi x :: st) h Q ↔ (if y ≤ x then Ev X 69 77 ls st h Q else Ev X 69 37 ls st h Q) := R_icge rfl
theorem e_69_37 : Ev X 69 37 ls st h Q ↔ onR (gl ls 0) (fun z => Ev X 69 38 ls (vr z :: st) h Q) := R_al rfl (Or.inl rfl)
theorem e_69_38 {x : Nat} : Ev X 69 38 ls (vr x :: st) h Q ↔ (X.1 x = 8 ∧ Ev X 69 39 ls (vr (X.2.2.1 x 0) :: st) h Q) := R_gr rfl
theorem e_69_39 : Ev X 69 39 ls st h Q ↔ onR (gl ls 1) (fun z => Ev X 69 40 ls (vr z :: st) h Q) := R_al rfl (Or.inl rfl)
theorem e_69_40 : Ev X 69 40 ls st h Q ↔ onR (gl ls 0) (fun z => Ev X 69 41 ls (vr z :: st) h Q) := R_al rfl (Or.inl rfl)
theorem e_69_41 {x : Nat} : Ev X 69 41 ls (vr x :: st) h Q ↔ (X.1 x = 8 ∧ Ev X 69 42 ls (vr (X.2.2.1 x 4) :: st) h Q) := R_gr rfl
theorem e_69_42 : Ev X 69 42 ls st h Q ↔ onI (gl ls 4) (fun z => Ev X 69 43 ls (vi z :: st) h Q) := R_il rfl (Or.inr rfl)
theorem e_69_43 {x : Nat} {j : Int} : Ev X 69 43 ls (vi j :: vr x :: st) h Q ↔ (((X.1 x = 13 ∨ X.1 x = 20) ∧ 0 ≤ j ∧ j < X.2.1 x) ∧ Ev X 69 44 ls (vi (h.1 x j.toNat) :: st) h Q) := R_ia rfl
theorem e_69_44 {rest : List xV} {a0 : Nat} {a1 : Int} {o : Nat} : Ev X 69 44 ls ((vi a1) :: (vr a0) :: vr o :: rest) h Q ↔ ((X.1 o = 10 ∧ wd rest ≤ 8) ∧ Cl X 93 [vr o, vr a0, vi a1] h (fun r h2 => Ev X 69 45 ls (r.toList ++ rest) h2 Q)) := R_cv (x := o) (as := [vr a0, vi a1]) (k2 := 93) rfl rfl (Nat.le_of_ble_eq_true rfl)
theorem e_69_45 : Ev X 69 45 ls st h Q ↔ Ev X 69 46 ls (vi 0 :: st) h Q := R_kc rfl (Or.inl ⟨Or.inl rfl, by decide⟩)
theorem e_69_46 {x : Int} : Ev X 69 46 ls (vi x :: st) h Q ↔ (stOK ls 5 = true ∧ Ev X 69 47 (ls.set 5 (some (vi x))) st h Q) := R_is rfl (Or.inr rfl)
theorem e_69_47 : Ev X 69 47 ls st h Q ↔ onI (gl ls 5) (fun z => Ev X 69 48 ls (vi z :: st) h Q) := R_il rfl (Or.inr rfl)
theorem e_69_48 : Ev X 69 48 ls st h Q ↔ onI (gl ls 2) (fun z => Ev X 69 49 ls (vi z :: st) h Q) := R_il rfl (Or.inl rfl)
theorem e_69_49 {x y : Int} : Ev X 69 49 ls (vi y :: vi x :: st) h Q ↔ (if y ≤ x then Ev X 69 75 ls st h Q else Ev X 69 50 ls st h Q) := R_icge rfl
theorem e_69_50 : Ev X 69 50 ls st h Q ↔ onR (gl ls 0) (fun z => Ev X 69 51 ls (vr z :: st) h Q) := R_al rfl (Or.inl rfl)
theorem e_69_51 {x : Nat} : Ev X 69 51 ls (vr x :: st) h Q ↔ (X.1 x = 8 ∧ Ev X 69 52 ls (vr (X.2.2.1 x 8) :: st) h Q) := R_gr rfl
theorem e_69_52 : Ev X 69 52 ls st h Q ↔ onI (gl ls 4) (fun z => Ev X 69 53 ls (vi z :: st) h Q) := R_il rfl (Or.inr rfl)
theorem e_69_53 : Ev X 69 53 ls st h Q ↔ Ev X 69 54 ls (vi 5 :: st) h Q := R_kc rfl (Or.inl ⟨Or.inl rfl, by decide⟩)
theorem e_69_54 {x y : Int} : Ev X 69 54 ls (vi y :: vi x :: st) h Q ↔ ((inR (x * y)) ∧ Ev X 69 55 ls (vi (x * y) :: st) h Q) := R_mul rfl
theorem e_69_55 : Ev X 69 55 ls st h Q ↔ onI (gl ls 5) (fun z => Ev X 69 56 ls (vi z :: st) h Q) := R_il rfl (Or.inr rfl)
theorem e_69_56 {x y : Int} : Ev X 69 56 ls (vi y :: vi x :: st) h Q ↔ ((inR (x + y)) ∧ Ev X 69 57 ls (vi (x + y) :: st) h Q) := R_add rfl
theorem e_69_57 : Ev X 69 57 ls st h Q ↔ onR (gl ls 0) (fun z => Ev X 69 58 ls (vr z :: st) h Q) := R_al rfl (Or.inl rfl)
theorem e_69_58 {x : Nat} : Ev X 69 58 ls (vr x :: st) h Q ↔ (X.1 x = 8 ∧ Ev X 69 59 ls (vr (X.2.2.1 x 0) :: st) h Q) := R_gr rfl
theorem e_69_59 : Ev X 69 59 ls st h Q ↔ Ev X 69 60 ls (vi 16 :: st) h Q := R_kc rfl (Or.inr (Or.inl ⟨rfl, by decide⟩))
theorem e_69_60 : Ev X 69 60 ls st h Q ↔ onR (gl ls 0) (fun z => Ev X 69 61 ls (vr z :: st) h Q) := R_al rfl (Or.inl rfl)
theorem e_69_61 {x : Nat} : Ev X 69 61 ls (vr x :: st) h Q ↔ (X.1 x = 8 ∧ Ev X 69 62 ls (vr (X.2.2.1 x 7) :: st) h Q) := R_gr rfl
theorem e_69_62 : Ev X 69 62 ls st h Q ↔ onI (gl ls 5) (fun z => Ev X 69 63 ls (vi z :: st) h Q) := R_il rfl (Or.inr rfl)
theorem e_69_63 {x : Nat} {j : Int} : Ev X 69 63 ls (vi j :: vr x :: st) h Q ↔ (((X.1 x = 13 ∨ X.1 x = 20) ∧ 0 ≤ j ∧ j < X.2.1 x) ∧ Ev X 69 64 ls (vi (h.1 x j.toNat) :: st) h Q) := R_ia rfl
theorem e_69_64 {x y : Int} : Ev X 69 64 ls (vi y :: vi x :: st) h Q ↔ ((inR (x * y)) ∧ Ev X 69 65 ls (vi (x * y) :: st) h Q) := R_mul rfl
theorem e_69_65 : Ev X 69 65 ls st h Q ↔ Ev X 69 66 ls (vi 16 :: st) h Q := R_kc rfl (Or.inr (Or.inl ⟨rfl, by decide⟩))
theorem e_69_66 : Ev X 69 66 ls st h Q ↔ onR (gl ls 0) (fun z => Ev X 69 67 ls (vr z :: st) h Q) := R_al rfl (Or.inl rfl)
theorem e_69_67 {x : Nat} : Ev X 69 67 ls (vr x :: st) h Q ↔ (X.1 x = 8 ∧ Ev X 69 68 ls (vr (X.2.2.1 x 6) :: st) h Q) := R_gr rfl
theorem e_69_68 : Ev X 69 68 ls st h Q ↔ onI (gl ls 5) (fun z => Ev X 69 69 ls (vi z :: st) h Q) := R_il rfl (Or.inr rfl)
theorem e_69_69 {x : Nat} {j : Int} : Ev X 69 69 ls (vi j :: vr x :: st) h Q ↔ (((X.1 x = 13 ∨ X.1 x = 20) ∧ 0 ≤ j ∧ j < X.2.1 x) ∧ Ev X 69 70 ls (vi (h.1 x j.toNat) :: st) h Q) := R_ia rfl
theorem e_69_70 {x y : Int} : Ev X 69 70 ls (vi y :: vi x :: st) h Q ↔ ((inR (x * y)) ∧ Ev X 69 71 ls (vi (x * y) :: st) h Q) := R_mul rfl
theorem e_69_71 {rest : List xV} {a0 : Int} {a1 : Int} {o : Nat} : Ev X 69 71 ls ((vi a1) :: (vi a0) :: vr o :: rest) h Q ↔ ((X.1 o = 10 ∧ wd rest ≤ 8) ∧ Cl X 94 [vr o, vi a0, vi a1] h (fun r h2 => Ev X 69 72 ls (r.toList ++ rest) h2 Q)) := R_cv (x := o) (as := [vi a0, vi a1]) (k2 := 94) rfl rfl (Nat.le_of_ble_eq_true rfl)
theorem e_69_72 {x : Nat} {j v : Int} : Ev X 69 72 ls (vi v :: vi j :: vr x :: st) h Q ↔ ((X.1 x = 13 ∧ 0 ≤ j ∧ j < X.2.1 x) ∧ Ev X 69 73 ls st (up2 h.1 x j.toNat v, h.2) Q) := R_ias rfl
theorem e_69_73 : Ev X 69 73 ls st h Q ↔ onI (gl ls 5) (fun x => (stOK ls 5 = true ∧ inR (x + 1)) ∧ Ev X 69 74 (ls.set 5 (some (vi (x + 1)))) st h Q) := R_inc rfl
theorem e_69_74 : Ev X 69 74 ls st h Q ↔ Ev X 69 47 ls st h Q := R_go rfl
theorem e_69_75 : Ev X 69 75 ls st h Q ↔ onI (gl ls 4) (fun x => (stOK ls 4 = true ∧ inR (x + 1)) ∧ Ev X 69 76 (ls.set 4 (some (vi (x + 1)))) st h Q) := R_inc rfl
theorem e_69_76 : Ev X 69 76 ls st h Q ↔ Ev X 69 34 ls st h Q := R_go rfl
theorem e_69_77 : Ev X 69 77 ls st h Q ↔ onR (gl ls 0) (fun z => Ev X 69 78 ls (vr z :: st) h Q) := R_al rfl (Or.inl rfl)
theorem e_69_78 : Ev X 69 78 ls st h Q ↔ onI (gl ls 2) (fun z => Ev X 69 79 ls (vi z :: st) h Q) := R_il rfl (Or.inl rfl)
theorem e_69_79 {rest : List xV} {a0 : Int} {o : Nat} : Ev X 69 79 ls ((vi a0) :: vr o :: rest) h Q ↔ ((X.1 o = 8 ∧ wd rest ≤ 8) ∧ Cl X 55 [vr o, vi a0] h (fun r h2 => Ev X 69 80 ls (r.toList ++ rest) h2 Q)) := R_cv (x := o) (as := [vi a0]) (k2 := 55) rfl rfl (Nat.le_of_ble_eq_true rfl)
theorem e_69_80 : Ev X 69 80 ls st h Q ↔ onR (gl ls 0) (fun z => Ev X 69 81 ls (vr z :: st) h Q) := R_al rfl (Or.inl rfl)
theorem e_69_81 : Ev X 69 81 ls st h Q ↔ onI (gl ls 2) (fun z => Ev X 69 82 ls (vi z :: st) h Q) := R_il rfl (Or.inl rfl)
theorem e_69_82 {rest : List xV} {a0 : Int} {o : Nat} : Ev X 69 82 ls ((vi a0) :: vr o :: rest) h Q ↔ ((X.1 o = 8 ∧ wd rest ≤ 8) ∧ Cl X 70 [vr o, vi a0] h (fun r h2 => Ev X 69 83 ls (r.toList ++ rest) h2 Q)) := R_cv (x := o) (as := [vi a0]) (k2 := 70) rfl rfl (Nat.le_of_ble_eq_true rfl)
theorem e_69_83 {x : Int} : Ev X 69 83 ls (vi x :: st) h Q ↔ (stOK ls 4 = true ∧ Ev X 69 84 (ls.set 4 (some (vi x))) st h Q) := R_is rfl (Or.inr rfl)
theorem e_69_84 : Ev X 69 84 ls st h Q ↔ Ev X 69 85 ls (vi 1 :: st) h Q := R_kc rfl (Or.inl ⟨Or.inl rfl, by decide⟩)
theorem e_69_85 {x : Int} : Ev X 69 85 ls (vi x :: st) h Q ↔ (stOK ls 5 = true ∧ Ev X 69 86 (ls.set 5 (some (vi x))) st h Q) := R_is rfl (Or.inr rfl)
theorem e_69_86 : Ev X 69 86 ls st h Q ↔ onI (gl ls 5) (fun z => Ev X 69 87 ls (vi z :: st) h Q) := R_il rfl (Or.inr rfl)
theorem e_69_87 : Ev X 69 87 ls st h Q ↔ Ev X 69 88 ls (vi 120 :: st) h Q := R_kc rfl (Or.inr (Or.inl ⟨rfl, by decide⟩))
theorem e_69_88 {x y : Int} : Ev X 69 88 ls (vi y :: vi x :: st) h Q ↔ (if y ≤ x then Ev X 69 107 ls st h Q else Ev X 69 89 ls st h Q) := R_icge rfl
theorem e_69_89 : Ev X 69 89 ls st h Q ↔ onR (gl ls 0) (fun z => Ev X 69 90 ls (vr z :: st) h Q) := R_al rfl (Or.inl rfl)
theorem e_69_90 : Ev X 69 90 ls st h Q ↔ onI (gl ls 2) (fun z => Ev X 69 91 ls (vi z :: st) h Q) := R_il rfl (Or.inl rfl)
theorem e_69_91 {rest : List xV} {a0 : Int} {o : Nat} : Ev X 69 91 ls ((vi a0) :: vr o :: rest) h Q ↔ ((X.1 o = 8 ∧ wd rest ≤ 8) ∧ Cl X 57 [vr o, vi a0] h (fun r h2 => Ev X 69 92 ls (r.toList ++ rest) h2 Q)) := R_cv (x := o) (as := [vi a0]) (k2 := 57) rfl rfl (Nat.le_of_ble_eq_true rfl)
theorem e_69_92 {x : Int} : Ev X 69 92 ls (vi x :: st) h Q ↔ (if x = 0 then Ev X 69 107 ls st h Q else Ev X 69 93 ls st h Q) := R_ifeq rfl
theorem e_69_93 : Ev X 69 93 ls st h Q ↔ onR (gl ls 0) (fun z => Ev X 69 94 ls (vr z :: st) h Q) := R_al rfl (Or.inl rfl)
theorem e_69_94 : Ev X 69 94 ls st h Q ↔ onI (gl ls 2) (fun z => Ev X 69 95 ls (vi z :: st) h Q) := R_il rfl (Or.inl rfl)
theorem e_69_95 {rest : List xV} {a0 : Int} {o : Nat} : Ev X 69 95 ls ((vi a0) :: vr o :: rest) h Q ↔ ((X.1 o = 8 ∧ wd rest ≤ 8) ∧ Cl X 70 [vr o, vi a0] h (fun r h2 => Ev X 69 96 ls (r.toList ++ rest) h2 Q)) := R_cv (x := o) (as := [vi a0]) (k2 := 70) rfl rfl (Nat.le_of_ble_eq_true rfl)
theorem e_69_96 {x : Int} : Ev X 69 96 ls (vi x :: st) h Q ↔ (stOK ls 6 = true ∧ Ev X 69 97 (ls.set 6 (some (vi x))) st h Q) := R_is rfl (Or.inr rfl)
theorem e_69_97 : Ev X 69 97 ls st h Q ↔ onI (gl ls 6) (fun z => Ev X 69 98 ls (vi z :: st) h Q) := R_il rfl (Or.inr rfl)
theorem e_69_98 : Ev X 69 98 ls st h Q ↔ onI (gl ls 4) (fun z => Ev X 69 99 ls (vi z :: st) h Q) := R_il rfl (Or.inr rfl)
theorem e_69_99 {x y : Int} : Ev X 69 99 ls (vi y :: vi x :: st) h Q ↔ (if y ≤ x then Ev X 69 105 ls st h Q else Ev X 69 100 ls st h Q) := R_icge rfl
theorem e_69_100 : Ev X 69 100 ls st h Q ↔ onI (gl ls 6) (fun z => Ev X 69 101 ls (vi z :: st) h Q) := R_il rfl (Or.inr rfl)
theorem e_69_101 {x : Int} : Ev X 69 101 ls (vi x :: st) h Q ↔ (stOK ls 4 = true ∧ Ev X 69 102 (ls.set 4 (some (vi x))) st h Q) := R_is rfl (Or.inr rfl)
theorem e_69_102 : Ev X 69 102 ls st h Q ↔ onR (gl ls 0) (fun z => Ev X 69 103 ls (vr z :: st) h Q) := R_al rfl (Or.inl rfl)
theorem e_69_103 : Ev X 69 103 ls st h Q ↔ onI (gl ls 2) (fun z => Ev X 69 104 ls (vi z :: st) h Q) := R_il rfl (Or.inl rfl)
theorem e_69_104 {rest : List xV} {a0 : Int} {o : Nat} : Ev X 69 104 ls ((vi a0) :: vr o :: rest) h Q ↔ ((X.1 o = 8 ∧ wd rest ≤ 8) ∧ Cl X 56 [vr o, vi a0] h (fun r h2 => Ev X 69 105 ls (r.toList ++ rest) h2 Q)) := R_cv (x := o) (as := [vi a0]) (k2 := 56) rfl rfl (Nat.le_of_ble_eq_true rfl)
theorem e_69_105 : Ev X 69 105 ls st h Q ↔ onI (gl ls 5) (fun x => (stOK ls 5 = true ∧ inR (x + 1)) ∧ Ev X 69 106 (ls.set 5 (some (vi (x + 1)))) st h Q) := R_inc rfl
theorem e_69_106 : Ev X 69 106 ls st h Q ↔ Ev X 69 86 ls st h Q := R_go rfl
theorem e_69_107 : Ev X 69 107 ls st h Q ↔ Ev X 69 108 ls (vi 0 :: st) h Q := R_kc rfl (Or.inl ⟨Or.inl rfl, by decide⟩)
theorem e_69_108 {x : Int} : Ev X 69 108 ls (vi x :: st) h Q ↔ (stOK ls 5 = true ∧ Ev X 69 109 (ls.set 5 (some (vi x))) st h Q) := R_is rfl (Or.inr rfl)
theorem e_69_109 : Ev X 69 109 ls st h Q ↔ onI (gl ls 5) (fun z => Ev X 69 110 ls (vi z :: st) h Q) := R_il rfl (Or.inr rfl)
theorem e_69_110 : Ev X 69 110 ls st h Q ↔ onI (gl ls 2) (fun z => Ev X 69 111 ls (vi z :: st) h Q) := R_il rfl (Or.inl rfl)
theorem e_69_111 {x y : Int} : Ev X 69 111 ls (vi y :: vi x :: st) h Q ↔ (if y ≤ x then Ev X 69 134 ls st h Q else Ev X 69 112 ls st h Q) := R_icge rfl
theorem e_69_112 : Ev X 69 112 ls st h Q ↔ onR (gl ls 3) (fun z => Ev X 69 113 ls (vr z :: st) h Q) := R_al rfl (Or.inl rfl)
theorem e_69_113 : Ev X 69 113 ls st h Q ↔ onR (gl ls 0) (fun z => Ev X 69 114 ls (vr z :: st) h Q) := R_al rfl (Or.inl rfl)
theorem e_69_114 {x : Nat} : Ev X 69 114 ls (vr x :: st) h Q ↔ (X.1 x = 8 ∧ Ev X 69 115 ls (vr (X.2.2.1 x 4) :: st) h Q) := R_gr rfl
theorem e_69_115 : Ev X 69 115 ls st h Q ↔ onI (gl ls 5) (fun z => Ev X 69 116 ls (vi z :: st) h Q) := R_il rfl (Or.inr rfl)
theorem e_69_116 {x : Nat} {j : Int} : Ev X 69 116 ls (vi j :: vr x :: st) h Q ↔ (((X.1 x = 13 ∨ X.1 x = 20) ∧ 0 ≤ j ∧ j < X.2.1 x) ∧ Ev X 69 117 ls (vi (h.1 x j.toNat) :: st) h Q) := R_ia rfl
theorem e_69_117 : Ev X 69 117 ls st h Q ↔ onR (gl ls 0) (fun z => Ev X 69 118 ls (vr z :: st) h Q) := R_al rfl (Or.inl rfl)
theorem e_69_118 {x : Nat} : Ev X 69 118 ls (vr x :: st) h Q ↔ (X.1 x = 8 ∧ Ev X 69 119 ls (vr (X.2.2.1 x 6) :: st) h Q) := R_gr rfl
theorem e_69_119 : Ev X 69 119 ls st h Q ↔ onR (gl ls 0) (fun z => Ev X 69 120 ls (vr z :: st) h Q) := R_al rfl (Or.inl rfl)
theorem e_69_120 {x : Nat} : Ev X 69 120 ls (vr x :: st) h Q ↔ (X.1 x = 8 ∧ Ev X 69 121 ls (vr (X.2.2.1 x 3) :: st) h Q) := R_gr rfl
theorem e_69_121 : Ev X 69 121 ls st h Q ↔ onI (gl ls 5) (fun z => Ev X 69 122 ls (vi z :: st) h Q) := R_il rfl (Or.inr rfl)
theorem e_69_122 {x : Nat} {j : Int} : Ev X 69 122 ls (vi j :: vr x :: st) h Q ↔ (((X.1 x = 13 ∨ X.1 x = 20) ∧ 0 ≤ j ∧ j < X.2.1 x) ∧ Ev X 69 123 ls (vi (h.1 x j.toNat) :: st) h Q) := R_ia rfl
theorem e_69_123 {x : Nat} {j : Int} : Ev X 69 123 ls (vi j :: vr x :: st) h Q ↔ (((X.1 x = 13 ∨ X.1 x = 20) ∧ 0 ≤ j ∧ j < X.2.1 x) ∧ Ev X 69 124 ls (vi (h.1 x j.toNat) :: st) h Q) := R_ia rfl
theorem e_69_124 : Ev X 69 124 ls st h Q ↔ onR (gl ls 0) (fun z => Ev X 69 125 ls (vr z :: st) h Q) := R_al rfl (Or.inl rfl)
theorem e_69_125 {x : Nat} : Ev X 69 125 ls (vr x :: st) h Q ↔ (X.1 x = 8 ∧ Ev X 69 126 ls (vr (X.2.2.1 x 7) :: st) h Q) := R_gr rfl
theorem e_69_126 : Ev X 69 126 ls st h Q ↔ onR (gl ls 0) (fun z => Ev X 69 127 ls (vr z :: st) h Q) := R_al rfl (Or.inl rfl)
theorem e_69_127 {x : Nat} : Ev X 69 127 ls (vr x :: st) h Q ↔ (X.1 x = 8 ∧ Ev X 69 128 ls (vr (X.2.2.1 x 3) :: st) h Q) := R_gr rfl
theorem e_69_128 : Ev X 69 128 ls st h Q ↔ onI (gl ls 5) (fun z => Ev X 69 129 ls (vi z :: st) h Q) := R_il rfl (Or.inr rfl)
theorem e_69_129 {x : Nat} {j : Int} : Ev X 69 129 ls (vi j :: vr x :: st) h Q ↔ (((X.1 x = 13 ∨ X.1 x = 20) ∧ 0 ≤ j ∧ j < X.2.1 x) ∧ Ev X 69 130 ls (vi (h.1 x j.toNat) :: st) h Q) := R_ia rfl
theorem e_69_130 {x : Nat} {j : Int} : Ev X 69 130 ls (vi j :: vr x :: st) h Q ↔ (((X.1 x = 13 ∨ X.1 x = 20) ∧ 0 ≤ j ∧ j < X.2.1 x) ∧ Ev X 69 131 ls (vi (h.1 x j.toNat) :: st) h Q) := R_ia rfl
theorem e_69_131 {rest : List xV} {a0 : Int} {a1 : Int} {a2 : Int} {o : Nat} : Ev X 69 131 ls ((vi a2) :: (vi a1) :: (vi a0) :: vr o :: rest) h Q ↔ ((X.1 o = 3 ∧ wd rest ≤ 8) ∧ Cl X 20 [vr o, vi a0, vi a1, vi a2] h (fun r h2 => Ev X 69 132 ls (r.toList ++ rest) h2 Q)) := R_cv (x := o) (as := [vi a0, vi a1, vi a2]) (k2 := 20) rfl rfl (Nat.le_of_ble_eq_true rfl)
theorem e_69_132 : Ev X 69 132 ls st h Q ↔ onI (gl ls 5) (fun x => (stOK ls 5 = true ∧ inR (x + 1)) ∧ Ev X 69 133 (ls.set 5 (some (vi (x + 1)))) st h Q) := R_inc rfl
theorem e_69_133 : Ev X 69 133 ls st h Q ↔ Ev X 69 109 ls st h Q := R_go rfl
theorem e_69_134 : Ev X 69 134 ls [] h Q ↔ Q none h := R_vr rfl
end RUL
