section RUL
variable {X : xL} {ls : List (Option xV)} {st : List xV} {h : xH} {Q : Option xV → xH → Prop}
-- 0: CellRows$Analytic.pullTogether(LCellRows$Plan;I)I
theorem e_0_0 : Ev X 0 0 ls st h Q ↔ onR (gl ls 1) (fun z => Ev X 0 1 ls (vr z :: st) h Q) := R_al rfl (Or.inl rfl)
theorem e_0_1 {x : Nat} : Ev X 0 1 ls (vr x :: st) h Q ↔ (X.1 x = 9 ∧ Ev X 0 2 ls (vr (X.2.2.1 x 4) :: st) h Q) := R_gr rfl
theorem e_0_2 {x : Nat} : Ev X 0 2 ls (vr x :: st) h Q ↔ (stOK ls 3 = true ∧ Ev X 0 3 (ls.set 3 (some (vr x))) st h Q) := R_as rfl (Or.inl rfl)
theorem e_0_3 : Ev X 0 3 ls st h Q ↔ onR (gl ls 3) (fun z => Ev X 0 4 ls (vr z :: st) h Q) := R_al rfl (Or.inl rfl)
theorem e_0_4 {x : Nat} : Ev X 0 4 ls (vr x :: st) h Q ↔ (X.1 x = 3 ∧ Ev X 0 5 ls (vr (X.2.2.1 x 4) :: st) h Q) := R_gr rfl
theorem e_0_5 : Ev X 0 5 ls st h Q ↔ Ev X 0 6 ls (vi 0 :: st) h Q := R_kc rfl (Or.inl ⟨Or.inl rfl, by decide⟩)
theorem e_0_6 : Ev X 0 6 ls st h Q ↔ onR (gl ls 0) (fun z => Ev X 0 7 ls (vr z :: st) h Q) := R_al rfl (Or.inl rfl)
theorem e_0_7 {x : Nat} : Ev X 0 7 ls (vr x :: st) h Q ↔ (X.1 x = 0 ∧ Ev X 0 8 ls (vr (X.2.2.1 x 3) :: st) h Q) := R_gr rfl
theorem e_0_8 : Ev X 0 8 ls st h Q ↔ Ev X 0 9 ls (vi 0 :: st) h Q := R_kc rfl (Or.inl ⟨Or.inl rfl, by decide⟩)
theorem e_0_9 : Ev X 0 9 ls st h Q ↔ Ev X 0 10 ls (vi 20 :: st) h Q := R_kc rfl (Or.inr (Or.inl ⟨rfl, by decide⟩))
theorem e_0_10 {x d : Nat} {sp dp n : Int} : Ev X 0 10 ls [vi n, vi dp, vr d, vi sp, vr x] h Q ↔ ((((X.1 x = 13 ∧ X.1 d = 13) ∨ (X.1 x = 14 ∧ X.1 d = 14)) ∧ 0 ≤ sp ∧ 0 ≤ dp ∧ 0 ≤ n ∧ sp + n ≤ X.2.1 x ∧ dp + n ≤ X.2.1 d) ∧ Ev X 0 11 ls [] (up1 h.1 d (va_cpy (h.1 x) (h.1 d) sp.toNat dp.toNat n.toNat), h.2) Q) := R_cp rfl
theorem e_0_11 : Ev X 0 11 ls st h Q ↔ onR (gl ls 3) (fun z => Ev X 0 12 ls (vr z :: st) h Q) := R_al rfl (Or.inl rfl)
theorem e_0_12 {x : Nat} : Ev X 0 12 ls (vr x :: st) h Q ↔ (X.1 x = 3 ∧ Ev X 0 13 ls (vr (X.2.2.1 x 5) :: st) h Q) := R_gr rfl
theorem e_0_13 : Ev X 0 13 ls st h Q ↔ Ev X 0 14 ls (vi 0 :: st) h Q := R_kc rfl (Or.inl ⟨Or.inl rfl, by decide⟩)
theorem e_0_14 : Ev X 0 14 ls st h Q ↔ onR (gl ls 0) (fun z => Ev X 0 15 ls (vr z :: st) h Q) := R_al rfl (Or.inl rfl)
theorem e_0_15 {x : Nat} : Ev X 0 15 ls (vr x :: st) h Q ↔ (X.1 x = 0 ∧ Ev X 0 16 ls (vr (X.2.2.1 x 4) :: st) h Q) := R_gr rfl
theorem e_0_16 : Ev X 0 16 ls st h Q ↔ Ev X 0 17 ls (vi 0 :: st) h Q := R_kc rfl (Or.inl ⟨Or.inl rfl, by decide⟩)
theorem e_0_17 : Ev X 0 17 ls st h Q ↔ Ev X 0 18 ls (vi 20 :: st) h Q := R_kc rfl (Or.inr (Or.inl ⟨rfl, by decide⟩))
theorem e_0_18 {x d : Nat} {sp dp n : Int} : Ev X 0 18 ls [vi n, vi dp, vr d, vi sp, vr x] h Q ↔ ((((X.1 x = 13 ∧ X.1 d = 13) ∨ (X.1 x = 14 ∧ X.1 d = 14)) ∧ 0 ≤ sp ∧ 0 ≤ dp ∧ 0 ≤ n ∧ sp + n ≤ X.2.1 x ∧ dp + n ≤ X.2.1 d) ∧ Ev X 0 19 ls [] (up1 h.1 d (va_cpy (h.1 x) (h.1 d) sp.toNat dp.toNat n.toNat), h.2) Q) := R_cp rfl
theorem e_0_19 : Ev X 0 19 ls st h Q ↔ Ev X 0 20 ls (vi 0 :: st) h Q := R_kc rfl (Or.inl ⟨Or.inl rfl, by decide⟩)
theorem e_0_20 {x : Int} : Ev X 0 20 ls (vi x :: st) h Q ↔ (stOK ls 4 = true ∧ Ev X 0 21 (ls.set 4 (some (vi x))) st h Q) := R_is rfl (Or.inr rfl)
theorem e_0_21 : Ev X 0 21 ls st h Q ↔ onI (gl ls 4) (fun z => Ev X 0 22 ls (vi z :: st) h Q) := R_il rfl (Or.inr rfl)
theorem e_0_22 : Ev X 0 22 ls st h Q ↔ onI (gl ls 2) (fun z => Ev X 0 23 ls (vi z :: st) h Q) := R_il rfl (Or.inl rfl)
theorem e_0_23 {x y : Int} : Ev X 0 23 ls (vi y :: vi x :: st) h Q ↔ (if y ≤ x then Ev X 0 43 ls st h Q else Ev X 0 24 ls st h Q) := R_icge rfl
theorem e_0_24 : Ev X 0 24 ls st h Q ↔ Ev X 0 25 ls (vi 0 :: st) h Q := R_kc rfl (Or.inl ⟨Or.inl rfl, by decide⟩)
theorem e_0_25 {x : Int} : Ev X 0 25 ls (vi x :: st) h Q ↔ (stOK ls 5 = true ∧ Ev X 0 26 (ls.set 5 (some (vi x))) st h Q) := R_is rfl (Or.inr rfl)
theorem e_0_26 : Ev X 0 26 ls st h Q ↔ onI (gl ls 5) (fun z => Ev X 0 27 ls (vi z :: st) h Q) := R_il rfl (Or.inr rfl)
theorem e_0_27 : Ev X 0 27 ls st h Q ↔ onR (gl ls 3) (fun z => Ev X 0 28 ls (vr z :: st) h Q) := R_al rfl (Or.inl rfl)
theorem e_0_28 {x : Nat} : Ev X 0 28 ls (vr x :: st) h Q ↔ (X.1 x = 3 ∧ Ev X 0 29 ls (vi (h.2 x 0) :: st) h Q) := R_gi rfl
theorem e_0_29 {x y : Int} : Ev X 0 29 ls (vi y :: vi x :: st) h Q ↔ (if y ≤ x then Ev X 0 41 ls st h Q else Ev X 0 30 ls st h Q) := R_icge rfl
theorem e_0_30 : Ev X 0 30 ls st h Q ↔ onR (gl ls 3) (fun z => Ev X 0 31 ls (vr z :: st) h Q) := R_al rfl (Or.inl rfl)
theorem e_0_31 {x : Nat} : Ev X 0 31 ls (vr x :: st) h Q ↔ (X.1 x = 3 ∧ Ev X 0 32 ls (vr (X.2.2.1 x 3) :: st) h Q) := R_gr rfl
theorem e_0_32 : Ev X 0 32 ls st h Q ↔ onI (gl ls 5) (fun z => Ev X 0 33 ls (vi z :: st) h Q) := R_il rfl (Or.inr rfl)
theorem e_0_33 {x : Nat} {j : Int} : Ev X 0 33 ls (vi j :: vr x :: st) h Q ↔ ((X.1 x = 14 ∧ 0 ≤ j ∧ j < X.2.1 x) ∧ Ev X 0 34 ls (vi (h.1 x j.toNat) :: st) h Q) := R_ba rfl
theorem e_0_34 {x : Int} : Ev X 0 34 ls (vi x :: st) h Q ↔ (if ¬ x = 0 then Ev X 0 39 ls st h Q else Ev X 0 35 ls st h Q) := R_ifne rfl
theorem e_0_35 : Ev X 0 35 ls st h Q ↔ onR (gl ls 0) (fun z => Ev X 0 36 ls (vr z :: st) h Q) := R_al rfl (Or.inl rfl)
theorem e_0_36 : Ev X 0 36 ls st h Q ↔ onR (gl ls 1) (fun z => Ev X 0 37 ls (vr z :: st) h Q) := R_al rfl (Or.inl rfl)
theorem e_0_37 : Ev X 0 37 ls st h Q ↔ onI (gl ls 5) (fun z => Ev X 0 38 ls (vi z :: st) h Q) := R_il rfl (Or.inr rfl)
theorem e_0_38 {rest : List xV} {a0 : Nat} {a1 : Int} {o : Nat} : Ev X 0 38 ls ((vi a1) :: (vr a0) :: vr o :: rest) h Q ↔ ((X.1 o = 0 ∧ wd rest ≤ 8) ∧ Cl X 1 [vr o, vr a0, vi a1] h (fun r h2 => Ev X 0 39 ls (r.toList ++ rest) h2 Q)) := R_cv (x := o) (as := [vr a0, vi a1]) (k2 := 1) rfl rfl (Nat.le_of_ble_eq_true rfl)
theorem e_0_39 : Ev X 0 39 ls st h Q ↔ onI (gl ls 5) (fun x => (stOK ls 5 = true ∧ inR (x + 1)) ∧ Ev X 0 40 (ls.set 5 (some (vi (x + 1)))) st h Q) := R_inc rfl
theorem e_0_40 : Ev X 0 40 ls st h Q ↔ Ev X 0 26 ls st h Q := R_go rfl
theorem e_0_41 : Ev X 0 41 ls st h Q ↔ onI (gl ls 4) (fun x => (stOK ls 4 = true ∧ inR (x + 1)) ∧ Ev X 0 42 (ls.set 4 (some (vi (x + 1)))) st h Q) := R_inc rfl
theorem e_0_42 : Ev X 0 42 ls st h Q ↔ Ev X 0 21 ls st h Q := R_go rfl
theorem e_0_43 : Ev X 0 43 ls st h Q ↔ Ev X 0 44 ls (vi 0 :: st) h Q := R_kc rfl (Or.inl ⟨Or.inl rfl, by decide⟩)
theorem e_0_44 {x : Int} : Ev X 0 44 ls (vi x :: st) h Q ↔ (stOK ls 4 = true ∧ Ev X 0 45 (ls.set 4 (some (vi x))) st h Q) := R_is rfl (Or.inr rfl)
theorem e_0_45 : Ev X 0 45 ls st h Q ↔ Ev X 0 46 ls (vi 0 :: st) h Q := R_kc rfl (Or.inl ⟨Or.inl rfl, by decide⟩)
theorem e_0_46 {x : Int} : Ev X 0 46 ls (vi x :: st) h Q ↔ (stOK ls 5 = true ∧ Ev X 0 47 (ls.set 5 (some (vi x))) st h Q) := R_is rfl (Or.inr rfl)
theorem e_0_47 : Ev X 0 47 ls st h Q ↔ onI (gl ls 5) (fun z => Ev X 0 48 ls (vi z :: st) h Q) := R_il rfl (Or.inr rfl)
theorem e_0_48 : Ev X 0 48 ls st h Q ↔ onR (gl ls 3) (fun z => Ev X 0 49 ls (vr z :: st) h Q) := R_al rfl (Or.inl rfl)
theorem e_0_49 {x : Nat} : Ev X 0 49 ls (vr x :: st) h Q ↔ (X.1 x = 3 ∧ Ev X 0 50 ls (vi (h.2 x 0) :: st) h Q) := R_gi rfl
theorem e_0_50 {x y : Int} : Ev X 0 50 ls (vi y :: vi x :: st) h Q ↔ (if y ≤ x then Ev X 0 72 ls st h Q else Ev X 0 51 ls st h Q) := R_icge rfl
theorem e_0_51 : Ev X 0 51 ls st h Q ↔ onR (gl ls 3) (fun z => Ev X 0 52 ls (vr z :: st) h Q) := R_al rfl (Or.inl rfl)
theorem e_0_52 {x : Nat} : Ev X 0 52 ls (vr x :: st) h Q ↔ (X.1 x = 3 ∧ Ev X 0 53 ls (vr (X.2.2.1 x 4) :: st) h Q) := R_gr rfl
theorem e_0_53 : Ev X 0 53 ls st h Q ↔ onI (gl ls 5) (fun z => Ev X 0 54 ls (vi z :: st) h Q) := R_il rfl (Or.inr rfl)
theorem e_0_54 {x : Nat} {j : Int} : Ev X 0 54 ls (vi j :: vr x :: st) h Q ↔ (((X.1 x = 13 ∨ X.1 x = 20) ∧ 0 ≤ j ∧ j < X.2.1 x) ∧ Ev X 0 55 ls (vi (h.1 x j.toNat) :: st) h Q) := R_ia rfl
theorem e_0_55 : Ev X 0 55 ls st h Q ↔ onR (gl ls 0) (fun z => Ev X 0 56 ls (vr z :: st) h Q) := R_al rfl (Or.inl rfl)
theorem e_0_56 {x : Nat} : Ev X 0 56 ls (vr x :: st) h Q ↔ (X.1 x = 0 ∧ Ev X 0 57 ls (vr (X.2.2.1 x 3) :: st) h Q) := R_gr rfl
theorem e_0_57 : Ev X 0 57 ls st h Q ↔ onI (gl ls 5) (fun z => Ev X 0 58 ls (vi z :: st) h Q) := R_il rfl (Or.inr rfl)
theorem e_0_58 {x : Nat} {j : Int} : Ev X 0 58 ls (vi j :: vr x :: st) h Q ↔ (((X.1 x = 13 ∨ X.1 x = 20) ∧ 0 ≤ j ∧ j < X.2.1 x) ∧ Ev X 0 59 ls (vi (h.1 x j.toNat) :: st) h Q) := R_ia rfl
theorem e_0_59 {x y : Int} : Ev X 0 59 ls (vi y :: vi x :: st) h Q ↔ (if ¬ x = y then Ev X 0 69 ls st h Q else Ev X 0 60 ls st h Q) := R_icne rfl
theorem e_0_60 : Ev X 0 60 ls st h Q ↔ onR (gl ls 3) (fun z => Ev X 0 61 ls (vr z :: st) h Q) := R_al rfl (Or.inl rfl)
theorem e_0_61 {x : Nat} : Ev X 0 61 ls (vr x :: st) h Q ↔ (X.1 x = 3 ∧ Ev X 0 62 ls (vr (X.2.2.1 x 5) :: st) h Q) := R_gr rfl
theorem e_0_62 : Ev X 0 62 ls st h Q ↔ onI (gl ls 5) (fun z => Ev X 0 63 ls (vi z :: st) h Q) := R_il rfl (Or.inr rfl)
theorem e_0_63 {x : Nat} {j : Int} : Ev X 0 63 ls (vi j :: vr x :: st) h Q ↔ (((X.1 x = 13 ∨ X.1 x = 20) ∧ 0 ≤ j ∧ j < X.2.1 x) ∧ Ev X 0 64 ls (vi (h.1 x j.toNat) :: st) h Q) := R_ia rfl
theorem e_0_64 : Ev X 0 64 ls st h Q ↔ onR (gl ls 0) (fun z => Ev X 0 65 ls (vr z :: st) h Q) := R_al rfl (Or.inl rfl)
theorem e_0_65 {x : Nat} : Ev X 0 65 ls (vr x :: st) h Q ↔ (X.1 x = 0 ∧ Ev X 0 66 ls (vr (X.2.2.1 x 4) :: st) h Q) := R_gr rfl
theorem e_0_66 : Ev X 0 66 ls st h Q ↔ onI (gl ls 5) (fun z => Ev X 0 67 ls (vi z :: st) h Q) := R_il rfl (Or.inr rfl)
theorem e_0_67 {x : Nat} {j : Int} : Ev X 0 67 ls (vi j :: vr x :: st) h Q ↔ (((X.1 x = 13 ∨ X.1 x = 20) ∧ 0 ≤ j ∧ j < X.2.1 x) ∧ Ev X 0 68 ls (vi (h.1 x j.toNat) :: st) h Q) := R_ia rfl
theorem e_0_68 {x y : Int} : Ev X 0 68 ls (vi y :: vi x :: st) h Q ↔ (if x = y then Ev X 0 70 ls st h Q else Ev X 0 69 ls st h Q) := R_iceq rfl
theorem e_0_69 : Ev X 0 69 ls st h Q ↔ onI (gl ls 4) (fun x => (stOK ls 4 = true ∧ inR (x + 1)) ∧ Ev X 0 70 (ls.set 4 (some (vi (x + 1)))) st h Q) := R_inc rfl
theorem e_0_70 : Ev X 0 70 ls st h Q ↔ onI (gl ls 5) (fun x => (stOK ls 5 = true ∧ inR (x + 1)) ∧ Ev X 0 71 (ls.set 5 (some (vi (x + 1)))) st h Q) := R_inc rfl
theorem e_0_71 : Ev X 0 71 ls st h Q ↔ Ev X 0 47 ls st h Q := R_go rfl
theorem e_0_72 : Ev X 0 72 ls st h Q ↔ onI (gl ls 4) (fun z => Ev X 0 73 ls (vi z :: st) h Q) := R_il rfl (Or.inr rfl)
theorem e_0_73 {z : Int} : Ev X 0 73 ls [vi z] h Q ↔ Q (some (vi z)) h := R_ir rfl
-- 1: CellRows$Analytic.pullToMean(LCellRows$Plan;I)V
theorem e_1_0 : Ev X 1 0 ls st h Q ↔ onR (gl ls 1) (fun z => Ev X 1 1 ls (vr z :: st) h Q) := R_al rfl (Or.inl rfl)
theorem e_1_1 {x : Nat} : Ev X 1 1 ls (vr x :: st) h Q ↔ (X.1 x = 9 ∧ Ev X 1 2 ls (vr (X.2.2.1 x 5) :: st) h Q) := R_gr rfl
theorem e_1_2 {x : Nat} : Ev X 1 2 ls (vr x :: st) h Q ↔ (stOK ls 3 = true ∧ Ev X 1 3 (ls.set 3 (some (vr x))) st h Q) := R_as rfl (Or.inl rfl)
theorem e_1_3 : Ev X 1 3 ls st h Q ↔ onR (gl ls 1) (fun z => Ev X 1 4 ls (vr z :: st) h Q) := R_al rfl (Or.inl rfl)
theorem e_1_4 {x : Nat} : Ev X 1 4 ls (vr x :: st) h Q ↔ (X.1 x = 9 ∧ Ev X 1 5 ls (vr (X.2.2.1 x 4) :: st) h Q) := R_gr rfl
theorem e_1_5 {x : Nat} : Ev X 1 5 ls (vr x :: st) h Q ↔ (stOK ls 4 = true ∧ Ev X 1 6 (ls.set 4 (some (vr x))) st h Q) := R_as rfl (Or.inr rfl)
theorem e_1_6 : Ev X 1 6 ls st h Q ↔ Ev X 1 7 ls (vi 0 :: st) h Q := R_kc rfl (Or.inl ⟨Or.inl rfl, by decide⟩)
theorem e_1_7 {x : Int} : Ev X 1 7 ls (vi x :: st) h Q ↔ (stOK ls 5 = true ∧ Ev X 1 8 (ls.set 5 (some (vi x))) st h Q) := R_is rfl (Or.inr rfl)
theorem e_1_8 : Ev X 1 8 ls st h Q ↔ Ev X 1 9 ls (vi 0 :: st) h Q := R_kc rfl (Or.inl ⟨Or.inl rfl, by decide⟩)
theorem e_1_9 {x : Int} : Ev X 1 9 ls (vi x :: st) h Q ↔ (stOK ls 6 = true ∧ Ev X 1 10 (ls.set 6 (some (vi x))) st h Q) := R_is rfl (Or.inr rfl)
theorem e_1_10 : Ev X 1 10 ls st h Q ↔ Ev X 1 11 ls (vi 0 :: st) h Q := R_kc rfl (Or.inl ⟨Or.inl rfl, by decide⟩)
theorem e_1_11 {x : Int} : Ev X 1 11 ls (vi x :: st) h Q ↔ (stOK ls 7 = true ∧ Ev X 1 12 (ls.set 7 (some (vi x))) st h Q) := R_is rfl (Or.inr rfl)
theorem e_1_12 : Ev X 1 12 ls st h Q ↔ Ev X 1 13 ls (vi 0 :: st) h Q := R_kc rfl (Or.inl ⟨Or.inl rfl, by decide⟩)
theorem e_1_13 {x : Int} : Ev X 1 13 ls (vi x :: st) h Q ↔ (stOK ls 8 = true ∧ Ev X 1 14 (ls.set 8 (some (vi x))) st h Q) := R_is rfl (Or.inr rfl)
theorem e_1_14 : Ev X 1 14 ls st h Q ↔ onI (gl ls 8) (fun z => Ev X 1 15 ls (vi z :: st) h Q) := R_il rfl (Or.inr rfl)
theorem e_1_15 : Ev X 1 15 ls st h Q ↔ onR (gl ls 3) (fun z => Ev X 1 16 ls (vr z :: st) h Q) := R_al rfl (Or.inl rfl)
theorem e_1_16 {x : Nat} : Ev X 1 16 ls (vr x :: st) h Q ↔ (X.1 x = 6 ∧ Ev X 1 17 ls (vi (h.2 x 0) :: st) h Q) := R_gi rfl
theorem e_1_17 {x y : Int} : Ev X 1 17 ls (vi y :: vi x :: st) h Q ↔ (if y ≤ x then Ev X 1 101 ls st h Q else Ev X 1 18 ls st h Q) := R_icge rfl
theorem e_1_18 : Ev X 1 18 ls st h Q ↔ onR (gl ls 3) (fun z => Ev X 1 19 ls (vr z :: st) h Q) := R_al rfl (Or.inl rfl)
theorem e_1_19 : Ev X 1 19 ls st h Q ↔ onI (gl ls 8) (fun z => Ev X 1 20 ls (vi z :: st) h Q) := R_il rfl (Or.inr rfl)
theorem e_1_20 : Ev X 1 20 ls st h Q ↔ onI (gl ls 2) (fun z => Ev X 1 21 ls (vi z :: st) h Q) := R_il rfl (Or.inl rfl)
theorem e_1_21 {rest : List xV} {a0 : Int} {a1 : Int} {o : Nat} : Ev X 1 21 ls ((vi a1) :: (vi a0) :: vr o :: rest) h Q ↔ ((X.1 o = 6 ∧ wd rest ≤ 8) ∧ Cl X 45 [vr o, vi a0, vi a1] h (fun r h2 => Ev X 1 22 ls (r.toList ++ rest) h2 Q)) := R_cv (x := o) (as := [vi a0, vi a1]) (k2 := 45) rfl rfl (Nat.le_of_ble_eq_true rfl)
theorem e_1_22 {x : Int} : Ev X 1 22 ls (vi x :: st) h Q ↔ (stOK ls 9 = true ∧ Ev X 1 23 (ls.set 9 (some (vi x))) st h Q) := R_is rfl (Or.inr rfl)
theorem e_1_23 : Ev X 1 23 ls st h Q ↔ onI (gl ls 8) (fun z => Ev X 1 24 ls (vi z :: st) h Q) := R_il rfl (Or.inr rfl)
theorem e_1_24 : Ev X 1 24 ls st h Q ↔ Ev X 1 25 ls (vi 6 :: st) h Q := R_kc rfl (Or.inr (Or.inl ⟨rfl, by decide⟩))
theorem e_1_25 {x y : Int} : Ev X 1 25 ls (vi y :: vi x :: st) h Q ↔ ((inR (x * y)) ∧ Ev X 1 26 ls (vi (x * y) :: st) h Q) := R_mul rfl
theorem e_1_26 {x : Int} : Ev X 1 26 ls (vi x :: st) h Q ↔ (stOK ls 10 = true ∧ Ev X 1 27 (ls.set 10 (some (vi x))) st h Q) := R_is rfl (Or.inr rfl)
theorem e_1_27 : Ev X 1 27 ls st h Q ↔ Ev X 1 28 ls (vi 0 :: st) h Q := R_kc rfl (Or.inl ⟨Or.inl rfl, by decide⟩)
theorem e_1_28 {x : Int} : Ev X 1 28 ls (vi x :: st) h Q ↔ (stOK ls 11 = true ∧ Ev X 1 29 (ls.set 11 (some (vi x))) st h Q) := R_is rfl (Or.inr rfl)
theorem e_1_29 : Ev X 1 29 ls st h Q ↔ onI (gl ls 9) (fun z => Ev X 1 30 ls (vi z :: st) h Q) := R_il rfl (Or.inr rfl)
theorem e_1_30 : Ev X 1 30 ls st h Q ↔ Ev X 1 31 ls (vi (-1) :: st) h Q := R_kc rfl (Or.inl ⟨Or.inl rfl, by decide⟩)
theorem e_1_31 {x y : Int} : Ev X 1 31 ls (vi y :: vi x :: st) h Q ↔ (if x = y then Ev X 1 99 ls st h Q else Ev X 1 32 ls st h Q) := R_iceq rfl
theorem e_1_32 : Ev X 1 32 ls st h Q ↔ onI (gl ls 11) (fun z => Ev X 1 33 ls (vi z :: st) h Q) := R_il rfl (Or.inr rfl)
theorem e_1_33 : Ev X 1 33 ls st h Q ↔ onR (gl ls 3) (fun z => Ev X 1 34 ls (vr z :: st) h Q) := R_al rfl (Or.inl rfl)
theorem e_1_34 {x : Nat} : Ev X 1 34 ls (vr x :: st) h Q ↔ (X.1 x = 6 ∧ Ev X 1 35 ls (vr (X.2.2.1 x 2) :: st) h Q) := R_gr rfl
theorem e_1_35 : Ev X 1 35 ls st h Q ↔ onI (gl ls 8) (fun z => Ev X 1 36 ls (vi z :: st) h Q) := R_il rfl (Or.inr rfl)
theorem e_1_36 {x : Nat} {j : Int} : Ev X 1 36 ls (vi j :: vr x :: st) h Q ↔ (((X.1 x = 13 ∨ X.1 x = 20) ∧ 0 ≤ j ∧ j < X.2.1 x) ∧ Ev X 1 37 ls (vi (h.1 x j.toNat) :: st) h Q) := R_ia rfl
theorem e_1_37 {x y : Int} : Ev X 1 37 ls (vi y :: vi x :: st) h Q ↔ (if y ≤ x then Ev X 1 99 ls st h Q else Ev X 1 38 ls st h Q) := R_icge rfl
theorem e_1_38 : Ev X 1 38 ls st h Q ↔ onI (gl ls 11) (fun z => Ev X 1 39 ls (vi z :: st) h Q) := R_il rfl (Or.inr rfl)
theorem e_1_39 : Ev X 1 39 ls st h Q ↔ onI (gl ls 9) (fun z => Ev X 1 40 ls (vi z :: st) h Q) := R_il rfl (Or.inr rfl)
theorem e_1_40 {x y : Int} : Ev X 1 40 ls (vi y :: vi x :: st) h Q ↔ (if x = y then Ev X 1 97 ls st h Q else Ev X 1 41 ls st h Q) := R_iceq rfl
theorem e_1_41 : Ev X 1 41 ls st h Q ↔ onR (gl ls 3) (fun z => Ev X 1 42 ls (vr z :: st) h Q) := R_al rfl (Or.inl rfl)
theorem e_1_42 {x : Nat} : Ev X 1 42 ls (vr x :: st) h Q ↔ (X.1 x = 6 ∧ Ev X 1 43 ls (vr (X.2.2.1 x 3) :: st) h Q) := R_gr rfl
theorem e_1_43 : Ev X 1 43 ls st h Q ↔ onI (gl ls 10) (fun z => Ev X 1 44 ls (vi z :: st) h Q) := R_il rfl (Or.inr rfl)
theorem e_1_44 : Ev X 1 44 ls st h Q ↔ onI (gl ls 11) (fun z => Ev X 1 45 ls (vi z :: st) h Q) := R_il rfl (Or.inr rfl)
theorem e_1_45 {x y : Int} : Ev X 1 45 ls (vi y :: vi x :: st) h Q ↔ ((inR (x + y)) ∧ Ev X 1 46 ls (vi (x + y) :: st) h Q) := R_add rfl
theorem e_1_46 {x : Nat} {j : Int} : Ev X 1 46 ls (vi j :: vr x :: st) h Q ↔ (((X.1 x = 13 ∨ X.1 x = 20) ∧ 0 ≤ j ∧ j < X.2.1 x) ∧ Ev X 1 47 ls (vi (h.1 x j.toNat) :: st) h Q) := R_ia rfl
theorem e_1_47 {x : Int} : Ev X 1 47 ls (vi x :: st) h Q ↔ (stOK ls 12 = true ∧ Ev X 1 48 (ls.set 12 (some (vi x))) st h Q) := R_is rfl (Or.inr rfl)
theorem e_1_48 : Ev X 1 48 ls st h Q ↔ onR (gl ls 4) (fun z => Ev X 1 49 ls (vr z :: st) h Q) := R_al rfl (Or.inr rfl)
theorem e_1_49 : Ev X 1 49 ls st h Q ↔ onI (gl ls 12) (fun z => Ev X 1 50 ls (vi z :: st) h Q) := R_il rfl (Or.inr rfl)
theorem e_1_50 : Ev X 1 50 ls st h Q ↔ onR (gl ls 3) (fun z => Ev X 1 51 ls (vr z :: st) h Q) := R_al rfl (Or.inl rfl)
theorem e_1_51 {x : Nat} : Ev X 1 51 ls (vr x :: st) h Q ↔ (X.1 x = 6 ∧ Ev X 1 52 ls (vr (X.2.2.1 x 4) :: st) h Q) := R_gr rfl
theorem e_1_52 : Ev X 1 52 ls st h Q ↔ onI (gl ls 10) (fun z => Ev X 1 53 ls (vi z :: st) h Q) := R_il rfl (Or.inr rfl)
theorem e_1_53 : Ev X 1 53 ls st h Q ↔ onI (gl ls 11) (fun z => Ev X 1 54 ls (vi z :: st) h Q) := R_il rfl (Or.inr rfl)
theorem e_1_54 {x y : Int} : Ev X 1 54 ls (vi y :: vi x :: st) h Q ↔ ((inR (x + y)) ∧ Ev X 1 55 ls (vi (x + y) :: st) h Q) := R_add rfl
theorem e_1_55 {x : Nat} {j : Int} : Ev X 1 55 ls (vi j :: vr x :: st) h Q ↔ (((X.1 x = 13 ∨ X.1 x = 20) ∧ 0 ≤ j ∧ j < X.2.1 x) ∧ Ev X 1 56 ls (vi (h.1 x j.toNat) :: st) h Q) := R_ia rfl
theorem e_1_56 {rest : List xV} {a0 : Nat} {a1 : Int} {a2 : Int} : Ev X 1 56 ls ((vi a2) :: (vi a1) :: (vr a0) :: rest) h Q ↔ (wd rest ≤ 8 ∧ Cl X 99 [vr a0, vi a1, vi a2] h (fun r h2 => Ev X 1 57 ls (r.toList ++ rest) h2 Q)) := R_cs (as := [vr a0, vi a1, vi a2]) (k2 := 99) rfl rfl (Nat.le_of_ble_eq_true rfl)
theorem e_1_57 : Ev X 1 57 ls st h Q ↔ onR (gl ls 4) (fun z => Ev X 1 58 ls (vr z :: st) h Q) := R_al rfl (Or.inr rfl)
theorem e_1_58 : Ev X 1 58 ls st h Q ↔ Ev X 1 59 ls (vi 200 :: st) h Q := R_kc rfl (Or.inr (Or.inr ⟨rfl, by decide⟩))
theorem e_1_59 : Ev X 1 59 ls st h Q ↔ onR (gl ls 3) (fun z => Ev X 1 60 ls (vr z :: st) h Q) := R_al rfl (Or.inl rfl)
theorem e_1_60 {x : Nat} : Ev X 1 60 ls (vr x :: st) h Q ↔ (X.1 x = 6 ∧ Ev X 1 61 ls (vr (X.2.2.1 x 4) :: st) h Q) := R_gr rfl
theorem e_1_61 : Ev X 1 61 ls st h Q ↔ onI (gl ls 10) (fun z => Ev X 1 62 ls (vi z :: st) h Q) := R_il rfl (Or.inr rfl)
theorem e_1_62 : Ev X 1 62 ls st h Q ↔ onI (gl ls 9) (fun z => Ev X 1 63 ls (vi z :: st) h Q) := R_il rfl (Or.inr rfl)
theorem e_1_63 {x y : Int} : Ev X 1 63 ls (vi y :: vi x :: st) h Q ↔ ((inR (x + y)) ∧ Ev X 1 64 ls (vi (x + y) :: st) h Q) := R_add rfl
theorem e_1_64 {x : Nat} {j : Int} : Ev X 1 64 ls (vi j :: vr x :: st) h Q ↔ (((X.1 x = 13 ∨ X.1 x = 20) ∧ 0 ≤ j ∧ j < X.2.1 x) ∧ Ev X 1 65 ls (vi (h.1 x j.toNat) :: st) h Q) := R_ia rfl
theorem e_1_65 {rest : List xV} {a0 : Nat} {a1 : Int} {a2 : Int} : Ev X 1 65 ls ((vi a2) :: (vi a1) :: (vr a0) :: rest) h Q ↔ (wd rest ≤ 8 ∧ Cl X 99 [vr a0, vi a1, vi a2] h (fun r h2 => Ev X 1 66 ls (r.toList ++ rest) h2 Q)) := R_cs (as := [vr a0, vi a1, vi a2]) (k2 := 99) rfl rfl (Nat.le_of_ble_eq_true rfl)
theorem e_1_66 {x y : Int} : Ev X 1 66 ls (vi y :: vi x :: st) h Q ↔ ((inR (x - y)) ∧ Ev X 1 67 ls (vi (x - y) :: st) h Q) := R_sub rfl
theorem e_1_67 {x : Int} : Ev X 1 67 ls (vi x :: st) h Q ↔ (stOK ls 13 = true ∧ Ev X 1 68 (ls.set 13 (some (vi x))) st h Q) := R_is rfl (Or.inr rfl)
theorem e_1_68 : Ev X 1 68 ls st h Q ↔ onI (gl ls 5) (fun z => Ev X 1 69 ls (vi z :: st) h Q) := R_il rfl (Or.inr rfl)
theorem e_1_69 : Ev X 1 69 ls st h Q ↔ onR (gl ls 3) (fun z => Ev X 1 70 ls (vr z :: st) h Q) := R_al rfl (Or.inl rfl)
theorem e_1_70 {x : Nat} : Ev X 1 70 ls (vr x :: st) h Q ↔ (X.1 x = 6 ∧ Ev X 1 71 ls (vr (X.2.2.1 x 1) :: st) h Q) := R_gr rfl
theorem e_1_71 : Ev X 1 71 ls st h Q ↔ onI (gl ls 8) (fun z => Ev X 1 72 ls (vi z :: st) h Q) := R_il rfl (Or.inr rfl)
theorem e_1_72 {x : Nat} {j : Int} : Ev X 1 72 ls (vi j :: vr x :: st) h Q ↔ (((X.1 x = 13 ∨ X.1 x = 20) ∧ 0 ≤ j ∧ j < X.2.1 x) ∧ Ev X 1 73 ls (vi (h.1 x j.toNat) :: st) h Q) := R_ia rfl
theorem e_1_73 {x y : Int} : Ev X 1 73 ls (vi y :: vi x :: st) h Q ↔ ((inR (x + y)) ∧ Ev X 1 74 ls (vi (x + y) :: st) h Q) := R_add rfl
theorem e_1_74 {x : Int} : Ev X 1 74 ls (vi x :: st) h Q ↔ (stOK ls 5 = true ∧ Ev X 1 75 (ls.set 5 (some (vi x))) st h Q) := R_is rfl (Or.inr rfl)
theorem e_1_75 : Ev X 1 75 ls st h Q ↔ onI (gl ls 6) (fun z => Ev X 1 76 ls (vi z :: st) h Q) := R_il rfl (Or.inr rfl)
theorem e_1_76 : Ev X 1 76 ls st h Q ↔ onR (gl ls 3) (fun z => Ev X 1 77 ls (vr z :: st) h Q) := R_al rfl (Or.inl rfl)
theorem e_1_77 {x : Nat} : Ev X 1 77 ls (vr x :: st) h Q ↔ (X.1 x = 6 ∧ Ev X 1 78 ls (vr (X.2.2.1 x 1) :: st) h Q) := R_gr rfl
theorem e_1_78 : Ev X 1 78 ls st h Q ↔ onI (gl ls 8) (fun z => Ev X 1 79 ls (vi z :: st) h Q) := R_il rfl (Or.inr rfl)
theorem e_1_79 {x : Nat} {j : Int} : Ev X 1 79 ls (vi j :: vr x :: st) h Q ↔ (((X.1 x = 13 ∨ X.1 x = 20) ∧ 0 ≤ j ∧ j < X.2.1 x) ∧ Ev X 1 80 ls (vi (h.1 x j.toNat) :: st) h Q) := R_ia rfl
theorem e_1_80 : Ev X 1 80 ls st h Q ↔ onI (gl ls 13) (fun z => Ev X 1 81 ls (vi z :: st) h Q) := R_il rfl (Or.inr rfl)
theorem e_1_81 {x y : Int} : Ev X 1 81 ls (vi y :: vi x :: st) h Q ↔ ((inR (x * y)) ∧ Ev X 1 82 ls (vi (x * y) :: st) h Q) := R_mul rfl
theorem e_1_82 {x y : Int} : Ev X 1 82 ls (vi y :: vi x :: st) h Q ↔ ((inR (x + y)) ∧ Ev X 1 83 ls (vi (x + y) :: st) h Q) := R_add rfl
theorem e_1_83 {x : Int} : Ev X 1 83 ls (vi x :: st) h Q ↔ (stOK ls 6 = true ∧ Ev X 1 84 (ls.set 6 (some (vi x))) st h Q) := R_is rfl (Or.inr rfl)
theorem e_1_84 : Ev X 1 84 ls st h Q ↔ onI (gl ls 7) (fun z => Ev X 1 85 ls (vi z :: st) h Q) := R_il rfl (Or.inr rfl)
theorem e_1_85 : Ev X 1 85 ls st h Q ↔ onR (gl ls 3) (fun z => Ev X 1 86 ls (vr z :: st) h Q) := R_al rfl (Or.inl rfl)
theorem e_1_86 {x : Nat} : Ev X 1 86 ls (vr x :: st) h Q ↔ (X.1 x = 6 ∧ Ev X 1 87 ls (vr (X.2.2.1 x 1) :: st) h Q) := R_gr rfl
theorem e_1_87 : Ev X 1 87 ls st h Q ↔ onI (gl ls 8) (fun z => Ev X 1 88 ls (vi z :: st) h Q) := R_il rfl (Or.inr rfl)
theorem e_1_88 {x : Nat} {j : Int} : Ev X 1 88 ls (vi j :: vr x :: st) h Q ↔ (((X.1 x = 13 ∨ X.1 x = 20) ∧ 0 ≤ j ∧ j < X.2.1 x) ∧ Ev X 1 89 ls (vi (h.1 x j.toNat) :: st) h Q) := R_ia rfl
theorem e_1_89 : Ev X 1 89 ls st h Q ↔ onR (gl ls 4) (fun z => Ev X 1 90 ls (vr z :: st) h Q) := R_al rfl (Or.inr rfl)
theorem e_1_90 : Ev X 1 90 ls st h Q ↔ onI (gl ls 12) (fun z => Ev X 1 91 ls (vi z :: st) h Q) := R_il rfl (Or.inr rfl)
theorem e_1_91 {rest : List xV} {a0 : Nat} {a1 : Int} : Ev X 1 91 ls ((vi a1) :: (vr a0) :: rest) h Q ↔ (wd rest ≤ 8 ∧ Cl X 100 [vr a0, vi a1] h (fun r h2 => Ev X 1 92 ls (r.toList ++ rest) h2 Q)) := R_cs (as := [vr a0, vi a1]) (k2 := 100) rfl rfl (Nat.le_of_ble_eq_true rfl)
theorem e_1_92 : Ev X 1 92 ls st h Q ↔ Ev X 1 93 ls (vi 8 :: st) h Q := R_kc rfl (Or.inr (Or.inl ⟨rfl, by decide⟩))
theorem e_1_93 {x y : Int} : Ev X 1 93 ls (vi y :: vi x :: st) h Q ↔ ((inR (x - y)) ∧ Ev X 1 94 ls (vi (x - y) :: st) h Q) := R_sub rfl
theorem e_1_94 {x y : Int} : Ev X 1 94 ls (vi y :: vi x :: st) h Q ↔ ((inR (x * y)) ∧ Ev X 1 95 ls (vi (x * y) :: st) h Q) := R_mul rfl
theorem e_1_95 {x y : Int} : Ev X 1 95 ls (vi y :: vi x :: st) h Q ↔ ((inR (x + y)) ∧ Ev X 1 96 ls (vi (x + y) :: st) h Q) := R_add rfl
theorem e_1_96 {x : Int} : Ev X 1 96 ls (vi x :: st) h Q ↔ (stOK ls 7 = true ∧ Ev X 1 97 (ls.set 7 (some (vi x))) st h Q) := R_is rfl (Or.inr rfl)
theorem e_1_97 : Ev X 1 97 ls st h Q ↔ onI (gl ls 11) (fun x => (stOK ls 11 = true ∧ inR (x + 1)) ∧ Ev X 1 98 (ls.set 11 (some (vi (x + 1)))) st h Q) := R_inc rfl
theorem e_1_98 : Ev X 1 98 ls st h Q ↔ Ev X 1 29 ls st h Q := R_go rfl
theorem e_1_99 : Ev X 1 99 ls st h Q ↔ onI (gl ls 8) (fun x => (stOK ls 8 = true ∧ inR (x + 1)) ∧ Ev X 1 100 (ls.set 8 (some (vi (x + 1)))) st h Q) := R_inc rfl
theorem e_1_100 : Ev X 1 100 ls st h Q ↔ Ev X 1 14 ls st h Q := R_go rfl
theorem e_1_101 : Ev X 1 101 ls st h Q ↔ onI (gl ls 5) (fun z => Ev X 1 102 ls (vi z :: st) h Q) := R_il rfl (Or.inr rfl)
theorem e_1_102 {x : Int} : Ev X 1 102 ls (vi x :: st) h Q ↔ (if x ≤ 0 then Ev X 1 123 ls st h Q else Ev X 1 103 ls st h Q) := R_ifle rfl
theorem e_1_103 : Ev X 1 103 ls st h Q ↔ onR (gl ls 4) (fun z => Ev X 1 104 ls (vr z :: st) h Q) := R_al rfl (Or.inr rfl)
theorem e_1_104 {x : Nat} : Ev X 1 104 ls (vr x :: st) h Q ↔ (X.1 x = 3 ∧ Ev X 1 105 ls (vr (X.2.2.1 x 4) :: st) h Q) := R_gr rfl
theorem e_1_105 : Ev X 1 105 ls st h Q ↔ onI (gl ls 2) (fun z => Ev X 1 106 ls (vi z :: st) h Q) := R_il rfl (Or.inl rfl)
theorem e_1_106 : Ev X 1 106 ls st h Q ↔ onR (gl ls 1) (fun z => Ev X 1 107 ls (vr z :: st) h Q) := R_al rfl (Or.inl rfl)
theorem e_1_107 : Ev X 1 107 ls st h Q ↔ onI (gl ls 2) (fun z => Ev X 1 108 ls (vi z :: st) h Q) := R_il rfl (Or.inl rfl)
theorem e_1_108 : Ev X 1 108 ls st h Q ↔ onI (gl ls 6) (fun z => Ev X 1 109 ls (vi z :: st) h Q) := R_il rfl (Or.inr rfl)
theorem e_1_109 : Ev X 1 109 ls st h Q ↔ onI (gl ls 5) (fun z => Ev X 1 110 ls (vi z :: st) h Q) := R_il rfl (Or.inr rfl)
theorem e_1_110 {rest : List xV} {a0 : Int} {a1 : Int} : Ev X 1 110 ls ((vi a1) :: (vi a0) :: rest) h Q ↔ (wd rest ≤ 8 ∧ Cl X 282 [vi a0, vi a1] h (fun r h2 => Ev X 1 111 ls (r.toList ++ rest) h2 Q)) := R_cs (as := [vi a0, vi a1]) (k2 := 282) rfl rfl (Nat.le_of_ble_eq_true rfl)
theorem e_1_111 {rest : List xV} {a0 : Int} {a1 : Int} {o : Nat} : Ev X 1 111 ls ((vi a1) :: (vi a0) :: vr o :: rest) h Q ↔ ((X.1 o = 9 ∧ wd rest ≤ 8) ∧ Cl X 87 [vr o, vi a0, vi a1] h (fun r h2 => Ev X 1 112 ls (r.toList ++ rest) h2 Q)) := R_cv (x := o) (as := [vi a0, vi a1]) (k2 := 87) rfl rfl (Nat.le_of_ble_eq_true rfl)
theorem e_1_112 {x : Nat} {j v : Int} : Ev X 1 112 ls (vi v :: vi j :: vr x :: st) h Q ↔ ((X.1 x = 13 ∧ 0 ≤ j ∧ j < X.2.1 x) ∧ Ev X 1 113 ls st (up2 h.1 x j.toNat v, h.2) Q) := R_ias rfl
theorem e_1_113 : Ev X 1 113 ls st h Q ↔ onR (gl ls 4) (fun z => Ev X 1 114 ls (vr z :: st) h Q) := R_al rfl (Or.inr rfl)
theorem e_1_114 {x : Nat} : Ev X 1 114 ls (vr x :: st) h Q ↔ (X.1 x = 3 ∧ Ev X 1 115 ls (vr (X.2.2.1 x 5) :: st) h Q) := R_gr rfl
theorem e_1_115 : Ev X 1 115 ls st h Q ↔ onI (gl ls 2) (fun z => Ev X 1 116 ls (vi z :: st) h Q) := R_il rfl (Or.inl rfl)
theorem e_1_116 : Ev X 1 116 ls st h Q ↔ onR (gl ls 1) (fun z => Ev X 1 117 ls (vr z :: st) h Q) := R_al rfl (Or.inl rfl)
theorem e_1_117 : Ev X 1 117 ls st h Q ↔ onI (gl ls 2) (fun z => Ev X 1 118 ls (vi z :: st) h Q) := R_il rfl (Or.inl rfl)
theorem e_1_118 : Ev X 1 118 ls st h Q ↔ onI (gl ls 7) (fun z => Ev X 1 119 ls (vi z :: st) h Q) := R_il rfl (Or.inr rfl)
theorem e_1_119 : Ev X 1 119 ls st h Q ↔ onI (gl ls 5) (fun z => Ev X 1 120 ls (vi z :: st) h Q) := R_il rfl (Or.inr rfl)
theorem e_1_120 {rest : List xV} {a0 : Int} {a1 : Int} : Ev X 1 120 ls ((vi a1) :: (vi a0) :: rest) h Q ↔ (wd rest ≤ 8 ∧ Cl X 282 [vi a0, vi a1] h (fun r h2 => Ev X 1 121 ls (r.toList ++ rest) h2 Q)) := R_cs (as := [vi a0, vi a1]) (k2 := 282) rfl rfl (Nat.le_of_ble_eq_true rfl)
theorem e_1_121 {rest : List xV} {a0 : Int} {a1 : Int} {o : Nat} : Ev X 1 121 ls ((vi a1) :: (vi a0) :: vr o :: rest) h Q ↔ ((X.1 o = 9 ∧ wd rest ≤ 8) ∧ Cl X 88 [vr o, vi a0, vi a1] h (fun r h2 => Ev X 1 122 ls (r.toList ++ rest) h2 Q)) := R_cv (x := o) (as := [vi a0, vi a1]) (k2 := 88) rfl rfl (Nat.le_of_ble_eq_true rfl)
theorem e_1_122 {x : Nat} {j v : Int} : Ev X 1 122 ls (vi v :: vi j :: vr x :: st) h Q ↔ ((X.1 x = 13 ∧ 0 ≤ j ∧ j < X.2.1 x) ∧ Ev X 1 123 ls st (up2 h.1 x j.toNat v, h.2) Q) := R_ias rfl
theorem e_1_123 : Ev X 1 123 ls [] h Q ↔ Q none h := R_vr rfl
-- 2: CellRows$Analytic.costOf(LCellRows$Plan;)I
theorem e_2_0 : Ev X 2 0 ls st h Q ↔ Ev X 2 1 ls (vi 16 :: st) h Q := R_kc rfl (Or.inr (Or.inl ⟨rfl, by decide⟩))
theorem e_2_1 : Ev X 2 1 ls st h Q ↔ onR (gl ls 0) (fun z => Ev X 2 2 ls (vr z :: st) h Q) := R_al rfl (Or.inl rfl)
theorem e_2_2 {x : Nat} : Ev X 2 2 ls (vr x :: st) h Q ↔ (X.1 x = 0 ∧ Ev X 2 3 ls (vr (X.2.2.1 x 1) :: st) h Q) := R_gr rfl
theorem e_2_3 : Ev X 2 3 ls st h Q ↔ onR (gl ls 1) (fun z => Ev X 2 4 ls (vr z :: st) h Q) := R_al rfl (Or.inl rfl)
theorem e_2_4 {rest : List xV} {a0 : Nat} {o : Nat} : Ev X 2 4 ls ((vr a0) :: vr o :: rest) h Q ↔ ((X.1 o = 10 ∧ wd rest ≤ 8) ∧ Cl X 96 [vr o, vr a0] h (fun r h2 => Ev X 2 5 ls (r.toList ++ rest) h2 Q)) := R_cv (x := o) (as := [vr a0]) (k2 := 96) rfl rfl (Nat.le_of_ble_eq_true rfl)
theorem e_2_5 {x y : Int} : Ev X 2 5 ls (vi y :: vi x :: st) h Q ↔ ((inR (x * y)) ∧ Ev X 2 6 ls (vi (x * y) :: st) h Q) := R_mul rfl
theorem e_2_6 : Ev X 2 6 ls st h Q ↔ onR (gl ls 0) (fun z => Ev X 2 7 ls (vr z :: st) h Q) := R_al rfl (Or.inl rfl)
theorem e_2_7 {x : Nat} : Ev X 2 7 ls (vr x :: st) h Q ↔ (X.1 x = 0 ∧ Ev X 2 8 ls (vr (X.2.2.1 x 0) :: st) h Q) := R_gr rfl
theorem e_2_8 : Ev X 2 8 ls st h Q ↔ Ev X 2 9 ls (vi 2 :: st) h Q := R_kc rfl (Or.inl ⟨Or.inl rfl, by decide⟩)
theorem e_2_9 {x : Nat} {j : Int} : Ev X 2 9 ls (vi j :: vr x :: st) h Q ↔ (((X.1 x = 13 ∨ X.1 x = 20) ∧ 0 ≤ j ∧ j < X.2.1 x) ∧ Ev X 2 10 ls (vi (h.1 x j.toNat) :: st) h Q) := R_ia rfl
theorem e_2_10 : Ev X 2 10 ls st h Q ↔ onR (gl ls 0) (fun z => Ev X 2 11 ls (vr z :: st) h Q) := R_al rfl (Or.inl rfl)
theorem e_2_11 {x : Nat} : Ev X 2 11 ls (vr x :: st) h Q ↔ (X.1 x = 0 ∧ Ev X 2 12 ls (vr (X.2.2.1 x 2) :: st) h Q) := R_gr rfl
theorem e_2_12 {rest : List xV}  {o : Nat} : Ev X 2 12 ls (vr o :: rest) h Q ↔ ((X.1 o = 1 ∧ wd rest ≤ 8) ∧ Cl X 10 [vr o] h (fun r h2 => Ev X 2 13 ls (r.toList ++ rest) h2 Q)) := R_cv (x := o) (as := []) (k2 := 10) rfl rfl (Nat.le_of_ble_eq_true rfl)
theorem e_2_13 {x y : Int} : Ev X 2 13 ls (vi y :: vi x :: st) h Q ↔ ((inR (x * y)) ∧ Ev X 2 14 ls (vi (x * y) :: st) h Q) := R_mul rfl
theorem e_2_14 {x y : Int} : Ev X 2 14 ls (vi y :: vi x :: st) h Q ↔ ((inR (x + y)) ∧ Ev X 2 15 ls (vi (x + y) :: st) h Q) := R_add rfl
theorem e_2_15 {z : Int} : Ev X 2 15 ls [vi z] h Q ↔ Q (some (vi z)) h := R_ir rfl
-- 3: CellRows$Analytic.pushApart(LCellRows$Plan;I)I
theorem e_3_0 : Ev X 3 0 ls st h Q ↔ onR (gl ls 0) (fun z => Ev X 3 1 ls (vr z :: st) h Q) := R_al rfl (Or.inl rfl)
theorem e_3_1 : Ev X 3 1 ls st h Q ↔ onR (gl ls 1) (fun z => Ev X 3 2 ls (vr z :: st) h Q) := R_al rfl (Or.inl rfl)
theorem e_3_2 {rest : List xV} {a0 : Nat} {o : Nat} : Ev X 3 2 ls ((vr a0) :: vr o :: rest) h Q ↔ ((X.1 o = 0 ∧ wd rest ≤ 8) ∧ Cl X 2 [vr o, vr a0] h (fun r h2 => Ev X 3 3 ls (r.toList ++ rest) h2 Q)) := R_cv (x := o) (as := [vr a0]) (k2 := 2) rfl rfl (Nat.le_of_ble_eq_true rfl)
theorem e_3_3 {x : Int} : Ev X 3 3 ls (vi x :: st) h Q ↔ (stOK ls 3 = true ∧ Ev X 3 4 (ls.set 3 (some (vi x))) st h Q) := R_is rfl (Or.inl rfl)
theorem e_3_4 : Ev X 3 4 ls st h Q ↔ Ev X 3 5 ls (vi 0 :: st) h Q := R_kc rfl (Or.inl ⟨Or.inl rfl, by decide⟩)
theorem e_3_5 {x : Int} : Ev X 3 5 ls (vi x :: st) h Q ↔ (stOK ls 4 = true ∧ Ev X 3 6 (ls.set 4 (some (vi x))) st h Q) := R_is rfl (Or.inr rfl)
theorem e_3_6 : Ev X 3 6 ls st h Q ↔ onI (gl ls 4) (fun z => Ev X 3 7 ls (vi z :: st) h Q) := R_il rfl (Or.inr rfl)
theorem e_3_7 : Ev X 3 7 ls st h Q ↔ onI (gl ls 2) (fun z => Ev X 3 8 ls (vi z :: st) h Q) := R_il rfl (Or.inl rfl)
theorem e_3_8 {x y : Int} : Ev X 3 8 ls (vi y :: vi x :: st) h Q ↔ (if y ≤ x then Ev X 3 30 ls st h Q else Ev X 3 9 ls st h Q) := R_icge rfl
theorem e_3_9 : Ev X 3 9 ls st h Q ↔ Ev X 3 10 ls (vi 0 :: st) h Q := R_kc rfl (Or.inl ⟨Or.inl rfl, by decide⟩)
theorem e_3_10 {x : Int} : Ev X 3 10 ls (vi x :: st) h Q ↔ (stOK ls 5 = true ∧ Ev X 3 11 (ls.set 5 (some (vi x))) st h Q) := R_is rfl (Or.inr rfl)
theorem e_3_11 : Ev X 3 11 ls st h Q ↔ onI (gl ls 5) (fun z => Ev X 3 12 ls (vi z :: st) h Q) := R_il rfl (Or.inr rfl)
theorem e_3_12 : Ev X 3 12 ls st h Q ↔ onR (gl ls 1) (fun z => Ev X 3 13 ls (vr z :: st) h Q) := R_al rfl (Or.inl rfl)
theorem e_3_13 {x : Nat} : Ev X 3 13 ls (vr x :: st) h Q ↔ (X.1 x = 9 ∧ Ev X 3 14 ls (vr (X.2.2.1 x 4) :: st) h Q) := R_gr rfl
theorem e_3_14 {x : Nat} : Ev X 3 14 ls (vr x :: st) h Q ↔ (X.1 x = 3 ∧ Ev X 3 15 ls (vi (h.2 x 0) :: st) h Q) := R_gi rfl
theorem e_3_15 {x y : Int} : Ev X 3 15 ls (vi y :: vi x :: st) h Q ↔ (if y ≤ x then Ev X 3 28 ls st h Q else Ev X 3 16 ls st h Q) := R_icge rfl
theorem e_3_16 : Ev X 3 16 ls st h Q ↔ onR (gl ls 1) (fun z => Ev X 3 17 ls (vr z :: st) h Q) := R_al rfl (Or.inl rfl)
theorem e_3_17 {x : Nat} : Ev X 3 17 ls (vr x :: st) h Q ↔ (X.1 x = 9 ∧ Ev X 3 18 ls (vr (X.2.2.1 x 4) :: st) h Q) := R_gr rfl
theorem e_3_18 {x : Nat} : Ev X 3 18 ls (vr x :: st) h Q ↔ (X.1 x = 3 ∧ Ev X 3 19 ls (vr (X.2.2.1 x 3) :: st) h Q) := R_gr rfl
theorem e_3_19 : Ev X 3 19 ls st h Q ↔ onI (gl ls 5) (fun z => Ev X 3 20 ls (vi z :: st) h Q) := R_il rfl (Or.inr rfl)
theorem e_3_20 {x : Nat} {j : Int} : Ev X 3 20 ls (vi j :: vr x :: st) h Q ↔ ((X.1 x = 14 ∧ 0 ≤ j ∧ j < X.2.1 x) ∧ Ev X 3 21 ls (vi (h.1 x j.toNat) :: st) h Q) := R_ba rfl
theorem e_3_21 {x : Int} : Ev X 3 21 ls (vi x :: st) h Q ↔ (if ¬ x = 0 then Ev X 3 26 ls st h Q else Ev X 3 22 ls st h Q) := R_ifne rfl
theorem e_3_22 : Ev X 3 22 ls st h Q ↔ onR (gl ls 0) (fun z => Ev X 3 23 ls (vr z :: st) h Q) := R_al rfl (Or.inl rfl)
theorem e_3_23 : Ev X 3 23 ls st h Q ↔ onR (gl ls 1) (fun z => Ev X 3 24 ls (vr z :: st) h Q) := R_al rfl (Or.inl rfl)
theorem e_3_24 : Ev X 3 24 ls st h Q ↔ onI (gl ls 5) (fun z => Ev X 3 25 ls (vi z :: st) h Q) := R_il rfl (Or.inr rfl)
theorem e_3_25 {rest : List xV} {a0 : Nat} {a1 : Int} {o : Nat} : Ev X 3 25 ls ((vi a1) :: (vr a0) :: vr o :: rest) h Q ↔ ((X.1 o = 0 ∧ wd rest ≤ 8) ∧ Cl X 4 [vr o, vr a0, vi a1] h (fun r h2 => Ev X 3 26 ls (r.toList ++ rest) h2 Q)) := R_cv (x := o) (as := [vr a0, vi a1]) (k2 := 4) rfl rfl (Nat.le_of_ble_eq_true rfl)
theorem e_3_26 : Ev X 3 26 ls st h Q ↔ onI (gl ls 5) (fun x => (stOK ls 5 = true ∧ inR (x + 1)) ∧ Ev X 3 27 (ls.set 5 (some (vi (x + 1)))) st h Q) := R_inc rfl
theorem e_3_27 : Ev X 3 27 ls st h Q ↔ Ev X 3 11 ls st h Q := R_go rfl
theorem e_3_28 : Ev X 3 28 ls st h Q ↔ onI (gl ls 4) (fun x => (stOK ls 4 = true ∧ inR (x + 1)) ∧ Ev X 3 29 (ls.set 4 (some (vi (x + 1)))) st h Q) := R_inc rfl
theorem e_3_29 : Ev X 3 29 ls st h Q ↔ Ev X 3 6 ls st h Q := R_go rfl
theorem e_3_30 : Ev X 3 30 ls st h Q ↔ onI (gl ls 3) (fun z => Ev X 3 31 ls (vi z :: st) h Q) := R_il rfl (Or.inl rfl)
theorem e_3_31 : Ev X 3 31 ls st h Q ↔ onR (gl ls 0) (fun z => Ev X 3 32 ls (vr z :: st) h Q) := R_al rfl (Or.inl rfl)
theorem e_3_32 : Ev X 3 32 ls st h Q ↔ onR (gl ls 1) (fun z => Ev X 3 33 ls (vr z :: st) h Q) := R_al rfl (Or.inl rfl)
theorem e_3_33 {rest : List xV} {a0 : Nat} {o : Nat} : Ev X 3 33 ls ((vr a0) :: vr o :: rest) h Q ↔ ((X.1 o = 0 ∧ wd rest ≤ 8) ∧ Cl X 2 [vr o, vr a0] h (fun r h2 => Ev X 3 34 ls (r.toList ++ rest) h2 Q)) := R_cv (x := o) (as := [vr a0]) (k2 := 2) rfl rfl (Nat.le_of_ble_eq_true rfl)
theorem e_3_34 {x y : Int} : Ev X 3 34 ls (vi y :: vi x :: st) h Q ↔ ((inR (x - y)) ∧ Ev X 3 35 ls (vi (x - y) :: st) h Q) := R_sub rfl
theorem e_3_35 {z : Int} : Ev X 3 35 ls [vi z] h Q ↔ Q (some (vi z)) h := R_ir rfl
-- 4: CellRows$Analytic.pushCell(LCellRows$Plan;I)V
theorem e_4_0 : Ev X 4 0 ls st h Q ↔ onR (gl ls 1) (fun z => Ev X 4 1 ls (vr z :: st) h Q) := R_al rfl (Or.inl rfl)
theorem e_4_1 {x : Nat} : Ev X 4 1 ls (vr x :: st) h Q ↔ (X.1 x = 9 ∧ Ev X 4 2 ls (vr (X.2.2.1 x 4) :: st) h Q) := R_gr rfl
theorem e_4_2 {x : Nat} : Ev X 4 2 ls (vr x :: st) h Q ↔ (stOK ls 3 = true ∧ Ev X 4 3 (ls.set 3 (some (vr x))) st h Q) := R_as rfl (Or.inl rfl)
theorem e_4_3 : Ev X 4 3 ls st h Q ↔ onR (gl ls 3) (fun z => Ev X 4 4 ls (vr z :: st) h Q) := R_al rfl (Or.inl rfl)
theorem e_4_4 {x : Nat} : Ev X 4 4 ls (vr x :: st) h Q ↔ (X.1 x = 3 ∧ Ev X 4 5 ls (vr (X.2.2.1 x 4) :: st) h Q) := R_gr rfl
theorem e_4_5 : Ev X 4 5 ls st h Q ↔ onI (gl ls 2) (fun z => Ev X 4 6 ls (vi z :: st) h Q) := R_il rfl (Or.inl rfl)
theorem e_4_6 {x : Nat} {j : Int} : Ev X 4 6 ls (vi j :: vr x :: st) h Q ↔ (((X.1 x = 13 ∨ X.1 x = 20) ∧ 0 ≤ j ∧ j < X.2.1 x) ∧ Ev X 4 7 ls (vi (h.1 x j.toNat) :: st) h Q) := R_ia rfl
theorem e_4_7 {x : Int} : Ev X 4 7 ls (vi x :: st) h Q ↔ (stOK ls 4 = true ∧ Ev X 4 8 (ls.set 4 (some (vi x))) st h Q) := R_is rfl (Or.inr rfl)
theorem e_4_8 : Ev X 4 8 ls st h Q ↔ onR (gl ls 3) (fun z => Ev X 4 9 ls (vr z :: st) h Q) := R_al rfl (Or.inl rfl)
theorem e_4_9 {x : Nat} : Ev X 4 9 ls (vr x :: st) h Q ↔ (X.1 x = 3 ∧ Ev X 4 10 ls (vr (X.2.2.1 x 5) :: st) h Q) := R_gr rfl
theorem e_4_10 : Ev X 4 10 ls st h Q ↔ onI (gl ls 2) (fun z => Ev X 4 11 ls (vi z :: st) h Q) := R_il rfl (Or.inl rfl)
theorem e_4_11 {x : Nat} {j : Int} : Ev X 4 11 ls (vi j :: vr x :: st) h Q ↔ (((X.1 x = 13 ∨ X.1 x = 20) ∧ 0 ≤ j ∧ j < X.2.1 x) ∧ Ev X 4 12 ls (vi (h.1 x j.toNat) :: st) h Q) := R_ia rfl
theorem e_4_12 {x : Int} : Ev X 4 12 ls (vi x :: st) h Q ↔ (stOK ls 5 = true ∧ Ev X 4 13 (ls.set 5 (some (vi x))) st h Q) := R_is rfl (Or.inr rfl)
theorem e_4_13 : Ev X 4 13 ls st h Q ↔ onI (gl ls 4) (fun z => Ev X 4 14 ls (vi z :: st) h Q) := R_il rfl (Or.inr rfl)
theorem e_4_14 {x : Int} : Ev X 4 14 ls (vi x :: st) h Q ↔ (stOK ls 6 = true ∧ Ev X 4 15 (ls.set 6 (some (vi x))) st h Q) := R_is rfl (Or.inr rfl)
theorem e_4_15 : Ev X 4 15 ls st h Q ↔ onI (gl ls 5) (fun z => Ev X 4 16 ls (vi z :: st) h Q) := R_il rfl (Or.inr rfl)
theorem e_4_16 {x : Int} : Ev X 4 16 ls (vi x :: st) h Q ↔ (stOK ls 7 = true ∧ Ev X 4 17 (ls.set 7 (some (vi x))) st h Q) := R_is rfl (Or.inr rfl)
theorem e_4_17 : Ev X 4 17 ls st h Q ↔ Ev X 4 18 ls (vi 268435456 :: st) h Q := R_kc rfl (Or.inl ⟨Or.inr (Or.inl rfl), by decide⟩)
theorem e_4_18 {x : Int} : Ev X 4 18 ls (vi x :: st) h Q ↔ (stOK ls 8 = true ∧ Ev X 4 19 (ls.set 8 (some (vi x))) st h Q) := R_is rfl (Or.inr rfl)
theorem e_4_19 : Ev X 4 19 ls st h Q ↔ Ev X 4 20 ls (vi 0 :: st) h Q := R_kc rfl (Or.inl ⟨Or.inl rfl, by decide⟩)
theorem e_4_20 {x : Int} : Ev X 4 20 ls (vi x :: st) h Q ↔ (stOK ls 9 = true ∧ Ev X 4 21 (ls.set 9 (some (vi x))) st h Q) := R_is rfl (Or.inr rfl)
theorem e_4_21 : Ev X 4 21 ls st h Q ↔ onI (gl ls 9) (fun z => Ev X 4 22 ls (vi z :: st) h Q) := R_il rfl (Or.inr rfl)
theorem e_4_22 : Ev X 4 22 ls st h Q ↔ Ev X 4 23 ls (vi 5 :: st) h Q := R_kc rfl (Or.inl ⟨Or.inl rfl, by decide⟩)
theorem e_4_23 {x y : Int} : Ev X 4 23 ls (vi y :: vi x :: st) h Q ↔ (if y ≤ x then Ev X 4 106 ls st h Q else Ev X 4 24 ls st h Q) := R_icge rfl
theorem e_4_24 : Ev X 4 24 ls st h Q ↔ onR (gl ls 0) (fun z => Ev X 4 25 ls (vr z :: st) h Q) := R_al rfl (Or.inl rfl)
theorem e_4_25 {x : Nat} : Ev X 4 25 ls (vr x :: st) h Q ↔ (X.1 x = 0 ∧ Ev X 4 26 ls (vr (X.2.2.1 x 2) :: st) h Q) := R_gr rfl
theorem e_4_26 : Ev X 4 26 ls st h Q ↔ onR (gl ls 3) (fun z => Ev X 4 27 ls (vr z :: st) h Q) := R_al rfl (Or.inl rfl)
theorem e_4_27 : Ev X 4 27 ls st h Q ↔ onI (gl ls 2) (fun z => Ev X 4 28 ls (vi z :: st) h Q) := R_il rfl (Or.inl rfl)
theorem e_4_28 : Ev X 4 28 ls st h Q ↔ Ev X 4 29 ls (vi (-1) :: st) h Q := R_kc rfl (Or.inl ⟨Or.inl rfl, by decide⟩)
theorem e_4_29 {rest : List xV} {a0 : Nat} {a1 : Int} {a2 : Int} {o : Nat} : Ev X 4 29 ls ((vi a2) :: (vi a1) :: (vr a0) :: vr o :: rest) h Q ↔ ((X.1 o = 1 ∧ wd rest ≤ 8) ∧ Cl X 8 [vr o, vr a0, vi a1, vi a2] h (fun r h2 => Ev X 4 30 ls (r.toList ++ rest) h2 Q)) := R_cv (x := o) (as := [vr a0, vi a1, vi a2]) (k2 := 8) rfl rfl (Nat.le_of_ble_eq_true rfl)
theorem e_4_30 : Ev X 4 30 ls st h Q ↔ onI (gl ls 9) (fun z => Ev X 4 31 ls (vi z :: st) h Q) := R_il rfl (Or.inr rfl)
theorem e_4_31 {x : Int} : Ev X 4 31 ls (vi x :: st) h Q ↔ (if x ≤ 0 then Ev X 4 66 ls st h Q else Ev X 4 32 ls st h Q) := R_ifle rfl
theorem e_4_32 : Ev X 4 32 ls st h Q ↔ onR (gl ls 3) (fun z => Ev X 4 33 ls (vr z :: st) h Q) := R_al rfl (Or.inl rfl)
theorem e_4_33 {x : Nat} : Ev X 4 33 ls (vr x :: st) h Q ↔ (X.1 x = 3 ∧ Ev X 4 34 ls (vr (X.2.2.1 x 4) :: st) h Q) := R_gr rfl
theorem e_4_34 : Ev X 4 34 ls st h Q ↔ onI (gl ls 2) (fun z => Ev X 4 35 ls (vi z :: st) h Q) := R_il rfl (Or.inl rfl)
theorem e_4_35 : Ev X 4 35 ls st h Q ↔ onR (gl ls 1) (fun z => Ev X 4 36 ls (vr z :: st) h Q) := R_al rfl (Or.inl rfl)
theorem e_4_36 : Ev X 4 36 ls st h Q ↔ onI (gl ls 2) (fun z => Ev X 4 37 ls (vi z :: st) h Q) := R_il rfl (Or.inl rfl)
theorem e_4_37 : Ev X 4 37 ls st h Q ↔ onI (gl ls 4) (fun z => Ev X 4 38 ls (vi z :: st) h Q) := R_il rfl (Or.inr rfl)
theorem e_4_38 : Ev X 4 38 ls st h Q ↔ Ev X 4 39 ls (vr (X.2.2.2 3) :: st) h Q := R_gs rfl
theorem e_4_39 : Ev X 4 39 ls st h Q ↔ onI (gl ls 9) (fun z => Ev X 4 40 ls (vi z :: st) h Q) := R_il rfl (Or.inr rfl)
theorem e_4_40 {x : Nat} {j : Int} : Ev X 4 40 ls (vi j :: vr x :: st) h Q ↔ (((X.1 x = 13 ∨ X.1 x = 20) ∧ 0 ≤ j ∧ j < X.2.1 x) ∧ Ev X 4 41 ls (vi (h.1 x j.toNat) :: st) h Q) := R_ia rfl
theorem e_4_41 : Ev X 4 41 ls st h Q ↔ onR (gl ls 0) (fun z => Ev X 4 42 ls (vr z :: st) h Q) := R_al rfl (Or.inl rfl)
theorem e_4_42 {x : Nat} : Ev X 4 42 ls (vr x :: st) h Q ↔ (X.1 x = 0 ∧ Ev X 4 43 ls (vr (X.2.2.1 x 0) :: st) h Q) := R_gr rfl
theorem e_4_43 : Ev X 4 43 ls st h Q ↔ Ev X 4 44 ls (vi 3 :: st) h Q := R_kc rfl (Or.inl ⟨Or.inl rfl, by decide⟩)
theorem e_4_44 {x : Nat} {j : Int} : Ev X 4 44 ls (vi j :: vr x :: st) h Q ↔ (((X.1 x = 13 ∨ X.1 x = 20) ∧ 0 ≤ j ∧ j < X.2.1 x) ∧ Ev X 4 45 ls (vi (h.1 x j.toNat) :: st) h Q) := R_ia rfl
theorem e_4_45 {x y : Int} : Ev X 4 45 ls (vi y :: vi x :: st) h Q ↔ ((inR (x * y)) ∧ Ev X 4 46 ls (vi (x * y) :: st) h Q) := R_mul rfl
theorem e_4_46 {x y : Int} : Ev X 4 46 ls (vi y :: vi x :: st) h Q ↔ ((inR (x + y)) ∧ Ev X 4 47 ls (vi (x + y) :: st) h Q) := R_add rfl
theorem e_4_47 {rest : List xV} {a0 : Int} {a1 : Int} {o : Nat} : Ev X 4 47 ls ((vi a1) :: (vi a0) :: vr o :: rest) h Q ↔ ((X.1 o = 9 ∧ wd rest ≤ 8) ∧ Cl X 87 [vr o, vi a0, vi a1] h (fun r h2 => Ev X 4 48 ls (r.toList ++ rest) h2 Q)) := R_cv (x := o) (as := [vi a0, vi a1]) (k2 := 87) rfl rfl (Nat.le_of_ble_eq_true rfl)
theorem e_4_48 {x : Nat} {j v : Int} : Ev X 4 48 ls (vi v :: vi j :: vr x :: st) h Q ↔ ((X.1 x = 13 ∧ 0 ≤ j ∧ j < X.2.1 x) ∧ Ev X 4 49 ls st (up2 h.1 x j.toNat v, h.2) Q) := R_ias rfl
theorem e_4_49 : Ev X 4 49 ls st h Q ↔ onR (gl ls 3) (fun z => Ev X 4 50 ls (vr z :: st) h Q) := R_al rfl (Or.inl rfl)
theorem e_4_50 {x : Nat} : Ev X 4 50 ls (vr x :: st) h Q ↔ (X.1 x = 3 ∧ Ev X 4 51 ls (vr (X.2.2.1 x 5) :: st) h Q) := R_gr rfl
theorem e_4_51 : Ev X 4 51 ls st h Q ↔ onI (gl ls 2) (fun z => Ev X 4 52 ls (vi z :: st) h Q) := R_il rfl (Or.inl rfl)
theorem e_4_52 : Ev X 4 52 ls st h Q ↔ onR (gl ls 1) (fun z => Ev X 4 53 ls (vr z :: st) h Q) := R_al rfl (Or.inl rfl)
theorem e_4_53 : Ev X 4 53 ls st h Q ↔ onI (gl ls 2) (fun z => Ev X 4 54 ls (vi z :: st) h Q) := R_il rfl (Or.inl rfl)
theorem e_4_54 : Ev X 4 54 ls st h Q ↔ onI (gl ls 5) (fun z => Ev X 4 55 ls (vi z :: st) h Q) := R_il rfl (Or.inr rfl)
theorem e_4_55 : Ev X 4 55 ls st h Q ↔ Ev X 4 56 ls (vr (X.2.2.2 4) :: st) h Q := R_gs rfl
theorem e_4_56 : Ev X 4 56 ls st h Q ↔ onI (gl ls 9) (fun z => Ev X 4 57 ls (vi z :: st) h Q) := R_il rfl (Or.inr rfl)
theorem e_4_57 {x : Nat} {j : Int} : Ev X 4 57 ls (vi j :: vr x :: st) h Q ↔ (((X.1 x = 13 ∨ X.1 x = 20) ∧ 0 ≤ j ∧ j < X.2.1 x) ∧ Ev X 4 58 ls (vi (h.1 x j.toNat) :: st) h Q) := R_ia rfl
theorem e_4_58 : Ev X 4 58 ls st h Q ↔ onR (gl ls 0) (fun z => Ev X 4 59 ls (vr z :: st) h Q) := R_al rfl (Or.inl rfl)
theorem e_4_59 {x : Nat} : Ev X 4 59 ls (vr x :: st) h Q ↔ (X.1 x = 0 ∧ Ev X 4 60 ls (vr (X.2.2.1 x 0) :: st) h Q) := R_gr rfl
theorem e_4_60 : Ev X 4 60 ls st h Q ↔ Ev X 4 61 ls (vi 3 :: st) h Q := R_kc rfl (Or.inl ⟨Or.inl rfl, by decide⟩)
theorem e_4_61 {x : Nat} {j : Int} : Ev X 4 61 ls (vi j :: vr x :: st) h Q ↔ (((X.1 x = 13 ∨ X.1 x = 20) ∧ 0 ≤ j ∧ j < X.2.1 x) ∧ Ev X 4 62 ls (vi (h.1 x j.toNat) :: st) h Q) := R_ia rfl
theorem e_4_62 {x y : Int} : Ev X 4 62 ls (vi y :: vi x :: st) h Q ↔ ((inR (x * y)) ∧ Ev X 4 63 ls (vi (x * y) :: st) h Q) := R_mul rfl
theorem e_4_63 {x y : Int} : Ev X 4 63 ls (vi y :: vi x :: st) h Q ↔ ((inR (x + y)) ∧ Ev X 4 64 ls (vi (x + y) :: st) h Q) := R_add rfl
theorem e_4_64 {rest : List xV} {a0 : Int} {a1 : Int} {o : Nat} : Ev X 4 64 ls ((vi a1) :: (vi a0) :: vr o :: rest) h Q ↔ ((X.1 o = 9 ∧ wd rest ≤ 8) ∧ Cl X 88 [vr o, vi a0, vi a1] h (fun r h2 => Ev X 4 65 ls (r.toList ++ rest) h2 Q)) := R_cv (x := o) (as := [vi a0, vi a1]) (k2 := 88) rfl rfl (Nat.le_of_ble_eq_true rfl)
theorem e_4_65 {x : Nat} {j v : Int} : Ev X 4 65 ls (vi v :: vi j :: vr x :: st) h Q ↔ ((X.1 x = 13 ∧ 0 ≤ j ∧ j < X.2.1 x) ∧ Ev X 4 66 ls st (up2 h.1 x j.toNat v, h.2) Q) := R_ias rfl
theorem e_4_66 : Ev X 4 66 ls st h Q ↔ onR (gl ls 0) (fun z => Ev X 4 67 ls (vr z :: st) h Q) := R_al rfl (Or.inl rfl)
theorem e_4_67 {x : Nat} : Ev X 4 67 ls (vr x :: st) h Q ↔ (X.1 x = 0 ∧ Ev X 4 68 ls (vr (X.2.2.1 x 2) :: st) h Q) := R_gr rfl
theorem e_4_68 : Ev X 4 68 ls st h Q ↔ onR (gl ls 3) (fun z => Ev X 4 69 ls (vr z :: st) h Q) := R_al rfl (Or.inl rfl)
theorem e_4_69 : Ev X 4 69 ls st h Q ↔ onI (gl ls 2) (fun z => Ev X 4 70 ls (vi z :: st) h Q) := R_il rfl (Or.inl rfl)
theorem e_4_70 : Ev X 4 70 ls st h Q ↔ Ev X 4 71 ls (vi 1 :: st) h Q := R_kc rfl (Or.inl ⟨Or.inl rfl, by decide⟩)
theorem e_4_71 {rest : List xV} {a0 : Nat} {a1 : Int} {a2 : Int} {o : Nat} : Ev X 4 71 ls ((vi a2) :: (vi a1) :: (vr a0) :: vr o :: rest) h Q ↔ ((X.1 o = 1 ∧ wd rest ≤ 8) ∧ Cl X 8 [vr o, vr a0, vi a1, vi a2] h (fun r h2 => Ev X 4 72 ls (r.toList ++ rest) h2 Q)) := R_cv (x := o) (as := [vr a0, vi a1, vi a2]) (k2 := 8) rfl rfl (Nat.le_of_ble_eq_true rfl)
theorem e_4_72 : Ev X 4 72 ls st h Q ↔ Ev X 4 73 ls (vi 16 :: st) h Q := R_kc rfl (Or.inr (Or.inl ⟨rfl, by decide⟩))
theorem e_4_73 : Ev X 4 73 ls st h Q ↔ onR (gl ls 0) (fun z => Ev X 4 74 ls (vr z :: st) h Q) := R_al rfl (Or.inl rfl)
theorem e_4_74 {x : Nat} : Ev X 4 74 ls (vr x :: st) h Q ↔ (X.1 x = 0 ∧ Ev X 4 75 ls (vr (X.2.2.1 x 1) :: st) h Q) := R_gr rfl
theorem e_4_75 : Ev X 4 75 ls st h Q ↔ onR (gl ls 1) (fun z => Ev X 4 76 ls (vr z :: st) h Q) := R_al rfl (Or.inl rfl)
theorem e_4_76 : Ev X 4 76 ls st h Q ↔ onI (gl ls 2) (fun z => Ev X 4 77 ls (vi z :: st) h Q) := R_il rfl (Or.inl rfl)
theorem e_4_77 {rest : List xV} {a0 : Nat} {a1 : Int} {o : Nat} : Ev X 4 77 ls ((vi a1) :: (vr a0) :: vr o :: rest) h Q ↔ ((X.1 o = 10 ∧ wd rest ≤ 8) ∧ Cl X 97 [vr o, vr a0, vi a1] h (fun r h2 => Ev X 4 78 ls (r.toList ++ rest) h2 Q)) := R_cv (x := o) (as := [vr a0, vi a1]) (k2 := 97) rfl rfl (Nat.le_of_ble_eq_true rfl)
theorem e_4_78 {x y : Int} : Ev X 4 78 ls (vi y :: vi x :: st) h Q ↔ ((inR (x * y)) ∧ Ev X 4 79 ls (vi (x * y) :: st) h Q) := R_mul rfl
theorem e_4_79 : Ev X 4 79 ls st h Q ↔ onR (gl ls 0) (fun z => Ev X 4 80 ls (vr z :: st) h Q) := R_al rfl (Or.inl rfl)
theorem e_4_80 {x : Nat} : Ev X 4 80 ls (vr x :: st) h Q ↔ (X.1 x = 0 ∧ Ev X 4 81 ls (vr (X.2.2.1 x 0) :: st) h Q) := R_gr rfl
theorem e_4_81 : Ev X 4 81 ls st h Q ↔ Ev X 4 82 ls (vi 2 :: st) h Q := R_kc rfl (Or.inl ⟨Or.inl rfl, by decide⟩)
theorem e_4_82 {x : Nat} {j : Int} : Ev X 4 82 ls (vi j :: vr x :: st) h Q ↔ (((X.1 x = 13 ∨ X.1 x = 20) ∧ 0 ≤ j ∧ j < X.2.1 x) ∧ Ev X 4 83 ls (vi (h.1 x j.toNat) :: st) h Q) := R_ia rfl
theorem e_4_83 : Ev X 4 83 ls st h Q ↔ onR (gl ls 0) (fun z => Ev X 4 84 ls (vr z :: st) h Q) := R_al rfl (Or.inl rfl)
theorem e_4_84 {x : Nat} : Ev X 4 84 ls (vr x :: st) h Q ↔ (X.1 x = 0 ∧ Ev X 4 85 ls (vr (X.2.2.1 x 2) :: st) h Q) := R_gr rfl
theorem e_4_85 {rest : List xV}  {o : Nat} : Ev X 4 85 ls (vr o :: rest) h Q ↔ ((X.1 o = 1 ∧ wd rest ≤ 8) ∧ Cl X 10 [vr o] h (fun r h2 => Ev X 4 86 ls (r.toList ++ rest) h2 Q)) := R_cv (x := o) (as := []) (k2 := 10) rfl rfl (Nat.le_of_ble_eq_true rfl)
theorem e_4_86 {x y : Int} : Ev X 4 86 ls (vi y :: vi x :: st) h Q ↔ ((inR (x * y)) ∧ Ev X 4 87 ls (vi (x * y) :: st) h Q) := R_mul rfl
theorem e_4_87 {x y : Int} : Ev X 4 87 ls (vi y :: vi x :: st) h Q ↔ ((inR (x + y)) ∧ Ev X 4 88 ls (vi (x + y) :: st) h Q) := R_add rfl
theorem e_4_88 {x : Int} : Ev X 4 88 ls (vi x :: st) h Q ↔ (stOK ls 10 = true ∧ Ev X 4 89 (ls.set 10 (some (vi x))) st h Q) := R_is rfl (Or.inr rfl)
theorem e_4_89 : Ev X 4 89 ls st h Q ↔ onI (gl ls 10) (fun z => Ev X 4 90 ls (vi z :: st) h Q) := R_il rfl (Or.inr rfl)
theorem e_4_90 : Ev X 4 90 ls st h Q ↔ onI (gl ls 8) (fun z => Ev X 4 91 ls (vi z :: st) h Q) := R_il rfl (Or.inr rfl)
theorem e_4_91 {x y : Int} : Ev X 4 91 ls (vi y :: vi x :: st) h Q ↔ (if y ≤ x then Ev X 4 104 ls st h Q else Ev X 4 92 ls st h Q) := R_icge rfl
theorem e_4_92 : Ev X 4 92 ls st h Q ↔ onI (gl ls 10) (fun z => Ev X 4 93 ls (vi z :: st) h Q) := R_il rfl (Or.inr rfl)
theorem e_4_93 {x : Int} : Ev X 4 93 ls (vi x :: st) h Q ↔ (stOK ls 8 = true ∧ Ev X 4 94 (ls.set 8 (some (vi x))) st h Q) := R_is rfl (Or.inr rfl)
theorem e_4_94 : Ev X 4 94 ls st h Q ↔ onR (gl ls 3) (fun z => Ev X 4 95 ls (vr z :: st) h Q) := R_al rfl (Or.inl rfl)
theorem e_4_95 {x : Nat} : Ev X 4 95 ls (vr x :: st) h Q ↔ (X.1 x = 3 ∧ Ev X 4 96 ls (vr (X.2.2.1 x 4) :: st) h Q) := R_gr rfl
theorem e_4_96 : Ev X 4 96 ls st h Q ↔ onI (gl ls 2) (fun z => Ev X 4 97 ls (vi z :: st) h Q) := R_il rfl (Or.inl rfl)
theorem e_4_97 {x : Nat} {j : Int} : Ev X 4 97 ls (vi j :: vr x :: st) h Q ↔ (((X.1 x = 13 ∨ X.1 x = 20) ∧ 0 ≤ j ∧ j < X.2.1 x) ∧ Ev X 4 98 ls (vi (h.1 x j.toNat) :: st) h Q) := R_ia rfl
theorem e_4_98 {x : Int} : Ev X 4 98 ls (vi x :: st) h Q ↔ (stOK ls 6 = true ∧ Ev X 4 99 (ls.set 6 (some (vi x))) st h Q) := R_is rfl (Or.inr rfl)
theorem e_4_99 : Ev X 4 99 ls st h Q ↔ onR (gl ls 3) (fun z => Ev X 4 100 ls (vr z :: st) h Q) := R_al rfl (Or.inl rfl)
theorem e_4_100 {x : Nat} : Ev X 4 100 ls (vr x :: st) h Q ↔ (X.1 x = 3 ∧ Ev X 4 101 ls (vr (X.2.2.1 x 5) :: st) h Q) := R_gr rfl
theorem e_4_101 : Ev X 4 101 ls st h Q ↔ onI (gl ls 2) (fun z => Ev X 4 102 ls (vi z :: st) h Q) := R_il rfl (Or.inl rfl)
theorem e_4_102 {x : Nat} {j : Int} : Ev X 4 102 ls (vi j :: vr x :: st) h Q ↔ (((X.1 x = 13 ∨ X.1 x = 20) ∧ 0 ≤ j ∧ j < X.2.1 x) ∧ Ev X 4 103 ls (vi (h.1 x j.toNat) :: st) h Q) := R_ia rfl
theorem e_4_103 {x : Int} : Ev X 4 103 ls (vi x :: st) h Q ↔ (stOK ls 7 = true ∧ Ev X 4 104 (ls.set 7 (some (vi x))) st h Q) := R_is rfl (Or.inr rfl)
theorem e_4_104 : Ev X 4 104 ls st h Q ↔ onI (gl ls 9) (fun x => (stOK ls 9 = true ∧ inR (x + 1)) ∧ Ev X 4 105 (ls.set 9 (some (vi (x + 1)))) st h Q) := R_inc rfl
theorem e_4_105 : Ev X 4 105 ls st h Q ↔ Ev X 4 21 ls st h Q := R_go rfl
theorem e_4_106 : Ev X 4 106 ls st h Q ↔ onR (gl ls 0) (fun z => Ev X 4 107 ls (vr z :: st) h Q) := R_al rfl (Or.inl rfl)
theorem e_4_107 {x : Nat} : Ev X 4 107 ls (vr x :: st) h Q ↔ (X.1 x = 0 ∧ Ev X 4 108 ls (vr (X.2.2.1 x 2) :: st) h Q) := R_gr rfl
theorem e_4_108 : Ev X 4 108 ls st h Q ↔ onR (gl ls 3) (fun z => Ev X 4 109 ls (vr z :: st) h Q) := R_al rfl (Or.inl rfl)
theorem e_4_109 : Ev X 4 109 ls st h Q ↔ onI (gl ls 2) (fun z => Ev X 4 110 ls (vi z :: st) h Q) := R_il rfl (Or.inl rfl)
theorem e_4_110 : Ev X 4 110 ls st h Q ↔ Ev X 4 111 ls (vi (-1) :: st) h Q := R_kc rfl (Or.inl ⟨Or.inl rfl, by decide⟩)
theorem e_4_111 {rest : List xV} {a0 : Nat} {a1 : Int} {a2 : Int} {o : Nat} : Ev X 4 111 ls ((vi a2) :: (vi a1) :: (vr a0) :: vr o :: rest) h Q ↔ ((X.1 o = 1 ∧ wd rest ≤ 8) ∧ Cl X 8 [vr o, vr a0, vi a1, vi a2] h (fun r h2 => Ev X 4 112 ls (r.toList ++ rest) h2 Q)) := R_cv (x := o) (as := [vr a0, vi a1, vi a2]) (k2 := 8) rfl rfl (Nat.le_of_ble_eq_true rfl)
theorem e_4_112 : Ev X 4 112 ls st h Q ↔ onR (gl ls 3) (fun z => Ev X 4 113 ls (vr z :: st) h Q) := R_al rfl (Or.inl rfl)
theorem e_4_113 {x : Nat} : Ev X 4 113 ls (vr x :: st) h Q ↔ (X.1 x = 3 ∧ Ev X 4 114 ls (vr (X.2.2.1 x 4) :: st) h Q) := R_gr rfl
theorem e_4_114 : Ev X 4 114 ls st h Q ↔ onI (gl ls 2) (fun z => Ev X 4 115 ls (vi z :: st) h Q) := R_il rfl (Or.inl rfl)
theorem e_4_115 : Ev X 4 115 ls st h Q ↔ onI (gl ls 6) (fun z => Ev X 4 116 ls (vi z :: st) h Q) := R_il rfl (Or.inr rfl)
theorem e_4_116 {x : Nat} {j v : Int} : Ev X 4 116 ls (vi v :: vi j :: vr x :: st) h Q ↔ ((X.1 x = 13 ∧ 0 ≤ j ∧ j < X.2.1 x) ∧ Ev X 4 117 ls st (up2 h.1 x j.toNat v, h.2) Q) := R_ias rfl
theorem e_4_117 : Ev X 4 117 ls st h Q ↔ onR (gl ls 3) (fun z => Ev X 4 118 ls (vr z :: st) h Q) := R_al rfl (Or.inl rfl)
theorem e_4_118 {x : Nat} : Ev X 4 118 ls (vr x :: st) h Q ↔ (X.1 x = 3 ∧ Ev X 4 119 ls (vr (X.2.2.1 x 5) :: st) h Q) := R_gr rfl
theorem e_4_119 : Ev X 4 119 ls st h Q ↔ onI (gl ls 2) (fun z => Ev X 4 120 ls (vi z :: st) h Q) := R_il rfl (Or.inl rfl)
theorem e_4_120 : Ev X 4 120 ls st h Q ↔ onI (gl ls 7) (fun z => Ev X 4 121 ls (vi z :: st) h Q) := R_il rfl (Or.inr rfl)
theorem e_4_121 {x : Nat} {j v : Int} : Ev X 4 121 ls (vi v :: vi j :: vr x :: st) h Q ↔ ((X.1 x = 13 ∧ 0 ≤ j ∧ j < X.2.1 x) ∧ Ev X 4 122 ls st (up2 h.1 x j.toNat v, h.2) Q) := R_ias rfl
theorem e_4_122 : Ev X 4 122 ls st h Q ↔ onR (gl ls 0) (fun z => Ev X 4 123 ls (vr z :: st) h Q) := R_al rfl (Or.inl rfl)
theorem e_4_123 {x : Nat} : Ev X 4 123 ls (vr x :: st) h Q ↔ (X.1 x = 0 ∧ Ev X 4 124 ls (vr (X.2.2.1 x 2) :: st) h Q) := R_gr rfl
theorem e_4_124 : Ev X 4 124 ls st h Q ↔ onR (gl ls 3) (fun z => Ev X 4 125 ls (vr z :: st) h Q) := R_al rfl (Or.inl rfl)
theorem e_4_125 : Ev X 4 125 ls st h Q ↔ onI (gl ls 2) (fun z => Ev X 4 126 ls (vi z :: st) h Q) := R_il rfl (Or.inl rfl)
theorem e_4_126 : Ev X 4 126 ls st h Q ↔ Ev X 4 127 ls (vi 1 :: st) h Q := R_kc rfl (Or.inl ⟨Or.inl rfl, by decide⟩)
theorem e_4_127 {rest : List xV} {a0 : Nat} {a1 : Int} {a2 : Int} {o : Nat} : Ev X 4 127 ls ((vi a2) :: (vi a1) :: (vr a0) :: vr o :: rest) h Q ↔ ((X.1 o = 1 ∧ wd rest ≤ 8) ∧ Cl X 8 [vr o, vr a0, vi a1, vi a2] h (fun r h2 => Ev X 4 128 ls (r.toList ++ rest) h2 Q)) := R_cv (x := o) (as := [vr a0, vi a1, vi a2]) (k2 := 8) rfl rfl (Nat.le_of_ble_eq_true rfl)
theorem e_4_128 : Ev X 4 128 ls [] h Q ↔ Q none h := R_vr rfl
-- 5: CellRows$Bins.clear([I)V
theorem e_5_0 : Ev X 5 0 ls st h Q ↔ Ev X 5 1 ls (vi 0 :: st) h Q := R_kc rfl (Or.inl ⟨Or.inl rfl, by decide⟩)
theorem e_5_1 {x : Int} : Ev X 5 1 ls (vi x :: st) h Q ↔ (stOK ls 1 = true ∧ Ev X 5 2 (ls.set 1 (some (vi x))) st h Q) := R_is rfl (Or.inl rfl)
theorem e_5_2 : Ev X 5 2 ls st h Q ↔ onI (gl ls 1) (fun z => Ev X 5 3 ls (vi z :: st) h Q) := R_il rfl (Or.inl rfl)
theorem e_5_3 : Ev X 5 3 ls st h Q ↔ onR (gl ls 0) (fun z => Ev X 5 4 ls (vr z :: st) h Q) := R_al rfl (Or.inl rfl)
theorem e_5_4 {x : Nat} : Ev X 5 4 ls (vr x :: st) h Q ↔ ((X.1 x = 13 ∨ X.1 x = 20) ∧ Ev X 5 5 ls (vi (X.2.1 x) :: st) h Q) := R_len rfl
theorem e_5_5 {x y : Int} : Ev X 5 5 ls (vi y :: vi x :: st) h Q ↔ (if y ≤ x then Ev X 5 12 ls st h Q else Ev X 5 6 ls st h Q) := R_icge rfl
theorem e_5_6 : Ev X 5 6 ls st h Q ↔ onR (gl ls 0) (fun z => Ev X 5 7 ls (vr z :: st) h Q) := R_al rfl (Or.inl rfl)
theorem e_5_7 : Ev X 5 7 ls st h Q ↔ onI (gl ls 1) (fun z => Ev X 5 8 ls (vi z :: st) h Q) := R_il rfl (Or.inl rfl)
theorem e_5_8 : Ev X 5 8 ls st h Q ↔ Ev X 5 9 ls (vi 0 :: st) h Q := R_kc rfl (Or.inl ⟨Or.inl rfl, by decide⟩)
theorem e_5_9 {x : Nat} {j v : Int} : Ev X 5 9 ls (vi v :: vi j :: vr x :: st) h Q ↔ ((X.1 x = 13 ∧ 0 ≤ j ∧ j < X.2.1 x) ∧ Ev X 5 10 ls st (up2 h.1 x j.toNat v, h.2) Q) := R_ias rfl
theorem e_5_10 : Ev X 5 10 ls st h Q ↔ onI (gl ls 1) (fun x => (stOK ls 1 = true ∧ inR (x + 1)) ∧ Ev X 5 11 (ls.set 1 (some (vi (x + 1)))) st h Q) := R_inc rfl
theorem e_5_11 : Ev X 5 11 ls st h Q ↔ Ev X 5 2 ls st h Q := R_go rfl
theorem e_5_12 : Ev X 5 12 ls [] h Q ↔ Q none h := R_vr rfl
-- 6: CellRows$Bins.findSupply(LCellRows$Ground;)V
theorem e_6_0 : Ev X 6 0 ls st h Q ↔ onR (gl ls 0) (fun z => Ev X 6 1 ls (vr z :: st) h Q) := R_al rfl (Or.inl rfl)
theorem e_6_1 {x : Nat} : Ev X 6 1 ls (vr x :: st) h Q ↔ (X.1 x = 1 ∧ Ev X 6 2 ls (vr (X.2.2.1 x 3) :: st) h Q) := R_gr rfl
theorem e_6_2 {rest : List xV} {a0 : Nat} : Ev X 6 2 ls ((vr a0) :: rest) h Q ↔ (wd rest ≤ 8 ∧ Cl X 5 [vr a0] h (fun r h2 => Ev X 6 3 ls (r.toList ++ rest) h2 Q)) := R_cs (as := [vr a0]) (k2 := 5) rfl rfl (Nat.le_of_ble_eq_true rfl)
theorem e_6_3 : Ev X 6 3 ls st h Q ↔ Ev X 6 4 ls (vi 0 :: st) h Q := R_kc rfl (Or.inl ⟨Or.inl rfl, by decide⟩)
theorem e_6_4 {x : Int} : Ev X 6 4 ls (vi x :: st) h Q ↔ (stOK ls 2 = true ∧ Ev X 6 5 (ls.set 2 (some (vi x))) st h Q) := R_is rfl (Or.inl rfl)
theorem e_6_5 : Ev X 6 5 ls st h Q ↔ onI (gl ls 2) (fun z => Ev X 6 6 ls (vi z :: st) h Q) := R_il rfl (Or.inl rfl)
theorem e_6_6 : Ev X 6 6 ls st h Q ↔ onR (gl ls 1) (fun z => Ev X 6 7 ls (vr z :: st) h Q) := R_al rfl (Or.inl rfl)
theorem e_6_7 {x : Nat} : Ev X 6 7 ls (vr x :: st) h Q ↔ (X.1 x = 4 ∧ Ev X 6 8 ls (vi (h.2 x 0) :: st) h Q) := R_gi rfl
theorem e_6_8 {x y : Int} : Ev X 6 8 ls (vi y :: vi x :: st) h Q ↔ (if y ≤ x then Ev X 6 41 ls st h Q else Ev X 6 9 ls st h Q) := R_icge rfl
theorem e_6_9 : Ev X 6 9 ls st h Q ↔ Ev X 6 10 ls (vi 0 :: st) h Q := R_kc rfl (Or.inl ⟨Or.inl rfl, by decide⟩)
theorem e_6_10 {x : Int} : Ev X 6 10 ls (vi x :: st) h Q ↔ (stOK ls 3 = true ∧ Ev X 6 11 (ls.set 3 (some (vi x))) st h Q) := R_is rfl (Or.inl rfl)
theorem e_6_11 : Ev X 6 11 ls st h Q ↔ onI (gl ls 3) (fun z => Ev X 6 12 ls (vi z :: st) h Q) := R_il rfl (Or.inl rfl)
theorem e_6_12 : Ev X 6 12 ls st h Q ↔ onR (gl ls 1) (fun z => Ev X 6 13 ls (vr z :: st) h Q) := R_al rfl (Or.inl rfl)
theorem e_6_13 {x : Nat} : Ev X 6 13 ls (vr x :: st) h Q ↔ (X.1 x = 4 ∧ Ev X 6 14 ls (vi (h.2 x 1) :: st) h Q) := R_gi rfl
theorem e_6_14 {x y : Int} : Ev X 6 14 ls (vi y :: vi x :: st) h Q ↔ (if y ≤ x then Ev X 6 39 ls st h Q else Ev X 6 15 ls st h Q) := R_icge rfl
theorem e_6_15 : Ev X 6 15 ls st h Q ↔ onR (gl ls 1) (fun z => Ev X 6 16 ls (vr z :: st) h Q) := R_al rfl (Or.inl rfl)
theorem e_6_16 : Ev X 6 16 ls st h Q ↔ onI (gl ls 2) (fun z => Ev X 6 17 ls (vi z :: st) h Q) := R_il rfl (Or.inl rfl)
theorem e_6_17 : Ev X 6 17 ls st h Q ↔ onI (gl ls 3) (fun z => Ev X 6 18 ls (vi z :: st) h Q) := R_il rfl (Or.inl rfl)
theorem e_6_18 {rest : List xV} {a0 : Int} {a1 : Int} {o : Nat} : Ev X 6 18 ls ((vi a1) :: (vi a0) :: vr o :: rest) h Q ↔ ((X.1 o = 4 ∧ wd rest ≤ 8) ∧ Cl X 35 [vr o, vi a0, vi a1] h (fun r h2 => Ev X 6 19 ls (r.toList ++ rest) h2 Q)) := R_cv (x := o) (as := [vi a0, vi a1]) (k2 := 35) rfl rfl (Nat.le_of_ble_eq_true rfl)
theorem e_6_19 {x : Int} : Ev X 6 19 ls (vi x :: st) h Q ↔ (if x = 0 then Ev X 6 37 ls st h Q else Ev X 6 20 ls st h Q) := R_ifeq rfl
theorem e_6_20 : Ev X 6 20 ls st h Q ↔ onR (gl ls 0) (fun z => Ev X 6 21 ls (vr z :: st) h Q) := R_al rfl (Or.inl rfl)
theorem e_6_21 {x : Nat} : Ev X 6 21 ls (vr x :: st) h Q ↔ (X.1 x = 1 ∧ Ev X 6 22 ls (vr (X.2.2.1 x 3) :: st) h Q) := R_gr rfl
theorem e_6_22 : Ev X 6 22 ls st h Q ↔ onI (gl ls 2) (fun z => Ev X 6 23 ls (vi z :: st) h Q) := R_il rfl (Or.inl rfl)
theorem e_6_23 : Ev X 6 23 ls st h Q ↔ Ev X 6 24 ls (vi 2 :: st) h Q := R_kc rfl (Or.inl ⟨Or.inl rfl, by decide⟩)
theorem e_6_24 {x y : Int} : Ev X 6 24 ls (vi y :: vi x :: st) h Q ↔ ((y ≠ 0 ∧ inR (x.tdiv y)) ∧ Ev X 6 25 ls (vi (x.tdiv y) :: st) h Q) := R_div rfl
theorem e_6_25 : Ev X 6 25 ls st h Q ↔ onR (gl ls 0) (fun z => Ev X 6 26 ls (vr z :: st) h Q) := R_al rfl (Or.inl rfl)
theorem e_6_26 {x : Nat} : Ev X 6 26 ls (vr x :: st) h Q ↔ (X.1 x = 1 ∧ Ev X 6 27 ls (vi (h.2 x 1) :: st) h Q) := R_gi rfl
theorem e_6_27 {x y : Int} : Ev X 6 27 ls (vi y :: vi x :: st) h Q ↔ ((inR (x * y)) ∧ Ev X 6 28 ls (vi (x * y) :: st) h Q) := R_mul rfl
theorem e_6_28 : Ev X 6 28 ls st h Q ↔ onI (gl ls 3) (fun z => Ev X 6 29 ls (vi z :: st) h Q) := R_il rfl (Or.inl rfl)
theorem e_6_29 : Ev X 6 29 ls st h Q ↔ Ev X 6 30 ls (vi 8 :: st) h Q := R_kc rfl (Or.inr (Or.inl ⟨rfl, by decide⟩))
theorem e_6_30 {x y : Int} : Ev X 6 30 ls (vi y :: vi x :: st) h Q ↔ ((y ≠ 0 ∧ inR (x.tdiv y)) ∧ Ev X 6 31 ls (vi (x.tdiv y) :: st) h Q) := R_div rfl
theorem e_6_31 {x y : Int} : Ev X 6 31 ls (vi y :: vi x :: st) h Q ↔ ((inR (x + y)) ∧ Ev X 6 32 ls (vi (x + y) :: st) h Q) := R_add rfl
theorem e_6_32 {v w : xV} : Ev X 6 32 ls (v :: w :: st) h Q ↔ ((ct1 v = true ∧ ct1 w = true) ∧ Ev X 6 33 ls (v :: w :: v :: w :: st) h Q) := R_dup2 rfl
theorem e_6_33 {x : Nat} {j : Int} : Ev X 6 33 ls (vi j :: vr x :: st) h Q ↔ (((X.1 x = 13 ∨ X.1 x = 20) ∧ 0 ≤ j ∧ j < X.2.1 x) ∧ Ev X 6 34 ls (vi (h.1 x j.toNat) :: st) h Q) := R_ia rfl
theorem e_6_34 : Ev X 6 34 ls st h Q ↔ Ev X 6 35 ls (vi 256 :: st) h Q := R_kc rfl (Or.inr (Or.inr ⟨rfl, by decide⟩))
theorem e_6_35 {x y : Int} : Ev X 6 35 ls (vi y :: vi x :: st) h Q ↔ ((inR (x + y)) ∧ Ev X 6 36 ls (vi (x + y) :: st) h Q) := R_add rfl
theorem e_6_36 {x : Nat} {j v : Int} : Ev X 6 36 ls (vi v :: vi j :: vr x :: st) h Q ↔ ((X.1 x = 13 ∧ 0 ≤ j ∧ j < X.2.1 x) ∧ Ev X 6 37 ls st (up2 h.1 x j.toNat v, h.2) Q) := R_ias rfl
theorem e_6_37 : Ev X 6 37 ls st h Q ↔ onI (gl ls 3) (fun x => (stOK ls 3 = true ∧ inR (x + 1)) ∧ Ev X 6 38 (ls.set 3 (some (vi (x + 1)))) st h Q) := R_inc rfl
theorem e_6_38 : Ev X 6 38 ls st h Q ↔ Ev X 6 11 ls st h Q := R_go rfl
theorem e_6_39 : Ev X 6 39 ls st h Q ↔ onI (gl ls 2) (fun x => (stOK ls 2 = true ∧ inR (x + 1)) ∧ Ev X 6 40 (ls.set 2 (some (vi (x + 1)))) st h Q) := R_inc rfl
theorem e_6_40 : Ev X 6 40 ls st h Q ↔ Ev X 6 5 ls st h Q := R_go rfl
theorem e_6_41 : Ev X 6 41 ls [] h Q ↔ Q none h := R_vr rfl
-- 7: CellRows$Bins.findNeed(LCellRows$Cells;)V
theorem e_7_0 : Ev X 7 0 ls st h Q ↔ onR (gl ls 0) (fun z => Ev X 7 1 ls (vr z :: st) h Q) := R_al rfl (Or.inl rfl)
theorem e_7_1 {x : Nat} : Ev X 7 1 ls (vr x :: st) h Q ↔ (X.1 x = 1 ∧ Ev X 7 2 ls (vr (X.2.2.1 x 4) :: st) h Q) := R_gr rfl
theorem e_7_2 {rest : List xV} {a0 : Nat} : Ev X 7 2 ls ((vr a0) :: rest) h Q ↔ (wd rest ≤ 8 ∧ Cl X 5 [vr a0] h (fun r h2 => Ev X 7 3 ls (r.toList ++ rest) h2 Q)) := R_cs (as := [vr a0]) (k2 := 5) rfl rfl (Nat.le_of_ble_eq_true rfl)
theorem e_7_3 : Ev X 7 3 ls st h Q ↔ Ev X 7 4 ls (vi 0 :: st) h Q := R_kc rfl (Or.inl ⟨Or.inl rfl, by decide⟩)
theorem e_7_4 {x : Int} : Ev X 7 4 ls (vi x :: st) h Q ↔ (stOK ls 2 = true ∧ Ev X 7 5 (ls.set 2 (some (vi x))) st h Q) := R_is rfl (Or.inl rfl)
theorem e_7_5 : Ev X 7 5 ls st h Q ↔ onI (gl ls 2) (fun z => Ev X 7 6 ls (vi z :: st) h Q) := R_il rfl (Or.inl rfl)
theorem e_7_6 : Ev X 7 6 ls st h Q ↔ onR (gl ls 1) (fun z => Ev X 7 7 ls (vr z :: st) h Q) := R_al rfl (Or.inl rfl)
theorem e_7_7 {x : Nat} : Ev X 7 7 ls (vr x :: st) h Q ↔ (X.1 x = 3 ∧ Ev X 7 8 ls (vi (h.2 x 0) :: st) h Q) := R_gi rfl
theorem e_7_8 {x y : Int} : Ev X 7 8 ls (vi y :: vi x :: st) h Q ↔ (if y ≤ x then Ev X 7 21 ls st h Q else Ev X 7 9 ls st h Q) := R_icge rfl
theorem e_7_9 : Ev X 7 9 ls st h Q ↔ onR (gl ls 1) (fun z => Ev X 7 10 ls (vr z :: st) h Q) := R_al rfl (Or.inl rfl)
theorem e_7_10 {x : Nat} : Ev X 7 10 ls (vr x :: st) h Q ↔ (X.1 x = 3 ∧ Ev X 7 11 ls (vr (X.2.2.1 x 3) :: st) h Q) := R_gr rfl
theorem e_7_11 : Ev X 7 11 ls st h Q ↔ onI (gl ls 2) (fun z => Ev X 7 12 ls (vi z :: st) h Q) := R_il rfl (Or.inl rfl)
theorem e_7_12 {x : Nat} {j : Int} : Ev X 7 12 ls (vi j :: vr x :: st) h Q ↔ ((X.1 x = 14 ∧ 0 ≤ j ∧ j < X.2.1 x) ∧ Ev X 7 13 ls (vi (h.1 x j.toNat) :: st) h Q) := R_ba rfl
theorem e_7_13 {x : Int} : Ev X 7 13 ls (vi x :: st) h Q ↔ (if ¬ x = 0 then Ev X 7 19 ls st h Q else Ev X 7 14 ls st h Q) := R_ifne rfl
theorem e_7_14 : Ev X 7 14 ls st h Q ↔ onR (gl ls 0) (fun z => Ev X 7 15 ls (vr z :: st) h Q) := R_al rfl (Or.inl rfl)
theorem e_7_15 : Ev X 7 15 ls st h Q ↔ onR (gl ls 1) (fun z => Ev X 7 16 ls (vr z :: st) h Q) := R_al rfl (Or.inl rfl)
theorem e_7_16 : Ev X 7 16 ls st h Q ↔ onI (gl ls 2) (fun z => Ev X 7 17 ls (vi z :: st) h Q) := R_il rfl (Or.inl rfl)
theorem e_7_17 : Ev X 7 17 ls st h Q ↔ Ev X 7 18 ls (vi 1 :: st) h Q := R_kc rfl (Or.inl ⟨Or.inl rfl, by decide⟩)
theorem e_7_18 {rest : List xV} {a0 : Nat} {a1 : Int} {a2 : Int} {o : Nat} : Ev X 7 18 ls ((vi a2) :: (vi a1) :: (vr a0) :: vr o :: rest) h Q ↔ ((X.1 o = 1 ∧ wd rest ≤ 8) ∧ Cl X 8 [vr o, vr a0, vi a1, vi a2] h (fun r h2 => Ev X 7 19 ls (r.toList ++ rest) h2 Q)) := R_cv (x := o) (as := [vr a0, vi a1, vi a2]) (k2 := 8) rfl rfl (Nat.le_of_ble_eq_true rfl)
theorem e_7_19 : Ev X 7 19 ls st h Q ↔ onI (gl ls 2) (fun x => (stOK ls 2 = true ∧ inR (x + 1)) ∧ Ev X 7 20 (ls.set 2 (some (vi (x + 1)))) st h Q) := R_inc rfl
theorem e_7_20 : Ev X 7 20 ls st h Q ↔ Ev X 7 5 ls st h Q := R_go rfl
theorem e_7_21 : Ev X 7 21 ls [] h Q ↔ Q none h := R_vr rfl
-- 8: CellRows$Bins.addNeed(LCellRows$Cells;II)V
theorem e_8_0 : Ev X 8 0 ls st h Q ↔ onR (gl ls 1) (fun z => Ev X 8 1 ls (vr z :: st) h Q) := R_al rfl (Or.inl rfl)
theorem e_8_1 {x : Nat} : Ev X 8 1 ls (vr x :: st) h Q ↔ (X.1 x = 3 ∧ Ev X 8 2 ls (vr (X.2.2.1 x 4) :: st) h Q) := R_gr rfl
theorem e_8_2 : Ev X 8 2 ls st h Q ↔ onI (gl ls 2) (fun z => Ev X 8 3 ls (vi z :: st) h Q) := R_il rfl (Or.inl rfl)
theorem e_8_3 {x : Nat} {j : Int} : Ev X 8 3 ls (vi j :: vr x :: st) h Q ↔ (((X.1 x = 13 ∨ X.1 x = 20) ∧ 0 ≤ j ∧ j < X.2.1 x) ∧ Ev X 8 4 ls (vi (h.1 x j.toNat) :: st) h Q) := R_ia rfl
theorem e_8_4 {x : Int} : Ev X 8 4 ls (vi x :: st) h Q ↔ (stOK ls 4 = true ∧ Ev X 8 5 (ls.set 4 (some (vi x))) st h Q) := R_is rfl (Or.inr rfl)
theorem e_8_5 : Ev X 8 5 ls st h Q ↔ onR (gl ls 1) (fun z => Ev X 8 6 ls (vr z :: st) h Q) := R_al rfl (Or.inl rfl)
theorem e_8_6 {x : Nat} : Ev X 8 6 ls (vr x :: st) h Q ↔ (X.1 x = 3 ∧ Ev X 8 7 ls (vr (X.2.2.1 x 5) :: st) h Q) := R_gr rfl
theorem e_8_7 : Ev X 8 7 ls st h Q ↔ onI (gl ls 2) (fun z => Ev X 8 8 ls (vi z :: st) h Q) := R_il rfl (Or.inl rfl)
theorem e_8_8 {x : Nat} {j : Int} : Ev X 8 8 ls (vi j :: vr x :: st) h Q ↔ (((X.1 x = 13 ∨ X.1 x = 20) ∧ 0 ≤ j ∧ j < X.2.1 x) ∧ Ev X 8 9 ls (vi (h.1 x j.toNat) :: st) h Q) := R_ia rfl
theorem e_8_9 {x : Int} : Ev X 8 9 ls (vi x :: st) h Q ↔ (stOK ls 5 = true ∧ Ev X 8 10 (ls.set 5 (some (vi x))) st h Q) := R_is rfl (Or.inr rfl)
theorem e_8_10 : Ev X 8 10 ls st h Q ↔ onI (gl ls 4) (fun z => Ev X 8 11 ls (vi z :: st) h Q) := R_il rfl (Or.inr rfl)
theorem e_8_11 : Ev X 8 11 ls st h Q ↔ Ev X 8 12 ls (vi 16 :: st) h Q := R_kc rfl (Or.inr (Or.inl ⟨rfl, by decide⟩))
theorem e_8_12 : Ev X 8 12 ls st h Q ↔ onR (gl ls 1) (fun z => Ev X 8 13 ls (vr z :: st) h Q) := R_al rfl (Or.inl rfl)
theorem e_8_13 {x : Nat} : Ev X 8 13 ls (vr x :: st) h Q ↔ (X.1 x = 3 ∧ Ev X 8 14 ls (vr (X.2.2.1 x 1) :: st) h Q) := R_gr rfl
theorem e_8_14 : Ev X 8 14 ls st h Q ↔ onI (gl ls 2) (fun z => Ev X 8 15 ls (vi z :: st) h Q) := R_il rfl (Or.inl rfl)
theorem e_8_15 {x : Nat} {j : Int} : Ev X 8 15 ls (vi j :: vr x :: st) h Q ↔ (((X.1 x = 13 ∨ X.1 x = 20) ∧ 0 ≤ j ∧ j < X.2.1 x) ∧ Ev X 8 16 ls (vi (h.1 x j.toNat) :: st) h Q) := R_ia rfl
theorem e_8_16 {x y : Int} : Ev X 8 16 ls (vi y :: vi x :: st) h Q ↔ ((inR (x * y)) ∧ Ev X 8 17 ls (vi (x * y) :: st) h Q) := R_mul rfl
theorem e_8_17 {x y : Int} : Ev X 8 17 ls (vi y :: vi x :: st) h Q ↔ ((inR (x + y)) ∧ Ev X 8 18 ls (vi (x + y) :: st) h Q) := R_add rfl
theorem e_8_18 {x : Int} : Ev X 8 18 ls (vi x :: st) h Q ↔ (stOK ls 6 = true ∧ Ev X 8 19 (ls.set 6 (some (vi x))) st h Q) := R_is rfl (Or.inr rfl)
theorem e_8_19 : Ev X 8 19 ls st h Q ↔ onI (gl ls 5) (fun z => Ev X 8 20 ls (vi z :: st) h Q) := R_il rfl (Or.inr rfl)
theorem e_8_20 : Ev X 8 20 ls st h Q ↔ Ev X 8 21 ls (vi 16 :: st) h Q := R_kc rfl (Or.inr (Or.inl ⟨rfl, by decide⟩))
theorem e_8_21 {x y : Int} : Ev X 8 21 ls (vi y :: vi x :: st) h Q ↔ ((inR (x + y)) ∧ Ev X 8 22 ls (vi (x + y) :: st) h Q) := R_add rfl
theorem e_8_22 {x : Int} : Ev X 8 22 ls (vi x :: st) h Q ↔ (stOK ls 7 = true ∧ Ev X 8 23 (ls.set 7 (some (vi x))) st h Q) := R_is rfl (Or.inr rfl)
theorem e_8_23 : Ev X 8 23 ls st h Q ↔ onI (gl ls 5) (fun z => Ev X 8 24 ls (vi z :: st) h Q) := R_il rfl (Or.inr rfl)
theorem e_8_24 : Ev X 8 24 ls st h Q ↔ Ev X 8 25 ls (vi 32 :: st) h Q := R_kc rfl (Or.inr (Or.inl ⟨rfl, by decide⟩))
theorem e_8_25 {x y : Int} : Ev X 8 25 ls (vi y :: vi x :: st) h Q ↔ ((y ≠ 0 ∧ inR (x.tdiv y)) ∧ Ev X 8 26 ls (vi (x.tdiv y) :: st) h Q) := R_div rfl
theorem e_8_26 {x : Int} : Ev X 8 26 ls (vi x :: st) h Q ↔ (stOK ls 8 = true ∧ Ev X 8 27 (ls.set 8 (some (vi x))) st h Q) := R_is rfl (Or.inr rfl)
theorem e_8_27 : Ev X 8 27 ls st h Q ↔ onI (gl ls 8) (fun z => Ev X 8 28 ls (vi z :: st) h Q) := R_il rfl (Or.inr rfl)
theorem e_8_28 : Ev X 8 28 ls st h Q ↔ onI (gl ls 7) (fun z => Ev X 8 29 ls (vi z :: st) h Q) := R_il rfl (Or.inr rfl)
theorem e_8_29 : Ev X 8 29 ls st h Q ↔ Ev X 8 30 ls (vi 1 :: st) h Q := R_kc rfl (Or.inl ⟨Or.inl rfl, by decide⟩)
theorem e_8_30 {x y : Int} : Ev X 8 30 ls (vi y :: vi x :: st) h Q ↔ ((inR (x - y)) ∧ Ev X 8 31 ls (vi (x - y) :: st) h Q) := R_sub rfl
theorem e_8_31 : Ev X 8 31 ls st h Q ↔ Ev X 8 32 ls (vi 32 :: st) h Q := R_kc rfl (Or.inr (Or.inl ⟨rfl, by decide⟩))
theorem e_8_32 {x y : Int} : Ev X 8 32 ls (vi y :: vi x :: st) h Q ↔ ((y ≠ 0 ∧ inR (x.tdiv y)) ∧ Ev X 8 33 ls (vi (x.tdiv y) :: st) h Q) := R_div rfl
theorem e_8_33 {x y : Int} : Ev X 8 33 ls (vi y :: vi x :: st) h Q ↔ (if y < x then Ev X 8 94 ls st h Q else Ev X 8 34 ls st h Q) := R_icgt rfl
theorem e_8_34 : Ev X 8 34 ls st h Q ↔ onI (gl ls 7) (fun z => Ev X 8 35 ls (vi z :: st) h Q) := R_il rfl (Or.inr rfl)
theorem e_8_35 : Ev X 8 35 ls st h Q ↔ onI (gl ls 8) (fun z => Ev X 8 36 ls (vi z :: st) h Q) := R_il rfl (Or.inr rfl)
theorem e_8_36 : Ev X 8 36 ls st h Q ↔ Ev X 8 37 ls (vi 1 :: st) h Q := R_kc rfl (Or.inl ⟨Or.inl rfl, by decide⟩)
theorem e_8_37 {x y : Int} : Ev X 8 37 ls (vi y :: vi x :: st) h Q ↔ ((inR (x + y)) ∧ Ev X 8 38 ls (vi (x + y) :: st) h Q) := R_add rfl
theorem e_8_38 : Ev X 8 38 ls st h Q ↔ Ev X 8 39 ls (vi 32 :: st) h Q := R_kc rfl (Or.inr (Or.inl ⟨rfl, by decide⟩))
theorem e_8_39 {x y : Int} : Ev X 8 39 ls (vi y :: vi x :: st) h Q ↔ ((inR (x * y)) ∧ Ev X 8 40 ls (vi (x * y) :: st) h Q) := R_mul rfl
theorem e_8_40 {rest : List xV} {a0 : Int} {a1 : Int} : Ev X 8 40 ls ((vi a1) :: (vi a0) :: rest) h Q ↔ (wd rest ≤ 8 ∧ Cl X 285 [vi a0, vi a1] h (fun r h2 => Ev X 8 41 ls (r.toList ++ rest) h2 Q)) := R_cs (as := [vi a0, vi a1]) (k2 := 285) rfl rfl (Nat.le_of_ble_eq_true rfl)
theorem e_8_41 : Ev X 8 41 ls st h Q ↔ onI (gl ls 5) (fun z => Ev X 8 42 ls (vi z :: st) h Q) := R_il rfl (Or.inr rfl)
theorem e_8_42 : Ev X 8 42 ls st h Q ↔ onI (gl ls 8) (fun z => Ev X 8 43 ls (vi z :: st) h Q) := R_il rfl (Or.inr rfl)
theorem e_8_43 : Ev X 8 43 ls st h Q ↔ Ev X 8 44 ls (vi 32 :: st) h Q := R_kc rfl (Or.inr (Or.inl ⟨rfl, by decide⟩))
theorem e_8_44 {x y : Int} : Ev X 8 44 ls (vi y :: vi x :: st) h Q ↔ ((inR (x * y)) ∧ Ev X 8 45 ls (vi (x * y) :: st) h Q) := R_mul rfl
theorem e_8_45 {rest : List xV} {a0 : Int} {a1 : Int} : Ev X 8 45 ls ((vi a1) :: (vi a0) :: rest) h Q ↔ (wd rest ≤ 8 ∧ Cl X 284 [vi a0, vi a1] h (fun r h2 => Ev X 8 46 ls (r.toList ++ rest) h2 Q)) := R_cs (as := [vi a0, vi a1]) (k2 := 284) rfl rfl (Nat.le_of_ble_eq_true rfl)
theorem e_8_46 {x y : Int} : Ev X 8 46 ls (vi y :: vi x :: st) h Q ↔ ((inR (x - y)) ∧ Ev X 8 47 ls (vi (x - y) :: st) h Q) := R_sub rfl
theorem e_8_47 {x : Int} : Ev X 8 47 ls (vi x :: st) h Q ↔ (stOK ls 9 = true ∧ Ev X 8 48 (ls.set 9 (some (vi x))) st h Q) := R_is rfl (Or.inr rfl)
theorem e_8_48 : Ev X 8 48 ls st h Q ↔ onI (gl ls 4) (fun z => Ev X 8 49 ls (vi z :: st) h Q) := R_il rfl (Or.inr rfl)
theorem e_8_49 : Ev X 8 49 ls st h Q ↔ Ev X 8 50 ls (vi 128 :: st) h Q := R_kc rfl (Or.inr (Or.inr ⟨rfl, by decide⟩))
theorem e_8_50 {x y : Int} : Ev X 8 50 ls (vi y :: vi x :: st) h Q ↔ ((y ≠ 0 ∧ inR (x.tdiv y)) ∧ Ev X 8 51 ls (vi (x.tdiv y) :: st) h Q) := R_div rfl
theorem e_8_51 {x : Int} : Ev X 8 51 ls (vi x :: st) h Q ↔ (stOK ls 10 = true ∧ Ev X 8 52 (ls.set 10 (some (vi x))) st h Q) := R_is rfl (Or.inr rfl)
theorem e_8_52 : Ev X 8 52 ls st h Q ↔ onI (gl ls 10) (fun z => Ev X 8 53 ls (vi z :: st) h Q) := R_il rfl (Or.inr rfl)
theorem e_8_53 : Ev X 8 53 ls st h Q ↔ onI (gl ls 6) (fun z => Ev X 8 54 ls (vi z :: st) h Q) := R_il rfl (Or.inr rfl)
theorem e_8_54 : Ev X 8 54 ls st h Q ↔ Ev X 8 55 ls (vi 1 :: st) h Q := R_kc rfl (Or.inl ⟨Or.inl rfl, by decide⟩)
theorem e_8_55 {x y : Int} : Ev X 8 55 ls (vi y :: vi x :: st) h Q ↔ ((inR (x - y)) ∧ Ev X 8 56 ls (vi (x - y) :: st) h Q) := R_sub rfl
theorem e_8_56 : Ev X 8 56 ls st h Q ↔ Ev X 8 57 ls (vi 128 :: st) h Q := R_kc rfl (Or.inr (Or.inr ⟨rfl, by decide⟩))
theorem e_8_57 {x y : Int} : Ev X 8 57 ls (vi y :: vi x :: st) h Q ↔ ((y ≠ 0 ∧ inR (x.tdiv y)) ∧ Ev X 8 58 ls (vi (x.tdiv y) :: st) h Q) := R_div rfl
theorem e_8_58 {x y : Int} : Ev X 8 58 ls (vi y :: vi x :: st) h Q ↔ (if y < x then Ev X 8 92 ls st h Q else Ev X 8 59 ls st h Q) := R_icgt rfl
theorem e_8_59 : Ev X 8 59 ls st h Q ↔ onI (gl ls 6) (fun z => Ev X 8 60 ls (vi z :: st) h Q) := R_il rfl (Or.inr rfl)
theorem e_8_60 : Ev X 8 60 ls st h Q ↔ onI (gl ls 10) (fun z => Ev X 8 61 ls (vi z :: st) h Q) := R_il rfl (Or.inr rfl)
theorem e_8_61 : Ev X 8 61 ls st h Q ↔ Ev X 8 62 ls (vi 1 :: st) h Q := R_kc rfl (Or.inl ⟨Or.inl rfl, by decide⟩)
theorem e_8_62 {x y : Int} : Ev X 8 62 ls (vi y :: vi x :: st) h Q ↔ ((inR (x + y)) ∧ Ev X 8 63 ls (vi (x + y) :: st) h Q) := R_add rfl
theorem e_8_63 : Ev X 8 63 ls st h Q ↔ Ev X 8 64 ls (vi 128 :: st) h Q := R_kc rfl (Or.inr (Or.inr ⟨rfl, by decide⟩))
theorem e_8_64 {x y : Int} : Ev X 8 64 ls (vi y :: vi x :: st) h Q ↔ ((inR (x * y)) ∧ Ev X 8 65 ls (vi (x * y) :: st) h Q) := R_mul rfl
theorem e_8_65 {rest : List xV} {a0 : Int} {a1 : Int} : Ev X 8 65 ls ((vi a1) :: (vi a0) :: rest) h Q ↔ (wd rest ≤ 8 ∧ Cl X 285 [vi a0, vi a1] h (fun r h2 => Ev X 8 66 ls (r.toList ++ rest) h2 Q)) := R_cs (as := [vi a0, vi a1]) (k2 := 285) rfl rfl (Nat.le_of_ble_eq_true rfl)
theorem e_8_66 : Ev X 8 66 ls st h Q ↔ onI (gl ls 4) (fun z => Ev X 8 67 ls (vi z :: st) h Q) := R_il rfl (Or.inr rfl)
theorem e_8_67 : Ev X 8 67 ls st h Q ↔ onI (gl ls 10) (fun z => Ev X 8 68 ls (vi z :: st) h Q) := R_il rfl (Or.inr rfl)
theorem e_8_68 : Ev X 8 68 ls st h Q ↔ Ev X 8 69 ls (vi 128 :: st) h Q := R_kc rfl (Or.inr (Or.inr ⟨rfl, by decide⟩))
theorem e_8_69 {x y : Int} : Ev X 8 69 ls (vi y :: vi x :: st) h Q ↔ ((inR (x * y)) ∧ Ev X 8 70 ls (vi (x * y) :: st) h Q) := R_mul rfl
theorem e_8_70 {rest : List xV} {a0 : Int} {a1 : Int} : Ev X 8 70 ls ((vi a1) :: (vi a0) :: rest) h Q ↔ (wd rest ≤ 8 ∧ Cl X 284 [vi a0, vi a1] h (fun r h2 => Ev X 8 71 ls (r.toList ++ rest) h2 Q)) := R_cs (as := [vi a0, vi a1]) (k2 := 284) rfl rfl (Nat.le_of_ble_eq_true rfl)
theorem e_8_71 {x y : Int} : Ev X 8 71 ls (vi y :: vi x :: st) h Q ↔ ((inR (x - y)) ∧ Ev X 8 72 ls (vi (x - y) :: st) h Q) := R_sub rfl
theorem e_8_72 {x : Int} : Ev X 8 72 ls (vi x :: st) h Q ↔ (stOK ls 11 = true ∧ Ev X 8 73 (ls.set 11 (some (vi x))) st h Q) := R_is rfl (Or.inr rfl)
theorem e_8_73 : Ev X 8 73 ls st h Q ↔ onR (gl ls 0) (fun z => Ev X 8 74 ls (vr z :: st) h Q) := R_al rfl (Or.inl rfl)
theorem e_8_74 {x : Nat} : Ev X 8 74 ls (vr x :: st) h Q ↔ (X.1 x = 1 ∧ Ev X 8 75 ls (vr (X.2.2.1 x 4) :: st) h Q) := R_gr rfl
theorem e_8_75 : Ev X 8 75 ls st h Q ↔ onI (gl ls 8) (fun z => Ev X 8 76 ls (vi z :: st) h Q) := R_il rfl (Or.inr rfl)
theorem e_8_76 : Ev X 8 76 ls st h Q ↔ onR (gl ls 0) (fun z => Ev X 8 77 ls (vr z :: st) h Q) := R_al rfl (Or.inl rfl)
theorem e_8_77 {x : Nat} : Ev X 8 77 ls (vr x :: st) h Q ↔ (X.1 x = 1 ∧ Ev X 8 78 ls (vi (h.2 x 1) :: st) h Q) := R_gi rfl
theorem e_8_78 {x y : Int} : Ev X 8 78 ls (vi y :: vi x :: st) h Q ↔ ((inR (x * y)) ∧ Ev X 8 79 ls (vi (x * y) :: st) h Q) := R_mul rfl
theorem e_8_79 : Ev X 8 79 ls st h Q ↔ onI (gl ls 10) (fun z => Ev X 8 80 ls (vi z :: st) h Q) := R_il rfl (Or.inr rfl)
theorem e_8_80 {x y : Int} : Ev X 8 80 ls (vi y :: vi x :: st) h Q ↔ ((inR (x + y)) ∧ Ev X 8 81 ls (vi (x + y) :: st) h Q) := R_add rfl
theorem e_8_81 {v w : xV} : Ev X 8 81 ls (v :: w :: st) h Q ↔ ((ct1 v = true ∧ ct1 w = true) ∧ Ev X 8 82 ls (v :: w :: v :: w :: st) h Q) := R_dup2 rfl
theorem e_8_82 {x : Nat} {j : Int} : Ev X 8 82 ls (vi j :: vr x :: st) h Q ↔ (((X.1 x = 13 ∨ X.1 x = 20) ∧ 0 ≤ j ∧ j < X.2.1 x) ∧ Ev X 8 83 ls (vi (h.1 x j.toNat) :: st) h Q) := R_ia rfl
theorem e_8_83 : Ev X 8 83 ls st h Q ↔ onI (gl ls 3) (fun z => Ev X 8 84 ls (vi z :: st) h Q) := R_il rfl (Or.inl rfl)
theorem e_8_84 : Ev X 8 84 ls st h Q ↔ onI (gl ls 11) (fun z => Ev X 8 85 ls (vi z :: st) h Q) := R_il rfl (Or.inr rfl)
theorem e_8_85 {x y : Int} : Ev X 8 85 ls (vi y :: vi x :: st) h Q ↔ ((inR (x * y)) ∧ Ev X 8 86 ls (vi (x * y) :: st) h Q) := R_mul rfl
theorem e_8_86 : Ev X 8 86 ls st h Q ↔ onI (gl ls 9) (fun z => Ev X 8 87 ls (vi z :: st) h Q) := R_il rfl (Or.inr rfl)
theorem e_8_87 {x y : Int} : Ev X 8 87 ls (vi y :: vi x :: st) h Q ↔ ((inR (x * y)) ∧ Ev X 8 88 ls (vi (x * y) :: st) h Q) := R_mul rfl
theorem e_8_88 {x y : Int} : Ev X 8 88 ls (vi y :: vi x :: st) h Q ↔ ((inR (x + y)) ∧ Ev X 8 89 ls (vi (x + y) :: st) h Q) := R_add rfl
theorem e_8_89 {x : Nat} {j v : Int} : Ev X 8 89 ls (vi v :: vi j :: vr x :: st) h Q ↔ ((X.1 x = 13 ∧ 0 ≤ j ∧ j < X.2.1 x) ∧ Ev X 8 90 ls st (up2 h.1 x j.toNat v, h.2) Q) := R_ias rfl
theorem e_8_90 : Ev X 8 90 ls st h Q ↔ onI (gl ls 10) (fun x => (stOK ls 10 = true ∧ inR (x + 1)) ∧ Ev X 8 91 (ls.set 10 (some (vi (x + 1)))) st h Q) := R_inc rfl
theorem e_8_91 : Ev X 8 91 ls st h Q ↔ Ev X 8 52 ls st h Q := R_go rfl
theorem e_8_92 : Ev X 8 92 ls st h Q ↔ onI (gl ls 8) (fun x => (stOK ls 8 = true ∧ inR (x + 1)) ∧ Ev X 8 93 (ls.set 8 (some (vi (x + 1)))) st h Q) := R_inc rfl
theorem e_8_93 : Ev X 8 93 ls st h Q ↔ Ev X 8 27 ls st h Q := R_go rfl
theorem e_8_94 : Ev X 8 94 ls [] h Q ↔ Q none h := R_vr rfl
-- 9: CellRows$Bins.overOf(I)I
theorem e_9_0 : Ev X 9 0 ls st h Q ↔ Ev X 9 1 ls (vi 0 :: st) h Q := R_kc rfl (Or.inl ⟨Or.inl rfl, by decide⟩)
theorem e_9_1 : Ev X 9 1 ls st h Q ↔ onR (gl ls 0) (fun z => Ev X 9 2 ls (vr z :: st) h Q) := R_al rfl (Or.inl rfl)
theorem e_9_2 {x : Nat} : Ev X 9 2 ls (vr x :: st) h Q ↔ (X.1 x = 1 ∧ Ev X 9 3 ls (vr (X.2.2.1 x 4) :: st) h Q) := R_gr rfl
theorem e_9_3 : Ev X 9 3 ls st h Q ↔ onI (gl ls 1) (fun z => Ev X 9 4 ls (vi z :: st) h Q) := R_il rfl (Or.inl rfl)
theorem e_9_4 {x : Nat} {j : Int} : Ev X 9 4 ls (vi j :: vr x :: st) h Q ↔ (((X.1 x = 13 ∨ X.1 x = 20) ∧ 0 ≤ j ∧ j < X.2.1 x) ∧ Ev X 9 5 ls (vi (h.1 x j.toNat) :: st) h Q) := R_ia rfl
theorem e_9_5 : Ev X 9 5 ls st h Q ↔ onR (gl ls 0) (fun z => Ev X 9 6 ls (vr z :: st) h Q) := R_al rfl (Or.inl rfl)
theorem e_9_6 {x : Nat} : Ev X 9 6 ls (vr x :: st) h Q ↔ (X.1 x = 1 ∧ Ev X 9 7 ls (vr (X.2.2.1 x 3) :: st) h Q) := R_gr rfl
theorem e_9_7 : Ev X 9 7 ls st h Q ↔ onI (gl ls 1) (fun z => Ev X 9 8 ls (vi z :: st) h Q) := R_il rfl (Or.inl rfl)
theorem e_9_8 {x : Nat} {j : Int} : Ev X 9 8 ls (vi j :: vr x :: st) h Q ↔ (((X.1 x = 13 ∨ X.1 x = 20) ∧ 0 ≤ j ∧ j < X.2.1 x) ∧ Ev X 9 9 ls (vi (h.1 x j.toNat) :: st) h Q) := R_ia rfl
theorem e_9_9 : Ev X 9 9 ls st h Q ↔ onR (gl ls 0) (fun z => Ev X 9 10 ls (vr z :: st) h Q) := R_al rfl (Or.inl rfl)
theorem e_9_10 {x : Nat} : Ev X 9 10 ls (vr x :: st) h Q ↔ (X.1 x = 1 ∧ Ev X 9 11 ls (vr (X.2.2.1 x 2) :: st) h Q) := R_gr rfl
theorem e_9_11 : Ev X 9 11 ls st h Q ↔ Ev X 9 12 ls (vi 1 :: st) h Q := R_kc rfl (Or.inl ⟨Or.inl rfl, by decide⟩)
theorem e_9_12 {x : Nat} {j : Int} : Ev X 9 12 ls (vi j :: vr x :: st) h Q ↔ (((X.1 x = 13 ∨ X.1 x = 20) ∧ 0 ≤ j ∧ j < X.2.1 x) ∧ Ev X 9 13 ls (vi (h.1 x j.toNat) :: st) h Q) := R_ia rfl
theorem e_9_13 {x y : Int} : Ev X 9 13 ls (vi y :: vi x :: st) h Q ↔ ((inR (x * y)) ∧ Ev X 9 14 ls (vi (x * y) :: st) h Q) := R_mul rfl
theorem e_9_14 : Ev X 9 14 ls st h Q ↔ Ev X 9 15 ls (vi 100 :: st) h Q := R_kc rfl (Or.inr (Or.inl ⟨rfl, by decide⟩))
theorem e_9_15 {x y : Int} : Ev X 9 15 ls (vi y :: vi x :: st) h Q ↔ ((y ≠ 0 ∧ inR (x.tdiv y)) ∧ Ev X 9 16 ls (vi (x.tdiv y) :: st) h Q) := R_div rfl
theorem e_9_16 {x y : Int} : Ev X 9 16 ls (vi y :: vi x :: st) h Q ↔ ((inR (x - y)) ∧ Ev X 9 17 ls (vi (x - y) :: st) h Q) := R_sub rfl
theorem e_9_17 {rest : List xV} {a0 : Int} {a1 : Int} : Ev X 9 17 ls ((vi a1) :: (vi a0) :: rest) h Q ↔ (wd rest ≤ 8 ∧ Cl X 284 [vi a0, vi a1] h (fun r h2 => Ev X 9 18 ls (r.toList ++ rest) h2 Q)) := R_cs (as := [vi a0, vi a1]) (k2 := 284) rfl rfl (Nat.le_of_ble_eq_true rfl)
theorem e_9_18 {z : Int} : Ev X 9 18 ls [vi z] h Q ↔ Q (some (vi z)) h := R_ir rfl
-- 10: CellRows$Bins.overflow()I
theorem e_10_0 : Ev X 10 0 ls st h Q ↔ Ev X 10 1 ls (vi 0 :: st) h Q := R_kc rfl (Or.inl ⟨Or.inl rfl, by decide⟩)
theorem e_10_1 {x : Int} : Ev X 10 1 ls (vi x :: st) h Q ↔ (stOK ls 1 = true ∧ Ev X 10 2 (ls.set 1 (some (vi x))) st h Q) := R_is rfl (Or.inl rfl)
theorem e_10_2 : Ev X 10 2 ls st h Q ↔ Ev X 10 3 ls (vi 0 :: st) h Q := R_kc rfl (Or.inl ⟨Or.inl rfl, by decide⟩)
theorem e_10_3 {x : Int} : Ev X 10 3 ls (vi x :: st) h Q ↔ (stOK ls 2 = true ∧ Ev X 10 4 (ls.set 2 (some (vi x))) st h Q) := R_is rfl (Or.inl rfl)
theorem e_10_4 : Ev X 10 4 ls st h Q ↔ onI (gl ls 2) (fun z => Ev X 10 5 ls (vi z :: st) h Q) := R_il rfl (Or.inl rfl)
theorem e_10_5 : Ev X 10 5 ls st h Q ↔ onR (gl ls 0) (fun z => Ev X 10 6 ls (vr z :: st) h Q) := R_al rfl (Or.inl rfl)
theorem e_10_6 {x : Nat} : Ev X 10 6 ls (vr x :: st) h Q ↔ (X.1 x = 1 ∧ Ev X 10 7 ls (vi (h.2 x 0) :: st) h Q) := R_gi rfl
theorem e_10_7 {x y : Int} : Ev X 10 7 ls (vi y :: vi x :: st) h Q ↔ (if y ≤ x then Ev X 10 16 ls st h Q else Ev X 10 8 ls st h Q) := R_icge rfl
theorem e_10_8 : Ev X 10 8 ls st h Q ↔ onI (gl ls 1) (fun z => Ev X 10 9 ls (vi z :: st) h Q) := R_il rfl (Or.inl rfl)
theorem e_10_9 : Ev X 10 9 ls st h Q ↔ onR (gl ls 0) (fun z => Ev X 10 10 ls (vr z :: st) h Q) := R_al rfl (Or.inl rfl)
theorem e_10_10 : Ev X 10 10 ls st h Q ↔ onI (gl ls 2) (fun z => Ev X 10 11 ls (vi z :: st) h Q) := R_il rfl (Or.inl rfl)
theorem e_10_11 {rest : List xV} {a0 : Int} {o : Nat} : Ev X 10 11 ls ((vi a0) :: vr o :: rest) h Q ↔ ((X.1 o = 1 ∧ wd rest ≤ 8) ∧ Cl X 9 [vr o, vi a0] h (fun r h2 => Ev X 10 12 ls (r.toList ++ rest) h2 Q)) := R_cv (x := o) (as := [vi a0]) (k2 := 9) rfl rfl (Nat.le_of_ble_eq_true rfl)
theorem e_10_12 {x y : Int} : Ev X 10 12 ls (vi y :: vi x :: st) h Q ↔ ((inR (x + y)) ∧ Ev X 10 13 ls (vi (x + y) :: st) h Q) := R_add rfl
theorem e_10_13 {x : Int} : Ev X 10 13 ls (vi x :: st) h Q ↔ (stOK ls 1 = true ∧ Ev X 10 14 (ls.set 1 (some (vi x))) st h Q) := R_is rfl (Or.inl rfl)
theorem e_10_14 : Ev X 10 14 ls st h Q ↔ onI (gl ls 2) (fun x => (stOK ls 2 = true ∧ inR (x + 1)) ∧ Ev X 10 15 (ls.set 2 (some (vi (x + 1)))) st h Q) := R_inc rfl
theorem e_10_15 : Ev X 10 15 ls st h Q ↔ Ev X 10 4 ls st h Q := R_go rfl
theorem e_10_16 : Ev X 10 16 ls st h Q ↔ onI (gl ls 1) (fun z => Ev X 10 17 ls (vi z :: st) h Q) := R_il rfl (Or.inl rfl)
theorem e_10_17 {z : Int} : Ev X 10 17 ls [vi z] h Q ↔ Q (some (vi z)) h := R_ir rfl
-- 11: CellRows$Bins.findDemand(LCellRows$Plan;LCellRows$Wire;)V
theorem e_11_0 : Ev X 11 0 ls st h Q ↔ onR (gl ls 0) (fun z => Ev X 11 1 ls (vr z :: st) h Q) := R_al rfl (Or.inl rfl)
theorem e_11_1 {x : Nat} : Ev X 11 1 ls (vr x :: st) h Q ↔ (X.1 x = 1 ∧ Ev X 11 2 ls (vr (X.2.2.1 x 5) :: st) h Q) := R_gr rfl
theorem e_11_2 {rest : List xV} {a0 : Nat} : Ev X 11 2 ls ((vr a0) :: rest) h Q ↔ (wd rest ≤ 8 ∧ Cl X 5 [vr a0] h (fun r h2 => Ev X 11 3 ls (r.toList ++ rest) h2 Q)) := R_cs (as := [vr a0]) (k2 := 5) rfl rfl (Nat.le_of_ble_eq_true rfl)
theorem e_11_3 : Ev X 11 3 ls st h Q ↔ Ev X 11 4 ls (vi 0 :: st) h Q := R_kc rfl (Or.inl ⟨Or.inl rfl, by decide⟩)
theorem e_11_4 {x : Int} : Ev X 11 4 ls (vi x :: st) h Q ↔ (stOK ls 3 = true ∧ Ev X 11 5 (ls.set 3 (some (vi x))) st h Q) := R_is rfl (Or.inl rfl)
theorem e_11_5 : Ev X 11 5 ls st h Q ↔ onI (gl ls 3) (fun z => Ev X 11 6 ls (vi z :: st) h Q) := R_il rfl (Or.inl rfl)
theorem e_11_6 : Ev X 11 6 ls st h Q ↔ onR (gl ls 1) (fun z => Ev X 11 7 ls (vr z :: st) h Q) := R_al rfl (Or.inl rfl)
theorem e_11_7 {x : Nat} : Ev X 11 7 ls (vr x :: st) h Q ↔ (X.1 x = 9 ∧ Ev X 11 8 ls (vr (X.2.2.1 x 5) :: st) h Q) := R_gr rfl
theorem e_11_8 {x : Nat} : Ev X 11 8 ls (vr x :: st) h Q ↔ (X.1 x = 6 ∧ Ev X 11 9 ls (vi (h.2 x 0) :: st) h Q) := R_gi rfl
theorem e_11_9 {x y : Int} : Ev X 11 9 ls (vi y :: vi x :: st) h Q ↔ (if y ≤ x then Ev X 11 60 ls st h Q else Ev X 11 10 ls st h Q) := R_icge rfl
theorem e_11_10 : Ev X 11 10 ls st h Q ↔ onR (gl ls 2) (fun z => Ev X 11 11 ls (vr z :: st) h Q) := R_al rfl (Or.inl rfl)
theorem e_11_11 : Ev X 11 11 ls st h Q ↔ onR (gl ls 1) (fun z => Ev X 11 12 ls (vr z :: st) h Q) := R_al rfl (Or.inl rfl)
theorem e_11_12 : Ev X 11 12 ls st h Q ↔ onI (gl ls 3) (fun z => Ev X 11 13 ls (vi z :: st) h Q) := R_il rfl (Or.inl rfl)
theorem e_11_13 : Ev X 11 13 ls st h Q ↔ Ev X 11 14 ls (vi (-1) :: st) h Q := R_kc rfl (Or.inl ⟨Or.inl rfl, by decide⟩)
theorem e_11_14 {rest : List xV} {a0 : Nat} {a1 : Int} {a2 : Int} {o : Nat} : Ev X 11 14 ls ((vi a2) :: (vi a1) :: (vr a0) :: vr o :: rest) h Q ↔ ((X.1 o = 10 ∧ wd rest ≤ 8) ∧ Cl X 89 [vr o, vr a0, vi a1, vi a2] h (fun r h2 => Ev X 11 15 ls (r.toList ++ rest) h2 Q)) := R_cv (x := o) (as := [vr a0, vi a1, vi a2]) (k2 := 89) rfl rfl (Nat.le_of_ble_eq_true rfl)
theorem e_11_15 : Ev X 11 15 ls st h Q ↔ onR (gl ls 2) (fun z => Ev X 11 16 ls (vr z :: st) h Q) := R_al rfl (Or.inl rfl)
theorem e_11_16 {x : Nat} : Ev X 11 16 ls (vr x :: st) h Q ↔ (X.1 x = 10 ∧ Ev X 11 17 ls (vi (h.2 x 3) :: st) h Q) := R_gi rfl
theorem e_11_17 : Ev X 11 17 ls st h Q ↔ Ev X 11 18 ls (vi 32 :: st) h Q := R_kc rfl (Or.inr (Or.inl ⟨rfl, by decide⟩))
theorem e_11_18 {x y : Int} : Ev X 11 18 ls (vi y :: vi x :: st) h Q ↔ ((y ≠ 0 ∧ inR (x.tdiv y)) ∧ Ev X 11 19 ls (vi (x.tdiv y) :: st) h Q) := R_div rfl
theorem e_11_19 {x : Int} : Ev X 11 19 ls (vi x :: st) h Q ↔ (stOK ls 4 = true ∧ Ev X 11 20 (ls.set 4 (some (vi x))) st h Q) := R_is rfl (Or.inr rfl)
theorem e_11_20 : Ev X 11 20 ls st h Q ↔ onI (gl ls 4) (fun z => Ev X 11 21 ls (vi z :: st) h Q) := R_il rfl (Or.inr rfl)
theorem e_11_21 : Ev X 11 21 ls st h Q ↔ onR (gl ls 2) (fun z => Ev X 11 22 ls (vr z :: st) h Q) := R_al rfl (Or.inl rfl)
theorem e_11_22 {x : Nat} : Ev X 11 22 ls (vr x :: st) h Q ↔ (X.1 x = 10 ∧ Ev X 11 23 ls (vi (h.2 x 4) :: st) h Q) := R_gi rfl
theorem e_11_23 : Ev X 11 23 ls st h Q ↔ Ev X 11 24 ls (vi 32 :: st) h Q := R_kc rfl (Or.inr (Or.inl ⟨rfl, by decide⟩))
theorem e_11_24 {x y : Int} : Ev X 11 24 ls (vi y :: vi x :: st) h Q ↔ ((y ≠ 0 ∧ inR (x.tdiv y)) ∧ Ev X 11 25 ls (vi (x.tdiv y) :: st) h Q) := R_div rfl
theorem e_11_25 {x y : Int} : Ev X 11 25 ls (vi y :: vi x :: st) h Q ↔ (if y < x then Ev X 11 58 ls st h Q else Ev X 11 26 ls st h Q) := R_icgt rfl
theorem e_11_26 : Ev X 11 26 ls st h Q ↔ onR (gl ls 2) (fun z => Ev X 11 27 ls (vr z :: st) h Q) := R_al rfl (Or.inl rfl)
theorem e_11_27 {x : Nat} : Ev X 11 27 ls (vr x :: st) h Q ↔ (X.1 x = 10 ∧ Ev X 11 28 ls (vi (h.2 x 1) :: st) h Q) := R_gi rfl
theorem e_11_28 : Ev X 11 28 ls st h Q ↔ Ev X 11 29 ls (vi 128 :: st) h Q := R_kc rfl (Or.inr (Or.inr ⟨rfl, by decide⟩))
theorem e_11_29 {x y : Int} : Ev X 11 29 ls (vi y :: vi x :: st) h Q ↔ ((y ≠ 0 ∧ inR (x.tdiv y)) ∧ Ev X 11 30 ls (vi (x.tdiv y) :: st) h Q) := R_div rfl
theorem e_11_30 {x : Int} : Ev X 11 30 ls (vi x :: st) h Q ↔ (stOK ls 5 = true ∧ Ev X 11 31 (ls.set 5 (some (vi x))) st h Q) := R_is rfl (Or.inr rfl)
theorem e_11_31 : Ev X 11 31 ls st h Q ↔ onI (gl ls 5) (fun z => Ev X 11 32 ls (vi z :: st) h Q) := R_il rfl (Or.inr rfl)
theorem e_11_32 : Ev X 11 32 ls st h Q ↔ onR (gl ls 2) (fun z => Ev X 11 33 ls (vr z :: st) h Q) := R_al rfl (Or.inl rfl)
theorem e_11_33 {x : Nat} : Ev X 11 33 ls (vr x :: st) h Q ↔ (X.1 x = 10 ∧ Ev X 11 34 ls (vi (h.2 x 2) :: st) h Q) := R_gi rfl
theorem e_11_34 : Ev X 11 34 ls st h Q ↔ Ev X 11 35 ls (vi 128 :: st) h Q := R_kc rfl (Or.inr (Or.inr ⟨rfl, by decide⟩))
theorem e_11_35 {x y : Int} : Ev X 11 35 ls (vi y :: vi x :: st) h Q ↔ ((y ≠ 0 ∧ inR (x.tdiv y)) ∧ Ev X 11 36 ls (vi (x.tdiv y) :: st) h Q) := R_div rfl
theorem e_11_36 {x y : Int} : Ev X 11 36 ls (vi y :: vi x :: st) h Q ↔ (if y < x then Ev X 11 56 ls st h Q else Ev X 11 37 ls st h Q) := R_icgt rfl
theorem e_11_37 : Ev X 11 37 ls st h Q ↔ onR (gl ls 0) (fun z => Ev X 11 38 ls (vr z :: st) h Q) := R_al rfl (Or.inl rfl)
theorem e_11_38 {x : Nat} : Ev X 11 38 ls (vr x :: st) h Q ↔ (X.1 x = 1 ∧ Ev X 11 39 ls (vr (X.2.2.1 x 5) :: st) h Q) := R_gr rfl
theorem e_11_39 : Ev X 11 39 ls st h Q ↔ onI (gl ls 4) (fun z => Ev X 11 40 ls (vi z :: st) h Q) := R_il rfl (Or.inr rfl)
theorem e_11_40 : Ev X 11 40 ls st h Q ↔ onR (gl ls 0) (fun z => Ev X 11 41 ls (vr z :: st) h Q) := R_al rfl (Or.inl rfl)
theorem e_11_41 {x : Nat} : Ev X 11 41 ls (vr x :: st) h Q ↔ (X.1 x = 1 ∧ Ev X 11 42 ls (vi (h.2 x 1) :: st) h Q) := R_gi rfl
theorem e_11_42 {x y : Int} : Ev X 11 42 ls (vi y :: vi x :: st) h Q ↔ ((inR (x * y)) ∧ Ev X 11 43 ls (vi (x * y) :: st) h Q) := R_mul rfl
theorem e_11_43 : Ev X 11 43 ls st h Q ↔ onI (gl ls 5) (fun z => Ev X 11 44 ls (vi z :: st) h Q) := R_il rfl (Or.inr rfl)
theorem e_11_44 {x y : Int} : Ev X 11 44 ls (vi y :: vi x :: st) h Q ↔ ((inR (x + y)) ∧ Ev X 11 45 ls (vi (x + y) :: st) h Q) := R_add rfl
theorem e_11_45 {v w : xV} : Ev X 11 45 ls (v :: w :: st) h Q ↔ ((ct1 v = true ∧ ct1 w = true) ∧ Ev X 11 46 ls (v :: w :: v :: w :: st) h Q) := R_dup2 rfl
theorem e_11_46 {x : Nat} {j : Int} : Ev X 11 46 ls (vi j :: vr x :: st) h Q ↔ (((X.1 x = 13 ∨ X.1 x = 20) ∧ 0 ≤ j ∧ j < X.2.1 x) ∧ Ev X 11 47 ls (vi (h.1 x j.toNat) :: st) h Q) := R_ia rfl
theorem e_11_47 : Ev X 11 47 ls st h Q ↔ onR (gl ls 1) (fun z => Ev X 11 48 ls (vr z :: st) h Q) := R_al rfl (Or.inl rfl)
theorem e_11_48 {x : Nat} : Ev X 11 48 ls (vr x :: st) h Q ↔ (X.1 x = 9 ∧ Ev X 11 49 ls (vr (X.2.2.1 x 5) :: st) h Q) := R_gr rfl
theorem e_11_49 {x : Nat} : Ev X 11 49 ls (vr x :: st) h Q ↔ (X.1 x = 6 ∧ Ev X 11 50 ls (vr (X.2.2.1 x 1) :: st) h Q) := R_gr rfl
theorem e_11_50 : Ev X 11 50 ls st h Q ↔ onI (gl ls 3) (fun z => Ev X 11 51 ls (vi z :: st) h Q) := R_il rfl (Or.inl rfl)
theorem e_11_51 {x : Nat} {j : Int} : Ev X 11 51 ls (vi j :: vr x :: st) h Q ↔ (((X.1 x = 13 ∨ X.1 x = 20) ∧ 0 ≤ j ∧ j < X.2.1 x) ∧ Ev X 11 52 ls (vi (h.1 x j.toNat) :: st) h Q) := R_ia rfl
theorem e_11_52 {x y : Int} : Ev X 11 52 ls (vi y :: vi x :: st) h Q ↔ ((inR (x + y)) ∧ Ev X 11 53 ls (vi (x + y) :: st) h Q) := R_add rfl
theorem e_11_53 {x : Nat} {j v : Int} : Ev X 11 53 ls (vi v :: vi j :: vr x :: st) h Q ↔ ((X.1 x = 13 ∧ 0 ≤ j ∧ j < X.2.1 x) ∧ Ev X 11 54 ls st (up2 h.1 x j.toNat v, h.2) Q) := R_ias rfl
theorem e_11_54 : Ev X 11 54 ls st h Q ↔ onI (gl ls 5) (fun x => (stOK ls 5 = true ∧ inR (x + 1)) ∧ Ev X 11 55 (ls.set 5 (some (vi (x + 1)))) st h Q) := R_inc rfl
theorem e_11_55 : Ev X 11 55 ls st h Q ↔ Ev X 11 31 ls st h Q := R_go rfl
theorem e_11_56 : Ev X 11 56 ls st h Q ↔ onI (gl ls 4) (fun x => (stOK ls 4 = true ∧ inR (x + 1)) ∧ Ev X 11 57 (ls.set 4 (some (vi (x + 1)))) st h Q) := R_inc rfl
theorem e_11_57 : Ev X 11 57 ls st h Q ↔ Ev X 11 20 ls st h Q := R_go rfl
theorem e_11_58 : Ev X 11 58 ls st h Q ↔ onI (gl ls 3) (fun x => (stOK ls 3 = true ∧ inR (x + 1)) ∧ Ev X 11 59 (ls.set 3 (some (vi (x + 1)))) st h Q) := R_inc rfl
theorem e_11_59 : Ev X 11 59 ls st h Q ↔ Ev X 11 5 ls st h Q := R_go rfl
theorem e_11_60 : Ev X 11 60 ls [] h Q ↔ Q none h := R_vr rfl
-- 12: CellRows$Bins.fullest()I
theorem e_12_0 : Ev X 12 0 ls st h Q ↔ Ev X 12 1 ls (vi 0 :: st) h Q := R_kc rfl (Or.inl ⟨Or.inl rfl, by decide⟩)
theorem e_12_1 {x : Int} : Ev X 12 1 ls (vi x :: st) h Q ↔ (stOK ls 1 = true ∧ Ev X 12 2 (ls.set 1 (some (vi x))) st h Q) := R_is rfl (Or.inl rfl)
theorem e_12_2 : Ev X 12 2 ls st h Q ↔ Ev X 12 3 ls (vi 1 :: st) h Q := R_kc rfl (Or.inl ⟨Or.inl rfl, by decide⟩)
theorem e_12_3 {x : Int} : Ev X 12 3 ls (vi x :: st) h Q ↔ (stOK ls 2 = true ∧ Ev X 12 4 (ls.set 2 (some (vi x))) st h Q) := R_is rfl (Or.inl rfl)
theorem e_12_4 : Ev X 12 4 ls st h Q ↔ onI (gl ls 2) (fun z => Ev X 12 5 ls (vi z :: st) h Q) := R_il rfl (Or.inl rfl)
theorem e_12_5 : Ev X 12 5 ls st h Q ↔ onR (gl ls 0) (fun z => Ev X 12 6 ls (vr z :: st) h Q) := R_al rfl (Or.inl rfl)
theorem e_12_6 {x : Nat} : Ev X 12 6 ls (vr x :: st) h Q ↔ (X.1 x = 1 ∧ Ev X 12 7 ls (vi (h.2 x 0) :: st) h Q) := R_gi rfl
theorem e_12_7 {x y : Int} : Ev X 12 7 ls (vi y :: vi x :: st) h Q ↔ (if y ≤ x then Ev X 12 21 ls st h Q else Ev X 12 8 ls st h Q) := R_icge rfl
theorem e_12_8 : Ev X 12 8 ls st h Q ↔ onR (gl ls 0) (fun z => Ev X 12 9 ls (vr z :: st) h Q) := R_al rfl (Or.inl rfl)
theorem e_12_9 {x : Nat} : Ev X 12 9 ls (vr x :: st) h Q ↔ (X.1 x = 1 ∧ Ev X 12 10 ls (vr (X.2.2.1 x 5) :: st) h Q) := R_gr rfl
theorem e_12_10 : Ev X 12 10 ls st h Q ↔ onI (gl ls 2) (fun z => Ev X 12 11 ls (vi z :: st) h Q) := R_il rfl (Or.inl rfl)
theorem e_12_11 {x : Nat} {j : Int} : Ev X 12 11 ls (vi j :: vr x :: st) h Q ↔ (((X.1 x = 13 ∨ X.1 x = 20) ∧ 0 ≤ j ∧ j < X.2.1 x) ∧ Ev X 12 12 ls (vi (h.1 x j.toNat) :: st) h Q) := R_ia rfl
theorem e_12_12 : Ev X 12 12 ls st h Q ↔ onR (gl ls 0) (fun z => Ev X 12 13 ls (vr z :: st) h Q) := R_al rfl (Or.inl rfl)
theorem e_12_13 {x : Nat} : Ev X 12 13 ls (vr x :: st) h Q ↔ (X.1 x = 1 ∧ Ev X 12 14 ls (vr (X.2.2.1 x 5) :: st) h Q) := R_gr rfl
theorem e_12_14 : Ev X 12 14 ls st h Q ↔ onI (gl ls 1) (fun z => Ev X 12 15 ls (vi z :: st) h Q) := R_il rfl (Or.inl rfl)
theorem e_12_15 {x : Nat} {j : Int} : Ev X 12 15 ls (vi j :: vr x :: st) h Q ↔ (((X.1 x = 13 ∨ X.1 x = 20) ∧ 0 ≤ j ∧ j < X.2.1 x) ∧ Ev X 12 16 ls (vi (h.1 x j.toNat) :: st) h Q) := R_ia rfl
theorem e_12_16 {x y : Int} : Ev X 12 16 ls (vi y :: vi x :: st) h Q ↔ (if x ≤ y then Ev X 12 19 ls st h Q else Ev X 12 17 ls st h Q) := R_icle rfl
theorem e_12_17 : Ev X 12 17 ls st h Q ↔ onI (gl ls 2) (fun z => Ev X 12 18 ls (vi z :: st) h Q) := R_il rfl (Or.inl rfl)
theorem e_12_18 {x : Int} : Ev X 12 18 ls (vi x :: st) h Q ↔ (stOK ls 1 = true ∧ Ev X 12 19 (ls.set 1 (some (vi x))) st h Q) := R_is rfl (Or.inl rfl)
theorem e_12_19 : Ev X 12 19 ls st h Q ↔ onI (gl ls 2) (fun x => (stOK ls 2 = true ∧ inR (x + 1)) ∧ Ev X 12 20 (ls.set 2 (some (vi (x + 1)))) st h Q) := R_inc rfl
theorem e_12_20 : Ev X 12 20 ls st h Q ↔ Ev X 12 4 ls st h Q := R_go rfl
theorem e_12_21 : Ev X 12 21 ls st h Q ↔ onI (gl ls 1) (fun z => Ev X 12 22 ls (vi z :: st) h Q) := R_il rfl (Or.inl rfl)
theorem e_12_22 {z : Int} : Ev X 12 22 ls [vi z] h Q ↔ Q (some (vi z)) h := R_ir rfl
-- 13: CellRows$Bins.crowded()I
theorem e_13_0 : Ev X 13 0 ls st h Q ↔ Ev X 13 1 ls (vi 0 :: st) h Q := R_kc rfl (Or.inl ⟨Or.inl rfl, by decide⟩)
theorem e_13_1 {x : Int} : Ev X 13 1 ls (vi x :: st) h Q ↔ (stOK ls 1 = true ∧ Ev X 13 2 (ls.set 1 (some (vi x))) st h Q) := R_is rfl (Or.inl rfl)
theorem e_13_2 : Ev X 13 2 ls st h Q ↔ Ev X 13 3 ls (vi 0 :: st) h Q := R_kc rfl (Or.inl ⟨Or.inl rfl, by decide⟩)
theorem e_13_3 {x : Int} : Ev X 13 3 ls (vi x :: st) h Q ↔ (stOK ls 2 = true ∧ Ev X 13 4 (ls.set 2 (some (vi x))) st h Q) := R_is rfl (Or.inl rfl)
theorem e_13_4 : Ev X 13 4 ls st h Q ↔ onI (gl ls 2) (fun z => Ev X 13 5 ls (vi z :: st) h Q) := R_il rfl (Or.inl rfl)
theorem e_13_5 : Ev X 13 5 ls st h Q ↔ onR (gl ls 0) (fun z => Ev X 13 6 ls (vr z :: st) h Q) := R_al rfl (Or.inl rfl)
theorem e_13_6 {x : Nat} : Ev X 13 6 ls (vr x :: st) h Q ↔ (X.1 x = 1 ∧ Ev X 13 7 ls (vi (h.2 x 0) :: st) h Q) := R_gi rfl
theorem e_13_7 {x y : Int} : Ev X 13 7 ls (vi y :: vi x :: st) h Q ↔ (if y ≤ x then Ev X 13 20 ls st h Q else Ev X 13 8 ls st h Q) := R_icge rfl
theorem e_13_8 : Ev X 13 8 ls st h Q ↔ onR (gl ls 0) (fun z => Ev X 13 9 ls (vr z :: st) h Q) := R_al rfl (Or.inl rfl)
theorem e_13_9 {x : Nat} : Ev X 13 9 ls (vr x :: st) h Q ↔ (X.1 x = 1 ∧ Ev X 13 10 ls (vr (X.2.2.1 x 5) :: st) h Q) := R_gr rfl
theorem e_13_10 : Ev X 13 10 ls st h Q ↔ onI (gl ls 2) (fun z => Ev X 13 11 ls (vi z :: st) h Q) := R_il rfl (Or.inl rfl)
theorem e_13_11 {x : Nat} {j : Int} : Ev X 13 11 ls (vi j :: vr x :: st) h Q ↔ (((X.1 x = 13 ∨ X.1 x = 20) ∧ 0 ≤ j ∧ j < X.2.1 x) ∧ Ev X 13 12 ls (vi (h.1 x j.toNat) :: st) h Q) := R_ia rfl
theorem e_13_12 : Ev X 13 12 ls st h Q ↔ onR (gl ls 0) (fun z => Ev X 13 13 ls (vr z :: st) h Q) := R_al rfl (Or.inl rfl)
theorem e_13_13 {x : Nat} : Ev X 13 13 ls (vr x :: st) h Q ↔ (X.1 x = 1 ∧ Ev X 13 14 ls (vr (X.2.2.1 x 2) :: st) h Q) := R_gr rfl
theorem e_13_14 : Ev X 13 14 ls st h Q ↔ Ev X 13 15 ls (vi 5 :: st) h Q := R_kc rfl (Or.inl ⟨Or.inl rfl, by decide⟩)
theorem e_13_15 {x : Nat} {j : Int} : Ev X 13 15 ls (vi j :: vr x :: st) h Q ↔ (((X.1 x = 13 ∨ X.1 x = 20) ∧ 0 ≤ j ∧ j < X.2.1 x) ∧ Ev X 13 16 ls (vi (h.1 x j.toNat) :: st) h Q) := R_ia rfl
theorem e_13_16 {x y : Int} : Ev X 13 16 ls (vi y :: vi x :: st) h Q ↔ (if x ≤ y then Ev X 13 18 ls st h Q else Ev X 13 17 ls st h Q) := R_icle rfl
theorem e_13_17 : Ev X 13 17 ls st h Q ↔ onI (gl ls 1) (fun x => (stOK ls 1 = true ∧ inR (x + 1)) ∧ Ev X 13 18 (ls.set 1 (some (vi (x + 1)))) st h Q) := R_inc rfl
theorem e_13_18 : Ev X 13 18 ls st h Q ↔ onI (gl ls 2) (fun x => (stOK ls 2 = true ∧ inR (x + 1)) ∧ Ev X 13 19 (ls.set 2 (some (vi (x + 1)))) st h Q) := R_inc rfl
theorem e_13_19 : Ev X 13 19 ls st h Q ↔ Ev X 13 4 ls st h Q := R_go rfl
theorem e_13_20 : Ev X 13 20 ls st h Q ↔ onI (gl ls 1) (fun z => Ev X 13 21 ls (vi z :: st) h Q) := R_il rfl (Or.inl rfl)
theorem e_13_21 {z : Int} : Ev X 13 21 ls [vi z] h Q ↔ Q (some (vi z)) h := R_ir rfl
-- 14: CellRows$Boxes.copyFrom(LCellRows$Boxes;)V
theorem e_14_0 : Ev X 14 0 ls st h Q ↔ onR (gl ls 0) (fun z => Ev X 14 1 ls (vr z :: st) h Q) := R_al rfl (Or.inl rfl)
theorem e_14_1 : Ev X 14 1 ls st h Q ↔ onR (gl ls 1) (fun z => Ev X 14 2 ls (vr z :: st) h Q) := R_al rfl (Or.inl rfl)
theorem e_14_2 {x : Nat} : Ev X 14 2 ls (vr x :: st) h Q ↔ (X.1 x = 2 ∧ Ev X 14 3 ls (vi (h.2 x 0) :: st) h Q) := R_gi rfl
theorem e_14_3 {x : Nat} {v : Int} : Ev X 14 3 ls (vi v :: vr x :: st) h Q ↔ (X.1 x = 2 ∧ Ev X 14 4 ls st (h.1, up2 h.2 x 0 v) Q) := R_pi rfl
theorem e_14_4 : Ev X 14 4 ls st h Q ↔ onR (gl ls 1) (fun z => Ev X 14 5 ls (vr z :: st) h Q) := R_al rfl (Or.inl rfl)
theorem e_14_5 {x : Nat} : Ev X 14 5 ls (vr x :: st) h Q ↔ (X.1 x = 2 ∧ Ev X 14 6 ls (vr (X.2.2.1 x 1) :: st) h Q) := R_gr rfl
theorem e_14_6 : Ev X 14 6 ls st h Q ↔ Ev X 14 7 ls (vi 0 :: st) h Q := R_kc rfl (Or.inl ⟨Or.inl rfl, by decide⟩)
theorem e_14_7 : Ev X 14 7 ls st h Q ↔ onR (gl ls 0) (fun z => Ev X 14 8 ls (vr z :: st) h Q) := R_al rfl (Or.inl rfl)
theorem e_14_8 {x : Nat} : Ev X 14 8 ls (vr x :: st) h Q ↔ (X.1 x = 2 ∧ Ev X 14 9 ls (vr (X.2.2.1 x 1) :: st) h Q) := R_gr rfl
theorem e_14_9 : Ev X 14 9 ls st h Q ↔ Ev X 14 10 ls (vi 0 :: st) h Q := R_kc rfl (Or.inl ⟨Or.inl rfl, by decide⟩)
theorem e_14_10 : Ev X 14 10 ls st h Q ↔ onR (gl ls 0) (fun z => Ev X 14 11 ls (vr z :: st) h Q) := R_al rfl (Or.inl rfl)
theorem e_14_11 {x : Nat} : Ev X 14 11 ls (vr x :: st) h Q ↔ (X.1 x = 2 ∧ Ev X 14 12 ls (vr (X.2.2.1 x 1) :: st) h Q) := R_gr rfl
theorem e_14_12 {x : Nat} : Ev X 14 12 ls (vr x :: st) h Q ↔ ((X.1 x = 13 ∨ X.1 x = 20) ∧ Ev X 14 13 ls (vi (X.2.1 x) :: st) h Q) := R_len rfl
theorem e_14_13 {x d : Nat} {sp dp n : Int} : Ev X 14 13 ls [vi n, vi dp, vr d, vi sp, vr x] h Q ↔ ((((X.1 x = 13 ∧ X.1 d = 13) ∨ (X.1 x = 14 ∧ X.1 d = 14)) ∧ 0 ≤ sp ∧ 0 ≤ dp ∧ 0 ≤ n ∧ sp + n ≤ X.2.1 x ∧ dp + n ≤ X.2.1 d) ∧ Ev X 14 14 ls [] (up1 h.1 d (va_cpy (h.1 x) (h.1 d) sp.toNat dp.toNat n.toNat), h.2) Q) := R_cp rfl
theorem e_14_14 : Ev X 14 14 ls st h Q ↔ onR (gl ls 1) (fun z => Ev X 14 15 ls (vr z :: st) h Q) := R_al rfl (Or.inl rfl)
theorem e_14_15 {x : Nat} : Ev X 14 15 ls (vr x :: st) h Q ↔ (X.1 x = 2 ∧ Ev X 14 16 ls (vr (X.2.2.1 x 2) :: st) h Q) := R_gr rfl
theorem e_14_16 : Ev X 14 16 ls st h Q ↔ Ev X 14 17 ls (vi 0 :: st) h Q := R_kc rfl (Or.inl ⟨Or.inl rfl, by decide⟩)
theorem e_14_17 : Ev X 14 17 ls st h Q ↔ onR (gl ls 0) (fun z => Ev X 14 18 ls (vr z :: st) h Q) := R_al rfl (Or.inl rfl)
theorem e_14_18 {x : Nat} : Ev X 14 18 ls (vr x :: st) h Q ↔ (X.1 x = 2 ∧ Ev X 14 19 ls (vr (X.2.2.1 x 2) :: st) h Q) := R_gr rfl
theorem e_14_19 : Ev X 14 19 ls st h Q ↔ Ev X 14 20 ls (vi 0 :: st) h Q := R_kc rfl (Or.inl ⟨Or.inl rfl, by decide⟩)
theorem e_14_20 : Ev X 14 20 ls st h Q ↔ onR (gl ls 0) (fun z => Ev X 14 21 ls (vr z :: st) h Q) := R_al rfl (Or.inl rfl)
theorem e_14_21 {x : Nat} : Ev X 14 21 ls (vr x :: st) h Q ↔ (X.1 x = 2 ∧ Ev X 14 22 ls (vr (X.2.2.1 x 2) :: st) h Q) := R_gr rfl
theorem e_14_22 {x : Nat} : Ev X 14 22 ls (vr x :: st) h Q ↔ ((X.1 x = 13 ∨ X.1 x = 20) ∧ Ev X 14 23 ls (vi (X.2.1 x) :: st) h Q) := R_len rfl
theorem e_14_23 {x d : Nat} {sp dp n : Int} : Ev X 14 23 ls [vi n, vi dp, vr d, vi sp, vr x] h Q ↔ ((((X.1 x = 13 ∧ X.1 d = 13) ∨ (X.1 x = 14 ∧ X.1 d = 14)) ∧ 0 ≤ sp ∧ 0 ≤ dp ∧ 0 ≤ n ∧ sp + n ≤ X.2.1 x ∧ dp + n ≤ X.2.1 d) ∧ Ev X 14 24 ls [] (up1 h.1 d (va_cpy (h.1 x) (h.1 d) sp.toNat dp.toNat n.toNat), h.2) Q) := R_cp rfl
theorem e_14_24 : Ev X 14 24 ls st h Q ↔ onR (gl ls 1) (fun z => Ev X 14 25 ls (vr z :: st) h Q) := R_al rfl (Or.inl rfl)
theorem e_14_25 {x : Nat} : Ev X 14 25 ls (vr x :: st) h Q ↔ (X.1 x = 2 ∧ Ev X 14 26 ls (vr (X.2.2.1 x 3) :: st) h Q) := R_gr rfl
theorem e_14_26 : Ev X 14 26 ls st h Q ↔ Ev X 14 27 ls (vi 0 :: st) h Q := R_kc rfl (Or.inl ⟨Or.inl rfl, by decide⟩)
theorem e_14_27 : Ev X 14 27 ls st h Q ↔ onR (gl ls 0) (fun z => Ev X 14 28 ls (vr z :: st) h Q) := R_al rfl (Or.inl rfl)
theorem e_14_28 {x : Nat} : Ev X 14 28 ls (vr x :: st) h Q ↔ (X.1 x = 2 ∧ Ev X 14 29 ls (vr (X.2.2.1 x 3) :: st) h Q) := R_gr rfl
theorem e_14_29 : Ev X 14 29 ls st h Q ↔ Ev X 14 30 ls (vi 0 :: st) h Q := R_kc rfl (Or.inl ⟨Or.inl rfl, by decide⟩)
theorem e_14_30 : Ev X 14 30 ls st h Q ↔ onR (gl ls 0) (fun z => Ev X 14 31 ls (vr z :: st) h Q) := R_al rfl (Or.inl rfl)
theorem e_14_31 {x : Nat} : Ev X 14 31 ls (vr x :: st) h Q ↔ (X.1 x = 2 ∧ Ev X 14 32 ls (vr (X.2.2.1 x 3) :: st) h Q) := R_gr rfl
theorem e_14_32 {x : Nat} : Ev X 14 32 ls (vr x :: st) h Q ↔ ((X.1 x = 13 ∨ X.1 x = 20) ∧ Ev X 14 33 ls (vi (X.2.1 x) :: st) h Q) := R_len rfl
theorem e_14_33 {x d : Nat} {sp dp n : Int} : Ev X 14 33 ls [vi n, vi dp, vr d, vi sp, vr x] h Q ↔ ((((X.1 x = 13 ∧ X.1 d = 13) ∨ (X.1 x = 14 ∧ X.1 d = 14)) ∧ 0 ≤ sp ∧ 0 ≤ dp ∧ 0 ≤ n ∧ sp + n ≤ X.2.1 x ∧ dp + n ≤ X.2.1 d) ∧ Ev X 14 34 ls [] (up1 h.1 d (va_cpy (h.1 x) (h.1 d) sp.toNat dp.toNat n.toNat), h.2) Q) := R_cp rfl
theorem e_14_34 : Ev X 14 34 ls st h Q ↔ onR (gl ls 1) (fun z => Ev X 14 35 ls (vr z :: st) h Q) := R_al rfl (Or.inl rfl)
theorem e_14_35 {x : Nat} : Ev X 14 35 ls (vr x :: st) h Q ↔ (X.1 x = 2 ∧ Ev X 14 36 ls (vr (X.2.2.1 x 4) :: st) h Q) := R_gr rfl
theorem e_14_36 : Ev X 14 36 ls st h Q ↔ Ev X 14 37 ls (vi 0 :: st) h Q := R_kc rfl (Or.inl ⟨Or.inl rfl, by decide⟩)
theorem e_14_37 : Ev X 14 37 ls st h Q ↔ onR (gl ls 0) (fun z => Ev X 14 38 ls (vr z :: st) h Q) := R_al rfl (Or.inl rfl)
theorem e_14_38 {x : Nat} : Ev X 14 38 ls (vr x :: st) h Q ↔ (X.1 x = 2 ∧ Ev X 14 39 ls (vr (X.2.2.1 x 4) :: st) h Q) := R_gr rfl
theorem e_14_39 : Ev X 14 39 ls st h Q ↔ Ev X 14 40 ls (vi 0 :: st) h Q := R_kc rfl (Or.inl ⟨Or.inl rfl, by decide⟩)
theorem e_14_40 : Ev X 14 40 ls st h Q ↔ onR (gl ls 0) (fun z => Ev X 14 41 ls (vr z :: st) h Q) := R_al rfl (Or.inl rfl)
theorem e_14_41 {x : Nat} : Ev X 14 41 ls (vr x :: st) h Q ↔ (X.1 x = 2 ∧ Ev X 14 42 ls (vr (X.2.2.1 x 4) :: st) h Q) := R_gr rfl
theorem e_14_42 {x : Nat} : Ev X 14 42 ls (vr x :: st) h Q ↔ ((X.1 x = 13 ∨ X.1 x = 20) ∧ Ev X 14 43 ls (vi (X.2.1 x) :: st) h Q) := R_len rfl
theorem e_14_43 {x d : Nat} {sp dp n : Int} : Ev X 14 43 ls [vi n, vi dp, vr d, vi sp, vr x] h Q ↔ ((((X.1 x = 13 ∧ X.1 d = 13) ∨ (X.1 x = 14 ∧ X.1 d = 14)) ∧ 0 ≤ sp ∧ 0 ≤ dp ∧ 0 ≤ n ∧ sp + n ≤ X.2.1 x ∧ dp + n ≤ X.2.1 d) ∧ Ev X 14 44 ls [] (up1 h.1 d (va_cpy (h.1 x) (h.1 d) sp.toNat dp.toNat n.toNat), h.2) Q) := R_cp rfl
theorem e_14_44 : Ev X 14 44 ls [] h Q ↔ Q none h := R_vr rfl
-- 15: CellRows$Boxes.add(IIII)V
theorem e_15_0 : Ev X 15 0 ls st h Q ↔ onR (gl ls 0) (fun z => Ev X 15 1 ls (vr z :: st) h Q) := R_al rfl (Or.inl rfl)
theorem e_15_1 {x : Nat} : Ev X 15 1 ls (vr x :: st) h Q ↔ (X.1 x = 2 ∧ Ev X 15 2 ls (vi (h.2 x 0) :: st) h Q) := R_gi rfl
theorem e_15_2 : Ev X 15 2 ls st h Q ↔ onR (gl ls 0) (fun z => Ev X 15 3 ls (vr z :: st) h Q) := R_al rfl (Or.inl rfl)
theorem e_15_3 {x : Nat} : Ev X 15 3 ls (vr x :: st) h Q ↔ (X.1 x = 2 ∧ Ev X 15 4 ls (vr (X.2.2.1 x 1) :: st) h Q) := R_gr rfl
theorem e_15_4 {x : Nat} : Ev X 15 4 ls (vr x :: st) h Q ↔ ((X.1 x = 13 ∨ X.1 x = 20) ∧ Ev X 15 5 ls (vi (X.2.1 x) :: st) h Q) := R_len rfl
theorem e_15_5 {x y : Int} : Ev X 15 5 ls (vi y :: vi x :: st) h Q ↔ (if x < y then Ev X 15 7 ls st h Q else Ev X 15 6 ls st h Q) := R_iclt rfl
theorem e_15_6 : Ev X 15 6 ls [] h Q ↔ Q none h := R_vr rfl
theorem e_15_7 : Ev X 15 7 ls st h Q ↔ onR (gl ls 0) (fun z => Ev X 15 8 ls (vr z :: st) h Q) := R_al rfl (Or.inl rfl)
theorem e_15_8 {x : Nat} : Ev X 15 8 ls (vr x :: st) h Q ↔ (X.1 x = 2 ∧ Ev X 15 9 ls (vr (X.2.2.1 x 1) :: st) h Q) := R_gr rfl
theorem e_15_9 : Ev X 15 9 ls st h Q ↔ onR (gl ls 0) (fun z => Ev X 15 10 ls (vr z :: st) h Q) := R_al rfl (Or.inl rfl)
theorem e_15_10 {x : Nat} : Ev X 15 10 ls (vr x :: st) h Q ↔ (X.1 x = 2 ∧ Ev X 15 11 ls (vi (h.2 x 0) :: st) h Q) := R_gi rfl
theorem e_15_11 : Ev X 15 11 ls st h Q ↔ onI (gl ls 1) (fun z => Ev X 15 12 ls (vi z :: st) h Q) := R_il rfl (Or.inl rfl)
theorem e_15_12 {x : Nat} {j v : Int} : Ev X 15 12 ls (vi v :: vi j :: vr x :: st) h Q ↔ ((X.1 x = 13 ∧ 0 ≤ j ∧ j < X.2.1 x) ∧ Ev X 15 13 ls st (up2 h.1 x j.toNat v, h.2) Q) := R_ias rfl
theorem e_15_13 : Ev X 15 13 ls st h Q ↔ onR (gl ls 0) (fun z => Ev X 15 14 ls (vr z :: st) h Q) := R_al rfl (Or.inl rfl)
theorem e_15_14 {x : Nat} : Ev X 15 14 ls (vr x :: st) h Q ↔ (X.1 x = 2 ∧ Ev X 15 15 ls (vr (X.2.2.1 x 2) :: st) h Q) := R_gr rfl
theorem e_15_15 : Ev X 15 15 ls st h Q ↔ onR (gl ls 0) (fun z => Ev X 15 16 ls (vr z :: st) h Q) := R_al rfl (Or.inl rfl)
theorem e_15_16 {x : Nat} : Ev X 15 16 ls (vr x :: st) h Q ↔ (X.1 x = 2 ∧ Ev X 15 17 ls (vi (h.2 x 0) :: st) h Q) := R_gi rfl
theorem e_15_17 : Ev X 15 17 ls st h Q ↔ onI (gl ls 2) (fun z => Ev X 15 18 ls (vi z :: st) h Q) := R_il rfl (Or.inl rfl)
theorem e_15_18 {x : Nat} {j v : Int} : Ev X 15 18 ls (vi v :: vi j :: vr x :: st) h Q ↔ ((X.1 x = 13 ∧ 0 ≤ j ∧ j < X.2.1 x) ∧ Ev X 15 19 ls st (up2 h.1 x j.toNat v, h.2) Q) := R_ias rfl
theorem e_15_19 : Ev X 15 19 ls st h Q ↔ onR (gl ls 0) (fun z => Ev X 15 20 ls (vr z :: st) h Q) := R_al rfl (Or.inl rfl)
theorem e_15_20 {x : Nat} : Ev X 15 20 ls (vr x :: st) h Q ↔ (X.1 x = 2 ∧ Ev X 15 21 ls (vr (X.2.2.1 x 3) :: st) h Q) := R_gr rfl
theorem e_15_21 : Ev X 15 21 ls st h Q ↔ onR (gl ls 0) (fun z => Ev X 15 22 ls (vr z :: st) h Q) := R_al rfl (Or.inl rfl)
theorem e_15_22 {x : Nat} : Ev X 15 22 ls (vr x :: st) h Q ↔ (X.1 x = 2 ∧ Ev X 15 23 ls (vi (h.2 x 0) :: st) h Q) := R_gi rfl
theorem e_15_23 : Ev X 15 23 ls st h Q ↔ onI (gl ls 3) (fun z => Ev X 15 24 ls (vi z :: st) h Q) := R_il rfl (Or.inl rfl)
theorem e_15_24 {x : Nat} {j v : Int} : Ev X 15 24 ls (vi v :: vi j :: vr x :: st) h Q ↔ ((X.1 x = 13 ∧ 0 ≤ j ∧ j < X.2.1 x) ∧ Ev X 15 25 ls st (up2 h.1 x j.toNat v, h.2) Q) := R_ias rfl
theorem e_15_25 : Ev X 15 25 ls st h Q ↔ onR (gl ls 0) (fun z => Ev X 15 26 ls (vr z :: st) h Q) := R_al rfl (Or.inl rfl)
theorem e_15_26 {x : Nat} : Ev X 15 26 ls (vr x :: st) h Q ↔ (X.1 x = 2 ∧ Ev X 15 27 ls (vr (X.2.2.1 x 4) :: st) h Q) := R_gr rfl
theorem e_15_27 : Ev X 15 27 ls st h Q ↔ onR (gl ls 0) (fun z => Ev X 15 28 ls (vr z :: st) h Q) := R_al rfl (Or.inl rfl)
theorem e_15_28 {x : Nat} : Ev X 15 28 ls (vr x :: st) h Q ↔ (X.1 x = 2 ∧ Ev X 15 29 ls (vi (h.2 x 0) :: st) h Q) := R_gi rfl
theorem e_15_29 : Ev X 15 29 ls st h Q ↔ onI (gl ls 4) (fun z => Ev X 15 30 ls (vi z :: st) h Q) := R_il rfl (Or.inr rfl)
theorem e_15_30 {x : Nat} {j v : Int} : Ev X 15 30 ls (vi v :: vi j :: vr x :: st) h Q ↔ ((X.1 x = 13 ∧ 0 ≤ j ∧ j < X.2.1 x) ∧ Ev X 15 31 ls st (up2 h.1 x j.toNat v, h.2) Q) := R_ias rfl
theorem e_15_31 : Ev X 15 31 ls st h Q ↔ onR (gl ls 0) (fun z => Ev X 15 32 ls (vr z :: st) h Q) := R_al rfl (Or.inl rfl)
theorem e_15_32 {v : xV} : Ev X 15 32 ls (v :: st) h Q ↔ (ct1 v = true ∧ Ev X 15 33 ls (v :: v :: st) h Q) := R_dup rfl
theorem e_15_33 {x : Nat} : Ev X 15 33 ls (vr x :: st) h Q ↔ (X.1 x = 2 ∧ Ev X 15 34 ls (vi (h.2 x 0) :: st) h Q) := R_gi rfl
theorem e_15_34 : Ev X 15 34 ls st h Q ↔ Ev X 15 35 ls (vi 1 :: st) h Q := R_kc rfl (Or.inl ⟨Or.inl rfl, by decide⟩)
theorem e_15_35 {x y : Int} : Ev X 15 35 ls (vi y :: vi x :: st) h Q ↔ ((inR (x + y)) ∧ Ev X 15 36 ls (vi (x + y) :: st) h Q) := R_add rfl
theorem e_15_36 {x : Nat} {v : Int} : Ev X 15 36 ls (vi v :: vr x :: st) h Q ↔ (X.1 x = 2 ∧ Ev X 15 37 ls st (h.1, up2 h.2 x 0 v) Q) := R_pi rfl
theorem e_15_37 : Ev X 15 37 ls [] h Q ↔ Q none h := R_vr rfl
-- 16: CellRows$Boxes.anyOverlaps(IIII)Z
theorem e_16_0 : Ev X 16 0 ls st h Q ↔ Ev X 16 1 ls (vi 0 :: st) h Q := R_kc rfl (Or.inl ⟨Or.inl rfl, by decide⟩)
theorem e_16_1 {x : Int} : Ev X 16 1 ls (vi x :: st) h Q ↔ (stOK ls 5 = true ∧ Ev X 16 2 (ls.set 5 (some (vi x))) st h Q) := R_is rfl (Or.inr rfl)
theorem e_16_2 : Ev X 16 2 ls st h Q ↔ onI (gl ls 5) (fun z => Ev X 16 3 ls (vi z :: st) h Q) := R_il rfl (Or.inr rfl)
theorem e_16_3 : Ev X 16 3 ls st h Q ↔ onR (gl ls 0) (fun z => Ev X 16 4 ls (vr z :: st) h Q) := R_al rfl (Or.inl rfl)
theorem e_16_4 {x : Nat} : Ev X 16 4 ls (vr x :: st) h Q ↔ (X.1 x = 2 ∧ Ev X 16 5 ls (vi (h.2 x 0) :: st) h Q) := R_gi rfl
theorem e_16_5 {x y : Int} : Ev X 16 5 ls (vi y :: vi x :: st) h Q ↔ (if y ≤ x then Ev X 16 34 ls st h Q else Ev X 16 6 ls st h Q) := R_icge rfl
theorem e_16_6 : Ev X 16 6 ls st h Q ↔ onR (gl ls 0) (fun z => Ev X 16 7 ls (vr z :: st) h Q) := R_al rfl (Or.inl rfl)
theorem e_16_7 {x : Nat} : Ev X 16 7 ls (vr x :: st) h Q ↔ (X.1 x = 2 ∧ Ev X 16 8 ls (vr (X.2.2.1 x 1) :: st) h Q) := R_gr rfl
theorem e_16_8 : Ev X 16 8 ls st h Q ↔ onI (gl ls 5) (fun z => Ev X 16 9 ls (vi z :: st) h Q) := R_il rfl (Or.inr rfl)
theorem e_16_9 {x : Nat} {j : Int} : Ev X 16 9 ls (vi j :: vr x :: st) h Q ↔ (((X.1 x = 13 ∨ X.1 x = 20) ∧ 0 ≤ j ∧ j < X.2.1 x) ∧ Ev X 16 10 ls (vi (h.1 x j.toNat) :: st) h Q) := R_ia rfl
theorem e_16_10 : Ev X 16 10 ls st h Q ↔ onI (gl ls 2) (fun z => Ev X 16 11 ls (vi z :: st) h Q) := R_il rfl (Or.inl rfl)
theorem e_16_11 {x y : Int} : Ev X 16 11 ls (vi y :: vi x :: st) h Q ↔ (if y < x then Ev X 16 32 ls st h Q else Ev X 16 12 ls st h Q) := R_icgt rfl
theorem e_16_12 : Ev X 16 12 ls st h Q ↔ onI (gl ls 1) (fun z => Ev X 16 13 ls (vi z :: st) h Q) := R_il rfl (Or.inl rfl)
theorem e_16_13 : Ev X 16 13 ls st h Q ↔ onR (gl ls 0) (fun z => Ev X 16 14 ls (vr z :: st) h Q) := R_al rfl (Or.inl rfl)
theorem e_16_14 {x : Nat} : Ev X 16 14 ls (vr x :: st) h Q ↔ (X.1 x = 2 ∧ Ev X 16 15 ls (vr (X.2.2.1 x 2) :: st) h Q) := R_gr rfl
theorem e_16_15 : Ev X 16 15 ls st h Q ↔ onI (gl ls 5) (fun z => Ev X 16 16 ls (vi z :: st) h Q) := R_il rfl (Or.inr rfl)
theorem e_16_16 {x : Nat} {j : Int} : Ev X 16 16 ls (vi j :: vr x :: st) h Q ↔ (((X.1 x = 13 ∨ X.1 x = 20) ∧ 0 ≤ j ∧ j < X.2.1 x) ∧ Ev X 16 17 ls (vi (h.1 x j.toNat) :: st) h Q) := R_ia rfl
theorem e_16_17 {x y : Int} : Ev X 16 17 ls (vi y :: vi x :: st) h Q ↔ (if y < x then Ev X 16 32 ls st h Q else Ev X 16 18 ls st h Q) := R_icgt rfl
theorem e_16_18 : Ev X 16 18 ls st h Q ↔ onR (gl ls 0) (fun z => Ev X 16 19 ls (vr z :: st) h Q) := R_al rfl (Or.inl rfl)
theorem e_16_19 {x : Nat} : Ev X 16 19 ls (vr x :: st) h Q ↔ (X.1 x = 2 ∧ Ev X 16 20 ls (vr (X.2.2.1 x 3) :: st) h Q) := R_gr rfl
theorem e_16_20 : Ev X 16 20 ls st h Q ↔ onI (gl ls 5) (fun z => Ev X 16 21 ls (vi z :: st) h Q) := R_il rfl (Or.inr rfl)
theorem e_16_21 {x : Nat} {j : Int} : Ev X 16 21 ls (vi j :: vr x :: st) h Q ↔ (((X.1 x = 13 ∨ X.1 x = 20) ∧ 0 ≤ j ∧ j < X.2.1 x) ∧ Ev X 16 22 ls (vi (h.1 x j.toNat) :: st) h Q) := R_ia rfl
theorem e_16_22 : Ev X 16 22 ls st h Q ↔ onI (gl ls 4) (fun z => Ev X 16 23 ls (vi z :: st) h Q) := R_il rfl (Or.inr rfl)
theorem e_16_23 {x y : Int} : Ev X 16 23 ls (vi y :: vi x :: st) h Q ↔ (if y < x then Ev X 16 32 ls st h Q else Ev X 16 24 ls st h Q) := R_icgt rfl
theorem e_16_24 : Ev X 16 24 ls st h Q ↔ onI (gl ls 3) (fun z => Ev X 16 25 ls (vi z :: st) h Q) := R_il rfl (Or.inl rfl)
theorem e_16_25 : Ev X 16 25 ls st h Q ↔ onR (gl ls 0) (fun z => Ev X 16 26 ls (vr z :: st) h Q) := R_al rfl (Or.inl rfl)
theorem e_16_26 {x : Nat} : Ev X 16 26 ls (vr x :: st) h Q ↔ (X.1 x = 2 ∧ Ev X 16 27 ls (vr (X.2.2.1 x 4) :: st) h Q) := R_gr rfl
theorem e_16_27 : Ev X 16 27 ls st h Q ↔ onI (gl ls 5) (fun z => Ev X 16 28 ls (vi z :: st) h Q) := R_il rfl (Or.inr rfl)
theorem e_16_28 {x : Nat} {j : Int} : Ev X 16 28 ls (vi j :: vr x :: st) h Q ↔ (((X.1 x = 13 ∨ X.1 x = 20) ∧ 0 ≤ j ∧ j < X.2.1 x) ∧ Ev X 16 29 ls (vi (h.1 x j.toNat) :: st) h Q) := R_ia rfl
theorem e_16_29 {x y : Int} : Ev X 16 29 ls (vi y :: vi x :: st) h Q ↔ (if y < x then Ev X 16 32 ls st h Q else Ev X 16 30 ls st h Q) := R_icgt rfl
theorem e_16_30 : Ev X 16 30 ls st h Q ↔ Ev X 16 31 ls (vi 1 :: st) h Q := R_kc rfl (Or.inl ⟨Or.inl rfl, by decide⟩)
theorem e_16_31 {z : Int} : Ev X 16 31 ls [vi z] h Q ↔ ((z = 0 ∨ z = 1) ∧ Q (some (vi z)) h) := R_zr rfl
theorem e_16_32 : Ev X 16 32 ls st h Q ↔ onI (gl ls 5) (fun x => (stOK ls 5 = true ∧ inR (x + 1)) ∧ Ev X 16 33 (ls.set 5 (some (vi (x + 1)))) st h Q) := R_inc rfl
theorem e_16_33 : Ev X 16 33 ls st h Q ↔ Ev X 16 2 ls st h Q := R_go rfl
theorem e_16_34 : Ev X 16 34 ls st h Q ↔ Ev X 16 35 ls (vi 0 :: st) h Q := R_kc rfl (Or.inl ⟨Or.inl rfl, by decide⟩)
theorem e_16_35 {z : Int} : Ev X 16 35 ls [vi z] h Q ↔ ((z = 0 ∨ z = 1) ∧ Q (some (vi z)) h) := R_zr rfl
-- 17: CellRows$Boxes.holds(IIII)Z
theorem e_17_0 : Ev X 17 0 ls st h Q ↔ onR (gl ls 0) (fun z => Ev X 17 1 ls (vr z :: st) h Q) := R_al rfl (Or.inl rfl)
theorem e_17_1 {x : Nat} : Ev X 17 1 ls (vr x :: st) h Q ↔ (X.1 x = 2 ∧ Ev X 17 2 ls (vr (X.2.2.1 x 1) :: st) h Q) := R_gr rfl
theorem e_17_2 : Ev X 17 2 ls st h Q ↔ onI (gl ls 1) (fun z => Ev X 17 3 ls (vi z :: st) h Q) := R_il rfl (Or.inl rfl)
theorem e_17_3 {x : Nat} {j : Int} : Ev X 17 3 ls (vi j :: vr x :: st) h Q ↔ (((X.1 x = 13 ∨ X.1 x = 20) ∧ 0 ≤ j ∧ j < X.2.1 x) ∧ Ev X 17 4 ls (vi (h.1 x j.toNat) :: st) h Q) := R_ia rfl
theorem e_17_4 : Ev X 17 4 ls st h Q ↔ onI (gl ls 2) (fun z => Ev X 17 5 ls (vi z :: st) h Q) := R_il rfl (Or.inl rfl)
theorem e_17_5 {x y : Int} : Ev X 17 5 ls (vi y :: vi x :: st) h Q ↔ (if y < x then Ev X 17 26 ls st h Q else Ev X 17 6 ls st h Q) := R_icgt rfl
theorem e_17_6 : Ev X 17 6 ls st h Q ↔ onI (gl ls 2) (fun z => Ev X 17 7 ls (vi z :: st) h Q) := R_il rfl (Or.inl rfl)
theorem e_17_7 : Ev X 17 7 ls st h Q ↔ onR (gl ls 0) (fun z => Ev X 17 8 ls (vr z :: st) h Q) := R_al rfl (Or.inl rfl)
theorem e_17_8 {x : Nat} : Ev X 17 8 ls (vr x :: st) h Q ↔ (X.1 x = 2 ∧ Ev X 17 9 ls (vr (X.2.2.1 x 2) :: st) h Q) := R_gr rfl
theorem e_17_9 : Ev X 17 9 ls st h Q ↔ onI (gl ls 1) (fun z => Ev X 17 10 ls (vi z :: st) h Q) := R_il rfl (Or.inl rfl)
theorem e_17_10 {x : Nat} {j : Int} : Ev X 17 10 ls (vi j :: vr x :: st) h Q ↔ (((X.1 x = 13 ∨ X.1 x = 20) ∧ 0 ≤ j ∧ j < X.2.1 x) ∧ Ev X 17 11 ls (vi (h.1 x j.toNat) :: st) h Q) := R_ia rfl
theorem e_17_11 {x y : Int} : Ev X 17 11 ls (vi y :: vi x :: st) h Q ↔ (if y < x then Ev X 17 26 ls st h Q else Ev X 17 12 ls st h Q) := R_icgt rfl
theorem e_17_12 : Ev X 17 12 ls st h Q ↔ onR (gl ls 0) (fun z => Ev X 17 13 ls (vr z :: st) h Q) := R_al rfl (Or.inl rfl)
theorem e_17_13 {x : Nat} : Ev X 17 13 ls (vr x :: st) h Q ↔ (X.1 x = 2 ∧ Ev X 17 14 ls (vr (X.2.2.1 x 3) :: st) h Q) := R_gr rfl
theorem e_17_14 : Ev X 17 14 ls st h Q ↔ onI (gl ls 1) (fun z => Ev X 17 15 ls (vi z :: st) h Q) := R_il rfl (Or.inl rfl)
theorem e_17_15 {x : Nat} {j : Int} : Ev X 17 15 ls (vi j :: vr x :: st) h Q ↔ (((X.1 x = 13 ∨ X.1 x = 20) ∧ 0 ≤ j ∧ j < X.2.1 x) ∧ Ev X 17 16 ls (vi (h.1 x j.toNat) :: st) h Q) := R_ia rfl
theorem e_17_16 : Ev X 17 16 ls st h Q ↔ onI (gl ls 3) (fun z => Ev X 17 17 ls (vi z :: st) h Q) := R_il rfl (Or.inl rfl)
theorem e_17_17 {x y : Int} : Ev X 17 17 ls (vi y :: vi x :: st) h Q ↔ (if y < x then Ev X 17 26 ls st h Q else Ev X 17 18 ls st h Q) := R_icgt rfl
theorem e_17_18 : Ev X 17 18 ls st h Q ↔ onI (gl ls 4) (fun z => Ev X 17 19 ls (vi z :: st) h Q) := R_il rfl (Or.inr rfl)
theorem e_17_19 : Ev X 17 19 ls st h Q ↔ onR (gl ls 0) (fun z => Ev X 17 20 ls (vr z :: st) h Q) := R_al rfl (Or.inl rfl)
theorem e_17_20 {x : Nat} : Ev X 17 20 ls (vr x :: st) h Q ↔ (X.1 x = 2 ∧ Ev X 17 21 ls (vr (X.2.2.1 x 4) :: st) h Q) := R_gr rfl
theorem e_17_21 : Ev X 17 21 ls st h Q ↔ onI (gl ls 1) (fun z => Ev X 17 22 ls (vi z :: st) h Q) := R_il rfl (Or.inl rfl)
theorem e_17_22 {x : Nat} {j : Int} : Ev X 17 22 ls (vi j :: vr x :: st) h Q ↔ (((X.1 x = 13 ∨ X.1 x = 20) ∧ 0 ≤ j ∧ j < X.2.1 x) ∧ Ev X 17 23 ls (vi (h.1 x j.toNat) :: st) h Q) := R_ia rfl
theorem e_17_23 {x y : Int} : Ev X 17 23 ls (vi y :: vi x :: st) h Q ↔ (if y < x then Ev X 17 26 ls st h Q else Ev X 17 24 ls st h Q) := R_icgt rfl
theorem e_17_24 : Ev X 17 24 ls st h Q ↔ Ev X 17 25 ls (vi 1 :: st) h Q := R_kc rfl (Or.inl ⟨Or.inl rfl, by decide⟩)
theorem e_17_25 : Ev X 17 25 ls st h Q ↔ Ev X 17 27 ls st h Q := R_go rfl
theorem e_17_26 : Ev X 17 26 ls st h Q ↔ Ev X 17 27 ls (vi 0 :: st) h Q := R_kc rfl (Or.inl ⟨Or.inl rfl, by decide⟩)
theorem e_17_27 {z : Int} : Ev X 17 27 ls [vi z] h Q ↔ ((z = 0 ∨ z = 1) ∧ Q (some (vi z)) h) := R_zr rfl
-- 18: CellRows$Cells.copyFrom(LCellRows$Cells;)V
theorem e_18_0 : Ev X 18 0 ls st h Q ↔ onR (gl ls 0) (fun z => Ev X 18 1 ls (vr z :: st) h Q) := R_al rfl (Or.inl rfl)
theorem e_18_1 : Ev X 18 1 ls st h Q ↔ onR (gl ls 1) (fun z => Ev X 18 2 ls (vr z :: st) h Q) := R_al rfl (Or.inl rfl)
theorem e_18_2 {x : Nat} : Ev X 18 2 ls (vr x :: st) h Q ↔ (X.1 x = 3 ∧ Ev X 18 3 ls (vi (h.2 x 0) :: st) h Q) := R_gi rfl
theorem e_18_3 {x : Nat} {v : Int} : Ev X 18 3 ls (vi v :: vr x :: st) h Q ↔ (X.1 x = 3 ∧ Ev X 18 4 ls st (h.1, up2 h.2 x 0 v) Q) := R_pi rfl
theorem e_18_4 : Ev X 18 4 ls st h Q ↔ onR (gl ls 1) (fun z => Ev X 18 5 ls (vr z :: st) h Q) := R_al rfl (Or.inl rfl)
theorem e_18_5 {x : Nat} : Ev X 18 5 ls (vr x :: st) h Q ↔ (X.1 x = 3 ∧ Ev X 18 6 ls (vr (X.2.2.1 x 1) :: st) h Q) := R_gr rfl
theorem e_18_6 : Ev X 18 6 ls st h Q ↔ Ev X 18 7 ls (vi 0 :: st) h Q := R_kc rfl (Or.inl ⟨Or.inl rfl, by decide⟩)
theorem e_18_7 : Ev X 18 7 ls st h Q ↔ onR (gl ls 0) (fun z => Ev X 18 8 ls (vr z :: st) h Q) := R_al rfl (Or.inl rfl)
theorem e_18_8 {x : Nat} : Ev X 18 8 ls (vr x :: st) h Q ↔ (X.1 x = 3 ∧ Ev X 18 9 ls (vr (X.2.2.1 x 1) :: st) h Q) := R_gr rfl
theorem e_18_9 : Ev X 18 9 ls st h Q ↔ Ev X 18 10 ls (vi 0 :: st) h Q := R_kc rfl (Or.inl ⟨Or.inl rfl, by decide⟩)
theorem e_18_10 : Ev X 18 10 ls st h Q ↔ Ev X 18 11 ls (vi 20 :: st) h Q := R_kc rfl (Or.inr (Or.inl ⟨rfl, by decide⟩))
theorem e_18_11 {x d : Nat} {sp dp n : Int} : Ev X 18 11 ls [vi n, vi dp, vr d, vi sp, vr x] h Q ↔ ((((X.1 x = 13 ∧ X.1 d = 13) ∨ (X.1 x = 14 ∧ X.1 d = 14)) ∧ 0 ≤ sp ∧ 0 ≤ dp ∧ 0 ≤ n ∧ sp + n ≤ X.2.1 x ∧ dp + n ≤ X.2.1 d) ∧ Ev X 18 12 ls [] (up1 h.1 d (va_cpy (h.1 x) (h.1 d) sp.toNat dp.toNat n.toNat), h.2) Q) := R_cp rfl
theorem e_18_12 : Ev X 18 12 ls st h Q ↔ onR (gl ls 1) (fun z => Ev X 18 13 ls (vr z :: st) h Q) := R_al rfl (Or.inl rfl)
theorem e_18_13 {x : Nat} : Ev X 18 13 ls (vr x :: st) h Q ↔ (X.1 x = 3 ∧ Ev X 18 14 ls (vr (X.2.2.1 x 2) :: st) h Q) := R_gr rfl
theorem e_18_14 : Ev X 18 14 ls st h Q ↔ Ev X 18 15 ls (vi 0 :: st) h Q := R_kc rfl (Or.inl ⟨Or.inl rfl, by decide⟩)
theorem e_18_15 : Ev X 18 15 ls st h Q ↔ onR (gl ls 0) (fun z => Ev X 18 16 ls (vr z :: st) h Q) := R_al rfl (Or.inl rfl)
theorem e_18_16 {x : Nat} : Ev X 18 16 ls (vr x :: st) h Q ↔ (X.1 x = 3 ∧ Ev X 18 17 ls (vr (X.2.2.1 x 2) :: st) h Q) := R_gr rfl
theorem e_18_17 : Ev X 18 17 ls st h Q ↔ Ev X 18 18 ls (vi 0 :: st) h Q := R_kc rfl (Or.inl ⟨Or.inl rfl, by decide⟩)
theorem e_18_18 : Ev X 18 18 ls st h Q ↔ Ev X 18 19 ls (vi 20 :: st) h Q := R_kc rfl (Or.inr (Or.inl ⟨rfl, by decide⟩))
theorem e_18_19 {x d : Nat} {sp dp n : Int} : Ev X 18 19 ls [vi n, vi dp, vr d, vi sp, vr x] h Q ↔ ((((X.1 x = 13 ∧ X.1 d = 13) ∨ (X.1 x = 14 ∧ X.1 d = 14)) ∧ 0 ≤ sp ∧ 0 ≤ dp ∧ 0 ≤ n ∧ sp + n ≤ X.2.1 x ∧ dp + n ≤ X.2.1 d) ∧ Ev X 18 20 ls [] (up1 h.1 d (va_cpy (h.1 x) (h.1 d) sp.toNat dp.toNat n.toNat), h.2) Q) := R_cp rfl
theorem e_18_20 : Ev X 18 20 ls st h Q ↔ onR (gl ls 1) (fun z => Ev X 18 21 ls (vr z :: st) h Q) := R_al rfl (Or.inl rfl)
theorem e_18_21 {x : Nat} : Ev X 18 21 ls (vr x :: st) h Q ↔ (X.1 x = 3 ∧ Ev X 18 22 ls (vr (X.2.2.1 x 4) :: st) h Q) := R_gr rfl
theorem e_18_22 : Ev X 18 22 ls st h Q ↔ Ev X 18 23 ls (vi 0 :: st) h Q := R_kc rfl (Or.inl ⟨Or.inl rfl, by decide⟩)
theorem e_18_23 : Ev X 18 23 ls st h Q ↔ onR (gl ls 0) (fun z => Ev X 18 24 ls (vr z :: st) h Q) := R_al rfl (Or.inl rfl)
theorem e_18_24 {x : Nat} : Ev X 18 24 ls (vr x :: st) h Q ↔ (X.1 x = 3 ∧ Ev X 18 25 ls (vr (X.2.2.1 x 4) :: st) h Q) := R_gr rfl
theorem e_18_25 : Ev X 18 25 ls st h Q ↔ Ev X 18 26 ls (vi 0 :: st) h Q := R_kc rfl (Or.inl ⟨Or.inl rfl, by decide⟩)
theorem e_18_26 : Ev X 18 26 ls st h Q ↔ Ev X 18 27 ls (vi 20 :: st) h Q := R_kc rfl (Or.inr (Or.inl ⟨rfl, by decide⟩))
theorem e_18_27 {x d : Nat} {sp dp n : Int} : Ev X 18 27 ls [vi n, vi dp, vr d, vi sp, vr x] h Q ↔ ((((X.1 x = 13 ∧ X.1 d = 13) ∨ (X.1 x = 14 ∧ X.1 d = 14)) ∧ 0 ≤ sp ∧ 0 ≤ dp ∧ 0 ≤ n ∧ sp + n ≤ X.2.1 x ∧ dp + n ≤ X.2.1 d) ∧ Ev X 18 28 ls [] (up1 h.1 d (va_cpy (h.1 x) (h.1 d) sp.toNat dp.toNat n.toNat), h.2) Q) := R_cp rfl
theorem e_18_28 : Ev X 18 28 ls st h Q ↔ onR (gl ls 1) (fun z => Ev X 18 29 ls (vr z :: st) h Q) := R_al rfl (Or.inl rfl)
theorem e_18_29 {x : Nat} : Ev X 18 29 ls (vr x :: st) h Q ↔ (X.1 x = 3 ∧ Ev X 18 30 ls (vr (X.2.2.1 x 5) :: st) h Q) := R_gr rfl
theorem e_18_30 : Ev X 18 30 ls st h Q ↔ Ev X 18 31 ls (vi 0 :: st) h Q := R_kc rfl (Or.inl ⟨Or.inl rfl, by decide⟩)
theorem e_18_31 : Ev X 18 31 ls st h Q ↔ onR (gl ls 0) (fun z => Ev X 18 32 ls (vr z :: st) h Q) := R_al rfl (Or.inl rfl)
theorem e_18_32 {x : Nat} : Ev X 18 32 ls (vr x :: st) h Q ↔ (X.1 x = 3 ∧ Ev X 18 33 ls (vr (X.2.2.1 x 5) :: st) h Q) := R_gr rfl
theorem e_18_33 : Ev X 18 33 ls st h Q ↔ Ev X 18 34 ls (vi 0 :: st) h Q := R_kc rfl (Or.inl ⟨Or.inl rfl, by decide⟩)
theorem e_18_34 : Ev X 18 34 ls st h Q ↔ Ev X 18 35 ls (vi 20 :: st) h Q := R_kc rfl (Or.inr (Or.inl ⟨rfl, by decide⟩))
theorem e_18_35 {x d : Nat} {sp dp n : Int} : Ev X 18 35 ls [vi n, vi dp, vr d, vi sp, vr x] h Q ↔ ((((X.1 x = 13 ∧ X.1 d = 13) ∨ (X.1 x = 14 ∧ X.1 d = 14)) ∧ 0 ≤ sp ∧ 0 ≤ dp ∧ 0 ≤ n ∧ sp + n ≤ X.2.1 x ∧ dp + n ≤ X.2.1 d) ∧ Ev X 18 36 ls [] (up1 h.1 d (va_cpy (h.1 x) (h.1 d) sp.toNat dp.toNat n.toNat), h.2) Q) := R_cp rfl
theorem e_18_36 : Ev X 18 36 ls st h Q ↔ onR (gl ls 1) (fun z => Ev X 18 37 ls (vr z :: st) h Q) := R_al rfl (Or.inl rfl)
theorem e_18_37 {x : Nat} : Ev X 18 37 ls (vr x :: st) h Q ↔ (X.1 x = 3 ∧ Ev X 18 38 ls (vr (X.2.2.1 x 6) :: st) h Q) := R_gr rfl
theorem e_18_38 : Ev X 18 38 ls st h Q ↔ Ev X 18 39 ls (vi 0 :: st) h Q := R_kc rfl (Or.inl ⟨Or.inl rfl, by decide⟩)
theorem e_18_39 : Ev X 18 39 ls st h Q ↔ onR (gl ls 0) (fun z => Ev X 18 40 ls (vr z :: st) h Q) := R_al rfl (Or.inl rfl)
theorem e_18_40 {x : Nat} : Ev X 18 40 ls (vr x :: st) h Q ↔ (X.1 x = 3 ∧ Ev X 18 41 ls (vr (X.2.2.1 x 6) :: st) h Q) := R_gr rfl
theorem e_18_41 : Ev X 18 41 ls st h Q ↔ Ev X 18 42 ls (vi 0 :: st) h Q := R_kc rfl (Or.inl ⟨Or.inl rfl, by decide⟩)
theorem e_18_42 : Ev X 18 42 ls st h Q ↔ Ev X 18 43 ls (vi 20 :: st) h Q := R_kc rfl (Or.inr (Or.inl ⟨rfl, by decide⟩))
theorem e_18_43 {x d : Nat} {sp dp n : Int} : Ev X 18 43 ls [vi n, vi dp, vr d, vi sp, vr x] h Q ↔ ((((X.1 x = 13 ∧ X.1 d = 13) ∨ (X.1 x = 14 ∧ X.1 d = 14)) ∧ 0 ≤ sp ∧ 0 ≤ dp ∧ 0 ≤ n ∧ sp + n ≤ X.2.1 x ∧ dp + n ≤ X.2.1 d) ∧ Ev X 18 44 ls [] (up1 h.1 d (va_cpy (h.1 x) (h.1 d) sp.toNat dp.toNat n.toNat), h.2) Q) := R_cp rfl
theorem e_18_44 : Ev X 18 44 ls st h Q ↔ onR (gl ls 1) (fun z => Ev X 18 45 ls (vr z :: st) h Q) := R_al rfl (Or.inl rfl)
theorem e_18_45 {x : Nat} : Ev X 18 45 ls (vr x :: st) h Q ↔ (X.1 x = 3 ∧ Ev X 18 46 ls (vr (X.2.2.1 x 7) :: st) h Q) := R_gr rfl
theorem e_18_46 : Ev X 18 46 ls st h Q ↔ Ev X 18 47 ls (vi 0 :: st) h Q := R_kc rfl (Or.inl ⟨Or.inl rfl, by decide⟩)
theorem e_18_47 : Ev X 18 47 ls st h Q ↔ onR (gl ls 0) (fun z => Ev X 18 48 ls (vr z :: st) h Q) := R_al rfl (Or.inl rfl)
theorem e_18_48 {x : Nat} : Ev X 18 48 ls (vr x :: st) h Q ↔ (X.1 x = 3 ∧ Ev X 18 49 ls (vr (X.2.2.1 x 7) :: st) h Q) := R_gr rfl
theorem e_18_49 : Ev X 18 49 ls st h Q ↔ Ev X 18 50 ls (vi 0 :: st) h Q := R_kc rfl (Or.inl ⟨Or.inl rfl, by decide⟩)
theorem e_18_50 : Ev X 18 50 ls st h Q ↔ Ev X 18 51 ls (vi 20 :: st) h Q := R_kc rfl (Or.inr (Or.inl ⟨rfl, by decide⟩))
theorem e_18_51 {x d : Nat} {sp dp n : Int} : Ev X 18 51 ls [vi n, vi dp, vr d, vi sp, vr x] h Q ↔ ((((X.1 x = 13 ∧ X.1 d = 13) ∨ (X.1 x = 14 ∧ X.1 d = 14)) ∧ 0 ≤ sp ∧ 0 ≤ dp ∧ 0 ≤ n ∧ sp + n ≤ X.2.1 x ∧ dp + n ≤ X.2.1 d) ∧ Ev X 18 52 ls [] (up1 h.1 d (va_cpy (h.1 x) (h.1 d) sp.toNat dp.toNat n.toNat), h.2) Q) := R_cp rfl
theorem e_18_52 : Ev X 18 52 ls st h Q ↔ Ev X 18 53 ls (vi 0 :: st) h Q := R_kc rfl (Or.inl ⟨Or.inl rfl, by decide⟩)
theorem e_18_53 {x : Int} : Ev X 18 53 ls (vi x :: st) h Q ↔ (stOK ls 2 = true ∧ Ev X 18 54 (ls.set 2 (some (vi x))) st h Q) := R_is rfl (Or.inl rfl)
theorem e_18_54 : Ev X 18 54 ls st h Q ↔ onI (gl ls 2) (fun z => Ev X 18 55 ls (vi z :: st) h Q) := R_il rfl (Or.inl rfl)
theorem e_18_55 : Ev X 18 55 ls st h Q ↔ Ev X 18 56 ls (vi 20 :: st) h Q := R_kc rfl (Or.inr (Or.inl ⟨rfl, by decide⟩))
theorem e_18_56 {x y : Int} : Ev X 18 56 ls (vi y :: vi x :: st) h Q ↔ (if y ≤ x then Ev X 18 67 ls st h Q else Ev X 18 57 ls st h Q) := R_icge rfl
theorem e_18_57 : Ev X 18 57 ls st h Q ↔ onR (gl ls 0) (fun z => Ev X 18 58 ls (vr z :: st) h Q) := R_al rfl (Or.inl rfl)
theorem e_18_58 {x : Nat} : Ev X 18 58 ls (vr x :: st) h Q ↔ (X.1 x = 3 ∧ Ev X 18 59 ls (vr (X.2.2.1 x 3) :: st) h Q) := R_gr rfl
theorem e_18_59 : Ev X 18 59 ls st h Q ↔ onI (gl ls 2) (fun z => Ev X 18 60 ls (vi z :: st) h Q) := R_il rfl (Or.inl rfl)
theorem e_18_60 : Ev X 18 60 ls st h Q ↔ onR (gl ls 1) (fun z => Ev X 18 61 ls (vr z :: st) h Q) := R_al rfl (Or.inl rfl)
theorem e_18_61 {x : Nat} : Ev X 18 61 ls (vr x :: st) h Q ↔ (X.1 x = 3 ∧ Ev X 18 62 ls (vr (X.2.2.1 x 3) :: st) h Q) := R_gr rfl
theorem e_18_62 : Ev X 18 62 ls st h Q ↔ onI (gl ls 2) (fun z => Ev X 18 63 ls (vi z :: st) h Q) := R_il rfl (Or.inl rfl)
theorem e_18_63 {x : Nat} {j : Int} : Ev X 18 63 ls (vi j :: vr x :: st) h Q ↔ ((X.1 x = 14 ∧ 0 ≤ j ∧ j < X.2.1 x) ∧ Ev X 18 64 ls (vi (h.1 x j.toNat) :: st) h Q) := R_ba rfl
theorem e_18_64 {x : Nat} {j v : Int} : Ev X 18 64 ls (vi v :: vi j :: vr x :: st) h Q ↔ ((X.1 x = 14 ∧ (v = 0 ∨ v = 1) ∧ 0 ≤ j ∧ j < X.2.1 x) ∧ Ev X 18 65 ls st (up2 h.1 x j.toNat v, h.2) Q) := R_bas rfl
theorem e_18_65 : Ev X 18 65 ls st h Q ↔ onI (gl ls 2) (fun x => (stOK ls 2 = true ∧ inR (x + 1)) ∧ Ev X 18 66 (ls.set 2 (some (vi (x + 1)))) st h Q) := R_inc rfl
theorem e_18_66 : Ev X 18 66 ls st h Q ↔ Ev X 18 54 ls st h Q := R_go rfl
theorem e_18_67 : Ev X 18 67 ls [] h Q ↔ Q none h := R_vr rfl
-- 19: CellRows$Cells.add(IIII)V
theorem e_19_0 : Ev X 19 0 ls st h Q ↔ onR (gl ls 0) (fun z => Ev X 19 1 ls (vr z :: st) h Q) := R_al rfl (Or.inl rfl)
theorem e_19_1 {x : Nat} : Ev X 19 1 ls (vr x :: st) h Q ↔ (X.1 x = 3 ∧ Ev X 19 2 ls (vi (h.2 x 0) :: st) h Q) := R_gi rfl
theorem e_19_2 : Ev X 19 2 ls st h Q ↔ Ev X 19 3 ls (vi 20 :: st) h Q := R_kc rfl (Or.inr (Or.inl ⟨rfl, by decide⟩))
theorem e_19_3 {x y : Int} : Ev X 19 3 ls (vi y :: vi x :: st) h Q ↔ (if x < y then Ev X 19 5 ls st h Q else Ev X 19 4 ls st h Q) := R_iclt rfl
theorem e_19_4 : Ev X 19 4 ls [] h Q ↔ Q none h := R_vr rfl
theorem e_19_5 : Ev X 19 5 ls st h Q ↔ onR (gl ls 0) (fun z => Ev X 19 6 ls (vr z :: st) h Q) := R_al rfl (Or.inl rfl)
theorem e_19_6 {x : Nat} : Ev X 19 6 ls (vr x :: st) h Q ↔ (X.1 x = 3 ∧ Ev X 19 7 ls (vr (X.2.2.1 x 1) :: st) h Q) := R_gr rfl
theorem e_19_7 : Ev X 19 7 ls st h Q ↔ onR (gl ls 0) (fun z => Ev X 19 8 ls (vr z :: st) h Q) := R_al rfl (Or.inl rfl)
theorem e_19_8 {x : Nat} : Ev X 19 8 ls (vr x :: st) h Q ↔ (X.1 x = 3 ∧ Ev X 19 9 ls (vi (h.2 x 0) :: st) h Q) := R_gi rfl
theorem e_19_9 : Ev X 19 9 ls st h Q ↔ onI (gl ls 1) (fun z => Ev X 19 10 ls (vi z :: st) h Q) := R_il rfl (Or.inl rfl)
theorem e_19_10 {x : Nat} {j v : Int} : Ev X 19 10 ls (vi v :: vi j :: vr x :: st) h Q ↔ ((X.1 x = 13 ∧ 0 ≤ j ∧ j < X.2.1 x) ∧ Ev X 19 11 ls st (up2 h.1 x j.toNat v, h.2) Q) := R_ias rfl
theorem e_19_11 : Ev X 19 11 ls st h Q ↔ onR (gl ls 0) (fun z => Ev X 19 12 ls (vr z :: st) h Q) := R_al rfl (Or.inl rfl)
theorem e_19_12 {x : Nat} : Ev X 19 12 ls (vr x :: st) h Q ↔ (X.1 x = 3 ∧ Ev X 19 13 ls (vr (X.2.2.1 x 2) :: st) h Q) := R_gr rfl
theorem e_19_13 : Ev X 19 13 ls st h Q ↔ onR (gl ls 0) (fun z => Ev X 19 14 ls (vr z :: st) h Q) := R_al rfl (Or.inl rfl)
theorem e_19_14 {x : Nat} : Ev X 19 14 ls (vr x :: st) h Q ↔ (X.1 x = 3 ∧ Ev X 19 15 ls (vi (h.2 x 0) :: st) h Q) := R_gi rfl
theorem e_19_15 : Ev X 19 15 ls st h Q ↔ onI (gl ls 2) (fun z => Ev X 19 16 ls (vi z :: st) h Q) := R_il rfl (Or.inl rfl)
theorem e_19_16 {x : Nat} {j v : Int} : Ev X 19 16 ls (vi v :: vi j :: vr x :: st) h Q ↔ ((X.1 x = 13 ∧ 0 ≤ j ∧ j < X.2.1 x) ∧ Ev X 19 17 ls st (up2 h.1 x j.toNat v, h.2) Q) := R_ias rfl
theorem e_19_17 : Ev X 19 17 ls st h Q ↔ onR (gl ls 0) (fun z => Ev X 19 18 ls (vr z :: st) h Q) := R_al rfl (Or.inl rfl)
theorem e_19_18 {x : Nat} : Ev X 19 18 ls (vr x :: st) h Q ↔ (X.1 x = 3 ∧ Ev X 19 19 ls (vr (X.2.2.1 x 3) :: st) h Q) := R_gr rfl
theorem e_19_19 : Ev X 19 19 ls st h Q ↔ onR (gl ls 0) (fun z => Ev X 19 20 ls (vr z :: st) h Q) := R_al rfl (Or.inl rfl)
theorem e_19_20 {x : Nat} : Ev X 19 20 ls (vr x :: st) h Q ↔ (X.1 x = 3 ∧ Ev X 19 21 ls (vi (h.2 x 0) :: st) h Q) := R_gi rfl
theorem e_19_21 : Ev X 19 21 ls st h Q ↔ Ev X 19 22 ls (vi 0 :: st) h Q := R_kc rfl (Or.inl ⟨Or.inl rfl, by decide⟩)
theorem e_19_22 {x : Nat} {j v : Int} : Ev X 19 22 ls (vi v :: vi j :: vr x :: st) h Q ↔ ((X.1 x = 14 ∧ (v = 0 ∨ v = 1) ∧ 0 ≤ j ∧ j < X.2.1 x) ∧ Ev X 19 23 ls st (up2 h.1 x j.toNat v, h.2) Q) := R_bas rfl
theorem e_19_23 : Ev X 19 23 ls st h Q ↔ onR (gl ls 0) (fun z => Ev X 19 24 ls (vr z :: st) h Q) := R_al rfl (Or.inl rfl)
theorem e_19_24 {x : Nat} : Ev X 19 24 ls (vr x :: st) h Q ↔ (X.1 x = 3 ∧ Ev X 19 25 ls (vr (X.2.2.1 x 4) :: st) h Q) := R_gr rfl
theorem e_19_25 : Ev X 19 25 ls st h Q ↔ onR (gl ls 0) (fun z => Ev X 19 26 ls (vr z :: st) h Q) := R_al rfl (Or.inl rfl)
theorem e_19_26 {x : Nat} : Ev X 19 26 ls (vr x :: st) h Q ↔ (X.1 x = 3 ∧ Ev X 19 27 ls (vi (h.2 x 0) :: st) h Q) := R_gi rfl
theorem e_19_27 : Ev X 19 27 ls st h Q ↔ onI (gl ls 3) (fun z => Ev X 19 28 ls (vi z :: st) h Q) := R_il rfl (Or.inl rfl)
theorem e_19_28 {x : Nat} {j v : Int} : Ev X 19 28 ls (vi v :: vi j :: vr x :: st) h Q ↔ ((X.1 x = 13 ∧ 0 ≤ j ∧ j < X.2.1 x) ∧ Ev X 19 29 ls st (up2 h.1 x j.toNat v, h.2) Q) := R_ias rfl
theorem e_19_29 : Ev X 19 29 ls st h Q ↔ onR (gl ls 0) (fun z => Ev X 19 30 ls (vr z :: st) h Q) := R_al rfl (Or.inl rfl)
theorem e_19_30 {x : Nat} : Ev X 19 30 ls (vr x :: st) h Q ↔ (X.1 x = 3 ∧ Ev X 19 31 ls (vr (X.2.2.1 x 5) :: st) h Q) := R_gr rfl
theorem e_19_31 : Ev X 19 31 ls st h Q ↔ onR (gl ls 0) (fun z => Ev X 19 32 ls (vr z :: st) h Q) := R_al rfl (Or.inl rfl)
theorem e_19_32 {x : Nat} : Ev X 19 32 ls (vr x :: st) h Q ↔ (X.1 x = 3 ∧ Ev X 19 33 ls (vi (h.2 x 0) :: st) h Q) := R_gi rfl
theorem e_19_33 : Ev X 19 33 ls st h Q ↔ onI (gl ls 4) (fun z => Ev X 19 34 ls (vi z :: st) h Q) := R_il rfl (Or.inr rfl)
theorem e_19_34 {x : Nat} {j v : Int} : Ev X 19 34 ls (vi v :: vi j :: vr x :: st) h Q ↔ ((X.1 x = 13 ∧ 0 ≤ j ∧ j < X.2.1 x) ∧ Ev X 19 35 ls st (up2 h.1 x j.toNat v, h.2) Q) := R_ias rfl
theorem e_19_35 : Ev X 19 35 ls st h Q ↔ onR (gl ls 0) (fun z => Ev X 19 36 ls (vr z :: st) h Q) := R_al rfl (Or.inl rfl)
theorem e_19_36 {x : Nat} : Ev X 19 36 ls (vr x :: st) h Q ↔ (X.1 x = 3 ∧ Ev X 19 37 ls (vr (X.2.2.1 x 6) :: st) h Q) := R_gr rfl
theorem e_19_37 : Ev X 19 37 ls st h Q ↔ onR (gl ls 0) (fun z => Ev X 19 38 ls (vr z :: st) h Q) := R_al rfl (Or.inl rfl)
theorem e_19_38 {x : Nat} : Ev X 19 38 ls (vr x :: st) h Q ↔ (X.1 x = 3 ∧ Ev X 19 39 ls (vi (h.2 x 0) :: st) h Q) := R_gi rfl
theorem e_19_39 : Ev X 19 39 ls st h Q ↔ Ev X 19 40 ls (vi (-1) :: st) h Q := R_kc rfl (Or.inl ⟨Or.inl rfl, by decide⟩)
theorem e_19_40 {x : Nat} {j v : Int} : Ev X 19 40 ls (vi v :: vi j :: vr x :: st) h Q ↔ ((X.1 x = 13 ∧ 0 ≤ j ∧ j < X.2.1 x) ∧ Ev X 19 41 ls st (up2 h.1 x j.toNat v, h.2) Q) := R_ias rfl
theorem e_19_41 : Ev X 19 41 ls st h Q ↔ onR (gl ls 0) (fun z => Ev X 19 42 ls (vr z :: st) h Q) := R_al rfl (Or.inl rfl)
theorem e_19_42 {x : Nat} : Ev X 19 42 ls (vr x :: st) h Q ↔ (X.1 x = 3 ∧ Ev X 19 43 ls (vr (X.2.2.1 x 7) :: st) h Q) := R_gr rfl
theorem e_19_43 : Ev X 19 43 ls st h Q ↔ onR (gl ls 0) (fun z => Ev X 19 44 ls (vr z :: st) h Q) := R_al rfl (Or.inl rfl)
theorem e_19_44 {x : Nat} : Ev X 19 44 ls (vr x :: st) h Q ↔ (X.1 x = 3 ∧ Ev X 19 45 ls (vi (h.2 x 0) :: st) h Q) := R_gi rfl
theorem e_19_45 : Ev X 19 45 ls st h Q ↔ Ev X 19 46 ls (vi (-1) :: st) h Q := R_kc rfl (Or.inl ⟨Or.inl rfl, by decide⟩)
theorem e_19_46 {x : Nat} {j v : Int} : Ev X 19 46 ls (vi v :: vi j :: vr x :: st) h Q ↔ ((X.1 x = 13 ∧ 0 ≤ j ∧ j < X.2.1 x) ∧ Ev X 19 47 ls st (up2 h.1 x j.toNat v, h.2) Q) := R_ias rfl
theorem e_19_47 : Ev X 19 47 ls st h Q ↔ onR (gl ls 0) (fun z => Ev X 19 48 ls (vr z :: st) h Q) := R_al rfl (Or.inl rfl)
theorem e_19_48 {v : xV} : Ev X 19 48 ls (v :: st) h Q ↔ (ct1 v = true ∧ Ev X 19 49 ls (v :: v :: st) h Q) := R_dup rfl
theorem e_19_49 {x : Nat} : Ev X 19 49 ls (vr x :: st) h Q ↔ (X.1 x = 3 ∧ Ev X 19 50 ls (vi (h.2 x 0) :: st) h Q) := R_gi rfl
theorem e_19_50 : Ev X 19 50 ls st h Q ↔ Ev X 19 51 ls (vi 1 :: st) h Q := R_kc rfl (Or.inl ⟨Or.inl rfl, by decide⟩)
theorem e_19_51 {x y : Int} : Ev X 19 51 ls (vi y :: vi x :: st) h Q ↔ ((inR (x + y)) ∧ Ev X 19 52 ls (vi (x + y) :: st) h Q) := R_add rfl
theorem e_19_52 {x : Nat} {v : Int} : Ev X 19 52 ls (vi v :: vr x :: st) h Q ↔ (X.1 x = 3 ∧ Ev X 19 53 ls st (h.1, up2 h.2 x 0 v) Q) := R_pi rfl
theorem e_19_53 : Ev X 19 53 ls [] h Q ↔ Q none h := R_vr rfl
-- 20: CellRows$Cells.place(III)V
theorem e_20_0 : Ev X 20 0 ls st h Q ↔ onR (gl ls 0) (fun z => Ev X 20 1 ls (vr z :: st) h Q) := R_al rfl (Or.inl rfl)
theorem e_20_1 {x : Nat} : Ev X 20 1 ls (vr x :: st) h Q ↔ (X.1 x = 3 ∧ Ev X 20 2 ls (vr (X.2.2.1 x 6) :: st) h Q) := R_gr rfl
theorem e_20_2 : Ev X 20 2 ls st h Q ↔ onI (gl ls 1) (fun z => Ev X 20 3 ls (vi z :: st) h Q) := R_il rfl (Or.inl rfl)
theorem e_20_3 : Ev X 20 3 ls st h Q ↔ onI (gl ls 2) (fun z => Ev X 20 4 ls (vi z :: st) h Q) := R_il rfl (Or.inl rfl)
theorem e_20_4 {x : Nat} {j v : Int} : Ev X 20 4 ls (vi v :: vi j :: vr x :: st) h Q ↔ ((X.1 x = 13 ∧ 0 ≤ j ∧ j < X.2.1 x) ∧ Ev X 20 5 ls st (up2 h.1 x j.toNat v, h.2) Q) := R_ias rfl
theorem e_20_5 : Ev X 20 5 ls st h Q ↔ onR (gl ls 0) (fun z => Ev X 20 6 ls (vr z :: st) h Q) := R_al rfl (Or.inl rfl)
theorem e_20_6 {x : Nat} : Ev X 20 6 ls (vr x :: st) h Q ↔ (X.1 x = 3 ∧ Ev X 20 7 ls (vr (X.2.2.1 x 7) :: st) h Q) := R_gr rfl
theorem e_20_7 : Ev X 20 7 ls st h Q ↔ onI (gl ls 1) (fun z => Ev X 20 8 ls (vi z :: st) h Q) := R_il rfl (Or.inl rfl)
theorem e_20_8 : Ev X 20 8 ls st h Q ↔ onI (gl ls 3) (fun z => Ev X 20 9 ls (vi z :: st) h Q) := R_il rfl (Or.inl rfl)
theorem e_20_9 {x : Nat} {j v : Int} : Ev X 20 9 ls (vi v :: vi j :: vr x :: st) h Q ↔ ((X.1 x = 13 ∧ 0 ≤ j ∧ j < X.2.1 x) ∧ Ev X 20 10 ls st (up2 h.1 x j.toNat v, h.2) Q) := R_ias rfl
theorem e_20_10 : Ev X 20 10 ls [] h Q ↔ Q none h := R_vr rfl
-- 21: CellRows$Cells.exchange(II)V
theorem e_21_0 : Ev X 21 0 ls st h Q ↔ onR (gl ls 0) (fun z => Ev X 21 1 ls (vr z :: st) h Q) := R_al rfl (Or.inl rfl)
theorem e_21_1 {x : Nat} : Ev X 21 1 ls (vr x :: st) h Q ↔ (X.1 x = 3 ∧ Ev X 21 2 ls (vr (X.2.2.1 x 6) :: st) h Q) := R_gr rfl
theorem e_21_2 : Ev X 21 2 ls st h Q ↔ onI (gl ls 1) (fun z => Ev X 21 3 ls (vi z :: st) h Q) := R_il rfl (Or.inl rfl)
theorem e_21_3 {x : Nat} {j : Int} : Ev X 21 3 ls (vi j :: vr x :: st) h Q ↔ (((X.1 x = 13 ∨ X.1 x = 20) ∧ 0 ≤ j ∧ j < X.2.1 x) ∧ Ev X 21 4 ls (vi (h.1 x j.toNat) :: st) h Q) := R_ia rfl
theorem e_21_4 {x : Int} : Ev X 21 4 ls (vi x :: st) h Q ↔ (stOK ls 3 = true ∧ Ev X 21 5 (ls.set 3 (some (vi x))) st h Q) := R_is rfl (Or.inl rfl)
theorem e_21_5 : Ev X 21 5 ls st h Q ↔ onR (gl ls 0) (fun z => Ev X 21 6 ls (vr z :: st) h Q) := R_al rfl (Or.inl rfl)
theorem e_21_6 {x : Nat} : Ev X 21 6 ls (vr x :: st) h Q ↔ (X.1 x = 3 ∧ Ev X 21 7 ls (vr (X.2.2.1 x 7) :: st) h Q) := R_gr rfl
theorem e_21_7 : Ev X 21 7 ls st h Q ↔ onI (gl ls 1) (fun z => Ev X 21 8 ls (vi z :: st) h Q) := R_il rfl (Or.inl rfl)
theorem e_21_8 {x : Nat} {j : Int} : Ev X 21 8 ls (vi j :: vr x :: st) h Q ↔ (((X.1 x = 13 ∨ X.1 x = 20) ∧ 0 ≤ j ∧ j < X.2.1 x) ∧ Ev X 21 9 ls (vi (h.1 x j.toNat) :: st) h Q) := R_ia rfl
theorem e_21_9 {x : Int} : Ev X 21 9 ls (vi x :: st) h Q ↔ (stOK ls 4 = true ∧ Ev X 21 10 (ls.set 4 (some (vi x))) st h Q) := R_is rfl (Or.inr rfl)
theorem e_21_10 : Ev X 21 10 ls st h Q ↔ onR (gl ls 0) (fun z => Ev X 21 11 ls (vr z :: st) h Q) := R_al rfl (Or.inl rfl)
theorem e_21_11 : Ev X 21 11 ls st h Q ↔ onI (gl ls 1) (fun z => Ev X 21 12 ls (vi z :: st) h Q) := R_il rfl (Or.inl rfl)
theorem e_21_12 : Ev X 21 12 ls st h Q ↔ onR (gl ls 0) (fun z => Ev X 21 13 ls (vr z :: st) h Q) := R_al rfl (Or.inl rfl)
theorem e_21_13 {x : Nat} : Ev X 21 13 ls (vr x :: st) h Q ↔ (X.1 x = 3 ∧ Ev X 21 14 ls (vr (X.2.2.1 x 6) :: st) h Q) := R_gr rfl
theorem e_21_14 : Ev X 21 14 ls st h Q ↔ onI (gl ls 2) (fun z => Ev X 21 15 ls (vi z :: st) h Q) := R_il rfl (Or.inl rfl)
theorem e_21_15 {x : Nat} {j : Int} : Ev X 21 15 ls (vi j :: vr x :: st) h Q ↔ (((X.1 x = 13 ∨ X.1 x = 20) ∧ 0 ≤ j ∧ j < X.2.1 x) ∧ Ev X 21 16 ls (vi (h.1 x j.toNat) :: st) h Q) := R_ia rfl
theorem e_21_16 : Ev X 21 16 ls st h Q ↔ onR (gl ls 0) (fun z => Ev X 21 17 ls (vr z :: st) h Q) := R_al rfl (Or.inl rfl)
theorem e_21_17 {x : Nat} : Ev X 21 17 ls (vr x :: st) h Q ↔ (X.1 x = 3 ∧ Ev X 21 18 ls (vr (X.2.2.1 x 7) :: st) h Q) := R_gr rfl
theorem e_21_18 : Ev X 21 18 ls st h Q ↔ onI (gl ls 2) (fun z => Ev X 21 19 ls (vi z :: st) h Q) := R_il rfl (Or.inl rfl)
theorem e_21_19 {x : Nat} {j : Int} : Ev X 21 19 ls (vi j :: vr x :: st) h Q ↔ (((X.1 x = 13 ∨ X.1 x = 20) ∧ 0 ≤ j ∧ j < X.2.1 x) ∧ Ev X 21 20 ls (vi (h.1 x j.toNat) :: st) h Q) := R_ia rfl
theorem e_21_20 {rest : List xV} {a0 : Int} {a1 : Int} {a2 : Int} {o : Nat} : Ev X 21 20 ls ((vi a2) :: (vi a1) :: (vi a0) :: vr o :: rest) h Q ↔ ((X.1 o = 3 ∧ wd rest ≤ 8) ∧ Cl X 20 [vr o, vi a0, vi a1, vi a2] h (fun r h2 => Ev X 21 21 ls (r.toList ++ rest) h2 Q)) := R_cv (x := o) (as := [vi a0, vi a1, vi a2]) (k2 := 20) rfl rfl (Nat.le_of_ble_eq_true rfl)
theorem e_21_21 : Ev X 21 21 ls st h Q ↔ onR (gl ls 0) (fun z => Ev X 21 22 ls (vr z :: st) h Q) := R_al rfl (Or.inl rfl)
theorem e_21_22 : Ev X 21 22 ls st h Q ↔ onI (gl ls 2) (fun z => Ev X 21 23 ls (vi z :: st) h Q) := R_il rfl (Or.inl rfl)
theorem e_21_23 : Ev X 21 23 ls st h Q ↔ onI (gl ls 3) (fun z => Ev X 21 24 ls (vi z :: st) h Q) := R_il rfl (Or.inl rfl)
theorem e_21_24 : Ev X 21 24 ls st h Q ↔ onI (gl ls 4) (fun z => Ev X 21 25 ls (vi z :: st) h Q) := R_il rfl (Or.inr rfl)
theorem e_21_25 {rest : List xV} {a0 : Int} {a1 : Int} {a2 : Int} {o : Nat} : Ev X 21 25 ls ((vi a2) :: (vi a1) :: (vi a0) :: vr o :: rest) h Q ↔ ((X.1 o = 3 ∧ wd rest ≤ 8) ∧ Cl X 20 [vr o, vi a0, vi a1, vi a2] h (fun r h2 => Ev X 21 26 ls (r.toList ++ rest) h2 Q)) := R_cv (x := o) (as := [vi a0, vi a1, vi a2]) (k2 := 20) rfl rfl (Nat.le_of_ble_eq_true rfl)
theorem e_21_26 : Ev X 21 26 ls [] h Q ↔ Q none h := R_vr rfl
-- 22: CellRows$Cells.isPlaced(I)Z
theorem e_22_0 : Ev X 22 0 ls st h Q ↔ onR (gl ls 0) (fun z => Ev X 22 1 ls (vr z :: st) h Q) := R_al rfl (Or.inl rfl)
theorem e_22_1 {x : Nat} : Ev X 22 1 ls (vr x :: st) h Q ↔ (X.1 x = 3 ∧ Ev X 22 2 ls (vr (X.2.2.1 x 6) :: st) h Q) := R_gr rfl
theorem e_22_2 : Ev X 22 2 ls st h Q ↔ onI (gl ls 1) (fun z => Ev X 22 3 ls (vi z :: st) h Q) := R_il rfl (Or.inl rfl)
theorem e_22_3 {x : Nat} {j : Int} : Ev X 22 3 ls (vi j :: vr x :: st) h Q ↔ (((X.1 x = 13 ∨ X.1 x = 20) ∧ 0 ≤ j ∧ j < X.2.1 x) ∧ Ev X 22 4 ls (vi (h.1 x j.toNat) :: st) h Q) := R_ia rfl
theorem e_22_4 : Ev X 22 4 ls st h Q ↔ Ev X 22 5 ls (vi (-1) :: st) h Q := R_kc rfl (Or.inl ⟨Or.inl rfl, by decide⟩)
theorem e_22_5 {x y : Int} : Ev X 22 5 ls (vi y :: vi x :: st) h Q ↔ (if x = y then Ev X 22 8 ls st h Q else Ev X 22 6 ls st h Q) := R_iceq rfl
theorem e_22_6 : Ev X 22 6 ls st h Q ↔ Ev X 22 7 ls (vi 1 :: st) h Q := R_kc rfl (Or.inl ⟨Or.inl rfl, by decide⟩)
theorem e_22_7 : Ev X 22 7 ls st h Q ↔ Ev X 22 9 ls st h Q := R_go rfl
theorem e_22_8 : Ev X 22 8 ls st h Q ↔ Ev X 22 9 ls (vi 0 :: st) h Q := R_kc rfl (Or.inl ⟨Or.inl rfl, by decide⟩)
theorem e_22_9 {z : Int} : Ev X 22 9 ls [vi z] h Q ↔ ((z = 0 ∨ z = 1) ∧ Q (some (vi z)) h) := R_zr rfl
-- 23: CellRows$Cells.isLooseAndPlaced(I)Z
theorem e_23_0 : Ev X 23 0 ls st h Q ↔ onR (gl ls 0) (fun z => Ev X 23 1 ls (vr z :: st) h Q) := R_al rfl (Or.inl rfl)
theorem e_23_1 {x : Nat} : Ev X 23 1 ls (vr x :: st) h Q ↔ (X.1 x = 3 ∧ Ev X 23 2 ls (vr (X.2.2.1 x 3) :: st) h Q) := R_gr rfl
theorem e_23_2 : Ev X 23 2 ls st h Q ↔ onI (gl ls 1) (fun z => Ev X 23 3 ls (vi z :: st) h Q) := R_il rfl (Or.inl rfl)
theorem e_23_3 {x : Nat} {j : Int} : Ev X 23 3 ls (vi j :: vr x :: st) h Q ↔ ((X.1 x = 14 ∧ 0 ≤ j ∧ j < X.2.1 x) ∧ Ev X 23 4 ls (vi (h.1 x j.toNat) :: st) h Q) := R_ba rfl
theorem e_23_4 {x : Int} : Ev X 23 4 ls (vi x :: st) h Q ↔ (if ¬ x = 0 then Ev X 23 13 ls st h Q else Ev X 23 5 ls st h Q) := R_ifne rfl
theorem e_23_5 : Ev X 23 5 ls st h Q ↔ onR (gl ls 0) (fun z => Ev X 23 6 ls (vr z :: st) h Q) := R_al rfl (Or.inl rfl)
theorem e_23_6 {x : Nat} : Ev X 23 6 ls (vr x :: st) h Q ↔ (X.1 x = 3 ∧ Ev X 23 7 ls (vr (X.2.2.1 x 6) :: st) h Q) := R_gr rfl
theorem e_23_7 : Ev X 23 7 ls st h Q ↔ onI (gl ls 1) (fun z => Ev X 23 8 ls (vi z :: st) h Q) := R_il rfl (Or.inl rfl)
theorem e_23_8 {x : Nat} {j : Int} : Ev X 23 8 ls (vi j :: vr x :: st) h Q ↔ (((X.1 x = 13 ∨ X.1 x = 20) ∧ 0 ≤ j ∧ j < X.2.1 x) ∧ Ev X 23 9 ls (vi (h.1 x j.toNat) :: st) h Q) := R_ia rfl
theorem e_23_9 : Ev X 23 9 ls st h Q ↔ Ev X 23 10 ls (vi (-1) :: st) h Q := R_kc rfl (Or.inl ⟨Or.inl rfl, by decide⟩)
theorem e_23_10 {x y : Int} : Ev X 23 10 ls (vi y :: vi x :: st) h Q ↔ (if x = y then Ev X 23 13 ls st h Q else Ev X 23 11 ls st h Q) := R_iceq rfl
theorem e_23_11 : Ev X 23 11 ls st h Q ↔ Ev X 23 12 ls (vi 1 :: st) h Q := R_kc rfl (Or.inl ⟨Or.inl rfl, by decide⟩)
theorem e_23_12 : Ev X 23 12 ls st h Q ↔ Ev X 23 14 ls st h Q := R_go rfl
theorem e_23_13 : Ev X 23 13 ls st h Q ↔ Ev X 23 14 ls (vi 0 :: st) h Q := R_kc rfl (Or.inl ⟨Or.inl rfl, by decide⟩)
theorem e_23_14 {z : Int} : Ev X 23 14 ls [vi z] h Q ↔ ((z = 0 ∨ z = 1) ∧ Q (some (vi z)) h) := R_zr rfl
-- 24: CellRows$Cells.canExchange(II)Z
theorem e_24_0 : Ev X 24 0 ls st h Q ↔ onI (gl ls 1) (fun z => Ev X 24 1 ls (vi z :: st) h Q) := R_il rfl (Or.inl rfl)
theorem e_24_1 : Ev X 24 1 ls st h Q ↔ onI (gl ls 2) (fun z => Ev X 24 2 ls (vi z :: st) h Q) := R_il rfl (Or.inl rfl)
theorem e_24_2 {x y : Int} : Ev X 24 2 ls (vi y :: vi x :: st) h Q ↔ (if x = y then Ev X 24 31 ls st h Q else Ev X 24 3 ls st h Q) := R_iceq rfl
theorem e_24_3 : Ev X 24 3 ls st h Q ↔ onR (gl ls 0) (fun z => Ev X 24 4 ls (vr z :: st) h Q) := R_al rfl (Or.inl rfl)
theorem e_24_4 : Ev X 24 4 ls st h Q ↔ onI (gl ls 1) (fun z => Ev X 24 5 ls (vi z :: st) h Q) := R_il rfl (Or.inl rfl)
theorem e_24_5 {rest : List xV} {a0 : Int} {o : Nat} : Ev X 24 5 ls ((vi a0) :: vr o :: rest) h Q ↔ ((X.1 o = 3 ∧ wd rest ≤ 8) ∧ Cl X 23 [vr o, vi a0] h (fun r h2 => Ev X 24 6 ls (r.toList ++ rest) h2 Q)) := R_cv (x := o) (as := [vi a0]) (k2 := 23) rfl rfl (Nat.le_of_ble_eq_true rfl)
theorem e_24_6 {x : Int} : Ev X 24 6 ls (vi x :: st) h Q ↔ (if x = 0 then Ev X 24 31 ls st h Q else Ev X 24 7 ls st h Q) := R_ifeq rfl
theorem e_24_7 : Ev X 24 7 ls st h Q ↔ onR (gl ls 0) (fun z => Ev X 24 8 ls (vr z :: st) h Q) := R_al rfl (Or.inl rfl)
theorem e_24_8 : Ev X 24 8 ls st h Q ↔ onI (gl ls 2) (fun z => Ev X 24 9 ls (vi z :: st) h Q) := R_il rfl (Or.inl rfl)
theorem e_24_9 {rest : List xV} {a0 : Int} {o : Nat} : Ev X 24 9 ls ((vi a0) :: vr o :: rest) h Q ↔ ((X.1 o = 3 ∧ wd rest ≤ 8) ∧ Cl X 23 [vr o, vi a0] h (fun r h2 => Ev X 24 10 ls (r.toList ++ rest) h2 Q)) := R_cv (x := o) (as := [vi a0]) (k2 := 23) rfl rfl (Nat.le_of_ble_eq_true rfl)
theorem e_24_10 {x : Int} : Ev X 24 10 ls (vi x :: st) h Q ↔ (if x = 0 then Ev X 24 31 ls st h Q else Ev X 24 11 ls st h Q) := R_ifeq rfl
theorem e_24_11 : Ev X 24 11 ls st h Q ↔ onR (gl ls 0) (fun z => Ev X 24 12 ls (vr z :: st) h Q) := R_al rfl (Or.inl rfl)
theorem e_24_12 {x : Nat} : Ev X 24 12 ls (vr x :: st) h Q ↔ (X.1 x = 3 ∧ Ev X 24 13 ls (vr (X.2.2.1 x 1) :: st) h Q) := R_gr rfl
theorem e_24_13 : Ev X 24 13 ls st h Q ↔ onI (gl ls 1) (fun z => Ev X 24 14 ls (vi z :: st) h Q) := R_il rfl (Or.inl rfl)
theorem e_24_14 {x : Nat} {j : Int} : Ev X 24 14 ls (vi j :: vr x :: st) h Q ↔ (((X.1 x = 13 ∨ X.1 x = 20) ∧ 0 ≤ j ∧ j < X.2.1 x) ∧ Ev X 24 15 ls (vi (h.1 x j.toNat) :: st) h Q) := R_ia rfl
theorem e_24_15 : Ev X 24 15 ls st h Q ↔ onR (gl ls 0) (fun z => Ev X 24 16 ls (vr z :: st) h Q) := R_al rfl (Or.inl rfl)
theorem e_24_16 {x : Nat} : Ev X 24 16 ls (vr x :: st) h Q ↔ (X.1 x = 3 ∧ Ev X 24 17 ls (vr (X.2.2.1 x 1) :: st) h Q) := R_gr rfl
theorem e_24_17 : Ev X 24 17 ls st h Q ↔ onI (gl ls 2) (fun z => Ev X 24 18 ls (vi z :: st) h Q) := R_il rfl (Or.inl rfl)
theorem e_24_18 {x : Nat} {j : Int} : Ev X 24 18 ls (vi j :: vr x :: st) h Q ↔ (((X.1 x = 13 ∨ X.1 x = 20) ∧ 0 ≤ j ∧ j < X.2.1 x) ∧ Ev X 24 19 ls (vi (h.1 x j.toNat) :: st) h Q) := R_ia rfl
theorem e_24_19 {x y : Int} : Ev X 24 19 ls (vi y :: vi x :: st) h Q ↔ (if ¬ x = y then Ev X 24 31 ls st h Q else Ev X 24 20 ls st h Q) := R_icne rfl
theorem e_24_20 : Ev X 24 20 ls st h Q ↔ onR (gl ls 0) (fun z => Ev X 24 21 ls (vr z :: st) h Q) := R_al rfl (Or.inl rfl)
theorem e_24_21 {x : Nat} : Ev X 24 21 ls (vr x :: st) h Q ↔ (X.1 x = 3 ∧ Ev X 24 22 ls (vr (X.2.2.1 x 2) :: st) h Q) := R_gr rfl
theorem e_24_22 : Ev X 24 22 ls st h Q ↔ onI (gl ls 1) (fun z => Ev X 24 23 ls (vi z :: st) h Q) := R_il rfl (Or.inl rfl)
theorem e_24_23 {x : Nat} {j : Int} : Ev X 24 23 ls (vi j :: vr x :: st) h Q ↔ (((X.1 x = 13 ∨ X.1 x = 20) ∧ 0 ≤ j ∧ j < X.2.1 x) ∧ Ev X 24 24 ls (vi (h.1 x j.toNat) :: st) h Q) := R_ia rfl
theorem e_24_24 : Ev X 24 24 ls st h Q ↔ onR (gl ls 0) (fun z => Ev X 24 25 ls (vr z :: st) h Q) := R_al rfl (Or.inl rfl)
theorem e_24_25 {x : Nat} : Ev X 24 25 ls (vr x :: st) h Q ↔ (X.1 x = 3 ∧ Ev X 24 26 ls (vr (X.2.2.1 x 2) :: st) h Q) := R_gr rfl
theorem e_24_26 : Ev X 24 26 ls st h Q ↔ onI (gl ls 2) (fun z => Ev X 24 27 ls (vi z :: st) h Q) := R_il rfl (Or.inl rfl)
theorem e_24_27 {x : Nat} {j : Int} : Ev X 24 27 ls (vi j :: vr x :: st) h Q ↔ (((X.1 x = 13 ∨ X.1 x = 20) ∧ 0 ≤ j ∧ j < X.2.1 x) ∧ Ev X 24 28 ls (vi (h.1 x j.toNat) :: st) h Q) := R_ia rfl
theorem e_24_28 {x y : Int} : Ev X 24 28 ls (vi y :: vi x :: st) h Q ↔ (if ¬ x = y then Ev X 24 31 ls st h Q else Ev X 24 29 ls st h Q) := R_icne rfl
theorem e_24_29 : Ev X 24 29 ls st h Q ↔ Ev X 24 30 ls (vi 1 :: st) h Q := R_kc rfl (Or.inl ⟨Or.inl rfl, by decide⟩)
theorem e_24_30 : Ev X 24 30 ls st h Q ↔ Ev X 24 32 ls st h Q := R_go rfl
theorem e_24_31 : Ev X 24 31 ls st h Q ↔ Ev X 24 32 ls (vi 0 :: st) h Q := R_kc rfl (Or.inl ⟨Or.inl rfl, by decide⟩)
theorem e_24_32 {z : Int} : Ev X 24 32 ls [vi z] h Q ↔ ((z = 0 ∨ z = 1) ∧ Q (some (vi z)) h) := R_zr rfl
-- 25: CellRows$Cells.liesAcross(IIII)Z
theorem e_25_0 : Ev X 25 0 ls st h Q ↔ onR (gl ls 0) (fun z => Ev X 25 1 ls (vr z :: st) h Q) := R_al rfl (Or.inl rfl)
theorem e_25_1 {x : Nat} : Ev X 25 1 ls (vr x :: st) h Q ↔ (X.1 x = 3 ∧ Ev X 25 2 ls (vr (X.2.2.1 x 6) :: st) h Q) := R_gr rfl
theorem e_25_2 : Ev X 25 2 ls st h Q ↔ onI (gl ls 1) (fun z => Ev X 25 3 ls (vi z :: st) h Q) := R_il rfl (Or.inl rfl)
theorem e_25_3 {x : Nat} {j : Int} : Ev X 25 3 ls (vi j :: vr x :: st) h Q ↔ (((X.1 x = 13 ∨ X.1 x = 20) ∧ 0 ≤ j ∧ j < X.2.1 x) ∧ Ev X 25 4 ls (vi (h.1 x j.toNat) :: st) h Q) := R_ia rfl
theorem e_25_4 : Ev X 25 4 ls st h Q ↔ onI (gl ls 2) (fun z => Ev X 25 5 ls (vi z :: st) h Q) := R_il rfl (Or.inl rfl)
theorem e_25_5 {x y : Int} : Ev X 25 5 ls (vi y :: vi x :: st) h Q ↔ (if ¬ x = y then Ev X 25 25 ls st h Q else Ev X 25 6 ls st h Q) := R_icne rfl
theorem e_25_6 : Ev X 25 6 ls st h Q ↔ onR (gl ls 0) (fun z => Ev X 25 7 ls (vr z :: st) h Q) := R_al rfl (Or.inl rfl)
theorem e_25_7 {x : Nat} : Ev X 25 7 ls (vr x :: st) h Q ↔ (X.1 x = 3 ∧ Ev X 25 8 ls (vr (X.2.2.1 x 7) :: st) h Q) := R_gr rfl
theorem e_25_8 : Ev X 25 8 ls st h Q ↔ onI (gl ls 1) (fun z => Ev X 25 9 ls (vi z :: st) h Q) := R_il rfl (Or.inl rfl)
theorem e_25_9 {x : Nat} {j : Int} : Ev X 25 9 ls (vi j :: vr x :: st) h Q ↔ (((X.1 x = 13 ∨ X.1 x = 20) ∧ 0 ≤ j ∧ j < X.2.1 x) ∧ Ev X 25 10 ls (vi (h.1 x j.toNat) :: st) h Q) := R_ia rfl
theorem e_25_10 : Ev X 25 10 ls st h Q ↔ onI (gl ls 4) (fun z => Ev X 25 11 ls (vi z :: st) h Q) := R_il rfl (Or.inr rfl)
theorem e_25_11 {x y : Int} : Ev X 25 11 ls (vi y :: vi x :: st) h Q ↔ (if y < x then Ev X 25 25 ls st h Q else Ev X 25 12 ls st h Q) := R_icgt rfl
theorem e_25_12 : Ev X 25 12 ls st h Q ↔ onI (gl ls 3) (fun z => Ev X 25 13 ls (vi z :: st) h Q) := R_il rfl (Or.inl rfl)
theorem e_25_13 : Ev X 25 13 ls st h Q ↔ onR (gl ls 0) (fun z => Ev X 25 14 ls (vr z :: st) h Q) := R_al rfl (Or.inl rfl)
theorem e_25_14 {x : Nat} : Ev X 25 14 ls (vr x :: st) h Q ↔ (X.1 x = 3 ∧ Ev X 25 15 ls (vr (X.2.2.1 x 7) :: st) h Q) := R_gr rfl
theorem e_25_15 : Ev X 25 15 ls st h Q ↔ onI (gl ls 1) (fun z => Ev X 25 16 ls (vi z :: st) h Q) := R_il rfl (Or.inl rfl)
theorem e_25_16 {x : Nat} {j : Int} : Ev X 25 16 ls (vi j :: vr x :: st) h Q ↔ (((X.1 x = 13 ∨ X.1 x = 20) ∧ 0 ≤ j ∧ j < X.2.1 x) ∧ Ev X 25 17 ls (vi (h.1 x j.toNat) :: st) h Q) := R_ia rfl
theorem e_25_17 : Ev X 25 17 ls st h Q ↔ onR (gl ls 0) (fun z => Ev X 25 18 ls (vr z :: st) h Q) := R_al rfl (Or.inl rfl)
theorem e_25_18 {x : Nat} : Ev X 25 18 ls (vr x :: st) h Q ↔ (X.1 x = 3 ∧ Ev X 25 19 ls (vr (X.2.2.1 x 1) :: st) h Q) := R_gr rfl
theorem e_25_19 : Ev X 25 19 ls st h Q ↔ onI (gl ls 1) (fun z => Ev X 25 20 ls (vi z :: st) h Q) := R_il rfl (Or.inl rfl)
theorem e_25_20 {x : Nat} {j : Int} : Ev X 25 20 ls (vi j :: vr x :: st) h Q ↔ (((X.1 x = 13 ∨ X.1 x = 20) ∧ 0 ≤ j ∧ j < X.2.1 x) ∧ Ev X 25 21 ls (vi (h.1 x j.toNat) :: st) h Q) := R_ia rfl
theorem e_25_21 {x y : Int} : Ev X 25 21 ls (vi y :: vi x :: st) h Q ↔ ((inR (x + y)) ∧ Ev X 25 22 ls (vi (x + y) :: st) h Q) := R_add rfl
theorem e_25_22 {x y : Int} : Ev X 25 22 ls (vi y :: vi x :: st) h Q ↔ (if y ≤ x then Ev X 25 25 ls st h Q else Ev X 25 23 ls st h Q) := R_icge rfl
theorem e_25_23 : Ev X 25 23 ls st h Q ↔ Ev X 25 24 ls (vi 1 :: st) h Q := R_kc rfl (Or.inl ⟨Or.inl rfl, by decide⟩)
theorem e_25_24 : Ev X 25 24 ls st h Q ↔ Ev X 25 26 ls st h Q := R_go rfl
theorem e_25_25 : Ev X 25 25 ls st h Q ↔ Ev X 25 26 ls (vi 0 :: st) h Q := R_kc rfl (Or.inl ⟨Or.inl rfl, by decide⟩)
theorem e_25_26 {z : Int} : Ev X 25 26 ls [vi z] h Q ↔ ((z = 0 ∨ z = 1) ∧ Q (some (vi z)) h) := R_zr rfl
-- 26: CellRows$Cells.anyFixedIn(IIII)Z
theorem e_26_0 : Ev X 26 0 ls st h Q ↔ Ev X 26 1 ls (vi 0 :: st) h Q := R_kc rfl (Or.inl ⟨Or.inl rfl, by decide⟩)
theorem e_26_1 {x : Int} : Ev X 26 1 ls (vi x :: st) h Q ↔ (stOK ls 5 = true ∧ Ev X 26 2 (ls.set 5 (some (vi x))) st h Q) := R_is rfl (Or.inr rfl)
theorem e_26_2 : Ev X 26 2 ls st h Q ↔ onI (gl ls 5) (fun z => Ev X 26 3 ls (vi z :: st) h Q) := R_il rfl (Or.inr rfl)
theorem e_26_3 : Ev X 26 3 ls st h Q ↔ onR (gl ls 0) (fun z => Ev X 26 4 ls (vr z :: st) h Q) := R_al rfl (Or.inl rfl)
theorem e_26_4 {x : Nat} : Ev X 26 4 ls (vr x :: st) h Q ↔ (X.1 x = 3 ∧ Ev X 26 5 ls (vi (h.2 x 0) :: st) h Q) := R_gi rfl
theorem e_26_5 {x y : Int} : Ev X 26 5 ls (vi y :: vi x :: st) h Q ↔ (if y ≤ x then Ev X 26 37 ls st h Q else Ev X 26 6 ls st h Q) := R_icge rfl
theorem e_26_6 : Ev X 26 6 ls st h Q ↔ onR (gl ls 0) (fun z => Ev X 26 7 ls (vr z :: st) h Q) := R_al rfl (Or.inl rfl)
theorem e_26_7 {x : Nat} : Ev X 26 7 ls (vr x :: st) h Q ↔ (X.1 x = 3 ∧ Ev X 26 8 ls (vr (X.2.2.1 x 3) :: st) h Q) := R_gr rfl
theorem e_26_8 : Ev X 26 8 ls st h Q ↔ onI (gl ls 5) (fun z => Ev X 26 9 ls (vi z :: st) h Q) := R_il rfl (Or.inr rfl)
theorem e_26_9 {x : Nat} {j : Int} : Ev X 26 9 ls (vi j :: vr x :: st) h Q ↔ ((X.1 x = 14 ∧ 0 ≤ j ∧ j < X.2.1 x) ∧ Ev X 26 10 ls (vi (h.1 x j.toNat) :: st) h Q) := R_ba rfl
theorem e_26_10 {x : Int} : Ev X 26 10 ls (vi x :: st) h Q ↔ (if x = 0 then Ev X 26 35 ls st h Q else Ev X 26 11 ls st h Q) := R_ifeq rfl
theorem e_26_11 : Ev X 26 11 ls st h Q ↔ onI (gl ls 1) (fun z => Ev X 26 12 ls (vi z :: st) h Q) := R_il rfl (Or.inl rfl)
theorem e_26_12 : Ev X 26 12 ls st h Q ↔ onR (gl ls 0) (fun z => Ev X 26 13 ls (vr z :: st) h Q) := R_al rfl (Or.inl rfl)
theorem e_26_13 {x : Nat} : Ev X 26 13 ls (vr x :: st) h Q ↔ (X.1 x = 3 ∧ Ev X 26 14 ls (vr (X.2.2.1 x 6) :: st) h Q) := R_gr rfl
theorem e_26_14 : Ev X 26 14 ls st h Q ↔ onI (gl ls 5) (fun z => Ev X 26 15 ls (vi z :: st) h Q) := R_il rfl (Or.inr rfl)
theorem e_26_15 {x : Nat} {j : Int} : Ev X 26 15 ls (vi j :: vr x :: st) h Q ↔ (((X.1 x = 13 ∨ X.1 x = 20) ∧ 0 ≤ j ∧ j < X.2.1 x) ∧ Ev X 26 16 ls (vi (h.1 x j.toNat) :: st) h Q) := R_ia rfl
theorem e_26_16 {x y : Int} : Ev X 26 16 ls (vi y :: vi x :: st) h Q ↔ (if y < x then Ev X 26 35 ls st h Q else Ev X 26 17 ls st h Q) := R_icgt rfl
theorem e_26_17 : Ev X 26 17 ls st h Q ↔ onR (gl ls 0) (fun z => Ev X 26 18 ls (vr z :: st) h Q) := R_al rfl (Or.inl rfl)
theorem e_26_18 {x : Nat} : Ev X 26 18 ls (vr x :: st) h Q ↔ (X.1 x = 3 ∧ Ev X 26 19 ls (vr (X.2.2.1 x 6) :: st) h Q) := R_gr rfl
theorem e_26_19 : Ev X 26 19 ls st h Q ↔ onI (gl ls 5) (fun z => Ev X 26 20 ls (vi z :: st) h Q) := R_il rfl (Or.inr rfl)
theorem e_26_20 {x : Nat} {j : Int} : Ev X 26 20 ls (vi j :: vr x :: st) h Q ↔ (((X.1 x = 13 ∨ X.1 x = 20) ∧ 0 ≤ j ∧ j < X.2.1 x) ∧ Ev X 26 21 ls (vi (h.1 x j.toNat) :: st) h Q) := R_ia rfl
theorem e_26_21 : Ev X 26 21 ls st h Q ↔ onI (gl ls 2) (fun z => Ev X 26 22 ls (vi z :: st) h Q) := R_il rfl (Or.inl rfl)
theorem e_26_22 {x y : Int} : Ev X 26 22 ls (vi y :: vi x :: st) h Q ↔ (if y < x then Ev X 26 35 ls st h Q else Ev X 26 23 ls st h Q) := R_icgt rfl
theorem e_26_23 : Ev X 26 23 ls st h Q ↔ onR (gl ls 0) (fun z => Ev X 26 24 ls (vr z :: st) h Q) := R_al rfl (Or.inl rfl)
theorem e_26_24 : Ev X 26 24 ls st h Q ↔ onI (gl ls 5) (fun z => Ev X 26 25 ls (vi z :: st) h Q) := R_il rfl (Or.inr rfl)
theorem e_26_25 : Ev X 26 25 ls st h Q ↔ onR (gl ls 0) (fun z => Ev X 26 26 ls (vr z :: st) h Q) := R_al rfl (Or.inl rfl)
theorem e_26_26 {x : Nat} : Ev X 26 26 ls (vr x :: st) h Q ↔ (X.1 x = 3 ∧ Ev X 26 27 ls (vr (X.2.2.1 x 6) :: st) h Q) := R_gr rfl
theorem e_26_27 : Ev X 26 27 ls st h Q ↔ onI (gl ls 5) (fun z => Ev X 26 28 ls (vi z :: st) h Q) := R_il rfl (Or.inr rfl)
theorem e_26_28 {x : Nat} {j : Int} : Ev X 26 28 ls (vi j :: vr x :: st) h Q ↔ (((X.1 x = 13 ∨ X.1 x = 20) ∧ 0 ≤ j ∧ j < X.2.1 x) ∧ Ev X 26 29 ls (vi (h.1 x j.toNat) :: st) h Q) := R_ia rfl
theorem e_26_29 : Ev X 26 29 ls st h Q ↔ onI (gl ls 3) (fun z => Ev X 26 30 ls (vi z :: st) h Q) := R_il rfl (Or.inl rfl)
theorem e_26_30 : Ev X 26 30 ls st h Q ↔ onI (gl ls 4) (fun z => Ev X 26 31 ls (vi z :: st) h Q) := R_il rfl (Or.inr rfl)
theorem e_26_31 {rest : List xV} {a0 : Int} {a1 : Int} {a2 : Int} {a3 : Int} {o : Nat} : Ev X 26 31 ls ((vi a3) :: (vi a2) :: (vi a1) :: (vi a0) :: vr o :: rest) h Q ↔ ((X.1 o = 3 ∧ wd rest ≤ 8) ∧ Cl X 25 [vr o, vi a0, vi a1, vi a2, vi a3] h (fun r h2 => Ev X 26 32 ls (r.toList ++ rest) h2 Q)) := R_cv (x := o) (as := [vi a0, vi a1, vi a2, vi a3]) (k2 := 25) rfl rfl (Nat.le_of_ble_eq_true rfl)
theorem e_26_32 {x : Int} : Ev X 26 32 ls (vi x :: st) h Q ↔ (if x = 0 then Ev X 26 35 ls st h Q else Ev X 26 33 ls st h Q) := R_ifeq rfl
theorem e_26_33 : Ev X 26 33 ls st h Q ↔ Ev X 26 34 ls (vi 1 :: st) h Q := R_kc rfl (Or.inl ⟨Or.inl rfl, by decide⟩)
theorem e_26_34 {z : Int} : Ev X 26 34 ls [vi z] h Q ↔ ((z = 0 ∨ z = 1) ∧ Q (some (vi z)) h) := R_zr rfl
theorem e_26_35 : Ev X 26 35 ls st h Q ↔ onI (gl ls 5) (fun x => (stOK ls 5 = true ∧ inR (x + 1)) ∧ Ev X 26 36 (ls.set 5 (some (vi (x + 1)))) st h Q) := R_inc rfl
theorem e_26_36 : Ev X 26 36 ls st h Q ↔ Ev X 26 2 ls st h Q := R_go rfl
theorem e_26_37 : Ev X 26 37 ls st h Q ↔ Ev X 26 38 ls (vi 0 :: st) h Q := R_kc rfl (Or.inl ⟨Or.inl rfl, by decide⟩)
theorem e_26_38 {z : Int} : Ev X 26 38 ls [vi z] h Q ↔ ((z = 0 ∨ z = 1) ∧ Q (some (vi z)) h) := R_zr rfl
-- 27: CellRows$Cells.anyOtherIn(IIII)Z
theorem e_27_0 : Ev X 27 0 ls st h Q ↔ Ev X 27 1 ls (vi 0 :: st) h Q := R_kc rfl (Or.inl ⟨Or.inl rfl, by decide⟩)
theorem e_27_1 {x : Int} : Ev X 27 1 ls (vi x :: st) h Q ↔ (stOK ls 5 = true ∧ Ev X 27 2 (ls.set 5 (some (vi x))) st h Q) := R_is rfl (Or.inr rfl)
theorem e_27_2 : Ev X 27 2 ls st h Q ↔ onI (gl ls 5) (fun z => Ev X 27 3 ls (vi z :: st) h Q) := R_il rfl (Or.inr rfl)
theorem e_27_3 : Ev X 27 3 ls st h Q ↔ onR (gl ls 0) (fun z => Ev X 27 4 ls (vr z :: st) h Q) := R_al rfl (Or.inl rfl)
theorem e_27_4 {x : Nat} : Ev X 27 4 ls (vr x :: st) h Q ↔ (X.1 x = 3 ∧ Ev X 27 5 ls (vi (h.2 x 0) :: st) h Q) := R_gi rfl
theorem e_27_5 {x y : Int} : Ev X 27 5 ls (vi y :: vi x :: st) h Q ↔ (if y ≤ x then Ev X 27 20 ls st h Q else Ev X 27 6 ls st h Q) := R_icge rfl
theorem e_27_6 : Ev X 27 6 ls st h Q ↔ onI (gl ls 5) (fun z => Ev X 27 7 ls (vi z :: st) h Q) := R_il rfl (Or.inr rfl)
theorem e_27_7 : Ev X 27 7 ls st h Q ↔ onI (gl ls 1) (fun z => Ev X 27 8 ls (vi z :: st) h Q) := R_il rfl (Or.inl rfl)
theorem e_27_8 {x y : Int} : Ev X 27 8 ls (vi y :: vi x :: st) h Q ↔ (if x = y then Ev X 27 18 ls st h Q else Ev X 27 9 ls st h Q) := R_iceq rfl
theorem e_27_9 : Ev X 27 9 ls st h Q ↔ onR (gl ls 0) (fun z => Ev X 27 10 ls (vr z :: st) h Q) := R_al rfl (Or.inl rfl)
theorem e_27_10 : Ev X 27 10 ls st h Q ↔ onI (gl ls 5) (fun z => Ev X 27 11 ls (vi z :: st) h Q) := R_il rfl (Or.inr rfl)
theorem e_27_11 : Ev X 27 11 ls st h Q ↔ onI (gl ls 2) (fun z => Ev X 27 12 ls (vi z :: st) h Q) := R_il rfl (Or.inl rfl)
theorem e_27_12 : Ev X 27 12 ls st h Q ↔ onI (gl ls 3) (fun z => Ev X 27 13 ls (vi z :: st) h Q) := R_il rfl (Or.inl rfl)
theorem e_27_13 : Ev X 27 13 ls st h Q ↔ onI (gl ls 4) (fun z => Ev X 27 14 ls (vi z :: st) h Q) := R_il rfl (Or.inr rfl)
theorem e_27_14 {rest : List xV} {a0 : Int} {a1 : Int} {a2 : Int} {a3 : Int} {o : Nat} : Ev X 27 14 ls ((vi a3) :: (vi a2) :: (vi a1) :: (vi a0) :: vr o :: rest) h Q ↔ ((X.1 o = 3 ∧ wd rest ≤ 8) ∧ Cl X 25 [vr o, vi a0, vi a1, vi a2, vi a3] h (fun r h2 => Ev X 27 15 ls (r.toList ++ rest) h2 Q)) := R_cv (x := o) (as := [vi a0, vi a1, vi a2, vi a3]) (k2 := 25) rfl rfl (Nat.le_of_ble_eq_true rfl)
theorem e_27_15 {x : Int} : Ev X 27 15 ls (vi x :: st) h Q ↔ (if x = 0 then Ev X 27 18 ls st h Q else Ev X 27 16 ls st h Q) := R_ifeq rfl
theorem e_27_16 : Ev X 27 16 ls st h Q ↔ Ev X 27 17 ls (vi 1 :: st) h Q := R_kc rfl (Or.inl ⟨Or.inl rfl, by decide⟩)
theorem e_27_17 {z : Int} : Ev X 27 17 ls [vi z] h Q ↔ ((z = 0 ∨ z = 1) ∧ Q (some (vi z)) h) := R_zr rfl
theorem e_27_18 : Ev X 27 18 ls st h Q ↔ onI (gl ls 5) (fun x => (stOK ls 5 = true ∧ inR (x + 1)) ∧ Ev X 27 19 (ls.set 5 (some (vi (x + 1)))) st h Q) := R_inc rfl
theorem e_27_19 : Ev X 27 19 ls st h Q ↔ Ev X 27 2 ls st h Q := R_go rfl
theorem e_27_20 : Ev X 27 20 ls st h Q ↔ Ev X 27 21 ls (vi 0 :: st) h Q := R_kc rfl (Or.inl ⟨Or.inl rfl, by decide⟩)
theorem e_27_21 {z : Int} : Ev X 27 21 ls [vi z] h Q ↔ ((z = 0 ∨ z = 1) ∧ Q (some (vi z)) h) := R_zr rfl
-- 28: CellRows$Cells.clearSites(III)I
theorem e_28_0 : Ev X 28 0 ls st h Q ↔ Ev X 28 1 ls (vi 0 :: st) h Q := R_kc rfl (Or.inl ⟨Or.inl rfl, by decide⟩)
theorem e_28_1 {x : Int} : Ev X 28 1 ls (vi x :: st) h Q ↔ (stOK ls 4 = true ∧ Ev X 28 2 (ls.set 4 (some (vi x))) st h Q) := R_is rfl (Or.inr rfl)
theorem e_28_2 : Ev X 28 2 ls st h Q ↔ Ev X 28 3 ls (vi 0 :: st) h Q := R_kc rfl (Or.inl ⟨Or.inl rfl, by decide⟩)
theorem e_28_3 {x : Int} : Ev X 28 3 ls (vi x :: st) h Q ↔ (stOK ls 5 = true ∧ Ev X 28 4 (ls.set 5 (some (vi x))) st h Q) := R_is rfl (Or.inr rfl)
theorem e_28_4 : Ev X 28 4 ls st h Q ↔ onI (gl ls 5) (fun z => Ev X 28 5 ls (vi z :: st) h Q) := R_il rfl (Or.inr rfl)
theorem e_28_5 : Ev X 28 5 ls st h Q ↔ onR (gl ls 0) (fun z => Ev X 28 6 ls (vr z :: st) h Q) := R_al rfl (Or.inl rfl)
theorem e_28_6 {x : Nat} : Ev X 28 6 ls (vr x :: st) h Q ↔ (X.1 x = 3 ∧ Ev X 28 7 ls (vi (h.2 x 0) :: st) h Q) := R_gi rfl
theorem e_28_7 {x y : Int} : Ev X 28 7 ls (vi y :: vi x :: st) h Q ↔ (if y ≤ x then Ev X 28 38 ls st h Q else Ev X 28 8 ls st h Q) := R_icge rfl
theorem e_28_8 : Ev X 28 8 ls st h Q ↔ onI (gl ls 5) (fun z => Ev X 28 9 ls (vi z :: st) h Q) := R_il rfl (Or.inr rfl)
theorem e_28_9 : Ev X 28 9 ls st h Q ↔ onI (gl ls 1) (fun z => Ev X 28 10 ls (vi z :: st) h Q) := R_il rfl (Or.inl rfl)
theorem e_28_10 {x y : Int} : Ev X 28 10 ls (vi y :: vi x :: st) h Q ↔ (if x = y then Ev X 28 36 ls st h Q else Ev X 28 11 ls st h Q) := R_iceq rfl
theorem e_28_11 : Ev X 28 11 ls st h Q ↔ onR (gl ls 0) (fun z => Ev X 28 12 ls (vr z :: st) h Q) := R_al rfl (Or.inl rfl)
theorem e_28_12 {x : Nat} : Ev X 28 12 ls (vr x :: st) h Q ↔ (X.1 x = 3 ∧ Ev X 28 13 ls (vr (X.2.2.1 x 3) :: st) h Q) := R_gr rfl
theorem e_28_13 : Ev X 28 13 ls st h Q ↔ onI (gl ls 5) (fun z => Ev X 28 14 ls (vi z :: st) h Q) := R_il rfl (Or.inr rfl)
theorem e_28_14 {x : Nat} {j : Int} : Ev X 28 14 ls (vi j :: vr x :: st) h Q ↔ ((X.1 x = 14 ∧ 0 ≤ j ∧ j < X.2.1 x) ∧ Ev X 28 15 ls (vi (h.1 x j.toNat) :: st) h Q) := R_ba rfl
theorem e_28_15 {x : Int} : Ev X 28 15 ls (vi x :: st) h Q ↔ (if ¬ x = 0 then Ev X 28 36 ls st h Q else Ev X 28 16 ls st h Q) := R_ifne rfl
theorem e_28_16 : Ev X 28 16 ls st h Q ↔ onR (gl ls 0) (fun z => Ev X 28 17 ls (vr z :: st) h Q) := R_al rfl (Or.inl rfl)
theorem e_28_17 : Ev X 28 17 ls st h Q ↔ onI (gl ls 5) (fun z => Ev X 28 18 ls (vi z :: st) h Q) := R_il rfl (Or.inr rfl)
theorem e_28_18 : Ev X 28 18 ls st h Q ↔ onI (gl ls 2) (fun z => Ev X 28 19 ls (vi z :: st) h Q) := R_il rfl (Or.inl rfl)
theorem e_28_19 : Ev X 28 19 ls st h Q ↔ onI (gl ls 3) (fun z => Ev X 28 20 ls (vi z :: st) h Q) := R_il rfl (Or.inl rfl)
theorem e_28_20 : Ev X 28 20 ls st h Q ↔ onI (gl ls 3) (fun z => Ev X 28 21 ls (vi z :: st) h Q) := R_il rfl (Or.inl rfl)
theorem e_28_21 : Ev X 28 21 ls st h Q ↔ onR (gl ls 0) (fun z => Ev X 28 22 ls (vr z :: st) h Q) := R_al rfl (Or.inl rfl)
theorem e_28_22 {x : Nat} : Ev X 28 22 ls (vr x :: st) h Q ↔ (X.1 x = 3 ∧ Ev X 28 23 ls (vr (X.2.2.1 x 1) :: st) h Q) := R_gr rfl
theorem e_28_23 : Ev X 28 23 ls st h Q ↔ onI (gl ls 1) (fun z => Ev X 28 24 ls (vi z :: st) h Q) := R_il rfl (Or.inl rfl)
theorem e_28_24 {x : Nat} {j : Int} : Ev X 28 24 ls (vi j :: vr x :: st) h Q ↔ (((X.1 x = 13 ∨ X.1 x = 20) ∧ 0 ≤ j ∧ j < X.2.1 x) ∧ Ev X 28 25 ls (vi (h.1 x j.toNat) :: st) h Q) := R_ia rfl
theorem e_28_25 {x y : Int} : Ev X 28 25 ls (vi y :: vi x :: st) h Q ↔ ((inR (x + y)) ∧ Ev X 28 26 ls (vi (x + y) :: st) h Q) := R_add rfl
theorem e_28_26 : Ev X 28 26 ls st h Q ↔ Ev X 28 27 ls (vi 1 :: st) h Q := R_kc rfl (Or.inl ⟨Or.inl rfl, by decide⟩)
theorem e_28_27 {x y : Int} : Ev X 28 27 ls (vi y :: vi x :: st) h Q ↔ ((inR (x - y)) ∧ Ev X 28 28 ls (vi (x - y) :: st) h Q) := R_sub rfl
theorem e_28_28 {rest : List xV} {a0 : Int} {a1 : Int} {a2 : Int} {a3 : Int} {o : Nat} : Ev X 28 28 ls ((vi a3) :: (vi a2) :: (vi a1) :: (vi a0) :: vr o :: rest) h Q ↔ ((X.1 o = 3 ∧ wd rest ≤ 8) ∧ Cl X 25 [vr o, vi a0, vi a1, vi a2, vi a3] h (fun r h2 => Ev X 28 29 ls (r.toList ++ rest) h2 Q)) := R_cv (x := o) (as := [vi a0, vi a1, vi a2, vi a3]) (k2 := 25) rfl rfl (Nat.le_of_ble_eq_true rfl)
theorem e_28_29 {x : Int} : Ev X 28 29 ls (vi x :: st) h Q ↔ (if x = 0 then Ev X 28 36 ls st h Q else Ev X 28 30 ls st h Q) := R_ifeq rfl
theorem e_28_30 : Ev X 28 30 ls st h Q ↔ onR (gl ls 0) (fun z => Ev X 28 31 ls (vr z :: st) h Q) := R_al rfl (Or.inl rfl)
theorem e_28_31 : Ev X 28 31 ls st h Q ↔ onI (gl ls 5) (fun z => Ev X 28 32 ls (vi z :: st) h Q) := R_il rfl (Or.inr rfl)
theorem e_28_32 : Ev X 28 32 ls st h Q ↔ Ev X 28 33 ls (vi (-1) :: st) h Q := R_kc rfl (Or.inl ⟨Or.inl rfl, by decide⟩)
theorem e_28_33 : Ev X 28 33 ls st h Q ↔ Ev X 28 34 ls (vi (-1) :: st) h Q := R_kc rfl (Or.inl ⟨Or.inl rfl, by decide⟩)
theorem e_28_34 {rest : List xV} {a0 : Int} {a1 : Int} {a2 : Int} {o : Nat} : Ev X 28 34 ls ((vi a2) :: (vi a1) :: (vi a0) :: vr o :: rest) h Q ↔ ((X.1 o = 3 ∧ wd rest ≤ 8) ∧ Cl X 20 [vr o, vi a0, vi a1, vi a2] h (fun r h2 => Ev X 28 35 ls (r.toList ++ rest) h2 Q)) := R_cv (x := o) (as := [vi a0, vi a1, vi a2]) (k2 := 20) rfl rfl (Nat.le_of_ble_eq_true rfl)
theorem e_28_35 : Ev X 28 35 ls st h Q ↔ onI (gl ls 4) (fun x => (stOK ls 4 = true ∧ inR (x + 1)) ∧ Ev X 28 36 (ls.set 4 (some (vi (x + 1)))) st h Q) := R_inc rfl
theorem e_28_36 : Ev X 28 36 ls st h Q ↔ onI (gl ls 5) (fun x => (stOK ls 5 = true ∧ inR (x + 1)) ∧ Ev X 28 37 (ls.set 5 (some (vi (x + 1)))) st h Q) := R_inc rfl
theorem e_28_37 : Ev X 28 37 ls st h Q ↔ Ev X 28 4 ls st h Q := R_go rfl
theorem e_28_38 : Ev X 28 38 ls st h Q ↔ onI (gl ls 4) (fun z => Ev X 28 39 ls (vi z :: st) h Q) := R_il rfl (Or.inr rfl)
theorem e_28_39 {z : Int} : Ev X 28 39 ls [vi z] h Q ↔ Q (some (vi z)) h := R_ir rfl
-- 29: CellRows$Cells.moveOf(II)I
theorem e_29_0 : Ev X 29 0 ls st h Q ↔ Ev X 29 1 ls (vi 16 :: st) h Q := R_kc rfl (Or.inr (Or.inl ⟨rfl, by decide⟩))
theorem e_29_1 : Ev X 29 1 ls st h Q ↔ onR (gl ls 0) (fun z => Ev X 29 2 ls (vr z :: st) h Q) := R_al rfl (Or.inl rfl)
theorem e_29_2 {x : Nat} : Ev X 29 2 ls (vr x :: st) h Q ↔ (X.1 x = 3 ∧ Ev X 29 3 ls (vr (X.2.2.1 x 7) :: st) h Q) := R_gr rfl
theorem e_29_3 : Ev X 29 3 ls st h Q ↔ onI (gl ls 1) (fun z => Ev X 29 4 ls (vi z :: st) h Q) := R_il rfl (Or.inl rfl)
theorem e_29_4 {x : Nat} {j : Int} : Ev X 29 4 ls (vi j :: vr x :: st) h Q ↔ (((X.1 x = 13 ∨ X.1 x = 20) ∧ 0 ≤ j ∧ j < X.2.1 x) ∧ Ev X 29 5 ls (vi (h.1 x j.toNat) :: st) h Q) := R_ia rfl
theorem e_29_5 {x y : Int} : Ev X 29 5 ls (vi y :: vi x :: st) h Q ↔ ((inR (x * y)) ∧ Ev X 29 6 ls (vi (x * y) :: st) h Q) := R_mul rfl
theorem e_29_6 : Ev X 29 6 ls st h Q ↔ onR (gl ls 0) (fun z => Ev X 29 7 ls (vr z :: st) h Q) := R_al rfl (Or.inl rfl)
theorem e_29_7 {x : Nat} : Ev X 29 7 ls (vr x :: st) h Q ↔ (X.1 x = 3 ∧ Ev X 29 8 ls (vr (X.2.2.1 x 4) :: st) h Q) := R_gr rfl
theorem e_29_8 : Ev X 29 8 ls st h Q ↔ onI (gl ls 1) (fun z => Ev X 29 9 ls (vi z :: st) h Q) := R_il rfl (Or.inl rfl)
theorem e_29_9 {x : Nat} {j : Int} : Ev X 29 9 ls (vi j :: vr x :: st) h Q ↔ (((X.1 x = 13 ∨ X.1 x = 20) ∧ 0 ≤ j ∧ j < X.2.1 x) ∧ Ev X 29 10 ls (vi (h.1 x j.toNat) :: st) h Q) := R_ia rfl
theorem e_29_10 {x y : Int} : Ev X 29 10 ls (vi y :: vi x :: st) h Q ↔ ((inR (x - y)) ∧ Ev X 29 11 ls (vi (x - y) :: st) h Q) := R_sub rfl
theorem e_29_11 {rest : List xV} {a0 : Int} : Ev X 29 11 ls ((vi a0) :: rest) h Q ↔ (wd rest ≤ 8 ∧ Cl X 283 [vi a0] h (fun r h2 => Ev X 29 12 ls (r.toList ++ rest) h2 Q)) := R_cs (as := [vi a0]) (k2 := 283) rfl rfl (Nat.le_of_ble_eq_true rfl)
theorem e_29_12 {x : Int} : Ev X 29 12 ls (vi x :: st) h Q ↔ (stOK ls 3 = true ∧ Ev X 29 13 (ls.set 3 (some (vi x))) st h Q) := R_is rfl (Or.inl rfl)
theorem e_29_13 : Ev X 29 13 ls st h Q ↔ Ev X 29 14 ls (vi 16 :: st) h Q := R_kc rfl (Or.inr (Or.inl ⟨rfl, by decide⟩))
theorem e_29_14 : Ev X 29 14 ls st h Q ↔ onR (gl ls 0) (fun z => Ev X 29 15 ls (vr z :: st) h Q) := R_al rfl (Or.inl rfl)
theorem e_29_15 {x : Nat} : Ev X 29 15 ls (vr x :: st) h Q ↔ (X.1 x = 3 ∧ Ev X 29 16 ls (vr (X.2.2.1 x 6) :: st) h Q) := R_gr rfl
theorem e_29_16 : Ev X 29 16 ls st h Q ↔ onI (gl ls 1) (fun z => Ev X 29 17 ls (vi z :: st) h Q) := R_il rfl (Or.inl rfl)
theorem e_29_17 {x : Nat} {j : Int} : Ev X 29 17 ls (vi j :: vr x :: st) h Q ↔ (((X.1 x = 13 ∨ X.1 x = 20) ∧ 0 ≤ j ∧ j < X.2.1 x) ∧ Ev X 29 18 ls (vi (h.1 x j.toNat) :: st) h Q) := R_ia rfl
theorem e_29_18 {x y : Int} : Ev X 29 18 ls (vi y :: vi x :: st) h Q ↔ ((inR (x * y)) ∧ Ev X 29 19 ls (vi (x * y) :: st) h Q) := R_mul rfl
theorem e_29_19 : Ev X 29 19 ls st h Q ↔ onR (gl ls 0) (fun z => Ev X 29 20 ls (vr z :: st) h Q) := R_al rfl (Or.inl rfl)
theorem e_29_20 {x : Nat} : Ev X 29 20 ls (vr x :: st) h Q ↔ (X.1 x = 3 ∧ Ev X 29 21 ls (vr (X.2.2.1 x 5) :: st) h Q) := R_gr rfl
theorem e_29_21 : Ev X 29 21 ls st h Q ↔ onI (gl ls 1) (fun z => Ev X 29 22 ls (vi z :: st) h Q) := R_il rfl (Or.inl rfl)
theorem e_29_22 {x : Nat} {j : Int} : Ev X 29 22 ls (vi j :: vr x :: st) h Q ↔ (((X.1 x = 13 ∨ X.1 x = 20) ∧ 0 ≤ j ∧ j < X.2.1 x) ∧ Ev X 29 23 ls (vi (h.1 x j.toNat) :: st) h Q) := R_ia rfl
theorem e_29_23 {x y : Int} : Ev X 29 23 ls (vi y :: vi x :: st) h Q ↔ ((inR (x - y)) ∧ Ev X 29 24 ls (vi (x - y) :: st) h Q) := R_sub rfl
theorem e_29_24 {rest : List xV} {a0 : Int} : Ev X 29 24 ls ((vi a0) :: rest) h Q ↔ (wd rest ≤ 8 ∧ Cl X 283 [vi a0] h (fun r h2 => Ev X 29 25 ls (r.toList ++ rest) h2 Q)) := R_cs (as := [vi a0]) (k2 := 283) rfl rfl (Nat.le_of_ble_eq_true rfl)
theorem e_29_25 {x : Int} : Ev X 29 25 ls (vi x :: st) h Q ↔ (stOK ls 4 = true ∧ Ev X 29 26 (ls.set 4 (some (vi x))) st h Q) := R_is rfl (Or.inr rfl)
theorem e_29_26 : Ev X 29 26 ls st h Q ↔ onR (gl ls 0) (fun z => Ev X 29 27 ls (vr z :: st) h Q) := R_al rfl (Or.inl rfl)
theorem e_29_27 {x : Nat} : Ev X 29 27 ls (vr x :: st) h Q ↔ (X.1 x = 3 ∧ Ev X 29 28 ls (vr (X.2.2.1 x 1) :: st) h Q) := R_gr rfl
theorem e_29_28 : Ev X 29 28 ls st h Q ↔ onI (gl ls 1) (fun z => Ev X 29 29 ls (vi z :: st) h Q) := R_il rfl (Or.inl rfl)
theorem e_29_29 {x : Nat} {j : Int} : Ev X 29 29 ls (vi j :: vr x :: st) h Q ↔ (((X.1 x = 13 ∨ X.1 x = 20) ∧ 0 ≤ j ∧ j < X.2.1 x) ∧ Ev X 29 30 ls (vi (h.1 x j.toNat) :: st) h Q) := R_ia rfl
theorem e_29_30 : Ev X 29 30 ls st h Q ↔ onI (gl ls 3) (fun z => Ev X 29 31 ls (vi z :: st) h Q) := R_il rfl (Or.inl rfl)
theorem e_29_31 : Ev X 29 31 ls st h Q ↔ onI (gl ls 2) (fun z => Ev X 29 32 ls (vi z :: st) h Q) := R_il rfl (Or.inl rfl)
theorem e_29_32 : Ev X 29 32 ls st h Q ↔ onI (gl ls 4) (fun z => Ev X 29 33 ls (vi z :: st) h Q) := R_il rfl (Or.inr rfl)
theorem e_29_33 {x y : Int} : Ev X 29 33 ls (vi y :: vi x :: st) h Q ↔ ((inR (x * y)) ∧ Ev X 29 34 ls (vi (x * y) :: st) h Q) := R_mul rfl
theorem e_29_34 {x y : Int} : Ev X 29 34 ls (vi y :: vi x :: st) h Q ↔ ((inR (x + y)) ∧ Ev X 29 35 ls (vi (x + y) :: st) h Q) := R_add rfl
theorem e_29_35 {x y : Int} : Ev X 29 35 ls (vi y :: vi x :: st) h Q ↔ ((inR (x * y)) ∧ Ev X 29 36 ls (vi (x * y) :: st) h Q) := R_mul rfl
theorem e_29_36 {z : Int} : Ev X 29 36 ls [vi z] h Q ↔ Q (some (vi z)) h := R_ir rfl
-- 30: CellRows$Cells.withoutSpot()I
theorem e_30_0 : Ev X 30 0 ls st h Q ↔ Ev X 30 1 ls (vi 0 :: st) h Q := R_kc rfl (Or.inl ⟨Or.inl rfl, by decide⟩)
theorem e_30_1 {x : Int} : Ev X 30 1 ls (vi x :: st) h Q ↔ (stOK ls 1 = true ∧ Ev X 30 2 (ls.set 1 (some (vi x))) st h Q) := R_is rfl (Or.inl rfl)
theorem e_30_2 : Ev X 30 2 ls st h Q ↔ Ev X 30 3 ls (vi 0 :: st) h Q := R_kc rfl (Or.inl ⟨Or.inl rfl, by decide⟩)
theorem e_30_3 {x : Int} : Ev X 30 3 ls (vi x :: st) h Q ↔ (stOK ls 2 = true ∧ Ev X 30 4 (ls.set 2 (some (vi x))) st h Q) := R_is rfl (Or.inl rfl)
theorem e_30_4 : Ev X 30 4 ls st h Q ↔ onI (gl ls 2) (fun z => Ev X 30 5 ls (vi z :: st) h Q) := R_il rfl (Or.inl rfl)
theorem e_30_5 : Ev X 30 5 ls st h Q ↔ onR (gl ls 0) (fun z => Ev X 30 6 ls (vr z :: st) h Q) := R_al rfl (Or.inl rfl)
theorem e_30_6 {x : Nat} : Ev X 30 6 ls (vr x :: st) h Q ↔ (X.1 x = 3 ∧ Ev X 30 7 ls (vi (h.2 x 0) :: st) h Q) := R_gi rfl
theorem e_30_7 {x y : Int} : Ev X 30 7 ls (vi y :: vi x :: st) h Q ↔ (if y ≤ x then Ev X 30 15 ls st h Q else Ev X 30 8 ls st h Q) := R_icge rfl
theorem e_30_8 : Ev X 30 8 ls st h Q ↔ onR (gl ls 0) (fun z => Ev X 30 9 ls (vr z :: st) h Q) := R_al rfl (Or.inl rfl)
theorem e_30_9 : Ev X 30 9 ls st h Q ↔ onI (gl ls 2) (fun z => Ev X 30 10 ls (vi z :: st) h Q) := R_il rfl (Or.inl rfl)
theorem e_30_10 {rest : List xV} {a0 : Int} {o : Nat} : Ev X 30 10 ls ((vi a0) :: vr o :: rest) h Q ↔ ((X.1 o = 3 ∧ wd rest ≤ 8) ∧ Cl X 22 [vr o, vi a0] h (fun r h2 => Ev X 30 11 ls (r.toList ++ rest) h2 Q)) := R_cv (x := o) (as := [vi a0]) (k2 := 22) rfl rfl (Nat.le_of_ble_eq_true rfl)
theorem e_30_11 {x : Int} : Ev X 30 11 ls (vi x :: st) h Q ↔ (if ¬ x = 0 then Ev X 30 13 ls st h Q else Ev X 30 12 ls st h Q) := R_ifne rfl
theorem e_30_12 : Ev X 30 12 ls st h Q ↔ onI (gl ls 1) (fun x => (stOK ls 1 = true ∧ inR (x + 1)) ∧ Ev X 30 13 (ls.set 1 (some (vi (x + 1)))) st h Q) := R_inc rfl
theorem e_30_13 : Ev X 30 13 ls st h Q ↔ onI (gl ls 2) (fun x => (stOK ls 2 = true ∧ inR (x + 1)) ∧ Ev X 30 14 (ls.set 2 (some (vi (x + 1)))) st h Q) := R_inc rfl
theorem e_30_14 : Ev X 30 14 ls st h Q ↔ Ev X 30 4 ls st h Q := R_go rfl
theorem e_30_15 : Ev X 30 15 ls st h Q ↔ onI (gl ls 1) (fun z => Ev X 30 16 ls (vi z :: st) h Q) := R_il rfl (Or.inl rfl)
theorem e_30_16 {z : Int} : Ev X 30 16 ls [vi z] h Q ↔ Q (some (vi z)) h := R_ir rfl
-- 31: CellRows$Cells.widthsOf([II)I
theorem e_31_0 : Ev X 31 0 ls st h Q ↔ Ev X 31 1 ls (vi 0 :: st) h Q := R_kc rfl (Or.inl ⟨Or.inl rfl, by decide⟩)
theorem e_31_1 {x : Int} : Ev X 31 1 ls (vi x :: st) h Q ↔ (stOK ls 3 = true ∧ Ev X 31 2 (ls.set 3 (some (vi x))) st h Q) := R_is rfl (Or.inl rfl)
theorem e_31_2 : Ev X 31 2 ls st h Q ↔ Ev X 31 3 ls (vi 0 :: st) h Q := R_kc rfl (Or.inl ⟨Or.inl rfl, by decide⟩)
theorem e_31_3 {x : Int} : Ev X 31 3 ls (vi x :: st) h Q ↔ (stOK ls 4 = true ∧ Ev X 31 4 (ls.set 4 (some (vi x))) st h Q) := R_is rfl (Or.inr rfl)
theorem e_31_4 : Ev X 31 4 ls st h Q ↔ onI (gl ls 4) (fun z => Ev X 31 5 ls (vi z :: st) h Q) := R_il rfl (Or.inr rfl)
theorem e_31_5 : Ev X 31 5 ls st h Q ↔ onI (gl ls 2) (fun z => Ev X 31 6 ls (vi z :: st) h Q) := R_il rfl (Or.inl rfl)
theorem e_31_6 {x y : Int} : Ev X 31 6 ls (vi y :: vi x :: st) h Q ↔ (if y ≤ x then Ev X 31 18 ls st h Q else Ev X 31 7 ls st h Q) := R_icge rfl
theorem e_31_7 : Ev X 31 7 ls st h Q ↔ onI (gl ls 3) (fun z => Ev X 31 8 ls (vi z :: st) h Q) := R_il rfl (Or.inl rfl)
theorem e_31_8 : Ev X 31 8 ls st h Q ↔ onR (gl ls 0) (fun z => Ev X 31 9 ls (vr z :: st) h Q) := R_al rfl (Or.inl rfl)
theorem e_31_9 {x : Nat} : Ev X 31 9 ls (vr x :: st) h Q ↔ (X.1 x = 3 ∧ Ev X 31 10 ls (vr (X.2.2.1 x 1) :: st) h Q) := R_gr rfl
theorem e_31_10 : Ev X 31 10 ls st h Q ↔ onR (gl ls 1) (fun z => Ev X 31 11 ls (vr z :: st) h Q) := R_al rfl (Or.inl rfl)
theorem e_31_11 : Ev X 31 11 ls st h Q ↔ onI (gl ls 4) (fun z => Ev X 31 12 ls (vi z :: st) h Q) := R_il rfl (Or.inr rfl)
theorem e_31_12 {x : Nat} {j : Int} : Ev X 31 12 ls (vi j :: vr x :: st) h Q ↔ (((X.1 x = 13 ∨ X.1 x = 20) ∧ 0 ≤ j ∧ j < X.2.1 x) ∧ Ev X 31 13 ls (vi (h.1 x j.toNat) :: st) h Q) := R_ia rfl
theorem e_31_13 {x : Nat} {j : Int} : Ev X 31 13 ls (vi j :: vr x :: st) h Q ↔ (((X.1 x = 13 ∨ X.1 x = 20) ∧ 0 ≤ j ∧ j < X.2.1 x) ∧ Ev X 31 14 ls (vi (h.1 x j.toNat) :: st) h Q) := R_ia rfl
theorem e_31_14 {x y : Int} : Ev X 31 14 ls (vi y :: vi x :: st) h Q ↔ ((inR (x + y)) ∧ Ev X 31 15 ls (vi (x + y) :: st) h Q) := R_add rfl
theorem e_31_15 {x : Int} : Ev X 31 15 ls (vi x :: st) h Q ↔ (stOK ls 3 = true ∧ Ev X 31 16 (ls.set 3 (some (vi x))) st h Q) := R_is rfl (Or.inl rfl)
theorem e_31_16 : Ev X 31 16 ls st h Q ↔ onI (gl ls 4) (fun x => (stOK ls 4 = true ∧ inR (x + 1)) ∧ Ev X 31 17 (ls.set 4 (some (vi (x + 1)))) st h Q) := R_inc rfl
theorem e_31_17 : Ev X 31 17 ls st h Q ↔ Ev X 31 4 ls st h Q := R_go rfl
theorem e_31_18 : Ev X 31 18 ls st h Q ↔ onI (gl ls 3) (fun z => Ev X 31 19 ls (vi z :: st) h Q) := R_il rfl (Or.inl rfl)
theorem e_31_19 {z : Int} : Ev X 31 19 ls [vi z] h Q ↔ Q (some (vi z)) h := R_ir rfl
-- 32: CellRows$Ground.paint(LCellRows$Plan;)V
theorem e_32_0 : Ev X 32 0 ls st h Q ↔ Ev X 32 1 ls (vi 0 :: st) h Q := R_kc rfl (Or.inl ⟨Or.inl rfl, by decide⟩)
theorem e_32_1 {x : Int} : Ev X 32 1 ls (vi x :: st) h Q ↔ (stOK ls 2 = true ∧ Ev X 32 2 (ls.set 2 (some (vi x))) st h Q) := R_is rfl (Or.inl rfl)
theorem e_32_2 : Ev X 32 2 ls st h Q ↔ onI (gl ls 2) (fun z => Ev X 32 3 ls (vi z :: st) h Q) := R_il rfl (Or.inl rfl)
theorem e_32_3 : Ev X 32 3 ls st h Q ↔ onR (gl ls 0) (fun z => Ev X 32 4 ls (vr z :: st) h Q) := R_al rfl (Or.inl rfl)
theorem e_32_4 {x : Nat} : Ev X 32 4 ls (vr x :: st) h Q ↔ (X.1 x = 4 ∧ Ev X 32 5 ls (vr (X.2.2.1 x 2) :: st) h Q) := R_gr rfl
theorem e_32_5 {x : Nat} : Ev X 32 5 ls (vr x :: st) h Q ↔ ((X.1 x = 13 ∨ X.1 x = 20) ∧ Ev X 32 6 ls (vi (X.2.1 x) :: st) h Q) := R_len rfl
theorem e_32_6 {x y : Int} : Ev X 32 6 ls (vi y :: vi x :: st) h Q ↔ (if y ≤ x then Ev X 32 14 ls st h Q else Ev X 32 7 ls st h Q) := R_icge rfl
theorem e_32_7 : Ev X 32 7 ls st h Q ↔ onR (gl ls 0) (fun z => Ev X 32 8 ls (vr z :: st) h Q) := R_al rfl (Or.inl rfl)
theorem e_32_8 {x : Nat} : Ev X 32 8 ls (vr x :: st) h Q ↔ (X.1 x = 4 ∧ Ev X 32 9 ls (vr (X.2.2.1 x 2) :: st) h Q) := R_gr rfl
theorem e_32_9 : Ev X 32 9 ls st h Q ↔ onI (gl ls 2) (fun z => Ev X 32 10 ls (vi z :: st) h Q) := R_il rfl (Or.inl rfl)
theorem e_32_10 : Ev X 32 10 ls st h Q ↔ Ev X 32 11 ls (vi (-1) :: st) h Q := R_kc rfl (Or.inl ⟨Or.inl rfl, by decide⟩)
theorem e_32_11 {x : Nat} {j v : Int} : Ev X 32 11 ls (vi v :: vi j :: vr x :: st) h Q ↔ ((X.1 x = 13 ∧ 0 ≤ j ∧ j < X.2.1 x) ∧ Ev X 32 12 ls st (up2 h.1 x j.toNat v, h.2) Q) := R_ias rfl
theorem e_32_12 : Ev X 32 12 ls st h Q ↔ onI (gl ls 2) (fun x => (stOK ls 2 = true ∧ inR (x + 1)) ∧ Ev X 32 13 (ls.set 2 (some (vi (x + 1)))) st h Q) := R_inc rfl
theorem e_32_13 : Ev X 32 13 ls st h Q ↔ Ev X 32 2 ls st h Q := R_go rfl
theorem e_32_14 : Ev X 32 14 ls st h Q ↔ onR (gl ls 1) (fun z => Ev X 32 15 ls (vr z :: st) h Q) := R_al rfl (Or.inl rfl)
theorem e_32_15 {x : Nat} : Ev X 32 15 ls (vr x :: st) h Q ↔ (X.1 x = 9 ∧ Ev X 32 16 ls (vr (X.2.2.1 x 3) :: st) h Q) := R_gr rfl
theorem e_32_16 {x : Nat} : Ev X 32 16 ls (vr x :: st) h Q ↔ (stOK ls 2 = true ∧ Ev X 32 17 (ls.set 2 (some (vr x))) st h Q) := R_as rfl (Or.inl rfl)
theorem e_32_17 : Ev X 32 17 ls st h Q ↔ Ev X 32 18 ls (vi 0 :: st) h Q := R_kc rfl (Or.inl ⟨Or.inl rfl, by decide⟩)
theorem e_32_18 {x : Int} : Ev X 32 18 ls (vi x :: st) h Q ↔ (stOK ls 3 = true ∧ Ev X 32 19 (ls.set 3 (some (vi x))) st h Q) := R_is rfl (Or.inl rfl)
theorem e_32_19 : Ev X 32 19 ls st h Q ↔ onI (gl ls 3) (fun z => Ev X 32 20 ls (vi z :: st) h Q) := R_il rfl (Or.inl rfl)
theorem e_32_20 : Ev X 32 20 ls st h Q ↔ onR (gl ls 2) (fun z => Ev X 32 21 ls (vr z :: st) h Q) := R_al rfl (Or.inl rfl)
theorem e_32_21 {x : Nat} : Ev X 32 21 ls (vr x :: st) h Q ↔ (X.1 x = 2 ∧ Ev X 32 22 ls (vi (h.2 x 0) :: st) h Q) := R_gi rfl
theorem e_32_22 {x y : Int} : Ev X 32 22 ls (vi y :: vi x :: st) h Q ↔ (if y ≤ x then Ev X 32 30 ls st h Q else Ev X 32 23 ls st h Q) := R_icge rfl
theorem e_32_23 : Ev X 32 23 ls st h Q ↔ onR (gl ls 0) (fun z => Ev X 32 24 ls (vr z :: st) h Q) := R_al rfl (Or.inl rfl)
theorem e_32_24 : Ev X 32 24 ls st h Q ↔ onR (gl ls 2) (fun z => Ev X 32 25 ls (vr z :: st) h Q) := R_al rfl (Or.inl rfl)
theorem e_32_25 : Ev X 32 25 ls st h Q ↔ onI (gl ls 3) (fun z => Ev X 32 26 ls (vi z :: st) h Q) := R_il rfl (Or.inl rfl)
theorem e_32_26 : Ev X 32 26 ls st h Q ↔ onI (gl ls 3) (fun z => Ev X 32 27 ls (vi z :: st) h Q) := R_il rfl (Or.inl rfl)
theorem e_32_27 {rest : List xV} {a0 : Nat} {a1 : Int} {a2 : Int} {o : Nat} : Ev X 32 27 ls ((vi a2) :: (vi a1) :: (vr a0) :: vr o :: rest) h Q ↔ ((X.1 o = 4 ∧ wd rest ≤ 8) ∧ Cl X 33 [vr o, vr a0, vi a1, vi a2] h (fun r h2 => Ev X 32 28 ls (r.toList ++ rest) h2 Q)) := R_cv (x := o) (as := [vr a0, vi a1, vi a2]) (k2 := 33) rfl rfl (Nat.le_of_ble_eq_true rfl)
theorem e_32_28 : Ev X 32 28 ls st h Q ↔ onI (gl ls 3) (fun x => (stOK ls 3 = true ∧ inR (x + 1)) ∧ Ev X 32 29 (ls.set 3 (some (vi (x + 1)))) st h Q) := R_inc rfl
theorem e_32_29 : Ev X 32 29 ls st h Q ↔ Ev X 32 19 ls st h Q := R_go rfl
theorem e_32_30 : Ev X 32 30 ls st h Q ↔ Ev X 32 31 ls (vi 0 :: st) h Q := R_kc rfl (Or.inl ⟨Or.inl rfl, by decide⟩)
theorem e_32_31 {x : Int} : Ev X 32 31 ls (vi x :: st) h Q ↔ (stOK ls 3 = true ∧ Ev X 32 32 (ls.set 3 (some (vi x))) st h Q) := R_is rfl (Or.inl rfl)
theorem e_32_32 : Ev X 32 32 ls st h Q ↔ onI (gl ls 3) (fun z => Ev X 32 33 ls (vi z :: st) h Q) := R_il rfl (Or.inl rfl)
theorem e_32_33 : Ev X 32 33 ls st h Q ↔ onR (gl ls 1) (fun z => Ev X 32 34 ls (vr z :: st) h Q) := R_al rfl (Or.inl rfl)
theorem e_32_34 {x : Nat} : Ev X 32 34 ls (vr x :: st) h Q ↔ (X.1 x = 9 ∧ Ev X 32 35 ls (vr (X.2.2.1 x 2) :: st) h Q) := R_gr rfl
theorem e_32_35 {x : Nat} : Ev X 32 35 ls (vr x :: st) h Q ↔ (X.1 x = 2 ∧ Ev X 32 36 ls (vi (h.2 x 0) :: st) h Q) := R_gi rfl
theorem e_32_36 {x y : Int} : Ev X 32 36 ls (vi y :: vi x :: st) h Q ↔ (if y ≤ x then Ev X 32 45 ls st h Q else Ev X 32 37 ls st h Q) := R_icge rfl
theorem e_32_37 : Ev X 32 37 ls st h Q ↔ onR (gl ls 0) (fun z => Ev X 32 38 ls (vr z :: st) h Q) := R_al rfl (Or.inl rfl)
theorem e_32_38 : Ev X 32 38 ls st h Q ↔ onR (gl ls 1) (fun z => Ev X 32 39 ls (vr z :: st) h Q) := R_al rfl (Or.inl rfl)
theorem e_32_39 {x : Nat} : Ev X 32 39 ls (vr x :: st) h Q ↔ (X.1 x = 9 ∧ Ev X 32 40 ls (vr (X.2.2.1 x 2) :: st) h Q) := R_gr rfl
theorem e_32_40 : Ev X 32 40 ls st h Q ↔ onI (gl ls 3) (fun z => Ev X 32 41 ls (vi z :: st) h Q) := R_il rfl (Or.inl rfl)
theorem e_32_41 : Ev X 32 41 ls st h Q ↔ Ev X 32 42 ls (vi (-2) :: st) h Q := R_kc rfl (Or.inr (Or.inl ⟨rfl, by decide⟩))
theorem e_32_42 {rest : List xV} {a0 : Nat} {a1 : Int} {a2 : Int} {o : Nat} : Ev X 32 42 ls ((vi a2) :: (vi a1) :: (vr a0) :: vr o :: rest) h Q ↔ ((X.1 o = 4 ∧ wd rest ≤ 8) ∧ Cl X 33 [vr o, vr a0, vi a1, vi a2] h (fun r h2 => Ev X 32 43 ls (r.toList ++ rest) h2 Q)) := R_cv (x := o) (as := [vr a0, vi a1, vi a2]) (k2 := 33) rfl rfl (Nat.le_of_ble_eq_true rfl)
theorem e_32_43 : Ev X 32 43 ls st h Q ↔ onI (gl ls 3) (fun x => (stOK ls 3 = true ∧ inR (x + 1)) ∧ Ev X 32 44 (ls.set 3 (some (vi (x + 1)))) st h Q) := R_inc rfl
theorem e_32_44 : Ev X 32 44 ls st h Q ↔ Ev X 32 32 ls st h Q := R_go rfl
theorem e_32_45 : Ev X 32 45 ls st h Q ↔ onR (gl ls 1) (fun z => Ev X 32 46 ls (vr z :: st) h Q) := R_al rfl (Or.inl rfl)
theorem e_32_46 {x : Nat} : Ev X 32 46 ls (vr x :: st) h Q ↔ (X.1 x = 9 ∧ Ev X 32 47 ls (vr (X.2.2.1 x 4) :: st) h Q) := R_gr rfl
theorem e_32_47 {x : Nat} : Ev X 32 47 ls (vr x :: st) h Q ↔ (stOK ls 3 = true ∧ Ev X 32 48 (ls.set 3 (some (vr x))) st h Q) := R_as rfl (Or.inl rfl)
theorem e_32_48 : Ev X 32 48 ls st h Q ↔ Ev X 32 49 ls (vi 0 :: st) h Q := R_kc rfl (Or.inl ⟨Or.inl rfl, by decide⟩)
theorem e_32_49 {x : Int} : Ev X 32 49 ls (vi x :: st) h Q ↔ (stOK ls 4 = true ∧ Ev X 32 50 (ls.set 4 (some (vi x))) st h Q) := R_is rfl (Or.inr rfl)
theorem e_32_50 : Ev X 32 50 ls st h Q ↔ onI (gl ls 4) (fun z => Ev X 32 51 ls (vi z :: st) h Q) := R_il rfl (Or.inr rfl)
theorem e_32_51 : Ev X 32 51 ls st h Q ↔ onR (gl ls 3) (fun z => Ev X 32 52 ls (vr z :: st) h Q) := R_al rfl (Or.inl rfl)
theorem e_32_52 {x : Nat} : Ev X 32 52 ls (vr x :: st) h Q ↔ (X.1 x = 3 ∧ Ev X 32 53 ls (vi (h.2 x 0) :: st) h Q) := R_gi rfl
theorem e_32_53 {x y : Int} : Ev X 32 53 ls (vi y :: vi x :: st) h Q ↔ (if y ≤ x then Ev X 32 83 ls st h Q else Ev X 32 54 ls st h Q) := R_icge rfl
theorem e_32_54 : Ev X 32 54 ls st h Q ↔ onR (gl ls 3) (fun z => Ev X 32 55 ls (vr z :: st) h Q) := R_al rfl (Or.inl rfl)
theorem e_32_55 {x : Nat} : Ev X 32 55 ls (vr x :: st) h Q ↔ (X.1 x = 3 ∧ Ev X 32 56 ls (vr (X.2.2.1 x 3) :: st) h Q) := R_gr rfl
theorem e_32_56 : Ev X 32 56 ls st h Q ↔ onI (gl ls 4) (fun z => Ev X 32 57 ls (vi z :: st) h Q) := R_il rfl (Or.inr rfl)
theorem e_32_57 {x : Nat} {j : Int} : Ev X 32 57 ls (vi j :: vr x :: st) h Q ↔ ((X.1 x = 14 ∧ 0 ≤ j ∧ j < X.2.1 x) ∧ Ev X 32 58 ls (vi (h.1 x j.toNat) :: st) h Q) := R_ba rfl
theorem e_32_58 {x : Int} : Ev X 32 58 ls (vi x :: st) h Q ↔ (if x = 0 then Ev X 32 81 ls st h Q else Ev X 32 59 ls st h Q) := R_ifeq rfl
theorem e_32_59 : Ev X 32 59 ls st h Q ↔ onR (gl ls 0) (fun z => Ev X 32 60 ls (vr z :: st) h Q) := R_al rfl (Or.inl rfl)
theorem e_32_60 : Ev X 32 60 ls st h Q ↔ onR (gl ls 3) (fun z => Ev X 32 61 ls (vr z :: st) h Q) := R_al rfl (Or.inl rfl)
theorem e_32_61 {x : Nat} : Ev X 32 61 ls (vr x :: st) h Q ↔ (X.1 x = 3 ∧ Ev X 32 62 ls (vr (X.2.2.1 x 6) :: st) h Q) := R_gr rfl
theorem e_32_62 : Ev X 32 62 ls st h Q ↔ onI (gl ls 4) (fun z => Ev X 32 63 ls (vi z :: st) h Q) := R_il rfl (Or.inr rfl)
theorem e_32_63 {x : Nat} {j : Int} : Ev X 32 63 ls (vi j :: vr x :: st) h Q ↔ (((X.1 x = 13 ∨ X.1 x = 20) ∧ 0 ≤ j ∧ j < X.2.1 x) ∧ Ev X 32 64 ls (vi (h.1 x j.toNat) :: st) h Q) := R_ia rfl
theorem e_32_64 : Ev X 32 64 ls st h Q ↔ onR (gl ls 3) (fun z => Ev X 32 65 ls (vr z :: st) h Q) := R_al rfl (Or.inl rfl)
theorem e_32_65 {x : Nat} : Ev X 32 65 ls (vr x :: st) h Q ↔ (X.1 x = 3 ∧ Ev X 32 66 ls (vr (X.2.2.1 x 7) :: st) h Q) := R_gr rfl
theorem e_32_66 : Ev X 32 66 ls st h Q ↔ onI (gl ls 4) (fun z => Ev X 32 67 ls (vi z :: st) h Q) := R_il rfl (Or.inr rfl)
theorem e_32_67 {x : Nat} {j : Int} : Ev X 32 67 ls (vi j :: vr x :: st) h Q ↔ (((X.1 x = 13 ∨ X.1 x = 20) ∧ 0 ≤ j ∧ j < X.2.1 x) ∧ Ev X 32 68 ls (vi (h.1 x j.toNat) :: st) h Q) := R_ia rfl
theorem e_32_68 : Ev X 32 68 ls st h Q ↔ onR (gl ls 3) (fun z => Ev X 32 69 ls (vr z :: st) h Q) := R_al rfl (Or.inl rfl)
theorem e_32_69 {x : Nat} : Ev X 32 69 ls (vr x :: st) h Q ↔ (X.1 x = 3 ∧ Ev X 32 70 ls (vr (X.2.2.1 x 7) :: st) h Q) := R_gr rfl
theorem e_32_70 : Ev X 32 70 ls st h Q ↔ onI (gl ls 4) (fun z => Ev X 32 71 ls (vi z :: st) h Q) := R_il rfl (Or.inr rfl)
theorem e_32_71 {x : Nat} {j : Int} : Ev X 32 71 ls (vi j :: vr x :: st) h Q ↔ (((X.1 x = 13 ∨ X.1 x = 20) ∧ 0 ≤ j ∧ j < X.2.1 x) ∧ Ev X 32 72 ls (vi (h.1 x j.toNat) :: st) h Q) := R_ia rfl
theorem e_32_72 : Ev X 32 72 ls st h Q ↔ onR (gl ls 3) (fun z => Ev X 32 73 ls (vr z :: st) h Q) := R_al rfl (Or.inl rfl)
theorem e_32_73 {x : Nat} : Ev X 32 73 ls (vr x :: st) h Q ↔ (X.1 x = 3 ∧ Ev X 32 74 ls (vr (X.2.2.1 x 1) :: st) h Q) := R_gr rfl
theorem e_32_74 : Ev X 32 74 ls st h Q ↔ onI (gl ls 4) (fun z => Ev X 32 75 ls (vi z :: st) h Q) := R_il rfl (Or.inr rfl)
theorem e_32_75 {x : Nat} {j : Int} : Ev X 32 75 ls (vi j :: vr x :: st) h Q ↔ (((X.1 x = 13 ∨ X.1 x = 20) ∧ 0 ≤ j ∧ j < X.2.1 x) ∧ Ev X 32 76 ls (vi (h.1 x j.toNat) :: st) h Q) := R_ia rfl
theorem e_32_76 {x y : Int} : Ev X 32 76 ls (vi y :: vi x :: st) h Q ↔ ((inR (x + y)) ∧ Ev X 32 77 ls (vi (x + y) :: st) h Q) := R_add rfl
theorem e_32_77 : Ev X 32 77 ls st h Q ↔ Ev X 32 78 ls (vi 1 :: st) h Q := R_kc rfl (Or.inl ⟨Or.inl rfl, by decide⟩)
theorem e_32_78 {x y : Int} : Ev X 32 78 ls (vi y :: vi x :: st) h Q ↔ ((inR (x - y)) ∧ Ev X 32 79 ls (vi (x - y) :: st) h Q) := R_sub rfl
theorem e_32_79 : Ev X 32 79 ls st h Q ↔ Ev X 32 80 ls (vi (-2) :: st) h Q := R_kc rfl (Or.inr (Or.inl ⟨rfl, by decide⟩))
theorem e_32_80 {rest : List xV} {a0 : Int} {a1 : Int} {a2 : Int} {a3 : Int} {o : Nat} : Ev X 32 80 ls ((vi a3) :: (vi a2) :: (vi a1) :: (vi a0) :: vr o :: rest) h Q ↔ ((X.1 o = 4 ∧ wd rest ≤ 8) ∧ Cl X 34 [vr o, vi a0, vi a1, vi a2, vi a3] h (fun r h2 => Ev X 32 81 ls (r.toList ++ rest) h2 Q)) := R_cv (x := o) (as := [vi a0, vi a1, vi a2, vi a3]) (k2 := 34) rfl rfl (Nat.le_of_ble_eq_true rfl)
theorem e_32_81 : Ev X 32 81 ls st h Q ↔ onI (gl ls 4) (fun x => (stOK ls 4 = true ∧ inR (x + 1)) ∧ Ev X 32 82 (ls.set 4 (some (vi (x + 1)))) st h Q) := R_inc rfl
theorem e_32_82 : Ev X 32 82 ls st h Q ↔ Ev X 32 50 ls st h Q := R_go rfl
theorem e_32_83 : Ev X 32 83 ls [] h Q ↔ Q none h := R_vr rfl
-- 33: CellRows$Ground.paintBox(LCellRows$Boxes;II)V
theorem e_33_0 : Ev X 33 0 ls st h Q ↔ onR (gl ls 1) (fun z => Ev X 33 1 ls (vr z :: st) h Q) := R_al rfl (Or.inl rfl)
theorem e_33_1 {x : Nat} : Ev X 33 1 ls (vr x :: st) h Q ↔ (X.1 x = 2 ∧ Ev X 33 2 ls (vr (X.2.2.1 x 1) :: st) h Q) := R_gr rfl
theorem e_33_2 : Ev X 33 2 ls st h Q ↔ onI (gl ls 2) (fun z => Ev X 33 3 ls (vi z :: st) h Q) := R_il rfl (Or.inl rfl)
theorem e_33_3 {x : Nat} {j : Int} : Ev X 33 3 ls (vi j :: vr x :: st) h Q ↔ (((X.1 x = 13 ∨ X.1 x = 20) ∧ 0 ≤ j ∧ j < X.2.1 x) ∧ Ev X 33 4 ls (vi (h.1 x j.toNat) :: st) h Q) := R_ia rfl
theorem e_33_4 {x : Int} : Ev X 33 4 ls (vi x :: st) h Q ↔ (stOK ls 4 = true ∧ Ev X 33 5 (ls.set 4 (some (vi x))) st h Q) := R_is rfl (Or.inr rfl)
theorem e_33_5 : Ev X 33 5 ls st h Q ↔ onI (gl ls 4) (fun z => Ev X 33 6 ls (vi z :: st) h Q) := R_il rfl (Or.inr rfl)
theorem e_33_6 : Ev X 33 6 ls st h Q ↔ onR (gl ls 1) (fun z => Ev X 33 7 ls (vr z :: st) h Q) := R_al rfl (Or.inl rfl)
theorem e_33_7 {x : Nat} : Ev X 33 7 ls (vr x :: st) h Q ↔ (X.1 x = 2 ∧ Ev X 33 8 ls (vr (X.2.2.1 x 2) :: st) h Q) := R_gr rfl
theorem e_33_8 : Ev X 33 8 ls st h Q ↔ onI (gl ls 2) (fun z => Ev X 33 9 ls (vi z :: st) h Q) := R_il rfl (Or.inl rfl)
theorem e_33_9 {x : Nat} {j : Int} : Ev X 33 9 ls (vi j :: vr x :: st) h Q ↔ (((X.1 x = 13 ∨ X.1 x = 20) ∧ 0 ≤ j ∧ j < X.2.1 x) ∧ Ev X 33 10 ls (vi (h.1 x j.toNat) :: st) h Q) := R_ia rfl
theorem e_33_10 {x y : Int} : Ev X 33 10 ls (vi y :: vi x :: st) h Q ↔ (if y < x then Ev X 33 25 ls st h Q else Ev X 33 11 ls st h Q) := R_icgt rfl
theorem e_33_11 : Ev X 33 11 ls st h Q ↔ onR (gl ls 0) (fun z => Ev X 33 12 ls (vr z :: st) h Q) := R_al rfl (Or.inl rfl)
theorem e_33_12 : Ev X 33 12 ls st h Q ↔ onI (gl ls 4) (fun z => Ev X 33 13 ls (vi z :: st) h Q) := R_il rfl (Or.inr rfl)
theorem e_33_13 : Ev X 33 13 ls st h Q ↔ onR (gl ls 1) (fun z => Ev X 33 14 ls (vr z :: st) h Q) := R_al rfl (Or.inl rfl)
theorem e_33_14 {x : Nat} : Ev X 33 14 ls (vr x :: st) h Q ↔ (X.1 x = 2 ∧ Ev X 33 15 ls (vr (X.2.2.1 x 3) :: st) h Q) := R_gr rfl
theorem e_33_15 : Ev X 33 15 ls st h Q ↔ onI (gl ls 2) (fun z => Ev X 33 16 ls (vi z :: st) h Q) := R_il rfl (Or.inl rfl)
theorem e_33_16 {x : Nat} {j : Int} : Ev X 33 16 ls (vi j :: vr x :: st) h Q ↔ (((X.1 x = 13 ∨ X.1 x = 20) ∧ 0 ≤ j ∧ j < X.2.1 x) ∧ Ev X 33 17 ls (vi (h.1 x j.toNat) :: st) h Q) := R_ia rfl
theorem e_33_17 : Ev X 33 17 ls st h Q ↔ onR (gl ls 1) (fun z => Ev X 33 18 ls (vr z :: st) h Q) := R_al rfl (Or.inl rfl)
theorem e_33_18 {x : Nat} : Ev X 33 18 ls (vr x :: st) h Q ↔ (X.1 x = 2 ∧ Ev X 33 19 ls (vr (X.2.2.1 x 4) :: st) h Q) := R_gr rfl
theorem e_33_19 : Ev X 33 19 ls st h Q ↔ onI (gl ls 2) (fun z => Ev X 33 20 ls (vi z :: st) h Q) := R_il rfl (Or.inl rfl)
theorem e_33_20 {x : Nat} {j : Int} : Ev X 33 20 ls (vi j :: vr x :: st) h Q ↔ (((X.1 x = 13 ∨ X.1 x = 20) ∧ 0 ≤ j ∧ j < X.2.1 x) ∧ Ev X 33 21 ls (vi (h.1 x j.toNat) :: st) h Q) := R_ia rfl
theorem e_33_21 : Ev X 33 21 ls st h Q ↔ onI (gl ls 3) (fun z => Ev X 33 22 ls (vi z :: st) h Q) := R_il rfl (Or.inl rfl)
theorem e_33_22 {rest : List xV} {a0 : Int} {a1 : Int} {a2 : Int} {a3 : Int} {o : Nat} : Ev X 33 22 ls ((vi a3) :: (vi a2) :: (vi a1) :: (vi a0) :: vr o :: rest) h Q ↔ ((X.1 o = 4 ∧ wd rest ≤ 8) ∧ Cl X 34 [vr o, vi a0, vi a1, vi a2, vi a3] h (fun r h2 => Ev X 33 23 ls (r.toList ++ rest) h2 Q)) := R_cv (x := o) (as := [vi a0, vi a1, vi a2, vi a3]) (k2 := 34) rfl rfl (Nat.le_of_ble_eq_true rfl)
theorem e_33_23 : Ev X 33 23 ls st h Q ↔ onI (gl ls 4) (fun x => (stOK ls 4 = true ∧ inR (x + 1)) ∧ Ev X 33 24 (ls.set 4 (some (vi (x + 1)))) st h Q) := R_inc rfl
theorem e_33_24 : Ev X 33 24 ls st h Q ↔ Ev X 33 5 ls st h Q := R_go rfl
theorem e_33_25 : Ev X 33 25 ls [] h Q ↔ Q none h := R_vr rfl
-- 34: CellRows$Ground.paintSites(IIII)V
theorem e_34_0 : Ev X 34 0 ls st h Q ↔ onI (gl ls 2) (fun z => Ev X 34 1 ls (vi z :: st) h Q) := R_il rfl (Or.inl rfl)
theorem e_34_1 {x : Int} : Ev X 34 1 ls (vi x :: st) h Q ↔ (stOK ls 5 = true ∧ Ev X 34 2 (ls.set 5 (some (vi x))) st h Q) := R_is rfl (Or.inr rfl)
theorem e_34_2 : Ev X 34 2 ls st h Q ↔ onI (gl ls 5) (fun z => Ev X 34 3 ls (vi z :: st) h Q) := R_il rfl (Or.inr rfl)
theorem e_34_3 : Ev X 34 3 ls st h Q ↔ onI (gl ls 3) (fun z => Ev X 34 4 ls (vi z :: st) h Q) := R_il rfl (Or.inl rfl)
theorem e_34_4 {x y : Int} : Ev X 34 4 ls (vi y :: vi x :: st) h Q ↔ (if y < x then Ev X 34 17 ls st h Q else Ev X 34 5 ls st h Q) := R_icgt rfl
theorem e_34_5 : Ev X 34 5 ls st h Q ↔ onR (gl ls 0) (fun z => Ev X 34 6 ls (vr z :: st) h Q) := R_al rfl (Or.inl rfl)
theorem e_34_6 {x : Nat} : Ev X 34 6 ls (vr x :: st) h Q ↔ (X.1 x = 4 ∧ Ev X 34 7 ls (vr (X.2.2.1 x 2) :: st) h Q) := R_gr rfl
theorem e_34_7 : Ev X 34 7 ls st h Q ↔ onI (gl ls 1) (fun z => Ev X 34 8 ls (vi z :: st) h Q) := R_il rfl (Or.inl rfl)
theorem e_34_8 : Ev X 34 8 ls st h Q ↔ onR (gl ls 0) (fun z => Ev X 34 9 ls (vr z :: st) h Q) := R_al rfl (Or.inl rfl)
theorem e_34_9 {x : Nat} : Ev X 34 9 ls (vr x :: st) h Q ↔ (X.1 x = 4 ∧ Ev X 34 10 ls (vi (h.2 x 1) :: st) h Q) := R_gi rfl
theorem e_34_10 {x y : Int} : Ev X 34 10 ls (vi y :: vi x :: st) h Q ↔ ((inR (x * y)) ∧ Ev X 34 11 ls (vi (x * y) :: st) h Q) := R_mul rfl
theorem e_34_11 : Ev X 34 11 ls st h Q ↔ onI (gl ls 5) (fun z => Ev X 34 12 ls (vi z :: st) h Q) := R_il rfl (Or.inr rfl)
theorem e_34_12 {x y : Int} : Ev X 34 12 ls (vi y :: vi x :: st) h Q ↔ ((inR (x + y)) ∧ Ev X 34 13 ls (vi (x + y) :: st) h Q) := R_add rfl
theorem e_34_13 : Ev X 34 13 ls st h Q ↔ onI (gl ls 4) (fun z => Ev X 34 14 ls (vi z :: st) h Q) := R_il rfl (Or.inr rfl)
theorem e_34_14 {x : Nat} {j v : Int} : Ev X 34 14 ls (vi v :: vi j :: vr x :: st) h Q ↔ ((X.1 x = 13 ∧ 0 ≤ j ∧ j < X.2.1 x) ∧ Ev X 34 15 ls st (up2 h.1 x j.toNat v, h.2) Q) := R_ias rfl
theorem e_34_15 : Ev X 34 15 ls st h Q ↔ onI (gl ls 5) (fun x => (stOK ls 5 = true ∧ inR (x + 1)) ∧ Ev X 34 16 (ls.set 5 (some (vi (x + 1)))) st h Q) := R_inc rfl
theorem e_34_16 : Ev X 34 16 ls st h Q ↔ Ev X 34 2 ls st h Q := R_go rfl
theorem e_34_17 : Ev X 34 17 ls [] h Q ↔ Q none h := R_vr rfl
-- 35: CellRows$Ground.isOpen(II)Z
theorem e_35_0 : Ev X 35 0 ls st h Q ↔ onR (gl ls 0) (fun z => Ev X 35 1 ls (vr z :: st) h Q) := R_al rfl (Or.inl rfl)
theorem e_35_1 {x : Nat} : Ev X 35 1 ls (vr x :: st) h Q ↔ (X.1 x = 4 ∧ Ev X 35 2 ls (vr (X.2.2.1 x 2) :: st) h Q) := R_gr rfl
theorem e_35_2 : Ev X 35 2 ls st h Q ↔ onI (gl ls 1) (fun z => Ev X 35 3 ls (vi z :: st) h Q) := R_il rfl (Or.inl rfl)
theorem e_35_3 : Ev X 35 3 ls st h Q ↔ onR (gl ls 0) (fun z => Ev X 35 4 ls (vr z :: st) h Q) := R_al rfl (Or.inl rfl)
theorem e_35_4 {x : Nat} : Ev X 35 4 ls (vr x :: st) h Q ↔ (X.1 x = 4 ∧ Ev X 35 5 ls (vi (h.2 x 1) :: st) h Q) := R_gi rfl
theorem e_35_5 {x y : Int} : Ev X 35 5 ls (vi y :: vi x :: st) h Q ↔ ((inR (x * y)) ∧ Ev X 35 6 ls (vi (x * y) :: st) h Q) := R_mul rfl
theorem e_35_6 : Ev X 35 6 ls st h Q ↔ onI (gl ls 2) (fun z => Ev X 35 7 ls (vi z :: st) h Q) := R_il rfl (Or.inl rfl)
theorem e_35_7 {x y : Int} : Ev X 35 7 ls (vi y :: vi x :: st) h Q ↔ ((inR (x + y)) ∧ Ev X 35 8 ls (vi (x + y) :: st) h Q) := R_add rfl
theorem e_35_8 {x : Nat} {j : Int} : Ev X 35 8 ls (vi j :: vr x :: st) h Q ↔ (((X.1 x = 13 ∨ X.1 x = 20) ∧ 0 ≤ j ∧ j < X.2.1 x) ∧ Ev X 35 9 ls (vi (h.1 x j.toNat) :: st) h Q) := R_ia rfl
theorem e_35_9 : Ev X 35 9 ls st h Q ↔ Ev X 35 10 ls (vi (-2) :: st) h Q := R_kc rfl (Or.inr (Or.inl ⟨rfl, by decide⟩))
theorem e_35_10 {x y : Int} : Ev X 35 10 ls (vi y :: vi x :: st) h Q ↔ (if x = y then Ev X 35 13 ls st h Q else Ev X 35 11 ls st h Q) := R_iceq rfl
theorem e_35_11 : Ev X 35 11 ls st h Q ↔ Ev X 35 12 ls (vi 1 :: st) h Q := R_kc rfl (Or.inl ⟨Or.inl rfl, by decide⟩)
theorem e_35_12 : Ev X 35 12 ls st h Q ↔ Ev X 35 14 ls st h Q := R_go rfl
theorem e_35_13 : Ev X 35 13 ls st h Q ↔ Ev X 35 14 ls (vi 0 :: st) h Q := R_kc rfl (Or.inl ⟨Or.inl rfl, by decide⟩)
theorem e_35_14 {z : Int} : Ev X 35 14 ls [vi z] h Q ↔ ((z = 0 ∨ z = 1) ∧ Q (some (vi z)) h) := R_zr rfl
-- 36: CellRows$Ground.findRunsOf(II)V
theorem e_36_0 : Ev X 36 0 ls st h Q ↔ onR (gl ls 0) (fun z => Ev X 36 1 ls (vr z :: st) h Q) := R_al rfl (Or.inl rfl)
theorem e_36_1 : Ev X 36 1 ls st h Q ↔ Ev X 36 2 ls (vi 0 :: st) h Q := R_kc rfl (Or.inl ⟨Or.inl rfl, by decide⟩)
theorem e_36_2 {x : Nat} {v : Int} : Ev X 36 2 ls (vi v :: vr x :: st) h Q ↔ (X.1 x = 4 ∧ Ev X 36 3 ls st (h.1, up2 h.2 x 3 v) Q) := R_pi rfl
theorem e_36_3 : Ev X 36 3 ls st h Q ↔ onR (gl ls 0) (fun z => Ev X 36 4 ls (vr z :: st) h Q) := R_al rfl (Or.inl rfl)
theorem e_36_4 : Ev X 36 4 ls st h Q ↔ onI (gl ls 1) (fun z => Ev X 36 5 ls (vi z :: st) h Q) := R_il rfl (Or.inl rfl)
theorem e_36_5 : Ev X 36 5 ls st h Q ↔ onI (gl ls 2) (fun z => Ev X 36 6 ls (vi z :: st) h Q) := R_il rfl (Or.inl rfl)
theorem e_36_6 {rest : List xV} {a0 : Int} {a1 : Int} {o : Nat} : Ev X 36 6 ls ((vi a1) :: (vi a0) :: vr o :: rest) h Q ↔ ((X.1 o = 4 ∧ wd rest ≤ 8) ∧ Cl X 38 [vr o, vi a0, vi a1] h (fun r h2 => Ev X 36 7 ls (r.toList ++ rest) h2 Q)) := R_cv (x := o) (as := [vi a0, vi a1]) (k2 := 38) rfl rfl (Nat.le_of_ble_eq_true rfl)
theorem e_36_7 : Ev X 36 7 ls [] h Q ↔ Q none h := R_vr rfl
-- 37: CellRows$Ground.findAllRuns(I)V
theorem e_37_0 : Ev X 37 0 ls st h Q ↔ onR (gl ls 0) (fun z => Ev X 37 1 ls (vr z :: st) h Q) := R_al rfl (Or.inl rfl)
theorem e_37_1 : Ev X 37 1 ls st h Q ↔ Ev X 37 2 ls (vi 0 :: st) h Q := R_kc rfl (Or.inl ⟨Or.inl rfl, by decide⟩)
theorem e_37_2 {x : Nat} {v : Int} : Ev X 37 2 ls (vi v :: vr x :: st) h Q ↔ (X.1 x = 4 ∧ Ev X 37 3 ls st (h.1, up2 h.2 x 3 v) Q) := R_pi rfl
theorem e_37_3 : Ev X 37 3 ls st h Q ↔ Ev X 37 4 ls (vi 0 :: st) h Q := R_kc rfl (Or.inl ⟨Or.inl rfl, by decide⟩)
theorem e_37_4 {x : Int} : Ev X 37 4 ls (vi x :: st) h Q ↔ (stOK ls 2 = true ∧ Ev X 37 5 (ls.set 2 (some (vi x))) st h Q) := R_is rfl (Or.inl rfl)
theorem e_37_5 : Ev X 37 5 ls st h Q ↔ onI (gl ls 2) (fun z => Ev X 37 6 ls (vi z :: st) h Q) := R_il rfl (Or.inl rfl)
theorem e_37_6 : Ev X 37 6 ls st h Q ↔ onR (gl ls 0) (fun z => Ev X 37 7 ls (vr z :: st) h Q) := R_al rfl (Or.inl rfl)
theorem e_37_7 {x : Nat} : Ev X 37 7 ls (vr x :: st) h Q ↔ (X.1 x = 4 ∧ Ev X 37 8 ls (vi (h.2 x 0) :: st) h Q) := R_gi rfl
theorem e_37_8 {x y : Int} : Ev X 37 8 ls (vi y :: vi x :: st) h Q ↔ (if y ≤ x then Ev X 37 22 ls st h Q else Ev X 37 9 ls st h Q) := R_icge rfl
theorem e_37_9 : Ev X 37 9 ls st h Q ↔ Ev X 37 10 ls (vi (-1) :: st) h Q := R_kc rfl (Or.inl ⟨Or.inl rfl, by decide⟩)
theorem e_37_10 {x : Int} : Ev X 37 10 ls (vi x :: st) h Q ↔ (stOK ls 3 = true ∧ Ev X 37 11 (ls.set 3 (some (vi x))) st h Q) := R_is rfl (Or.inl rfl)
theorem e_37_11 : Ev X 37 11 ls st h Q ↔ onI (gl ls 3) (fun z => Ev X 37 12 ls (vi z :: st) h Q) := R_il rfl (Or.inl rfl)
theorem e_37_12 : Ev X 37 12 ls st h Q ↔ onI (gl ls 1) (fun z => Ev X 37 13 ls (vi z :: st) h Q) := R_il rfl (Or.inl rfl)
theorem e_37_13 {x y : Int} : Ev X 37 13 ls (vi y :: vi x :: st) h Q ↔ (if y ≤ x then Ev X 37 20 ls st h Q else Ev X 37 14 ls st h Q) := R_icge rfl
theorem e_37_14 : Ev X 37 14 ls st h Q ↔ onR (gl ls 0) (fun z => Ev X 37 15 ls (vr z :: st) h Q) := R_al rfl (Or.inl rfl)
theorem e_37_15 : Ev X 37 15 ls st h Q ↔ onI (gl ls 2) (fun z => Ev X 37 16 ls (vi z :: st) h Q) := R_il rfl (Or.inl rfl)
theorem e_37_16 : Ev X 37 16 ls st h Q ↔ onI (gl ls 3) (fun z => Ev X 37 17 ls (vi z :: st) h Q) := R_il rfl (Or.inl rfl)
theorem e_37_17 {rest : List xV} {a0 : Int} {a1 : Int} {o : Nat} : Ev X 37 17 ls ((vi a1) :: (vi a0) :: vr o :: rest) h Q ↔ ((X.1 o = 4 ∧ wd rest ≤ 8) ∧ Cl X 38 [vr o, vi a0, vi a1] h (fun r h2 => Ev X 37 18 ls (r.toList ++ rest) h2 Q)) := R_cv (x := o) (as := [vi a0, vi a1]) (k2 := 38) rfl rfl (Nat.le_of_ble_eq_true rfl)
theorem e_37_18 : Ev X 37 18 ls st h Q ↔ onI (gl ls 3) (fun x => (stOK ls 3 = true ∧ inR (x + 1)) ∧ Ev X 37 19 (ls.set 3 (some (vi (x + 1)))) st h Q) := R_inc rfl
theorem e_37_19 : Ev X 37 19 ls st h Q ↔ Ev X 37 11 ls st h Q := R_go rfl
theorem e_37_20 : Ev X 37 20 ls st h Q ↔ onI (gl ls 2) (fun x => (stOK ls 2 = true ∧ inR (x + 1)) ∧ Ev X 37 21 (ls.set 2 (some (vi (x + 1)))) st h Q) := R_inc rfl
theorem e_37_21 : Ev X 37 21 ls st h Q ↔ Ev X 37 5 ls st h Q := R_go rfl
theorem e_37_22 : Ev X 37 22 ls [] h Q ↔ Q none h := R_vr rfl
-- 38: CellRows$Ground.addRunsOf(II)V
theorem e_38_0 : Ev X 38 0 ls st h Q ↔ Ev X 38 1 ls (vi 0 :: st) h Q := R_kc rfl (Or.inl ⟨Or.inl rfl, by decide⟩)
theorem e_38_1 {x : Int} : Ev X 38 1 ls (vi x :: st) h Q ↔ (stOK ls 3 = true ∧ Ev X 38 2 (ls.set 3 (some (vi x))) st h Q) := R_is rfl (Or.inl rfl)
theorem e_38_2 : Ev X 38 2 ls st h Q ↔ Ev X 38 3 ls (vi 0 :: st) h Q := R_kc rfl (Or.inl ⟨Or.inl rfl, by decide⟩)
theorem e_38_3 {x : Int} : Ev X 38 3 ls (vi x :: st) h Q ↔ (stOK ls 4 = true ∧ Ev X 38 4 (ls.set 4 (some (vi x))) st h Q) := R_is rfl (Or.inr rfl)
theorem e_38_4 : Ev X 38 4 ls st h Q ↔ onI (gl ls 4) (fun z => Ev X 38 5 ls (vi z :: st) h Q) := R_il rfl (Or.inr rfl)
theorem e_38_5 : Ev X 38 5 ls st h Q ↔ onR (gl ls 0) (fun z => Ev X 38 6 ls (vr z :: st) h Q) := R_al rfl (Or.inl rfl)
theorem e_38_6 {x : Nat} : Ev X 38 6 ls (vr x :: st) h Q ↔ (X.1 x = 4 ∧ Ev X 38 7 ls (vi (h.2 x 1) :: st) h Q) := R_gi rfl
theorem e_38_7 {x y : Int} : Ev X 38 7 ls (vi y :: vi x :: st) h Q ↔ (if y ≤ x then Ev X 38 74 ls st h Q else Ev X 38 8 ls st h Q) := R_icge rfl
theorem e_38_8 : Ev X 38 8 ls st h Q ↔ onR (gl ls 0) (fun z => Ev X 38 9 ls (vr z :: st) h Q) := R_al rfl (Or.inl rfl)
theorem e_38_9 {x : Nat} : Ev X 38 9 ls (vr x :: st) h Q ↔ (X.1 x = 4 ∧ Ev X 38 10 ls (vr (X.2.2.1 x 2) :: st) h Q) := R_gr rfl
theorem e_38_10 : Ev X 38 10 ls st h Q ↔ onI (gl ls 1) (fun z => Ev X 38 11 ls (vi z :: st) h Q) := R_il rfl (Or.inl rfl)
theorem e_38_11 : Ev X 38 11 ls st h Q ↔ onR (gl ls 0) (fun z => Ev X 38 12 ls (vr z :: st) h Q) := R_al rfl (Or.inl rfl)
theorem e_38_12 {x : Nat} : Ev X 38 12 ls (vr x :: st) h Q ↔ (X.1 x = 4 ∧ Ev X 38 13 ls (vi (h.2 x 1) :: st) h Q) := R_gi rfl
theorem e_38_13 {x y : Int} : Ev X 38 13 ls (vi y :: vi x :: st) h Q ↔ ((inR (x * y)) ∧ Ev X 38 14 ls (vi (x * y) :: st) h Q) := R_mul rfl
theorem e_38_14 : Ev X 38 14 ls st h Q ↔ onI (gl ls 4) (fun z => Ev X 38 15 ls (vi z :: st) h Q) := R_il rfl (Or.inr rfl)
theorem e_38_15 {x y : Int} : Ev X 38 15 ls (vi y :: vi x :: st) h Q ↔ ((inR (x + y)) ∧ Ev X 38 16 ls (vi (x + y) :: st) h Q) := R_add rfl
theorem e_38_16 {x : Nat} {j : Int} : Ev X 38 16 ls (vi j :: vr x :: st) h Q ↔ (((X.1 x = 13 ∨ X.1 x = 20) ∧ 0 ≤ j ∧ j < X.2.1 x) ∧ Ev X 38 17 ls (vi (h.1 x j.toNat) :: st) h Q) := R_ia rfl
theorem e_38_17 : Ev X 38 17 ls st h Q ↔ onI (gl ls 2) (fun z => Ev X 38 18 ls (vi z :: st) h Q) := R_il rfl (Or.inl rfl)
theorem e_38_18 {x y : Int} : Ev X 38 18 ls (vi y :: vi x :: st) h Q ↔ (if ¬ x = y then Ev X 38 21 ls st h Q else Ev X 38 19 ls st h Q) := R_icne rfl
theorem e_38_19 : Ev X 38 19 ls st h Q ↔ Ev X 38 20 ls (vi 1 :: st) h Q := R_kc rfl (Or.inl ⟨Or.inl rfl, by decide⟩)
theorem e_38_20 : Ev X 38 20 ls st h Q ↔ Ev X 38 22 ls st h Q := R_go rfl
theorem e_38_21 : Ev X 38 21 ls st h Q ↔ Ev X 38 22 ls (vi 0 :: st) h Q := R_kc rfl (Or.inl ⟨Or.inl rfl, by decide⟩)
theorem e_38_22 {x : Int} : Ev X 38 22 ls (vi x :: st) h Q ↔ (stOK ls 5 = true ∧ Ev X 38 23 (ls.set 5 (some (vi x))) st h Q) := R_is rfl (Or.inr rfl)
theorem e_38_23 : Ev X 38 23 ls st h Q ↔ onI (gl ls 5) (fun z => Ev X 38 24 ls (vi z :: st) h Q) := R_il rfl (Or.inr rfl)
theorem e_38_24 {x : Int} : Ev X 38 24 ls (vi x :: st) h Q ↔ (if x = 0 then Ev X 38 57 ls st h Q else Ev X 38 25 ls st h Q) := R_ifeq rfl
theorem e_38_25 : Ev X 38 25 ls st h Q ↔ onI (gl ls 3) (fun z => Ev X 38 26 ls (vi z :: st) h Q) := R_il rfl (Or.inl rfl)
theorem e_38_26 {x : Int} : Ev X 38 26 ls (vi x :: st) h Q ↔ (if ¬ x = 0 then Ev X 38 57 ls st h Q else Ev X 38 27 ls st h Q) := R_ifne rfl
theorem e_38_27 : Ev X 38 27 ls st h Q ↔ onR (gl ls 0) (fun z => Ev X 38 28 ls (vr z :: st) h Q) := R_al rfl (Or.inl rfl)
theorem e_38_28 {x : Nat} : Ev X 38 28 ls (vr x :: st) h Q ↔ (X.1 x = 4 ∧ Ev X 38 29 ls (vr (X.2.2.1 x 4) :: st) h Q) := R_gr rfl
theorem e_38_29 : Ev X 38 29 ls st h Q ↔ onR (gl ls 0) (fun z => Ev X 38 30 ls (vr z :: st) h Q) := R_al rfl (Or.inl rfl)
theorem e_38_30 {x : Nat} : Ev X 38 30 ls (vr x :: st) h Q ↔ (X.1 x = 4 ∧ Ev X 38 31 ls (vi (h.2 x 3) :: st) h Q) := R_gi rfl
theorem e_38_31 : Ev X 38 31 ls st h Q ↔ onI (gl ls 1) (fun z => Ev X 38 32 ls (vi z :: st) h Q) := R_il rfl (Or.inl rfl)
theorem e_38_32 {x : Nat} {j v : Int} : Ev X 38 32 ls (vi v :: vi j :: vr x :: st) h Q ↔ ((X.1 x = 13 ∧ 0 ≤ j ∧ j < X.2.1 x) ∧ Ev X 38 33 ls st (up2 h.1 x j.toNat v, h.2) Q) := R_ias rfl
theorem e_38_33 : Ev X 38 33 ls st h Q ↔ onR (gl ls 0) (fun z => Ev X 38 34 ls (vr z :: st) h Q) := R_al rfl (Or.inl rfl)
theorem e_38_34 {x : Nat} : Ev X 38 34 ls (vr x :: st) h Q ↔ (X.1 x = 4 ∧ Ev X 38 35 ls (vr (X.2.2.1 x 5) :: st) h Q) := R_gr rfl
theorem e_38_35 : Ev X 38 35 ls st h Q ↔ onR (gl ls 0) (fun z => Ev X 38 36 ls (vr z :: st) h Q) := R_al rfl (Or.inl rfl)
theorem e_38_36 {x : Nat} : Ev X 38 36 ls (vr x :: st) h Q ↔ (X.1 x = 4 ∧ Ev X 38 37 ls (vi (h.2 x 3) :: st) h Q) := R_gi rfl
theorem e_38_37 : Ev X 38 37 ls st h Q ↔ onI (gl ls 2) (fun z => Ev X 38 38 ls (vi z :: st) h Q) := R_il rfl (Or.inl rfl)
theorem e_38_38 {x : Nat} {j v : Int} : Ev X 38 38 ls (vi v :: vi j :: vr x :: st) h Q ↔ ((X.1 x = 13 ∧ 0 ≤ j ∧ j < X.2.1 x) ∧ Ev X 38 39 ls st (up2 h.1 x j.toNat v, h.2) Q) := R_ias rfl
theorem e_38_39 : Ev X 38 39 ls st h Q ↔ onR (gl ls 0) (fun z => Ev X 38 40 ls (vr z :: st) h Q) := R_al rfl (Or.inl rfl)
theorem e_38_40 {x : Nat} : Ev X 38 40 ls (vr x :: st) h Q ↔ (X.1 x = 4 ∧ Ev X 38 41 ls (vr (X.2.2.1 x 6) :: st) h Q) := R_gr rfl
theorem e_38_41 : Ev X 38 41 ls st h Q ↔ onR (gl ls 0) (fun z => Ev X 38 42 ls (vr z :: st) h Q) := R_al rfl (Or.inl rfl)
theorem e_38_42 {x : Nat} : Ev X 38 42 ls (vr x :: st) h Q ↔ (X.1 x = 4 ∧ Ev X 38 43 ls (vi (h.2 x 3) :: st) h Q) := R_gi rfl
theorem e_38_43 : Ev X 38 43 ls st h Q ↔ onI (gl ls 4) (fun z => Ev X 38 44 ls (vi z :: st) h Q) := R_il rfl (Or.inr rfl)
theorem e_38_44 {x : Nat} {j v : Int} : Ev X 38 44 ls (vi v :: vi j :: vr x :: st) h Q ↔ ((X.1 x = 13 ∧ 0 ≤ j ∧ j < X.2.1 x) ∧ Ev X 38 45 ls st (up2 h.1 x j.toNat v, h.2) Q) := R_ias rfl
theorem e_38_45 : Ev X 38 45 ls st h Q ↔ onR (gl ls 0) (fun z => Ev X 38 46 ls (vr z :: st) h Q) := R_al rfl (Or.inl rfl)
theorem e_38_46 {x : Nat} : Ev X 38 46 ls (vr x :: st) h Q ↔ (X.1 x = 4 ∧ Ev X 38 47 ls (vr (X.2.2.1 x 7) :: st) h Q) := R_gr rfl
theorem e_38_47 : Ev X 38 47 ls st h Q ↔ onR (gl ls 0) (fun z => Ev X 38 48 ls (vr z :: st) h Q) := R_al rfl (Or.inl rfl)
theorem e_38_48 {x : Nat} : Ev X 38 48 ls (vr x :: st) h Q ↔ (X.1 x = 4 ∧ Ev X 38 49 ls (vi (h.2 x 3) :: st) h Q) := R_gi rfl
theorem e_38_49 : Ev X 38 49 ls st h Q ↔ Ev X 38 50 ls (vi 0 :: st) h Q := R_kc rfl (Or.inl ⟨Or.inl rfl, by decide⟩)
theorem e_38_50 {x : Nat} {j v : Int} : Ev X 38 50 ls (vi v :: vi j :: vr x :: st) h Q ↔ ((X.1 x = 13 ∧ 0 ≤ j ∧ j < X.2.1 x) ∧ Ev X 38 51 ls st (up2 h.1 x j.toNat v, h.2) Q) := R_ias rfl
theorem e_38_51 : Ev X 38 51 ls st h Q ↔ onR (gl ls 0) (fun z => Ev X 38 52 ls (vr z :: st) h Q) := R_al rfl (Or.inl rfl)
theorem e_38_52 {v : xV} : Ev X 38 52 ls (v :: st) h Q ↔ (ct1 v = true ∧ Ev X 38 53 ls (v :: v :: st) h Q) := R_dup rfl
theorem e_38_53 {x : Nat} : Ev X 38 53 ls (vr x :: st) h Q ↔ (X.1 x = 4 ∧ Ev X 38 54 ls (vi (h.2 x 3) :: st) h Q) := R_gi rfl
theorem e_38_54 : Ev X 38 54 ls st h Q ↔ Ev X 38 55 ls (vi 1 :: st) h Q := R_kc rfl (Or.inl ⟨Or.inl rfl, by decide⟩)
theorem e_38_55 {x y : Int} : Ev X 38 55 ls (vi y :: vi x :: st) h Q ↔ ((inR (x + y)) ∧ Ev X 38 56 ls (vi (x + y) :: st) h Q) := R_add rfl
theorem e_38_56 {x : Nat} {v : Int} : Ev X 38 56 ls (vi v :: vr x :: st) h Q ↔ (X.1 x = 4 ∧ Ev X 38 57 ls st (h.1, up2 h.2 x 3 v) Q) := R_pi rfl
theorem e_38_57 : Ev X 38 57 ls st h Q ↔ onI (gl ls 5) (fun z => Ev X 38 58 ls (vi z :: st) h Q) := R_il rfl (Or.inr rfl)
theorem e_38_58 {x : Int} : Ev X 38 58 ls (vi x :: st) h Q ↔ (if x = 0 then Ev X 38 70 ls st h Q else Ev X 38 59 ls st h Q) := R_ifeq rfl
theorem e_38_59 : Ev X 38 59 ls st h Q ↔ onR (gl ls 0) (fun z => Ev X 38 60 ls (vr z :: st) h Q) := R_al rfl (Or.inl rfl)
theorem e_38_60 {x : Nat} : Ev X 38 60 ls (vr x :: st) h Q ↔ (X.1 x = 4 ∧ Ev X 38 61 ls (vr (X.2.2.1 x 7) :: st) h Q) := R_gr rfl
theorem e_38_61 : Ev X 38 61 ls st h Q ↔ onR (gl ls 0) (fun z => Ev X 38 62 ls (vr z :: st) h Q) := R_al rfl (Or.inl rfl)
theorem e_38_62 {x : Nat} : Ev X 38 62 ls (vr x :: st) h Q ↔ (X.1 x = 4 ∧ Ev X 38 63 ls (vi (h.2 x 3) :: st) h Q) := R_gi rfl
theorem e_38_63 : Ev X 38 63 ls st h Q ↔ Ev X 38 64 ls (vi 1 :: st) h Q := R_kc rfl (Or.inl ⟨Or.inl rfl, by decide⟩)
theorem e_38_64 {x y : Int} : Ev X 38 64 ls (vi y :: vi x :: st) h Q ↔ ((inR (x - y)) ∧ Ev X 38 65 ls (vi (x - y) :: st) h Q) := R_sub rfl
theorem e_38_65 {v w : xV} : Ev X 38 65 ls (v :: w :: st) h Q ↔ ((ct1 v = true ∧ ct1 w = true) ∧ Ev X 38 66 ls (v :: w :: v :: w :: st) h Q) := R_dup2 rfl
theorem e_38_66 {x : Nat} {j : Int} : Ev X 38 66 ls (vi j :: vr x :: st) h Q ↔ (((X.1 x = 13 ∨ X.1 x = 20) ∧ 0 ≤ j ∧ j < X.2.1 x) ∧ Ev X 38 67 ls (vi (h.1 x j.toNat) :: st) h Q) := R_ia rfl
theorem e_38_67 : Ev X 38 67 ls st h Q ↔ Ev X 38 68 ls (vi 1 :: st) h Q := R_kc rfl (Or.inl ⟨Or.inl rfl, by decide⟩)
theorem e_38_68 {x y : Int} : Ev X 38 68 ls (vi y :: vi x :: st) h Q ↔ ((inR (x + y)) ∧ Ev X 38 69 ls (vi (x + y) :: st) h Q) := R_add rfl
theorem e_38_69 {x : Nat} {j v : Int} : Ev X 38 69 ls (vi v :: vi j :: vr x :: st) h Q ↔ ((X.1 x = 13 ∧ 0 ≤ j ∧ j < X.2.1 x) ∧ Ev X 38 70 ls st (up2 h.1 x j.toNat v, h.2) Q) := R_ias rfl
theorem e_38_70 : Ev X 38 70 ls st h Q ↔ onI (gl ls 5) (fun z => Ev X 38 71 ls (vi z :: st) h Q) := R_il rfl (Or.inr rfl)
theorem e_38_71 {x : Int} : Ev X 38 71 ls (vi x :: st) h Q ↔ (stOK ls 3 = true ∧ Ev X 38 72 (ls.set 3 (some (vi x))) st h Q) := R_is rfl (Or.inl rfl)
theorem e_38_72 : Ev X 38 72 ls st h Q ↔ onI (gl ls 4) (fun x => (stOK ls 4 = true ∧ inR (x + 1)) ∧ Ev X 38 73 (ls.set 4 (some (vi (x + 1)))) st h Q) := R_inc rfl
theorem e_38_73 : Ev X 38 73 ls st h Q ↔ Ev X 38 4 ls st h Q := R_go rfl
theorem e_38_74 : Ev X 38 74 ls [] h Q ↔ Q none h := R_vr rfl
end RUL
