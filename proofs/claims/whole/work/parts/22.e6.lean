section RUL
variable {X : xL} {ls : List (Option xV)} {st : List xV} {h : xH} {Q : Option xV → xH → Prop}
-- 232: CellRowsModel.findRun(III)I
theorem e_232_0 : Ev X 232 0 ls st h Q ↔ Ev X 232 1 ls (vi 0 :: st) h Q := R_kc rfl (Or.inl ⟨Or.inl rfl, by decide⟩)
theorem e_232_1 {x : Int} : Ev X 232 1 ls (vi x :: st) h Q ↔ (stOK ls 4 = true ∧ Ev X 232 2 (ls.set 4 (some (vi x))) st h Q) := R_is rfl (Or.inr rfl)
theorem e_232_2 : Ev X 232 2 ls st h Q ↔ Ev X 232 3 ls (vi (-1) :: st) h Q := R_kc rfl (Or.inl ⟨Or.inl rfl, by decide⟩)
theorem e_232_3 {x : Int} : Ev X 232 3 ls (vi x :: st) h Q ↔ (stOK ls 5 = true ∧ Ev X 232 4 (ls.set 5 (some (vi x))) st h Q) := R_is rfl (Or.inr rfl)
theorem e_232_4 : Ev X 232 4 ls st h Q ↔ Ev X 232 5 ls (vi 0 :: st) h Q := R_kc rfl (Or.inl ⟨Or.inl rfl, by decide⟩)
theorem e_232_5 {x : Int} : Ev X 232 5 ls (vi x :: st) h Q ↔ (stOK ls 6 = true ∧ Ev X 232 6 (ls.set 6 (some (vi x))) st h Q) := R_is rfl (Or.inr rfl)
theorem e_232_6 : Ev X 232 6 ls st h Q ↔ onI (gl ls 6) (fun z => Ev X 232 7 ls (vi z :: st) h Q) := R_il rfl (Or.inr rfl)
theorem e_232_7 : Ev X 232 7 ls st h Q ↔ onR (gl ls 0) (fun z => Ev X 232 8 ls (vr z :: st) h Q) := R_al rfl (Or.inl rfl)
theorem e_232_8 {x : Nat} : Ev X 232 8 ls (vr x :: st) h Q ↔ (X.1 x = 12 ∧ Ev X 232 9 ls (vi (h.2 x 18) :: st) h Q) := R_gi rfl
theorem e_232_9 {x y : Int} : Ev X 232 9 ls (vi y :: vi x :: st) h Q ↔ (if y ≤ x then Ev X 232 32 ls st h Q else Ev X 232 10 ls st h Q) := R_icge rfl
theorem e_232_10 : Ev X 232 10 ls st h Q ↔ onR (gl ls 0) (fun z => Ev X 232 11 ls (vr z :: st) h Q) := R_al rfl (Or.inl rfl)
theorem e_232_11 {x : Nat} : Ev X 232 11 ls (vr x :: st) h Q ↔ (X.1 x = 12 ∧ Ev X 232 12 ls (vr (X.2.2.1 x 14) :: st) h Q) := R_gr rfl
theorem e_232_12 : Ev X 232 12 ls st h Q ↔ onI (gl ls 6) (fun z => Ev X 232 13 ls (vi z :: st) h Q) := R_il rfl (Or.inr rfl)
theorem e_232_13 {x : Nat} {j : Int} : Ev X 232 13 ls (vi j :: vr x :: st) h Q ↔ (((X.1 x = 13 ∨ X.1 x = 20) ∧ 0 ≤ j ∧ j < X.2.1 x) ∧ Ev X 232 14 ls (vi (h.1 x j.toNat) :: st) h Q) := R_ia rfl
theorem e_232_14 : Ev X 232 14 ls st h Q ↔ onI (gl ls 1) (fun z => Ev X 232 15 ls (vi z :: st) h Q) := R_il rfl (Or.inl rfl)
theorem e_232_15 {x y : Int} : Ev X 232 15 ls (vi y :: vi x :: st) h Q ↔ (if ¬ x = y then Ev X 232 30 ls st h Q else Ev X 232 16 ls st h Q) := R_icne rfl
theorem e_232_16 : Ev X 232 16 ls st h Q ↔ onR (gl ls 0) (fun z => Ev X 232 17 ls (vr z :: st) h Q) := R_al rfl (Or.inl rfl)
theorem e_232_17 {x : Nat} : Ev X 232 17 ls (vr x :: st) h Q ↔ (X.1 x = 12 ∧ Ev X 232 18 ls (vr (X.2.2.1 x 15) :: st) h Q) := R_gr rfl
theorem e_232_18 : Ev X 232 18 ls st h Q ↔ onI (gl ls 6) (fun z => Ev X 232 19 ls (vi z :: st) h Q) := R_il rfl (Or.inr rfl)
theorem e_232_19 {x : Nat} {j : Int} : Ev X 232 19 ls (vi j :: vr x :: st) h Q ↔ (((X.1 x = 13 ∨ X.1 x = 20) ∧ 0 ≤ j ∧ j < X.2.1 x) ∧ Ev X 232 20 ls (vi (h.1 x j.toNat) :: st) h Q) := R_ia rfl
theorem e_232_20 : Ev X 232 20 ls st h Q ↔ onI (gl ls 2) (fun z => Ev X 232 21 ls (vi z :: st) h Q) := R_il rfl (Or.inl rfl)
theorem e_232_21 {x y : Int} : Ev X 232 21 ls (vi y :: vi x :: st) h Q ↔ (if ¬ x = y then Ev X 232 30 ls st h Q else Ev X 232 22 ls st h Q) := R_icne rfl
theorem e_232_22 : Ev X 232 22 ls st h Q ↔ onI (gl ls 4) (fun z => Ev X 232 23 ls (vi z :: st) h Q) := R_il rfl (Or.inr rfl)
theorem e_232_23 : Ev X 232 23 ls st h Q ↔ onI (gl ls 3) (fun z => Ev X 232 24 ls (vi z :: st) h Q) := R_il rfl (Or.inl rfl)
theorem e_232_24 {x y : Int} : Ev X 232 24 ls (vi y :: vi x :: st) h Q ↔ (if ¬ x = y then Ev X 232 27 ls st h Q else Ev X 232 25 ls st h Q) := R_icne rfl
theorem e_232_25 : Ev X 232 25 ls st h Q ↔ onI (gl ls 6) (fun z => Ev X 232 26 ls (vi z :: st) h Q) := R_il rfl (Or.inr rfl)
theorem e_232_26 : Ev X 232 26 ls st h Q ↔ Ev X 232 28 ls st h Q := R_go rfl
theorem e_232_27 : Ev X 232 27 ls st h Q ↔ onI (gl ls 5) (fun z => Ev X 232 28 ls (vi z :: st) h Q) := R_il rfl (Or.inr rfl)
theorem e_232_28 {x : Int} : Ev X 232 28 ls (vi x :: st) h Q ↔ (stOK ls 5 = true ∧ Ev X 232 29 (ls.set 5 (some (vi x))) st h Q) := R_is rfl (Or.inr rfl)
theorem e_232_29 : Ev X 232 29 ls st h Q ↔ onI (gl ls 4) (fun x => (stOK ls 4 = true ∧ inR (x + 1)) ∧ Ev X 232 30 (ls.set 4 (some (vi (x + 1)))) st h Q) := R_inc rfl
theorem e_232_30 : Ev X 232 30 ls st h Q ↔ onI (gl ls 6) (fun x => (stOK ls 6 = true ∧ inR (x + 1)) ∧ Ev X 232 31 (ls.set 6 (some (vi (x + 1)))) st h Q) := R_inc rfl
theorem e_232_31 : Ev X 232 31 ls st h Q ↔ Ev X 232 6 ls st h Q := R_go rfl
theorem e_232_32 : Ev X 232 32 ls st h Q ↔ onI (gl ls 5) (fun z => Ev X 232 33 ls (vi z :: st) h Q) := R_il rfl (Or.inr rfl)
theorem e_232_33 {z : Int} : Ev X 232 33 ls [vi z] h Q ↔ Q (some (vi z)) h := R_ir rfl
-- 233: CellRowsModel.layLies(I)V
theorem e_233_0 : Ev X 233 0 ls st h Q ↔ onR (gl ls 0) (fun z => Ev X 233 1 ls (vr z :: st) h Q) := R_al rfl (Or.inl rfl)
theorem e_233_1 : Ev X 233 1 ls st h Q ↔ Ev X 233 2 ls (vi 0 :: st) h Q := R_kc rfl (Or.inl ⟨Or.inl rfl, by decide⟩)
theorem e_233_2 {x : Nat} {v : Int} : Ev X 233 2 ls (vi v :: vr x :: st) h Q ↔ (X.1 x = 12 ∧ Ev X 233 3 ls st (h.1, up2 h.2 x 20 v) Q) := R_pi rfl
theorem e_233_3 : Ev X 233 3 ls st h Q ↔ onR (gl ls 0) (fun z => Ev X 233 4 ls (vr z :: st) h Q) := R_al rfl (Or.inl rfl)
theorem e_233_4 {x : Nat} : Ev X 233 4 ls (vr x :: st) h Q ↔ (X.1 x = 12 ∧ Ev X 233 5 ls (vr (X.2.2.1 x 16) :: st) h Q) := R_gr rfl
theorem e_233_5 : Ev X 233 5 ls st h Q ↔ onI (gl ls 1) (fun z => Ev X 233 6 ls (vi z :: st) h Q) := R_il rfl (Or.inl rfl)
theorem e_233_6 {x : Nat} {j : Int} : Ev X 233 6 ls (vi j :: vr x :: st) h Q ↔ (((X.1 x = 13 ∨ X.1 x = 20) ∧ 0 ≤ j ∧ j < X.2.1 x) ∧ Ev X 233 7 ls (vi (h.1 x j.toNat) :: st) h Q) := R_ia rfl
theorem e_233_7 {x : Int} : Ev X 233 7 ls (vi x :: st) h Q ↔ (stOK ls 2 = true ∧ Ev X 233 8 (ls.set 2 (some (vi x))) st h Q) := R_is rfl (Or.inl rfl)
theorem e_233_8 : Ev X 233 8 ls st h Q ↔ onI (gl ls 2) (fun z => Ev X 233 9 ls (vi z :: st) h Q) := R_il rfl (Or.inl rfl)
theorem e_233_9 : Ev X 233 9 ls st h Q ↔ onR (gl ls 0) (fun z => Ev X 233 10 ls (vr z :: st) h Q) := R_al rfl (Or.inl rfl)
theorem e_233_10 {x : Nat} : Ev X 233 10 ls (vr x :: st) h Q ↔ (X.1 x = 12 ∧ Ev X 233 11 ls (vr (X.2.2.1 x 16) :: st) h Q) := R_gr rfl
theorem e_233_11 : Ev X 233 11 ls st h Q ↔ onI (gl ls 1) (fun z => Ev X 233 12 ls (vi z :: st) h Q) := R_il rfl (Or.inl rfl)
theorem e_233_12 {x : Nat} {j : Int} : Ev X 233 12 ls (vi j :: vr x :: st) h Q ↔ (((X.1 x = 13 ∨ X.1 x = 20) ∧ 0 ≤ j ∧ j < X.2.1 x) ∧ Ev X 233 13 ls (vi (h.1 x j.toNat) :: st) h Q) := R_ia rfl
theorem e_233_13 : Ev X 233 13 ls st h Q ↔ onR (gl ls 0) (fun z => Ev X 233 14 ls (vr z :: st) h Q) := R_al rfl (Or.inl rfl)
theorem e_233_14 {x : Nat} : Ev X 233 14 ls (vr x :: st) h Q ↔ (X.1 x = 12 ∧ Ev X 233 15 ls (vr (X.2.2.1 x 17) :: st) h Q) := R_gr rfl
theorem e_233_15 : Ev X 233 15 ls st h Q ↔ onI (gl ls 1) (fun z => Ev X 233 16 ls (vi z :: st) h Q) := R_il rfl (Or.inl rfl)
theorem e_233_16 {x : Nat} {j : Int} : Ev X 233 16 ls (vi j :: vr x :: st) h Q ↔ (((X.1 x = 13 ∨ X.1 x = 20) ∧ 0 ≤ j ∧ j < X.2.1 x) ∧ Ev X 233 17 ls (vi (h.1 x j.toNat) :: st) h Q) := R_ia rfl
theorem e_233_17 {x y : Int} : Ev X 233 17 ls (vi y :: vi x :: st) h Q ↔ ((inR (x + y)) ∧ Ev X 233 18 ls (vi (x + y) :: st) h Q) := R_add rfl
theorem e_233_18 {x y : Int} : Ev X 233 18 ls (vi y :: vi x :: st) h Q ↔ (if y ≤ x then Ev X 233 55 ls st h Q else Ev X 233 19 ls st h Q) := R_icge rfl
theorem e_233_19 : Ev X 233 19 ls st h Q ↔ onR (gl ls 0) (fun z => Ev X 233 20 ls (vr z :: st) h Q) := R_al rfl (Or.inl rfl)
theorem e_233_20 : Ev X 233 20 ls st h Q ↔ onR (gl ls 0) (fun z => Ev X 233 21 ls (vr z :: st) h Q) := R_al rfl (Or.inl rfl)
theorem e_233_21 {x : Nat} : Ev X 233 21 ls (vr x :: st) h Q ↔ (X.1 x = 12 ∧ Ev X 233 22 ls (vr (X.2.2.1 x 14) :: st) h Q) := R_gr rfl
theorem e_233_22 : Ev X 233 22 ls st h Q ↔ onI (gl ls 1) (fun z => Ev X 233 23 ls (vi z :: st) h Q) := R_il rfl (Or.inl rfl)
theorem e_233_23 {x : Nat} {j : Int} : Ev X 233 23 ls (vi j :: vr x :: st) h Q ↔ (((X.1 x = 13 ∨ X.1 x = 20) ∧ 0 ≤ j ∧ j < X.2.1 x) ∧ Ev X 233 24 ls (vi (h.1 x j.toNat) :: st) h Q) := R_ia rfl
theorem e_233_24 : Ev X 233 24 ls st h Q ↔ onI (gl ls 2) (fun z => Ev X 233 25 ls (vi z :: st) h Q) := R_il rfl (Or.inl rfl)
theorem e_233_25 : Ev X 233 25 ls st h Q ↔ Ev X 233 26 ls (vi (-1) :: st) h Q := R_kc rfl (Or.inl ⟨Or.inl rfl, by decide⟩)
theorem e_233_26 : Ev X 233 26 ls st h Q ↔ Ev X 233 27 ls (vi 0 :: st) h Q := R_kc rfl (Or.inl ⟨Or.inl rfl, by decide⟩)
theorem e_233_27 {rest : List xV} {a0 : Int} {a1 : Int} {a2 : Int} {a3 : Int} {o : Nat} : Ev X 233 27 ls ((vi a3) :: (vi a2) :: (vi a1) :: (vi a0) :: vr o :: rest) h Q ↔ ((X.1 o = 12 ∧ wd rest ≤ 8) ∧ Cl X 175 [vr o, vi a0, vi a1, vi a2, vi a3] h (fun r h2 => Ev X 233 28 ls (r.toList ++ rest) h2 Q)) := R_cv (x := o) (as := [vi a0, vi a1, vi a2, vi a3]) (k2 := 175) rfl rfl (Nat.le_of_ble_eq_true rfl)
theorem e_233_28 {x : Int} : Ev X 233 28 ls (vi x :: st) h Q ↔ (stOK ls 3 = true ∧ Ev X 233 29 (ls.set 3 (some (vi x))) st h Q) := R_is rfl (Or.inl rfl)
theorem e_233_29 : Ev X 233 29 ls st h Q ↔ onI (gl ls 3) (fun z => Ev X 233 30 ls (vi z :: st) h Q) := R_il rfl (Or.inl rfl)
theorem e_233_30 : Ev X 233 30 ls st h Q ↔ Ev X 233 31 ls (vi (-1) :: st) h Q := R_kc rfl (Or.inl ⟨Or.inl rfl, by decide⟩)
theorem e_233_31 {x y : Int} : Ev X 233 31 ls (vi y :: vi x :: st) h Q ↔ (if x = y then Ev X 233 53 ls st h Q else Ev X 233 32 ls st h Q) := R_iceq rfl
theorem e_233_32 : Ev X 233 32 ls st h Q ↔ onR (gl ls 0) (fun z => Ev X 233 33 ls (vr z :: st) h Q) := R_al rfl (Or.inl rfl)
theorem e_233_33 {x : Nat} : Ev X 233 33 ls (vr x :: st) h Q ↔ (X.1 x = 12 ∧ Ev X 233 34 ls (vr (X.2.2.1 x 6) :: st) h Q) := R_gr rfl
theorem e_233_34 : Ev X 233 34 ls st h Q ↔ onI (gl ls 3) (fun z => Ev X 233 35 ls (vi z :: st) h Q) := R_il rfl (Or.inl rfl)
theorem e_233_35 {rest : List xV} {a0 : Int} : Ev X 233 35 ls ((vi a0) :: rest) h Q ↔ (wd rest ≤ 8 ∧ Cl X 158 [vi a0] h (fun r h2 => Ev X 233 36 ls (r.toList ++ rest) h2 Q)) := R_cs (as := [vi a0]) (k2 := 158) rfl rfl (Nat.le_of_ble_eq_true rfl)
theorem e_233_36 : Ev X 233 36 ls st h Q ↔ Ev X 233 37 ls (vi 6 :: st) h Q := R_kc rfl (Or.inr (Or.inl ⟨rfl, by decide⟩))
theorem e_233_37 {x y : Int} : Ev X 233 37 ls (vi y :: vi x :: st) h Q ↔ ((inR (x + y)) ∧ Ev X 233 38 ls (vi (x + y) :: st) h Q) := R_add rfl
theorem e_233_38 {x : Nat} {j : Int} : Ev X 233 38 ls (vi j :: vr x :: st) h Q ↔ (((X.1 x = 13 ∨ X.1 x = 20) ∧ 0 ≤ j ∧ j < X.2.1 x) ∧ Ev X 233 39 ls (vi (h.1 x j.toNat) :: st) h Q) := R_ia rfl
theorem e_233_39 : Ev X 233 39 ls st h Q ↔ onI (gl ls 2) (fun z => Ev X 233 40 ls (vi z :: st) h Q) := R_il rfl (Or.inl rfl)
theorem e_233_40 {x y : Int} : Ev X 233 40 ls (vi y :: vi x :: st) h Q ↔ (if ¬ x = y then Ev X 233 53 ls st h Q else Ev X 233 41 ls st h Q) := R_icne rfl
theorem e_233_41 : Ev X 233 41 ls st h Q ↔ onR (gl ls 0) (fun z => Ev X 233 42 ls (vr z :: st) h Q) := R_al rfl (Or.inl rfl)
theorem e_233_42 {x : Nat} : Ev X 233 42 ls (vr x :: st) h Q ↔ (X.1 x = 12 ∧ Ev X 233 43 ls (vr (X.2.2.1 x 19) :: st) h Q) := R_gr rfl
theorem e_233_43 : Ev X 233 43 ls st h Q ↔ onR (gl ls 0) (fun z => Ev X 233 44 ls (vr z :: st) h Q) := R_al rfl (Or.inl rfl)
theorem e_233_44 {x : Nat} : Ev X 233 44 ls (vr x :: st) h Q ↔ (X.1 x = 12 ∧ Ev X 233 45 ls (vi (h.2 x 20) :: st) h Q) := R_gi rfl
theorem e_233_45 : Ev X 233 45 ls st h Q ↔ onI (gl ls 3) (fun z => Ev X 233 46 ls (vi z :: st) h Q) := R_il rfl (Or.inl rfl)
theorem e_233_46 {x : Nat} {j v : Int} : Ev X 233 46 ls (vi v :: vi j :: vr x :: st) h Q ↔ ((X.1 x = 13 ∧ 0 ≤ j ∧ j < X.2.1 x) ∧ Ev X 233 47 ls st (up2 h.1 x j.toNat v, h.2) Q) := R_ias rfl
theorem e_233_47 : Ev X 233 47 ls st h Q ↔ onR (gl ls 0) (fun z => Ev X 233 48 ls (vr z :: st) h Q) := R_al rfl (Or.inl rfl)
theorem e_233_48 {v : xV} : Ev X 233 48 ls (v :: st) h Q ↔ (ct1 v = true ∧ Ev X 233 49 ls (v :: v :: st) h Q) := R_dup rfl
theorem e_233_49 {x : Nat} : Ev X 233 49 ls (vr x :: st) h Q ↔ (X.1 x = 12 ∧ Ev X 233 50 ls (vi (h.2 x 20) :: st) h Q) := R_gi rfl
theorem e_233_50 : Ev X 233 50 ls st h Q ↔ Ev X 233 51 ls (vi 1 :: st) h Q := R_kc rfl (Or.inl ⟨Or.inl rfl, by decide⟩)
theorem e_233_51 {x y : Int} : Ev X 233 51 ls (vi y :: vi x :: st) h Q ↔ ((inR (x + y)) ∧ Ev X 233 52 ls (vi (x + y) :: st) h Q) := R_add rfl
theorem e_233_52 {x : Nat} {v : Int} : Ev X 233 52 ls (vi v :: vr x :: st) h Q ↔ (X.1 x = 12 ∧ Ev X 233 53 ls st (h.1, up2 h.2 x 20 v) Q) := R_pi rfl
theorem e_233_53 : Ev X 233 53 ls st h Q ↔ onI (gl ls 2) (fun x => (stOK ls 2 = true ∧ inR (x + 1)) ∧ Ev X 233 54 (ls.set 2 (some (vi (x + 1)))) st h Q) := R_inc rfl
theorem e_233_54 : Ev X 233 54 ls st h Q ↔ Ev X 233 8 ls st h Q := R_go rfl
theorem e_233_55 : Ev X 233 55 ls [] h Q ↔ Q none h := R_vr rfl
-- 234: CellRowsModel.moveAt(II)I
theorem e_234_0 : Ev X 234 0 ls st h Q ↔ onR (gl ls 0) (fun z => Ev X 234 1 ls (vr z :: st) h Q) := R_al rfl (Or.inl rfl)
theorem e_234_1 : Ev X 234 1 ls st h Q ↔ onI (gl ls 1) (fun z => Ev X 234 2 ls (vi z :: st) h Q) := R_il rfl (Or.inl rfl)
theorem e_234_2 {rest : List xV} {a0 : Int} {o : Nat} : Ev X 234 2 ls ((vi a0) :: vr o :: rest) h Q ↔ ((X.1 o = 12 ∧ wd rest ≤ 8) ∧ Cl X 160 [vr o, vi a0] h (fun r h2 => Ev X 234 3 ls (r.toList ++ rest) h2 Q)) := R_cv (x := o) (as := [vi a0]) (k2 := 160) rfl rfl (Nat.le_of_ble_eq_true rfl)
theorem e_234_3 : Ev X 234 3 ls st h Q ↔ Ev X 234 4 ls (vi 16 :: st) h Q := R_kc rfl (Or.inr (Or.inl ⟨rfl, by decide⟩))
theorem e_234_4 : Ev X 234 4 ls st h Q ↔ onI (gl ls 2) (fun z => Ev X 234 5 ls (vi z :: st) h Q) := R_il rfl (Or.inl rfl)
theorem e_234_5 {x y : Int} : Ev X 234 5 ls (vi y :: vi x :: st) h Q ↔ ((inR (x * y)) ∧ Ev X 234 6 ls (vi (x * y) :: st) h Q) := R_mul rfl
theorem e_234_6 : Ev X 234 6 ls st h Q ↔ onR (gl ls 0) (fun z => Ev X 234 7 ls (vr z :: st) h Q) := R_al rfl (Or.inl rfl)
theorem e_234_7 {x : Nat} : Ev X 234 7 ls (vr x :: st) h Q ↔ (X.1 x = 12 ∧ Ev X 234 8 ls (vr (X.2.2.1 x 6) :: st) h Q) := R_gr rfl
theorem e_234_8 : Ev X 234 8 ls st h Q ↔ onI (gl ls 1) (fun z => Ev X 234 9 ls (vi z :: st) h Q) := R_il rfl (Or.inl rfl)
theorem e_234_9 {rest : List xV} {a0 : Int} : Ev X 234 9 ls ((vi a0) :: rest) h Q ↔ (wd rest ≤ 8 ∧ Cl X 158 [vi a0] h (fun r h2 => Ev X 234 10 ls (r.toList ++ rest) h2 Q)) := R_cs (as := [vi a0]) (k2 := 158) rfl rfl (Nat.le_of_ble_eq_true rfl)
theorem e_234_10 : Ev X 234 10 ls st h Q ↔ Ev X 234 11 ls (vi 3 :: st) h Q := R_kc rfl (Or.inl ⟨Or.inl rfl, by decide⟩)
theorem e_234_11 {x y : Int} : Ev X 234 11 ls (vi y :: vi x :: st) h Q ↔ ((inR (x + y)) ∧ Ev X 234 12 ls (vi (x + y) :: st) h Q) := R_add rfl
theorem e_234_12 {x : Nat} {j : Int} : Ev X 234 12 ls (vi j :: vr x :: st) h Q ↔ (((X.1 x = 13 ∨ X.1 x = 20) ∧ 0 ≤ j ∧ j < X.2.1 x) ∧ Ev X 234 13 ls (vi (h.1 x j.toNat) :: st) h Q) := R_ia rfl
theorem e_234_13 {rest : List xV} {a0 : Int} {a1 : Int} : Ev X 234 13 ls ((vi a1) :: (vi a0) :: rest) h Q ↔ (wd rest ≤ 8 ∧ Cl X 150 [vi a0, vi a1] h (fun r h2 => Ev X 234 14 ls (r.toList ++ rest) h2 Q)) := R_cs (as := [vi a0, vi a1]) (k2 := 150) rfl rfl (Nat.le_of_ble_eq_true rfl)
theorem e_234_14 {x y : Int} : Ev X 234 14 ls (vi y :: vi x :: st) h Q ↔ ((inR (x * y)) ∧ Ev X 234 15 ls (vi (x * y) :: st) h Q) := R_mul rfl
theorem e_234_15 {z : Int} : Ev X 234 15 ls [vi z] h Q ↔ Q (some (vi z)) h := R_ir rfl
-- 235: CellRowsModel.leastIn(I)I
theorem e_235_0 : Ev X 235 0 ls st h Q ↔ onR (gl ls 0) (fun z => Ev X 235 1 ls (vr z :: st) h Q) := R_al rfl (Or.inl rfl)
theorem e_235_1 {x : Nat} : Ev X 235 1 ls (vr x :: st) h Q ↔ (X.1 x = 12 ∧ Ev X 235 2 ls (vr (X.2.2.1 x 17) :: st) h Q) := R_gr rfl
theorem e_235_2 : Ev X 235 2 ls st h Q ↔ onI (gl ls 1) (fun z => Ev X 235 3 ls (vi z :: st) h Q) := R_il rfl (Or.inl rfl)
theorem e_235_3 {x : Nat} {j : Int} : Ev X 235 3 ls (vi j :: vr x :: st) h Q ↔ (((X.1 x = 13 ∨ X.1 x = 20) ∧ 0 ≤ j ∧ j < X.2.1 x) ∧ Ev X 235 4 ls (vi (h.1 x j.toNat) :: st) h Q) := R_ia rfl
theorem e_235_4 {x : Int} : Ev X 235 4 ls (vi x :: st) h Q ↔ (stOK ls 2 = true ∧ Ev X 235 5 (ls.set 2 (some (vi x))) st h Q) := R_is rfl (Or.inl rfl)
theorem e_235_5 : Ev X 235 5 ls st h Q ↔ Ev X 235 6 ls (vi 0 :: st) h Q := R_kc rfl (Or.inl ⟨Or.inl rfl, by decide⟩)
theorem e_235_6 {x : Int} : Ev X 235 6 ls (vi x :: st) h Q ↔ (stOK ls 3 = true ∧ Ev X 235 7 (ls.set 3 (some (vi x))) st h Q) := R_is rfl (Or.inl rfl)
theorem e_235_7 : Ev X 235 7 ls st h Q ↔ onI (gl ls 3) (fun z => Ev X 235 8 ls (vi z :: st) h Q) := R_il rfl (Or.inl rfl)
theorem e_235_8 : Ev X 235 8 ls st h Q ↔ onI (gl ls 2) (fun z => Ev X 235 9 ls (vi z :: st) h Q) := R_il rfl (Or.inl rfl)
theorem e_235_9 {x y : Int} : Ev X 235 9 ls (vi y :: vi x :: st) h Q ↔ (if y < x then Ev X 235 22 ls st h Q else Ev X 235 10 ls st h Q) := R_icgt rfl
theorem e_235_10 : Ev X 235 10 ls st h Q ↔ onR (gl ls 0) (fun z => Ev X 235 11 ls (vr z :: st) h Q) := R_al rfl (Or.inl rfl)
theorem e_235_11 {x : Nat} : Ev X 235 11 ls (vr x :: st) h Q ↔ (X.1 x = 12 ∧ Ev X 235 12 ls (vr (X.2.2.1 x 26) :: st) h Q) := R_gr rfl
theorem e_235_12 : Ev X 235 12 ls st h Q ↔ Ev X 235 13 ls (vi 33 :: st) h Q := R_kc rfl (Or.inr (Or.inl ⟨rfl, by decide⟩))
theorem e_235_13 : Ev X 235 13 ls st h Q ↔ onR (gl ls 0) (fun z => Ev X 235 14 ls (vr z :: st) h Q) := R_al rfl (Or.inl rfl)
theorem e_235_14 {x : Nat} : Ev X 235 14 ls (vr x :: st) h Q ↔ (X.1 x = 12 ∧ Ev X 235 15 ls (vi (h.2 x 25) :: st) h Q) := R_gi rfl
theorem e_235_15 {x y : Int} : Ev X 235 15 ls (vi y :: vi x :: st) h Q ↔ ((inR (x * y)) ∧ Ev X 235 16 ls (vi (x * y) :: st) h Q) := R_mul rfl
theorem e_235_16 : Ev X 235 16 ls st h Q ↔ onI (gl ls 3) (fun z => Ev X 235 17 ls (vi z :: st) h Q) := R_il rfl (Or.inl rfl)
theorem e_235_17 {x y : Int} : Ev X 235 17 ls (vi y :: vi x :: st) h Q ↔ ((inR (x + y)) ∧ Ev X 235 18 ls (vi (x + y) :: st) h Q) := R_add rfl
theorem e_235_18 : Ev X 235 18 ls st h Q ↔ Ev X 235 19 ls (vi 0 :: st) h Q := R_kc rfl (Or.inl ⟨Or.inl rfl, by decide⟩)
theorem e_235_19 {x : Nat} {j v : Int} : Ev X 235 19 ls (vi v :: vi j :: vr x :: st) h Q ↔ ((X.1 x = 13 ∧ 0 ≤ j ∧ j < X.2.1 x) ∧ Ev X 235 20 ls st (up2 h.1 x j.toNat v, h.2) Q) := R_ias rfl
theorem e_235_20 : Ev X 235 20 ls st h Q ↔ onI (gl ls 3) (fun x => (stOK ls 3 = true ∧ inR (x + 1)) ∧ Ev X 235 21 (ls.set 3 (some (vi (x + 1)))) st h Q) := R_inc rfl
theorem e_235_21 : Ev X 235 21 ls st h Q ↔ Ev X 235 7 ls st h Q := R_go rfl
theorem e_235_22 : Ev X 235 22 ls st h Q ↔ onR (gl ls 0) (fun z => Ev X 235 23 ls (vr z :: st) h Q) := R_al rfl (Or.inl rfl)
theorem e_235_23 {x : Nat} : Ev X 235 23 ls (vr x :: st) h Q ↔ (X.1 x = 12 ∧ Ev X 235 24 ls (vi (h.2 x 25) :: st) h Q) := R_gi rfl
theorem e_235_24 : Ev X 235 24 ls st h Q ↔ Ev X 235 25 ls (vi 1 :: st) h Q := R_kc rfl (Or.inl ⟨Or.inl rfl, by decide⟩)
theorem e_235_25 {x y : Int} : Ev X 235 25 ls (vi y :: vi x :: st) h Q ↔ ((inR (x - y)) ∧ Ev X 235 26 ls (vi (x - y) :: st) h Q) := R_sub rfl
theorem e_235_26 {x : Int} : Ev X 235 26 ls (vi x :: st) h Q ↔ (stOK ls 3 = true ∧ Ev X 235 27 (ls.set 3 (some (vi x))) st h Q) := R_is rfl (Or.inl rfl)
theorem e_235_27 : Ev X 235 27 ls st h Q ↔ onI (gl ls 3) (fun z => Ev X 235 28 ls (vi z :: st) h Q) := R_il rfl (Or.inl rfl)
theorem e_235_28 {x : Int} : Ev X 235 28 ls (vi x :: st) h Q ↔ (if x < 0 then Ev X 235 113 ls st h Q else Ev X 235 29 ls st h Q) := R_iflt rfl
theorem e_235_29 : Ev X 235 29 ls st h Q ↔ onR (gl ls 0) (fun z => Ev X 235 30 ls (vr z :: st) h Q) := R_al rfl (Or.inl rfl)
theorem e_235_30 {x : Nat} : Ev X 235 30 ls (vr x :: st) h Q ↔ (X.1 x = 12 ∧ Ev X 235 31 ls (vr (X.2.2.1 x 24) :: st) h Q) := R_gr rfl
theorem e_235_31 : Ev X 235 31 ls st h Q ↔ onI (gl ls 3) (fun z => Ev X 235 32 ls (vi z :: st) h Q) := R_il rfl (Or.inl rfl)
theorem e_235_32 {x : Nat} {j : Int} : Ev X 235 32 ls (vi j :: vr x :: st) h Q ↔ (((X.1 x = 13 ∨ X.1 x = 20) ∧ 0 ≤ j ∧ j < X.2.1 x) ∧ Ev X 235 33 ls (vi (h.1 x j.toNat) :: st) h Q) := R_ia rfl
theorem e_235_33 {x : Int} : Ev X 235 33 ls (vi x :: st) h Q ↔ (stOK ls 4 = true ∧ Ev X 235 34 (ls.set 4 (some (vi x))) st h Q) := R_is rfl (Or.inr rfl)
theorem e_235_34 : Ev X 235 34 ls st h Q ↔ onI (gl ls 2) (fun z => Ev X 235 35 ls (vi z :: st) h Q) := R_il rfl (Or.inl rfl)
theorem e_235_35 {x : Int} : Ev X 235 35 ls (vi x :: st) h Q ↔ (stOK ls 5 = true ∧ Ev X 235 36 (ls.set 5 (some (vi x))) st h Q) := R_is rfl (Or.inr rfl)
theorem e_235_36 : Ev X 235 36 ls st h Q ↔ onI (gl ls 5) (fun z => Ev X 235 37 ls (vi z :: st) h Q) := R_il rfl (Or.inr rfl)
theorem e_235_37 {x : Int} : Ev X 235 37 ls (vi x :: st) h Q ↔ (if x < 0 then Ev X 235 111 ls st h Q else Ev X 235 38 ls st h Q) := R_iflt rfl
theorem e_235_38 : Ev X 235 38 ls st h Q ↔ Ev X 235 39 ls (vi 100000000 :: st) h Q := R_kc rfl (Or.inl ⟨Or.inr (Or.inl rfl), by decide⟩)
theorem e_235_39 {x : Int} : Ev X 235 39 ls (vi x :: st) h Q ↔ (stOK ls 6 = true ∧ Ev X 235 40 (ls.set 6 (some (vi x))) st h Q) := R_is rfl (Or.inr rfl)
theorem e_235_40 : Ev X 235 40 ls st h Q ↔ onI (gl ls 5) (fun z => Ev X 235 41 ls (vi z :: st) h Q) := R_il rfl (Or.inr rfl)
theorem e_235_41 : Ev X 235 41 ls st h Q ↔ onR (gl ls 0) (fun z => Ev X 235 42 ls (vr z :: st) h Q) := R_al rfl (Or.inl rfl)
theorem e_235_42 : Ev X 235 42 ls st h Q ↔ onI (gl ls 4) (fun z => Ev X 235 43 ls (vi z :: st) h Q) := R_il rfl (Or.inr rfl)
theorem e_235_43 {rest : List xV} {a0 : Int} {o : Nat} : Ev X 235 43 ls ((vi a0) :: vr o :: rest) h Q ↔ ((X.1 o = 12 ∧ wd rest ≤ 8) ∧ Cl X 160 [vr o, vi a0] h (fun r h2 => Ev X 235 44 ls (r.toList ++ rest) h2 Q)) := R_cv (x := o) (as := [vi a0]) (k2 := 160) rfl rfl (Nat.le_of_ble_eq_true rfl)
theorem e_235_44 {x y : Int} : Ev X 235 44 ls (vi y :: vi x :: st) h Q ↔ ((inR (x + y)) ∧ Ev X 235 45 ls (vi (x + y) :: st) h Q) := R_add rfl
theorem e_235_45 : Ev X 235 45 ls st h Q ↔ onI (gl ls 2) (fun z => Ev X 235 46 ls (vi z :: st) h Q) := R_il rfl (Or.inl rfl)
theorem e_235_46 {x y : Int} : Ev X 235 46 ls (vi y :: vi x :: st) h Q ↔ (if y < x then Ev X 235 79 ls st h Q else Ev X 235 47 ls st h Q) := R_icgt rfl
theorem e_235_47 : Ev X 235 47 ls st h Q ↔ onR (gl ls 0) (fun z => Ev X 235 48 ls (vr z :: st) h Q) := R_al rfl (Or.inl rfl)
theorem e_235_48 {x : Nat} : Ev X 235 48 ls (vr x :: st) h Q ↔ (X.1 x = 12 ∧ Ev X 235 49 ls (vr (X.2.2.1 x 26) :: st) h Q) := R_gr rfl
theorem e_235_49 : Ev X 235 49 ls st h Q ↔ Ev X 235 50 ls (vi 33 :: st) h Q := R_kc rfl (Or.inr (Or.inl ⟨rfl, by decide⟩))
theorem e_235_50 : Ev X 235 50 ls st h Q ↔ onI (gl ls 3) (fun z => Ev X 235 51 ls (vi z :: st) h Q) := R_il rfl (Or.inl rfl)
theorem e_235_51 : Ev X 235 51 ls st h Q ↔ Ev X 235 52 ls (vi 1 :: st) h Q := R_kc rfl (Or.inl ⟨Or.inl rfl, by decide⟩)
theorem e_235_52 {x y : Int} : Ev X 235 52 ls (vi y :: vi x :: st) h Q ↔ ((inR (x + y)) ∧ Ev X 235 53 ls (vi (x + y) :: st) h Q) := R_add rfl
theorem e_235_53 {x y : Int} : Ev X 235 53 ls (vi y :: vi x :: st) h Q ↔ ((inR (x * y)) ∧ Ev X 235 54 ls (vi (x * y) :: st) h Q) := R_mul rfl
theorem e_235_54 : Ev X 235 54 ls st h Q ↔ onI (gl ls 5) (fun z => Ev X 235 55 ls (vi z :: st) h Q) := R_il rfl (Or.inr rfl)
theorem e_235_55 {x y : Int} : Ev X 235 55 ls (vi y :: vi x :: st) h Q ↔ ((inR (x + y)) ∧ Ev X 235 56 ls (vi (x + y) :: st) h Q) := R_add rfl
theorem e_235_56 : Ev X 235 56 ls st h Q ↔ onR (gl ls 0) (fun z => Ev X 235 57 ls (vr z :: st) h Q) := R_al rfl (Or.inl rfl)
theorem e_235_57 : Ev X 235 57 ls st h Q ↔ onI (gl ls 4) (fun z => Ev X 235 58 ls (vi z :: st) h Q) := R_il rfl (Or.inr rfl)
theorem e_235_58 {rest : List xV} {a0 : Int} {o : Nat} : Ev X 235 58 ls ((vi a0) :: vr o :: rest) h Q ↔ ((X.1 o = 12 ∧ wd rest ≤ 8) ∧ Cl X 160 [vr o, vi a0] h (fun r h2 => Ev X 235 59 ls (r.toList ++ rest) h2 Q)) := R_cv (x := o) (as := [vi a0]) (k2 := 160) rfl rfl (Nat.le_of_ble_eq_true rfl)
theorem e_235_59 {x y : Int} : Ev X 235 59 ls (vi y :: vi x :: st) h Q ↔ ((inR (x + y)) ∧ Ev X 235 60 ls (vi (x + y) :: st) h Q) := R_add rfl
theorem e_235_60 {x : Nat} {j : Int} : Ev X 235 60 ls (vi j :: vr x :: st) h Q ↔ (((X.1 x = 13 ∨ X.1 x = 20) ∧ 0 ≤ j ∧ j < X.2.1 x) ∧ Ev X 235 61 ls (vi (h.1 x j.toNat) :: st) h Q) := R_ia rfl
theorem e_235_61 {x : Int} : Ev X 235 61 ls (vi x :: st) h Q ↔ (stOK ls 7 = true ∧ Ev X 235 62 (ls.set 7 (some (vi x))) st h Q) := R_is rfl (Or.inr rfl)
theorem e_235_62 : Ev X 235 62 ls st h Q ↔ onI (gl ls 7) (fun z => Ev X 235 63 ls (vi z :: st) h Q) := R_il rfl (Or.inr rfl)
theorem e_235_63 : Ev X 235 63 ls st h Q ↔ Ev X 235 64 ls (vi 100000000 :: st) h Q := R_kc rfl (Or.inl ⟨Or.inr (Or.inl rfl), by decide⟩)
theorem e_235_64 {x y : Int} : Ev X 235 64 ls (vi y :: vi x :: st) h Q ↔ (if ¬ x = y then Ev X 235 67 ls st h Q else Ev X 235 65 ls st h Q) := R_icne rfl
theorem e_235_65 : Ev X 235 65 ls st h Q ↔ Ev X 235 66 ls (vi 100000000 :: st) h Q := R_kc rfl (Or.inl ⟨Or.inr (Or.inl rfl), by decide⟩)
theorem e_235_66 : Ev X 235 66 ls st h Q ↔ Ev X 235 78 ls st h Q := R_go rfl
theorem e_235_67 : Ev X 235 67 ls st h Q ↔ onR (gl ls 0) (fun z => Ev X 235 68 ls (vr z :: st) h Q) := R_al rfl (Or.inl rfl)
theorem e_235_68 : Ev X 235 68 ls st h Q ↔ onI (gl ls 4) (fun z => Ev X 235 69 ls (vi z :: st) h Q) := R_il rfl (Or.inr rfl)
theorem e_235_69 : Ev X 235 69 ls st h Q ↔ onR (gl ls 0) (fun z => Ev X 235 70 ls (vr z :: st) h Q) := R_al rfl (Or.inl rfl)
theorem e_235_70 {x : Nat} : Ev X 235 70 ls (vr x :: st) h Q ↔ (X.1 x = 12 ∧ Ev X 235 71 ls (vr (X.2.2.1 x 16) :: st) h Q) := R_gr rfl
theorem e_235_71 : Ev X 235 71 ls st h Q ↔ onI (gl ls 1) (fun z => Ev X 235 72 ls (vi z :: st) h Q) := R_il rfl (Or.inl rfl)
theorem e_235_72 {x : Nat} {j : Int} : Ev X 235 72 ls (vi j :: vr x :: st) h Q ↔ (((X.1 x = 13 ∨ X.1 x = 20) ∧ 0 ≤ j ∧ j < X.2.1 x) ∧ Ev X 235 73 ls (vi (h.1 x j.toNat) :: st) h Q) := R_ia rfl
theorem e_235_73 : Ev X 235 73 ls st h Q ↔ onI (gl ls 5) (fun z => Ev X 235 74 ls (vi z :: st) h Q) := R_il rfl (Or.inr rfl)
theorem e_235_74 {x y : Int} : Ev X 235 74 ls (vi y :: vi x :: st) h Q ↔ ((inR (x + y)) ∧ Ev X 235 75 ls (vi (x + y) :: st) h Q) := R_add rfl
theorem e_235_75 {rest : List xV} {a0 : Int} {a1 : Int} {o : Nat} : Ev X 235 75 ls ((vi a1) :: (vi a0) :: vr o :: rest) h Q ↔ ((X.1 o = 12 ∧ wd rest ≤ 8) ∧ Cl X 234 [vr o, vi a0, vi a1] h (fun r h2 => Ev X 235 76 ls (r.toList ++ rest) h2 Q)) := R_cv (x := o) (as := [vi a0, vi a1]) (k2 := 234) rfl rfl (Nat.le_of_ble_eq_true rfl)
theorem e_235_76 : Ev X 235 76 ls st h Q ↔ onI (gl ls 7) (fun z => Ev X 235 77 ls (vi z :: st) h Q) := R_il rfl (Or.inr rfl)
theorem e_235_77 {x y : Int} : Ev X 235 77 ls (vi y :: vi x :: st) h Q ↔ ((inR (x + y)) ∧ Ev X 235 78 ls (vi (x + y) :: st) h Q) := R_add rfl
theorem e_235_78 {x : Int} : Ev X 235 78 ls (vi x :: st) h Q ↔ (stOK ls 6 = true ∧ Ev X 235 79 (ls.set 6 (some (vi x))) st h Q) := R_is rfl (Or.inr rfl)
theorem e_235_79 : Ev X 235 79 ls st h Q ↔ onI (gl ls 5) (fun z => Ev X 235 80 ls (vi z :: st) h Q) := R_il rfl (Or.inr rfl)
theorem e_235_80 : Ev X 235 80 ls st h Q ↔ onI (gl ls 2) (fun z => Ev X 235 81 ls (vi z :: st) h Q) := R_il rfl (Or.inl rfl)
theorem e_235_81 {x y : Int} : Ev X 235 81 ls (vi y :: vi x :: st) h Q ↔ (if y ≤ x then Ev X 235 93 ls st h Q else Ev X 235 82 ls st h Q) := R_icge rfl
theorem e_235_82 : Ev X 235 82 ls st h Q ↔ onR (gl ls 0) (fun z => Ev X 235 83 ls (vr z :: st) h Q) := R_al rfl (Or.inl rfl)
theorem e_235_83 {x : Nat} : Ev X 235 83 ls (vr x :: st) h Q ↔ (X.1 x = 12 ∧ Ev X 235 84 ls (vr (X.2.2.1 x 26) :: st) h Q) := R_gr rfl
theorem e_235_84 : Ev X 235 84 ls st h Q ↔ Ev X 235 85 ls (vi 33 :: st) h Q := R_kc rfl (Or.inr (Or.inl ⟨rfl, by decide⟩))
theorem e_235_85 : Ev X 235 85 ls st h Q ↔ onI (gl ls 3) (fun z => Ev X 235 86 ls (vi z :: st) h Q) := R_il rfl (Or.inl rfl)
theorem e_235_86 {x y : Int} : Ev X 235 86 ls (vi y :: vi x :: st) h Q ↔ ((inR (x * y)) ∧ Ev X 235 87 ls (vi (x * y) :: st) h Q) := R_mul rfl
theorem e_235_87 : Ev X 235 87 ls st h Q ↔ onI (gl ls 5) (fun z => Ev X 235 88 ls (vi z :: st) h Q) := R_il rfl (Or.inr rfl)
theorem e_235_88 {x y : Int} : Ev X 235 88 ls (vi y :: vi x :: st) h Q ↔ ((inR (x + y)) ∧ Ev X 235 89 ls (vi (x + y) :: st) h Q) := R_add rfl
theorem e_235_89 : Ev X 235 89 ls st h Q ↔ Ev X 235 90 ls (vi 1 :: st) h Q := R_kc rfl (Or.inl ⟨Or.inl rfl, by decide⟩)
theorem e_235_90 {x y : Int} : Ev X 235 90 ls (vi y :: vi x :: st) h Q ↔ ((inR (x + y)) ∧ Ev X 235 91 ls (vi (x + y) :: st) h Q) := R_add rfl
theorem e_235_91 {x : Nat} {j : Int} : Ev X 235 91 ls (vi j :: vr x :: st) h Q ↔ (((X.1 x = 13 ∨ X.1 x = 20) ∧ 0 ≤ j ∧ j < X.2.1 x) ∧ Ev X 235 92 ls (vi (h.1 x j.toNat) :: st) h Q) := R_ia rfl
theorem e_235_92 : Ev X 235 92 ls st h Q ↔ Ev X 235 94 ls st h Q := R_go rfl
theorem e_235_93 : Ev X 235 93 ls st h Q ↔ Ev X 235 94 ls (vi 100000000 :: st) h Q := R_kc rfl (Or.inl ⟨Or.inr (Or.inl rfl), by decide⟩)
theorem e_235_94 {x : Int} : Ev X 235 94 ls (vi x :: st) h Q ↔ (stOK ls 7 = true ∧ Ev X 235 95 (ls.set 7 (some (vi x))) st h Q) := R_is rfl (Or.inr rfl)
theorem e_235_95 : Ev X 235 95 ls st h Q ↔ onR (gl ls 0) (fun z => Ev X 235 96 ls (vr z :: st) h Q) := R_al rfl (Or.inl rfl)
theorem e_235_96 {x : Nat} : Ev X 235 96 ls (vr x :: st) h Q ↔ (X.1 x = 12 ∧ Ev X 235 97 ls (vr (X.2.2.1 x 26) :: st) h Q) := R_gr rfl
theorem e_235_97 : Ev X 235 97 ls st h Q ↔ Ev X 235 98 ls (vi 33 :: st) h Q := R_kc rfl (Or.inr (Or.inl ⟨rfl, by decide⟩))
theorem e_235_98 : Ev X 235 98 ls st h Q ↔ onI (gl ls 3) (fun z => Ev X 235 99 ls (vi z :: st) h Q) := R_il rfl (Or.inl rfl)
theorem e_235_99 {x y : Int} : Ev X 235 99 ls (vi y :: vi x :: st) h Q ↔ ((inR (x * y)) ∧ Ev X 235 100 ls (vi (x * y) :: st) h Q) := R_mul rfl
theorem e_235_100 : Ev X 235 100 ls st h Q ↔ onI (gl ls 5) (fun z => Ev X 235 101 ls (vi z :: st) h Q) := R_il rfl (Or.inr rfl)
theorem e_235_101 {x y : Int} : Ev X 235 101 ls (vi y :: vi x :: st) h Q ↔ ((inR (x + y)) ∧ Ev X 235 102 ls (vi (x + y) :: st) h Q) := R_add rfl
theorem e_235_102 : Ev X 235 102 ls st h Q ↔ onI (gl ls 7) (fun z => Ev X 235 103 ls (vi z :: st) h Q) := R_il rfl (Or.inr rfl)
theorem e_235_103 : Ev X 235 103 ls st h Q ↔ onI (gl ls 6) (fun z => Ev X 235 104 ls (vi z :: st) h Q) := R_il rfl (Or.inr rfl)
theorem e_235_104 {x y : Int} : Ev X 235 104 ls (vi y :: vi x :: st) h Q ↔ (if y ≤ x then Ev X 235 107 ls st h Q else Ev X 235 105 ls st h Q) := R_icge rfl
theorem e_235_105 : Ev X 235 105 ls st h Q ↔ onI (gl ls 7) (fun z => Ev X 235 106 ls (vi z :: st) h Q) := R_il rfl (Or.inr rfl)
theorem e_235_106 : Ev X 235 106 ls st h Q ↔ Ev X 235 108 ls st h Q := R_go rfl
theorem e_235_107 : Ev X 235 107 ls st h Q ↔ onI (gl ls 6) (fun z => Ev X 235 108 ls (vi z :: st) h Q) := R_il rfl (Or.inr rfl)
theorem e_235_108 {x : Nat} {j v : Int} : Ev X 235 108 ls (vi v :: vi j :: vr x :: st) h Q ↔ ((X.1 x = 13 ∧ 0 ≤ j ∧ j < X.2.1 x) ∧ Ev X 235 109 ls st (up2 h.1 x j.toNat v, h.2) Q) := R_ias rfl
theorem e_235_109 : Ev X 235 109 ls st h Q ↔ onI (gl ls 5) (fun x => (stOK ls 5 = true ∧ inR (x + (-1))) ∧ Ev X 235 110 (ls.set 5 (some (vi (x + (-1))))) st h Q) := R_inc rfl
theorem e_235_110 : Ev X 235 110 ls st h Q ↔ Ev X 235 36 ls st h Q := R_go rfl
theorem e_235_111 : Ev X 235 111 ls st h Q ↔ onI (gl ls 3) (fun x => (stOK ls 3 = true ∧ inR (x + (-1))) ∧ Ev X 235 112 (ls.set 3 (some (vi (x + (-1))))) st h Q) := R_inc rfl
theorem e_235_112 : Ev X 235 112 ls st h Q ↔ Ev X 235 27 ls st h Q := R_go rfl
theorem e_235_113 : Ev X 235 113 ls st h Q ↔ onR (gl ls 0) (fun z => Ev X 235 114 ls (vr z :: st) h Q) := R_al rfl (Or.inl rfl)
theorem e_235_114 {x : Nat} : Ev X 235 114 ls (vr x :: st) h Q ↔ (X.1 x = 12 ∧ Ev X 235 115 ls (vr (X.2.2.1 x 26) :: st) h Q) := R_gr rfl
theorem e_235_115 : Ev X 235 115 ls st h Q ↔ Ev X 235 116 ls (vi 0 :: st) h Q := R_kc rfl (Or.inl ⟨Or.inl rfl, by decide⟩)
theorem e_235_116 {x : Nat} {j : Int} : Ev X 235 116 ls (vi j :: vr x :: st) h Q ↔ (((X.1 x = 13 ∨ X.1 x = 20) ∧ 0 ≤ j ∧ j < X.2.1 x) ∧ Ev X 235 117 ls (vi (h.1 x j.toNat) :: st) h Q) := R_ia rfl
theorem e_235_117 {z : Int} : Ev X 235 117 ls [vi z] h Q ↔ Q (some (vi z)) h := R_ir rfl
-- 236: CellRowsModel.laySome(III)V
theorem e_236_0 : Ev X 236 0 ls st h Q ↔ onR (gl ls 0) (fun z => Ev X 236 1 ls (vr z :: st) h Q) := R_al rfl (Or.inl rfl)
theorem e_236_1 : Ev X 236 1 ls st h Q ↔ Ev X 236 2 ls (vi 0 :: st) h Q := R_kc rfl (Or.inl ⟨Or.inl rfl, by decide⟩)
theorem e_236_2 {x : Nat} {v : Int} : Ev X 236 2 ls (vi v :: vr x :: st) h Q ↔ (X.1 x = 12 ∧ Ev X 236 3 ls st (h.1, up2 h.2 x 25 v) Q) := R_pi rfl
theorem e_236_3 : Ev X 236 3 ls st h Q ↔ Ev X 236 4 ls (vi 0 :: st) h Q := R_kc rfl (Or.inl ⟨Or.inl rfl, by decide⟩)
theorem e_236_4 {x : Int} : Ev X 236 4 ls (vi x :: st) h Q ↔ (stOK ls 4 = true ∧ Ev X 236 5 (ls.set 4 (some (vi x))) st h Q) := R_is rfl (Or.inr rfl)
theorem e_236_5 : Ev X 236 5 ls st h Q ↔ onI (gl ls 4) (fun z => Ev X 236 6 ls (vi z :: st) h Q) := R_il rfl (Or.inr rfl)
theorem e_236_6 : Ev X 236 6 ls st h Q ↔ onI (gl ls 2) (fun z => Ev X 236 7 ls (vi z :: st) h Q) := R_il rfl (Or.inl rfl)
theorem e_236_7 {x y : Int} : Ev X 236 7 ls (vi y :: vi x :: st) h Q ↔ (if y ≤ x then Ev X 236 34 ls st h Q else Ev X 236 8 ls st h Q) := R_icge rfl
theorem e_236_8 : Ev X 236 8 ls st h Q ↔ onR (gl ls 0) (fun z => Ev X 236 9 ls (vr z :: st) h Q) := R_al rfl (Or.inl rfl)
theorem e_236_9 {x : Nat} : Ev X 236 9 ls (vr x :: st) h Q ↔ (X.1 x = 12 ∧ Ev X 236 10 ls (vr (X.2.2.1 x 23) :: st) h Q) := R_gr rfl
theorem e_236_10 : Ev X 236 10 ls st h Q ↔ onR (gl ls 0) (fun z => Ev X 236 11 ls (vr z :: st) h Q) := R_al rfl (Or.inl rfl)
theorem e_236_11 {x : Nat} : Ev X 236 11 ls (vr x :: st) h Q ↔ (X.1 x = 12 ∧ Ev X 236 12 ls (vr (X.2.2.1 x 21) :: st) h Q) := R_gr rfl
theorem e_236_12 : Ev X 236 12 ls st h Q ↔ onI (gl ls 4) (fun z => Ev X 236 13 ls (vi z :: st) h Q) := R_il rfl (Or.inr rfl)
theorem e_236_13 {x : Nat} {j : Int} : Ev X 236 13 ls (vi j :: vr x :: st) h Q ↔ (((X.1 x = 13 ∨ X.1 x = 20) ∧ 0 ≤ j ∧ j < X.2.1 x) ∧ Ev X 236 14 ls (vi (h.1 x j.toNat) :: st) h Q) := R_ia rfl
theorem e_236_14 {x : Nat} {j : Int} : Ev X 236 14 ls (vi j :: vr x :: st) h Q ↔ (((X.1 x = 13 ∨ X.1 x = 20) ∧ 0 ≤ j ∧ j < X.2.1 x) ∧ Ev X 236 15 ls (vi (h.1 x j.toNat) :: st) h Q) := R_ia rfl
theorem e_236_15 : Ev X 236 15 ls st h Q ↔ onI (gl ls 1) (fun z => Ev X 236 16 ls (vi z :: st) h Q) := R_il rfl (Or.inl rfl)
theorem e_236_16 {x y : Int} : Ev X 236 16 ls (vi y :: vi x :: st) h Q ↔ (if ¬ x = y then Ev X 236 32 ls st h Q else Ev X 236 17 ls st h Q) := R_icne rfl
theorem e_236_17 : Ev X 236 17 ls st h Q ↔ onR (gl ls 0) (fun z => Ev X 236 18 ls (vr z :: st) h Q) := R_al rfl (Or.inl rfl)
theorem e_236_18 {x : Nat} : Ev X 236 18 ls (vr x :: st) h Q ↔ (X.1 x = 12 ∧ Ev X 236 19 ls (vr (X.2.2.1 x 24) :: st) h Q) := R_gr rfl
theorem e_236_19 : Ev X 236 19 ls st h Q ↔ onR (gl ls 0) (fun z => Ev X 236 20 ls (vr z :: st) h Q) := R_al rfl (Or.inl rfl)
theorem e_236_20 {x : Nat} : Ev X 236 20 ls (vr x :: st) h Q ↔ (X.1 x = 12 ∧ Ev X 236 21 ls (vi (h.2 x 25) :: st) h Q) := R_gi rfl
theorem e_236_21 : Ev X 236 21 ls st h Q ↔ onR (gl ls 0) (fun z => Ev X 236 22 ls (vr z :: st) h Q) := R_al rfl (Or.inl rfl)
theorem e_236_22 {x : Nat} : Ev X 236 22 ls (vr x :: st) h Q ↔ (X.1 x = 12 ∧ Ev X 236 23 ls (vr (X.2.2.1 x 21) :: st) h Q) := R_gr rfl
theorem e_236_23 : Ev X 236 23 ls st h Q ↔ onI (gl ls 4) (fun z => Ev X 236 24 ls (vi z :: st) h Q) := R_il rfl (Or.inr rfl)
theorem e_236_24 {x : Nat} {j : Int} : Ev X 236 24 ls (vi j :: vr x :: st) h Q ↔ (((X.1 x = 13 ∨ X.1 x = 20) ∧ 0 ≤ j ∧ j < X.2.1 x) ∧ Ev X 236 25 ls (vi (h.1 x j.toNat) :: st) h Q) := R_ia rfl
theorem e_236_25 {x : Nat} {j v : Int} : Ev X 236 25 ls (vi v :: vi j :: vr x :: st) h Q ↔ ((X.1 x = 13 ∧ 0 ≤ j ∧ j < X.2.1 x) ∧ Ev X 236 26 ls st (up2 h.1 x j.toNat v, h.2) Q) := R_ias rfl
theorem e_236_26 : Ev X 236 26 ls st h Q ↔ onR (gl ls 0) (fun z => Ev X 236 27 ls (vr z :: st) h Q) := R_al rfl (Or.inl rfl)
theorem e_236_27 {v : xV} : Ev X 236 27 ls (v :: st) h Q ↔ (ct1 v = true ∧ Ev X 236 28 ls (v :: v :: st) h Q) := R_dup rfl
theorem e_236_28 {x : Nat} : Ev X 236 28 ls (vr x :: st) h Q ↔ (X.1 x = 12 ∧ Ev X 236 29 ls (vi (h.2 x 25) :: st) h Q) := R_gi rfl
theorem e_236_29 : Ev X 236 29 ls st h Q ↔ Ev X 236 30 ls (vi 1 :: st) h Q := R_kc rfl (Or.inl ⟨Or.inl rfl, by decide⟩)
theorem e_236_30 {x y : Int} : Ev X 236 30 ls (vi y :: vi x :: st) h Q ↔ ((inR (x + y)) ∧ Ev X 236 31 ls (vi (x + y) :: st) h Q) := R_add rfl
theorem e_236_31 {x : Nat} {v : Int} : Ev X 236 31 ls (vi v :: vr x :: st) h Q ↔ (X.1 x = 12 ∧ Ev X 236 32 ls st (h.1, up2 h.2 x 25 v) Q) := R_pi rfl
theorem e_236_32 : Ev X 236 32 ls st h Q ↔ onI (gl ls 4) (fun x => (stOK ls 4 = true ∧ inR (x + 1)) ∧ Ev X 236 33 (ls.set 4 (some (vi (x + 1)))) st h Q) := R_inc rfl
theorem e_236_33 : Ev X 236 33 ls st h Q ↔ Ev X 236 5 ls st h Q := R_go rfl
theorem e_236_34 : Ev X 236 34 ls st h Q ↔ onI (gl ls 3) (fun z => Ev X 236 35 ls (vi z :: st) h Q) := R_il rfl (Or.inl rfl)
theorem e_236_35 : Ev X 236 35 ls st h Q ↔ Ev X 236 36 ls (vi (-1) :: st) h Q := R_kc rfl (Or.inl ⟨Or.inl rfl, by decide⟩)
theorem e_236_36 {x y : Int} : Ev X 236 36 ls (vi y :: vi x :: st) h Q ↔ (if x = y then Ev X 236 49 ls st h Q else Ev X 236 37 ls st h Q) := R_iceq rfl
theorem e_236_37 : Ev X 236 37 ls st h Q ↔ onR (gl ls 0) (fun z => Ev X 236 38 ls (vr z :: st) h Q) := R_al rfl (Or.inl rfl)
theorem e_236_38 {x : Nat} : Ev X 236 38 ls (vr x :: st) h Q ↔ (X.1 x = 12 ∧ Ev X 236 39 ls (vr (X.2.2.1 x 24) :: st) h Q) := R_gr rfl
theorem e_236_39 : Ev X 236 39 ls st h Q ↔ onR (gl ls 0) (fun z => Ev X 236 40 ls (vr z :: st) h Q) := R_al rfl (Or.inl rfl)
theorem e_236_40 {x : Nat} : Ev X 236 40 ls (vr x :: st) h Q ↔ (X.1 x = 12 ∧ Ev X 236 41 ls (vi (h.2 x 25) :: st) h Q) := R_gi rfl
theorem e_236_41 : Ev X 236 41 ls st h Q ↔ onI (gl ls 3) (fun z => Ev X 236 42 ls (vi z :: st) h Q) := R_il rfl (Or.inl rfl)
theorem e_236_42 {x : Nat} {j v : Int} : Ev X 236 42 ls (vi v :: vi j :: vr x :: st) h Q ↔ ((X.1 x = 13 ∧ 0 ≤ j ∧ j < X.2.1 x) ∧ Ev X 236 43 ls st (up2 h.1 x j.toNat v, h.2) Q) := R_ias rfl
theorem e_236_43 : Ev X 236 43 ls st h Q ↔ onR (gl ls 0) (fun z => Ev X 236 44 ls (vr z :: st) h Q) := R_al rfl (Or.inl rfl)
theorem e_236_44 {v : xV} : Ev X 236 44 ls (v :: st) h Q ↔ (ct1 v = true ∧ Ev X 236 45 ls (v :: v :: st) h Q) := R_dup rfl
theorem e_236_45 {x : Nat} : Ev X 236 45 ls (vr x :: st) h Q ↔ (X.1 x = 12 ∧ Ev X 236 46 ls (vi (h.2 x 25) :: st) h Q) := R_gi rfl
theorem e_236_46 : Ev X 236 46 ls st h Q ↔ Ev X 236 47 ls (vi 1 :: st) h Q := R_kc rfl (Or.inl ⟨Or.inl rfl, by decide⟩)
theorem e_236_47 {x y : Int} : Ev X 236 47 ls (vi y :: vi x :: st) h Q ↔ ((inR (x + y)) ∧ Ev X 236 48 ls (vi (x + y) :: st) h Q) := R_add rfl
theorem e_236_48 {x : Nat} {v : Int} : Ev X 236 48 ls (vi v :: vr x :: st) h Q ↔ (X.1 x = 12 ∧ Ev X 236 49 ls st (h.1, up2 h.2 x 25 v) Q) := R_pi rfl
theorem e_236_49 : Ev X 236 49 ls [] h Q ↔ Q none h := R_vr rfl
-- 237: CellRowsModel.someWidth()I
theorem e_237_0 : Ev X 237 0 ls st h Q ↔ Ev X 237 1 ls (vi 0 :: st) h Q := R_kc rfl (Or.inl ⟨Or.inl rfl, by decide⟩)
theorem e_237_1 {x : Int} : Ev X 237 1 ls (vi x :: st) h Q ↔ (stOK ls 1 = true ∧ Ev X 237 2 (ls.set 1 (some (vi x))) st h Q) := R_is rfl (Or.inl rfl)
theorem e_237_2 : Ev X 237 2 ls st h Q ↔ Ev X 237 3 ls (vi 0 :: st) h Q := R_kc rfl (Or.inl ⟨Or.inl rfl, by decide⟩)
theorem e_237_3 {x : Int} : Ev X 237 3 ls (vi x :: st) h Q ↔ (stOK ls 2 = true ∧ Ev X 237 4 (ls.set 2 (some (vi x))) st h Q) := R_is rfl (Or.inl rfl)
theorem e_237_4 : Ev X 237 4 ls st h Q ↔ onI (gl ls 2) (fun z => Ev X 237 5 ls (vi z :: st) h Q) := R_il rfl (Or.inl rfl)
theorem e_237_5 : Ev X 237 5 ls st h Q ↔ onR (gl ls 0) (fun z => Ev X 237 6 ls (vr z :: st) h Q) := R_al rfl (Or.inl rfl)
theorem e_237_6 {x : Nat} : Ev X 237 6 ls (vr x :: st) h Q ↔ (X.1 x = 12 ∧ Ev X 237 7 ls (vi (h.2 x 25) :: st) h Q) := R_gi rfl
theorem e_237_7 {x y : Int} : Ev X 237 7 ls (vi y :: vi x :: st) h Q ↔ (if y ≤ x then Ev X 237 19 ls st h Q else Ev X 237 8 ls st h Q) := R_icge rfl
theorem e_237_8 : Ev X 237 8 ls st h Q ↔ onI (gl ls 1) (fun z => Ev X 237 9 ls (vi z :: st) h Q) := R_il rfl (Or.inl rfl)
theorem e_237_9 : Ev X 237 9 ls st h Q ↔ onR (gl ls 0) (fun z => Ev X 237 10 ls (vr z :: st) h Q) := R_al rfl (Or.inl rfl)
theorem e_237_10 : Ev X 237 10 ls st h Q ↔ onR (gl ls 0) (fun z => Ev X 237 11 ls (vr z :: st) h Q) := R_al rfl (Or.inl rfl)
theorem e_237_11 {x : Nat} : Ev X 237 11 ls (vr x :: st) h Q ↔ (X.1 x = 12 ∧ Ev X 237 12 ls (vr (X.2.2.1 x 24) :: st) h Q) := R_gr rfl
theorem e_237_12 : Ev X 237 12 ls st h Q ↔ onI (gl ls 2) (fun z => Ev X 237 13 ls (vi z :: st) h Q) := R_il rfl (Or.inl rfl)
theorem e_237_13 {x : Nat} {j : Int} : Ev X 237 13 ls (vi j :: vr x :: st) h Q ↔ (((X.1 x = 13 ∨ X.1 x = 20) ∧ 0 ≤ j ∧ j < X.2.1 x) ∧ Ev X 237 14 ls (vi (h.1 x j.toNat) :: st) h Q) := R_ia rfl
theorem e_237_14 {rest : List xV} {a0 : Int} {o : Nat} : Ev X 237 14 ls ((vi a0) :: vr o :: rest) h Q ↔ ((X.1 o = 12 ∧ wd rest ≤ 8) ∧ Cl X 160 [vr o, vi a0] h (fun r h2 => Ev X 237 15 ls (r.toList ++ rest) h2 Q)) := R_cv (x := o) (as := [vi a0]) (k2 := 160) rfl rfl (Nat.le_of_ble_eq_true rfl)
theorem e_237_15 {x y : Int} : Ev X 237 15 ls (vi y :: vi x :: st) h Q ↔ ((inR (x + y)) ∧ Ev X 237 16 ls (vi (x + y) :: st) h Q) := R_add rfl
theorem e_237_16 {x : Int} : Ev X 237 16 ls (vi x :: st) h Q ↔ (stOK ls 1 = true ∧ Ev X 237 17 (ls.set 1 (some (vi x))) st h Q) := R_is rfl (Or.inl rfl)
theorem e_237_17 : Ev X 237 17 ls st h Q ↔ onI (gl ls 2) (fun x => (stOK ls 2 = true ∧ inR (x + 1)) ∧ Ev X 237 18 (ls.set 2 (some (vi (x + 1)))) st h Q) := R_inc rfl
theorem e_237_18 : Ev X 237 18 ls st h Q ↔ Ev X 237 4 ls st h Q := R_go rfl
theorem e_237_19 : Ev X 237 19 ls st h Q ↔ onI (gl ls 1) (fun z => Ev X 237 20 ls (vi z :: st) h Q) := R_il rfl (Or.inl rfl)
theorem e_237_20 {z : Int} : Ev X 237 20 ls [vi z] h Q ↔ Q (some (vi z)) h := R_ir rfl
-- 238: CellRowsModel.isAhead(II)Z
theorem e_238_0 : Ev X 238 0 ls st h Q ↔ onR (gl ls 0) (fun z => Ev X 238 1 ls (vr z :: st) h Q) := R_al rfl (Or.inl rfl)
theorem e_238_1 {x : Nat} : Ev X 238 1 ls (vr x :: st) h Q ↔ (X.1 x = 12 ∧ Ev X 238 2 ls (vr (X.2.2.1 x 6) :: st) h Q) := R_gr rfl
theorem e_238_2 : Ev X 238 2 ls st h Q ↔ onI (gl ls 1) (fun z => Ev X 238 3 ls (vi z :: st) h Q) := R_il rfl (Or.inl rfl)
theorem e_238_3 {rest : List xV} {a0 : Int} : Ev X 238 3 ls ((vi a0) :: rest) h Q ↔ (wd rest ≤ 8 ∧ Cl X 158 [vi a0] h (fun r h2 => Ev X 238 4 ls (r.toList ++ rest) h2 Q)) := R_cs (as := [vi a0]) (k2 := 158) rfl rfl (Nat.le_of_ble_eq_true rfl)
theorem e_238_4 : Ev X 238 4 ls st h Q ↔ Ev X 238 5 ls (vi 3 :: st) h Q := R_kc rfl (Or.inl ⟨Or.inl rfl, by decide⟩)
theorem e_238_5 {x y : Int} : Ev X 238 5 ls (vi y :: vi x :: st) h Q ↔ ((inR (x + y)) ∧ Ev X 238 6 ls (vi (x + y) :: st) h Q) := R_add rfl
theorem e_238_6 {x : Nat} {j : Int} : Ev X 238 6 ls (vi j :: vr x :: st) h Q ↔ (((X.1 x = 13 ∨ X.1 x = 20) ∧ 0 ≤ j ∧ j < X.2.1 x) ∧ Ev X 238 7 ls (vi (h.1 x j.toNat) :: st) h Q) := R_ia rfl
theorem e_238_7 {x : Int} : Ev X 238 7 ls (vi x :: st) h Q ↔ (stOK ls 3 = true ∧ Ev X 238 8 (ls.set 3 (some (vi x))) st h Q) := R_is rfl (Or.inl rfl)
theorem e_238_8 : Ev X 238 8 ls st h Q ↔ onR (gl ls 0) (fun z => Ev X 238 9 ls (vr z :: st) h Q) := R_al rfl (Or.inl rfl)
theorem e_238_9 {x : Nat} : Ev X 238 9 ls (vr x :: st) h Q ↔ (X.1 x = 12 ∧ Ev X 238 10 ls (vr (X.2.2.1 x 6) :: st) h Q) := R_gr rfl
theorem e_238_10 : Ev X 238 10 ls st h Q ↔ onI (gl ls 2) (fun z => Ev X 238 11 ls (vi z :: st) h Q) := R_il rfl (Or.inl rfl)
theorem e_238_11 {rest : List xV} {a0 : Int} : Ev X 238 11 ls ((vi a0) :: rest) h Q ↔ (wd rest ≤ 8 ∧ Cl X 158 [vi a0] h (fun r h2 => Ev X 238 12 ls (r.toList ++ rest) h2 Q)) := R_cs (as := [vi a0]) (k2 := 158) rfl rfl (Nat.le_of_ble_eq_true rfl)
theorem e_238_12 : Ev X 238 12 ls st h Q ↔ Ev X 238 13 ls (vi 3 :: st) h Q := R_kc rfl (Or.inl ⟨Or.inl rfl, by decide⟩)
theorem e_238_13 {x y : Int} : Ev X 238 13 ls (vi y :: vi x :: st) h Q ↔ ((inR (x + y)) ∧ Ev X 238 14 ls (vi (x + y) :: st) h Q) := R_add rfl
theorem e_238_14 {x : Nat} {j : Int} : Ev X 238 14 ls (vi j :: vr x :: st) h Q ↔ (((X.1 x = 13 ∨ X.1 x = 20) ∧ 0 ≤ j ∧ j < X.2.1 x) ∧ Ev X 238 15 ls (vi (h.1 x j.toNat) :: st) h Q) := R_ia rfl
theorem e_238_15 {x : Int} : Ev X 238 15 ls (vi x :: st) h Q ↔ (stOK ls 4 = true ∧ Ev X 238 16 (ls.set 4 (some (vi x))) st h Q) := R_is rfl (Or.inr rfl)
theorem e_238_16 : Ev X 238 16 ls st h Q ↔ onI (gl ls 3) (fun z => Ev X 238 17 ls (vi z :: st) h Q) := R_il rfl (Or.inl rfl)
theorem e_238_17 : Ev X 238 17 ls st h Q ↔ onI (gl ls 4) (fun z => Ev X 238 18 ls (vi z :: st) h Q) := R_il rfl (Or.inr rfl)
theorem e_238_18 {x y : Int} : Ev X 238 18 ls (vi y :: vi x :: st) h Q ↔ (if x < y then Ev X 238 25 ls st h Q else Ev X 238 19 ls st h Q) := R_iclt rfl
theorem e_238_19 : Ev X 238 19 ls st h Q ↔ onI (gl ls 3) (fun z => Ev X 238 20 ls (vi z :: st) h Q) := R_il rfl (Or.inl rfl)
theorem e_238_20 : Ev X 238 20 ls st h Q ↔ onI (gl ls 4) (fun z => Ev X 238 21 ls (vi z :: st) h Q) := R_il rfl (Or.inr rfl)
theorem e_238_21 {x y : Int} : Ev X 238 21 ls (vi y :: vi x :: st) h Q ↔ (if ¬ x = y then Ev X 238 27 ls st h Q else Ev X 238 22 ls st h Q) := R_icne rfl
theorem e_238_22 : Ev X 238 22 ls st h Q ↔ onI (gl ls 1) (fun z => Ev X 238 23 ls (vi z :: st) h Q) := R_il rfl (Or.inl rfl)
theorem e_238_23 : Ev X 238 23 ls st h Q ↔ onI (gl ls 2) (fun z => Ev X 238 24 ls (vi z :: st) h Q) := R_il rfl (Or.inl rfl)
theorem e_238_24 {x y : Int} : Ev X 238 24 ls (vi y :: vi x :: st) h Q ↔ (if y ≤ x then Ev X 238 27 ls st h Q else Ev X 238 25 ls st h Q) := R_icge rfl
theorem e_238_25 : Ev X 238 25 ls st h Q ↔ Ev X 238 26 ls (vi 1 :: st) h Q := R_kc rfl (Or.inl ⟨Or.inl rfl, by decide⟩)
theorem e_238_26 : Ev X 238 26 ls st h Q ↔ Ev X 238 28 ls st h Q := R_go rfl
theorem e_238_27 : Ev X 238 27 ls st h Q ↔ Ev X 238 28 ls (vi 0 :: st) h Q := R_kc rfl (Or.inl ⟨Or.inl rfl, by decide⟩)
theorem e_238_28 {z : Int} : Ev X 238 28 ls [vi z] h Q ↔ ((z = 0 ∨ z = 1) ∧ Q (some (vi z)) h) := R_zr rfl
-- 239: CellRowsModel.layQueue()V
theorem e_239_0 : Ev X 239 0 ls st h Q ↔ onR (gl ls 0) (fun z => Ev X 239 1 ls (vr z :: st) h Q) := R_al rfl (Or.inl rfl)
theorem e_239_1 : Ev X 239 1 ls st h Q ↔ Ev X 239 2 ls (vi 0 :: st) h Q := R_kc rfl (Or.inl ⟨Or.inl rfl, by decide⟩)
theorem e_239_2 {x : Nat} {v : Int} : Ev X 239 2 ls (vi v :: vr x :: st) h Q ↔ (X.1 x = 12 ∧ Ev X 239 3 ls st (h.1, up2 h.2 x 22 v) Q) := R_pi rfl
theorem e_239_3 : Ev X 239 3 ls st h Q ↔ Ev X 239 4 ls (vi 0 :: st) h Q := R_kc rfl (Or.inl ⟨Or.inl rfl, by decide⟩)
theorem e_239_4 {x : Int} : Ev X 239 4 ls (vi x :: st) h Q ↔ (stOK ls 1 = true ∧ Ev X 239 5 (ls.set 1 (some (vi x))) st h Q) := R_is rfl (Or.inl rfl)
theorem e_239_5 : Ev X 239 5 ls st h Q ↔ onI (gl ls 1) (fun z => Ev X 239 6 ls (vi z :: st) h Q) := R_il rfl (Or.inl rfl)
theorem e_239_6 : Ev X 239 6 ls st h Q ↔ onR (gl ls 0) (fun z => Ev X 239 7 ls (vr z :: st) h Q) := R_al rfl (Or.inl rfl)
theorem e_239_7 {x : Nat} : Ev X 239 7 ls (vr x :: st) h Q ↔ (X.1 x = 12 ∧ Ev X 239 8 ls (vr (X.2.2.1 x 6) :: st) h Q) := R_gr rfl
theorem e_239_8 : Ev X 239 8 ls st h Q ↔ Ev X 239 9 ls (vi 2 :: st) h Q := R_kc rfl (Or.inl ⟨Or.inl rfl, by decide⟩)
theorem e_239_9 {x : Nat} {j : Int} : Ev X 239 9 ls (vi j :: vr x :: st) h Q ↔ (((X.1 x = 13 ∨ X.1 x = 20) ∧ 0 ≤ j ∧ j < X.2.1 x) ∧ Ev X 239 10 ls (vi (h.1 x j.toNat) :: st) h Q) := R_ia rfl
theorem e_239_10 {x y : Int} : Ev X 239 10 ls (vi y :: vi x :: st) h Q ↔ (if y ≤ x then Ev X 239 55 ls st h Q else Ev X 239 11 ls st h Q) := R_icge rfl
theorem e_239_11 : Ev X 239 11 ls st h Q ↔ onR (gl ls 0) (fun z => Ev X 239 12 ls (vr z :: st) h Q) := R_al rfl (Or.inl rfl)
theorem e_239_12 : Ev X 239 12 ls st h Q ↔ onI (gl ls 1) (fun z => Ev X 239 13 ls (vi z :: st) h Q) := R_il rfl (Or.inl rfl)
theorem e_239_13 {rest : List xV} {a0 : Int} {o : Nat} : Ev X 239 13 ls ((vi a0) :: vr o :: rest) h Q ↔ ((X.1 o = 12 ∧ wd rest ≤ 8) ∧ Cl X 162 [vr o, vi a0] h (fun r h2 => Ev X 239 14 ls (r.toList ++ rest) h2 Q)) := R_cv (x := o) (as := [vi a0]) (k2 := 162) rfl rfl (Nat.le_of_ble_eq_true rfl)
theorem e_239_14 {x : Int} : Ev X 239 14 ls (vi x :: st) h Q ↔ (if ¬ x = 0 then Ev X 239 53 ls st h Q else Ev X 239 15 ls st h Q) := R_ifne rfl
theorem e_239_15 : Ev X 239 15 ls st h Q ↔ onR (gl ls 0) (fun z => Ev X 239 16 ls (vr z :: st) h Q) := R_al rfl (Or.inl rfl)
theorem e_239_16 {x : Nat} : Ev X 239 16 ls (vr x :: st) h Q ↔ (X.1 x = 12 ∧ Ev X 239 17 ls (vi (h.2 x 22) :: st) h Q) := R_gi rfl
theorem e_239_17 {x : Int} : Ev X 239 17 ls (vi x :: st) h Q ↔ (stOK ls 2 = true ∧ Ev X 239 18 (ls.set 2 (some (vi x))) st h Q) := R_is rfl (Or.inl rfl)
theorem e_239_18 : Ev X 239 18 ls st h Q ↔ onI (gl ls 2) (fun z => Ev X 239 19 ls (vi z :: st) h Q) := R_il rfl (Or.inl rfl)
theorem e_239_19 {x : Int} : Ev X 239 19 ls (vi x :: st) h Q ↔ (if x ≤ 0 then Ev X 239 42 ls st h Q else Ev X 239 20 ls st h Q) := R_ifle rfl
theorem e_239_20 : Ev X 239 20 ls st h Q ↔ onR (gl ls 0) (fun z => Ev X 239 21 ls (vr z :: st) h Q) := R_al rfl (Or.inl rfl)
theorem e_239_21 : Ev X 239 21 ls st h Q ↔ onI (gl ls 1) (fun z => Ev X 239 22 ls (vi z :: st) h Q) := R_il rfl (Or.inl rfl)
theorem e_239_22 : Ev X 239 22 ls st h Q ↔ onR (gl ls 0) (fun z => Ev X 239 23 ls (vr z :: st) h Q) := R_al rfl (Or.inl rfl)
theorem e_239_23 {x : Nat} : Ev X 239 23 ls (vr x :: st) h Q ↔ (X.1 x = 12 ∧ Ev X 239 24 ls (vr (X.2.2.1 x 21) :: st) h Q) := R_gr rfl
theorem e_239_24 : Ev X 239 24 ls st h Q ↔ onI (gl ls 2) (fun z => Ev X 239 25 ls (vi z :: st) h Q) := R_il rfl (Or.inl rfl)
theorem e_239_25 : Ev X 239 25 ls st h Q ↔ Ev X 239 26 ls (vi 1 :: st) h Q := R_kc rfl (Or.inl ⟨Or.inl rfl, by decide⟩)
theorem e_239_26 {x y : Int} : Ev X 239 26 ls (vi y :: vi x :: st) h Q ↔ ((inR (x - y)) ∧ Ev X 239 27 ls (vi (x - y) :: st) h Q) := R_sub rfl
theorem e_239_27 {x : Nat} {j : Int} : Ev X 239 27 ls (vi j :: vr x :: st) h Q ↔ (((X.1 x = 13 ∨ X.1 x = 20) ∧ 0 ≤ j ∧ j < X.2.1 x) ∧ Ev X 239 28 ls (vi (h.1 x j.toNat) :: st) h Q) := R_ia rfl
theorem e_239_28 {rest : List xV} {a0 : Int} {a1 : Int} {o : Nat} : Ev X 239 28 ls ((vi a1) :: (vi a0) :: vr o :: rest) h Q ↔ ((X.1 o = 12 ∧ wd rest ≤ 8) ∧ Cl X 238 [vr o, vi a0, vi a1] h (fun r h2 => Ev X 239 29 ls (r.toList ++ rest) h2 Q)) := R_cv (x := o) (as := [vi a0, vi a1]) (k2 := 238) rfl rfl (Nat.le_of_ble_eq_true rfl)
theorem e_239_29 {x : Int} : Ev X 239 29 ls (vi x :: st) h Q ↔ (if x = 0 then Ev X 239 42 ls st h Q else Ev X 239 30 ls st h Q) := R_ifeq rfl
theorem e_239_30 : Ev X 239 30 ls st h Q ↔ onR (gl ls 0) (fun z => Ev X 239 31 ls (vr z :: st) h Q) := R_al rfl (Or.inl rfl)
theorem e_239_31 {x : Nat} : Ev X 239 31 ls (vr x :: st) h Q ↔ (X.1 x = 12 ∧ Ev X 239 32 ls (vr (X.2.2.1 x 21) :: st) h Q) := R_gr rfl
theorem e_239_32 : Ev X 239 32 ls st h Q ↔ onI (gl ls 2) (fun z => Ev X 239 33 ls (vi z :: st) h Q) := R_il rfl (Or.inl rfl)
theorem e_239_33 : Ev X 239 33 ls st h Q ↔ onR (gl ls 0) (fun z => Ev X 239 34 ls (vr z :: st) h Q) := R_al rfl (Or.inl rfl)
theorem e_239_34 {x : Nat} : Ev X 239 34 ls (vr x :: st) h Q ↔ (X.1 x = 12 ∧ Ev X 239 35 ls (vr (X.2.2.1 x 21) :: st) h Q) := R_gr rfl
theorem e_239_35 : Ev X 239 35 ls st h Q ↔ onI (gl ls 2) (fun z => Ev X 239 36 ls (vi z :: st) h Q) := R_il rfl (Or.inl rfl)
theorem e_239_36 : Ev X 239 36 ls st h Q ↔ Ev X 239 37 ls (vi 1 :: st) h Q := R_kc rfl (Or.inl ⟨Or.inl rfl, by decide⟩)
theorem e_239_37 {x y : Int} : Ev X 239 37 ls (vi y :: vi x :: st) h Q ↔ ((inR (x - y)) ∧ Ev X 239 38 ls (vi (x - y) :: st) h Q) := R_sub rfl
theorem e_239_38 {x : Nat} {j : Int} : Ev X 239 38 ls (vi j :: vr x :: st) h Q ↔ (((X.1 x = 13 ∨ X.1 x = 20) ∧ 0 ≤ j ∧ j < X.2.1 x) ∧ Ev X 239 39 ls (vi (h.1 x j.toNat) :: st) h Q) := R_ia rfl
theorem e_239_39 {x : Nat} {j v : Int} : Ev X 239 39 ls (vi v :: vi j :: vr x :: st) h Q ↔ ((X.1 x = 13 ∧ 0 ≤ j ∧ j < X.2.1 x) ∧ Ev X 239 40 ls st (up2 h.1 x j.toNat v, h.2) Q) := R_ias rfl
theorem e_239_40 : Ev X 239 40 ls st h Q ↔ onI (gl ls 2) (fun x => (stOK ls 2 = true ∧ inR (x + (-1))) ∧ Ev X 239 41 (ls.set 2 (some (vi (x + (-1))))) st h Q) := R_inc rfl
theorem e_239_41 : Ev X 239 41 ls st h Q ↔ Ev X 239 18 ls st h Q := R_go rfl
theorem e_239_42 : Ev X 239 42 ls st h Q ↔ onR (gl ls 0) (fun z => Ev X 239 43 ls (vr z :: st) h Q) := R_al rfl (Or.inl rfl)
theorem e_239_43 {x : Nat} : Ev X 239 43 ls (vr x :: st) h Q ↔ (X.1 x = 12 ∧ Ev X 239 44 ls (vr (X.2.2.1 x 21) :: st) h Q) := R_gr rfl
theorem e_239_44 : Ev X 239 44 ls st h Q ↔ onI (gl ls 2) (fun z => Ev X 239 45 ls (vi z :: st) h Q) := R_il rfl (Or.inl rfl)
theorem e_239_45 : Ev X 239 45 ls st h Q ↔ onI (gl ls 1) (fun z => Ev X 239 46 ls (vi z :: st) h Q) := R_il rfl (Or.inl rfl)
theorem e_239_46 {x : Nat} {j v : Int} : Ev X 239 46 ls (vi v :: vi j :: vr x :: st) h Q ↔ ((X.1 x = 13 ∧ 0 ≤ j ∧ j < X.2.1 x) ∧ Ev X 239 47 ls st (up2 h.1 x j.toNat v, h.2) Q) := R_ias rfl
theorem e_239_47 : Ev X 239 47 ls st h Q ↔ onR (gl ls 0) (fun z => Ev X 239 48 ls (vr z :: st) h Q) := R_al rfl (Or.inl rfl)
theorem e_239_48 {v : xV} : Ev X 239 48 ls (v :: st) h Q ↔ (ct1 v = true ∧ Ev X 239 49 ls (v :: v :: st) h Q) := R_dup rfl
theorem e_239_49 {x : Nat} : Ev X 239 49 ls (vr x :: st) h Q ↔ (X.1 x = 12 ∧ Ev X 239 50 ls (vi (h.2 x 22) :: st) h Q) := R_gi rfl
theorem e_239_50 : Ev X 239 50 ls st h Q ↔ Ev X 239 51 ls (vi 1 :: st) h Q := R_kc rfl (Or.inl ⟨Or.inl rfl, by decide⟩)
theorem e_239_51 {x y : Int} : Ev X 239 51 ls (vi y :: vi x :: st) h Q ↔ ((inR (x + y)) ∧ Ev X 239 52 ls (vi (x + y) :: st) h Q) := R_add rfl
theorem e_239_52 {x : Nat} {v : Int} : Ev X 239 52 ls (vi v :: vr x :: st) h Q ↔ (X.1 x = 12 ∧ Ev X 239 53 ls st (h.1, up2 h.2 x 22 v) Q) := R_pi rfl
theorem e_239_53 : Ev X 239 53 ls st h Q ↔ onI (gl ls 1) (fun x => (stOK ls 1 = true ∧ inR (x + 1)) ∧ Ev X 239 54 (ls.set 1 (some (vi (x + 1)))) st h Q) := R_inc rfl
theorem e_239_54 : Ev X 239 54 ls st h Q ↔ Ev X 239 5 ls st h Q := R_go rfl
theorem e_239_55 : Ev X 239 55 ls [] h Q ↔ Q none h := R_vr rfl
-- 240: CellRowsModel.runFor(II)I
theorem e_240_0 : Ev X 240 0 ls st h Q ↔ Ev X 240 1 ls (vi (-1) :: st) h Q := R_kc rfl (Or.inl ⟨Or.inl rfl, by decide⟩)
theorem e_240_1 {x : Int} : Ev X 240 1 ls (vi x :: st) h Q ↔ (stOK ls 3 = true ∧ Ev X 240 2 (ls.set 3 (some (vi x))) st h Q) := R_is rfl (Or.inl rfl)
theorem e_240_2 : Ev X 240 2 ls st h Q ↔ Ev X 240 3 ls (vi 100000000 :: st) h Q := R_kc rfl (Or.inl ⟨Or.inr (Or.inl rfl), by decide⟩)
theorem e_240_3 {x : Int} : Ev X 240 3 ls (vi x :: st) h Q ↔ (stOK ls 4 = true ∧ Ev X 240 4 (ls.set 4 (some (vi x))) st h Q) := R_is rfl (Or.inr rfl)
theorem e_240_4 : Ev X 240 4 ls st h Q ↔ Ev X 240 5 ls (vi 0 :: st) h Q := R_kc rfl (Or.inl ⟨Or.inl rfl, by decide⟩)
theorem e_240_5 {x : Int} : Ev X 240 5 ls (vi x :: st) h Q ↔ (stOK ls 5 = true ∧ Ev X 240 6 (ls.set 5 (some (vi x))) st h Q) := R_is rfl (Or.inr rfl)
theorem e_240_6 : Ev X 240 6 ls st h Q ↔ onI (gl ls 5) (fun z => Ev X 240 7 ls (vi z :: st) h Q) := R_il rfl (Or.inr rfl)
theorem e_240_7 : Ev X 240 7 ls st h Q ↔ onR (gl ls 0) (fun z => Ev X 240 8 ls (vr z :: st) h Q) := R_al rfl (Or.inl rfl)
theorem e_240_8 {x : Nat} : Ev X 240 8 ls (vr x :: st) h Q ↔ (X.1 x = 12 ∧ Ev X 240 9 ls (vi (h.2 x 18) :: st) h Q) := R_gi rfl
theorem e_240_9 {x y : Int} : Ev X 240 9 ls (vi y :: vi x :: st) h Q ↔ (if y ≤ x then Ev X 240 85 ls st h Q else Ev X 240 10 ls st h Q) := R_icge rfl
theorem e_240_10 : Ev X 240 10 ls st h Q ↔ onR (gl ls 0) (fun z => Ev X 240 11 ls (vr z :: st) h Q) := R_al rfl (Or.inl rfl)
theorem e_240_11 {x : Nat} : Ev X 240 11 ls (vr x :: st) h Q ↔ (X.1 x = 12 ∧ Ev X 240 12 ls (vr (X.2.2.1 x 15) :: st) h Q) := R_gr rfl
theorem e_240_12 : Ev X 240 12 ls st h Q ↔ onI (gl ls 5) (fun z => Ev X 240 13 ls (vi z :: st) h Q) := R_il rfl (Or.inr rfl)
theorem e_240_13 {x : Nat} {j : Int} : Ev X 240 13 ls (vi j :: vr x :: st) h Q ↔ (((X.1 x = 13 ∨ X.1 x = 20) ∧ 0 ≤ j ∧ j < X.2.1 x) ∧ Ev X 240 14 ls (vi (h.1 x j.toNat) :: st) h Q) := R_ia rfl
theorem e_240_14 : Ev X 240 14 ls st h Q ↔ onR (gl ls 0) (fun z => Ev X 240 15 ls (vr z :: st) h Q) := R_al rfl (Or.inl rfl)
theorem e_240_15 : Ev X 240 15 ls st h Q ↔ onI (gl ls 1) (fun z => Ev X 240 16 ls (vi z :: st) h Q) := R_il rfl (Or.inl rfl)
theorem e_240_16 {rest : List xV} {a0 : Int} {o : Nat} : Ev X 240 16 ls ((vi a0) :: vr o :: rest) h Q ↔ ((X.1 o = 12 ∧ wd rest ≤ 8) ∧ Cl X 161 [vr o, vi a0] h (fun r h2 => Ev X 240 17 ls (r.toList ++ rest) h2 Q)) := R_cv (x := o) (as := [vi a0]) (k2 := 161) rfl rfl (Nat.le_of_ble_eq_true rfl)
theorem e_240_17 {x y : Int} : Ev X 240 17 ls (vi y :: vi x :: st) h Q ↔ (if ¬ x = y then Ev X 240 83 ls st h Q else Ev X 240 18 ls st h Q) := R_icne rfl
theorem e_240_18 : Ev X 240 18 ls st h Q ↔ onR (gl ls 0) (fun z => Ev X 240 19 ls (vr z :: st) h Q) := R_al rfl (Or.inl rfl)
theorem e_240_19 : Ev X 240 19 ls st h Q ↔ onI (gl ls 5) (fun z => Ev X 240 20 ls (vi z :: st) h Q) := R_il rfl (Or.inr rfl)
theorem e_240_20 : Ev X 240 20 ls st h Q ↔ onI (gl ls 2) (fun z => Ev X 240 21 ls (vi z :: st) h Q) := R_il rfl (Or.inl rfl)
theorem e_240_21 : Ev X 240 21 ls st h Q ↔ onI (gl ls 1) (fun z => Ev X 240 22 ls (vi z :: st) h Q) := R_il rfl (Or.inl rfl)
theorem e_240_22 {rest : List xV} {a0 : Int} {a1 : Int} {a2 : Int} {o : Nat} : Ev X 240 22 ls ((vi a2) :: (vi a1) :: (vi a0) :: vr o :: rest) h Q ↔ ((X.1 o = 12 ∧ wd rest ≤ 8) ∧ Cl X 236 [vr o, vi a0, vi a1, vi a2] h (fun r h2 => Ev X 240 23 ls (r.toList ++ rest) h2 Q)) := R_cv (x := o) (as := [vi a0, vi a1, vi a2]) (k2 := 236) rfl rfl (Nat.le_of_ble_eq_true rfl)
theorem e_240_23 : Ev X 240 23 ls st h Q ↔ onR (gl ls 0) (fun z => Ev X 240 24 ls (vr z :: st) h Q) := R_al rfl (Or.inl rfl)
theorem e_240_24 {rest : List xV}  {o : Nat} : Ev X 240 24 ls (vr o :: rest) h Q ↔ ((X.1 o = 12 ∧ wd rest ≤ 8) ∧ Cl X 237 [vr o] h (fun r h2 => Ev X 240 25 ls (r.toList ++ rest) h2 Q)) := R_cv (x := o) (as := []) (k2 := 237) rfl rfl (Nat.le_of_ble_eq_true rfl)
theorem e_240_25 : Ev X 240 25 ls st h Q ↔ onR (gl ls 0) (fun z => Ev X 240 26 ls (vr z :: st) h Q) := R_al rfl (Or.inl rfl)
theorem e_240_26 {x : Nat} : Ev X 240 26 ls (vr x :: st) h Q ↔ (X.1 x = 12 ∧ Ev X 240 27 ls (vr (X.2.2.1 x 17) :: st) h Q) := R_gr rfl
theorem e_240_27 : Ev X 240 27 ls st h Q ↔ onI (gl ls 5) (fun z => Ev X 240 28 ls (vi z :: st) h Q) := R_il rfl (Or.inr rfl)
theorem e_240_28 {x : Nat} {j : Int} : Ev X 240 28 ls (vi j :: vr x :: st) h Q ↔ (((X.1 x = 13 ∨ X.1 x = 20) ∧ 0 ≤ j ∧ j < X.2.1 x) ∧ Ev X 240 29 ls (vi (h.1 x j.toNat) :: st) h Q) := R_ia rfl
theorem e_240_29 {x y : Int} : Ev X 240 29 ls (vi y :: vi x :: st) h Q ↔ (if y < x then Ev X 240 83 ls st h Q else Ev X 240 30 ls st h Q) := R_icgt rfl
theorem e_240_30 : Ev X 240 30 ls st h Q ↔ onR (gl ls 0) (fun z => Ev X 240 31 ls (vr z :: st) h Q) := R_al rfl (Or.inl rfl)
theorem e_240_31 : Ev X 240 31 ls st h Q ↔ onI (gl ls 5) (fun z => Ev X 240 32 ls (vi z :: st) h Q) := R_il rfl (Or.inr rfl)
theorem e_240_32 {rest : List xV} {a0 : Int} {o : Nat} : Ev X 240 32 ls ((vi a0) :: vr o :: rest) h Q ↔ ((X.1 o = 12 ∧ wd rest ≤ 8) ∧ Cl X 235 [vr o, vi a0] h (fun r h2 => Ev X 240 33 ls (r.toList ++ rest) h2 Q)) := R_cv (x := o) (as := [vi a0]) (k2 := 235) rfl rfl (Nat.le_of_ble_eq_true rfl)
theorem e_240_33 : Ev X 240 33 ls st h Q ↔ onR (gl ls 0) (fun z => Ev X 240 34 ls (vr z :: st) h Q) := R_al rfl (Or.inl rfl)
theorem e_240_34 : Ev X 240 34 ls st h Q ↔ onI (gl ls 1) (fun z => Ev X 240 35 ls (vi z :: st) h Q) := R_il rfl (Or.inl rfl)
theorem e_240_35 {rest : List xV} {a0 : Int} {o : Nat} : Ev X 240 35 ls ((vi a0) :: vr o :: rest) h Q ↔ ((X.1 o = 12 ∧ wd rest ≤ 8) ∧ Cl X 160 [vr o, vi a0] h (fun r h2 => Ev X 240 36 ls (r.toList ++ rest) h2 Q)) := R_cv (x := o) (as := [vi a0]) (k2 := 160) rfl rfl (Nat.le_of_ble_eq_true rfl)
theorem e_240_36 : Ev X 240 36 ls st h Q ↔ onR (gl ls 0) (fun z => Ev X 240 37 ls (vr z :: st) h Q) := R_al rfl (Or.inl rfl)
theorem e_240_37 {x : Nat} : Ev X 240 37 ls (vr x :: st) h Q ↔ (X.1 x = 12 ∧ Ev X 240 38 ls (vr (X.2.2.1 x 5) :: st) h Q) := R_gr rfl
theorem e_240_38 : Ev X 240 38 ls st h Q ↔ Ev X 240 39 ls (vi 4 :: st) h Q := R_kc rfl (Or.inl ⟨Or.inl rfl, by decide⟩)
theorem e_240_39 {x : Nat} {j : Int} : Ev X 240 39 ls (vi j :: vr x :: st) h Q ↔ (((X.1 x = 13 ∨ X.1 x = 20) ∧ 0 ≤ j ∧ j < X.2.1 x) ∧ Ev X 240 40 ls (vi (h.1 x j.toNat) :: st) h Q) := R_ia rfl
theorem e_240_40 {x y : Int} : Ev X 240 40 ls (vi y :: vi x :: st) h Q ↔ ((inR (x * y)) ∧ Ev X 240 41 ls (vi (x * y) :: st) h Q) := R_mul rfl
theorem e_240_41 : Ev X 240 41 ls st h Q ↔ Ev X 240 42 ls (vi 16 :: st) h Q := R_kc rfl (Or.inr (Or.inl ⟨rfl, by decide⟩))
theorem e_240_42 : Ev X 240 42 ls st h Q ↔ onR (gl ls 0) (fun z => Ev X 240 43 ls (vr z :: st) h Q) := R_al rfl (Or.inl rfl)
theorem e_240_43 {x : Nat} : Ev X 240 43 ls (vr x :: st) h Q ↔ (X.1 x = 12 ∧ Ev X 240 44 ls (vr (X.2.2.1 x 14) :: st) h Q) := R_gr rfl
theorem e_240_44 : Ev X 240 44 ls st h Q ↔ onI (gl ls 5) (fun z => Ev X 240 45 ls (vi z :: st) h Q) := R_il rfl (Or.inr rfl)
theorem e_240_45 {x : Nat} {j : Int} : Ev X 240 45 ls (vi j :: vr x :: st) h Q ↔ (((X.1 x = 13 ∨ X.1 x = 20) ∧ 0 ≤ j ∧ j < X.2.1 x) ∧ Ev X 240 46 ls (vi (h.1 x j.toNat) :: st) h Q) := R_ia rfl
theorem e_240_46 {x y : Int} : Ev X 240 46 ls (vi y :: vi x :: st) h Q ↔ ((inR (x * y)) ∧ Ev X 240 47 ls (vi (x * y) :: st) h Q) := R_mul rfl
theorem e_240_47 : Ev X 240 47 ls st h Q ↔ onR (gl ls 0) (fun z => Ev X 240 48 ls (vr z :: st) h Q) := R_al rfl (Or.inl rfl)
theorem e_240_48 {x : Nat} : Ev X 240 48 ls (vr x :: st) h Q ↔ (X.1 x = 12 ∧ Ev X 240 49 ls (vr (X.2.2.1 x 6) :: st) h Q) := R_gr rfl
theorem e_240_49 : Ev X 240 49 ls st h Q ↔ onI (gl ls 1) (fun z => Ev X 240 50 ls (vi z :: st) h Q) := R_il rfl (Or.inl rfl)
theorem e_240_50 {rest : List xV} {a0 : Int} : Ev X 240 50 ls ((vi a0) :: rest) h Q ↔ (wd rest ≤ 8 ∧ Cl X 158 [vi a0] h (fun r h2 => Ev X 240 51 ls (r.toList ++ rest) h2 Q)) := R_cs (as := [vi a0]) (k2 := 158) rfl rfl (Nat.le_of_ble_eq_true rfl)
theorem e_240_51 : Ev X 240 51 ls st h Q ↔ Ev X 240 52 ls (vi 4 :: st) h Q := R_kc rfl (Or.inl ⟨Or.inl rfl, by decide⟩)
theorem e_240_52 {x y : Int} : Ev X 240 52 ls (vi y :: vi x :: st) h Q ↔ ((inR (x + y)) ∧ Ev X 240 53 ls (vi (x + y) :: st) h Q) := R_add rfl
theorem e_240_53 {x : Nat} {j : Int} : Ev X 240 53 ls (vi j :: vr x :: st) h Q ↔ (((X.1 x = 13 ∨ X.1 x = 20) ∧ 0 ≤ j ∧ j < X.2.1 x) ∧ Ev X 240 54 ls (vi (h.1 x j.toNat) :: st) h Q) := R_ia rfl
theorem e_240_54 {rest : List xV} {a0 : Int} {a1 : Int} : Ev X 240 54 ls ((vi a1) :: (vi a0) :: rest) h Q ↔ (wd rest ≤ 8 ∧ Cl X 150 [vi a0, vi a1] h (fun r h2 => Ev X 240 55 ls (r.toList ++ rest) h2 Q)) := R_cs (as := [vi a0, vi a1]) (k2 := 150) rfl rfl (Nat.le_of_ble_eq_true rfl)
theorem e_240_55 {x y : Int} : Ev X 240 55 ls (vi y :: vi x :: st) h Q ↔ ((inR (x * y)) ∧ Ev X 240 56 ls (vi (x * y) :: st) h Q) := R_mul rfl
theorem e_240_56 {x y : Int} : Ev X 240 56 ls (vi y :: vi x :: st) h Q ↔ ((inR (x + y)) ∧ Ev X 240 57 ls (vi (x + y) :: st) h Q) := R_add rfl
theorem e_240_57 {x : Int} : Ev X 240 57 ls (vi x :: st) h Q ↔ (stOK ls 6 = true ∧ Ev X 240 58 (ls.set 6 (some (vi x))) st h Q) := R_is rfl (Or.inr rfl)
theorem e_240_58 : Ev X 240 58 ls st h Q ↔ onR (gl ls 0) (fun z => Ev X 240 59 ls (vr z :: st) h Q) := R_al rfl (Or.inl rfl)
theorem e_240_59 : Ev X 240 59 ls st h Q ↔ onI (gl ls 5) (fun z => Ev X 240 60 ls (vi z :: st) h Q) := R_il rfl (Or.inr rfl)
theorem e_240_60 : Ev X 240 60 ls st h Q ↔ onI (gl ls 2) (fun z => Ev X 240 61 ls (vi z :: st) h Q) := R_il rfl (Or.inl rfl)
theorem e_240_61 : Ev X 240 61 ls st h Q ↔ Ev X 240 62 ls (vi (-1) :: st) h Q := R_kc rfl (Or.inl ⟨Or.inl rfl, by decide⟩)
theorem e_240_62 {rest : List xV} {a0 : Int} {a1 : Int} {a2 : Int} {o : Nat} : Ev X 240 62 ls ((vi a2) :: (vi a1) :: (vi a0) :: vr o :: rest) h Q ↔ ((X.1 o = 12 ∧ wd rest ≤ 8) ∧ Cl X 236 [vr o, vi a0, vi a1, vi a2] h (fun r h2 => Ev X 240 63 ls (r.toList ++ rest) h2 Q)) := R_cv (x := o) (as := [vi a0, vi a1, vi a2]) (k2 := 236) rfl rfl (Nat.le_of_ble_eq_true rfl)
theorem e_240_63 : Ev X 240 63 ls st h Q ↔ onI (gl ls 6) (fun z => Ev X 240 64 ls (vi z :: st) h Q) := R_il rfl (Or.inr rfl)
theorem e_240_64 : Ev X 240 64 ls st h Q ↔ onR (gl ls 0) (fun z => Ev X 240 65 ls (vr z :: st) h Q) := R_al rfl (Or.inl rfl)
theorem e_240_65 : Ev X 240 65 ls st h Q ↔ onI (gl ls 5) (fun z => Ev X 240 66 ls (vi z :: st) h Q) := R_il rfl (Or.inr rfl)
theorem e_240_66 {rest : List xV} {a0 : Int} {o : Nat} : Ev X 240 66 ls ((vi a0) :: vr o :: rest) h Q ↔ ((X.1 o = 12 ∧ wd rest ≤ 8) ∧ Cl X 235 [vr o, vi a0] h (fun r h2 => Ev X 240 67 ls (r.toList ++ rest) h2 Q)) := R_cv (x := o) (as := [vi a0]) (k2 := 235) rfl rfl (Nat.le_of_ble_eq_true rfl)
theorem e_240_67 {x y : Int} : Ev X 240 67 ls (vi y :: vi x :: st) h Q ↔ ((inR (x - y)) ∧ Ev X 240 68 ls (vi (x - y) :: st) h Q) := R_sub rfl
theorem e_240_68 {x : Int} : Ev X 240 68 ls (vi x :: st) h Q ↔ (stOK ls 6 = true ∧ Ev X 240 69 (ls.set 6 (some (vi x))) st h Q) := R_is rfl (Or.inr rfl)
theorem e_240_69 : Ev X 240 69 ls st h Q ↔ onI (gl ls 6) (fun z => Ev X 240 70 ls (vi z :: st) h Q) := R_il rfl (Or.inr rfl)
theorem e_240_70 : Ev X 240 70 ls st h Q ↔ onI (gl ls 4) (fun z => Ev X 240 71 ls (vi z :: st) h Q) := R_il rfl (Or.inr rfl)
theorem e_240_71 {x y : Int} : Ev X 240 71 ls (vi y :: vi x :: st) h Q ↔ (if y ≤ x then Ev X 240 74 ls st h Q else Ev X 240 72 ls st h Q) := R_icge rfl
theorem e_240_72 : Ev X 240 72 ls st h Q ↔ onI (gl ls 5) (fun z => Ev X 240 73 ls (vi z :: st) h Q) := R_il rfl (Or.inr rfl)
theorem e_240_73 : Ev X 240 73 ls st h Q ↔ Ev X 240 75 ls st h Q := R_go rfl
theorem e_240_74 : Ev X 240 74 ls st h Q ↔ onI (gl ls 3) (fun z => Ev X 240 75 ls (vi z :: st) h Q) := R_il rfl (Or.inl rfl)
theorem e_240_75 {x : Int} : Ev X 240 75 ls (vi x :: st) h Q ↔ (stOK ls 3 = true ∧ Ev X 240 76 (ls.set 3 (some (vi x))) st h Q) := R_is rfl (Or.inl rfl)
theorem e_240_76 : Ev X 240 76 ls st h Q ↔ onI (gl ls 6) (fun z => Ev X 240 77 ls (vi z :: st) h Q) := R_il rfl (Or.inr rfl)
theorem e_240_77 : Ev X 240 77 ls st h Q ↔ onI (gl ls 4) (fun z => Ev X 240 78 ls (vi z :: st) h Q) := R_il rfl (Or.inr rfl)
theorem e_240_78 {x y : Int} : Ev X 240 78 ls (vi y :: vi x :: st) h Q ↔ (if y ≤ x then Ev X 240 81 ls st h Q else Ev X 240 79 ls st h Q) := R_icge rfl
theorem e_240_79 : Ev X 240 79 ls st h Q ↔ onI (gl ls 6) (fun z => Ev X 240 80 ls (vi z :: st) h Q) := R_il rfl (Or.inr rfl)
theorem e_240_80 : Ev X 240 80 ls st h Q ↔ Ev X 240 82 ls st h Q := R_go rfl
theorem e_240_81 : Ev X 240 81 ls st h Q ↔ onI (gl ls 4) (fun z => Ev X 240 82 ls (vi z :: st) h Q) := R_il rfl (Or.inr rfl)
theorem e_240_82 {x : Int} : Ev X 240 82 ls (vi x :: st) h Q ↔ (stOK ls 4 = true ∧ Ev X 240 83 (ls.set 4 (some (vi x))) st h Q) := R_is rfl (Or.inr rfl)
theorem e_240_83 : Ev X 240 83 ls st h Q ↔ onI (gl ls 5) (fun x => (stOK ls 5 = true ∧ inR (x + 1)) ∧ Ev X 240 84 (ls.set 5 (some (vi (x + 1)))) st h Q) := R_inc rfl
theorem e_240_84 : Ev X 240 84 ls st h Q ↔ Ev X 240 6 ls st h Q := R_go rfl
theorem e_240_85 : Ev X 240 85 ls st h Q ↔ onI (gl ls 3) (fun z => Ev X 240 86 ls (vi z :: st) h Q) := R_il rfl (Or.inl rfl)
theorem e_240_86 {z : Int} : Ev X 240 86 ls [vi z] h Q ↔ Q (some (vi z)) h := R_ir rfl
-- 241: CellRowsModel.placeRun(I)V
theorem e_241_0 : Ev X 241 0 ls st h Q ↔ onR (gl ls 0) (fun z => Ev X 241 1 ls (vr z :: st) h Q) := R_al rfl (Or.inl rfl)
theorem e_241_1 : Ev X 241 1 ls st h Q ↔ onI (gl ls 1) (fun z => Ev X 241 2 ls (vi z :: st) h Q) := R_il rfl (Or.inl rfl)
theorem e_241_2 : Ev X 241 2 ls st h Q ↔ onR (gl ls 0) (fun z => Ev X 241 3 ls (vr z :: st) h Q) := R_al rfl (Or.inl rfl)
theorem e_241_3 {x : Nat} : Ev X 241 3 ls (vr x :: st) h Q ↔ (X.1 x = 12 ∧ Ev X 241 4 ls (vi (h.2 x 22) :: st) h Q) := R_gi rfl
theorem e_241_4 : Ev X 241 4 ls st h Q ↔ Ev X 241 5 ls (vi (-1) :: st) h Q := R_kc rfl (Or.inl ⟨Or.inl rfl, by decide⟩)
theorem e_241_5 {rest : List xV} {a0 : Int} {a1 : Int} {a2 : Int} {o : Nat} : Ev X 241 5 ls ((vi a2) :: (vi a1) :: (vi a0) :: vr o :: rest) h Q ↔ ((X.1 o = 12 ∧ wd rest ≤ 8) ∧ Cl X 236 [vr o, vi a0, vi a1, vi a2] h (fun r h2 => Ev X 241 6 ls (r.toList ++ rest) h2 Q)) := R_cv (x := o) (as := [vi a0, vi a1, vi a2]) (k2 := 236) rfl rfl (Nat.le_of_ble_eq_true rfl)
theorem e_241_6 : Ev X 241 6 ls st h Q ↔ onR (gl ls 0) (fun z => Ev X 241 7 ls (vr z :: st) h Q) := R_al rfl (Or.inl rfl)
theorem e_241_7 : Ev X 241 7 ls st h Q ↔ onI (gl ls 1) (fun z => Ev X 241 8 ls (vi z :: st) h Q) := R_il rfl (Or.inl rfl)
theorem e_241_8 {rest : List xV} {a0 : Int} {o : Nat} : Ev X 241 8 ls ((vi a0) :: vr o :: rest) h Q ↔ ((X.1 o = 12 ∧ wd rest ≤ 8) ∧ Cl X 235 [vr o, vi a0] h (fun r h2 => Ev X 241 9 ls (r.toList ++ rest) h2 Q)) := R_cv (x := o) (as := [vi a0]) (k2 := 235) rfl rfl (Nat.le_of_ble_eq_true rfl)
theorem e_241_9 {v : xV} : Ev X 241 9 ls (v :: st) h Q ↔ (ct1 v = true ∧ Ev X 241 10 ls st h Q) := R_pop rfl
theorem e_241_10 : Ev X 241 10 ls st h Q ↔ Ev X 241 11 ls (vi 0 :: st) h Q := R_kc rfl (Or.inl ⟨Or.inl rfl, by decide⟩)
theorem e_241_11 {x : Int} : Ev X 241 11 ls (vi x :: st) h Q ↔ (stOK ls 2 = true ∧ Ev X 241 12 (ls.set 2 (some (vi x))) st h Q) := R_is rfl (Or.inl rfl)
theorem e_241_12 : Ev X 241 12 ls st h Q ↔ Ev X 241 13 ls (vi 0 :: st) h Q := R_kc rfl (Or.inl ⟨Or.inl rfl, by decide⟩)
theorem e_241_13 {x : Int} : Ev X 241 13 ls (vi x :: st) h Q ↔ (stOK ls 3 = true ∧ Ev X 241 14 (ls.set 3 (some (vi x))) st h Q) := R_is rfl (Or.inl rfl)
theorem e_241_14 : Ev X 241 14 ls st h Q ↔ onI (gl ls 3) (fun z => Ev X 241 15 ls (vi z :: st) h Q) := R_il rfl (Or.inl rfl)
theorem e_241_15 : Ev X 241 15 ls st h Q ↔ onR (gl ls 0) (fun z => Ev X 241 16 ls (vr z :: st) h Q) := R_al rfl (Or.inl rfl)
theorem e_241_16 {x : Nat} : Ev X 241 16 ls (vr x :: st) h Q ↔ (X.1 x = 12 ∧ Ev X 241 17 ls (vi (h.2 x 25) :: st) h Q) := R_gi rfl
theorem e_241_17 {x y : Int} : Ev X 241 17 ls (vi y :: vi x :: st) h Q ↔ (if y ≤ x then Ev X 241 91 ls st h Q else Ev X 241 18 ls st h Q) := R_icge rfl
theorem e_241_18 : Ev X 241 18 ls st h Q ↔ onR (gl ls 0) (fun z => Ev X 241 19 ls (vr z :: st) h Q) := R_al rfl (Or.inl rfl)
theorem e_241_19 {x : Nat} : Ev X 241 19 ls (vr x :: st) h Q ↔ (X.1 x = 12 ∧ Ev X 241 20 ls (vr (X.2.2.1 x 24) :: st) h Q) := R_gr rfl
theorem e_241_20 : Ev X 241 20 ls st h Q ↔ onI (gl ls 3) (fun z => Ev X 241 21 ls (vi z :: st) h Q) := R_il rfl (Or.inl rfl)
theorem e_241_21 {x : Nat} {j : Int} : Ev X 241 21 ls (vi j :: vr x :: st) h Q ↔ (((X.1 x = 13 ∨ X.1 x = 20) ∧ 0 ≤ j ∧ j < X.2.1 x) ∧ Ev X 241 22 ls (vi (h.1 x j.toNat) :: st) h Q) := R_ia rfl
theorem e_241_22 {x : Int} : Ev X 241 22 ls (vi x :: st) h Q ↔ (stOK ls 4 = true ∧ Ev X 241 23 (ls.set 4 (some (vi x))) st h Q) := R_is rfl (Or.inr rfl)
theorem e_241_23 : Ev X 241 23 ls st h Q ↔ onR (gl ls 0) (fun z => Ev X 241 24 ls (vr z :: st) h Q) := R_al rfl (Or.inl rfl)
theorem e_241_24 {x : Nat} : Ev X 241 24 ls (vr x :: st) h Q ↔ (X.1 x = 12 ∧ Ev X 241 25 ls (vr (X.2.2.1 x 26) :: st) h Q) := R_gr rfl
theorem e_241_25 : Ev X 241 25 ls st h Q ↔ Ev X 241 26 ls (vi 33 :: st) h Q := R_kc rfl (Or.inr (Or.inl ⟨rfl, by decide⟩))
theorem e_241_26 : Ev X 241 26 ls st h Q ↔ onI (gl ls 3) (fun z => Ev X 241 27 ls (vi z :: st) h Q) := R_il rfl (Or.inl rfl)
theorem e_241_27 {x y : Int} : Ev X 241 27 ls (vi y :: vi x :: st) h Q ↔ ((inR (x * y)) ∧ Ev X 241 28 ls (vi (x * y) :: st) h Q) := R_mul rfl
theorem e_241_28 : Ev X 241 28 ls st h Q ↔ onI (gl ls 2) (fun z => Ev X 241 29 ls (vi z :: st) h Q) := R_il rfl (Or.inl rfl)
theorem e_241_29 {x y : Int} : Ev X 241 29 ls (vi y :: vi x :: st) h Q ↔ ((inR (x + y)) ∧ Ev X 241 30 ls (vi (x + y) :: st) h Q) := R_add rfl
theorem e_241_30 {x : Nat} {j : Int} : Ev X 241 30 ls (vi j :: vr x :: st) h Q ↔ (((X.1 x = 13 ∨ X.1 x = 20) ∧ 0 ≤ j ∧ j < X.2.1 x) ∧ Ev X 241 31 ls (vi (h.1 x j.toNat) :: st) h Q) := R_ia rfl
theorem e_241_31 {x : Int} : Ev X 241 31 ls (vi x :: st) h Q ↔ (stOK ls 5 = true ∧ Ev X 241 32 (ls.set 5 (some (vi x))) st h Q) := R_is rfl (Or.inr rfl)
theorem e_241_32 : Ev X 241 32 ls st h Q ↔ onI (gl ls 2) (fun z => Ev X 241 33 ls (vi z :: st) h Q) := R_il rfl (Or.inl rfl)
theorem e_241_33 : Ev X 241 33 ls st h Q ↔ onR (gl ls 0) (fun z => Ev X 241 34 ls (vr z :: st) h Q) := R_al rfl (Or.inl rfl)
theorem e_241_34 : Ev X 241 34 ls st h Q ↔ onI (gl ls 4) (fun z => Ev X 241 35 ls (vi z :: st) h Q) := R_il rfl (Or.inr rfl)
theorem e_241_35 {rest : List xV} {a0 : Int} {o : Nat} : Ev X 241 35 ls ((vi a0) :: vr o :: rest) h Q ↔ ((X.1 o = 12 ∧ wd rest ≤ 8) ∧ Cl X 160 [vr o, vi a0] h (fun r h2 => Ev X 241 36 ls (r.toList ++ rest) h2 Q)) := R_cv (x := o) (as := [vi a0]) (k2 := 160) rfl rfl (Nat.le_of_ble_eq_true rfl)
theorem e_241_36 {x y : Int} : Ev X 241 36 ls (vi y :: vi x :: st) h Q ↔ ((inR (x + y)) ∧ Ev X 241 37 ls (vi (x + y) :: st) h Q) := R_add rfl
theorem e_241_37 : Ev X 241 37 ls st h Q ↔ onR (gl ls 0) (fun z => Ev X 241 38 ls (vr z :: st) h Q) := R_al rfl (Or.inl rfl)
theorem e_241_38 {x : Nat} : Ev X 241 38 ls (vr x :: st) h Q ↔ (X.1 x = 12 ∧ Ev X 241 39 ls (vr (X.2.2.1 x 17) :: st) h Q) := R_gr rfl
theorem e_241_39 : Ev X 241 39 ls st h Q ↔ onI (gl ls 1) (fun z => Ev X 241 40 ls (vi z :: st) h Q) := R_il rfl (Or.inl rfl)
theorem e_241_40 {x : Nat} {j : Int} : Ev X 241 40 ls (vi j :: vr x :: st) h Q ↔ (((X.1 x = 13 ∨ X.1 x = 20) ∧ 0 ≤ j ∧ j < X.2.1 x) ∧ Ev X 241 41 ls (vi (h.1 x j.toNat) :: st) h Q) := R_ia rfl
theorem e_241_41 {x y : Int} : Ev X 241 41 ls (vi y :: vi x :: st) h Q ↔ (if y < x then Ev X 241 68 ls st h Q else Ev X 241 42 ls st h Q) := R_icgt rfl
theorem e_241_42 : Ev X 241 42 ls st h Q ↔ onR (gl ls 0) (fun z => Ev X 241 43 ls (vr z :: st) h Q) := R_al rfl (Or.inl rfl)
theorem e_241_43 : Ev X 241 43 ls st h Q ↔ onI (gl ls 4) (fun z => Ev X 241 44 ls (vi z :: st) h Q) := R_il rfl (Or.inr rfl)
theorem e_241_44 : Ev X 241 44 ls st h Q ↔ onR (gl ls 0) (fun z => Ev X 241 45 ls (vr z :: st) h Q) := R_al rfl (Or.inl rfl)
theorem e_241_45 {x : Nat} : Ev X 241 45 ls (vr x :: st) h Q ↔ (X.1 x = 12 ∧ Ev X 241 46 ls (vr (X.2.2.1 x 16) :: st) h Q) := R_gr rfl
theorem e_241_46 : Ev X 241 46 ls st h Q ↔ onI (gl ls 1) (fun z => Ev X 241 47 ls (vi z :: st) h Q) := R_il rfl (Or.inl rfl)
theorem e_241_47 {x : Nat} {j : Int} : Ev X 241 47 ls (vi j :: vr x :: st) h Q ↔ (((X.1 x = 13 ∨ X.1 x = 20) ∧ 0 ≤ j ∧ j < X.2.1 x) ∧ Ev X 241 48 ls (vi (h.1 x j.toNat) :: st) h Q) := R_ia rfl
theorem e_241_48 : Ev X 241 48 ls st h Q ↔ onI (gl ls 2) (fun z => Ev X 241 49 ls (vi z :: st) h Q) := R_il rfl (Or.inl rfl)
theorem e_241_49 {x y : Int} : Ev X 241 49 ls (vi y :: vi x :: st) h Q ↔ ((inR (x + y)) ∧ Ev X 241 50 ls (vi (x + y) :: st) h Q) := R_add rfl
theorem e_241_50 {rest : List xV} {a0 : Int} {a1 : Int} {o : Nat} : Ev X 241 50 ls ((vi a1) :: (vi a0) :: vr o :: rest) h Q ↔ ((X.1 o = 12 ∧ wd rest ≤ 8) ∧ Cl X 234 [vr o, vi a0, vi a1] h (fun r h2 => Ev X 241 51 ls (r.toList ++ rest) h2 Q)) := R_cv (x := o) (as := [vi a0, vi a1]) (k2 := 234) rfl rfl (Nat.le_of_ble_eq_true rfl)
theorem e_241_51 : Ev X 241 51 ls st h Q ↔ onR (gl ls 0) (fun z => Ev X 241 52 ls (vr z :: st) h Q) := R_al rfl (Or.inl rfl)
theorem e_241_52 {x : Nat} : Ev X 241 52 ls (vr x :: st) h Q ↔ (X.1 x = 12 ∧ Ev X 241 53 ls (vr (X.2.2.1 x 26) :: st) h Q) := R_gr rfl
theorem e_241_53 : Ev X 241 53 ls st h Q ↔ Ev X 241 54 ls (vi 33 :: st) h Q := R_kc rfl (Or.inr (Or.inl ⟨rfl, by decide⟩))
theorem e_241_54 : Ev X 241 54 ls st h Q ↔ onI (gl ls 3) (fun z => Ev X 241 55 ls (vi z :: st) h Q) := R_il rfl (Or.inl rfl)
theorem e_241_55 : Ev X 241 55 ls st h Q ↔ Ev X 241 56 ls (vi 1 :: st) h Q := R_kc rfl (Or.inl ⟨Or.inl rfl, by decide⟩)
theorem e_241_56 {x y : Int} : Ev X 241 56 ls (vi y :: vi x :: st) h Q ↔ ((inR (x + y)) ∧ Ev X 241 57 ls (vi (x + y) :: st) h Q) := R_add rfl
theorem e_241_57 {x y : Int} : Ev X 241 57 ls (vi y :: vi x :: st) h Q ↔ ((inR (x * y)) ∧ Ev X 241 58 ls (vi (x * y) :: st) h Q) := R_mul rfl
theorem e_241_58 : Ev X 241 58 ls st h Q ↔ onI (gl ls 2) (fun z => Ev X 241 59 ls (vi z :: st) h Q) := R_il rfl (Or.inl rfl)
theorem e_241_59 {x y : Int} : Ev X 241 59 ls (vi y :: vi x :: st) h Q ↔ ((inR (x + y)) ∧ Ev X 241 60 ls (vi (x + y) :: st) h Q) := R_add rfl
theorem e_241_60 : Ev X 241 60 ls st h Q ↔ onR (gl ls 0) (fun z => Ev X 241 61 ls (vr z :: st) h Q) := R_al rfl (Or.inl rfl)
theorem e_241_61 : Ev X 241 61 ls st h Q ↔ onI (gl ls 4) (fun z => Ev X 241 62 ls (vi z :: st) h Q) := R_il rfl (Or.inr rfl)
theorem e_241_62 {rest : List xV} {a0 : Int} {o : Nat} : Ev X 241 62 ls ((vi a0) :: vr o :: rest) h Q ↔ ((X.1 o = 12 ∧ wd rest ≤ 8) ∧ Cl X 160 [vr o, vi a0] h (fun r h2 => Ev X 241 63 ls (r.toList ++ rest) h2 Q)) := R_cv (x := o) (as := [vi a0]) (k2 := 160) rfl rfl (Nat.le_of_ble_eq_true rfl)
theorem e_241_63 {x y : Int} : Ev X 241 63 ls (vi y :: vi x :: st) h Q ↔ ((inR (x + y)) ∧ Ev X 241 64 ls (vi (x + y) :: st) h Q) := R_add rfl
theorem e_241_64 {x : Nat} {j : Int} : Ev X 241 64 ls (vi j :: vr x :: st) h Q ↔ (((X.1 x = 13 ∨ X.1 x = 20) ∧ 0 ≤ j ∧ j < X.2.1 x) ∧ Ev X 241 65 ls (vi (h.1 x j.toNat) :: st) h Q) := R_ia rfl
theorem e_241_65 {x y : Int} : Ev X 241 65 ls (vi y :: vi x :: st) h Q ↔ ((inR (x + y)) ∧ Ev X 241 66 ls (vi (x + y) :: st) h Q) := R_add rfl
theorem e_241_66 : Ev X 241 66 ls st h Q ↔ onI (gl ls 5) (fun z => Ev X 241 67 ls (vi z :: st) h Q) := R_il rfl (Or.inr rfl)
theorem e_241_67 {x y : Int} : Ev X 241 67 ls (vi y :: vi x :: st) h Q ↔ (if x = y then Ev X 241 70 ls st h Q else Ev X 241 68 ls st h Q) := R_iceq rfl
theorem e_241_68 : Ev X 241 68 ls st h Q ↔ onI (gl ls 2) (fun x => (stOK ls 2 = true ∧ inR (x + 1)) ∧ Ev X 241 69 (ls.set 2 (some (vi (x + 1)))) st h Q) := R_inc rfl
theorem e_241_69 : Ev X 241 69 ls st h Q ↔ Ev X 241 32 ls st h Q := R_go rfl
theorem e_241_70 : Ev X 241 70 ls st h Q ↔ onR (gl ls 0) (fun z => Ev X 241 71 ls (vr z :: st) h Q) := R_al rfl (Or.inl rfl)
theorem e_241_71 : Ev X 241 71 ls st h Q ↔ onI (gl ls 4) (fun z => Ev X 241 72 ls (vi z :: st) h Q) := R_il rfl (Or.inr rfl)
theorem e_241_72 : Ev X 241 72 ls st h Q ↔ onR (gl ls 0) (fun z => Ev X 241 73 ls (vr z :: st) h Q) := R_al rfl (Or.inl rfl)
theorem e_241_73 {x : Nat} : Ev X 241 73 ls (vr x :: st) h Q ↔ (X.1 x = 12 ∧ Ev X 241 74 ls (vr (X.2.2.1 x 14) :: st) h Q) := R_gr rfl
theorem e_241_74 : Ev X 241 74 ls st h Q ↔ onI (gl ls 1) (fun z => Ev X 241 75 ls (vi z :: st) h Q) := R_il rfl (Or.inl rfl)
theorem e_241_75 {x : Nat} {j : Int} : Ev X 241 75 ls (vi j :: vr x :: st) h Q ↔ (((X.1 x = 13 ∨ X.1 x = 20) ∧ 0 ≤ j ∧ j < X.2.1 x) ∧ Ev X 241 76 ls (vi (h.1 x j.toNat) :: st) h Q) := R_ia rfl
theorem e_241_76 : Ev X 241 76 ls st h Q ↔ onR (gl ls 0) (fun z => Ev X 241 77 ls (vr z :: st) h Q) := R_al rfl (Or.inl rfl)
theorem e_241_77 {x : Nat} : Ev X 241 77 ls (vr x :: st) h Q ↔ (X.1 x = 12 ∧ Ev X 241 78 ls (vr (X.2.2.1 x 16) :: st) h Q) := R_gr rfl
theorem e_241_78 : Ev X 241 78 ls st h Q ↔ onI (gl ls 1) (fun z => Ev X 241 79 ls (vi z :: st) h Q) := R_il rfl (Or.inl rfl)
theorem e_241_79 {x : Nat} {j : Int} : Ev X 241 79 ls (vi j :: vr x :: st) h Q ↔ (((X.1 x = 13 ∨ X.1 x = 20) ∧ 0 ≤ j ∧ j < X.2.1 x) ∧ Ev X 241 80 ls (vi (h.1 x j.toNat) :: st) h Q) := R_ia rfl
theorem e_241_80 : Ev X 241 80 ls st h Q ↔ onI (gl ls 2) (fun z => Ev X 241 81 ls (vi z :: st) h Q) := R_il rfl (Or.inl rfl)
theorem e_241_81 {x y : Int} : Ev X 241 81 ls (vi y :: vi x :: st) h Q ↔ ((inR (x + y)) ∧ Ev X 241 82 ls (vi (x + y) :: st) h Q) := R_add rfl
theorem e_241_82 {rest : List xV} {a0 : Int} {a1 : Int} {a2 : Int} {o : Nat} : Ev X 241 82 ls ((vi a2) :: (vi a1) :: (vi a0) :: vr o :: rest) h Q ↔ ((X.1 o = 12 ∧ wd rest ≤ 8) ∧ Cl X 166 [vr o, vi a0, vi a1, vi a2] h (fun r h2 => Ev X 241 83 ls (r.toList ++ rest) h2 Q)) := R_cv (x := o) (as := [vi a0, vi a1, vi a2]) (k2 := 166) rfl rfl (Nat.le_of_ble_eq_true rfl)
theorem e_241_83 : Ev X 241 83 ls st h Q ↔ onI (gl ls 2) (fun z => Ev X 241 84 ls (vi z :: st) h Q) := R_il rfl (Or.inl rfl)
theorem e_241_84 : Ev X 241 84 ls st h Q ↔ onR (gl ls 0) (fun z => Ev X 241 85 ls (vr z :: st) h Q) := R_al rfl (Or.inl rfl)
theorem e_241_85 : Ev X 241 85 ls st h Q ↔ onI (gl ls 4) (fun z => Ev X 241 86 ls (vi z :: st) h Q) := R_il rfl (Or.inr rfl)
theorem e_241_86 {rest : List xV} {a0 : Int} {o : Nat} : Ev X 241 86 ls ((vi a0) :: vr o :: rest) h Q ↔ ((X.1 o = 12 ∧ wd rest ≤ 8) ∧ Cl X 160 [vr o, vi a0] h (fun r h2 => Ev X 241 87 ls (r.toList ++ rest) h2 Q)) := R_cv (x := o) (as := [vi a0]) (k2 := 160) rfl rfl (Nat.le_of_ble_eq_true rfl)
theorem e_241_87 {x y : Int} : Ev X 241 87 ls (vi y :: vi x :: st) h Q ↔ ((inR (x + y)) ∧ Ev X 241 88 ls (vi (x + y) :: st) h Q) := R_add rfl
theorem e_241_88 {x : Int} : Ev X 241 88 ls (vi x :: st) h Q ↔ (stOK ls 2 = true ∧ Ev X 241 89 (ls.set 2 (some (vi x))) st h Q) := R_is rfl (Or.inl rfl)
theorem e_241_89 : Ev X 241 89 ls st h Q ↔ onI (gl ls 3) (fun x => (stOK ls 3 = true ∧ inR (x + 1)) ∧ Ev X 241 90 (ls.set 3 (some (vi (x + 1)))) st h Q) := R_inc rfl
theorem e_241_90 : Ev X 241 90 ls st h Q ↔ Ev X 241 14 ls st h Q := R_go rfl
theorem e_241_91 : Ev X 241 91 ls [] h Q ↔ Q none h := R_vr rfl
-- 242: CellRowsModel.makeLawful()Z
theorem e_242_0 : Ev X 242 0 ls st h Q ↔ onR (gl ls 0) (fun z => Ev X 242 1 ls (vr z :: st) h Q) := R_al rfl (Or.inl rfl)
theorem e_242_1 {rest : List xV}  {o : Nat} : Ev X 242 1 ls (vr o :: rest) h Q ↔ ((X.1 o = 12 ∧ wd rest ≤ 8) ∧ Cl X 231 [vr o] h (fun r h2 => Ev X 242 2 ls (r.toList ++ rest) h2 Q)) := R_cv (x := o) (as := []) (k2 := 231) rfl rfl (Nat.le_of_ble_eq_true rfl)
theorem e_242_2 : Ev X 242 2 ls st h Q ↔ onR (gl ls 0) (fun z => Ev X 242 3 ls (vr z :: st) h Q) := R_al rfl (Or.inl rfl)
theorem e_242_3 {rest : List xV}  {o : Nat} : Ev X 242 3 ls (vr o :: rest) h Q ↔ ((X.1 o = 12 ∧ wd rest ≤ 8) ∧ Cl X 239 [vr o] h (fun r h2 => Ev X 242 4 ls (r.toList ++ rest) h2 Q)) := R_cv (x := o) (as := []) (k2 := 239) rfl rfl (Nat.le_of_ble_eq_true rfl)
theorem e_242_4 : Ev X 242 4 ls st h Q ↔ Ev X 242 5 ls (vi 0 :: st) h Q := R_kc rfl (Or.inl ⟨Or.inl rfl, by decide⟩)
theorem e_242_5 {x : Int} : Ev X 242 5 ls (vi x :: st) h Q ↔ (stOK ls 1 = true ∧ Ev X 242 6 (ls.set 1 (some (vi x))) st h Q) := R_is rfl (Or.inl rfl)
theorem e_242_6 : Ev X 242 6 ls st h Q ↔ onI (gl ls 1) (fun z => Ev X 242 7 ls (vi z :: st) h Q) := R_il rfl (Or.inl rfl)
theorem e_242_7 : Ev X 242 7 ls st h Q ↔ onR (gl ls 0) (fun z => Ev X 242 8 ls (vr z :: st) h Q) := R_al rfl (Or.inl rfl)
theorem e_242_8 {x : Nat} : Ev X 242 8 ls (vr x :: st) h Q ↔ (X.1 x = 12 ∧ Ev X 242 9 ls (vi (h.2 x 22) :: st) h Q) := R_gi rfl
theorem e_242_9 {x y : Int} : Ev X 242 9 ls (vi y :: vi x :: st) h Q ↔ (if y ≤ x then Ev X 242 18 ls st h Q else Ev X 242 10 ls st h Q) := R_icge rfl
theorem e_242_10 : Ev X 242 10 ls st h Q ↔ onR (gl ls 0) (fun z => Ev X 242 11 ls (vr z :: st) h Q) := R_al rfl (Or.inl rfl)
theorem e_242_11 : Ev X 242 11 ls st h Q ↔ onR (gl ls 0) (fun z => Ev X 242 12 ls (vr z :: st) h Q) := R_al rfl (Or.inl rfl)
theorem e_242_12 {x : Nat} : Ev X 242 12 ls (vr x :: st) h Q ↔ (X.1 x = 12 ∧ Ev X 242 13 ls (vr (X.2.2.1 x 21) :: st) h Q) := R_gr rfl
theorem e_242_13 : Ev X 242 13 ls st h Q ↔ onI (gl ls 1) (fun z => Ev X 242 14 ls (vi z :: st) h Q) := R_il rfl (Or.inl rfl)
theorem e_242_14 {x : Nat} {j : Int} : Ev X 242 14 ls (vi j :: vr x :: st) h Q ↔ (((X.1 x = 13 ∨ X.1 x = 20) ∧ 0 ≤ j ∧ j < X.2.1 x) ∧ Ev X 242 15 ls (vi (h.1 x j.toNat) :: st) h Q) := R_ia rfl
theorem e_242_15 {rest : List xV} {a0 : Int} {o : Nat} : Ev X 242 15 ls ((vi a0) :: vr o :: rest) h Q ↔ ((X.1 o = 12 ∧ wd rest ≤ 8) ∧ Cl X 165 [vr o, vi a0] h (fun r h2 => Ev X 242 16 ls (r.toList ++ rest) h2 Q)) := R_cv (x := o) (as := [vi a0]) (k2 := 165) rfl rfl (Nat.le_of_ble_eq_true rfl)
theorem e_242_16 : Ev X 242 16 ls st h Q ↔ onI (gl ls 1) (fun x => (stOK ls 1 = true ∧ inR (x + 1)) ∧ Ev X 242 17 (ls.set 1 (some (vi (x + 1)))) st h Q) := R_inc rfl
theorem e_242_17 : Ev X 242 17 ls st h Q ↔ Ev X 242 6 ls st h Q := R_go rfl
theorem e_242_18 : Ev X 242 18 ls st h Q ↔ Ev X 242 19 ls (vi 0 :: st) h Q := R_kc rfl (Or.inl ⟨Or.inl rfl, by decide⟩)
theorem e_242_19 {x : Int} : Ev X 242 19 ls (vi x :: st) h Q ↔ (stOK ls 1 = true ∧ Ev X 242 20 (ls.set 1 (some (vi x))) st h Q) := R_is rfl (Or.inl rfl)
theorem e_242_20 : Ev X 242 20 ls st h Q ↔ onI (gl ls 1) (fun z => Ev X 242 21 ls (vi z :: st) h Q) := R_il rfl (Or.inl rfl)
theorem e_242_21 : Ev X 242 21 ls st h Q ↔ onR (gl ls 0) (fun z => Ev X 242 22 ls (vr z :: st) h Q) := R_al rfl (Or.inl rfl)
theorem e_242_22 {x : Nat} : Ev X 242 22 ls (vr x :: st) h Q ↔ (X.1 x = 12 ∧ Ev X 242 23 ls (vi (h.2 x 22) :: st) h Q) := R_gi rfl
theorem e_242_23 {x y : Int} : Ev X 242 23 ls (vi y :: vi x :: st) h Q ↔ (if y ≤ x then Ev X 242 47 ls st h Q else Ev X 242 24 ls st h Q) := R_icge rfl
theorem e_242_24 : Ev X 242 24 ls st h Q ↔ onR (gl ls 0) (fun z => Ev X 242 25 ls (vr z :: st) h Q) := R_al rfl (Or.inl rfl)
theorem e_242_25 : Ev X 242 25 ls st h Q ↔ onR (gl ls 0) (fun z => Ev X 242 26 ls (vr z :: st) h Q) := R_al rfl (Or.inl rfl)
theorem e_242_26 {x : Nat} : Ev X 242 26 ls (vr x :: st) h Q ↔ (X.1 x = 12 ∧ Ev X 242 27 ls (vr (X.2.2.1 x 21) :: st) h Q) := R_gr rfl
theorem e_242_27 : Ev X 242 27 ls st h Q ↔ onI (gl ls 1) (fun z => Ev X 242 28 ls (vi z :: st) h Q) := R_il rfl (Or.inl rfl)
theorem e_242_28 {x : Nat} {j : Int} : Ev X 242 28 ls (vi j :: vr x :: st) h Q ↔ (((X.1 x = 13 ∨ X.1 x = 20) ∧ 0 ≤ j ∧ j < X.2.1 x) ∧ Ev X 242 29 ls (vi (h.1 x j.toNat) :: st) h Q) := R_ia rfl
theorem e_242_29 : Ev X 242 29 ls st h Q ↔ onI (gl ls 1) (fun z => Ev X 242 30 ls (vi z :: st) h Q) := R_il rfl (Or.inl rfl)
theorem e_242_30 {rest : List xV} {a0 : Int} {a1 : Int} {o : Nat} : Ev X 242 30 ls ((vi a1) :: (vi a0) :: vr o :: rest) h Q ↔ ((X.1 o = 12 ∧ wd rest ≤ 8) ∧ Cl X 240 [vr o, vi a0, vi a1] h (fun r h2 => Ev X 242 31 ls (r.toList ++ rest) h2 Q)) := R_cv (x := o) (as := [vi a0, vi a1]) (k2 := 240) rfl rfl (Nat.le_of_ble_eq_true rfl)
theorem e_242_31 {x : Int} : Ev X 242 31 ls (vi x :: st) h Q ↔ (stOK ls 2 = true ∧ Ev X 242 32 (ls.set 2 (some (vi x))) st h Q) := R_is rfl (Or.inl rfl)
theorem e_242_32 : Ev X 242 32 ls st h Q ↔ onI (gl ls 2) (fun z => Ev X 242 33 ls (vi z :: st) h Q) := R_il rfl (Or.inl rfl)
theorem e_242_33 : Ev X 242 33 ls st h Q ↔ Ev X 242 34 ls (vi (-1) :: st) h Q := R_kc rfl (Or.inl ⟨Or.inl rfl, by decide⟩)
theorem e_242_34 {x y : Int} : Ev X 242 34 ls (vi y :: vi x :: st) h Q ↔ (if ¬ x = y then Ev X 242 37 ls st h Q else Ev X 242 35 ls st h Q) := R_icne rfl
theorem e_242_35 : Ev X 242 35 ls st h Q ↔ Ev X 242 36 ls (vi 0 :: st) h Q := R_kc rfl (Or.inl ⟨Or.inl rfl, by decide⟩)
theorem e_242_36 {z : Int} : Ev X 242 36 ls [vi z] h Q ↔ ((z = 0 ∨ z = 1) ∧ Q (some (vi z)) h) := R_zr rfl
theorem e_242_37 : Ev X 242 37 ls st h Q ↔ onR (gl ls 0) (fun z => Ev X 242 38 ls (vr z :: st) h Q) := R_al rfl (Or.inl rfl)
theorem e_242_38 {x : Nat} : Ev X 242 38 ls (vr x :: st) h Q ↔ (X.1 x = 12 ∧ Ev X 242 39 ls (vr (X.2.2.1 x 23) :: st) h Q) := R_gr rfl
theorem e_242_39 : Ev X 242 39 ls st h Q ↔ onR (gl ls 0) (fun z => Ev X 242 40 ls (vr z :: st) h Q) := R_al rfl (Or.inl rfl)
theorem e_242_40 {x : Nat} : Ev X 242 40 ls (vr x :: st) h Q ↔ (X.1 x = 12 ∧ Ev X 242 41 ls (vr (X.2.2.1 x 21) :: st) h Q) := R_gr rfl
theorem e_242_41 : Ev X 242 41 ls st h Q ↔ onI (gl ls 1) (fun z => Ev X 242 42 ls (vi z :: st) h Q) := R_il rfl (Or.inl rfl)
theorem e_242_42 {x : Nat} {j : Int} : Ev X 242 42 ls (vi j :: vr x :: st) h Q ↔ (((X.1 x = 13 ∨ X.1 x = 20) ∧ 0 ≤ j ∧ j < X.2.1 x) ∧ Ev X 242 43 ls (vi (h.1 x j.toNat) :: st) h Q) := R_ia rfl
theorem e_242_43 : Ev X 242 43 ls st h Q ↔ onI (gl ls 2) (fun z => Ev X 242 44 ls (vi z :: st) h Q) := R_il rfl (Or.inl rfl)
theorem e_242_44 {x : Nat} {j v : Int} : Ev X 242 44 ls (vi v :: vi j :: vr x :: st) h Q ↔ ((X.1 x = 13 ∧ 0 ≤ j ∧ j < X.2.1 x) ∧ Ev X 242 45 ls st (up2 h.1 x j.toNat v, h.2) Q) := R_ias rfl
theorem e_242_45 : Ev X 242 45 ls st h Q ↔ onI (gl ls 1) (fun x => (stOK ls 1 = true ∧ inR (x + 1)) ∧ Ev X 242 46 (ls.set 1 (some (vi (x + 1)))) st h Q) := R_inc rfl
theorem e_242_46 : Ev X 242 46 ls st h Q ↔ Ev X 242 20 ls st h Q := R_go rfl
theorem e_242_47 : Ev X 242 47 ls st h Q ↔ Ev X 242 48 ls (vi 0 :: st) h Q := R_kc rfl (Or.inl ⟨Or.inl rfl, by decide⟩)
theorem e_242_48 {x : Int} : Ev X 242 48 ls (vi x :: st) h Q ↔ (stOK ls 1 = true ∧ Ev X 242 49 (ls.set 1 (some (vi x))) st h Q) := R_is rfl (Or.inl rfl)
theorem e_242_49 : Ev X 242 49 ls st h Q ↔ onI (gl ls 1) (fun z => Ev X 242 50 ls (vi z :: st) h Q) := R_il rfl (Or.inl rfl)
theorem e_242_50 : Ev X 242 50 ls st h Q ↔ onR (gl ls 0) (fun z => Ev X 242 51 ls (vr z :: st) h Q) := R_al rfl (Or.inl rfl)
theorem e_242_51 {x : Nat} : Ev X 242 51 ls (vr x :: st) h Q ↔ (X.1 x = 12 ∧ Ev X 242 52 ls (vi (h.2 x 18) :: st) h Q) := R_gi rfl
theorem e_242_52 {x y : Int} : Ev X 242 52 ls (vi y :: vi x :: st) h Q ↔ (if y ≤ x then Ev X 242 58 ls st h Q else Ev X 242 53 ls st h Q) := R_icge rfl
theorem e_242_53 : Ev X 242 53 ls st h Q ↔ onR (gl ls 0) (fun z => Ev X 242 54 ls (vr z :: st) h Q) := R_al rfl (Or.inl rfl)
theorem e_242_54 : Ev X 242 54 ls st h Q ↔ onI (gl ls 1) (fun z => Ev X 242 55 ls (vi z :: st) h Q) := R_il rfl (Or.inl rfl)
theorem e_242_55 {rest : List xV} {a0 : Int} {o : Nat} : Ev X 242 55 ls ((vi a0) :: vr o :: rest) h Q ↔ ((X.1 o = 12 ∧ wd rest ≤ 8) ∧ Cl X 241 [vr o, vi a0] h (fun r h2 => Ev X 242 56 ls (r.toList ++ rest) h2 Q)) := R_cv (x := o) (as := [vi a0]) (k2 := 241) rfl rfl (Nat.le_of_ble_eq_true rfl)
theorem e_242_56 : Ev X 242 56 ls st h Q ↔ onI (gl ls 1) (fun x => (stOK ls 1 = true ∧ inR (x + 1)) ∧ Ev X 242 57 (ls.set 1 (some (vi (x + 1)))) st h Q) := R_inc rfl
theorem e_242_57 : Ev X 242 57 ls st h Q ↔ Ev X 242 49 ls st h Q := R_go rfl
theorem e_242_58 : Ev X 242 58 ls st h Q ↔ Ev X 242 59 ls (vi 1 :: st) h Q := R_kc rfl (Or.inl ⟨Or.inl rfl, by decide⟩)
theorem e_242_59 {z : Int} : Ev X 242 59 ls [vi z] h Q ↔ ((z = 0 ∨ z = 1) ∧ Q (some (vi z)) h) := R_zr rfl
-- 243: CellRowsModel.looseMoves()I
theorem e_243_0 : Ev X 243 0 ls st h Q ↔ Ev X 243 1 ls (vi 0 :: st) h Q := R_kc rfl (Or.inl ⟨Or.inl rfl, by decide⟩)
theorem e_243_1 {x : Int} : Ev X 243 1 ls (vi x :: st) h Q ↔ (stOK ls 1 = true ∧ Ev X 243 2 (ls.set 1 (some (vi x))) st h Q) := R_is rfl (Or.inl rfl)
theorem e_243_2 : Ev X 243 2 ls st h Q ↔ Ev X 243 3 ls (vi 0 :: st) h Q := R_kc rfl (Or.inl ⟨Or.inl rfl, by decide⟩)
theorem e_243_3 {x : Int} : Ev X 243 3 ls (vi x :: st) h Q ↔ (stOK ls 2 = true ∧ Ev X 243 4 (ls.set 2 (some (vi x))) st h Q) := R_is rfl (Or.inl rfl)
theorem e_243_4 : Ev X 243 4 ls st h Q ↔ onI (gl ls 2) (fun z => Ev X 243 5 ls (vi z :: st) h Q) := R_il rfl (Or.inl rfl)
theorem e_243_5 : Ev X 243 5 ls st h Q ↔ onR (gl ls 0) (fun z => Ev X 243 6 ls (vr z :: st) h Q) := R_al rfl (Or.inl rfl)
theorem e_243_6 {x : Nat} : Ev X 243 6 ls (vr x :: st) h Q ↔ (X.1 x = 12 ∧ Ev X 243 7 ls (vr (X.2.2.1 x 6) :: st) h Q) := R_gr rfl
theorem e_243_7 : Ev X 243 7 ls st h Q ↔ Ev X 243 8 ls (vi 2 :: st) h Q := R_kc rfl (Or.inl ⟨Or.inl rfl, by decide⟩)
theorem e_243_8 {x : Nat} {j : Int} : Ev X 243 8 ls (vi j :: vr x :: st) h Q ↔ (((X.1 x = 13 ∨ X.1 x = 20) ∧ 0 ≤ j ∧ j < X.2.1 x) ∧ Ev X 243 9 ls (vi (h.1 x j.toNat) :: st) h Q) := R_ia rfl
theorem e_243_9 {x y : Int} : Ev X 243 9 ls (vi y :: vi x :: st) h Q ↔ (if y ≤ x then Ev X 243 24 ls st h Q else Ev X 243 10 ls st h Q) := R_icge rfl
theorem e_243_10 : Ev X 243 10 ls st h Q ↔ onI (gl ls 1) (fun z => Ev X 243 11 ls (vi z :: st) h Q) := R_il rfl (Or.inl rfl)
theorem e_243_11 : Ev X 243 11 ls st h Q ↔ onR (gl ls 0) (fun z => Ev X 243 12 ls (vr z :: st) h Q) := R_al rfl (Or.inl rfl)
theorem e_243_12 : Ev X 243 12 ls st h Q ↔ onI (gl ls 2) (fun z => Ev X 243 13 ls (vi z :: st) h Q) := R_il rfl (Or.inl rfl)
theorem e_243_13 {rest : List xV} {a0 : Int} {o : Nat} : Ev X 243 13 ls ((vi a0) :: vr o :: rest) h Q ↔ ((X.1 o = 12 ∧ wd rest ≤ 8) ∧ Cl X 164 [vr o, vi a0] h (fun r h2 => Ev X 243 14 ls (r.toList ++ rest) h2 Q)) := R_cv (x := o) (as := [vi a0]) (k2 := 164) rfl rfl (Nat.le_of_ble_eq_true rfl)
theorem e_243_14 {x : Int} : Ev X 243 14 ls (vi x :: st) h Q ↔ (if x = 0 then Ev X 243 19 ls st h Q else Ev X 243 15 ls st h Q) := R_ifeq rfl
theorem e_243_15 : Ev X 243 15 ls st h Q ↔ onR (gl ls 0) (fun z => Ev X 243 16 ls (vr z :: st) h Q) := R_al rfl (Or.inl rfl)
theorem e_243_16 : Ev X 243 16 ls st h Q ↔ onI (gl ls 2) (fun z => Ev X 243 17 ls (vi z :: st) h Q) := R_il rfl (Or.inl rfl)
theorem e_243_17 {rest : List xV} {a0 : Int} {o : Nat} : Ev X 243 17 ls ((vi a0) :: vr o :: rest) h Q ↔ ((X.1 o = 12 ∧ wd rest ≤ 8) ∧ Cl X 220 [vr o, vi a0] h (fun r h2 => Ev X 243 18 ls (r.toList ++ rest) h2 Q)) := R_cv (x := o) (as := [vi a0]) (k2 := 220) rfl rfl (Nat.le_of_ble_eq_true rfl)
theorem e_243_18 : Ev X 243 18 ls st h Q ↔ Ev X 243 20 ls st h Q := R_go rfl
theorem e_243_19 : Ev X 243 19 ls st h Q ↔ Ev X 243 20 ls (vi 0 :: st) h Q := R_kc rfl (Or.inl ⟨Or.inl rfl, by decide⟩)
theorem e_243_20 {x y : Int} : Ev X 243 20 ls (vi y :: vi x :: st) h Q ↔ ((inR (x + y)) ∧ Ev X 243 21 ls (vi (x + y) :: st) h Q) := R_add rfl
theorem e_243_21 {x : Int} : Ev X 243 21 ls (vi x :: st) h Q ↔ (stOK ls 1 = true ∧ Ev X 243 22 (ls.set 1 (some (vi x))) st h Q) := R_is rfl (Or.inl rfl)
theorem e_243_22 : Ev X 243 22 ls st h Q ↔ onI (gl ls 2) (fun x => (stOK ls 2 = true ∧ inR (x + 1)) ∧ Ev X 243 23 (ls.set 2 (some (vi (x + 1)))) st h Q) := R_inc rfl
theorem e_243_23 : Ev X 243 23 ls st h Q ↔ Ev X 243 4 ls st h Q := R_go rfl
theorem e_243_24 : Ev X 243 24 ls st h Q ↔ onI (gl ls 1) (fun z => Ev X 243 25 ls (vi z :: st) h Q) := R_il rfl (Or.inl rfl)
theorem e_243_25 {z : Int} : Ev X 243 25 ls [vi z] h Q ↔ Q (some (vi z)) h := R_ir rfl
-- 244: CellRowsModel.legal()I
theorem e_244_0 : Ev X 244 0 ls st h Q ↔ onR (gl ls 0) (fun z => Ev X 244 1 ls (vr z :: st) h Q) := R_al rfl (Or.inl rfl)
theorem e_244_1 : Ev X 244 1 ls st h Q ↔ Ev X 244 2 ls (vi 0 :: st) h Q := R_kc rfl (Or.inl ⟨Or.inl rfl, by decide⟩)
theorem e_244_2 {x : Nat} {v : Int} : Ev X 244 2 ls (vi v :: vr x :: st) h Q ↔ (X.1 x = 12 ∧ Ev X 244 3 ls st (h.1, up2 h.2 x 0 v) Q) := R_pi rfl
theorem e_244_3 : Ev X 244 3 ls st h Q ↔ onR (gl ls 0) (fun z => Ev X 244 4 ls (vr z :: st) h Q) := R_al rfl (Or.inl rfl)
theorem e_244_4 {x : Nat} : Ev X 244 4 ls (vr x :: st) h Q ↔ (X.1 x = 12 ∧ Ev X 244 5 ls (vr (X.2.2.1 x 6) :: st) h Q) := R_gr rfl
theorem e_244_5 : Ev X 244 5 ls st h Q ↔ Ev X 244 6 ls (vi 0 :: st) h Q := R_kc rfl (Or.inl ⟨Or.inl rfl, by decide⟩)
theorem e_244_6 : Ev X 244 6 ls st h Q ↔ onR (gl ls 0) (fun z => Ev X 244 7 ls (vr z :: st) h Q) := R_al rfl (Or.inl rfl)
theorem e_244_7 {x : Nat} : Ev X 244 7 ls (vr x :: st) h Q ↔ (X.1 x = 12 ∧ Ev X 244 8 ls (vr (X.2.2.1 x 10) :: st) h Q) := R_gr rfl
theorem e_244_8 : Ev X 244 8 ls st h Q ↔ Ev X 244 9 ls (vi 0 :: st) h Q := R_kc rfl (Or.inl ⟨Or.inl rfl, by decide⟩)
theorem e_244_9 {rest : List xV} {a0 : Nat} {a1 : Int} {a2 : Nat} {a3 : Int} : Ev X 244 9 ls ((vi a3) :: (vr a2) :: (vi a1) :: (vr a0) :: rest) h Q ↔ (wd rest ≤ 8 ∧ Cl X 155 [vr a0, vi a1, vr a2, vi a3] h (fun r h2 => Ev X 244 10 ls (r.toList ++ rest) h2 Q)) := R_cs (as := [vr a0, vi a1, vr a2, vi a3]) (k2 := 155) rfl rfl (Nat.le_of_ble_eq_true rfl)
theorem e_244_10 : Ev X 244 10 ls st h Q ↔ onR (gl ls 0) (fun z => Ev X 244 11 ls (vr z :: st) h Q) := R_al rfl (Or.inl rfl)
theorem e_244_11 {rest : List xV}  {o : Nat} : Ev X 244 11 ls (vr o :: rest) h Q ↔ ((X.1 o = 12 ∧ wd rest ≤ 8) ∧ Cl X 242 [vr o] h (fun r h2 => Ev X 244 12 ls (r.toList ++ rest) h2 Q)) := R_cv (x := o) (as := []) (k2 := 242) rfl rfl (Nat.le_of_ble_eq_true rfl)
theorem e_244_12 {x : Int} : Ev X 244 12 ls (vi x :: st) h Q ↔ (if ¬ x = 0 then Ev X 244 24 ls st h Q else Ev X 244 13 ls st h Q) := R_ifne rfl
theorem e_244_13 : Ev X 244 13 ls st h Q ↔ onR (gl ls 0) (fun z => Ev X 244 14 ls (vr z :: st) h Q) := R_al rfl (Or.inl rfl)
theorem e_244_14 {x : Nat} : Ev X 244 14 ls (vr x :: st) h Q ↔ (X.1 x = 12 ∧ Ev X 244 15 ls (vr (X.2.2.1 x 10) :: st) h Q) := R_gr rfl
theorem e_244_15 : Ev X 244 15 ls st h Q ↔ Ev X 244 16 ls (vi 0 :: st) h Q := R_kc rfl (Or.inl ⟨Or.inl rfl, by decide⟩)
theorem e_244_16 : Ev X 244 16 ls st h Q ↔ onR (gl ls 0) (fun z => Ev X 244 17 ls (vr z :: st) h Q) := R_al rfl (Or.inl rfl)
theorem e_244_17 {x : Nat} : Ev X 244 17 ls (vr x :: st) h Q ↔ (X.1 x = 12 ∧ Ev X 244 18 ls (vr (X.2.2.1 x 6) :: st) h Q) := R_gr rfl
theorem e_244_18 : Ev X 244 18 ls st h Q ↔ Ev X 244 19 ls (vi 0 :: st) h Q := R_kc rfl (Or.inl ⟨Or.inl rfl, by decide⟩)
theorem e_244_19 {rest : List xV} {a0 : Nat} {a1 : Int} {a2 : Nat} {a3 : Int} : Ev X 244 19 ls ((vi a3) :: (vr a2) :: (vi a1) :: (vr a0) :: rest) h Q ↔ (wd rest ≤ 8 ∧ Cl X 155 [vr a0, vi a1, vr a2, vi a3] h (fun r h2 => Ev X 244 20 ls (r.toList ++ rest) h2 Q)) := R_cs (as := [vr a0, vi a1, vr a2, vi a3]) (k2 := 155) rfl rfl (Nat.le_of_ble_eq_true rfl)
theorem e_244_20 : Ev X 244 20 ls st h Q ↔ onR (gl ls 0) (fun z => Ev X 244 21 ls (vr z :: st) h Q) := R_al rfl (Or.inl rfl)
theorem e_244_21 : Ev X 244 21 ls st h Q ↔ Ev X 244 22 ls (vi (-5) :: st) h Q := R_kc rfl (Or.inr (Or.inl ⟨rfl, by decide⟩))
theorem e_244_22 {rest : List xV} {a0 : Int} {o : Nat} : Ev X 244 22 ls ((vi a0) :: vr o :: rest) h Q ↔ ((X.1 o = 12 ∧ wd rest ≤ 8) ∧ Cl X 154 [vr o, vi a0] h (fun r h2 => Ev X 244 23 ls (r.toList ++ rest) h2 Q)) := R_cv (x := o) (as := [vi a0]) (k2 := 154) rfl rfl (Nat.le_of_ble_eq_true rfl)
theorem e_244_23 {z : Int} : Ev X 244 23 ls [vi z] h Q ↔ Q (some (vi z)) h := R_ir rfl
theorem e_244_24 : Ev X 244 24 ls st h Q ↔ onR (gl ls 0) (fun z => Ev X 244 25 ls (vr z :: st) h Q) := R_al rfl (Or.inl rfl)
theorem e_244_25 {rest : List xV}  {o : Nat} : Ev X 244 25 ls (vr o :: rest) h Q ↔ ((X.1 o = 12 ∧ wd rest ≤ 8) ∧ Cl X 243 [vr o] h (fun r h2 => Ev X 244 26 ls (r.toList ++ rest) h2 Q)) := R_cv (x := o) (as := []) (k2 := 243) rfl rfl (Nat.le_of_ble_eq_true rfl)
theorem e_244_26 {x : Int} : Ev X 244 26 ls (vi x :: st) h Q ↔ (stOK ls 1 = true ∧ Ev X 244 27 (ls.set 1 (some (vi x))) st h Q) := R_is rfl (Or.inl rfl)
theorem e_244_27 : Ev X 244 27 ls st h Q ↔ onR (gl ls 0) (fun z => Ev X 244 28 ls (vr z :: st) h Q) := R_al rfl (Or.inl rfl)
theorem e_244_28 {x : Nat} : Ev X 244 28 ls (vr x :: st) h Q ↔ (X.1 x = 12 ∧ Ev X 244 29 ls (vr (X.2.2.1 x 6) :: st) h Q) := R_gr rfl
theorem e_244_29 : Ev X 244 29 ls st h Q ↔ Ev X 244 30 ls (vi 0 :: st) h Q := R_kc rfl (Or.inl ⟨Or.inl rfl, by decide⟩)
theorem e_244_30 : Ev X 244 30 ls st h Q ↔ onR (gl ls 0) (fun z => Ev X 244 31 ls (vr z :: st) h Q) := R_al rfl (Or.inl rfl)
theorem e_244_31 {x : Nat} : Ev X 244 31 ls (vr x :: st) h Q ↔ (X.1 x = 12 ∧ Ev X 244 32 ls (vr (X.2.2.1 x 11) :: st) h Q) := R_gr rfl
theorem e_244_32 : Ev X 244 32 ls st h Q ↔ Ev X 244 33 ls (vi 0 :: st) h Q := R_kc rfl (Or.inl ⟨Or.inl rfl, by decide⟩)
theorem e_244_33 {rest : List xV} {a0 : Nat} {a1 : Int} {a2 : Nat} {a3 : Int} : Ev X 244 33 ls ((vi a3) :: (vr a2) :: (vi a1) :: (vr a0) :: rest) h Q ↔ (wd rest ≤ 8 ∧ Cl X 155 [vr a0, vi a1, vr a2, vi a3] h (fun r h2 => Ev X 244 34 ls (r.toList ++ rest) h2 Q)) := R_cs (as := [vr a0, vi a1, vr a2, vi a3]) (k2 := 155) rfl rfl (Nat.le_of_ble_eq_true rfl)
theorem e_244_34 : Ev X 244 34 ls st h Q ↔ onR (gl ls 0) (fun z => Ev X 244 35 ls (vr z :: st) h Q) := R_al rfl (Or.inl rfl)
theorem e_244_35 {x : Nat} : Ev X 244 35 ls (vr x :: st) h Q ↔ (X.1 x = 12 ∧ Ev X 244 36 ls (vr (X.2.2.1 x 10) :: st) h Q) := R_gr rfl
theorem e_244_36 : Ev X 244 36 ls st h Q ↔ Ev X 244 37 ls (vi 0 :: st) h Q := R_kc rfl (Or.inl ⟨Or.inl rfl, by decide⟩)
theorem e_244_37 : Ev X 244 37 ls st h Q ↔ onR (gl ls 0) (fun z => Ev X 244 38 ls (vr z :: st) h Q) := R_al rfl (Or.inl rfl)
theorem e_244_38 {x : Nat} : Ev X 244 38 ls (vr x :: st) h Q ↔ (X.1 x = 12 ∧ Ev X 244 39 ls (vr (X.2.2.1 x 6) :: st) h Q) := R_gr rfl
theorem e_244_39 : Ev X 244 39 ls st h Q ↔ Ev X 244 40 ls (vi 0 :: st) h Q := R_kc rfl (Or.inl ⟨Or.inl rfl, by decide⟩)
theorem e_244_40 {rest : List xV} {a0 : Nat} {a1 : Int} {a2 : Nat} {a3 : Int} : Ev X 244 40 ls ((vi a3) :: (vr a2) :: (vi a1) :: (vr a0) :: rest) h Q ↔ (wd rest ≤ 8 ∧ Cl X 155 [vr a0, vi a1, vr a2, vi a3] h (fun r h2 => Ev X 244 41 ls (r.toList ++ rest) h2 Q)) := R_cs (as := [vr a0, vi a1, vr a2, vi a3]) (k2 := 155) rfl rfl (Nat.le_of_ble_eq_true rfl)
theorem e_244_41 : Ev X 244 41 ls st h Q ↔ onR (gl ls 0) (fun z => Ev X 244 42 ls (vr z :: st) h Q) := R_al rfl (Or.inl rfl)
theorem e_244_42 : Ev X 244 42 ls st h Q ↔ Ev X 244 43 ls (vi 12 :: st) h Q := R_kc rfl (Or.inr (Or.inl ⟨rfl, by decide⟩))
theorem e_244_43 {rest : List xV} {a0 : Int} {o : Nat} : Ev X 244 43 ls ((vi a0) :: vr o :: rest) h Q ↔ ((X.1 o = 12 ∧ wd rest ≤ 8) ∧ Cl X 156 [vr o, vi a0] h (fun r h2 => Ev X 244 44 ls (r.toList ++ rest) h2 Q)) := R_cv (x := o) (as := [vi a0]) (k2 := 156) rfl rfl (Nat.le_of_ble_eq_true rfl)
theorem e_244_44 : Ev X 244 44 ls st h Q ↔ onR (gl ls 0) (fun z => Ev X 244 45 ls (vr z :: st) h Q) := R_al rfl (Or.inl rfl)
theorem e_244_45 {x : Nat} : Ev X 244 45 ls (vr x :: st) h Q ↔ (X.1 x = 12 ∧ Ev X 244 46 ls (vr (X.2.2.1 x 11) :: st) h Q) := R_gr rfl
theorem e_244_46 : Ev X 244 46 ls st h Q ↔ Ev X 244 47 ls (vi 0 :: st) h Q := R_kc rfl (Or.inl ⟨Or.inl rfl, by decide⟩)
theorem e_244_47 : Ev X 244 47 ls st h Q ↔ onR (gl ls 0) (fun z => Ev X 244 48 ls (vr z :: st) h Q) := R_al rfl (Or.inl rfl)
theorem e_244_48 {x : Nat} : Ev X 244 48 ls (vr x :: st) h Q ↔ (X.1 x = 12 ∧ Ev X 244 49 ls (vr (X.2.2.1 x 6) :: st) h Q) := R_gr rfl
theorem e_244_49 : Ev X 244 49 ls st h Q ↔ Ev X 244 50 ls (vi 0 :: st) h Q := R_kc rfl (Or.inl ⟨Or.inl rfl, by decide⟩)
theorem e_244_50 {rest : List xV} {a0 : Nat} {a1 : Int} {a2 : Nat} {a3 : Int} : Ev X 244 50 ls ((vi a3) :: (vr a2) :: (vi a1) :: (vr a0) :: rest) h Q ↔ (wd rest ≤ 8 ∧ Cl X 155 [vr a0, vi a1, vr a2, vi a3] h (fun r h2 => Ev X 244 51 ls (r.toList ++ rest) h2 Q)) := R_cs (as := [vr a0, vi a1, vr a2, vi a3]) (k2 := 155) rfl rfl (Nat.le_of_ble_eq_true rfl)
theorem e_244_51 : Ev X 244 51 ls st h Q ↔ onR (gl ls 0) (fun z => Ev X 244 52 ls (vr z :: st) h Q) := R_al rfl (Or.inl rfl)
theorem e_244_52 : Ev X 244 52 ls st h Q ↔ onI (gl ls 1) (fun z => Ev X 244 53 ls (vi z :: st) h Q) := R_il rfl (Or.inl rfl)
theorem e_244_53 {rest : List xV} {a0 : Int} {o : Nat} : Ev X 244 53 ls ((vi a0) :: vr o :: rest) h Q ↔ ((X.1 o = 12 ∧ wd rest ≤ 8) ∧ Cl X 153 [vr o, vi a0] h (fun r h2 => Ev X 244 54 ls (r.toList ++ rest) h2 Q)) := R_cv (x := o) (as := [vi a0]) (k2 := 153) rfl rfl (Nat.le_of_ble_eq_true rfl)
theorem e_244_54 {z : Int} : Ev X 244 54 ls [vi z] h Q ↔ Q (some (vi z)) h := R_ir rfl
-- 245: CellRowsModel.lawfully(I)I
theorem e_245_0 : Ev X 245 0 ls st h Q ↔ onR (gl ls 0) (fun z => Ev X 245 1 ls (vr z :: st) h Q) := R_al rfl (Or.inl rfl)
theorem e_245_1 : Ev X 245 1 ls st h Q ↔ Ev X 245 2 ls (vi 0 :: st) h Q := R_kc rfl (Or.inl ⟨Or.inl rfl, by decide⟩)
theorem e_245_2 {x : Nat} {v : Int} : Ev X 245 2 ls (vi v :: vr x :: st) h Q ↔ (X.1 x = 12 ∧ Ev X 245 3 ls st (h.1, up2 h.2 x 0 v) Q) := R_pi rfl
theorem e_245_3 : Ev X 245 3 ls st h Q ↔ onI (gl ls 1) (fun z => Ev X 245 4 ls (vi z :: st) h Q) := R_il rfl (Or.inl rfl)
theorem e_245_4 {x : Int} : Ev X 245 4 ls (vi x :: st) h Q ↔ Ev X 245 5 ls (vl x :: st) h Q := R_i2l rfl
theorem e_245_5 : Ev X 245 5 ls st h Q ↔ Ev X 245 6 ls (vl 0 :: st) h Q := R_lc rfl ⟨Or.inl rfl, by decide⟩
theorem e_245_6 : Ev X 245 6 ls st h Q ↔ Ev X 245 7 ls (vl 1 :: st) h Q := R_lc rfl ⟨Or.inl rfl, by decide⟩
theorem e_245_7 {rest : List xV} {a0 : Int} {a1 : Int} {a2 : Int} : Ev X 245 7 ls ((vl a2) :: (vl a1) :: (vl a0) :: rest) h Q ↔ (wd rest ≤ 8 ∧ Cl X 149 [vl a0, vl a1, vl a2] h (fun r h2 => Ev X 245 8 ls (r.toList ++ rest) h2 Q)) := R_cs (as := [vl a0, vl a1, vl a2]) (k2 := 149) rfl rfl (Nat.le_of_ble_eq_true rfl)
theorem e_245_8 {x : Int} : Ev X 245 8 ls (vi x :: st) h Q ↔ (if ¬ x = 0 then Ev X 245 11 ls st h Q else Ev X 245 9 ls st h Q) := R_ifne rfl
theorem e_245_9 : Ev X 245 9 ls st h Q ↔ Ev X 245 10 ls (vi (-1) :: st) h Q := R_kc rfl (Or.inl ⟨Or.inl rfl, by decide⟩)
theorem e_245_10 {z : Int} : Ev X 245 10 ls [vi z] h Q ↔ Q (some (vi z)) h := R_ir rfl
theorem e_245_11 : Ev X 245 11 ls st h Q ↔ onR (gl ls 0) (fun z => Ev X 245 12 ls (vr z :: st) h Q) := R_al rfl (Or.inl rfl)
theorem e_245_12 {x : Nat} : Ev X 245 12 ls (vr x :: st) h Q ↔ (X.1 x = 12 ∧ Ev X 245 13 ls (vr (X.2.2.1 x 6) :: st) h Q) := R_gr rfl
theorem e_245_13 : Ev X 245 13 ls st h Q ↔ Ev X 245 14 ls (vi 0 :: st) h Q := R_kc rfl (Or.inl ⟨Or.inl rfl, by decide⟩)
theorem e_245_14 : Ev X 245 14 ls st h Q ↔ onR (gl ls 0) (fun z => Ev X 245 15 ls (vr z :: st) h Q) := R_al rfl (Or.inl rfl)
theorem e_245_15 {x : Nat} : Ev X 245 15 ls (vr x :: st) h Q ↔ (X.1 x = 12 ∧ Ev X 245 16 ls (vr (X.2.2.1 x 10) :: st) h Q) := R_gr rfl
theorem e_245_16 : Ev X 245 16 ls st h Q ↔ Ev X 245 17 ls (vi 0 :: st) h Q := R_kc rfl (Or.inl ⟨Or.inl rfl, by decide⟩)
theorem e_245_17 {rest : List xV} {a0 : Nat} {a1 : Int} {a2 : Nat} {a3 : Int} : Ev X 245 17 ls ((vi a3) :: (vr a2) :: (vi a1) :: (vr a0) :: rest) h Q ↔ (wd rest ≤ 8 ∧ Cl X 155 [vr a0, vi a1, vr a2, vi a3] h (fun r h2 => Ev X 245 18 ls (r.toList ++ rest) h2 Q)) := R_cs (as := [vr a0, vi a1, vr a2, vi a3]) (k2 := 155) rfl rfl (Nat.le_of_ble_eq_true rfl)
theorem e_245_18 : Ev X 245 18 ls st h Q ↔ onR (gl ls 0) (fun z => Ev X 245 19 ls (vr z :: st) h Q) := R_al rfl (Or.inl rfl)
theorem e_245_19 {rest : List xV}  {o : Nat} : Ev X 245 19 ls (vr o :: rest) h Q ↔ ((X.1 o = 12 ∧ wd rest ≤ 8) ∧ Cl X 242 [vr o] h (fun r h2 => Ev X 245 20 ls (r.toList ++ rest) h2 Q)) := R_cv (x := o) (as := []) (k2 := 242) rfl rfl (Nat.le_of_ble_eq_true rfl)
theorem e_245_20 {x : Int} : Ev X 245 20 ls (vi x :: st) h Q ↔ (stOK ls 2 = true ∧ Ev X 245 21 (ls.set 2 (some (vi x))) st h Q) := R_is rfl (Or.inl rfl)
theorem e_245_21 : Ev X 245 21 ls st h Q ↔ onI (gl ls 1) (fun z => Ev X 245 22 ls (vi z :: st) h Q) := R_il rfl (Or.inl rfl)
theorem e_245_22 : Ev X 245 22 ls st h Q ↔ Ev X 245 23 ls (vi 1 :: st) h Q := R_kc rfl (Or.inl ⟨Or.inl rfl, by decide⟩)
theorem e_245_23 {x y : Int} : Ev X 245 23 ls (vi y :: vi x :: st) h Q ↔ (if ¬ x = y then Ev X 245 31 ls st h Q else Ev X 245 24 ls st h Q) := R_icne rfl
theorem e_245_24 : Ev X 245 24 ls st h Q ↔ onI (gl ls 2) (fun z => Ev X 245 25 ls (vi z :: st) h Q) := R_il rfl (Or.inl rfl)
theorem e_245_25 {x : Int} : Ev X 245 25 ls (vi x :: st) h Q ↔ (if x = 0 then Ev X 245 29 ls st h Q else Ev X 245 26 ls st h Q) := R_ifeq rfl
theorem e_245_26 : Ev X 245 26 ls st h Q ↔ onR (gl ls 0) (fun z => Ev X 245 27 ls (vr z :: st) h Q) := R_al rfl (Or.inl rfl)
theorem e_245_27 {rest : List xV}  {o : Nat} : Ev X 245 27 ls (vr o :: rest) h Q ↔ ((X.1 o = 12 ∧ wd rest ≤ 8) ∧ Cl X 206 [vr o] h (fun r h2 => Ev X 245 28 ls (r.toList ++ rest) h2 Q)) := R_cv (x := o) (as := []) (k2 := 206) rfl rfl (Nat.le_of_ble_eq_true rfl)
theorem e_245_28 : Ev X 245 28 ls st h Q ↔ Ev X 245 37 ls st h Q := R_go rfl
theorem e_245_29 : Ev X 245 29 ls st h Q ↔ Ev X 245 30 ls (vi (-1) :: st) h Q := R_kc rfl (Or.inl ⟨Or.inl rfl, by decide⟩)
theorem e_245_30 : Ev X 245 30 ls st h Q ↔ Ev X 245 37 ls st h Q := R_go rfl
theorem e_245_31 : Ev X 245 31 ls st h Q ↔ onI (gl ls 2) (fun z => Ev X 245 32 ls (vi z :: st) h Q) := R_il rfl (Or.inl rfl)
theorem e_245_32 {x : Int} : Ev X 245 32 ls (vi x :: st) h Q ↔ (if x = 0 then Ev X 245 36 ls st h Q else Ev X 245 33 ls st h Q) := R_ifeq rfl
theorem e_245_33 : Ev X 245 33 ls st h Q ↔ onR (gl ls 0) (fun z => Ev X 245 34 ls (vr z :: st) h Q) := R_al rfl (Or.inl rfl)
theorem e_245_34 {rest : List xV}  {o : Nat} : Ev X 245 34 ls (vr o :: rest) h Q ↔ ((X.1 o = 12 ∧ wd rest ≤ 8) ∧ Cl X 243 [vr o] h (fun r h2 => Ev X 245 35 ls (r.toList ++ rest) h2 Q)) := R_cv (x := o) (as := []) (k2 := 243) rfl rfl (Nat.le_of_ble_eq_true rfl)
theorem e_245_35 : Ev X 245 35 ls st h Q ↔ Ev X 245 37 ls st h Q := R_go rfl
theorem e_245_36 : Ev X 245 36 ls st h Q ↔ Ev X 245 37 ls (vi (-5) :: st) h Q := R_kc rfl (Or.inr (Or.inl ⟨rfl, by decide⟩))
theorem e_245_37 {x : Int} : Ev X 245 37 ls (vi x :: st) h Q ↔ (stOK ls 3 = true ∧ Ev X 245 38 (ls.set 3 (some (vi x))) st h Q) := R_is rfl (Or.inl rfl)
theorem e_245_38 : Ev X 245 38 ls st h Q ↔ onR (gl ls 0) (fun z => Ev X 245 39 ls (vr z :: st) h Q) := R_al rfl (Or.inl rfl)
theorem e_245_39 {x : Nat} : Ev X 245 39 ls (vr x :: st) h Q ↔ (X.1 x = 12 ∧ Ev X 245 40 ls (vr (X.2.2.1 x 10) :: st) h Q) := R_gr rfl
theorem e_245_40 : Ev X 245 40 ls st h Q ↔ Ev X 245 41 ls (vi 0 :: st) h Q := R_kc rfl (Or.inl ⟨Or.inl rfl, by decide⟩)
theorem e_245_41 : Ev X 245 41 ls st h Q ↔ onR (gl ls 0) (fun z => Ev X 245 42 ls (vr z :: st) h Q) := R_al rfl (Or.inl rfl)
theorem e_245_42 {x : Nat} : Ev X 245 42 ls (vr x :: st) h Q ↔ (X.1 x = 12 ∧ Ev X 245 43 ls (vr (X.2.2.1 x 6) :: st) h Q) := R_gr rfl
theorem e_245_43 : Ev X 245 43 ls st h Q ↔ Ev X 245 44 ls (vi 0 :: st) h Q := R_kc rfl (Or.inl ⟨Or.inl rfl, by decide⟩)
theorem e_245_44 {rest : List xV} {a0 : Nat} {a1 : Int} {a2 : Nat} {a3 : Int} : Ev X 245 44 ls ((vi a3) :: (vr a2) :: (vi a1) :: (vr a0) :: rest) h Q ↔ (wd rest ≤ 8 ∧ Cl X 155 [vr a0, vi a1, vr a2, vi a3] h (fun r h2 => Ev X 245 45 ls (r.toList ++ rest) h2 Q)) := R_cs (as := [vr a0, vi a1, vr a2, vi a3]) (k2 := 155) rfl rfl (Nat.le_of_ble_eq_true rfl)
theorem e_245_45 : Ev X 245 45 ls st h Q ↔ onI (gl ls 3) (fun z => Ev X 245 46 ls (vi z :: st) h Q) := R_il rfl (Or.inl rfl)
theorem e_245_46 {z : Int} : Ev X 245 46 ls [vi z] h Q ↔ Q (some (vi z)) h := R_ir rfl
-- 246: CellRowsModel.firstOrder(I)V
theorem e_246_0 : Ev X 246 0 ls st h Q ↔ Ev X 246 1 ls (vi 0 :: st) h Q := R_kc rfl (Or.inl ⟨Or.inl rfl, by decide⟩)
theorem e_246_1 {x : Int} : Ev X 246 1 ls (vi x :: st) h Q ↔ (stOK ls 2 = true ∧ Ev X 246 2 (ls.set 2 (some (vi x))) st h Q) := R_is rfl (Or.inl rfl)
theorem e_246_2 : Ev X 246 2 ls st h Q ↔ onI (gl ls 2) (fun z => Ev X 246 3 ls (vi z :: st) h Q) := R_il rfl (Or.inl rfl)
theorem e_246_3 : Ev X 246 3 ls st h Q ↔ onI (gl ls 1) (fun z => Ev X 246 4 ls (vi z :: st) h Q) := R_il rfl (Or.inl rfl)
theorem e_246_4 {x y : Int} : Ev X 246 4 ls (vi y :: vi x :: st) h Q ↔ (if y ≤ x then Ev X 246 12 ls st h Q else Ev X 246 5 ls st h Q) := R_icge rfl
theorem e_246_5 : Ev X 246 5 ls st h Q ↔ onR (gl ls 0) (fun z => Ev X 246 6 ls (vr z :: st) h Q) := R_al rfl (Or.inl rfl)
theorem e_246_6 {x : Nat} : Ev X 246 6 ls (vr x :: st) h Q ↔ (X.1 x = 12 ∧ Ev X 246 7 ls (vr (X.2.2.1 x 27) :: st) h Q) := R_gr rfl
theorem e_246_7 : Ev X 246 7 ls st h Q ↔ onI (gl ls 2) (fun z => Ev X 246 8 ls (vi z :: st) h Q) := R_il rfl (Or.inl rfl)
theorem e_246_8 : Ev X 246 8 ls st h Q ↔ onI (gl ls 2) (fun z => Ev X 246 9 ls (vi z :: st) h Q) := R_il rfl (Or.inl rfl)
theorem e_246_9 {x : Nat} {j v : Int} : Ev X 246 9 ls (vi v :: vi j :: vr x :: st) h Q ↔ ((X.1 x = 13 ∧ 0 ≤ j ∧ j < X.2.1 x) ∧ Ev X 246 10 ls st (up2 h.1 x j.toNat v, h.2) Q) := R_ias rfl
theorem e_246_10 : Ev X 246 10 ls st h Q ↔ onI (gl ls 2) (fun x => (stOK ls 2 = true ∧ inR (x + 1)) ∧ Ev X 246 11 (ls.set 2 (some (vi (x + 1)))) st h Q) := R_inc rfl
theorem e_246_11 : Ev X 246 11 ls st h Q ↔ Ev X 246 2 ls st h Q := R_go rfl
theorem e_246_12 : Ev X 246 12 ls [] h Q ↔ Q none h := R_vr rfl
-- 247: CellRowsModel.nextOrder(I)Z
theorem e_247_0 : Ev X 247 0 ls st h Q ↔ onI (gl ls 1) (fun z => Ev X 247 1 ls (vi z :: st) h Q) := R_il rfl (Or.inl rfl)
theorem e_247_1 : Ev X 247 1 ls st h Q ↔ Ev X 247 2 ls (vi 2 :: st) h Q := R_kc rfl (Or.inl ⟨Or.inl rfl, by decide⟩)
theorem e_247_2 {x y : Int} : Ev X 247 2 ls (vi y :: vi x :: st) h Q ↔ ((inR (x - y)) ∧ Ev X 247 3 ls (vi (x - y) :: st) h Q) := R_sub rfl
theorem e_247_3 {x : Int} : Ev X 247 3 ls (vi x :: st) h Q ↔ (stOK ls 2 = true ∧ Ev X 247 4 (ls.set 2 (some (vi x))) st h Q) := R_is rfl (Or.inl rfl)
theorem e_247_4 : Ev X 247 4 ls st h Q ↔ onI (gl ls 2) (fun z => Ev X 247 5 ls (vi z :: st) h Q) := R_il rfl (Or.inl rfl)
theorem e_247_5 {x : Int} : Ev X 247 5 ls (vi x :: st) h Q ↔ (if x < 0 then Ev X 247 19 ls st h Q else Ev X 247 6 ls st h Q) := R_iflt rfl
theorem e_247_6 : Ev X 247 6 ls st h Q ↔ onR (gl ls 0) (fun z => Ev X 247 7 ls (vr z :: st) h Q) := R_al rfl (Or.inl rfl)
theorem e_247_7 {x : Nat} : Ev X 247 7 ls (vr x :: st) h Q ↔ (X.1 x = 12 ∧ Ev X 247 8 ls (vr (X.2.2.1 x 27) :: st) h Q) := R_gr rfl
theorem e_247_8 : Ev X 247 8 ls st h Q ↔ onI (gl ls 2) (fun z => Ev X 247 9 ls (vi z :: st) h Q) := R_il rfl (Or.inl rfl)
theorem e_247_9 {x : Nat} {j : Int} : Ev X 247 9 ls (vi j :: vr x :: st) h Q ↔ (((X.1 x = 13 ∨ X.1 x = 20) ∧ 0 ≤ j ∧ j < X.2.1 x) ∧ Ev X 247 10 ls (vi (h.1 x j.toNat) :: st) h Q) := R_ia rfl
theorem e_247_10 : Ev X 247 10 ls st h Q ↔ onR (gl ls 0) (fun z => Ev X 247 11 ls (vr z :: st) h Q) := R_al rfl (Or.inl rfl)
theorem e_247_11 {x : Nat} : Ev X 247 11 ls (vr x :: st) h Q ↔ (X.1 x = 12 ∧ Ev X 247 12 ls (vr (X.2.2.1 x 27) :: st) h Q) := R_gr rfl
theorem e_247_12 : Ev X 247 12 ls st h Q ↔ onI (gl ls 2) (fun z => Ev X 247 13 ls (vi z :: st) h Q) := R_il rfl (Or.inl rfl)
theorem e_247_13 : Ev X 247 13 ls st h Q ↔ Ev X 247 14 ls (vi 1 :: st) h Q := R_kc rfl (Or.inl ⟨Or.inl rfl, by decide⟩)
theorem e_247_14 {x y : Int} : Ev X 247 14 ls (vi y :: vi x :: st) h Q ↔ ((inR (x + y)) ∧ Ev X 247 15 ls (vi (x + y) :: st) h Q) := R_add rfl
theorem e_247_15 {x : Nat} {j : Int} : Ev X 247 15 ls (vi j :: vr x :: st) h Q ↔ (((X.1 x = 13 ∨ X.1 x = 20) ∧ 0 ≤ j ∧ j < X.2.1 x) ∧ Ev X 247 16 ls (vi (h.1 x j.toNat) :: st) h Q) := R_ia rfl
theorem e_247_16 {x y : Int} : Ev X 247 16 ls (vi y :: vi x :: st) h Q ↔ (if x ≤ y then Ev X 247 19 ls st h Q else Ev X 247 17 ls st h Q) := R_icle rfl
theorem e_247_17 : Ev X 247 17 ls st h Q ↔ onI (gl ls 2) (fun x => (stOK ls 2 = true ∧ inR (x + (-1))) ∧ Ev X 247 18 (ls.set 2 (some (vi (x + (-1))))) st h Q) := R_inc rfl
theorem e_247_18 : Ev X 247 18 ls st h Q ↔ Ev X 247 4 ls st h Q := R_go rfl
theorem e_247_19 : Ev X 247 19 ls st h Q ↔ onI (gl ls 2) (fun z => Ev X 247 20 ls (vi z :: st) h Q) := R_il rfl (Or.inl rfl)
theorem e_247_20 {x : Int} : Ev X 247 20 ls (vi x :: st) h Q ↔ (if 0 ≤ x then Ev X 247 23 ls st h Q else Ev X 247 21 ls st h Q) := R_ifge rfl
theorem e_247_21 : Ev X 247 21 ls st h Q ↔ Ev X 247 22 ls (vi 0 :: st) h Q := R_kc rfl (Or.inl ⟨Or.inl rfl, by decide⟩)
theorem e_247_22 {z : Int} : Ev X 247 22 ls [vi z] h Q ↔ ((z = 0 ∨ z = 1) ∧ Q (some (vi z)) h) := R_zr rfl
theorem e_247_23 : Ev X 247 23 ls st h Q ↔ onI (gl ls 1) (fun z => Ev X 247 24 ls (vi z :: st) h Q) := R_il rfl (Or.inl rfl)
theorem e_247_24 : Ev X 247 24 ls st h Q ↔ Ev X 247 25 ls (vi 1 :: st) h Q := R_kc rfl (Or.inl ⟨Or.inl rfl, by decide⟩)
theorem e_247_25 {x y : Int} : Ev X 247 25 ls (vi y :: vi x :: st) h Q ↔ ((inR (x - y)) ∧ Ev X 247 26 ls (vi (x - y) :: st) h Q) := R_sub rfl
theorem e_247_26 {x : Int} : Ev X 247 26 ls (vi x :: st) h Q ↔ (stOK ls 3 = true ∧ Ev X 247 27 (ls.set 3 (some (vi x))) st h Q) := R_is rfl (Or.inl rfl)
theorem e_247_27 : Ev X 247 27 ls st h Q ↔ onR (gl ls 0) (fun z => Ev X 247 28 ls (vr z :: st) h Q) := R_al rfl (Or.inl rfl)
theorem e_247_28 {x : Nat} : Ev X 247 28 ls (vr x :: st) h Q ↔ (X.1 x = 12 ∧ Ev X 247 29 ls (vr (X.2.2.1 x 27) :: st) h Q) := R_gr rfl
theorem e_247_29 : Ev X 247 29 ls st h Q ↔ onI (gl ls 3) (fun z => Ev X 247 30 ls (vi z :: st) h Q) := R_il rfl (Or.inl rfl)
theorem e_247_30 {x : Nat} {j : Int} : Ev X 247 30 ls (vi j :: vr x :: st) h Q ↔ (((X.1 x = 13 ∨ X.1 x = 20) ∧ 0 ≤ j ∧ j < X.2.1 x) ∧ Ev X 247 31 ls (vi (h.1 x j.toNat) :: st) h Q) := R_ia rfl
theorem e_247_31 : Ev X 247 31 ls st h Q ↔ onR (gl ls 0) (fun z => Ev X 247 32 ls (vr z :: st) h Q) := R_al rfl (Or.inl rfl)
theorem e_247_32 {x : Nat} : Ev X 247 32 ls (vr x :: st) h Q ↔ (X.1 x = 12 ∧ Ev X 247 33 ls (vr (X.2.2.1 x 27) :: st) h Q) := R_gr rfl
theorem e_247_33 : Ev X 247 33 ls st h Q ↔ onI (gl ls 2) (fun z => Ev X 247 34 ls (vi z :: st) h Q) := R_il rfl (Or.inl rfl)
theorem e_247_34 {x : Nat} {j : Int} : Ev X 247 34 ls (vi j :: vr x :: st) h Q ↔ (((X.1 x = 13 ∨ X.1 x = 20) ∧ 0 ≤ j ∧ j < X.2.1 x) ∧ Ev X 247 35 ls (vi (h.1 x j.toNat) :: st) h Q) := R_ia rfl
theorem e_247_35 {x y : Int} : Ev X 247 35 ls (vi y :: vi x :: st) h Q ↔ (if y ≤ x then Ev X 247 38 ls st h Q else Ev X 247 36 ls st h Q) := R_icge rfl
theorem e_247_36 : Ev X 247 36 ls st h Q ↔ onI (gl ls 3) (fun x => (stOK ls 3 = true ∧ inR (x + (-1))) ∧ Ev X 247 37 (ls.set 3 (some (vi (x + (-1))))) st h Q) := R_inc rfl
theorem e_247_37 : Ev X 247 37 ls st h Q ↔ Ev X 247 27 ls st h Q := R_go rfl
theorem e_247_38 : Ev X 247 38 ls st h Q ↔ onR (gl ls 0) (fun z => Ev X 247 39 ls (vr z :: st) h Q) := R_al rfl (Or.inl rfl)
theorem e_247_39 : Ev X 247 39 ls st h Q ↔ onI (gl ls 2) (fun z => Ev X 247 40 ls (vi z :: st) h Q) := R_il rfl (Or.inl rfl)
theorem e_247_40 : Ev X 247 40 ls st h Q ↔ onI (gl ls 3) (fun z => Ev X 247 41 ls (vi z :: st) h Q) := R_il rfl (Or.inl rfl)
theorem e_247_41 {rest : List xV} {a0 : Int} {a1 : Int} {o : Nat} : Ev X 247 41 ls ((vi a1) :: (vi a0) :: vr o :: rest) h Q ↔ ((X.1 o = 12 ∧ wd rest ≤ 8) ∧ Cl X 248 [vr o, vi a0, vi a1] h (fun r h2 => Ev X 247 42 ls (r.toList ++ rest) h2 Q)) := R_cv (x := o) (as := [vi a0, vi a1]) (k2 := 248) rfl rfl (Nat.le_of_ble_eq_true rfl)
theorem e_247_42 : Ev X 247 42 ls st h Q ↔ onI (gl ls 2) (fun z => Ev X 247 43 ls (vi z :: st) h Q) := R_il rfl (Or.inl rfl)
theorem e_247_43 : Ev X 247 43 ls st h Q ↔ Ev X 247 44 ls (vi 1 :: st) h Q := R_kc rfl (Or.inl ⟨Or.inl rfl, by decide⟩)
theorem e_247_44 {x y : Int} : Ev X 247 44 ls (vi y :: vi x :: st) h Q ↔ ((inR (x + y)) ∧ Ev X 247 45 ls (vi (x + y) :: st) h Q) := R_add rfl
theorem e_247_45 {x : Int} : Ev X 247 45 ls (vi x :: st) h Q ↔ (stOK ls 4 = true ∧ Ev X 247 46 (ls.set 4 (some (vi x))) st h Q) := R_is rfl (Or.inr rfl)
theorem e_247_46 : Ev X 247 46 ls st h Q ↔ onI (gl ls 1) (fun z => Ev X 247 47 ls (vi z :: st) h Q) := R_il rfl (Or.inl rfl)
theorem e_247_47 : Ev X 247 47 ls st h Q ↔ Ev X 247 48 ls (vi 1 :: st) h Q := R_kc rfl (Or.inl ⟨Or.inl rfl, by decide⟩)
theorem e_247_48 {x y : Int} : Ev X 247 48 ls (vi y :: vi x :: st) h Q ↔ ((inR (x - y)) ∧ Ev X 247 49 ls (vi (x - y) :: st) h Q) := R_sub rfl
theorem e_247_49 {x : Int} : Ev X 247 49 ls (vi x :: st) h Q ↔ (stOK ls 5 = true ∧ Ev X 247 50 (ls.set 5 (some (vi x))) st h Q) := R_is rfl (Or.inr rfl)
theorem e_247_50 : Ev X 247 50 ls st h Q ↔ onI (gl ls 4) (fun z => Ev X 247 51 ls (vi z :: st) h Q) := R_il rfl (Or.inr rfl)
theorem e_247_51 : Ev X 247 51 ls st h Q ↔ onI (gl ls 5) (fun z => Ev X 247 52 ls (vi z :: st) h Q) := R_il rfl (Or.inr rfl)
theorem e_247_52 {x y : Int} : Ev X 247 52 ls (vi y :: vi x :: st) h Q ↔ (if y ≤ x then Ev X 247 60 ls st h Q else Ev X 247 53 ls st h Q) := R_icge rfl
theorem e_247_53 : Ev X 247 53 ls st h Q ↔ onR (gl ls 0) (fun z => Ev X 247 54 ls (vr z :: st) h Q) := R_al rfl (Or.inl rfl)
theorem e_247_54 : Ev X 247 54 ls st h Q ↔ onI (gl ls 4) (fun z => Ev X 247 55 ls (vi z :: st) h Q) := R_il rfl (Or.inr rfl)
theorem e_247_55 : Ev X 247 55 ls st h Q ↔ onI (gl ls 5) (fun z => Ev X 247 56 ls (vi z :: st) h Q) := R_il rfl (Or.inr rfl)
theorem e_247_56 {rest : List xV} {a0 : Int} {a1 : Int} {o : Nat} : Ev X 247 56 ls ((vi a1) :: (vi a0) :: vr o :: rest) h Q ↔ ((X.1 o = 12 ∧ wd rest ≤ 8) ∧ Cl X 248 [vr o, vi a0, vi a1] h (fun r h2 => Ev X 247 57 ls (r.toList ++ rest) h2 Q)) := R_cv (x := o) (as := [vi a0, vi a1]) (k2 := 248) rfl rfl (Nat.le_of_ble_eq_true rfl)
theorem e_247_57 : Ev X 247 57 ls st h Q ↔ onI (gl ls 4) (fun x => (stOK ls 4 = true ∧ inR (x + 1)) ∧ Ev X 247 58 (ls.set 4 (some (vi (x + 1)))) st h Q) := R_inc rfl
theorem e_247_58 : Ev X 247 58 ls st h Q ↔ onI (gl ls 5) (fun x => (stOK ls 5 = true ∧ inR (x + (-1))) ∧ Ev X 247 59 (ls.set 5 (some (vi (x + (-1))))) st h Q) := R_inc rfl
theorem e_247_59 : Ev X 247 59 ls st h Q ↔ Ev X 247 50 ls st h Q := R_go rfl
theorem e_247_60 : Ev X 247 60 ls st h Q ↔ Ev X 247 61 ls (vi 1 :: st) h Q := R_kc rfl (Or.inl ⟨Or.inl rfl, by decide⟩)
theorem e_247_61 {z : Int} : Ev X 247 61 ls [vi z] h Q ↔ ((z = 0 ∨ z = 1) ∧ Q (some (vi z)) h) := R_zr rfl
-- 248: CellRowsModel.exchange(II)V
theorem e_248_0 : Ev X 248 0 ls st h Q ↔ onR (gl ls 0) (fun z => Ev X 248 1 ls (vr z :: st) h Q) := R_al rfl (Or.inl rfl)
theorem e_248_1 {x : Nat} : Ev X 248 1 ls (vr x :: st) h Q ↔ (X.1 x = 12 ∧ Ev X 248 2 ls (vr (X.2.2.1 x 27) :: st) h Q) := R_gr rfl
theorem e_248_2 : Ev X 248 2 ls st h Q ↔ onI (gl ls 1) (fun z => Ev X 248 3 ls (vi z :: st) h Q) := R_il rfl (Or.inl rfl)
theorem e_248_3 {x : Nat} {j : Int} : Ev X 248 3 ls (vi j :: vr x :: st) h Q ↔ (((X.1 x = 13 ∨ X.1 x = 20) ∧ 0 ≤ j ∧ j < X.2.1 x) ∧ Ev X 248 4 ls (vi (h.1 x j.toNat) :: st) h Q) := R_ia rfl
theorem e_248_4 {x : Int} : Ev X 248 4 ls (vi x :: st) h Q ↔ (stOK ls 3 = true ∧ Ev X 248 5 (ls.set 3 (some (vi x))) st h Q) := R_is rfl (Or.inl rfl)
theorem e_248_5 : Ev X 248 5 ls st h Q ↔ onR (gl ls 0) (fun z => Ev X 248 6 ls (vr z :: st) h Q) := R_al rfl (Or.inl rfl)
theorem e_248_6 {x : Nat} : Ev X 248 6 ls (vr x :: st) h Q ↔ (X.1 x = 12 ∧ Ev X 248 7 ls (vr (X.2.2.1 x 27) :: st) h Q) := R_gr rfl
theorem e_248_7 : Ev X 248 7 ls st h Q ↔ onI (gl ls 1) (fun z => Ev X 248 8 ls (vi z :: st) h Q) := R_il rfl (Or.inl rfl)
theorem e_248_8 : Ev X 248 8 ls st h Q ↔ onR (gl ls 0) (fun z => Ev X 248 9 ls (vr z :: st) h Q) := R_al rfl (Or.inl rfl)
theorem e_248_9 {x : Nat} : Ev X 248 9 ls (vr x :: st) h Q ↔ (X.1 x = 12 ∧ Ev X 248 10 ls (vr (X.2.2.1 x 27) :: st) h Q) := R_gr rfl
theorem e_248_10 : Ev X 248 10 ls st h Q ↔ onI (gl ls 2) (fun z => Ev X 248 11 ls (vi z :: st) h Q) := R_il rfl (Or.inl rfl)
theorem e_248_11 {x : Nat} {j : Int} : Ev X 248 11 ls (vi j :: vr x :: st) h Q ↔ (((X.1 x = 13 ∨ X.1 x = 20) ∧ 0 ≤ j ∧ j < X.2.1 x) ∧ Ev X 248 12 ls (vi (h.1 x j.toNat) :: st) h Q) := R_ia rfl
theorem e_248_12 {x : Nat} {j v : Int} : Ev X 248 12 ls (vi v :: vi j :: vr x :: st) h Q ↔ ((X.1 x = 13 ∧ 0 ≤ j ∧ j < X.2.1 x) ∧ Ev X 248 13 ls st (up2 h.1 x j.toNat v, h.2) Q) := R_ias rfl
theorem e_248_13 : Ev X 248 13 ls st h Q ↔ onR (gl ls 0) (fun z => Ev X 248 14 ls (vr z :: st) h Q) := R_al rfl (Or.inl rfl)
theorem e_248_14 {x : Nat} : Ev X 248 14 ls (vr x :: st) h Q ↔ (X.1 x = 12 ∧ Ev X 248 15 ls (vr (X.2.2.1 x 27) :: st) h Q) := R_gr rfl
theorem e_248_15 : Ev X 248 15 ls st h Q ↔ onI (gl ls 2) (fun z => Ev X 248 16 ls (vi z :: st) h Q) := R_il rfl (Or.inl rfl)
theorem e_248_16 : Ev X 248 16 ls st h Q ↔ onI (gl ls 3) (fun z => Ev X 248 17 ls (vi z :: st) h Q) := R_il rfl (Or.inl rfl)
theorem e_248_17 {x : Nat} {j v : Int} : Ev X 248 17 ls (vi v :: vi j :: vr x :: st) h Q ↔ ((X.1 x = 13 ∧ 0 ≤ j ∧ j < X.2.1 x) ∧ Ev X 248 18 ls st (up2 h.1 x j.toNat v, h.2) Q) := R_ias rfl
theorem e_248_18 : Ev X 248 18 ls [] h Q ↔ Q none h := R_vr rfl
-- 249: CellRowsModel.keepOrder(I)V
theorem e_249_0 : Ev X 249 0 ls st h Q ↔ Ev X 249 1 ls (vi 0 :: st) h Q := R_kc rfl (Or.inl ⟨Or.inl rfl, by decide⟩)
theorem e_249_1 {x : Int} : Ev X 249 1 ls (vi x :: st) h Q ↔ (stOK ls 2 = true ∧ Ev X 249 2 (ls.set 2 (some (vi x))) st h Q) := R_is rfl (Or.inl rfl)
theorem e_249_2 : Ev X 249 2 ls st h Q ↔ onI (gl ls 2) (fun z => Ev X 249 3 ls (vi z :: st) h Q) := R_il rfl (Or.inl rfl)
theorem e_249_3 : Ev X 249 3 ls st h Q ↔ onI (gl ls 1) (fun z => Ev X 249 4 ls (vi z :: st) h Q) := R_il rfl (Or.inl rfl)
theorem e_249_4 {x y : Int} : Ev X 249 4 ls (vi y :: vi x :: st) h Q ↔ (if y ≤ x then Ev X 249 15 ls st h Q else Ev X 249 5 ls st h Q) := R_icge rfl
theorem e_249_5 : Ev X 249 5 ls st h Q ↔ onR (gl ls 0) (fun z => Ev X 249 6 ls (vr z :: st) h Q) := R_al rfl (Or.inl rfl)
theorem e_249_6 {x : Nat} : Ev X 249 6 ls (vr x :: st) h Q ↔ (X.1 x = 12 ∧ Ev X 249 7 ls (vr (X.2.2.1 x 28) :: st) h Q) := R_gr rfl
theorem e_249_7 : Ev X 249 7 ls st h Q ↔ onI (gl ls 2) (fun z => Ev X 249 8 ls (vi z :: st) h Q) := R_il rfl (Or.inl rfl)
theorem e_249_8 : Ev X 249 8 ls st h Q ↔ onR (gl ls 0) (fun z => Ev X 249 9 ls (vr z :: st) h Q) := R_al rfl (Or.inl rfl)
theorem e_249_9 {x : Nat} : Ev X 249 9 ls (vr x :: st) h Q ↔ (X.1 x = 12 ∧ Ev X 249 10 ls (vr (X.2.2.1 x 27) :: st) h Q) := R_gr rfl
theorem e_249_10 : Ev X 249 10 ls st h Q ↔ onI (gl ls 2) (fun z => Ev X 249 11 ls (vi z :: st) h Q) := R_il rfl (Or.inl rfl)
theorem e_249_11 {x : Nat} {j : Int} : Ev X 249 11 ls (vi j :: vr x :: st) h Q ↔ (((X.1 x = 13 ∨ X.1 x = 20) ∧ 0 ≤ j ∧ j < X.2.1 x) ∧ Ev X 249 12 ls (vi (h.1 x j.toNat) :: st) h Q) := R_ia rfl
theorem e_249_12 {x : Nat} {j v : Int} : Ev X 249 12 ls (vi v :: vi j :: vr x :: st) h Q ↔ ((X.1 x = 13 ∧ 0 ≤ j ∧ j < X.2.1 x) ∧ Ev X 249 13 ls st (up2 h.1 x j.toNat v, h.2) Q) := R_ias rfl
theorem e_249_13 : Ev X 249 13 ls st h Q ↔ onI (gl ls 2) (fun x => (stOK ls 2 = true ∧ inR (x + 1)) ∧ Ev X 249 14 (ls.set 2 (some (vi (x + 1)))) st h Q) := R_inc rfl
theorem e_249_14 : Ev X 249 14 ls st h Q ↔ Ev X 249 2 ls st h Q := R_go rfl
theorem e_249_15 : Ev X 249 15 ls [] h Q ↔ Q none h := R_vr rfl
-- 250: CellRowsModel.putWindow(III[I)V
theorem e_250_0 : Ev X 250 0 ls st h Q ↔ onI (gl ls 2) (fun z => Ev X 250 1 ls (vi z :: st) h Q) := R_il rfl (Or.inl rfl)
theorem e_250_1 {x : Int} : Ev X 250 1 ls (vi x :: st) h Q ↔ (stOK ls 5 = true ∧ Ev X 250 2 (ls.set 5 (some (vi x))) st h Q) := R_is rfl (Or.inr rfl)
theorem e_250_2 : Ev X 250 2 ls st h Q ↔ Ev X 250 3 ls (vi 0 :: st) h Q := R_kc rfl (Or.inl ⟨Or.inl rfl, by decide⟩)
theorem e_250_3 {x : Int} : Ev X 250 3 ls (vi x :: st) h Q ↔ (stOK ls 6 = true ∧ Ev X 250 4 (ls.set 6 (some (vi x))) st h Q) := R_is rfl (Or.inr rfl)
theorem e_250_4 : Ev X 250 4 ls st h Q ↔ onI (gl ls 6) (fun z => Ev X 250 5 ls (vi z :: st) h Q) := R_il rfl (Or.inr rfl)
theorem e_250_5 : Ev X 250 5 ls st h Q ↔ onI (gl ls 3) (fun z => Ev X 250 6 ls (vi z :: st) h Q) := R_il rfl (Or.inl rfl)
theorem e_250_6 {x y : Int} : Ev X 250 6 ls (vi y :: vi x :: st) h Q ↔ (if y ≤ x then Ev X 250 32 ls st h Q else Ev X 250 7 ls st h Q) := R_icge rfl
theorem e_250_7 : Ev X 250 7 ls st h Q ↔ onR (gl ls 0) (fun z => Ev X 250 8 ls (vr z :: st) h Q) := R_al rfl (Or.inl rfl)
theorem e_250_8 {x : Nat} : Ev X 250 8 ls (vr x :: st) h Q ↔ (X.1 x = 12 ∧ Ev X 250 9 ls (vr (X.2.2.1 x 29) :: st) h Q) := R_gr rfl
theorem e_250_9 : Ev X 250 9 ls st h Q ↔ onR (gl ls 4) (fun z => Ev X 250 10 ls (vr z :: st) h Q) := R_al rfl (Or.inr rfl)
theorem e_250_10 : Ev X 250 10 ls st h Q ↔ onI (gl ls 6) (fun z => Ev X 250 11 ls (vi z :: st) h Q) := R_il rfl (Or.inr rfl)
theorem e_250_11 {x : Nat} {j : Int} : Ev X 250 11 ls (vi j :: vr x :: st) h Q ↔ (((X.1 x = 13 ∨ X.1 x = 20) ∧ 0 ≤ j ∧ j < X.2.1 x) ∧ Ev X 250 12 ls (vi (h.1 x j.toNat) :: st) h Q) := R_ia rfl
theorem e_250_12 {x : Nat} {j : Int} : Ev X 250 12 ls (vi j :: vr x :: st) h Q ↔ (((X.1 x = 13 ∨ X.1 x = 20) ∧ 0 ≤ j ∧ j < X.2.1 x) ∧ Ev X 250 13 ls (vi (h.1 x j.toNat) :: st) h Q) := R_ia rfl
theorem e_250_13 {x : Int} : Ev X 250 13 ls (vi x :: st) h Q ↔ (stOK ls 7 = true ∧ Ev X 250 14 (ls.set 7 (some (vi x))) st h Q) := R_is rfl (Or.inr rfl)
theorem e_250_14 : Ev X 250 14 ls st h Q ↔ onR (gl ls 0) (fun z => Ev X 250 15 ls (vr z :: st) h Q) := R_al rfl (Or.inl rfl)
theorem e_250_15 : Ev X 250 15 ls st h Q ↔ onI (gl ls 7) (fun z => Ev X 250 16 ls (vi z :: st) h Q) := R_il rfl (Or.inr rfl)
theorem e_250_16 : Ev X 250 16 ls st h Q ↔ onI (gl ls 1) (fun z => Ev X 250 17 ls (vi z :: st) h Q) := R_il rfl (Or.inl rfl)
theorem e_250_17 : Ev X 250 17 ls st h Q ↔ onI (gl ls 5) (fun z => Ev X 250 18 ls (vi z :: st) h Q) := R_il rfl (Or.inr rfl)
theorem e_250_18 {rest : List xV} {a0 : Int} {a1 : Int} {a2 : Int} {o : Nat} : Ev X 250 18 ls ((vi a2) :: (vi a1) :: (vi a0) :: vr o :: rest) h Q ↔ ((X.1 o = 12 ∧ wd rest ≤ 8) ∧ Cl X 166 [vr o, vi a0, vi a1, vi a2] h (fun r h2 => Ev X 250 19 ls (r.toList ++ rest) h2 Q)) := R_cv (x := o) (as := [vi a0, vi a1, vi a2]) (k2 := 166) rfl rfl (Nat.le_of_ble_eq_true rfl)
theorem e_250_19 : Ev X 250 19 ls st h Q ↔ onI (gl ls 5) (fun z => Ev X 250 20 ls (vi z :: st) h Q) := R_il rfl (Or.inr rfl)
theorem e_250_20 : Ev X 250 20 ls st h Q ↔ onR (gl ls 0) (fun z => Ev X 250 21 ls (vr z :: st) h Q) := R_al rfl (Or.inl rfl)
theorem e_250_21 : Ev X 250 21 ls st h Q ↔ onI (gl ls 7) (fun z => Ev X 250 22 ls (vi z :: st) h Q) := R_il rfl (Or.inr rfl)
theorem e_250_22 {rest : List xV} {a0 : Int} {o : Nat} : Ev X 250 22 ls ((vi a0) :: vr o :: rest) h Q ↔ ((X.1 o = 12 ∧ wd rest ≤ 8) ∧ Cl X 160 [vr o, vi a0] h (fun r h2 => Ev X 250 23 ls (r.toList ++ rest) h2 Q)) := R_cv (x := o) (as := [vi a0]) (k2 := 160) rfl rfl (Nat.le_of_ble_eq_true rfl)
theorem e_250_23 : Ev X 250 23 ls st h Q ↔ onR (gl ls 0) (fun z => Ev X 250 24 ls (vr z :: st) h Q) := R_al rfl (Or.inl rfl)
theorem e_250_24 {x : Nat} : Ev X 250 24 ls (vr x :: st) h Q ↔ (X.1 x = 12 ∧ Ev X 250 25 ls (vr (X.2.2.1 x 30) :: st) h Q) := R_gr rfl
theorem e_250_25 : Ev X 250 25 ls st h Q ↔ onI (gl ls 6) (fun z => Ev X 250 26 ls (vi z :: st) h Q) := R_il rfl (Or.inr rfl)
theorem e_250_26 {x : Nat} {j : Int} : Ev X 250 26 ls (vi j :: vr x :: st) h Q ↔ (((X.1 x = 13 ∨ X.1 x = 20) ∧ 0 ≤ j ∧ j < X.2.1 x) ∧ Ev X 250 27 ls (vi (h.1 x j.toNat) :: st) h Q) := R_ia rfl
theorem e_250_27 {x y : Int} : Ev X 250 27 ls (vi y :: vi x :: st) h Q ↔ ((inR (x + y)) ∧ Ev X 250 28 ls (vi (x + y) :: st) h Q) := R_add rfl
theorem e_250_28 {x y : Int} : Ev X 250 28 ls (vi y :: vi x :: st) h Q ↔ ((inR (x + y)) ∧ Ev X 250 29 ls (vi (x + y) :: st) h Q) := R_add rfl
theorem e_250_29 {x : Int} : Ev X 250 29 ls (vi x :: st) h Q ↔ (stOK ls 5 = true ∧ Ev X 250 30 (ls.set 5 (some (vi x))) st h Q) := R_is rfl (Or.inr rfl)
theorem e_250_30 : Ev X 250 30 ls st h Q ↔ onI (gl ls 6) (fun x => (stOK ls 6 = true ∧ inR (x + 1)) ∧ Ev X 250 31 (ls.set 6 (some (vi (x + 1)))) st h Q) := R_inc rfl
theorem e_250_31 : Ev X 250 31 ls st h Q ↔ Ev X 250 4 ls st h Q := R_go rfl
theorem e_250_32 : Ev X 250 32 ls [] h Q ↔ Q none h := R_vr rfl
-- 251: CellRowsModel.window(III)V
theorem e_251_0 : Ev X 251 0 ls st h Q ↔ onR (gl ls 0) (fun z => Ev X 251 1 ls (vr z :: st) h Q) := R_al rfl (Or.inl rfl)
theorem e_251_1 {x : Nat} : Ev X 251 1 ls (vr x :: st) h Q ↔ (X.1 x = 12 ∧ Ev X 251 2 ls (vr (X.2.2.1 x 6) :: st) h Q) := R_gr rfl
theorem e_251_2 : Ev X 251 2 ls st h Q ↔ onR (gl ls 0) (fun z => Ev X 251 3 ls (vr z :: st) h Q) := R_al rfl (Or.inl rfl)
theorem e_251_3 {x : Nat} : Ev X 251 3 ls (vr x :: st) h Q ↔ (X.1 x = 12 ∧ Ev X 251 4 ls (vr (X.2.2.1 x 19) :: st) h Q) := R_gr rfl
theorem e_251_4 : Ev X 251 4 ls st h Q ↔ onI (gl ls 2) (fun z => Ev X 251 5 ls (vi z :: st) h Q) := R_il rfl (Or.inl rfl)
theorem e_251_5 {x : Nat} {j : Int} : Ev X 251 5 ls (vi j :: vr x :: st) h Q ↔ (((X.1 x = 13 ∨ X.1 x = 20) ∧ 0 ≤ j ∧ j < X.2.1 x) ∧ Ev X 251 6 ls (vi (h.1 x j.toNat) :: st) h Q) := R_ia rfl
theorem e_251_6 {rest : List xV} {a0 : Int} : Ev X 251 6 ls ((vi a0) :: rest) h Q ↔ (wd rest ≤ 8 ∧ Cl X 158 [vi a0] h (fun r h2 => Ev X 251 7 ls (r.toList ++ rest) h2 Q)) := R_cs (as := [vi a0]) (k2 := 158) rfl rfl (Nat.le_of_ble_eq_true rfl)
theorem e_251_7 : Ev X 251 7 ls st h Q ↔ Ev X 251 8 ls (vi 6 :: st) h Q := R_kc rfl (Or.inr (Or.inl ⟨rfl, by decide⟩))
theorem e_251_8 {x y : Int} : Ev X 251 8 ls (vi y :: vi x :: st) h Q ↔ ((inR (x + y)) ∧ Ev X 251 9 ls (vi (x + y) :: st) h Q) := R_add rfl
theorem e_251_9 {x : Nat} {j : Int} : Ev X 251 9 ls (vi j :: vr x :: st) h Q ↔ (((X.1 x = 13 ∨ X.1 x = 20) ∧ 0 ≤ j ∧ j < X.2.1 x) ∧ Ev X 251 10 ls (vi (h.1 x j.toNat) :: st) h Q) := R_ia rfl
theorem e_251_10 {x : Int} : Ev X 251 10 ls (vi x :: st) h Q ↔ (stOK ls 4 = true ∧ Ev X 251 11 (ls.set 4 (some (vi x))) st h Q) := R_is rfl (Or.inr rfl)
theorem e_251_11 : Ev X 251 11 ls st h Q ↔ Ev X 251 12 ls (vi 0 :: st) h Q := R_kc rfl (Or.inl ⟨Or.inl rfl, by decide⟩)
theorem e_251_12 {x : Int} : Ev X 251 12 ls (vi x :: st) h Q ↔ (stOK ls 5 = true ∧ Ev X 251 13 (ls.set 5 (some (vi x))) st h Q) := R_is rfl (Or.inr rfl)
theorem e_251_13 : Ev X 251 13 ls st h Q ↔ onI (gl ls 5) (fun z => Ev X 251 14 ls (vi z :: st) h Q) := R_il rfl (Or.inr rfl)
theorem e_251_14 : Ev X 251 14 ls st h Q ↔ onI (gl ls 3) (fun z => Ev X 251 15 ls (vi z :: st) h Q) := R_il rfl (Or.inl rfl)
theorem e_251_15 {x y : Int} : Ev X 251 15 ls (vi y :: vi x :: st) h Q ↔ (if y ≤ x then Ev X 251 67 ls st h Q else Ev X 251 16 ls st h Q) := R_icge rfl
theorem e_251_16 : Ev X 251 16 ls st h Q ↔ onR (gl ls 0) (fun z => Ev X 251 17 ls (vr z :: st) h Q) := R_al rfl (Or.inl rfl)
theorem e_251_17 {x : Nat} : Ev X 251 17 ls (vr x :: st) h Q ↔ (X.1 x = 12 ∧ Ev X 251 18 ls (vr (X.2.2.1 x 19) :: st) h Q) := R_gr rfl
theorem e_251_18 : Ev X 251 18 ls st h Q ↔ onI (gl ls 2) (fun z => Ev X 251 19 ls (vi z :: st) h Q) := R_il rfl (Or.inl rfl)
theorem e_251_19 : Ev X 251 19 ls st h Q ↔ onI (gl ls 5) (fun z => Ev X 251 20 ls (vi z :: st) h Q) := R_il rfl (Or.inr rfl)
theorem e_251_20 {x y : Int} : Ev X 251 20 ls (vi y :: vi x :: st) h Q ↔ ((inR (x + y)) ∧ Ev X 251 21 ls (vi (x + y) :: st) h Q) := R_add rfl
theorem e_251_21 {x : Nat} {j : Int} : Ev X 251 21 ls (vi j :: vr x :: st) h Q ↔ (((X.1 x = 13 ∨ X.1 x = 20) ∧ 0 ≤ j ∧ j < X.2.1 x) ∧ Ev X 251 22 ls (vi (h.1 x j.toNat) :: st) h Q) := R_ia rfl
theorem e_251_22 {x : Int} : Ev X 251 22 ls (vi x :: st) h Q ↔ (stOK ls 6 = true ∧ Ev X 251 23 (ls.set 6 (some (vi x))) st h Q) := R_is rfl (Or.inr rfl)
theorem e_251_23 : Ev X 251 23 ls st h Q ↔ onR (gl ls 0) (fun z => Ev X 251 24 ls (vr z :: st) h Q) := R_al rfl (Or.inl rfl)
theorem e_251_24 {x : Nat} : Ev X 251 24 ls (vr x :: st) h Q ↔ (X.1 x = 12 ∧ Ev X 251 25 ls (vr (X.2.2.1 x 29) :: st) h Q) := R_gr rfl
theorem e_251_25 : Ev X 251 25 ls st h Q ↔ onI (gl ls 5) (fun z => Ev X 251 26 ls (vi z :: st) h Q) := R_il rfl (Or.inr rfl)
theorem e_251_26 : Ev X 251 26 ls st h Q ↔ onI (gl ls 6) (fun z => Ev X 251 27 ls (vi z :: st) h Q) := R_il rfl (Or.inr rfl)
theorem e_251_27 {x : Nat} {j v : Int} : Ev X 251 27 ls (vi v :: vi j :: vr x :: st) h Q ↔ ((X.1 x = 13 ∧ 0 ≤ j ∧ j < X.2.1 x) ∧ Ev X 251 28 ls st (up2 h.1 x j.toNat v, h.2) Q) := R_ias rfl
theorem e_251_28 : Ev X 251 28 ls st h Q ↔ onR (gl ls 0) (fun z => Ev X 251 29 ls (vr z :: st) h Q) := R_al rfl (Or.inl rfl)
theorem e_251_29 {x : Nat} : Ev X 251 29 ls (vr x :: st) h Q ↔ (X.1 x = 12 ∧ Ev X 251 30 ls (vr (X.2.2.1 x 30) :: st) h Q) := R_gr rfl
theorem e_251_30 : Ev X 251 30 ls st h Q ↔ onI (gl ls 5) (fun z => Ev X 251 31 ls (vi z :: st) h Q) := R_il rfl (Or.inr rfl)
theorem e_251_31 : Ev X 251 31 ls st h Q ↔ onI (gl ls 5) (fun z => Ev X 251 32 ls (vi z :: st) h Q) := R_il rfl (Or.inr rfl)
theorem e_251_32 : Ev X 251 32 ls st h Q ↔ Ev X 251 33 ls (vi 1 :: st) h Q := R_kc rfl (Or.inl ⟨Or.inl rfl, by decide⟩)
theorem e_251_33 {x y : Int} : Ev X 251 33 ls (vi y :: vi x :: st) h Q ↔ ((inR (x + y)) ∧ Ev X 251 34 ls (vi (x + y) :: st) h Q) := R_add rfl
theorem e_251_34 : Ev X 251 34 ls st h Q ↔ onI (gl ls 3) (fun z => Ev X 251 35 ls (vi z :: st) h Q) := R_il rfl (Or.inl rfl)
theorem e_251_35 {x y : Int} : Ev X 251 35 ls (vi y :: vi x :: st) h Q ↔ (if y ≤ x then Ev X 251 63 ls st h Q else Ev X 251 36 ls st h Q) := R_icge rfl
theorem e_251_36 : Ev X 251 36 ls st h Q ↔ onR (gl ls 0) (fun z => Ev X 251 37 ls (vr z :: st) h Q) := R_al rfl (Or.inl rfl)
theorem e_251_37 {x : Nat} : Ev X 251 37 ls (vr x :: st) h Q ↔ (X.1 x = 12 ∧ Ev X 251 38 ls (vr (X.2.2.1 x 6) :: st) h Q) := R_gr rfl
theorem e_251_38 : Ev X 251 38 ls st h Q ↔ onR (gl ls 0) (fun z => Ev X 251 39 ls (vr z :: st) h Q) := R_al rfl (Or.inl rfl)
theorem e_251_39 {x : Nat} : Ev X 251 39 ls (vr x :: st) h Q ↔ (X.1 x = 12 ∧ Ev X 251 40 ls (vr (X.2.2.1 x 19) :: st) h Q) := R_gr rfl
theorem e_251_40 : Ev X 251 40 ls st h Q ↔ onI (gl ls 2) (fun z => Ev X 251 41 ls (vi z :: st) h Q) := R_il rfl (Or.inl rfl)
theorem e_251_41 : Ev X 251 41 ls st h Q ↔ onI (gl ls 5) (fun z => Ev X 251 42 ls (vi z :: st) h Q) := R_il rfl (Or.inr rfl)
theorem e_251_42 {x y : Int} : Ev X 251 42 ls (vi y :: vi x :: st) h Q ↔ ((inR (x + y)) ∧ Ev X 251 43 ls (vi (x + y) :: st) h Q) := R_add rfl
theorem e_251_43 : Ev X 251 43 ls st h Q ↔ Ev X 251 44 ls (vi 1 :: st) h Q := R_kc rfl (Or.inl ⟨Or.inl rfl, by decide⟩)
theorem e_251_44 {x y : Int} : Ev X 251 44 ls (vi y :: vi x :: st) h Q ↔ ((inR (x + y)) ∧ Ev X 251 45 ls (vi (x + y) :: st) h Q) := R_add rfl
theorem e_251_45 {x : Nat} {j : Int} : Ev X 251 45 ls (vi j :: vr x :: st) h Q ↔ (((X.1 x = 13 ∨ X.1 x = 20) ∧ 0 ≤ j ∧ j < X.2.1 x) ∧ Ev X 251 46 ls (vi (h.1 x j.toNat) :: st) h Q) := R_ia rfl
theorem e_251_46 {rest : List xV} {a0 : Int} : Ev X 251 46 ls ((vi a0) :: rest) h Q ↔ (wd rest ≤ 8 ∧ Cl X 158 [vi a0] h (fun r h2 => Ev X 251 47 ls (r.toList ++ rest) h2 Q)) := R_cs (as := [vi a0]) (k2 := 158) rfl rfl (Nat.le_of_ble_eq_true rfl)
theorem e_251_47 : Ev X 251 47 ls st h Q ↔ Ev X 251 48 ls (vi 6 :: st) h Q := R_kc rfl (Or.inr (Or.inl ⟨rfl, by decide⟩))
theorem e_251_48 {x y : Int} : Ev X 251 48 ls (vi y :: vi x :: st) h Q ↔ ((inR (x + y)) ∧ Ev X 251 49 ls (vi (x + y) :: st) h Q) := R_add rfl
theorem e_251_49 {x : Nat} {j : Int} : Ev X 251 49 ls (vi j :: vr x :: st) h Q ↔ (((X.1 x = 13 ∨ X.1 x = 20) ∧ 0 ≤ j ∧ j < X.2.1 x) ∧ Ev X 251 50 ls (vi (h.1 x j.toNat) :: st) h Q) := R_ia rfl
theorem e_251_50 : Ev X 251 50 ls st h Q ↔ onR (gl ls 0) (fun z => Ev X 251 51 ls (vr z :: st) h Q) := R_al rfl (Or.inl rfl)
theorem e_251_51 {x : Nat} : Ev X 251 51 ls (vr x :: st) h Q ↔ (X.1 x = 12 ∧ Ev X 251 52 ls (vr (X.2.2.1 x 6) :: st) h Q) := R_gr rfl
theorem e_251_52 : Ev X 251 52 ls st h Q ↔ onI (gl ls 6) (fun z => Ev X 251 53 ls (vi z :: st) h Q) := R_il rfl (Or.inr rfl)
theorem e_251_53 {rest : List xV} {a0 : Int} : Ev X 251 53 ls ((vi a0) :: rest) h Q ↔ (wd rest ≤ 8 ∧ Cl X 158 [vi a0] h (fun r h2 => Ev X 251 54 ls (r.toList ++ rest) h2 Q)) := R_cs (as := [vi a0]) (k2 := 158) rfl rfl (Nat.le_of_ble_eq_true rfl)
theorem e_251_54 : Ev X 251 54 ls st h Q ↔ Ev X 251 55 ls (vi 6 :: st) h Q := R_kc rfl (Or.inr (Or.inl ⟨rfl, by decide⟩))
theorem e_251_55 {x y : Int} : Ev X 251 55 ls (vi y :: vi x :: st) h Q ↔ ((inR (x + y)) ∧ Ev X 251 56 ls (vi (x + y) :: st) h Q) := R_add rfl
theorem e_251_56 {x : Nat} {j : Int} : Ev X 251 56 ls (vi j :: vr x :: st) h Q ↔ (((X.1 x = 13 ∨ X.1 x = 20) ∧ 0 ≤ j ∧ j < X.2.1 x) ∧ Ev X 251 57 ls (vi (h.1 x j.toNat) :: st) h Q) := R_ia rfl
theorem e_251_57 {x y : Int} : Ev X 251 57 ls (vi y :: vi x :: st) h Q ↔ ((inR (x - y)) ∧ Ev X 251 58 ls (vi (x - y) :: st) h Q) := R_sub rfl
theorem e_251_58 : Ev X 251 58 ls st h Q ↔ onR (gl ls 0) (fun z => Ev X 251 59 ls (vr z :: st) h Q) := R_al rfl (Or.inl rfl)
theorem e_251_59 : Ev X 251 59 ls st h Q ↔ onI (gl ls 6) (fun z => Ev X 251 60 ls (vi z :: st) h Q) := R_il rfl (Or.inr rfl)
theorem e_251_60 {rest : List xV} {a0 : Int} {o : Nat} : Ev X 251 60 ls ((vi a0) :: vr o :: rest) h Q ↔ ((X.1 o = 12 ∧ wd rest ≤ 8) ∧ Cl X 160 [vr o, vi a0] h (fun r h2 => Ev X 251 61 ls (r.toList ++ rest) h2 Q)) := R_cv (x := o) (as := [vi a0]) (k2 := 160) rfl rfl (Nat.le_of_ble_eq_true rfl)
theorem e_251_61 {x y : Int} : Ev X 251 61 ls (vi y :: vi x :: st) h Q ↔ ((inR (x - y)) ∧ Ev X 251 62 ls (vi (x - y) :: st) h Q) := R_sub rfl
theorem e_251_62 : Ev X 251 62 ls st h Q ↔ Ev X 251 64 ls st h Q := R_go rfl
theorem e_251_63 : Ev X 251 63 ls st h Q ↔ Ev X 251 64 ls (vi 0 :: st) h Q := R_kc rfl (Or.inl ⟨Or.inl rfl, by decide⟩)
theorem e_251_64 {x : Nat} {j v : Int} : Ev X 251 64 ls (vi v :: vi j :: vr x :: st) h Q ↔ ((X.1 x = 13 ∧ 0 ≤ j ∧ j < X.2.1 x) ∧ Ev X 251 65 ls st (up2 h.1 x j.toNat v, h.2) Q) := R_ias rfl
theorem e_251_65 : Ev X 251 65 ls st h Q ↔ onI (gl ls 5) (fun x => (stOK ls 5 = true ∧ inR (x + 1)) ∧ Ev X 251 66 (ls.set 5 (some (vi (x + 1)))) st h Q) := R_inc rfl
theorem e_251_66 : Ev X 251 66 ls st h Q ↔ Ev X 251 13 ls st h Q := R_go rfl
theorem e_251_67 : Ev X 251 67 ls st h Q ↔ onR (gl ls 0) (fun z => Ev X 251 68 ls (vr z :: st) h Q) := R_al rfl (Or.inl rfl)
theorem e_251_68 : Ev X 251 68 ls st h Q ↔ onI (gl ls 3) (fun z => Ev X 251 69 ls (vi z :: st) h Q) := R_il rfl (Or.inl rfl)
theorem e_251_69 {rest : List xV} {a0 : Int} {o : Nat} : Ev X 251 69 ls ((vi a0) :: vr o :: rest) h Q ↔ ((X.1 o = 12 ∧ wd rest ≤ 8) ∧ Cl X 246 [vr o, vi a0] h (fun r h2 => Ev X 251 70 ls (r.toList ++ rest) h2 Q)) := R_cv (x := o) (as := [vi a0]) (k2 := 246) rfl rfl (Nat.le_of_ble_eq_true rfl)
theorem e_251_70 : Ev X 251 70 ls st h Q ↔ onR (gl ls 0) (fun z => Ev X 251 71 ls (vr z :: st) h Q) := R_al rfl (Or.inl rfl)
theorem e_251_71 : Ev X 251 71 ls st h Q ↔ onI (gl ls 3) (fun z => Ev X 251 72 ls (vi z :: st) h Q) := R_il rfl (Or.inl rfl)
theorem e_251_72 {rest : List xV} {a0 : Int} {o : Nat} : Ev X 251 72 ls ((vi a0) :: vr o :: rest) h Q ↔ ((X.1 o = 12 ∧ wd rest ≤ 8) ∧ Cl X 249 [vr o, vi a0] h (fun r h2 => Ev X 251 73 ls (r.toList ++ rest) h2 Q)) := R_cv (x := o) (as := [vi a0]) (k2 := 249) rfl rfl (Nat.le_of_ble_eq_true rfl)
theorem e_251_73 : Ev X 251 73 ls st h Q ↔ onR (gl ls 0) (fun z => Ev X 251 74 ls (vr z :: st) h Q) := R_al rfl (Or.inl rfl)
theorem e_251_74 {rest : List xV}  {o : Nat} : Ev X 251 74 ls (vr o :: rest) h Q ↔ ((X.1 o = 12 ∧ wd rest ≤ 8) ∧ Cl X 206 [vr o] h (fun r h2 => Ev X 251 75 ls (r.toList ++ rest) h2 Q)) := R_cv (x := o) (as := []) (k2 := 206) rfl rfl (Nat.le_of_ble_eq_true rfl)
theorem e_251_75 {x : Int} : Ev X 251 75 ls (vi x :: st) h Q ↔ (stOK ls 5 = true ∧ Ev X 251 76 (ls.set 5 (some (vi x))) st h Q) := R_is rfl (Or.inr rfl)
theorem e_251_76 : Ev X 251 76 ls st h Q ↔ onR (gl ls 0) (fun z => Ev X 251 77 ls (vr z :: st) h Q) := R_al rfl (Or.inl rfl)
theorem e_251_77 : Ev X 251 77 ls st h Q ↔ onI (gl ls 3) (fun z => Ev X 251 78 ls (vi z :: st) h Q) := R_il rfl (Or.inl rfl)
theorem e_251_78 {rest : List xV} {a0 : Int} {o : Nat} : Ev X 251 78 ls ((vi a0) :: vr o :: rest) h Q ↔ ((X.1 o = 12 ∧ wd rest ≤ 8) ∧ Cl X 247 [vr o, vi a0] h (fun r h2 => Ev X 251 79 ls (r.toList ++ rest) h2 Q)) := R_cv (x := o) (as := [vi a0]) (k2 := 247) rfl rfl (Nat.le_of_ble_eq_true rfl)
theorem e_251_79 {x : Int} : Ev X 251 79 ls (vi x :: st) h Q ↔ (if x = 0 then Ev X 251 99 ls st h Q else Ev X 251 80 ls st h Q) := R_ifeq rfl
theorem e_251_80 : Ev X 251 80 ls st h Q ↔ onR (gl ls 0) (fun z => Ev X 251 81 ls (vr z :: st) h Q) := R_al rfl (Or.inl rfl)
theorem e_251_81 : Ev X 251 81 ls st h Q ↔ onI (gl ls 1) (fun z => Ev X 251 82 ls (vi z :: st) h Q) := R_il rfl (Or.inl rfl)
theorem e_251_82 : Ev X 251 82 ls st h Q ↔ onI (gl ls 4) (fun z => Ev X 251 83 ls (vi z :: st) h Q) := R_il rfl (Or.inr rfl)
theorem e_251_83 : Ev X 251 83 ls st h Q ↔ onI (gl ls 3) (fun z => Ev X 251 84 ls (vi z :: st) h Q) := R_il rfl (Or.inl rfl)
theorem e_251_84 : Ev X 251 84 ls st h Q ↔ onR (gl ls 0) (fun z => Ev X 251 85 ls (vr z :: st) h Q) := R_al rfl (Or.inl rfl)
theorem e_251_85 {x : Nat} : Ev X 251 85 ls (vr x :: st) h Q ↔ (X.1 x = 12 ∧ Ev X 251 86 ls (vr (X.2.2.1 x 27) :: st) h Q) := R_gr rfl
theorem e_251_86 {rest : List xV} {a0 : Int} {a1 : Int} {a2 : Int} {a3 : Nat} {o : Nat} : Ev X 251 86 ls ((vr a3) :: (vi a2) :: (vi a1) :: (vi a0) :: vr o :: rest) h Q ↔ ((X.1 o = 12 ∧ wd rest ≤ 8) ∧ Cl X 250 [vr o, vi a0, vi a1, vi a2, vr a3] h (fun r h2 => Ev X 251 87 ls (r.toList ++ rest) h2 Q)) := R_cv (x := o) (as := [vi a0, vi a1, vi a2, vr a3]) (k2 := 250) rfl rfl (Nat.le_of_ble_eq_true rfl)
theorem e_251_87 : Ev X 251 87 ls st h Q ↔ onR (gl ls 0) (fun z => Ev X 251 88 ls (vr z :: st) h Q) := R_al rfl (Or.inl rfl)
theorem e_251_88 {rest : List xV}  {o : Nat} : Ev X 251 88 ls (vr o :: rest) h Q ↔ ((X.1 o = 12 ∧ wd rest ≤ 8) ∧ Cl X 206 [vr o] h (fun r h2 => Ev X 251 89 ls (r.toList ++ rest) h2 Q)) := R_cv (x := o) (as := []) (k2 := 206) rfl rfl (Nat.le_of_ble_eq_true rfl)
theorem e_251_89 {x : Int} : Ev X 251 89 ls (vi x :: st) h Q ↔ (stOK ls 6 = true ∧ Ev X 251 90 (ls.set 6 (some (vi x))) st h Q) := R_is rfl (Or.inr rfl)
theorem e_251_90 : Ev X 251 90 ls st h Q ↔ onI (gl ls 6) (fun z => Ev X 251 91 ls (vi z :: st) h Q) := R_il rfl (Or.inr rfl)
theorem e_251_91 : Ev X 251 91 ls st h Q ↔ onI (gl ls 5) (fun z => Ev X 251 92 ls (vi z :: st) h Q) := R_il rfl (Or.inr rfl)
theorem e_251_92 {x y : Int} : Ev X 251 92 ls (vi y :: vi x :: st) h Q ↔ (if y ≤ x then Ev X 251 98 ls st h Q else Ev X 251 93 ls st h Q) := R_icge rfl
theorem e_251_93 : Ev X 251 93 ls st h Q ↔ onI (gl ls 6) (fun z => Ev X 251 94 ls (vi z :: st) h Q) := R_il rfl (Or.inr rfl)
theorem e_251_94 {x : Int} : Ev X 251 94 ls (vi x :: st) h Q ↔ (stOK ls 5 = true ∧ Ev X 251 95 (ls.set 5 (some (vi x))) st h Q) := R_is rfl (Or.inr rfl)
theorem e_251_95 : Ev X 251 95 ls st h Q ↔ onR (gl ls 0) (fun z => Ev X 251 96 ls (vr z :: st) h Q) := R_al rfl (Or.inl rfl)
theorem e_251_96 : Ev X 251 96 ls st h Q ↔ onI (gl ls 3) (fun z => Ev X 251 97 ls (vi z :: st) h Q) := R_il rfl (Or.inl rfl)
theorem e_251_97 {rest : List xV} {a0 : Int} {o : Nat} : Ev X 251 97 ls ((vi a0) :: vr o :: rest) h Q ↔ ((X.1 o = 12 ∧ wd rest ≤ 8) ∧ Cl X 249 [vr o, vi a0] h (fun r h2 => Ev X 251 98 ls (r.toList ++ rest) h2 Q)) := R_cv (x := o) (as := [vi a0]) (k2 := 249) rfl rfl (Nat.le_of_ble_eq_true rfl)
theorem e_251_98 : Ev X 251 98 ls st h Q ↔ Ev X 251 76 ls st h Q := R_go rfl
theorem e_251_99 : Ev X 251 99 ls st h Q ↔ onR (gl ls 0) (fun z => Ev X 251 100 ls (vr z :: st) h Q) := R_al rfl (Or.inl rfl)
theorem e_251_100 : Ev X 251 100 ls st h Q ↔ onI (gl ls 1) (fun z => Ev X 251 101 ls (vi z :: st) h Q) := R_il rfl (Or.inl rfl)
theorem e_251_101 : Ev X 251 101 ls st h Q ↔ onI (gl ls 4) (fun z => Ev X 251 102 ls (vi z :: st) h Q) := R_il rfl (Or.inr rfl)
theorem e_251_102 : Ev X 251 102 ls st h Q ↔ onI (gl ls 3) (fun z => Ev X 251 103 ls (vi z :: st) h Q) := R_il rfl (Or.inl rfl)
theorem e_251_103 : Ev X 251 103 ls st h Q ↔ onR (gl ls 0) (fun z => Ev X 251 104 ls (vr z :: st) h Q) := R_al rfl (Or.inl rfl)
theorem e_251_104 {x : Nat} : Ev X 251 104 ls (vr x :: st) h Q ↔ (X.1 x = 12 ∧ Ev X 251 105 ls (vr (X.2.2.1 x 28) :: st) h Q) := R_gr rfl
theorem e_251_105 {rest : List xV} {a0 : Int} {a1 : Int} {a2 : Int} {a3 : Nat} {o : Nat} : Ev X 251 105 ls ((vr a3) :: (vi a2) :: (vi a1) :: (vi a0) :: vr o :: rest) h Q ↔ ((X.1 o = 12 ∧ wd rest ≤ 8) ∧ Cl X 250 [vr o, vi a0, vi a1, vi a2, vr a3] h (fun r h2 => Ev X 251 106 ls (r.toList ++ rest) h2 Q)) := R_cv (x := o) (as := [vi a0, vi a1, vi a2, vr a3]) (k2 := 250) rfl rfl (Nat.le_of_ble_eq_true rfl)
theorem e_251_106 : Ev X 251 106 ls st h Q ↔ Ev X 251 107 ls (vi 0 :: st) h Q := R_kc rfl (Or.inl ⟨Or.inl rfl, by decide⟩)
theorem e_251_107 {x : Int} : Ev X 251 107 ls (vi x :: st) h Q ↔ (stOK ls 6 = true ∧ Ev X 251 108 (ls.set 6 (some (vi x))) st h Q) := R_is rfl (Or.inr rfl)
theorem e_251_108 : Ev X 251 108 ls st h Q ↔ onI (gl ls 6) (fun z => Ev X 251 109 ls (vi z :: st) h Q) := R_il rfl (Or.inr rfl)
theorem e_251_109 : Ev X 251 109 ls st h Q ↔ onI (gl ls 3) (fun z => Ev X 251 110 ls (vi z :: st) h Q) := R_il rfl (Or.inl rfl)
theorem e_251_110 {x y : Int} : Ev X 251 110 ls (vi y :: vi x :: st) h Q ↔ (if y ≤ x then Ev X 251 126 ls st h Q else Ev X 251 111 ls st h Q) := R_icge rfl
theorem e_251_111 : Ev X 251 111 ls st h Q ↔ onR (gl ls 0) (fun z => Ev X 251 112 ls (vr z :: st) h Q) := R_al rfl (Or.inl rfl)
theorem e_251_112 {x : Nat} : Ev X 251 112 ls (vr x :: st) h Q ↔ (X.1 x = 12 ∧ Ev X 251 113 ls (vr (X.2.2.1 x 19) :: st) h Q) := R_gr rfl
theorem e_251_113 : Ev X 251 113 ls st h Q ↔ onI (gl ls 2) (fun z => Ev X 251 114 ls (vi z :: st) h Q) := R_il rfl (Or.inl rfl)
theorem e_251_114 : Ev X 251 114 ls st h Q ↔ onI (gl ls 6) (fun z => Ev X 251 115 ls (vi z :: st) h Q) := R_il rfl (Or.inr rfl)
theorem e_251_115 {x y : Int} : Ev X 251 115 ls (vi y :: vi x :: st) h Q ↔ ((inR (x + y)) ∧ Ev X 251 116 ls (vi (x + y) :: st) h Q) := R_add rfl
theorem e_251_116 : Ev X 251 116 ls st h Q ↔ onR (gl ls 0) (fun z => Ev X 251 117 ls (vr z :: st) h Q) := R_al rfl (Or.inl rfl)
theorem e_251_117 {x : Nat} : Ev X 251 117 ls (vr x :: st) h Q ↔ (X.1 x = 12 ∧ Ev X 251 118 ls (vr (X.2.2.1 x 29) :: st) h Q) := R_gr rfl
theorem e_251_118 : Ev X 251 118 ls st h Q ↔ onR (gl ls 0) (fun z => Ev X 251 119 ls (vr z :: st) h Q) := R_al rfl (Or.inl rfl)
theorem e_251_119 {x : Nat} : Ev X 251 119 ls (vr x :: st) h Q ↔ (X.1 x = 12 ∧ Ev X 251 120 ls (vr (X.2.2.1 x 28) :: st) h Q) := R_gr rfl
theorem e_251_120 : Ev X 251 120 ls st h Q ↔ onI (gl ls 6) (fun z => Ev X 251 121 ls (vi z :: st) h Q) := R_il rfl (Or.inr rfl)
theorem e_251_121 {x : Nat} {j : Int} : Ev X 251 121 ls (vi j :: vr x :: st) h Q ↔ (((X.1 x = 13 ∨ X.1 x = 20) ∧ 0 ≤ j ∧ j < X.2.1 x) ∧ Ev X 251 122 ls (vi (h.1 x j.toNat) :: st) h Q) := R_ia rfl
theorem e_251_122 {x : Nat} {j : Int} : Ev X 251 122 ls (vi j :: vr x :: st) h Q ↔ (((X.1 x = 13 ∨ X.1 x = 20) ∧ 0 ≤ j ∧ j < X.2.1 x) ∧ Ev X 251 123 ls (vi (h.1 x j.toNat) :: st) h Q) := R_ia rfl
theorem e_251_123 {x : Nat} {j v : Int} : Ev X 251 123 ls (vi v :: vi j :: vr x :: st) h Q ↔ ((X.1 x = 13 ∧ 0 ≤ j ∧ j < X.2.1 x) ∧ Ev X 251 124 ls st (up2 h.1 x j.toNat v, h.2) Q) := R_ias rfl
theorem e_251_124 : Ev X 251 124 ls st h Q ↔ onI (gl ls 6) (fun x => (stOK ls 6 = true ∧ inR (x + 1)) ∧ Ev X 251 125 (ls.set 6 (some (vi (x + 1)))) st h Q) := R_inc rfl
theorem e_251_125 : Ev X 251 125 ls st h Q ↔ Ev X 251 108 ls st h Q := R_go rfl
theorem e_251_126 : Ev X 251 126 ls [] h Q ↔ Q none h := R_vr rfl
-- 252: CellRowsModel.windows(I)I
theorem e_252_0 : Ev X 252 0 ls st h Q ↔ onR (gl ls 0) (fun z => Ev X 252 1 ls (vr z :: st) h Q) := R_al rfl (Or.inl rfl)
theorem e_252_1 : Ev X 252 1 ls st h Q ↔ Ev X 252 2 ls (vi 0 :: st) h Q := R_kc rfl (Or.inl ⟨Or.inl rfl, by decide⟩)
theorem e_252_2 {x : Nat} {v : Int} : Ev X 252 2 ls (vi v :: vr x :: st) h Q ↔ (X.1 x = 12 ∧ Ev X 252 3 ls st (h.1, up2 h.2 x 0 v) Q) := R_pi rfl
theorem e_252_3 : Ev X 252 3 ls st h Q ↔ onI (gl ls 1) (fun z => Ev X 252 4 ls (vi z :: st) h Q) := R_il rfl (Or.inl rfl)
theorem e_252_4 {x : Int} : Ev X 252 4 ls (vi x :: st) h Q ↔ Ev X 252 5 ls (vl x :: st) h Q := R_i2l rfl
theorem e_252_5 : Ev X 252 5 ls st h Q ↔ Ev X 252 6 ls (vl 2 :: st) h Q := R_lc rfl ⟨Or.inr rfl, by decide⟩
theorem e_252_6 : Ev X 252 6 ls st h Q ↔ Ev X 252 7 ls (vl 4 :: st) h Q := R_lc rfl ⟨Or.inr rfl, by decide⟩
theorem e_252_7 {rest : List xV} {a0 : Int} {a1 : Int} {a2 : Int} : Ev X 252 7 ls ((vl a2) :: (vl a1) :: (vl a0) :: rest) h Q ↔ (wd rest ≤ 8 ∧ Cl X 149 [vl a0, vl a1, vl a2] h (fun r h2 => Ev X 252 8 ls (r.toList ++ rest) h2 Q)) := R_cs (as := [vl a0, vl a1, vl a2]) (k2 := 149) rfl rfl (Nat.le_of_ble_eq_true rfl)
theorem e_252_8 {x : Int} : Ev X 252 8 ls (vi x :: st) h Q ↔ (if ¬ x = 0 then Ev X 252 13 ls st h Q else Ev X 252 9 ls st h Q) := R_ifne rfl
theorem e_252_9 : Ev X 252 9 ls st h Q ↔ onR (gl ls 0) (fun z => Ev X 252 10 ls (vr z :: st) h Q) := R_al rfl (Or.inl rfl)
theorem e_252_10 : Ev X 252 10 ls st h Q ↔ Ev X 252 11 ls (vi (-1) :: st) h Q := R_kc rfl (Or.inl ⟨Or.inl rfl, by decide⟩)
theorem e_252_11 {rest : List xV} {a0 : Int} {o : Nat} : Ev X 252 11 ls ((vi a0) :: vr o :: rest) h Q ↔ ((X.1 o = 12 ∧ wd rest ≤ 8) ∧ Cl X 154 [vr o, vi a0] h (fun r h2 => Ev X 252 12 ls (r.toList ++ rest) h2 Q)) := R_cv (x := o) (as := [vi a0]) (k2 := 154) rfl rfl (Nat.le_of_ble_eq_true rfl)
theorem e_252_12 {z : Int} : Ev X 252 12 ls [vi z] h Q ↔ Q (some (vi z)) h := R_ir rfl
theorem e_252_13 : Ev X 252 13 ls st h Q ↔ onR (gl ls 0) (fun z => Ev X 252 14 ls (vr z :: st) h Q) := R_al rfl (Or.inl rfl)
theorem e_252_14 : Ev X 252 14 ls st h Q ↔ Ev X 252 15 ls (vi 13 :: st) h Q := R_kc rfl (Or.inr (Or.inl ⟨rfl, by decide⟩))
theorem e_252_15 {rest : List xV} {a0 : Int} {o : Nat} : Ev X 252 15 ls ((vi a0) :: vr o :: rest) h Q ↔ ((X.1 o = 12 ∧ wd rest ≤ 8) ∧ Cl X 156 [vr o, vi a0] h (fun r h2 => Ev X 252 16 ls (r.toList ++ rest) h2 Q)) := R_cv (x := o) (as := [vi a0]) (k2 := 156) rfl rfl (Nat.le_of_ble_eq_true rfl)
theorem e_252_16 : Ev X 252 16 ls st h Q ↔ onR (gl ls 0) (fun z => Ev X 252 17 ls (vr z :: st) h Q) := R_al rfl (Or.inl rfl)
theorem e_252_17 {rest : List xV}  {o : Nat} : Ev X 252 17 ls (vr o :: rest) h Q ↔ ((X.1 o = 12 ∧ wd rest ≤ 8) ∧ Cl X 206 [vr o] h (fun r h2 => Ev X 252 18 ls (r.toList ++ rest) h2 Q)) := R_cv (x := o) (as := []) (k2 := 206) rfl rfl (Nat.le_of_ble_eq_true rfl)
theorem e_252_18 {x : Int} : Ev X 252 18 ls (vi x :: st) h Q ↔ (stOK ls 2 = true ∧ Ev X 252 19 (ls.set 2 (some (vi x))) st h Q) := R_is rfl (Or.inl rfl)
theorem e_252_19 : Ev X 252 19 ls st h Q ↔ onR (gl ls 0) (fun z => Ev X 252 20 ls (vr z :: st) h Q) := R_al rfl (Or.inl rfl)
theorem e_252_20 {rest : List xV}  {o : Nat} : Ev X 252 20 ls (vr o :: rest) h Q ↔ ((X.1 o = 12 ∧ wd rest ≤ 8) ∧ Cl X 231 [vr o] h (fun r h2 => Ev X 252 21 ls (r.toList ++ rest) h2 Q)) := R_cv (x := o) (as := []) (k2 := 231) rfl rfl (Nat.le_of_ble_eq_true rfl)
theorem e_252_21 : Ev X 252 21 ls st h Q ↔ Ev X 252 22 ls (vi 0 :: st) h Q := R_kc rfl (Or.inl ⟨Or.inl rfl, by decide⟩)
theorem e_252_22 {x : Int} : Ev X 252 22 ls (vi x :: st) h Q ↔ (stOK ls 3 = true ∧ Ev X 252 23 (ls.set 3 (some (vi x))) st h Q) := R_is rfl (Or.inl rfl)
theorem e_252_23 : Ev X 252 23 ls st h Q ↔ onI (gl ls 3) (fun z => Ev X 252 24 ls (vi z :: st) h Q) := R_il rfl (Or.inl rfl)
theorem e_252_24 : Ev X 252 24 ls st h Q ↔ onR (gl ls 0) (fun z => Ev X 252 25 ls (vr z :: st) h Q) := R_al rfl (Or.inl rfl)
theorem e_252_25 {x : Nat} : Ev X 252 25 ls (vr x :: st) h Q ↔ (X.1 x = 12 ∧ Ev X 252 26 ls (vi (h.2 x 18) :: st) h Q) := R_gi rfl
theorem e_252_26 {x y : Int} : Ev X 252 26 ls (vi y :: vi x :: st) h Q ↔ (if y ≤ x then Ev X 252 50 ls st h Q else Ev X 252 27 ls st h Q) := R_icge rfl
theorem e_252_27 : Ev X 252 27 ls st h Q ↔ onR (gl ls 0) (fun z => Ev X 252 28 ls (vr z :: st) h Q) := R_al rfl (Or.inl rfl)
theorem e_252_28 : Ev X 252 28 ls st h Q ↔ onI (gl ls 3) (fun z => Ev X 252 29 ls (vi z :: st) h Q) := R_il rfl (Or.inl rfl)
theorem e_252_29 {rest : List xV} {a0 : Int} {o : Nat} : Ev X 252 29 ls ((vi a0) :: vr o :: rest) h Q ↔ ((X.1 o = 12 ∧ wd rest ≤ 8) ∧ Cl X 233 [vr o, vi a0] h (fun r h2 => Ev X 252 30 ls (r.toList ++ rest) h2 Q)) := R_cv (x := o) (as := [vi a0]) (k2 := 233) rfl rfl (Nat.le_of_ble_eq_true rfl)
theorem e_252_30 : Ev X 252 30 ls st h Q ↔ Ev X 252 31 ls (vi 0 :: st) h Q := R_kc rfl (Or.inl ⟨Or.inl rfl, by decide⟩)
theorem e_252_31 {x : Int} : Ev X 252 31 ls (vi x :: st) h Q ↔ (stOK ls 4 = true ∧ Ev X 252 32 (ls.set 4 (some (vi x))) st h Q) := R_is rfl (Or.inr rfl)
theorem e_252_32 : Ev X 252 32 ls st h Q ↔ onI (gl ls 4) (fun z => Ev X 252 33 ls (vi z :: st) h Q) := R_il rfl (Or.inr rfl)
theorem e_252_33 : Ev X 252 33 ls st h Q ↔ onI (gl ls 1) (fun z => Ev X 252 34 ls (vi z :: st) h Q) := R_il rfl (Or.inl rfl)
theorem e_252_34 {x y : Int} : Ev X 252 34 ls (vi y :: vi x :: st) h Q ↔ ((inR (x + y)) ∧ Ev X 252 35 ls (vi (x + y) :: st) h Q) := R_add rfl
theorem e_252_35 : Ev X 252 35 ls st h Q ↔ onR (gl ls 0) (fun z => Ev X 252 36 ls (vr z :: st) h Q) := R_al rfl (Or.inl rfl)
theorem e_252_36 {x : Nat} : Ev X 252 36 ls (vr x :: st) h Q ↔ (X.1 x = 12 ∧ Ev X 252 37 ls (vi (h.2 x 20) :: st) h Q) := R_gi rfl
theorem e_252_37 {x y : Int} : Ev X 252 37 ls (vi y :: vi x :: st) h Q ↔ (if y < x then Ev X 252 48 ls st h Q else Ev X 252 38 ls st h Q) := R_icgt rfl
theorem e_252_38 : Ev X 252 38 ls st h Q ↔ onR (gl ls 0) (fun z => Ev X 252 39 ls (vr z :: st) h Q) := R_al rfl (Or.inl rfl)
theorem e_252_39 : Ev X 252 39 ls st h Q ↔ onR (gl ls 0) (fun z => Ev X 252 40 ls (vr z :: st) h Q) := R_al rfl (Or.inl rfl)
theorem e_252_40 {x : Nat} : Ev X 252 40 ls (vr x :: st) h Q ↔ (X.1 x = 12 ∧ Ev X 252 41 ls (vr (X.2.2.1 x 14) :: st) h Q) := R_gr rfl
theorem e_252_41 : Ev X 252 41 ls st h Q ↔ onI (gl ls 3) (fun z => Ev X 252 42 ls (vi z :: st) h Q) := R_il rfl (Or.inl rfl)
theorem e_252_42 {x : Nat} {j : Int} : Ev X 252 42 ls (vi j :: vr x :: st) h Q ↔ (((X.1 x = 13 ∨ X.1 x = 20) ∧ 0 ≤ j ∧ j < X.2.1 x) ∧ Ev X 252 43 ls (vi (h.1 x j.toNat) :: st) h Q) := R_ia rfl
theorem e_252_43 : Ev X 252 43 ls st h Q ↔ onI (gl ls 4) (fun z => Ev X 252 44 ls (vi z :: st) h Q) := R_il rfl (Or.inr rfl)
theorem e_252_44 : Ev X 252 44 ls st h Q ↔ onI (gl ls 1) (fun z => Ev X 252 45 ls (vi z :: st) h Q) := R_il rfl (Or.inl rfl)
theorem e_252_45 {rest : List xV} {a0 : Int} {a1 : Int} {a2 : Int} {o : Nat} : Ev X 252 45 ls ((vi a2) :: (vi a1) :: (vi a0) :: vr o :: rest) h Q ↔ ((X.1 o = 12 ∧ wd rest ≤ 8) ∧ Cl X 251 [vr o, vi a0, vi a1, vi a2] h (fun r h2 => Ev X 252 46 ls (r.toList ++ rest) h2 Q)) := R_cv (x := o) (as := [vi a0, vi a1, vi a2]) (k2 := 251) rfl rfl (Nat.le_of_ble_eq_true rfl)
theorem e_252_46 : Ev X 252 46 ls st h Q ↔ onI (gl ls 4) (fun x => (stOK ls 4 = true ∧ inR (x + 1)) ∧ Ev X 252 47 (ls.set 4 (some (vi (x + 1)))) st h Q) := R_inc rfl
theorem e_252_47 : Ev X 252 47 ls st h Q ↔ Ev X 252 32 ls st h Q := R_go rfl
theorem e_252_48 : Ev X 252 48 ls st h Q ↔ onI (gl ls 3) (fun x => (stOK ls 3 = true ∧ inR (x + 1)) ∧ Ev X 252 49 (ls.set 3 (some (vi (x + 1)))) st h Q) := R_inc rfl
theorem e_252_49 : Ev X 252 49 ls st h Q ↔ Ev X 252 23 ls st h Q := R_go rfl
theorem e_252_50 : Ev X 252 50 ls st h Q ↔ onR (gl ls 0) (fun z => Ev X 252 51 ls (vr z :: st) h Q) := R_al rfl (Or.inl rfl)
theorem e_252_51 : Ev X 252 51 ls st h Q ↔ onI (gl ls 2) (fun z => Ev X 252 52 ls (vi z :: st) h Q) := R_il rfl (Or.inl rfl)
theorem e_252_52 : Ev X 252 52 ls st h Q ↔ onR (gl ls 0) (fun z => Ev X 252 53 ls (vr z :: st) h Q) := R_al rfl (Or.inl rfl)
theorem e_252_53 {rest : List xV}  {o : Nat} : Ev X 252 53 ls (vr o :: rest) h Q ↔ ((X.1 o = 12 ∧ wd rest ≤ 8) ∧ Cl X 206 [vr o] h (fun r h2 => Ev X 252 54 ls (r.toList ++ rest) h2 Q)) := R_cv (x := o) (as := []) (k2 := 206) rfl rfl (Nat.le_of_ble_eq_true rfl)
theorem e_252_54 {x y : Int} : Ev X 252 54 ls (vi y :: vi x :: st) h Q ↔ ((inR (x - y)) ∧ Ev X 252 55 ls (vi (x - y) :: st) h Q) := R_sub rfl
theorem e_252_55 {rest : List xV} {a0 : Int} {o : Nat} : Ev X 252 55 ls ((vi a0) :: vr o :: rest) h Q ↔ ((X.1 o = 12 ∧ wd rest ≤ 8) ∧ Cl X 153 [vr o, vi a0] h (fun r h2 => Ev X 252 56 ls (r.toList ++ rest) h2 Q)) := R_cv (x := o) (as := [vi a0]) (k2 := 153) rfl rfl (Nat.le_of_ble_eq_true rfl)
theorem e_252_56 {z : Int} : Ev X 252 56 ls [vi z] h Q ↔ Q (some (vi z)) h := R_ir rfl
-- 253: CellRowsModel.areLike(II)Z
theorem e_253_0 : Ev X 253 0 ls st h Q ↔ onR (gl ls 0) (fun z => Ev X 253 1 ls (vr z :: st) h Q) := R_al rfl (Or.inl rfl)
theorem e_253_1 : Ev X 253 1 ls st h Q ↔ onI (gl ls 1) (fun z => Ev X 253 2 ls (vi z :: st) h Q) := R_il rfl (Or.inl rfl)
theorem e_253_2 {rest : List xV} {a0 : Int} {o : Nat} : Ev X 253 2 ls ((vi a0) :: vr o :: rest) h Q ↔ ((X.1 o = 12 ∧ wd rest ≤ 8) ∧ Cl X 164 [vr o, vi a0] h (fun r h2 => Ev X 253 3 ls (r.toList ++ rest) h2 Q)) := R_cv (x := o) (as := [vi a0]) (k2 := 164) rfl rfl (Nat.le_of_ble_eq_true rfl)
theorem e_253_3 {x : Int} : Ev X 253 3 ls (vi x :: st) h Q ↔ (if x = 0 then Ev X 253 24 ls st h Q else Ev X 253 4 ls st h Q) := R_ifeq rfl
theorem e_253_4 : Ev X 253 4 ls st h Q ↔ onR (gl ls 0) (fun z => Ev X 253 5 ls (vr z :: st) h Q) := R_al rfl (Or.inl rfl)
theorem e_253_5 : Ev X 253 5 ls st h Q ↔ onI (gl ls 2) (fun z => Ev X 253 6 ls (vi z :: st) h Q) := R_il rfl (Or.inl rfl)
theorem e_253_6 {rest : List xV} {a0 : Int} {o : Nat} : Ev X 253 6 ls ((vi a0) :: vr o :: rest) h Q ↔ ((X.1 o = 12 ∧ wd rest ≤ 8) ∧ Cl X 164 [vr o, vi a0] h (fun r h2 => Ev X 253 7 ls (r.toList ++ rest) h2 Q)) := R_cv (x := o) (as := [vi a0]) (k2 := 164) rfl rfl (Nat.le_of_ble_eq_true rfl)
theorem e_253_7 {x : Int} : Ev X 253 7 ls (vi x :: st) h Q ↔ (if x = 0 then Ev X 253 24 ls st h Q else Ev X 253 8 ls st h Q) := R_ifeq rfl
theorem e_253_8 : Ev X 253 8 ls st h Q ↔ onR (gl ls 0) (fun z => Ev X 253 9 ls (vr z :: st) h Q) := R_al rfl (Or.inl rfl)
theorem e_253_9 : Ev X 253 9 ls st h Q ↔ onI (gl ls 1) (fun z => Ev X 253 10 ls (vi z :: st) h Q) := R_il rfl (Or.inl rfl)
theorem e_253_10 {rest : List xV} {a0 : Int} {o : Nat} : Ev X 253 10 ls ((vi a0) :: vr o :: rest) h Q ↔ ((X.1 o = 12 ∧ wd rest ≤ 8) ∧ Cl X 160 [vr o, vi a0] h (fun r h2 => Ev X 253 11 ls (r.toList ++ rest) h2 Q)) := R_cv (x := o) (as := [vi a0]) (k2 := 160) rfl rfl (Nat.le_of_ble_eq_true rfl)
theorem e_253_11 : Ev X 253 11 ls st h Q ↔ onR (gl ls 0) (fun z => Ev X 253 12 ls (vr z :: st) h Q) := R_al rfl (Or.inl rfl)
theorem e_253_12 : Ev X 253 12 ls st h Q ↔ onI (gl ls 2) (fun z => Ev X 253 13 ls (vi z :: st) h Q) := R_il rfl (Or.inl rfl)
theorem e_253_13 {rest : List xV} {a0 : Int} {o : Nat} : Ev X 253 13 ls ((vi a0) :: vr o :: rest) h Q ↔ ((X.1 o = 12 ∧ wd rest ≤ 8) ∧ Cl X 160 [vr o, vi a0] h (fun r h2 => Ev X 253 14 ls (r.toList ++ rest) h2 Q)) := R_cv (x := o) (as := [vi a0]) (k2 := 160) rfl rfl (Nat.le_of_ble_eq_true rfl)
theorem e_253_14 {x y : Int} : Ev X 253 14 ls (vi y :: vi x :: st) h Q ↔ (if ¬ x = y then Ev X 253 24 ls st h Q else Ev X 253 15 ls st h Q) := R_icne rfl
theorem e_253_15 : Ev X 253 15 ls st h Q ↔ onR (gl ls 0) (fun z => Ev X 253 16 ls (vr z :: st) h Q) := R_al rfl (Or.inl rfl)
theorem e_253_16 : Ev X 253 16 ls st h Q ↔ onI (gl ls 1) (fun z => Ev X 253 17 ls (vi z :: st) h Q) := R_il rfl (Or.inl rfl)
theorem e_253_17 {rest : List xV} {a0 : Int} {o : Nat} : Ev X 253 17 ls ((vi a0) :: vr o :: rest) h Q ↔ ((X.1 o = 12 ∧ wd rest ≤ 8) ∧ Cl X 161 [vr o, vi a0] h (fun r h2 => Ev X 253 18 ls (r.toList ++ rest) h2 Q)) := R_cv (x := o) (as := [vi a0]) (k2 := 161) rfl rfl (Nat.le_of_ble_eq_true rfl)
theorem e_253_18 : Ev X 253 18 ls st h Q ↔ onR (gl ls 0) (fun z => Ev X 253 19 ls (vr z :: st) h Q) := R_al rfl (Or.inl rfl)
theorem e_253_19 : Ev X 253 19 ls st h Q ↔ onI (gl ls 2) (fun z => Ev X 253 20 ls (vi z :: st) h Q) := R_il rfl (Or.inl rfl)
theorem e_253_20 {rest : List xV} {a0 : Int} {o : Nat} : Ev X 253 20 ls ((vi a0) :: vr o :: rest) h Q ↔ ((X.1 o = 12 ∧ wd rest ≤ 8) ∧ Cl X 161 [vr o, vi a0] h (fun r h2 => Ev X 253 21 ls (r.toList ++ rest) h2 Q)) := R_cv (x := o) (as := [vi a0]) (k2 := 161) rfl rfl (Nat.le_of_ble_eq_true rfl)
theorem e_253_21 {x y : Int} : Ev X 253 21 ls (vi y :: vi x :: st) h Q ↔ (if ¬ x = y then Ev X 253 24 ls st h Q else Ev X 253 22 ls st h Q) := R_icne rfl
theorem e_253_22 : Ev X 253 22 ls st h Q ↔ Ev X 253 23 ls (vi 1 :: st) h Q := R_kc rfl (Or.inl ⟨Or.inl rfl, by decide⟩)
theorem e_253_23 : Ev X 253 23 ls st h Q ↔ Ev X 253 25 ls st h Q := R_go rfl
theorem e_253_24 : Ev X 253 24 ls st h Q ↔ Ev X 253 25 ls (vi 0 :: st) h Q := R_kc rfl (Or.inl ⟨Or.inl rfl, by decide⟩)
theorem e_253_25 {z : Int} : Ev X 253 25 ls [vi z] h Q ↔ ((z = 0 ∨ z = 1) ∧ Q (some (vi z)) h) := R_zr rfl
-- 254: CellRowsModel.exchangeSpots(II)V
theorem e_254_0 : Ev X 254 0 ls st h Q ↔ onR (gl ls 0) (fun z => Ev X 254 1 ls (vr z :: st) h Q) := R_al rfl (Or.inl rfl)
theorem e_254_1 {x : Nat} : Ev X 254 1 ls (vr x :: st) h Q ↔ (X.1 x = 12 ∧ Ev X 254 2 ls (vr (X.2.2.1 x 6) :: st) h Q) := R_gr rfl
theorem e_254_2 : Ev X 254 2 ls st h Q ↔ onI (gl ls 1) (fun z => Ev X 254 3 ls (vi z :: st) h Q) := R_il rfl (Or.inl rfl)
theorem e_254_3 {rest : List xV} {a0 : Int} : Ev X 254 3 ls ((vi a0) :: rest) h Q ↔ (wd rest ≤ 8 ∧ Cl X 158 [vi a0] h (fun r h2 => Ev X 254 4 ls (r.toList ++ rest) h2 Q)) := R_cs (as := [vi a0]) (k2 := 158) rfl rfl (Nat.le_of_ble_eq_true rfl)
theorem e_254_4 : Ev X 254 4 ls st h Q ↔ Ev X 254 5 ls (vi 5 :: st) h Q := R_kc rfl (Or.inl ⟨Or.inl rfl, by decide⟩)
theorem e_254_5 {x y : Int} : Ev X 254 5 ls (vi y :: vi x :: st) h Q ↔ ((inR (x + y)) ∧ Ev X 254 6 ls (vi (x + y) :: st) h Q) := R_add rfl
theorem e_254_6 {x : Nat} {j : Int} : Ev X 254 6 ls (vi j :: vr x :: st) h Q ↔ (((X.1 x = 13 ∨ X.1 x = 20) ∧ 0 ≤ j ∧ j < X.2.1 x) ∧ Ev X 254 7 ls (vi (h.1 x j.toNat) :: st) h Q) := R_ia rfl
theorem e_254_7 {x : Int} : Ev X 254 7 ls (vi x :: st) h Q ↔ (stOK ls 3 = true ∧ Ev X 254 8 (ls.set 3 (some (vi x))) st h Q) := R_is rfl (Or.inl rfl)
theorem e_254_8 : Ev X 254 8 ls st h Q ↔ onR (gl ls 0) (fun z => Ev X 254 9 ls (vr z :: st) h Q) := R_al rfl (Or.inl rfl)
theorem e_254_9 {x : Nat} : Ev X 254 9 ls (vr x :: st) h Q ↔ (X.1 x = 12 ∧ Ev X 254 10 ls (vr (X.2.2.1 x 6) :: st) h Q) := R_gr rfl
theorem e_254_10 : Ev X 254 10 ls st h Q ↔ onI (gl ls 1) (fun z => Ev X 254 11 ls (vi z :: st) h Q) := R_il rfl (Or.inl rfl)
theorem e_254_11 {rest : List xV} {a0 : Int} : Ev X 254 11 ls ((vi a0) :: rest) h Q ↔ (wd rest ≤ 8 ∧ Cl X 158 [vi a0] h (fun r h2 => Ev X 254 12 ls (r.toList ++ rest) h2 Q)) := R_cs (as := [vi a0]) (k2 := 158) rfl rfl (Nat.le_of_ble_eq_true rfl)
theorem e_254_12 : Ev X 254 12 ls st h Q ↔ Ev X 254 13 ls (vi 6 :: st) h Q := R_kc rfl (Or.inr (Or.inl ⟨rfl, by decide⟩))
theorem e_254_13 {x y : Int} : Ev X 254 13 ls (vi y :: vi x :: st) h Q ↔ ((inR (x + y)) ∧ Ev X 254 14 ls (vi (x + y) :: st) h Q) := R_add rfl
theorem e_254_14 {x : Nat} {j : Int} : Ev X 254 14 ls (vi j :: vr x :: st) h Q ↔ (((X.1 x = 13 ∨ X.1 x = 20) ∧ 0 ≤ j ∧ j < X.2.1 x) ∧ Ev X 254 15 ls (vi (h.1 x j.toNat) :: st) h Q) := R_ia rfl
theorem e_254_15 {x : Int} : Ev X 254 15 ls (vi x :: st) h Q ↔ (stOK ls 4 = true ∧ Ev X 254 16 (ls.set 4 (some (vi x))) st h Q) := R_is rfl (Or.inr rfl)
theorem e_254_16 : Ev X 254 16 ls st h Q ↔ onR (gl ls 0) (fun z => Ev X 254 17 ls (vr z :: st) h Q) := R_al rfl (Or.inl rfl)
theorem e_254_17 : Ev X 254 17 ls st h Q ↔ onI (gl ls 1) (fun z => Ev X 254 18 ls (vi z :: st) h Q) := R_il rfl (Or.inl rfl)
theorem e_254_18 : Ev X 254 18 ls st h Q ↔ onR (gl ls 0) (fun z => Ev X 254 19 ls (vr z :: st) h Q) := R_al rfl (Or.inl rfl)
theorem e_254_19 {x : Nat} : Ev X 254 19 ls (vr x :: st) h Q ↔ (X.1 x = 12 ∧ Ev X 254 20 ls (vr (X.2.2.1 x 6) :: st) h Q) := R_gr rfl
theorem e_254_20 : Ev X 254 20 ls st h Q ↔ onI (gl ls 2) (fun z => Ev X 254 21 ls (vi z :: st) h Q) := R_il rfl (Or.inl rfl)
theorem e_254_21 {rest : List xV} {a0 : Int} : Ev X 254 21 ls ((vi a0) :: rest) h Q ↔ (wd rest ≤ 8 ∧ Cl X 158 [vi a0] h (fun r h2 => Ev X 254 22 ls (r.toList ++ rest) h2 Q)) := R_cs (as := [vi a0]) (k2 := 158) rfl rfl (Nat.le_of_ble_eq_true rfl)
theorem e_254_22 : Ev X 254 22 ls st h Q ↔ Ev X 254 23 ls (vi 5 :: st) h Q := R_kc rfl (Or.inl ⟨Or.inl rfl, by decide⟩)
theorem e_254_23 {x y : Int} : Ev X 254 23 ls (vi y :: vi x :: st) h Q ↔ ((inR (x + y)) ∧ Ev X 254 24 ls (vi (x + y) :: st) h Q) := R_add rfl
theorem e_254_24 {x : Nat} {j : Int} : Ev X 254 24 ls (vi j :: vr x :: st) h Q ↔ (((X.1 x = 13 ∨ X.1 x = 20) ∧ 0 ≤ j ∧ j < X.2.1 x) ∧ Ev X 254 25 ls (vi (h.1 x j.toNat) :: st) h Q) := R_ia rfl
theorem e_254_25 : Ev X 254 25 ls st h Q ↔ onR (gl ls 0) (fun z => Ev X 254 26 ls (vr z :: st) h Q) := R_al rfl (Or.inl rfl)
theorem e_254_26 {x : Nat} : Ev X 254 26 ls (vr x :: st) h Q ↔ (X.1 x = 12 ∧ Ev X 254 27 ls (vr (X.2.2.1 x 6) :: st) h Q) := R_gr rfl
theorem e_254_27 : Ev X 254 27 ls st h Q ↔ onI (gl ls 2) (fun z => Ev X 254 28 ls (vi z :: st) h Q) := R_il rfl (Or.inl rfl)
theorem e_254_28 {rest : List xV} {a0 : Int} : Ev X 254 28 ls ((vi a0) :: rest) h Q ↔ (wd rest ≤ 8 ∧ Cl X 158 [vi a0] h (fun r h2 => Ev X 254 29 ls (r.toList ++ rest) h2 Q)) := R_cs (as := [vi a0]) (k2 := 158) rfl rfl (Nat.le_of_ble_eq_true rfl)
theorem e_254_29 : Ev X 254 29 ls st h Q ↔ Ev X 254 30 ls (vi 6 :: st) h Q := R_kc rfl (Or.inr (Or.inl ⟨rfl, by decide⟩))
theorem e_254_30 {x y : Int} : Ev X 254 30 ls (vi y :: vi x :: st) h Q ↔ ((inR (x + y)) ∧ Ev X 254 31 ls (vi (x + y) :: st) h Q) := R_add rfl
theorem e_254_31 {x : Nat} {j : Int} : Ev X 254 31 ls (vi j :: vr x :: st) h Q ↔ (((X.1 x = 13 ∨ X.1 x = 20) ∧ 0 ≤ j ∧ j < X.2.1 x) ∧ Ev X 254 32 ls (vi (h.1 x j.toNat) :: st) h Q) := R_ia rfl
theorem e_254_32 {rest : List xV} {a0 : Int} {a1 : Int} {a2 : Int} {o : Nat} : Ev X 254 32 ls ((vi a2) :: (vi a1) :: (vi a0) :: vr o :: rest) h Q ↔ ((X.1 o = 12 ∧ wd rest ≤ 8) ∧ Cl X 166 [vr o, vi a0, vi a1, vi a2] h (fun r h2 => Ev X 254 33 ls (r.toList ++ rest) h2 Q)) := R_cv (x := o) (as := [vi a0, vi a1, vi a2]) (k2 := 166) rfl rfl (Nat.le_of_ble_eq_true rfl)
theorem e_254_33 : Ev X 254 33 ls st h Q ↔ onR (gl ls 0) (fun z => Ev X 254 34 ls (vr z :: st) h Q) := R_al rfl (Or.inl rfl)
theorem e_254_34 : Ev X 254 34 ls st h Q ↔ onI (gl ls 2) (fun z => Ev X 254 35 ls (vi z :: st) h Q) := R_il rfl (Or.inl rfl)
theorem e_254_35 : Ev X 254 35 ls st h Q ↔ onI (gl ls 3) (fun z => Ev X 254 36 ls (vi z :: st) h Q) := R_il rfl (Or.inl rfl)
theorem e_254_36 : Ev X 254 36 ls st h Q ↔ onI (gl ls 4) (fun z => Ev X 254 37 ls (vi z :: st) h Q) := R_il rfl (Or.inr rfl)
theorem e_254_37 {rest : List xV} {a0 : Int} {a1 : Int} {a2 : Int} {o : Nat} : Ev X 254 37 ls ((vi a2) :: (vi a1) :: (vi a0) :: vr o :: rest) h Q ↔ ((X.1 o = 12 ∧ wd rest ≤ 8) ∧ Cl X 166 [vr o, vi a0, vi a1, vi a2] h (fun r h2 => Ev X 254 38 ls (r.toList ++ rest) h2 Q)) := R_cv (x := o) (as := [vi a0, vi a1, vi a2]) (k2 := 166) rfl rfl (Nat.le_of_ble_eq_true rfl)
theorem e_254_38 : Ev X 254 38 ls [] h Q ↔ Q none h := R_vr rfl
-- 255: CellRowsModel.swaps()I
theorem e_255_0 : Ev X 255 0 ls st h Q ↔ onR (gl ls 0) (fun z => Ev X 255 1 ls (vr z :: st) h Q) := R_al rfl (Or.inl rfl)
theorem e_255_1 : Ev X 255 1 ls st h Q ↔ Ev X 255 2 ls (vi 0 :: st) h Q := R_kc rfl (Or.inl ⟨Or.inl rfl, by decide⟩)
theorem e_255_2 {x : Nat} {v : Int} : Ev X 255 2 ls (vi v :: vr x :: st) h Q ↔ (X.1 x = 12 ∧ Ev X 255 3 ls st (h.1, up2 h.2 x 0 v) Q) := R_pi rfl
theorem e_255_3 : Ev X 255 3 ls st h Q ↔ onR (gl ls 0) (fun z => Ev X 255 4 ls (vr z :: st) h Q) := R_al rfl (Or.inl rfl)
theorem e_255_4 : Ev X 255 4 ls st h Q ↔ Ev X 255 5 ls (vi 14 :: st) h Q := R_kc rfl (Or.inr (Or.inl ⟨rfl, by decide⟩))
theorem e_255_5 {rest : List xV} {a0 : Int} {o : Nat} : Ev X 255 5 ls ((vi a0) :: vr o :: rest) h Q ↔ ((X.1 o = 12 ∧ wd rest ≤ 8) ∧ Cl X 156 [vr o, vi a0] h (fun r h2 => Ev X 255 6 ls (r.toList ++ rest) h2 Q)) := R_cv (x := o) (as := [vi a0]) (k2 := 156) rfl rfl (Nat.le_of_ble_eq_true rfl)
theorem e_255_6 : Ev X 255 6 ls st h Q ↔ onR (gl ls 0) (fun z => Ev X 255 7 ls (vr z :: st) h Q) := R_al rfl (Or.inl rfl)
theorem e_255_7 {rest : List xV}  {o : Nat} : Ev X 255 7 ls (vr o :: rest) h Q ↔ ((X.1 o = 12 ∧ wd rest ≤ 8) ∧ Cl X 206 [vr o] h (fun r h2 => Ev X 255 8 ls (r.toList ++ rest) h2 Q)) := R_cv (x := o) (as := []) (k2 := 206) rfl rfl (Nat.le_of_ble_eq_true rfl)
theorem e_255_8 {x : Int} : Ev X 255 8 ls (vi x :: st) h Q ↔ (stOK ls 1 = true ∧ Ev X 255 9 (ls.set 1 (some (vi x))) st h Q) := R_is rfl (Or.inl rfl)
theorem e_255_9 : Ev X 255 9 ls st h Q ↔ Ev X 255 10 ls (vi 0 :: st) h Q := R_kc rfl (Or.inl ⟨Or.inl rfl, by decide⟩)
theorem e_255_10 {x : Int} : Ev X 255 10 ls (vi x :: st) h Q ↔ (stOK ls 2 = true ∧ Ev X 255 11 (ls.set 2 (some (vi x))) st h Q) := R_is rfl (Or.inl rfl)
theorem e_255_11 : Ev X 255 11 ls st h Q ↔ onI (gl ls 2) (fun z => Ev X 255 12 ls (vi z :: st) h Q) := R_il rfl (Or.inl rfl)
theorem e_255_12 : Ev X 255 12 ls st h Q ↔ onR (gl ls 0) (fun z => Ev X 255 13 ls (vr z :: st) h Q) := R_al rfl (Or.inl rfl)
theorem e_255_13 {x : Nat} : Ev X 255 13 ls (vr x :: st) h Q ↔ (X.1 x = 12 ∧ Ev X 255 14 ls (vr (X.2.2.1 x 6) :: st) h Q) := R_gr rfl
theorem e_255_14 : Ev X 255 14 ls st h Q ↔ Ev X 255 15 ls (vi 2 :: st) h Q := R_kc rfl (Or.inl ⟨Or.inl rfl, by decide⟩)
theorem e_255_15 {x : Nat} {j : Int} : Ev X 255 15 ls (vi j :: vr x :: st) h Q ↔ (((X.1 x = 13 ∨ X.1 x = 20) ∧ 0 ≤ j ∧ j < X.2.1 x) ∧ Ev X 255 16 ls (vi (h.1 x j.toNat) :: st) h Q) := R_ia rfl
theorem e_255_16 {x y : Int} : Ev X 255 16 ls (vi y :: vi x :: st) h Q ↔ (if y ≤ x then Ev X 255 51 ls st h Q else Ev X 255 17 ls st h Q) := R_icge rfl
theorem e_255_17 : Ev X 255 17 ls st h Q ↔ onI (gl ls 2) (fun z => Ev X 255 18 ls (vi z :: st) h Q) := R_il rfl (Or.inl rfl)
theorem e_255_18 : Ev X 255 18 ls st h Q ↔ Ev X 255 19 ls (vi 1 :: st) h Q := R_kc rfl (Or.inl ⟨Or.inl rfl, by decide⟩)
theorem e_255_19 {x y : Int} : Ev X 255 19 ls (vi y :: vi x :: st) h Q ↔ ((inR (x + y)) ∧ Ev X 255 20 ls (vi (x + y) :: st) h Q) := R_add rfl
theorem e_255_20 {x : Int} : Ev X 255 20 ls (vi x :: st) h Q ↔ (stOK ls 3 = true ∧ Ev X 255 21 (ls.set 3 (some (vi x))) st h Q) := R_is rfl (Or.inl rfl)
theorem e_255_21 : Ev X 255 21 ls st h Q ↔ onI (gl ls 3) (fun z => Ev X 255 22 ls (vi z :: st) h Q) := R_il rfl (Or.inl rfl)
theorem e_255_22 : Ev X 255 22 ls st h Q ↔ onR (gl ls 0) (fun z => Ev X 255 23 ls (vr z :: st) h Q) := R_al rfl (Or.inl rfl)
theorem e_255_23 {x : Nat} : Ev X 255 23 ls (vr x :: st) h Q ↔ (X.1 x = 12 ∧ Ev X 255 24 ls (vr (X.2.2.1 x 6) :: st) h Q) := R_gr rfl
theorem e_255_24 : Ev X 255 24 ls st h Q ↔ Ev X 255 25 ls (vi 2 :: st) h Q := R_kc rfl (Or.inl ⟨Or.inl rfl, by decide⟩)
theorem e_255_25 {x : Nat} {j : Int} : Ev X 255 25 ls (vi j :: vr x :: st) h Q ↔ (((X.1 x = 13 ∨ X.1 x = 20) ∧ 0 ≤ j ∧ j < X.2.1 x) ∧ Ev X 255 26 ls (vi (h.1 x j.toNat) :: st) h Q) := R_ia rfl
theorem e_255_26 {x y : Int} : Ev X 255 26 ls (vi y :: vi x :: st) h Q ↔ (if y ≤ x then Ev X 255 49 ls st h Q else Ev X 255 27 ls st h Q) := R_icge rfl
theorem e_255_27 : Ev X 255 27 ls st h Q ↔ onR (gl ls 0) (fun z => Ev X 255 28 ls (vr z :: st) h Q) := R_al rfl (Or.inl rfl)
theorem e_255_28 : Ev X 255 28 ls st h Q ↔ onI (gl ls 2) (fun z => Ev X 255 29 ls (vi z :: st) h Q) := R_il rfl (Or.inl rfl)
theorem e_255_29 : Ev X 255 29 ls st h Q ↔ onI (gl ls 3) (fun z => Ev X 255 30 ls (vi z :: st) h Q) := R_il rfl (Or.inl rfl)
theorem e_255_30 {rest : List xV} {a0 : Int} {a1 : Int} {o : Nat} : Ev X 255 30 ls ((vi a1) :: (vi a0) :: vr o :: rest) h Q ↔ ((X.1 o = 12 ∧ wd rest ≤ 8) ∧ Cl X 253 [vr o, vi a0, vi a1] h (fun r h2 => Ev X 255 31 ls (r.toList ++ rest) h2 Q)) := R_cv (x := o) (as := [vi a0, vi a1]) (k2 := 253) rfl rfl (Nat.le_of_ble_eq_true rfl)
theorem e_255_31 {x : Int} : Ev X 255 31 ls (vi x :: st) h Q ↔ (if x = 0 then Ev X 255 47 ls st h Q else Ev X 255 32 ls st h Q) := R_ifeq rfl
theorem e_255_32 : Ev X 255 32 ls st h Q ↔ onR (gl ls 0) (fun z => Ev X 255 33 ls (vr z :: st) h Q) := R_al rfl (Or.inl rfl)
theorem e_255_33 {rest : List xV}  {o : Nat} : Ev X 255 33 ls (vr o :: rest) h Q ↔ ((X.1 o = 12 ∧ wd rest ≤ 8) ∧ Cl X 206 [vr o] h (fun r h2 => Ev X 255 34 ls (r.toList ++ rest) h2 Q)) := R_cv (x := o) (as := []) (k2 := 206) rfl rfl (Nat.le_of_ble_eq_true rfl)
theorem e_255_34 {x : Int} : Ev X 255 34 ls (vi x :: st) h Q ↔ (stOK ls 4 = true ∧ Ev X 255 35 (ls.set 4 (some (vi x))) st h Q) := R_is rfl (Or.inr rfl)
theorem e_255_35 : Ev X 255 35 ls st h Q ↔ onR (gl ls 0) (fun z => Ev X 255 36 ls (vr z :: st) h Q) := R_al rfl (Or.inl rfl)
theorem e_255_36 : Ev X 255 36 ls st h Q ↔ onI (gl ls 2) (fun z => Ev X 255 37 ls (vi z :: st) h Q) := R_il rfl (Or.inl rfl)
theorem e_255_37 : Ev X 255 37 ls st h Q ↔ onI (gl ls 3) (fun z => Ev X 255 38 ls (vi z :: st) h Q) := R_il rfl (Or.inl rfl)
theorem e_255_38 {rest : List xV} {a0 : Int} {a1 : Int} {o : Nat} : Ev X 255 38 ls ((vi a1) :: (vi a0) :: vr o :: rest) h Q ↔ ((X.1 o = 12 ∧ wd rest ≤ 8) ∧ Cl X 254 [vr o, vi a0, vi a1] h (fun r h2 => Ev X 255 39 ls (r.toList ++ rest) h2 Q)) := R_cv (x := o) (as := [vi a0, vi a1]) (k2 := 254) rfl rfl (Nat.le_of_ble_eq_true rfl)
theorem e_255_39 : Ev X 255 39 ls st h Q ↔ onR (gl ls 0) (fun z => Ev X 255 40 ls (vr z :: st) h Q) := R_al rfl (Or.inl rfl)
theorem e_255_40 {rest : List xV}  {o : Nat} : Ev X 255 40 ls (vr o :: rest) h Q ↔ ((X.1 o = 12 ∧ wd rest ≤ 8) ∧ Cl X 206 [vr o] h (fun r h2 => Ev X 255 41 ls (r.toList ++ rest) h2 Q)) := R_cv (x := o) (as := []) (k2 := 206) rfl rfl (Nat.le_of_ble_eq_true rfl)
theorem e_255_41 : Ev X 255 41 ls st h Q ↔ onI (gl ls 4) (fun z => Ev X 255 42 ls (vi z :: st) h Q) := R_il rfl (Or.inr rfl)
theorem e_255_42 {x y : Int} : Ev X 255 42 ls (vi y :: vi x :: st) h Q ↔ (if x < y then Ev X 255 47 ls st h Q else Ev X 255 43 ls st h Q) := R_iclt rfl
theorem e_255_43 : Ev X 255 43 ls st h Q ↔ onR (gl ls 0) (fun z => Ev X 255 44 ls (vr z :: st) h Q) := R_al rfl (Or.inl rfl)
theorem e_255_44 : Ev X 255 44 ls st h Q ↔ onI (gl ls 2) (fun z => Ev X 255 45 ls (vi z :: st) h Q) := R_il rfl (Or.inl rfl)
theorem e_255_45 : Ev X 255 45 ls st h Q ↔ onI (gl ls 3) (fun z => Ev X 255 46 ls (vi z :: st) h Q) := R_il rfl (Or.inl rfl)
theorem e_255_46 {rest : List xV} {a0 : Int} {a1 : Int} {o : Nat} : Ev X 255 46 ls ((vi a1) :: (vi a0) :: vr o :: rest) h Q ↔ ((X.1 o = 12 ∧ wd rest ≤ 8) ∧ Cl X 254 [vr o, vi a0, vi a1] h (fun r h2 => Ev X 255 47 ls (r.toList ++ rest) h2 Q)) := R_cv (x := o) (as := [vi a0, vi a1]) (k2 := 254) rfl rfl (Nat.le_of_ble_eq_true rfl)
theorem e_255_47 : Ev X 255 47 ls st h Q ↔ onI (gl ls 3) (fun x => (stOK ls 3 = true ∧ inR (x + 1)) ∧ Ev X 255 48 (ls.set 3 (some (vi (x + 1)))) st h Q) := R_inc rfl
theorem e_255_48 : Ev X 255 48 ls st h Q ↔ Ev X 255 21 ls st h Q := R_go rfl
theorem e_255_49 : Ev X 255 49 ls st h Q ↔ onI (gl ls 2) (fun x => (stOK ls 2 = true ∧ inR (x + 1)) ∧ Ev X 255 50 (ls.set 2 (some (vi (x + 1)))) st h Q) := R_inc rfl
theorem e_255_50 : Ev X 255 50 ls st h Q ↔ Ev X 255 11 ls st h Q := R_go rfl
theorem e_255_51 : Ev X 255 51 ls st h Q ↔ onR (gl ls 0) (fun z => Ev X 255 52 ls (vr z :: st) h Q) := R_al rfl (Or.inl rfl)
theorem e_255_52 : Ev X 255 52 ls st h Q ↔ onI (gl ls 1) (fun z => Ev X 255 53 ls (vi z :: st) h Q) := R_il rfl (Or.inl rfl)
theorem e_255_53 : Ev X 255 53 ls st h Q ↔ onR (gl ls 0) (fun z => Ev X 255 54 ls (vr z :: st) h Q) := R_al rfl (Or.inl rfl)
theorem e_255_54 {rest : List xV}  {o : Nat} : Ev X 255 54 ls (vr o :: rest) h Q ↔ ((X.1 o = 12 ∧ wd rest ≤ 8) ∧ Cl X 206 [vr o] h (fun r h2 => Ev X 255 55 ls (r.toList ++ rest) h2 Q)) := R_cv (x := o) (as := []) (k2 := 206) rfl rfl (Nat.le_of_ble_eq_true rfl)
theorem e_255_55 {x y : Int} : Ev X 255 55 ls (vi y :: vi x :: st) h Q ↔ ((inR (x - y)) ∧ Ev X 255 56 ls (vi (x - y) :: st) h Q) := R_sub rfl
theorem e_255_56 {rest : List xV} {a0 : Int} {o : Nat} : Ev X 255 56 ls ((vi a0) :: vr o :: rest) h Q ↔ ((X.1 o = 12 ∧ wd rest ≤ 8) ∧ Cl X 153 [vr o, vi a0] h (fun r h2 => Ev X 255 57 ls (r.toList ++ rest) h2 Q)) := R_cv (x := o) (as := [vi a0]) (k2 := 153) rfl rfl (Nat.le_of_ble_eq_true rfl)
theorem e_255_57 {z : Int} : Ev X 255 57 ls [vi z] h Q ↔ Q (some (vi z)) h := R_ir rfl
-- 256: CellRowsModel.hop(I)V
theorem e_256_0 : Ev X 256 0 ls st h Q ↔ onR (gl ls 0) (fun z => Ev X 256 1 ls (vr z :: st) h Q) := R_al rfl (Or.inl rfl)
theorem e_256_1 {x : Nat} : Ev X 256 1 ls (vr x :: st) h Q ↔ (X.1 x = 12 ∧ Ev X 256 2 ls (vr (X.2.2.1 x 6) :: st) h Q) := R_gr rfl
theorem e_256_2 : Ev X 256 2 ls st h Q ↔ onI (gl ls 1) (fun z => Ev X 256 3 ls (vi z :: st) h Q) := R_il rfl (Or.inl rfl)
theorem e_256_3 {rest : List xV} {a0 : Int} : Ev X 256 3 ls ((vi a0) :: rest) h Q ↔ (wd rest ≤ 8 ∧ Cl X 158 [vi a0] h (fun r h2 => Ev X 256 4 ls (r.toList ++ rest) h2 Q)) := R_cs (as := [vi a0]) (k2 := 158) rfl rfl (Nat.le_of_ble_eq_true rfl)
theorem e_256_4 : Ev X 256 4 ls st h Q ↔ Ev X 256 5 ls (vi 5 :: st) h Q := R_kc rfl (Or.inl ⟨Or.inl rfl, by decide⟩)
theorem e_256_5 {x y : Int} : Ev X 256 5 ls (vi y :: vi x :: st) h Q ↔ ((inR (x + y)) ∧ Ev X 256 6 ls (vi (x + y) :: st) h Q) := R_add rfl
theorem e_256_6 {x : Nat} {j : Int} : Ev X 256 6 ls (vi j :: vr x :: st) h Q ↔ (((X.1 x = 13 ∨ X.1 x = 20) ∧ 0 ≤ j ∧ j < X.2.1 x) ∧ Ev X 256 7 ls (vi (h.1 x j.toNat) :: st) h Q) := R_ia rfl
theorem e_256_7 {x : Int} : Ev X 256 7 ls (vi x :: st) h Q ↔ (stOK ls 2 = true ∧ Ev X 256 8 (ls.set 2 (some (vi x))) st h Q) := R_is rfl (Or.inl rfl)
theorem e_256_8 : Ev X 256 8 ls st h Q ↔ onR (gl ls 0) (fun z => Ev X 256 9 ls (vr z :: st) h Q) := R_al rfl (Or.inl rfl)
theorem e_256_9 {x : Nat} : Ev X 256 9 ls (vr x :: st) h Q ↔ (X.1 x = 12 ∧ Ev X 256 10 ls (vr (X.2.2.1 x 6) :: st) h Q) := R_gr rfl
theorem e_256_10 : Ev X 256 10 ls st h Q ↔ onI (gl ls 1) (fun z => Ev X 256 11 ls (vi z :: st) h Q) := R_il rfl (Or.inl rfl)
theorem e_256_11 {rest : List xV} {a0 : Int} : Ev X 256 11 ls ((vi a0) :: rest) h Q ↔ (wd rest ≤ 8 ∧ Cl X 158 [vi a0] h (fun r h2 => Ev X 256 12 ls (r.toList ++ rest) h2 Q)) := R_cs (as := [vi a0]) (k2 := 158) rfl rfl (Nat.le_of_ble_eq_true rfl)
theorem e_256_12 : Ev X 256 12 ls st h Q ↔ Ev X 256 13 ls (vi 6 :: st) h Q := R_kc rfl (Or.inr (Or.inl ⟨rfl, by decide⟩))
theorem e_256_13 {x y : Int} : Ev X 256 13 ls (vi y :: vi x :: st) h Q ↔ ((inR (x + y)) ∧ Ev X 256 14 ls (vi (x + y) :: st) h Q) := R_add rfl
theorem e_256_14 {x : Nat} {j : Int} : Ev X 256 14 ls (vi j :: vr x :: st) h Q ↔ (((X.1 x = 13 ∨ X.1 x = 20) ∧ 0 ≤ j ∧ j < X.2.1 x) ∧ Ev X 256 15 ls (vi (h.1 x j.toNat) :: st) h Q) := R_ia rfl
theorem e_256_15 {x : Int} : Ev X 256 15 ls (vi x :: st) h Q ↔ (stOK ls 3 = true ∧ Ev X 256 16 (ls.set 3 (some (vi x))) st h Q) := R_is rfl (Or.inl rfl)
theorem e_256_16 : Ev X 256 16 ls st h Q ↔ onR (gl ls 0) (fun z => Ev X 256 17 ls (vr z :: st) h Q) := R_al rfl (Or.inl rfl)
theorem e_256_17 {rest : List xV}  {o : Nat} : Ev X 256 17 ls (vr o :: rest) h Q ↔ ((X.1 o = 12 ∧ wd rest ≤ 8) ∧ Cl X 206 [vr o] h (fun r h2 => Ev X 256 18 ls (r.toList ++ rest) h2 Q)) := R_cv (x := o) (as := []) (k2 := 206) rfl rfl (Nat.le_of_ble_eq_true rfl)
theorem e_256_18 {x : Int} : Ev X 256 18 ls (vi x :: st) h Q ↔ (stOK ls 4 = true ∧ Ev X 256 19 (ls.set 4 (some (vi x))) st h Q) := R_is rfl (Or.inr rfl)
theorem e_256_19 : Ev X 256 19 ls st h Q ↔ Ev X 256 20 ls (vi 0 :: st) h Q := R_kc rfl (Or.inl ⟨Or.inl rfl, by decide⟩)
theorem e_256_20 {x : Int} : Ev X 256 20 ls (vi x :: st) h Q ↔ (stOK ls 5 = true ∧ Ev X 256 21 (ls.set 5 (some (vi x))) st h Q) := R_is rfl (Or.inr rfl)
theorem e_256_21 : Ev X 256 21 ls st h Q ↔ onI (gl ls 5) (fun z => Ev X 256 22 ls (vi z :: st) h Q) := R_il rfl (Or.inr rfl)
theorem e_256_22 : Ev X 256 22 ls st h Q ↔ onR (gl ls 0) (fun z => Ev X 256 23 ls (vr z :: st) h Q) := R_al rfl (Or.inl rfl)
theorem e_256_23 {x : Nat} : Ev X 256 23 ls (vr x :: st) h Q ↔ (X.1 x = 12 ∧ Ev X 256 24 ls (vi (h.2 x 2) :: st) h Q) := R_gi rfl
theorem e_256_24 {x y : Int} : Ev X 256 24 ls (vi y :: vi x :: st) h Q ↔ (if y ≤ x then Ev X 256 59 ls st h Q else Ev X 256 25 ls st h Q) := R_icge rfl
theorem e_256_25 : Ev X 256 25 ls st h Q ↔ Ev X 256 26 ls (vi 0 :: st) h Q := R_kc rfl (Or.inl ⟨Or.inl rfl, by decide⟩)
theorem e_256_26 {x : Int} : Ev X 256 26 ls (vi x :: st) h Q ↔ (stOK ls 6 = true ∧ Ev X 256 27 (ls.set 6 (some (vi x))) st h Q) := R_is rfl (Or.inr rfl)
theorem e_256_27 : Ev X 256 27 ls st h Q ↔ onI (gl ls 6) (fun z => Ev X 256 28 ls (vi z :: st) h Q) := R_il rfl (Or.inr rfl)
theorem e_256_28 : Ev X 256 28 ls st h Q ↔ onR (gl ls 0) (fun z => Ev X 256 29 ls (vr z :: st) h Q) := R_al rfl (Or.inl rfl)
theorem e_256_29 {x : Nat} : Ev X 256 29 ls (vr x :: st) h Q ↔ (X.1 x = 12 ∧ Ev X 256 30 ls (vi (h.2 x 3) :: st) h Q) := R_gi rfl
theorem e_256_30 {x y : Int} : Ev X 256 30 ls (vi y :: vi x :: st) h Q ↔ (if y ≤ x then Ev X 256 57 ls st h Q else Ev X 256 31 ls st h Q) := R_icge rfl
theorem e_256_31 : Ev X 256 31 ls st h Q ↔ onR (gl ls 0) (fun z => Ev X 256 32 ls (vr z :: st) h Q) := R_al rfl (Or.inl rfl)
theorem e_256_32 : Ev X 256 32 ls st h Q ↔ onI (gl ls 1) (fun z => Ev X 256 33 ls (vi z :: st) h Q) := R_il rfl (Or.inl rfl)
theorem e_256_33 : Ev X 256 33 ls st h Q ↔ onI (gl ls 5) (fun z => Ev X 256 34 ls (vi z :: st) h Q) := R_il rfl (Or.inr rfl)
theorem e_256_34 : Ev X 256 34 ls st h Q ↔ onI (gl ls 6) (fun z => Ev X 256 35 ls (vi z :: st) h Q) := R_il rfl (Or.inr rfl)
theorem e_256_35 : Ev X 256 35 ls st h Q ↔ Ev X 256 36 ls (vi 0 :: st) h Q := R_kc rfl (Or.inl ⟨Or.inl rfl, by decide⟩)
theorem e_256_36 {rest : List xV} {a0 : Int} {a1 : Int} {a2 : Int} {a3 : Int} {o : Nat} : Ev X 256 36 ls ((vi a3) :: (vi a2) :: (vi a1) :: (vi a0) :: vr o :: rest) h Q ↔ ((X.1 o = 12 ∧ wd rest ≤ 8) ∧ Cl X 176 [vr o, vi a0, vi a1, vi a2, vi a3] h (fun r h2 => Ev X 256 37 ls (r.toList ++ rest) h2 Q)) := R_cv (x := o) (as := [vi a0, vi a1, vi a2, vi a3]) (k2 := 176) rfl rfl (Nat.le_of_ble_eq_true rfl)
theorem e_256_37 {x : Int} : Ev X 256 37 ls (vi x :: st) h Q ↔ (if x = 0 then Ev X 256 55 ls st h Q else Ev X 256 38 ls st h Q) := R_ifeq rfl
theorem e_256_38 : Ev X 256 38 ls st h Q ↔ onR (gl ls 0) (fun z => Ev X 256 39 ls (vr z :: st) h Q) := R_al rfl (Or.inl rfl)
theorem e_256_39 : Ev X 256 39 ls st h Q ↔ onI (gl ls 1) (fun z => Ev X 256 40 ls (vi z :: st) h Q) := R_il rfl (Or.inl rfl)
theorem e_256_40 : Ev X 256 40 ls st h Q ↔ onI (gl ls 5) (fun z => Ev X 256 41 ls (vi z :: st) h Q) := R_il rfl (Or.inr rfl)
theorem e_256_41 : Ev X 256 41 ls st h Q ↔ onI (gl ls 6) (fun z => Ev X 256 42 ls (vi z :: st) h Q) := R_il rfl (Or.inr rfl)
theorem e_256_42 {rest : List xV} {a0 : Int} {a1 : Int} {a2 : Int} {o : Nat} : Ev X 256 42 ls ((vi a2) :: (vi a1) :: (vi a0) :: vr o :: rest) h Q ↔ ((X.1 o = 12 ∧ wd rest ≤ 8) ∧ Cl X 166 [vr o, vi a0, vi a1, vi a2] h (fun r h2 => Ev X 256 43 ls (r.toList ++ rest) h2 Q)) := R_cv (x := o) (as := [vi a0, vi a1, vi a2]) (k2 := 166) rfl rfl (Nat.le_of_ble_eq_true rfl)
theorem e_256_43 : Ev X 256 43 ls st h Q ↔ onR (gl ls 0) (fun z => Ev X 256 44 ls (vr z :: st) h Q) := R_al rfl (Or.inl rfl)
theorem e_256_44 {rest : List xV}  {o : Nat} : Ev X 256 44 ls (vr o :: rest) h Q ↔ ((X.1 o = 12 ∧ wd rest ≤ 8) ∧ Cl X 206 [vr o] h (fun r h2 => Ev X 256 45 ls (r.toList ++ rest) h2 Q)) := R_cv (x := o) (as := []) (k2 := 206) rfl rfl (Nat.le_of_ble_eq_true rfl)
theorem e_256_45 {x : Int} : Ev X 256 45 ls (vi x :: st) h Q ↔ (stOK ls 7 = true ∧ Ev X 256 46 (ls.set 7 (some (vi x))) st h Q) := R_is rfl (Or.inr rfl)
theorem e_256_46 : Ev X 256 46 ls st h Q ↔ onI (gl ls 7) (fun z => Ev X 256 47 ls (vi z :: st) h Q) := R_il rfl (Or.inr rfl)
theorem e_256_47 : Ev X 256 47 ls st h Q ↔ onI (gl ls 4) (fun z => Ev X 256 48 ls (vi z :: st) h Q) := R_il rfl (Or.inr rfl)
theorem e_256_48 {x y : Int} : Ev X 256 48 ls (vi y :: vi x :: st) h Q ↔ (if y ≤ x then Ev X 256 55 ls st h Q else Ev X 256 49 ls st h Q) := R_icge rfl
theorem e_256_49 : Ev X 256 49 ls st h Q ↔ onI (gl ls 7) (fun z => Ev X 256 50 ls (vi z :: st) h Q) := R_il rfl (Or.inr rfl)
theorem e_256_50 {x : Int} : Ev X 256 50 ls (vi x :: st) h Q ↔ (stOK ls 4 = true ∧ Ev X 256 51 (ls.set 4 (some (vi x))) st h Q) := R_is rfl (Or.inr rfl)
theorem e_256_51 : Ev X 256 51 ls st h Q ↔ onI (gl ls 5) (fun z => Ev X 256 52 ls (vi z :: st) h Q) := R_il rfl (Or.inr rfl)
theorem e_256_52 {x : Int} : Ev X 256 52 ls (vi x :: st) h Q ↔ (stOK ls 2 = true ∧ Ev X 256 53 (ls.set 2 (some (vi x))) st h Q) := R_is rfl (Or.inl rfl)
theorem e_256_53 : Ev X 256 53 ls st h Q ↔ onI (gl ls 6) (fun z => Ev X 256 54 ls (vi z :: st) h Q) := R_il rfl (Or.inr rfl)
theorem e_256_54 {x : Int} : Ev X 256 54 ls (vi x :: st) h Q ↔ (stOK ls 3 = true ∧ Ev X 256 55 (ls.set 3 (some (vi x))) st h Q) := R_is rfl (Or.inl rfl)
theorem e_256_55 : Ev X 256 55 ls st h Q ↔ onI (gl ls 6) (fun x => (stOK ls 6 = true ∧ inR (x + 1)) ∧ Ev X 256 56 (ls.set 6 (some (vi (x + 1)))) st h Q) := R_inc rfl
theorem e_256_56 : Ev X 256 56 ls st h Q ↔ Ev X 256 27 ls st h Q := R_go rfl
theorem e_256_57 : Ev X 256 57 ls st h Q ↔ onI (gl ls 5) (fun x => (stOK ls 5 = true ∧ inR (x + 1)) ∧ Ev X 256 58 (ls.set 5 (some (vi (x + 1)))) st h Q) := R_inc rfl
theorem e_256_58 : Ev X 256 58 ls st h Q ↔ Ev X 256 21 ls st h Q := R_go rfl
theorem e_256_59 : Ev X 256 59 ls st h Q ↔ onR (gl ls 0) (fun z => Ev X 256 60 ls (vr z :: st) h Q) := R_al rfl (Or.inl rfl)
theorem e_256_60 : Ev X 256 60 ls st h Q ↔ onI (gl ls 1) (fun z => Ev X 256 61 ls (vi z :: st) h Q) := R_il rfl (Or.inl rfl)
theorem e_256_61 : Ev X 256 61 ls st h Q ↔ onI (gl ls 2) (fun z => Ev X 256 62 ls (vi z :: st) h Q) := R_il rfl (Or.inl rfl)
theorem e_256_62 : Ev X 256 62 ls st h Q ↔ onI (gl ls 3) (fun z => Ev X 256 63 ls (vi z :: st) h Q) := R_il rfl (Or.inl rfl)
theorem e_256_63 {rest : List xV} {a0 : Int} {a1 : Int} {a2 : Int} {o : Nat} : Ev X 256 63 ls ((vi a2) :: (vi a1) :: (vi a0) :: vr o :: rest) h Q ↔ ((X.1 o = 12 ∧ wd rest ≤ 8) ∧ Cl X 166 [vr o, vi a0, vi a1, vi a2] h (fun r h2 => Ev X 256 64 ls (r.toList ++ rest) h2 Q)) := R_cv (x := o) (as := [vi a0, vi a1, vi a2]) (k2 := 166) rfl rfl (Nat.le_of_ble_eq_true rfl)
theorem e_256_64 : Ev X 256 64 ls [] h Q ↔ Q none h := R_vr rfl
-- 257: CellRowsModel.hops()I
theorem e_257_0 : Ev X 257 0 ls st h Q ↔ onR (gl ls 0) (fun z => Ev X 257 1 ls (vr z :: st) h Q) := R_al rfl (Or.inl rfl)
theorem e_257_1 : Ev X 257 1 ls st h Q ↔ Ev X 257 2 ls (vi 0 :: st) h Q := R_kc rfl (Or.inl ⟨Or.inl rfl, by decide⟩)
theorem e_257_2 {x : Nat} {v : Int} : Ev X 257 2 ls (vi v :: vr x :: st) h Q ↔ (X.1 x = 12 ∧ Ev X 257 3 ls st (h.1, up2 h.2 x 0 v) Q) := R_pi rfl
theorem e_257_3 : Ev X 257 3 ls st h Q ↔ onR (gl ls 0) (fun z => Ev X 257 4 ls (vr z :: st) h Q) := R_al rfl (Or.inl rfl)
theorem e_257_4 : Ev X 257 4 ls st h Q ↔ Ev X 257 5 ls (vi 15 :: st) h Q := R_kc rfl (Or.inr (Or.inl ⟨rfl, by decide⟩))
theorem e_257_5 {rest : List xV} {a0 : Int} {o : Nat} : Ev X 257 5 ls ((vi a0) :: vr o :: rest) h Q ↔ ((X.1 o = 12 ∧ wd rest ≤ 8) ∧ Cl X 156 [vr o, vi a0] h (fun r h2 => Ev X 257 6 ls (r.toList ++ rest) h2 Q)) := R_cv (x := o) (as := [vi a0]) (k2 := 156) rfl rfl (Nat.le_of_ble_eq_true rfl)
theorem e_257_6 : Ev X 257 6 ls st h Q ↔ onR (gl ls 0) (fun z => Ev X 257 7 ls (vr z :: st) h Q) := R_al rfl (Or.inl rfl)
theorem e_257_7 {rest : List xV}  {o : Nat} : Ev X 257 7 ls (vr o :: rest) h Q ↔ ((X.1 o = 12 ∧ wd rest ≤ 8) ∧ Cl X 206 [vr o] h (fun r h2 => Ev X 257 8 ls (r.toList ++ rest) h2 Q)) := R_cv (x := o) (as := []) (k2 := 206) rfl rfl (Nat.le_of_ble_eq_true rfl)
theorem e_257_8 {x : Int} : Ev X 257 8 ls (vi x :: st) h Q ↔ (stOK ls 1 = true ∧ Ev X 257 9 (ls.set 1 (some (vi x))) st h Q) := R_is rfl (Or.inl rfl)
theorem e_257_9 : Ev X 257 9 ls st h Q ↔ Ev X 257 10 ls (vi 0 :: st) h Q := R_kc rfl (Or.inl ⟨Or.inl rfl, by decide⟩)
theorem e_257_10 {x : Int} : Ev X 257 10 ls (vi x :: st) h Q ↔ (stOK ls 2 = true ∧ Ev X 257 11 (ls.set 2 (some (vi x))) st h Q) := R_is rfl (Or.inl rfl)
theorem e_257_11 : Ev X 257 11 ls st h Q ↔ onI (gl ls 2) (fun z => Ev X 257 12 ls (vi z :: st) h Q) := R_il rfl (Or.inl rfl)
theorem e_257_12 : Ev X 257 12 ls st h Q ↔ onR (gl ls 0) (fun z => Ev X 257 13 ls (vr z :: st) h Q) := R_al rfl (Or.inl rfl)
theorem e_257_13 {x : Nat} : Ev X 257 13 ls (vr x :: st) h Q ↔ (X.1 x = 12 ∧ Ev X 257 14 ls (vr (X.2.2.1 x 6) :: st) h Q) := R_gr rfl
theorem e_257_14 : Ev X 257 14 ls st h Q ↔ Ev X 257 15 ls (vi 2 :: st) h Q := R_kc rfl (Or.inl ⟨Or.inl rfl, by decide⟩)
theorem e_257_15 {x : Nat} {j : Int} : Ev X 257 15 ls (vi j :: vr x :: st) h Q ↔ (((X.1 x = 13 ∨ X.1 x = 20) ∧ 0 ≤ j ∧ j < X.2.1 x) ∧ Ev X 257 16 ls (vi (h.1 x j.toNat) :: st) h Q) := R_ia rfl
theorem e_257_16 {x y : Int} : Ev X 257 16 ls (vi y :: vi x :: st) h Q ↔ (if y ≤ x then Ev X 257 26 ls st h Q else Ev X 257 17 ls st h Q) := R_icge rfl
theorem e_257_17 : Ev X 257 17 ls st h Q ↔ onR (gl ls 0) (fun z => Ev X 257 18 ls (vr z :: st) h Q) := R_al rfl (Or.inl rfl)
theorem e_257_18 : Ev X 257 18 ls st h Q ↔ onI (gl ls 2) (fun z => Ev X 257 19 ls (vi z :: st) h Q) := R_il rfl (Or.inl rfl)
theorem e_257_19 {rest : List xV} {a0 : Int} {o : Nat} : Ev X 257 19 ls ((vi a0) :: vr o :: rest) h Q ↔ ((X.1 o = 12 ∧ wd rest ≤ 8) ∧ Cl X 164 [vr o, vi a0] h (fun r h2 => Ev X 257 20 ls (r.toList ++ rest) h2 Q)) := R_cv (x := o) (as := [vi a0]) (k2 := 164) rfl rfl (Nat.le_of_ble_eq_true rfl)
theorem e_257_20 {x : Int} : Ev X 257 20 ls (vi x :: st) h Q ↔ (if x = 0 then Ev X 257 24 ls st h Q else Ev X 257 21 ls st h Q) := R_ifeq rfl
theorem e_257_21 : Ev X 257 21 ls st h Q ↔ onR (gl ls 0) (fun z => Ev X 257 22 ls (vr z :: st) h Q) := R_al rfl (Or.inl rfl)
theorem e_257_22 : Ev X 257 22 ls st h Q ↔ onI (gl ls 2) (fun z => Ev X 257 23 ls (vi z :: st) h Q) := R_il rfl (Or.inl rfl)
theorem e_257_23 {rest : List xV} {a0 : Int} {o : Nat} : Ev X 257 23 ls ((vi a0) :: vr o :: rest) h Q ↔ ((X.1 o = 12 ∧ wd rest ≤ 8) ∧ Cl X 256 [vr o, vi a0] h (fun r h2 => Ev X 257 24 ls (r.toList ++ rest) h2 Q)) := R_cv (x := o) (as := [vi a0]) (k2 := 256) rfl rfl (Nat.le_of_ble_eq_true rfl)
theorem e_257_24 : Ev X 257 24 ls st h Q ↔ onI (gl ls 2) (fun x => (stOK ls 2 = true ∧ inR (x + 1)) ∧ Ev X 257 25 (ls.set 2 (some (vi (x + 1)))) st h Q) := R_inc rfl
theorem e_257_25 : Ev X 257 25 ls st h Q ↔ Ev X 257 11 ls st h Q := R_go rfl
theorem e_257_26 : Ev X 257 26 ls st h Q ↔ onR (gl ls 0) (fun z => Ev X 257 27 ls (vr z :: st) h Q) := R_al rfl (Or.inl rfl)
theorem e_257_27 : Ev X 257 27 ls st h Q ↔ onI (gl ls 1) (fun z => Ev X 257 28 ls (vi z :: st) h Q) := R_il rfl (Or.inl rfl)
theorem e_257_28 : Ev X 257 28 ls st h Q ↔ onR (gl ls 0) (fun z => Ev X 257 29 ls (vr z :: st) h Q) := R_al rfl (Or.inl rfl)
theorem e_257_29 {rest : List xV}  {o : Nat} : Ev X 257 29 ls (vr o :: rest) h Q ↔ ((X.1 o = 12 ∧ wd rest ≤ 8) ∧ Cl X 206 [vr o] h (fun r h2 => Ev X 257 30 ls (r.toList ++ rest) h2 Q)) := R_cv (x := o) (as := []) (k2 := 206) rfl rfl (Nat.le_of_ble_eq_true rfl)
theorem e_257_30 {x y : Int} : Ev X 257 30 ls (vi y :: vi x :: st) h Q ↔ ((inR (x - y)) ∧ Ev X 257 31 ls (vi (x - y) :: st) h Q) := R_sub rfl
theorem e_257_31 {rest : List xV} {a0 : Int} {o : Nat} : Ev X 257 31 ls ((vi a0) :: vr o :: rest) h Q ↔ ((X.1 o = 12 ∧ wd rest ≤ 8) ∧ Cl X 153 [vr o, vi a0] h (fun r h2 => Ev X 257 32 ls (r.toList ++ rest) h2 Q)) := R_cv (x := o) (as := [vi a0]) (k2 := 153) rfl rfl (Nat.le_of_ble_eq_true rfl)
theorem e_257_32 {z : Int} : Ev X 257 32 ls [vi z] h Q ↔ Q (some (vi z)) h := R_ir rfl
-- 258: CellRowsModel.haveNet(II)Z
theorem e_258_0 : Ev X 258 0 ls st h Q ↔ Ev X 258 1 ls (vi 0 :: st) h Q := R_kc rfl (Or.inl ⟨Or.inl rfl, by decide⟩)
theorem e_258_1 {x : Int} : Ev X 258 1 ls (vi x :: st) h Q ↔ (stOK ls 3 = true ∧ Ev X 258 2 (ls.set 3 (some (vi x))) st h Q) := R_is rfl (Or.inl rfl)
theorem e_258_2 : Ev X 258 2 ls st h Q ↔ Ev X 258 3 ls (vi 0 :: st) h Q := R_kc rfl (Or.inl ⟨Or.inl rfl, by decide⟩)
theorem e_258_3 {x : Int} : Ev X 258 3 ls (vi x :: st) h Q ↔ (stOK ls 4 = true ∧ Ev X 258 4 (ls.set 4 (some (vi x))) st h Q) := R_is rfl (Or.inr rfl)
theorem e_258_4 : Ev X 258 4 ls st h Q ↔ onI (gl ls 4) (fun z => Ev X 258 5 ls (vi z :: st) h Q) := R_il rfl (Or.inr rfl)
theorem e_258_5 : Ev X 258 5 ls st h Q ↔ onR (gl ls 0) (fun z => Ev X 258 6 ls (vr z :: st) h Q) := R_al rfl (Or.inl rfl)
theorem e_258_6 {x : Nat} : Ev X 258 6 ls (vr x :: st) h Q ↔ (X.1 x = 12 ∧ Ev X 258 7 ls (vr (X.2.2.1 x 6) :: st) h Q) := R_gr rfl
theorem e_258_7 : Ev X 258 7 ls st h Q ↔ Ev X 258 8 ls (vi 3 :: st) h Q := R_kc rfl (Or.inl ⟨Or.inl rfl, by decide⟩)
theorem e_258_8 {x : Nat} {j : Int} : Ev X 258 8 ls (vi j :: vr x :: st) h Q ↔ (((X.1 x = 13 ∨ X.1 x = 20) ∧ 0 ≤ j ∧ j < X.2.1 x) ∧ Ev X 258 9 ls (vi (h.1 x j.toNat) :: st) h Q) := R_ia rfl
theorem e_258_9 {x y : Int} : Ev X 258 9 ls (vi y :: vi x :: st) h Q ↔ (if y ≤ x then Ev X 258 30 ls st h Q else Ev X 258 10 ls st h Q) := R_icge rfl
theorem e_258_10 : Ev X 258 10 ls st h Q ↔ onI (gl ls 3) (fun z => Ev X 258 11 ls (vi z :: st) h Q) := R_il rfl (Or.inl rfl)
theorem e_258_11 {x : Int} : Ev X 258 11 ls (vi x :: st) h Q ↔ (if ¬ x = 0 then Ev X 258 24 ls st h Q else Ev X 258 12 ls st h Q) := R_ifne rfl
theorem e_258_12 : Ev X 258 12 ls st h Q ↔ onR (gl ls 0) (fun z => Ev X 258 13 ls (vr z :: st) h Q) := R_al rfl (Or.inl rfl)
theorem e_258_13 : Ev X 258 13 ls st h Q ↔ onI (gl ls 4) (fun z => Ev X 258 14 ls (vi z :: st) h Q) := R_il rfl (Or.inr rfl)
theorem e_258_14 : Ev X 258 14 ls st h Q ↔ onI (gl ls 1) (fun z => Ev X 258 15 ls (vi z :: st) h Q) := R_il rfl (Or.inl rfl)
theorem e_258_15 {rest : List xV} {a0 : Int} {a1 : Int} {o : Nat} : Ev X 258 15 ls ((vi a1) :: (vi a0) :: vr o :: rest) h Q ↔ ((X.1 o = 12 ∧ wd rest ≤ 8) ∧ Cl X 223 [vr o, vi a0, vi a1] h (fun r h2 => Ev X 258 16 ls (r.toList ++ rest) h2 Q)) := R_cv (x := o) (as := [vi a0, vi a1]) (k2 := 223) rfl rfl (Nat.le_of_ble_eq_true rfl)
theorem e_258_16 : Ev X 258 16 ls st h Q ↔ Ev X 258 17 ls (vi (-1) :: st) h Q := R_kc rfl (Or.inl ⟨Or.inl rfl, by decide⟩)
theorem e_258_17 {x y : Int} : Ev X 258 17 ls (vi y :: vi x :: st) h Q ↔ (if x = y then Ev X 258 26 ls st h Q else Ev X 258 18 ls st h Q) := R_iceq rfl
theorem e_258_18 : Ev X 258 18 ls st h Q ↔ onR (gl ls 0) (fun z => Ev X 258 19 ls (vr z :: st) h Q) := R_al rfl (Or.inl rfl)
theorem e_258_19 : Ev X 258 19 ls st h Q ↔ onI (gl ls 4) (fun z => Ev X 258 20 ls (vi z :: st) h Q) := R_il rfl (Or.inr rfl)
theorem e_258_20 : Ev X 258 20 ls st h Q ↔ onI (gl ls 2) (fun z => Ev X 258 21 ls (vi z :: st) h Q) := R_il rfl (Or.inl rfl)
theorem e_258_21 {rest : List xV} {a0 : Int} {a1 : Int} {o : Nat} : Ev X 258 21 ls ((vi a1) :: (vi a0) :: vr o :: rest) h Q ↔ ((X.1 o = 12 ∧ wd rest ≤ 8) ∧ Cl X 223 [vr o, vi a0, vi a1] h (fun r h2 => Ev X 258 22 ls (r.toList ++ rest) h2 Q)) := R_cv (x := o) (as := [vi a0, vi a1]) (k2 := 223) rfl rfl (Nat.le_of_ble_eq_true rfl)
theorem e_258_22 : Ev X 258 22 ls st h Q ↔ Ev X 258 23 ls (vi (-1) :: st) h Q := R_kc rfl (Or.inl ⟨Or.inl rfl, by decide⟩)
theorem e_258_23 {x y : Int} : Ev X 258 23 ls (vi y :: vi x :: st) h Q ↔ (if x = y then Ev X 258 26 ls st h Q else Ev X 258 24 ls st h Q) := R_iceq rfl
theorem e_258_24 : Ev X 258 24 ls st h Q ↔ Ev X 258 25 ls (vi 1 :: st) h Q := R_kc rfl (Or.inl ⟨Or.inl rfl, by decide⟩)
theorem e_258_25 : Ev X 258 25 ls st h Q ↔ Ev X 258 27 ls st h Q := R_go rfl
theorem e_258_26 : Ev X 258 26 ls st h Q ↔ Ev X 258 27 ls (vi 0 :: st) h Q := R_kc rfl (Or.inl ⟨Or.inl rfl, by decide⟩)
theorem e_258_27 {x : Int} : Ev X 258 27 ls (vi x :: st) h Q ↔ (stOK ls 3 = true ∧ Ev X 258 28 (ls.set 3 (some (vi x))) st h Q) := R_is rfl (Or.inl rfl)
theorem e_258_28 : Ev X 258 28 ls st h Q ↔ onI (gl ls 4) (fun x => (stOK ls 4 = true ∧ inR (x + 1)) ∧ Ev X 258 29 (ls.set 4 (some (vi (x + 1)))) st h Q) := R_inc rfl
theorem e_258_29 : Ev X 258 29 ls st h Q ↔ Ev X 258 4 ls st h Q := R_go rfl
theorem e_258_30 : Ev X 258 30 ls st h Q ↔ onI (gl ls 3) (fun z => Ev X 258 31 ls (vi z :: st) h Q) := R_il rfl (Or.inl rfl)
theorem e_258_31 {z : Int} : Ev X 258 31 ls [vi z] h Q ↔ ((z = 0 ∨ z = 1) ∧ Q (some (vi z)) h) := R_zr rfl
-- 259: CellRowsModel.layGroup(II)V
theorem e_259_0 : Ev X 259 0 ls st h Q ↔ onR (gl ls 0) (fun z => Ev X 259 1 ls (vr z :: st) h Q) := R_al rfl (Or.inl rfl)
theorem e_259_1 : Ev X 259 1 ls st h Q ↔ Ev X 259 2 ls (vi 0 :: st) h Q := R_kc rfl (Or.inl ⟨Or.inl rfl, by decide⟩)
theorem e_259_2 {x : Nat} {v : Int} : Ev X 259 2 ls (vi v :: vr x :: st) h Q ↔ (X.1 x = 12 ∧ Ev X 259 3 ls st (h.1, up2 h.2 x 34 v) Q) := R_pi rfl
theorem e_259_3 : Ev X 259 3 ls st h Q ↔ Ev X 259 4 ls (vi 0 :: st) h Q := R_kc rfl (Or.inl ⟨Or.inl rfl, by decide⟩)
theorem e_259_4 {x : Int} : Ev X 259 4 ls (vi x :: st) h Q ↔ (stOK ls 3 = true ∧ Ev X 259 5 (ls.set 3 (some (vi x))) st h Q) := R_is rfl (Or.inl rfl)
theorem e_259_5 : Ev X 259 5 ls st h Q ↔ onI (gl ls 3) (fun z => Ev X 259 6 ls (vi z :: st) h Q) := R_il rfl (Or.inl rfl)
theorem e_259_6 : Ev X 259 6 ls st h Q ↔ onR (gl ls 0) (fun z => Ev X 259 7 ls (vr z :: st) h Q) := R_al rfl (Or.inl rfl)
theorem e_259_7 {x : Nat} : Ev X 259 7 ls (vr x :: st) h Q ↔ (X.1 x = 12 ∧ Ev X 259 8 ls (vr (X.2.2.1 x 6) :: st) h Q) := R_gr rfl
theorem e_259_8 : Ev X 259 8 ls st h Q ↔ Ev X 259 9 ls (vi 2 :: st) h Q := R_kc rfl (Or.inl ⟨Or.inl rfl, by decide⟩)
theorem e_259_9 {x : Nat} {j : Int} : Ev X 259 9 ls (vi j :: vr x :: st) h Q ↔ (((X.1 x = 13 ∨ X.1 x = 20) ∧ 0 ≤ j ∧ j < X.2.1 x) ∧ Ev X 259 10 ls (vi (h.1 x j.toNat) :: st) h Q) := R_ia rfl
theorem e_259_10 {x y : Int} : Ev X 259 10 ls (vi y :: vi x :: st) h Q ↔ (if y ≤ x then Ev X 259 95 ls st h Q else Ev X 259 11 ls st h Q) := R_icge rfl
theorem e_259_11 : Ev X 259 11 ls st h Q ↔ onR (gl ls 0) (fun z => Ev X 259 12 ls (vr z :: st) h Q) := R_al rfl (Or.inl rfl)
theorem e_259_12 : Ev X 259 12 ls st h Q ↔ onI (gl ls 3) (fun z => Ev X 259 13 ls (vi z :: st) h Q) := R_il rfl (Or.inl rfl)
theorem e_259_13 {rest : List xV} {a0 : Int} {o : Nat} : Ev X 259 13 ls ((vi a0) :: vr o :: rest) h Q ↔ ((X.1 o = 12 ∧ wd rest ≤ 8) ∧ Cl X 164 [vr o, vi a0] h (fun r h2 => Ev X 259 14 ls (r.toList ++ rest) h2 Q)) := R_cv (x := o) (as := [vi a0]) (k2 := 164) rfl rfl (Nat.le_of_ble_eq_true rfl)
theorem e_259_14 {x : Int} : Ev X 259 14 ls (vi x :: st) h Q ↔ (if x = 0 then Ev X 259 31 ls st h Q else Ev X 259 15 ls st h Q) := R_ifeq rfl
theorem e_259_15 : Ev X 259 15 ls st h Q ↔ onR (gl ls 0) (fun z => Ev X 259 16 ls (vr z :: st) h Q) := R_al rfl (Or.inl rfl)
theorem e_259_16 : Ev X 259 16 ls st h Q ↔ onI (gl ls 3) (fun z => Ev X 259 17 ls (vi z :: st) h Q) := R_il rfl (Or.inl rfl)
theorem e_259_17 {rest : List xV} {a0 : Int} {o : Nat} : Ev X 259 17 ls ((vi a0) :: vr o :: rest) h Q ↔ ((X.1 o = 12 ∧ wd rest ≤ 8) ∧ Cl X 161 [vr o, vi a0] h (fun r h2 => Ev X 259 18 ls (r.toList ++ rest) h2 Q)) := R_cv (x := o) (as := [vi a0]) (k2 := 161) rfl rfl (Nat.le_of_ble_eq_true rfl)
theorem e_259_18 : Ev X 259 18 ls st h Q ↔ onI (gl ls 1) (fun z => Ev X 259 19 ls (vi z :: st) h Q) := R_il rfl (Or.inl rfl)
theorem e_259_19 {x y : Int} : Ev X 259 19 ls (vi y :: vi x :: st) h Q ↔ (if ¬ x = y then Ev X 259 31 ls st h Q else Ev X 259 20 ls st h Q) := R_icne rfl
theorem e_259_20 : Ev X 259 20 ls st h Q ↔ onR (gl ls 0) (fun z => Ev X 259 21 ls (vr z :: st) h Q) := R_al rfl (Or.inl rfl)
theorem e_259_21 : Ev X 259 21 ls st h Q ↔ onI (gl ls 3) (fun z => Ev X 259 22 ls (vi z :: st) h Q) := R_il rfl (Or.inl rfl)
theorem e_259_22 {rest : List xV} {a0 : Int} {o : Nat} : Ev X 259 22 ls ((vi a0) :: vr o :: rest) h Q ↔ ((X.1 o = 12 ∧ wd rest ≤ 8) ∧ Cl X 160 [vr o, vi a0] h (fun r h2 => Ev X 259 23 ls (r.toList ++ rest) h2 Q)) := R_cv (x := o) (as := [vi a0]) (k2 := 160) rfl rfl (Nat.le_of_ble_eq_true rfl)
theorem e_259_23 : Ev X 259 23 ls st h Q ↔ onI (gl ls 2) (fun z => Ev X 259 24 ls (vi z :: st) h Q) := R_il rfl (Or.inl rfl)
theorem e_259_24 {x y : Int} : Ev X 259 24 ls (vi y :: vi x :: st) h Q ↔ (if ¬ x = y then Ev X 259 31 ls st h Q else Ev X 259 25 ls st h Q) := R_icne rfl
theorem e_259_25 : Ev X 259 25 ls st h Q ↔ onR (gl ls 0) (fun z => Ev X 259 26 ls (vr z :: st) h Q) := R_al rfl (Or.inl rfl)
theorem e_259_26 {x : Nat} : Ev X 259 26 ls (vr x :: st) h Q ↔ (X.1 x = 12 ∧ Ev X 259 27 ls (vi (h.2 x 34) :: st) h Q) := R_gi rfl
theorem e_259_27 : Ev X 259 27 ls st h Q ↔ Ev X 259 28 ls (vi 5 :: st) h Q := R_kc rfl (Or.inl ⟨Or.inl rfl, by decide⟩)
theorem e_259_28 {x y : Int} : Ev X 259 28 ls (vi y :: vi x :: st) h Q ↔ (if y ≤ x then Ev X 259 31 ls st h Q else Ev X 259 29 ls st h Q) := R_icge rfl
theorem e_259_29 : Ev X 259 29 ls st h Q ↔ Ev X 259 30 ls (vi 1 :: st) h Q := R_kc rfl (Or.inl ⟨Or.inl rfl, by decide⟩)
theorem e_259_30 : Ev X 259 30 ls st h Q ↔ Ev X 259 32 ls st h Q := R_go rfl
theorem e_259_31 : Ev X 259 31 ls st h Q ↔ Ev X 259 32 ls (vi 0 :: st) h Q := R_kc rfl (Or.inl ⟨Or.inl rfl, by decide⟩)
theorem e_259_32 {x : Int} : Ev X 259 32 ls (vi x :: st) h Q ↔ (stOK ls 4 = true ∧ Ev X 259 33 (ls.set 4 (some (vi x))) st h Q) := R_is rfl (Or.inr rfl)
theorem e_259_33 : Ev X 259 33 ls st h Q ↔ Ev X 259 34 ls (vi 0 :: st) h Q := R_kc rfl (Or.inl ⟨Or.inl rfl, by decide⟩)
theorem e_259_34 {x : Int} : Ev X 259 34 ls (vi x :: st) h Q ↔ (stOK ls 5 = true ∧ Ev X 259 35 (ls.set 5 (some (vi x))) st h Q) := R_is rfl (Or.inr rfl)
theorem e_259_35 : Ev X 259 35 ls st h Q ↔ onI (gl ls 5) (fun z => Ev X 259 36 ls (vi z :: st) h Q) := R_il rfl (Or.inr rfl)
theorem e_259_36 : Ev X 259 36 ls st h Q ↔ onR (gl ls 0) (fun z => Ev X 259 37 ls (vr z :: st) h Q) := R_al rfl (Or.inl rfl)
theorem e_259_37 {x : Nat} : Ev X 259 37 ls (vr x :: st) h Q ↔ (X.1 x = 12 ∧ Ev X 259 38 ls (vi (h.2 x 34) :: st) h Q) := R_gi rfl
theorem e_259_38 {x y : Int} : Ev X 259 38 ls (vi y :: vi x :: st) h Q ↔ (if y ≤ x then Ev X 259 55 ls st h Q else Ev X 259 39 ls st h Q) := R_icge rfl
theorem e_259_39 : Ev X 259 39 ls st h Q ↔ onI (gl ls 4) (fun z => Ev X 259 40 ls (vi z :: st) h Q) := R_il rfl (Or.inr rfl)
theorem e_259_40 {x : Int} : Ev X 259 40 ls (vi x :: st) h Q ↔ (if x = 0 then Ev X 259 51 ls st h Q else Ev X 259 41 ls st h Q) := R_ifeq rfl
theorem e_259_41 : Ev X 259 41 ls st h Q ↔ onR (gl ls 0) (fun z => Ev X 259 42 ls (vr z :: st) h Q) := R_al rfl (Or.inl rfl)
theorem e_259_42 : Ev X 259 42 ls st h Q ↔ onI (gl ls 3) (fun z => Ev X 259 43 ls (vi z :: st) h Q) := R_il rfl (Or.inl rfl)
theorem e_259_43 : Ev X 259 43 ls st h Q ↔ onR (gl ls 0) (fun z => Ev X 259 44 ls (vr z :: st) h Q) := R_al rfl (Or.inl rfl)
theorem e_259_44 {x : Nat} : Ev X 259 44 ls (vr x :: st) h Q ↔ (X.1 x = 12 ∧ Ev X 259 45 ls (vr (X.2.2.1 x 31) :: st) h Q) := R_gr rfl
theorem e_259_45 : Ev X 259 45 ls st h Q ↔ onI (gl ls 5) (fun z => Ev X 259 46 ls (vi z :: st) h Q) := R_il rfl (Or.inr rfl)
theorem e_259_46 {x : Nat} {j : Int} : Ev X 259 46 ls (vi j :: vr x :: st) h Q ↔ (((X.1 x = 13 ∨ X.1 x = 20) ∧ 0 ≤ j ∧ j < X.2.1 x) ∧ Ev X 259 47 ls (vi (h.1 x j.toNat) :: st) h Q) := R_ia rfl
theorem e_259_47 {rest : List xV} {a0 : Int} {a1 : Int} {o : Nat} : Ev X 259 47 ls ((vi a1) :: (vi a0) :: vr o :: rest) h Q ↔ ((X.1 o = 12 ∧ wd rest ≤ 8) ∧ Cl X 258 [vr o, vi a0, vi a1] h (fun r h2 => Ev X 259 48 ls (r.toList ++ rest) h2 Q)) := R_cv (x := o) (as := [vi a0, vi a1]) (k2 := 258) rfl rfl (Nat.le_of_ble_eq_true rfl)
theorem e_259_48 {x : Int} : Ev X 259 48 ls (vi x :: st) h Q ↔ (if ¬ x = 0 then Ev X 259 51 ls st h Q else Ev X 259 49 ls st h Q) := R_ifne rfl
theorem e_259_49 : Ev X 259 49 ls st h Q ↔ Ev X 259 50 ls (vi 1 :: st) h Q := R_kc rfl (Or.inl ⟨Or.inl rfl, by decide⟩)
theorem e_259_50 : Ev X 259 50 ls st h Q ↔ Ev X 259 52 ls st h Q := R_go rfl
theorem e_259_51 : Ev X 259 51 ls st h Q ↔ Ev X 259 52 ls (vi 0 :: st) h Q := R_kc rfl (Or.inl ⟨Or.inl rfl, by decide⟩)
theorem e_259_52 {x : Int} : Ev X 259 52 ls (vi x :: st) h Q ↔ (stOK ls 4 = true ∧ Ev X 259 53 (ls.set 4 (some (vi x))) st h Q) := R_is rfl (Or.inr rfl)
theorem e_259_53 : Ev X 259 53 ls st h Q ↔ onI (gl ls 5) (fun x => (stOK ls 5 = true ∧ inR (x + 1)) ∧ Ev X 259 54 (ls.set 5 (some (vi (x + 1)))) st h Q) := R_inc rfl
theorem e_259_54 : Ev X 259 54 ls st h Q ↔ Ev X 259 35 ls st h Q := R_go rfl
theorem e_259_55 : Ev X 259 55 ls st h Q ↔ onI (gl ls 4) (fun z => Ev X 259 56 ls (vi z :: st) h Q) := R_il rfl (Or.inr rfl)
theorem e_259_56 {x : Int} : Ev X 259 56 ls (vi x :: st) h Q ↔ (if x = 0 then Ev X 259 93 ls st h Q else Ev X 259 57 ls st h Q) := R_ifeq rfl
theorem e_259_57 : Ev X 259 57 ls st h Q ↔ onR (gl ls 0) (fun z => Ev X 259 58 ls (vr z :: st) h Q) := R_al rfl (Or.inl rfl)
theorem e_259_58 {x : Nat} : Ev X 259 58 ls (vr x :: st) h Q ↔ (X.1 x = 12 ∧ Ev X 259 59 ls (vr (X.2.2.1 x 31) :: st) h Q) := R_gr rfl
theorem e_259_59 : Ev X 259 59 ls st h Q ↔ onR (gl ls 0) (fun z => Ev X 259 60 ls (vr z :: st) h Q) := R_al rfl (Or.inl rfl)
theorem e_259_60 {x : Nat} : Ev X 259 60 ls (vr x :: st) h Q ↔ (X.1 x = 12 ∧ Ev X 259 61 ls (vi (h.2 x 34) :: st) h Q) := R_gi rfl
theorem e_259_61 : Ev X 259 61 ls st h Q ↔ onI (gl ls 3) (fun z => Ev X 259 62 ls (vi z :: st) h Q) := R_il rfl (Or.inl rfl)
theorem e_259_62 {x : Nat} {j v : Int} : Ev X 259 62 ls (vi v :: vi j :: vr x :: st) h Q ↔ ((X.1 x = 13 ∧ 0 ≤ j ∧ j < X.2.1 x) ∧ Ev X 259 63 ls st (up2 h.1 x j.toNat v, h.2) Q) := R_ias rfl
theorem e_259_63 : Ev X 259 63 ls st h Q ↔ onR (gl ls 0) (fun z => Ev X 259 64 ls (vr z :: st) h Q) := R_al rfl (Or.inl rfl)
theorem e_259_64 {x : Nat} : Ev X 259 64 ls (vr x :: st) h Q ↔ (X.1 x = 12 ∧ Ev X 259 65 ls (vr (X.2.2.1 x 32) :: st) h Q) := R_gr rfl
theorem e_259_65 : Ev X 259 65 ls st h Q ↔ onR (gl ls 0) (fun z => Ev X 259 66 ls (vr z :: st) h Q) := R_al rfl (Or.inl rfl)
theorem e_259_66 {x : Nat} : Ev X 259 66 ls (vr x :: st) h Q ↔ (X.1 x = 12 ∧ Ev X 259 67 ls (vi (h.2 x 34) :: st) h Q) := R_gi rfl
theorem e_259_67 : Ev X 259 67 ls st h Q ↔ onR (gl ls 0) (fun z => Ev X 259 68 ls (vr z :: st) h Q) := R_al rfl (Or.inl rfl)
theorem e_259_68 {x : Nat} : Ev X 259 68 ls (vr x :: st) h Q ↔ (X.1 x = 12 ∧ Ev X 259 69 ls (vr (X.2.2.1 x 6) :: st) h Q) := R_gr rfl
theorem e_259_69 : Ev X 259 69 ls st h Q ↔ onI (gl ls 3) (fun z => Ev X 259 70 ls (vi z :: st) h Q) := R_il rfl (Or.inl rfl)
theorem e_259_70 {rest : List xV} {a0 : Int} : Ev X 259 70 ls ((vi a0) :: rest) h Q ↔ (wd rest ≤ 8 ∧ Cl X 158 [vi a0] h (fun r h2 => Ev X 259 71 ls (r.toList ++ rest) h2 Q)) := R_cs (as := [vi a0]) (k2 := 158) rfl rfl (Nat.le_of_ble_eq_true rfl)
theorem e_259_71 : Ev X 259 71 ls st h Q ↔ Ev X 259 72 ls (vi 5 :: st) h Q := R_kc rfl (Or.inl ⟨Or.inl rfl, by decide⟩)
theorem e_259_72 {x y : Int} : Ev X 259 72 ls (vi y :: vi x :: st) h Q ↔ ((inR (x + y)) ∧ Ev X 259 73 ls (vi (x + y) :: st) h Q) := R_add rfl
theorem e_259_73 {x : Nat} {j : Int} : Ev X 259 73 ls (vi j :: vr x :: st) h Q ↔ (((X.1 x = 13 ∨ X.1 x = 20) ∧ 0 ≤ j ∧ j < X.2.1 x) ∧ Ev X 259 74 ls (vi (h.1 x j.toNat) :: st) h Q) := R_ia rfl
theorem e_259_74 {x : Nat} {j v : Int} : Ev X 259 74 ls (vi v :: vi j :: vr x :: st) h Q ↔ ((X.1 x = 13 ∧ 0 ≤ j ∧ j < X.2.1 x) ∧ Ev X 259 75 ls st (up2 h.1 x j.toNat v, h.2) Q) := R_ias rfl
theorem e_259_75 : Ev X 259 75 ls st h Q ↔ onR (gl ls 0) (fun z => Ev X 259 76 ls (vr z :: st) h Q) := R_al rfl (Or.inl rfl)
theorem e_259_76 {x : Nat} : Ev X 259 76 ls (vr x :: st) h Q ↔ (X.1 x = 12 ∧ Ev X 259 77 ls (vr (X.2.2.1 x 33) :: st) h Q) := R_gr rfl
theorem e_259_77 : Ev X 259 77 ls st h Q ↔ onR (gl ls 0) (fun z => Ev X 259 78 ls (vr z :: st) h Q) := R_al rfl (Or.inl rfl)
theorem e_259_78 {x : Nat} : Ev X 259 78 ls (vr x :: st) h Q ↔ (X.1 x = 12 ∧ Ev X 259 79 ls (vi (h.2 x 34) :: st) h Q) := R_gi rfl
theorem e_259_79 : Ev X 259 79 ls st h Q ↔ onR (gl ls 0) (fun z => Ev X 259 80 ls (vr z :: st) h Q) := R_al rfl (Or.inl rfl)
theorem e_259_80 {x : Nat} : Ev X 259 80 ls (vr x :: st) h Q ↔ (X.1 x = 12 ∧ Ev X 259 81 ls (vr (X.2.2.1 x 6) :: st) h Q) := R_gr rfl
theorem e_259_81 : Ev X 259 81 ls st h Q ↔ onI (gl ls 3) (fun z => Ev X 259 82 ls (vi z :: st) h Q) := R_il rfl (Or.inl rfl)
theorem e_259_82 {rest : List xV} {a0 : Int} : Ev X 259 82 ls ((vi a0) :: rest) h Q ↔ (wd rest ≤ 8 ∧ Cl X 158 [vi a0] h (fun r h2 => Ev X 259 83 ls (r.toList ++ rest) h2 Q)) := R_cs (as := [vi a0]) (k2 := 158) rfl rfl (Nat.le_of_ble_eq_true rfl)
theorem e_259_83 : Ev X 259 83 ls st h Q ↔ Ev X 259 84 ls (vi 6 :: st) h Q := R_kc rfl (Or.inr (Or.inl ⟨rfl, by decide⟩))
theorem e_259_84 {x y : Int} : Ev X 259 84 ls (vi y :: vi x :: st) h Q ↔ ((inR (x + y)) ∧ Ev X 259 85 ls (vi (x + y) :: st) h Q) := R_add rfl
theorem e_259_85 {x : Nat} {j : Int} : Ev X 259 85 ls (vi j :: vr x :: st) h Q ↔ (((X.1 x = 13 ∨ X.1 x = 20) ∧ 0 ≤ j ∧ j < X.2.1 x) ∧ Ev X 259 86 ls (vi (h.1 x j.toNat) :: st) h Q) := R_ia rfl
theorem e_259_86 {x : Nat} {j v : Int} : Ev X 259 86 ls (vi v :: vi j :: vr x :: st) h Q ↔ ((X.1 x = 13 ∧ 0 ≤ j ∧ j < X.2.1 x) ∧ Ev X 259 87 ls st (up2 h.1 x j.toNat v, h.2) Q) := R_ias rfl
theorem e_259_87 : Ev X 259 87 ls st h Q ↔ onR (gl ls 0) (fun z => Ev X 259 88 ls (vr z :: st) h Q) := R_al rfl (Or.inl rfl)
theorem e_259_88 {v : xV} : Ev X 259 88 ls (v :: st) h Q ↔ (ct1 v = true ∧ Ev X 259 89 ls (v :: v :: st) h Q) := R_dup rfl
theorem e_259_89 {x : Nat} : Ev X 259 89 ls (vr x :: st) h Q ↔ (X.1 x = 12 ∧ Ev X 259 90 ls (vi (h.2 x 34) :: st) h Q) := R_gi rfl
theorem e_259_90 : Ev X 259 90 ls st h Q ↔ Ev X 259 91 ls (vi 1 :: st) h Q := R_kc rfl (Or.inl ⟨Or.inl rfl, by decide⟩)
theorem e_259_91 {x y : Int} : Ev X 259 91 ls (vi y :: vi x :: st) h Q ↔ ((inR (x + y)) ∧ Ev X 259 92 ls (vi (x + y) :: st) h Q) := R_add rfl
theorem e_259_92 {x : Nat} {v : Int} : Ev X 259 92 ls (vi v :: vr x :: st) h Q ↔ (X.1 x = 12 ∧ Ev X 259 93 ls st (h.1, up2 h.2 x 34 v) Q) := R_pi rfl
theorem e_259_93 : Ev X 259 93 ls st h Q ↔ onI (gl ls 3) (fun x => (stOK ls 3 = true ∧ inR (x + 1)) ∧ Ev X 259 94 (ls.set 3 (some (vi (x + 1)))) st h Q) := R_inc rfl
theorem e_259_94 : Ev X 259 94 ls st h Q ↔ Ev X 259 5 ls st h Q := R_go rfl
theorem e_259_95 : Ev X 259 95 ls [] h Q ↔ Q none h := R_vr rfl
-- 260: CellRowsModel.putGroup([I)V
theorem e_260_0 : Ev X 260 0 ls st h Q ↔ Ev X 260 1 ls (vi 0 :: st) h Q := R_kc rfl (Or.inl ⟨Or.inl rfl, by decide⟩)
theorem e_260_1 {x : Int} : Ev X 260 1 ls (vi x :: st) h Q ↔ (stOK ls 2 = true ∧ Ev X 260 2 (ls.set 2 (some (vi x))) st h Q) := R_is rfl (Or.inl rfl)
theorem e_260_2 : Ev X 260 2 ls st h Q ↔ onI (gl ls 2) (fun z => Ev X 260 3 ls (vi z :: st) h Q) := R_il rfl (Or.inl rfl)
theorem e_260_3 : Ev X 260 3 ls st h Q ↔ onR (gl ls 0) (fun z => Ev X 260 4 ls (vr z :: st) h Q) := R_al rfl (Or.inl rfl)
theorem e_260_4 {x : Nat} : Ev X 260 4 ls (vr x :: st) h Q ↔ (X.1 x = 12 ∧ Ev X 260 5 ls (vi (h.2 x 34) :: st) h Q) := R_gi rfl
theorem e_260_5 {x y : Int} : Ev X 260 5 ls (vi y :: vi x :: st) h Q ↔ (if y ≤ x then Ev X 260 26 ls st h Q else Ev X 260 6 ls st h Q) := R_icge rfl
theorem e_260_6 : Ev X 260 6 ls st h Q ↔ onR (gl ls 0) (fun z => Ev X 260 7 ls (vr z :: st) h Q) := R_al rfl (Or.inl rfl)
theorem e_260_7 : Ev X 260 7 ls st h Q ↔ onR (gl ls 0) (fun z => Ev X 260 8 ls (vr z :: st) h Q) := R_al rfl (Or.inl rfl)
theorem e_260_8 {x : Nat} : Ev X 260 8 ls (vr x :: st) h Q ↔ (X.1 x = 12 ∧ Ev X 260 9 ls (vr (X.2.2.1 x 31) :: st) h Q) := R_gr rfl
theorem e_260_9 : Ev X 260 9 ls st h Q ↔ onI (gl ls 2) (fun z => Ev X 260 10 ls (vi z :: st) h Q) := R_il rfl (Or.inl rfl)
theorem e_260_10 {x : Nat} {j : Int} : Ev X 260 10 ls (vi j :: vr x :: st) h Q ↔ (((X.1 x = 13 ∨ X.1 x = 20) ∧ 0 ≤ j ∧ j < X.2.1 x) ∧ Ev X 260 11 ls (vi (h.1 x j.toNat) :: st) h Q) := R_ia rfl
theorem e_260_11 : Ev X 260 11 ls st h Q ↔ onR (gl ls 0) (fun z => Ev X 260 12 ls (vr z :: st) h Q) := R_al rfl (Or.inl rfl)
theorem e_260_12 {x : Nat} : Ev X 260 12 ls (vr x :: st) h Q ↔ (X.1 x = 12 ∧ Ev X 260 13 ls (vr (X.2.2.1 x 32) :: st) h Q) := R_gr rfl
theorem e_260_13 : Ev X 260 13 ls st h Q ↔ onR (gl ls 1) (fun z => Ev X 260 14 ls (vr z :: st) h Q) := R_al rfl (Or.inl rfl)
theorem e_260_14 : Ev X 260 14 ls st h Q ↔ onI (gl ls 2) (fun z => Ev X 260 15 ls (vi z :: st) h Q) := R_il rfl (Or.inl rfl)
theorem e_260_15 {x : Nat} {j : Int} : Ev X 260 15 ls (vi j :: vr x :: st) h Q ↔ (((X.1 x = 13 ∨ X.1 x = 20) ∧ 0 ≤ j ∧ j < X.2.1 x) ∧ Ev X 260 16 ls (vi (h.1 x j.toNat) :: st) h Q) := R_ia rfl
theorem e_260_16 {x : Nat} {j : Int} : Ev X 260 16 ls (vi j :: vr x :: st) h Q ↔ (((X.1 x = 13 ∨ X.1 x = 20) ∧ 0 ≤ j ∧ j < X.2.1 x) ∧ Ev X 260 17 ls (vi (h.1 x j.toNat) :: st) h Q) := R_ia rfl
theorem e_260_17 : Ev X 260 17 ls st h Q ↔ onR (gl ls 0) (fun z => Ev X 260 18 ls (vr z :: st) h Q) := R_al rfl (Or.inl rfl)
theorem e_260_18 {x : Nat} : Ev X 260 18 ls (vr x :: st) h Q ↔ (X.1 x = 12 ∧ Ev X 260 19 ls (vr (X.2.2.1 x 33) :: st) h Q) := R_gr rfl
theorem e_260_19 : Ev X 260 19 ls st h Q ↔ onR (gl ls 1) (fun z => Ev X 260 20 ls (vr z :: st) h Q) := R_al rfl (Or.inl rfl)
theorem e_260_20 : Ev X 260 20 ls st h Q ↔ onI (gl ls 2) (fun z => Ev X 260 21 ls (vi z :: st) h Q) := R_il rfl (Or.inl rfl)
theorem e_260_21 {x : Nat} {j : Int} : Ev X 260 21 ls (vi j :: vr x :: st) h Q ↔ (((X.1 x = 13 ∨ X.1 x = 20) ∧ 0 ≤ j ∧ j < X.2.1 x) ∧ Ev X 260 22 ls (vi (h.1 x j.toNat) :: st) h Q) := R_ia rfl
theorem e_260_22 {x : Nat} {j : Int} : Ev X 260 22 ls (vi j :: vr x :: st) h Q ↔ (((X.1 x = 13 ∨ X.1 x = 20) ∧ 0 ≤ j ∧ j < X.2.1 x) ∧ Ev X 260 23 ls (vi (h.1 x j.toNat) :: st) h Q) := R_ia rfl
theorem e_260_23 {rest : List xV} {a0 : Int} {a1 : Int} {a2 : Int} {o : Nat} : Ev X 260 23 ls ((vi a2) :: (vi a1) :: (vi a0) :: vr o :: rest) h Q ↔ ((X.1 o = 12 ∧ wd rest ≤ 8) ∧ Cl X 166 [vr o, vi a0, vi a1, vi a2] h (fun r h2 => Ev X 260 24 ls (r.toList ++ rest) h2 Q)) := R_cv (x := o) (as := [vi a0, vi a1, vi a2]) (k2 := 166) rfl rfl (Nat.le_of_ble_eq_true rfl)
theorem e_260_24 : Ev X 260 24 ls st h Q ↔ onI (gl ls 2) (fun x => (stOK ls 2 = true ∧ inR (x + 1)) ∧ Ev X 260 25 (ls.set 2 (some (vi (x + 1)))) st h Q) := R_inc rfl
theorem e_260_25 : Ev X 260 25 ls st h Q ↔ Ev X 260 2 ls st h Q := R_go rfl
theorem e_260_26 : Ev X 260 26 ls [] h Q ↔ Q none h := R_vr rfl
-- 261: CellRowsModel.sortGroup()V
theorem e_261_0 : Ev X 261 0 ls st h Q ↔ onR (gl ls 0) (fun z => Ev X 261 1 ls (vr z :: st) h Q) := R_al rfl (Or.inl rfl)
theorem e_261_1 : Ev X 261 1 ls st h Q ↔ onR (gl ls 0) (fun z => Ev X 261 2 ls (vr z :: st) h Q) := R_al rfl (Or.inl rfl)
theorem e_261_2 {x : Nat} : Ev X 261 2 ls (vr x :: st) h Q ↔ (X.1 x = 12 ∧ Ev X 261 3 ls (vi (h.2 x 34) :: st) h Q) := R_gi rfl
theorem e_261_3 {rest : List xV} {a0 : Int} {o : Nat} : Ev X 261 3 ls ((vi a0) :: vr o :: rest) h Q ↔ ((X.1 o = 12 ∧ wd rest ≤ 8) ∧ Cl X 246 [vr o, vi a0] h (fun r h2 => Ev X 261 4 ls (r.toList ++ rest) h2 Q)) := R_cv (x := o) (as := [vi a0]) (k2 := 246) rfl rfl (Nat.le_of_ble_eq_true rfl)
theorem e_261_4 : Ev X 261 4 ls st h Q ↔ onR (gl ls 0) (fun z => Ev X 261 5 ls (vr z :: st) h Q) := R_al rfl (Or.inl rfl)
theorem e_261_5 : Ev X 261 5 ls st h Q ↔ onR (gl ls 0) (fun z => Ev X 261 6 ls (vr z :: st) h Q) := R_al rfl (Or.inl rfl)
theorem e_261_6 {x : Nat} : Ev X 261 6 ls (vr x :: st) h Q ↔ (X.1 x = 12 ∧ Ev X 261 7 ls (vi (h.2 x 34) :: st) h Q) := R_gi rfl
theorem e_261_7 {rest : List xV} {a0 : Int} {o : Nat} : Ev X 261 7 ls ((vi a0) :: vr o :: rest) h Q ↔ ((X.1 o = 12 ∧ wd rest ≤ 8) ∧ Cl X 249 [vr o, vi a0] h (fun r h2 => Ev X 261 8 ls (r.toList ++ rest) h2 Q)) := R_cv (x := o) (as := [vi a0]) (k2 := 249) rfl rfl (Nat.le_of_ble_eq_true rfl)
theorem e_261_8 : Ev X 261 8 ls st h Q ↔ onR (gl ls 0) (fun z => Ev X 261 9 ls (vr z :: st) h Q) := R_al rfl (Or.inl rfl)
theorem e_261_9 {rest : List xV}  {o : Nat} : Ev X 261 9 ls (vr o :: rest) h Q ↔ ((X.1 o = 12 ∧ wd rest ≤ 8) ∧ Cl X 206 [vr o] h (fun r h2 => Ev X 261 10 ls (r.toList ++ rest) h2 Q)) := R_cv (x := o) (as := []) (k2 := 206) rfl rfl (Nat.le_of_ble_eq_true rfl)
theorem e_261_10 {x : Int} : Ev X 261 10 ls (vi x :: st) h Q ↔ (stOK ls 1 = true ∧ Ev X 261 11 (ls.set 1 (some (vi x))) st h Q) := R_is rfl (Or.inl rfl)
theorem e_261_11 : Ev X 261 11 ls st h Q ↔ onR (gl ls 0) (fun z => Ev X 261 12 ls (vr z :: st) h Q) := R_al rfl (Or.inl rfl)
theorem e_261_12 : Ev X 261 12 ls st h Q ↔ onR (gl ls 0) (fun z => Ev X 261 13 ls (vr z :: st) h Q) := R_al rfl (Or.inl rfl)
theorem e_261_13 {x : Nat} : Ev X 261 13 ls (vr x :: st) h Q ↔ (X.1 x = 12 ∧ Ev X 261 14 ls (vi (h.2 x 34) :: st) h Q) := R_gi rfl
theorem e_261_14 {rest : List xV} {a0 : Int} {o : Nat} : Ev X 261 14 ls ((vi a0) :: vr o :: rest) h Q ↔ ((X.1 o = 12 ∧ wd rest ≤ 8) ∧ Cl X 247 [vr o, vi a0] h (fun r h2 => Ev X 261 15 ls (r.toList ++ rest) h2 Q)) := R_cv (x := o) (as := [vi a0]) (k2 := 247) rfl rfl (Nat.le_of_ble_eq_true rfl)
theorem e_261_15 {x : Int} : Ev X 261 15 ls (vi x :: st) h Q ↔ (if x = 0 then Ev X 261 33 ls st h Q else Ev X 261 16 ls st h Q) := R_ifeq rfl
theorem e_261_16 : Ev X 261 16 ls st h Q ↔ onR (gl ls 0) (fun z => Ev X 261 17 ls (vr z :: st) h Q) := R_al rfl (Or.inl rfl)
theorem e_261_17 : Ev X 261 17 ls st h Q ↔ onR (gl ls 0) (fun z => Ev X 261 18 ls (vr z :: st) h Q) := R_al rfl (Or.inl rfl)
theorem e_261_18 {x : Nat} : Ev X 261 18 ls (vr x :: st) h Q ↔ (X.1 x = 12 ∧ Ev X 261 19 ls (vr (X.2.2.1 x 27) :: st) h Q) := R_gr rfl
theorem e_261_19 {rest : List xV} {a0 : Nat} {o : Nat} : Ev X 261 19 ls ((vr a0) :: vr o :: rest) h Q ↔ ((X.1 o = 12 ∧ wd rest ≤ 8) ∧ Cl X 260 [vr o, vr a0] h (fun r h2 => Ev X 261 20 ls (r.toList ++ rest) h2 Q)) := R_cv (x := o) (as := [vr a0]) (k2 := 260) rfl rfl (Nat.le_of_ble_eq_true rfl)
theorem e_261_20 : Ev X 261 20 ls st h Q ↔ onR (gl ls 0) (fun z => Ev X 261 21 ls (vr z :: st) h Q) := R_al rfl (Or.inl rfl)
theorem e_261_21 {rest : List xV}  {o : Nat} : Ev X 261 21 ls (vr o :: rest) h Q ↔ ((X.1 o = 12 ∧ wd rest ≤ 8) ∧ Cl X 206 [vr o] h (fun r h2 => Ev X 261 22 ls (r.toList ++ rest) h2 Q)) := R_cv (x := o) (as := []) (k2 := 206) rfl rfl (Nat.le_of_ble_eq_true rfl)
theorem e_261_22 {x : Int} : Ev X 261 22 ls (vi x :: st) h Q ↔ (stOK ls 2 = true ∧ Ev X 261 23 (ls.set 2 (some (vi x))) st h Q) := R_is rfl (Or.inl rfl)
theorem e_261_23 : Ev X 261 23 ls st h Q ↔ onI (gl ls 2) (fun z => Ev X 261 24 ls (vi z :: st) h Q) := R_il rfl (Or.inl rfl)
theorem e_261_24 : Ev X 261 24 ls st h Q ↔ onI (gl ls 1) (fun z => Ev X 261 25 ls (vi z :: st) h Q) := R_il rfl (Or.inl rfl)
theorem e_261_25 {x y : Int} : Ev X 261 25 ls (vi y :: vi x :: st) h Q ↔ (if y ≤ x then Ev X 261 32 ls st h Q else Ev X 261 26 ls st h Q) := R_icge rfl
theorem e_261_26 : Ev X 261 26 ls st h Q ↔ onI (gl ls 2) (fun z => Ev X 261 27 ls (vi z :: st) h Q) := R_il rfl (Or.inl rfl)
theorem e_261_27 {x : Int} : Ev X 261 27 ls (vi x :: st) h Q ↔ (stOK ls 1 = true ∧ Ev X 261 28 (ls.set 1 (some (vi x))) st h Q) := R_is rfl (Or.inl rfl)
theorem e_261_28 : Ev X 261 28 ls st h Q ↔ onR (gl ls 0) (fun z => Ev X 261 29 ls (vr z :: st) h Q) := R_al rfl (Or.inl rfl)
theorem e_261_29 : Ev X 261 29 ls st h Q ↔ onR (gl ls 0) (fun z => Ev X 261 30 ls (vr z :: st) h Q) := R_al rfl (Or.inl rfl)
theorem e_261_30 {x : Nat} : Ev X 261 30 ls (vr x :: st) h Q ↔ (X.1 x = 12 ∧ Ev X 261 31 ls (vi (h.2 x 34) :: st) h Q) := R_gi rfl
theorem e_261_31 {rest : List xV} {a0 : Int} {o : Nat} : Ev X 261 31 ls ((vi a0) :: vr o :: rest) h Q ↔ ((X.1 o = 12 ∧ wd rest ≤ 8) ∧ Cl X 249 [vr o, vi a0] h (fun r h2 => Ev X 261 32 ls (r.toList ++ rest) h2 Q)) := R_cv (x := o) (as := [vi a0]) (k2 := 249) rfl rfl (Nat.le_of_ble_eq_true rfl)
theorem e_261_32 : Ev X 261 32 ls st h Q ↔ Ev X 261 11 ls st h Q := R_go rfl
theorem e_261_33 : Ev X 261 33 ls st h Q ↔ onR (gl ls 0) (fun z => Ev X 261 34 ls (vr z :: st) h Q) := R_al rfl (Or.inl rfl)
theorem e_261_34 : Ev X 261 34 ls st h Q ↔ onR (gl ls 0) (fun z => Ev X 261 35 ls (vr z :: st) h Q) := R_al rfl (Or.inl rfl)
theorem e_261_35 {x : Nat} : Ev X 261 35 ls (vr x :: st) h Q ↔ (X.1 x = 12 ∧ Ev X 261 36 ls (vr (X.2.2.1 x 28) :: st) h Q) := R_gr rfl
theorem e_261_36 {rest : List xV} {a0 : Nat} {o : Nat} : Ev X 261 36 ls ((vr a0) :: vr o :: rest) h Q ↔ ((X.1 o = 12 ∧ wd rest ≤ 8) ∧ Cl X 260 [vr o, vr a0] h (fun r h2 => Ev X 261 37 ls (r.toList ++ rest) h2 Q)) := R_cv (x := o) (as := [vr a0]) (k2 := 260) rfl rfl (Nat.le_of_ble_eq_true rfl)
theorem e_261_37 : Ev X 261 37 ls [] h Q ↔ Q none h := R_vr rfl
-- 262: CellRowsModel.sorts()I
theorem e_262_0 : Ev X 262 0 ls st h Q ↔ onR (gl ls 0) (fun z => Ev X 262 1 ls (vr z :: st) h Q) := R_al rfl (Or.inl rfl)
theorem e_262_1 : Ev X 262 1 ls st h Q ↔ Ev X 262 2 ls (vi 0 :: st) h Q := R_kc rfl (Or.inl ⟨Or.inl rfl, by decide⟩)
theorem e_262_2 {x : Nat} {v : Int} : Ev X 262 2 ls (vi v :: vr x :: st) h Q ↔ (X.1 x = 12 ∧ Ev X 262 3 ls st (h.1, up2 h.2 x 0 v) Q) := R_pi rfl
theorem e_262_3 : Ev X 262 3 ls st h Q ↔ onR (gl ls 0) (fun z => Ev X 262 4 ls (vr z :: st) h Q) := R_al rfl (Or.inl rfl)
theorem e_262_4 : Ev X 262 4 ls st h Q ↔ Ev X 262 5 ls (vi 16 :: st) h Q := R_kc rfl (Or.inr (Or.inl ⟨rfl, by decide⟩))
theorem e_262_5 {rest : List xV} {a0 : Int} {o : Nat} : Ev X 262 5 ls ((vi a0) :: vr o :: rest) h Q ↔ ((X.1 o = 12 ∧ wd rest ≤ 8) ∧ Cl X 156 [vr o, vi a0] h (fun r h2 => Ev X 262 6 ls (r.toList ++ rest) h2 Q)) := R_cv (x := o) (as := [vi a0]) (k2 := 156) rfl rfl (Nat.le_of_ble_eq_true rfl)
theorem e_262_6 : Ev X 262 6 ls st h Q ↔ onR (gl ls 0) (fun z => Ev X 262 7 ls (vr z :: st) h Q) := R_al rfl (Or.inl rfl)
theorem e_262_7 {rest : List xV}  {o : Nat} : Ev X 262 7 ls (vr o :: rest) h Q ↔ ((X.1 o = 12 ∧ wd rest ≤ 8) ∧ Cl X 206 [vr o] h (fun r h2 => Ev X 262 8 ls (r.toList ++ rest) h2 Q)) := R_cv (x := o) (as := []) (k2 := 206) rfl rfl (Nat.le_of_ble_eq_true rfl)
theorem e_262_8 {x : Int} : Ev X 262 8 ls (vi x :: st) h Q ↔ (stOK ls 1 = true ∧ Ev X 262 9 (ls.set 1 (some (vi x))) st h Q) := R_is rfl (Or.inl rfl)
theorem e_262_9 : Ev X 262 9 ls st h Q ↔ Ev X 262 10 ls (vi (-1) :: st) h Q := R_kc rfl (Or.inl ⟨Or.inl rfl, by decide⟩)
theorem e_262_10 {x : Int} : Ev X 262 10 ls (vi x :: st) h Q ↔ (stOK ls 2 = true ∧ Ev X 262 11 (ls.set 2 (some (vi x))) st h Q) := R_is rfl (Or.inl rfl)
theorem e_262_11 : Ev X 262 11 ls st h Q ↔ onI (gl ls 2) (fun z => Ev X 262 12 ls (vi z :: st) h Q) := R_il rfl (Or.inl rfl)
theorem e_262_12 : Ev X 262 12 ls st h Q ↔ onR (gl ls 0) (fun z => Ev X 262 13 ls (vr z :: st) h Q) := R_al rfl (Or.inl rfl)
theorem e_262_13 {x : Nat} : Ev X 262 13 ls (vr x :: st) h Q ↔ (X.1 x = 12 ∧ Ev X 262 14 ls (vr (X.2.2.1 x 6) :: st) h Q) := R_gr rfl
theorem e_262_14 : Ev X 262 14 ls st h Q ↔ Ev X 262 15 ls (vi 1 :: st) h Q := R_kc rfl (Or.inl ⟨Or.inl rfl, by decide⟩)
theorem e_262_15 {x : Nat} {j : Int} : Ev X 262 15 ls (vi j :: vr x :: st) h Q ↔ (((X.1 x = 13 ∨ X.1 x = 20) ∧ 0 ≤ j ∧ j < X.2.1 x) ∧ Ev X 262 16 ls (vi (h.1 x j.toNat) :: st) h Q) := R_ia rfl
theorem e_262_16 {x y : Int} : Ev X 262 16 ls (vi y :: vi x :: st) h Q ↔ (if y ≤ x then Ev X 262 32 ls st h Q else Ev X 262 17 ls st h Q) := R_icge rfl
theorem e_262_17 : Ev X 262 17 ls st h Q ↔ Ev X 262 18 ls (vi 1 :: st) h Q := R_kc rfl (Or.inl ⟨Or.inl rfl, by decide⟩)
theorem e_262_18 {x : Int} : Ev X 262 18 ls (vi x :: st) h Q ↔ (stOK ls 3 = true ∧ Ev X 262 19 (ls.set 3 (some (vi x))) st h Q) := R_is rfl (Or.inl rfl)
theorem e_262_19 : Ev X 262 19 ls st h Q ↔ onI (gl ls 3) (fun z => Ev X 262 20 ls (vi z :: st) h Q) := R_il rfl (Or.inl rfl)
theorem e_262_20 : Ev X 262 20 ls st h Q ↔ Ev X 262 21 ls (vi 7 :: st) h Q := R_kc rfl (Or.inr (Or.inl ⟨rfl, by decide⟩))
theorem e_262_21 {x y : Int} : Ev X 262 21 ls (vi y :: vi x :: st) h Q ↔ (if y ≤ x then Ev X 262 30 ls st h Q else Ev X 262 22 ls st h Q) := R_icge rfl
theorem e_262_22 : Ev X 262 22 ls st h Q ↔ onR (gl ls 0) (fun z => Ev X 262 23 ls (vr z :: st) h Q) := R_al rfl (Or.inl rfl)
theorem e_262_23 : Ev X 262 23 ls st h Q ↔ onI (gl ls 2) (fun z => Ev X 262 24 ls (vi z :: st) h Q) := R_il rfl (Or.inl rfl)
theorem e_262_24 : Ev X 262 24 ls st h Q ↔ onI (gl ls 3) (fun z => Ev X 262 25 ls (vi z :: st) h Q) := R_il rfl (Or.inl rfl)
theorem e_262_25 {rest : List xV} {a0 : Int} {a1 : Int} {o : Nat} : Ev X 262 25 ls ((vi a1) :: (vi a0) :: vr o :: rest) h Q ↔ ((X.1 o = 12 ∧ wd rest ≤ 8) ∧ Cl X 259 [vr o, vi a0, vi a1] h (fun r h2 => Ev X 262 26 ls (r.toList ++ rest) h2 Q)) := R_cv (x := o) (as := [vi a0, vi a1]) (k2 := 259) rfl rfl (Nat.le_of_ble_eq_true rfl)
theorem e_262_26 : Ev X 262 26 ls st h Q ↔ onR (gl ls 0) (fun z => Ev X 262 27 ls (vr z :: st) h Q) := R_al rfl (Or.inl rfl)
theorem e_262_27 {rest : List xV}  {o : Nat} : Ev X 262 27 ls (vr o :: rest) h Q ↔ ((X.1 o = 12 ∧ wd rest ≤ 8) ∧ Cl X 261 [vr o] h (fun r h2 => Ev X 262 28 ls (r.toList ++ rest) h2 Q)) := R_cv (x := o) (as := []) (k2 := 261) rfl rfl (Nat.le_of_ble_eq_true rfl)
theorem e_262_28 : Ev X 262 28 ls st h Q ↔ onI (gl ls 3) (fun x => (stOK ls 3 = true ∧ inR (x + 1)) ∧ Ev X 262 29 (ls.set 3 (some (vi (x + 1)))) st h Q) := R_inc rfl
theorem e_262_29 : Ev X 262 29 ls st h Q ↔ Ev X 262 19 ls st h Q := R_go rfl
theorem e_262_30 : Ev X 262 30 ls st h Q ↔ onI (gl ls 2) (fun x => (stOK ls 2 = true ∧ inR (x + 1)) ∧ Ev X 262 31 (ls.set 2 (some (vi (x + 1)))) st h Q) := R_inc rfl
theorem e_262_31 : Ev X 262 31 ls st h Q ↔ Ev X 262 11 ls st h Q := R_go rfl
theorem e_262_32 : Ev X 262 32 ls st h Q ↔ onR (gl ls 0) (fun z => Ev X 262 33 ls (vr z :: st) h Q) := R_al rfl (Or.inl rfl)
theorem e_262_33 : Ev X 262 33 ls st h Q ↔ onI (gl ls 1) (fun z => Ev X 262 34 ls (vi z :: st) h Q) := R_il rfl (Or.inl rfl)
theorem e_262_34 : Ev X 262 34 ls st h Q ↔ onR (gl ls 0) (fun z => Ev X 262 35 ls (vr z :: st) h Q) := R_al rfl (Or.inl rfl)
theorem e_262_35 {rest : List xV}  {o : Nat} : Ev X 262 35 ls (vr o :: rest) h Q ↔ ((X.1 o = 12 ∧ wd rest ≤ 8) ∧ Cl X 206 [vr o] h (fun r h2 => Ev X 262 36 ls (r.toList ++ rest) h2 Q)) := R_cv (x := o) (as := []) (k2 := 206) rfl rfl (Nat.le_of_ble_eq_true rfl)
theorem e_262_36 {x y : Int} : Ev X 262 36 ls (vi y :: vi x :: st) h Q ↔ ((inR (x - y)) ∧ Ev X 262 37 ls (vi (x - y) :: st) h Q) := R_sub rfl
theorem e_262_37 {rest : List xV} {a0 : Int} {o : Nat} : Ev X 262 37 ls ((vi a0) :: vr o :: rest) h Q ↔ ((X.1 o = 12 ∧ wd rest ≤ 8) ∧ Cl X 153 [vr o, vi a0] h (fun r h2 => Ev X 262 38 ls (r.toList ++ rest) h2 Q)) := R_cv (x := o) (as := [vi a0]) (k2 := 153) rfl rfl (Nat.le_of_ble_eq_true rfl)
theorem e_262_38 {z : Int} : Ev X 262 38 ls [vi z] h Q ↔ Q (some (vi z)) h := R_ir rfl
end RUL
