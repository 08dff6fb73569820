section RUL
variable {X : xL} {ls : List (Option xV)} {st : List xV} {h : xH} {Q : Option xV → xH → Prop}
-- 194: CellRowsModel.free(I)I
theorem e_194_0 : Ev X 194 0 ls st h Q ↔ onR (gl ls 0) (fun z => Ev X 194 1 ls (vr z :: st) h Q) := R_al rfl (Or.inl rfl)
theorem e_194_1 : Ev X 194 1 ls st h Q ↔ Ev X 194 2 ls (vi 0 :: st) h Q := R_kc rfl (Or.inl ⟨Or.inl rfl, by decide⟩)
theorem e_194_2 {x : Nat} {v : Int} : Ev X 194 2 ls (vi v :: vr x :: st) h Q ↔ (X.1 x = 12 ∧ Ev X 194 3 ls st (h.1, up2 h.2 x 0 v) Q) := R_pi rfl
theorem e_194_3 : Ev X 194 3 ls st h Q ↔ onR (gl ls 0) (fun z => Ev X 194 4 ls (vr z :: st) h Q) := R_al rfl (Or.inl rfl)
theorem e_194_4 : Ev X 194 4 ls st h Q ↔ onI (gl ls 1) (fun z => Ev X 194 5 ls (vi z :: st) h Q) := R_il rfl (Or.inl rfl)
theorem e_194_5 {rest : List xV} {a0 : Int} {o : Nat} : Ev X 194 5 ls ((vi a0) :: vr o :: rest) h Q ↔ ((X.1 o = 12 ∧ wd rest ≤ 8) ∧ Cl X 167 [vr o, vi a0] h (fun r h2 => Ev X 194 6 ls (r.toList ++ rest) h2 Q)) := R_cv (x := o) (as := [vi a0]) (k2 := 167) rfl rfl (Nat.le_of_ble_eq_true rfl)
theorem e_194_6 {x : Int} : Ev X 194 6 ls (vi x :: st) h Q ↔ (if ¬ x = 0 then Ev X 194 11 ls st h Q else Ev X 194 7 ls st h Q) := R_ifne rfl
theorem e_194_7 : Ev X 194 7 ls st h Q ↔ onR (gl ls 0) (fun z => Ev X 194 8 ls (vr z :: st) h Q) := R_al rfl (Or.inl rfl)
theorem e_194_8 : Ev X 194 8 ls st h Q ↔ Ev X 194 9 ls (vi (-2) :: st) h Q := R_kc rfl (Or.inr (Or.inl ⟨rfl, by decide⟩))
theorem e_194_9 {rest : List xV} {a0 : Int} {o : Nat} : Ev X 194 9 ls ((vi a0) :: vr o :: rest) h Q ↔ ((X.1 o = 12 ∧ wd rest ≤ 8) ∧ Cl X 154 [vr o, vi a0] h (fun r h2 => Ev X 194 10 ls (r.toList ++ rest) h2 Q)) := R_cv (x := o) (as := [vi a0]) (k2 := 154) rfl rfl (Nat.le_of_ble_eq_true rfl)
theorem e_194_10 {z : Int} : Ev X 194 10 ls [vi z] h Q ↔ Q (some (vi z)) h := R_ir rfl
theorem e_194_11 : Ev X 194 11 ls st h Q ↔ onR (gl ls 0) (fun z => Ev X 194 12 ls (vr z :: st) h Q) := R_al rfl (Or.inl rfl)
theorem e_194_12 : Ev X 194 12 ls st h Q ↔ onI (gl ls 1) (fun z => Ev X 194 13 ls (vi z :: st) h Q) := R_il rfl (Or.inl rfl)
theorem e_194_13 {rest : List xV} {a0 : Int} {o : Nat} : Ev X 194 13 ls ((vi a0) :: vr o :: rest) h Q ↔ ((X.1 o = 12 ∧ wd rest ≤ 8) ∧ Cl X 162 [vr o, vi a0] h (fun r h2 => Ev X 194 14 ls (r.toList ++ rest) h2 Q)) := R_cv (x := o) (as := [vi a0]) (k2 := 162) rfl rfl (Nat.le_of_ble_eq_true rfl)
theorem e_194_14 {x : Int} : Ev X 194 14 ls (vi x :: st) h Q ↔ (if ¬ x = 0 then Ev X 194 19 ls st h Q else Ev X 194 15 ls st h Q) := R_ifne rfl
theorem e_194_15 : Ev X 194 15 ls st h Q ↔ onR (gl ls 0) (fun z => Ev X 194 16 ls (vr z :: st) h Q) := R_al rfl (Or.inl rfl)
theorem e_194_16 : Ev X 194 16 ls st h Q ↔ Ev X 194 17 ls (vi (-4) :: st) h Q := R_kc rfl (Or.inr (Or.inl ⟨rfl, by decide⟩))
theorem e_194_17 {rest : List xV} {a0 : Int} {o : Nat} : Ev X 194 17 ls ((vi a0) :: vr o :: rest) h Q ↔ ((X.1 o = 12 ∧ wd rest ≤ 8) ∧ Cl X 154 [vr o, vi a0] h (fun r h2 => Ev X 194 18 ls (r.toList ++ rest) h2 Q)) := R_cv (x := o) (as := [vi a0]) (k2 := 154) rfl rfl (Nat.le_of_ble_eq_true rfl)
theorem e_194_18 {z : Int} : Ev X 194 18 ls [vi z] h Q ↔ Q (some (vi z)) h := R_ir rfl
theorem e_194_19 : Ev X 194 19 ls st h Q ↔ onR (gl ls 0) (fun z => Ev X 194 20 ls (vr z :: st) h Q) := R_al rfl (Or.inl rfl)
theorem e_194_20 : Ev X 194 20 ls st h Q ↔ Ev X 194 21 ls (vi 7 :: st) h Q := R_kc rfl (Or.inr (Or.inl ⟨rfl, by decide⟩))
theorem e_194_21 {rest : List xV} {a0 : Int} {o : Nat} : Ev X 194 21 ls ((vi a0) :: vr o :: rest) h Q ↔ ((X.1 o = 12 ∧ wd rest ≤ 8) ∧ Cl X 156 [vr o, vi a0] h (fun r h2 => Ev X 194 22 ls (r.toList ++ rest) h2 Q)) := R_cv (x := o) (as := [vi a0]) (k2 := 156) rfl rfl (Nat.le_of_ble_eq_true rfl)
theorem e_194_22 : Ev X 194 22 ls st h Q ↔ onR (gl ls 0) (fun z => Ev X 194 23 ls (vr z :: st) h Q) := R_al rfl (Or.inl rfl)
theorem e_194_23 {x : Nat} : Ev X 194 23 ls (vr x :: st) h Q ↔ (X.1 x = 12 ∧ Ev X 194 24 ls (vr (X.2.2.1 x 6) :: st) h Q) := R_gr rfl
theorem e_194_24 : Ev X 194 24 ls st h Q ↔ onI (gl ls 1) (fun z => Ev X 194 25 ls (vi z :: st) h Q) := R_il rfl (Or.inl rfl)
theorem e_194_25 {rest : List xV} {a0 : Int} : Ev X 194 25 ls ((vi a0) :: rest) h Q ↔ (wd rest ≤ 8 ∧ Cl X 158 [vi a0] h (fun r h2 => Ev X 194 26 ls (r.toList ++ rest) h2 Q)) := R_cs (as := [vi a0]) (k2 := 158) rfl rfl (Nat.le_of_ble_eq_true rfl)
theorem e_194_26 : Ev X 194 26 ls st h Q ↔ Ev X 194 27 ls (vi 2 :: st) h Q := R_kc rfl (Or.inl ⟨Or.inl rfl, by decide⟩)
theorem e_194_27 {x y : Int} : Ev X 194 27 ls (vi y :: vi x :: st) h Q ↔ ((inR (x + y)) ∧ Ev X 194 28 ls (vi (x + y) :: st) h Q) := R_add rfl
theorem e_194_28 : Ev X 194 28 ls st h Q ↔ Ev X 194 29 ls (vi 0 :: st) h Q := R_kc rfl (Or.inl ⟨Or.inl rfl, by decide⟩)
theorem e_194_29 {x : Nat} {j v : Int} : Ev X 194 29 ls (vi v :: vi j :: vr x :: st) h Q ↔ ((X.1 x = 13 ∧ 0 ≤ j ∧ j < X.2.1 x) ∧ Ev X 194 30 ls st (up2 h.1 x j.toNat v, h.2) Q) := R_ias rfl
theorem e_194_30 : Ev X 194 30 ls st h Q ↔ onR (gl ls 0) (fun z => Ev X 194 31 ls (vr z :: st) h Q) := R_al rfl (Or.inl rfl)
theorem e_194_31 : Ev X 194 31 ls st h Q ↔ onR (gl ls 0) (fun z => Ev X 194 32 ls (vr z :: st) h Q) := R_al rfl (Or.inl rfl)
theorem e_194_32 {x : Nat} : Ev X 194 32 ls (vr x :: st) h Q ↔ (X.1 x = 12 ∧ Ev X 194 33 ls (vr (X.2.2.1 x 6) :: st) h Q) := R_gr rfl
theorem e_194_33 : Ev X 194 33 ls st h Q ↔ onI (gl ls 1) (fun z => Ev X 194 34 ls (vi z :: st) h Q) := R_il rfl (Or.inl rfl)
theorem e_194_34 {rest : List xV} {a0 : Int} : Ev X 194 34 ls ((vi a0) :: rest) h Q ↔ (wd rest ≤ 8 ∧ Cl X 158 [vi a0] h (fun r h2 => Ev X 194 35 ls (r.toList ++ rest) h2 Q)) := R_cs (as := [vi a0]) (k2 := 158) rfl rfl (Nat.le_of_ble_eq_true rfl)
theorem e_194_35 : Ev X 194 35 ls st h Q ↔ Ev X 194 36 ls (vi 5 :: st) h Q := R_kc rfl (Or.inl ⟨Or.inl rfl, by decide⟩)
theorem e_194_36 {x y : Int} : Ev X 194 36 ls (vi y :: vi x :: st) h Q ↔ ((inR (x + y)) ∧ Ev X 194 37 ls (vi (x + y) :: st) h Q) := R_add rfl
theorem e_194_37 {x : Nat} {j : Int} : Ev X 194 37 ls (vi j :: vr x :: st) h Q ↔ (((X.1 x = 13 ∨ X.1 x = 20) ∧ 0 ≤ j ∧ j < X.2.1 x) ∧ Ev X 194 38 ls (vi (h.1 x j.toNat) :: st) h Q) := R_ia rfl
theorem e_194_38 {rest : List xV} {a0 : Int} {o : Nat} : Ev X 194 38 ls ((vi a0) :: vr o :: rest) h Q ↔ ((X.1 o = 12 ∧ wd rest ≤ 8) ∧ Cl X 153 [vr o, vi a0] h (fun r h2 => Ev X 194 39 ls (r.toList ++ rest) h2 Q)) := R_cv (x := o) (as := [vi a0]) (k2 := 153) rfl rfl (Nat.le_of_ble_eq_true rfl)
theorem e_194_39 {z : Int} : Ev X 194 39 ls [vi z] h Q ↔ Q (some (vi z)) h := R_ir rfl
-- 195: CellRowsModel.put(III)I
theorem e_195_0 : Ev X 195 0 ls st h Q ↔ onR (gl ls 0) (fun z => Ev X 195 1 ls (vr z :: st) h Q) := R_al rfl (Or.inl rfl)
theorem e_195_1 : Ev X 195 1 ls st h Q ↔ Ev X 195 2 ls (vi 0 :: st) h Q := R_kc rfl (Or.inl ⟨Or.inl rfl, by decide⟩)
theorem e_195_2 {x : Nat} {v : Int} : Ev X 195 2 ls (vi v :: vr x :: st) h Q ↔ (X.1 x = 12 ∧ Ev X 195 3 ls st (h.1, up2 h.2 x 0 v) Q) := R_pi rfl
theorem e_195_3 : Ev X 195 3 ls st h Q ↔ onR (gl ls 0) (fun z => Ev X 195 4 ls (vr z :: st) h Q) := R_al rfl (Or.inl rfl)
theorem e_195_4 : Ev X 195 4 ls st h Q ↔ onI (gl ls 2) (fun z => Ev X 195 5 ls (vi z :: st) h Q) := R_il rfl (Or.inl rfl)
theorem e_195_5 : Ev X 195 5 ls st h Q ↔ onI (gl ls 3) (fun z => Ev X 195 6 ls (vi z :: st) h Q) := R_il rfl (Or.inl rfl)
theorem e_195_6 {rest : List xV} {a0 : Int} {a1 : Int} {o : Nat} : Ev X 195 6 ls ((vi a1) :: (vi a0) :: vr o :: rest) h Q ↔ ((X.1 o = 12 ∧ wd rest ≤ 8) ∧ Cl X 170 [vr o, vi a0, vi a1] h (fun r h2 => Ev X 195 7 ls (r.toList ++ rest) h2 Q)) := R_cv (x := o) (as := [vi a0, vi a1]) (k2 := 170) rfl rfl (Nat.le_of_ble_eq_true rfl)
theorem e_195_7 {x : Int} : Ev X 195 7 ls (vi x :: st) h Q ↔ (if ¬ x = 0 then Ev X 195 12 ls st h Q else Ev X 195 8 ls st h Q) := R_ifne rfl
theorem e_195_8 : Ev X 195 8 ls st h Q ↔ onR (gl ls 0) (fun z => Ev X 195 9 ls (vr z :: st) h Q) := R_al rfl (Or.inl rfl)
theorem e_195_9 : Ev X 195 9 ls st h Q ↔ Ev X 195 10 ls (vi (-1) :: st) h Q := R_kc rfl (Or.inl ⟨Or.inl rfl, by decide⟩)
theorem e_195_10 {rest : List xV} {a0 : Int} {o : Nat} : Ev X 195 10 ls ((vi a0) :: vr o :: rest) h Q ↔ ((X.1 o = 12 ∧ wd rest ≤ 8) ∧ Cl X 154 [vr o, vi a0] h (fun r h2 => Ev X 195 11 ls (r.toList ++ rest) h2 Q)) := R_cv (x := o) (as := [vi a0]) (k2 := 154) rfl rfl (Nat.le_of_ble_eq_true rfl)
theorem e_195_11 {z : Int} : Ev X 195 11 ls [vi z] h Q ↔ Q (some (vi z)) h := R_ir rfl
theorem e_195_12 : Ev X 195 12 ls st h Q ↔ onR (gl ls 0) (fun z => Ev X 195 13 ls (vr z :: st) h Q) := R_al rfl (Or.inl rfl)
theorem e_195_13 : Ev X 195 13 ls st h Q ↔ onI (gl ls 1) (fun z => Ev X 195 14 ls (vi z :: st) h Q) := R_il rfl (Or.inl rfl)
theorem e_195_14 {rest : List xV} {a0 : Int} {o : Nat} : Ev X 195 14 ls ((vi a0) :: vr o :: rest) h Q ↔ ((X.1 o = 12 ∧ wd rest ≤ 8) ∧ Cl X 167 [vr o, vi a0] h (fun r h2 => Ev X 195 15 ls (r.toList ++ rest) h2 Q)) := R_cv (x := o) (as := [vi a0]) (k2 := 167) rfl rfl (Nat.le_of_ble_eq_true rfl)
theorem e_195_15 {x : Int} : Ev X 195 15 ls (vi x :: st) h Q ↔ (if ¬ x = 0 then Ev X 195 20 ls st h Q else Ev X 195 16 ls st h Q) := R_ifne rfl
theorem e_195_16 : Ev X 195 16 ls st h Q ↔ onR (gl ls 0) (fun z => Ev X 195 17 ls (vr z :: st) h Q) := R_al rfl (Or.inl rfl)
theorem e_195_17 : Ev X 195 17 ls st h Q ↔ Ev X 195 18 ls (vi (-2) :: st) h Q := R_kc rfl (Or.inr (Or.inl ⟨rfl, by decide⟩))
theorem e_195_18 {rest : List xV} {a0 : Int} {o : Nat} : Ev X 195 18 ls ((vi a0) :: vr o :: rest) h Q ↔ ((X.1 o = 12 ∧ wd rest ≤ 8) ∧ Cl X 154 [vr o, vi a0] h (fun r h2 => Ev X 195 19 ls (r.toList ++ rest) h2 Q)) := R_cv (x := o) (as := [vi a0]) (k2 := 154) rfl rfl (Nat.le_of_ble_eq_true rfl)
theorem e_195_19 {z : Int} : Ev X 195 19 ls [vi z] h Q ↔ Q (some (vi z)) h := R_ir rfl
theorem e_195_20 : Ev X 195 20 ls st h Q ↔ onR (gl ls 0) (fun z => Ev X 195 21 ls (vr z :: st) h Q) := R_al rfl (Or.inl rfl)
theorem e_195_21 : Ev X 195 21 ls st h Q ↔ onI (gl ls 1) (fun z => Ev X 195 22 ls (vi z :: st) h Q) := R_il rfl (Or.inl rfl)
theorem e_195_22 {rest : List xV} {a0 : Int} {o : Nat} : Ev X 195 22 ls ((vi a0) :: vr o :: rest) h Q ↔ ((X.1 o = 12 ∧ wd rest ≤ 8) ∧ Cl X 162 [vr o, vi a0] h (fun r h2 => Ev X 195 23 ls (r.toList ++ rest) h2 Q)) := R_cv (x := o) (as := [vi a0]) (k2 := 162) rfl rfl (Nat.le_of_ble_eq_true rfl)
theorem e_195_23 {x : Int} : Ev X 195 23 ls (vi x :: st) h Q ↔ (if ¬ x = 0 then Ev X 195 31 ls st h Q else Ev X 195 24 ls st h Q) := R_ifne rfl
theorem e_195_24 : Ev X 195 24 ls st h Q ↔ onR (gl ls 0) (fun z => Ev X 195 25 ls (vr z :: st) h Q) := R_al rfl (Or.inl rfl)
theorem e_195_25 : Ev X 195 25 ls st h Q ↔ onI (gl ls 1) (fun z => Ev X 195 26 ls (vi z :: st) h Q) := R_il rfl (Or.inl rfl)
theorem e_195_26 : Ev X 195 26 ls st h Q ↔ onI (gl ls 2) (fun z => Ev X 195 27 ls (vi z :: st) h Q) := R_il rfl (Or.inl rfl)
theorem e_195_27 : Ev X 195 27 ls st h Q ↔ onI (gl ls 3) (fun z => Ev X 195 28 ls (vi z :: st) h Q) := R_il rfl (Or.inl rfl)
theorem e_195_28 : Ev X 195 28 ls st h Q ↔ Ev X 195 29 ls (vi 0 :: st) h Q := R_kc rfl (Or.inl ⟨Or.inl rfl, by decide⟩)
theorem e_195_29 {rest : List xV} {a0 : Int} {a1 : Int} {a2 : Int} {a3 : Int} {o : Nat} : Ev X 195 29 ls ((vi a3) :: (vi a2) :: (vi a1) :: (vi a0) :: vr o :: rest) h Q ↔ ((X.1 o = 12 ∧ wd rest ≤ 8) ∧ Cl X 176 [vr o, vi a0, vi a1, vi a2, vi a3] h (fun r h2 => Ev X 195 30 ls (r.toList ++ rest) h2 Q)) := R_cv (x := o) (as := [vi a0, vi a1, vi a2, vi a3]) (k2 := 176) rfl rfl (Nat.le_of_ble_eq_true rfl)
theorem e_195_30 {x : Int} : Ev X 195 30 ls (vi x :: st) h Q ↔ (if ¬ x = 0 then Ev X 195 35 ls st h Q else Ev X 195 31 ls st h Q) := R_ifne rfl
theorem e_195_31 : Ev X 195 31 ls st h Q ↔ onR (gl ls 0) (fun z => Ev X 195 32 ls (vr z :: st) h Q) := R_al rfl (Or.inl rfl)
theorem e_195_32 : Ev X 195 32 ls st h Q ↔ Ev X 195 33 ls (vi (-4) :: st) h Q := R_kc rfl (Or.inr (Or.inl ⟨rfl, by decide⟩))
theorem e_195_33 {rest : List xV} {a0 : Int} {o : Nat} : Ev X 195 33 ls ((vi a0) :: vr o :: rest) h Q ↔ ((X.1 o = 12 ∧ wd rest ≤ 8) ∧ Cl X 154 [vr o, vi a0] h (fun r h2 => Ev X 195 34 ls (r.toList ++ rest) h2 Q)) := R_cv (x := o) (as := [vi a0]) (k2 := 154) rfl rfl (Nat.le_of_ble_eq_true rfl)
theorem e_195_34 {z : Int} : Ev X 195 34 ls [vi z] h Q ↔ Q (some (vi z)) h := R_ir rfl
theorem e_195_35 : Ev X 195 35 ls st h Q ↔ onR (gl ls 0) (fun z => Ev X 195 36 ls (vr z :: st) h Q) := R_al rfl (Or.inl rfl)
theorem e_195_36 : Ev X 195 36 ls st h Q ↔ Ev X 195 37 ls (vi 8 :: st) h Q := R_kc rfl (Or.inr (Or.inl ⟨rfl, by decide⟩))
theorem e_195_37 {rest : List xV} {a0 : Int} {o : Nat} : Ev X 195 37 ls ((vi a0) :: vr o :: rest) h Q ↔ ((X.1 o = 12 ∧ wd rest ≤ 8) ∧ Cl X 156 [vr o, vi a0] h (fun r h2 => Ev X 195 38 ls (r.toList ++ rest) h2 Q)) := R_cv (x := o) (as := [vi a0]) (k2 := 156) rfl rfl (Nat.le_of_ble_eq_true rfl)
theorem e_195_38 : Ev X 195 38 ls st h Q ↔ onR (gl ls 0) (fun z => Ev X 195 39 ls (vr z :: st) h Q) := R_al rfl (Or.inl rfl)
theorem e_195_39 : Ev X 195 39 ls st h Q ↔ onI (gl ls 1) (fun z => Ev X 195 40 ls (vi z :: st) h Q) := R_il rfl (Or.inl rfl)
theorem e_195_40 : Ev X 195 40 ls st h Q ↔ onI (gl ls 2) (fun z => Ev X 195 41 ls (vi z :: st) h Q) := R_il rfl (Or.inl rfl)
theorem e_195_41 : Ev X 195 41 ls st h Q ↔ onI (gl ls 3) (fun z => Ev X 195 42 ls (vi z :: st) h Q) := R_il rfl (Or.inl rfl)
theorem e_195_42 {rest : List xV} {a0 : Int} {a1 : Int} {a2 : Int} {o : Nat} : Ev X 195 42 ls ((vi a2) :: (vi a1) :: (vi a0) :: vr o :: rest) h Q ↔ ((X.1 o = 12 ∧ wd rest ≤ 8) ∧ Cl X 166 [vr o, vi a0, vi a1, vi a2] h (fun r h2 => Ev X 195 43 ls (r.toList ++ rest) h2 Q)) := R_cv (x := o) (as := [vi a0, vi a1, vi a2]) (k2 := 166) rfl rfl (Nat.le_of_ble_eq_true rfl)
theorem e_195_43 : Ev X 195 43 ls st h Q ↔ onR (gl ls 0) (fun z => Ev X 195 44 ls (vr z :: st) h Q) := R_al rfl (Or.inl rfl)
theorem e_195_44 : Ev X 195 44 ls st h Q ↔ onR (gl ls 0) (fun z => Ev X 195 45 ls (vr z :: st) h Q) := R_al rfl (Or.inl rfl)
theorem e_195_45 {rest : List xV}  {o : Nat} : Ev X 195 45 ls (vr o :: rest) h Q ↔ ((X.1 o = 12 ∧ wd rest ≤ 8) ∧ Cl X 206 [vr o] h (fun r h2 => Ev X 195 46 ls (r.toList ++ rest) h2 Q)) := R_cv (x := o) (as := []) (k2 := 206) rfl rfl (Nat.le_of_ble_eq_true rfl)
theorem e_195_46 {rest : List xV} {a0 : Int} {o : Nat} : Ev X 195 46 ls ((vi a0) :: vr o :: rest) h Q ↔ ((X.1 o = 12 ∧ wd rest ≤ 8) ∧ Cl X 153 [vr o, vi a0] h (fun r h2 => Ev X 195 47 ls (r.toList ++ rest) h2 Q)) := R_cv (x := o) (as := [vi a0]) (k2 := 153) rfl rfl (Nat.le_of_ble_eq_true rfl)
theorem e_195_47 {z : Int} : Ev X 195 47 ls [vi z] h Q ↔ Q (some (vi z)) h := R_ir rfl
-- 196: CellRowsModel.take(I)I
theorem e_196_0 : Ev X 196 0 ls st h Q ↔ onR (gl ls 0) (fun z => Ev X 196 1 ls (vr z :: st) h Q) := R_al rfl (Or.inl rfl)
theorem e_196_1 : Ev X 196 1 ls st h Q ↔ Ev X 196 2 ls (vi 0 :: st) h Q := R_kc rfl (Or.inl ⟨Or.inl rfl, by decide⟩)
theorem e_196_2 {x : Nat} {v : Int} : Ev X 196 2 ls (vi v :: vr x :: st) h Q ↔ (X.1 x = 12 ∧ Ev X 196 3 ls st (h.1, up2 h.2 x 0 v) Q) := R_pi rfl
theorem e_196_3 : Ev X 196 3 ls st h Q ↔ onR (gl ls 0) (fun z => Ev X 196 4 ls (vr z :: st) h Q) := R_al rfl (Or.inl rfl)
theorem e_196_4 : Ev X 196 4 ls st h Q ↔ onI (gl ls 1) (fun z => Ev X 196 5 ls (vi z :: st) h Q) := R_il rfl (Or.inl rfl)
theorem e_196_5 {rest : List xV} {a0 : Int} {o : Nat} : Ev X 196 5 ls ((vi a0) :: vr o :: rest) h Q ↔ ((X.1 o = 12 ∧ wd rest ≤ 8) ∧ Cl X 167 [vr o, vi a0] h (fun r h2 => Ev X 196 6 ls (r.toList ++ rest) h2 Q)) := R_cv (x := o) (as := [vi a0]) (k2 := 167) rfl rfl (Nat.le_of_ble_eq_true rfl)
theorem e_196_6 {x : Int} : Ev X 196 6 ls (vi x :: st) h Q ↔ (if ¬ x = 0 then Ev X 196 11 ls st h Q else Ev X 196 7 ls st h Q) := R_ifne rfl
theorem e_196_7 : Ev X 196 7 ls st h Q ↔ onR (gl ls 0) (fun z => Ev X 196 8 ls (vr z :: st) h Q) := R_al rfl (Or.inl rfl)
theorem e_196_8 : Ev X 196 8 ls st h Q ↔ Ev X 196 9 ls (vi (-2) :: st) h Q := R_kc rfl (Or.inr (Or.inl ⟨rfl, by decide⟩))
theorem e_196_9 {rest : List xV} {a0 : Int} {o : Nat} : Ev X 196 9 ls ((vi a0) :: vr o :: rest) h Q ↔ ((X.1 o = 12 ∧ wd rest ≤ 8) ∧ Cl X 154 [vr o, vi a0] h (fun r h2 => Ev X 196 10 ls (r.toList ++ rest) h2 Q)) := R_cv (x := o) (as := [vi a0]) (k2 := 154) rfl rfl (Nat.le_of_ble_eq_true rfl)
theorem e_196_10 {z : Int} : Ev X 196 10 ls [vi z] h Q ↔ Q (some (vi z)) h := R_ir rfl
theorem e_196_11 : Ev X 196 11 ls st h Q ↔ onR (gl ls 0) (fun z => Ev X 196 12 ls (vr z :: st) h Q) := R_al rfl (Or.inl rfl)
theorem e_196_12 : Ev X 196 12 ls st h Q ↔ onI (gl ls 1) (fun z => Ev X 196 13 ls (vi z :: st) h Q) := R_il rfl (Or.inl rfl)
theorem e_196_13 {rest : List xV} {a0 : Int} {o : Nat} : Ev X 196 13 ls ((vi a0) :: vr o :: rest) h Q ↔ ((X.1 o = 12 ∧ wd rest ≤ 8) ∧ Cl X 164 [vr o, vi a0] h (fun r h2 => Ev X 196 14 ls (r.toList ++ rest) h2 Q)) := R_cv (x := o) (as := [vi a0]) (k2 := 164) rfl rfl (Nat.le_of_ble_eq_true rfl)
theorem e_196_14 {x : Int} : Ev X 196 14 ls (vi x :: st) h Q ↔ (if ¬ x = 0 then Ev X 196 19 ls st h Q else Ev X 196 15 ls st h Q) := R_ifne rfl
theorem e_196_15 : Ev X 196 15 ls st h Q ↔ onR (gl ls 0) (fun z => Ev X 196 16 ls (vr z :: st) h Q) := R_al rfl (Or.inl rfl)
theorem e_196_16 : Ev X 196 16 ls st h Q ↔ Ev X 196 17 ls (vi (-4) :: st) h Q := R_kc rfl (Or.inr (Or.inl ⟨rfl, by decide⟩))
theorem e_196_17 {rest : List xV} {a0 : Int} {o : Nat} : Ev X 196 17 ls ((vi a0) :: vr o :: rest) h Q ↔ ((X.1 o = 12 ∧ wd rest ≤ 8) ∧ Cl X 154 [vr o, vi a0] h (fun r h2 => Ev X 196 18 ls (r.toList ++ rest) h2 Q)) := R_cv (x := o) (as := [vi a0]) (k2 := 154) rfl rfl (Nat.le_of_ble_eq_true rfl)
theorem e_196_18 {z : Int} : Ev X 196 18 ls [vi z] h Q ↔ Q (some (vi z)) h := R_ir rfl
theorem e_196_19 : Ev X 196 19 ls st h Q ↔ onR (gl ls 0) (fun z => Ev X 196 20 ls (vr z :: st) h Q) := R_al rfl (Or.inl rfl)
theorem e_196_20 : Ev X 196 20 ls st h Q ↔ Ev X 196 21 ls (vi 9 :: st) h Q := R_kc rfl (Or.inr (Or.inl ⟨rfl, by decide⟩))
theorem e_196_21 {rest : List xV} {a0 : Int} {o : Nat} : Ev X 196 21 ls ((vi a0) :: vr o :: rest) h Q ↔ ((X.1 o = 12 ∧ wd rest ≤ 8) ∧ Cl X 156 [vr o, vi a0] h (fun r h2 => Ev X 196 22 ls (r.toList ++ rest) h2 Q)) := R_cv (x := o) (as := [vi a0]) (k2 := 156) rfl rfl (Nat.le_of_ble_eq_true rfl)
theorem e_196_22 : Ev X 196 22 ls st h Q ↔ onR (gl ls 0) (fun z => Ev X 196 23 ls (vr z :: st) h Q) := R_al rfl (Or.inl rfl)
theorem e_196_23 {x : Nat} : Ev X 196 23 ls (vr x :: st) h Q ↔ (X.1 x = 12 ∧ Ev X 196 24 ls (vr (X.2.2.1 x 6) :: st) h Q) := R_gr rfl
theorem e_196_24 : Ev X 196 24 ls st h Q ↔ onI (gl ls 1) (fun z => Ev X 196 25 ls (vi z :: st) h Q) := R_il rfl (Or.inl rfl)
theorem e_196_25 {rest : List xV} {a0 : Int} : Ev X 196 25 ls ((vi a0) :: rest) h Q ↔ (wd rest ≤ 8 ∧ Cl X 158 [vi a0] h (fun r h2 => Ev X 196 26 ls (r.toList ++ rest) h2 Q)) := R_cs (as := [vi a0]) (k2 := 158) rfl rfl (Nat.le_of_ble_eq_true rfl)
theorem e_196_26 : Ev X 196 26 ls st h Q ↔ Ev X 196 27 ls (vi 5 :: st) h Q := R_kc rfl (Or.inl ⟨Or.inl rfl, by decide⟩)
theorem e_196_27 {x y : Int} : Ev X 196 27 ls (vi y :: vi x :: st) h Q ↔ ((inR (x + y)) ∧ Ev X 196 28 ls (vi (x + y) :: st) h Q) := R_add rfl
theorem e_196_28 {x : Nat} {j : Int} : Ev X 196 28 ls (vi j :: vr x :: st) h Q ↔ (((X.1 x = 13 ∨ X.1 x = 20) ∧ 0 ≤ j ∧ j < X.2.1 x) ∧ Ev X 196 29 ls (vi (h.1 x j.toNat) :: st) h Q) := R_ia rfl
theorem e_196_29 {x : Int} : Ev X 196 29 ls (vi x :: st) h Q ↔ (stOK ls 2 = true ∧ Ev X 196 30 (ls.set 2 (some (vi x))) st h Q) := R_is rfl (Or.inl rfl)
theorem e_196_30 : Ev X 196 30 ls st h Q ↔ onR (gl ls 0) (fun z => Ev X 196 31 ls (vr z :: st) h Q) := R_al rfl (Or.inl rfl)
theorem e_196_31 : Ev X 196 31 ls st h Q ↔ onI (gl ls 1) (fun z => Ev X 196 32 ls (vi z :: st) h Q) := R_il rfl (Or.inl rfl)
theorem e_196_32 {rest : List xV} {a0 : Int} {o : Nat} : Ev X 196 32 ls ((vi a0) :: vr o :: rest) h Q ↔ ((X.1 o = 12 ∧ wd rest ≤ 8) ∧ Cl X 165 [vr o, vi a0] h (fun r h2 => Ev X 196 33 ls (r.toList ++ rest) h2 Q)) := R_cv (x := o) (as := [vi a0]) (k2 := 165) rfl rfl (Nat.le_of_ble_eq_true rfl)
theorem e_196_33 : Ev X 196 33 ls st h Q ↔ onR (gl ls 0) (fun z => Ev X 196 34 ls (vr z :: st) h Q) := R_al rfl (Or.inl rfl)
theorem e_196_34 : Ev X 196 34 ls st h Q ↔ onI (gl ls 2) (fun z => Ev X 196 35 ls (vi z :: st) h Q) := R_il rfl (Or.inl rfl)
theorem e_196_35 {rest : List xV} {a0 : Int} {o : Nat} : Ev X 196 35 ls ((vi a0) :: vr o :: rest) h Q ↔ ((X.1 o = 12 ∧ wd rest ≤ 8) ∧ Cl X 153 [vr o, vi a0] h (fun r h2 => Ev X 196 36 ls (r.toList ++ rest) h2 Q)) := R_cv (x := o) (as := [vi a0]) (k2 := 153) rfl rfl (Nat.le_of_ble_eq_true rfl)
theorem e_196_36 {z : Int} : Ev X 196 36 ls [vi z] h Q ↔ Q (some (vi z)) h := R_ir rfl
-- 197: CellRowsModel.pinMany(I)I
theorem e_197_0 : Ev X 197 0 ls st h Q ↔ onR (gl ls 0) (fun z => Ev X 197 1 ls (vr z :: st) h Q) := R_al rfl (Or.inl rfl)
theorem e_197_1 {x : Nat} : Ev X 197 1 ls (vr x :: st) h Q ↔ (X.1 x = 12 ∧ Ev X 197 2 ls (vr (X.2.2.1 x 6) :: st) h Q) := R_gr rfl
theorem e_197_2 : Ev X 197 2 ls st h Q ↔ onI (gl ls 1) (fun z => Ev X 197 3 ls (vi z :: st) h Q) := R_il rfl (Or.inl rfl)
theorem e_197_3 {rest : List xV} {a0 : Int} : Ev X 197 3 ls ((vi a0) :: rest) h Q ↔ (wd rest ≤ 8 ∧ Cl X 159 [vi a0] h (fun r h2 => Ev X 197 4 ls (r.toList ++ rest) h2 Q)) := R_cs (as := [vi a0]) (k2 := 159) rfl rfl (Nat.le_of_ble_eq_true rfl)
theorem e_197_4 : Ev X 197 4 ls st h Q ↔ Ev X 197 5 ls (vi 1 :: st) h Q := R_kc rfl (Or.inl ⟨Or.inl rfl, by decide⟩)
theorem e_197_5 {x y : Int} : Ev X 197 5 ls (vi y :: vi x :: st) h Q ↔ ((inR (x + y)) ∧ Ev X 197 6 ls (vi (x + y) :: st) h Q) := R_add rfl
theorem e_197_6 {x : Nat} {j : Int} : Ev X 197 6 ls (vi j :: vr x :: st) h Q ↔ (((X.1 x = 13 ∨ X.1 x = 20) ∧ 0 ≤ j ∧ j < X.2.1 x) ∧ Ev X 197 7 ls (vi (h.1 x j.toNat) :: st) h Q) := R_ia rfl
theorem e_197_7 {z : Int} : Ev X 197 7 ls [vi z] h Q ↔ Q (some (vi z)) h := R_ir rfl
-- 198: CellRowsModel.pinCell(II)I
theorem e_198_0 : Ev X 198 0 ls st h Q ↔ onR (gl ls 0) (fun z => Ev X 198 1 ls (vr z :: st) h Q) := R_al rfl (Or.inl rfl)
theorem e_198_1 {x : Nat} : Ev X 198 1 ls (vr x :: st) h Q ↔ (X.1 x = 12 ∧ Ev X 198 2 ls (vr (X.2.2.1 x 6) :: st) h Q) := R_gr rfl
theorem e_198_2 : Ev X 198 2 ls st h Q ↔ onI (gl ls 1) (fun z => Ev X 198 3 ls (vi z :: st) h Q) := R_il rfl (Or.inl rfl)
theorem e_198_3 {rest : List xV} {a0 : Int} : Ev X 198 3 ls ((vi a0) :: rest) h Q ↔ (wd rest ≤ 8 ∧ Cl X 159 [vi a0] h (fun r h2 => Ev X 198 4 ls (r.toList ++ rest) h2 Q)) := R_cs (as := [vi a0]) (k2 := 159) rfl rfl (Nat.le_of_ble_eq_true rfl)
theorem e_198_4 : Ev X 198 4 ls st h Q ↔ Ev X 198 5 ls (vi 2 :: st) h Q := R_kc rfl (Or.inl ⟨Or.inl rfl, by decide⟩)
theorem e_198_5 {x y : Int} : Ev X 198 5 ls (vi y :: vi x :: st) h Q ↔ ((inR (x + y)) ∧ Ev X 198 6 ls (vi (x + y) :: st) h Q) := R_add rfl
theorem e_198_6 : Ev X 198 6 ls st h Q ↔ Ev X 198 7 ls (vi 2 :: st) h Q := R_kc rfl (Or.inl ⟨Or.inl rfl, by decide⟩)
theorem e_198_7 : Ev X 198 7 ls st h Q ↔ onI (gl ls 2) (fun z => Ev X 198 8 ls (vi z :: st) h Q) := R_il rfl (Or.inl rfl)
theorem e_198_8 {x y : Int} : Ev X 198 8 ls (vi y :: vi x :: st) h Q ↔ ((inR (x * y)) ∧ Ev X 198 9 ls (vi (x * y) :: st) h Q) := R_mul rfl
theorem e_198_9 {x y : Int} : Ev X 198 9 ls (vi y :: vi x :: st) h Q ↔ ((inR (x + y)) ∧ Ev X 198 10 ls (vi (x + y) :: st) h Q) := R_add rfl
theorem e_198_10 {x : Nat} {j : Int} : Ev X 198 10 ls (vi j :: vr x :: st) h Q ↔ (((X.1 x = 13 ∨ X.1 x = 20) ∧ 0 ≤ j ∧ j < X.2.1 x) ∧ Ev X 198 11 ls (vi (h.1 x j.toNat) :: st) h Q) := R_ia rfl
theorem e_198_11 {x : Int} : Ev X 198 11 ls (vi x :: st) h Q ↔ (stOK ls 3 = true ∧ Ev X 198 12 (ls.set 3 (some (vi x))) st h Q) := R_is rfl (Or.inl rfl)
theorem e_198_12 : Ev X 198 12 ls st h Q ↔ onI (gl ls 3) (fun z => Ev X 198 13 ls (vi z :: st) h Q) := R_il rfl (Or.inl rfl)
theorem e_198_13 : Ev X 198 13 ls st h Q ↔ Ev X 198 14 ls (vi 200 :: st) h Q := R_kc rfl (Or.inr (Or.inr ⟨rfl, by decide⟩))
theorem e_198_14 {x y : Int} : Ev X 198 14 ls (vi y :: vi x :: st) h Q ↔ (if x < y then Ev X 198 17 ls st h Q else Ev X 198 15 ls st h Q) := R_iclt rfl
theorem e_198_15 : Ev X 198 15 ls st h Q ↔ Ev X 198 16 ls (vi (-1) :: st) h Q := R_kc rfl (Or.inl ⟨Or.inl rfl, by decide⟩)
theorem e_198_16 : Ev X 198 16 ls st h Q ↔ Ev X 198 18 ls st h Q := R_go rfl
theorem e_198_17 : Ev X 198 17 ls st h Q ↔ onI (gl ls 3) (fun z => Ev X 198 18 ls (vi z :: st) h Q) := R_il rfl (Or.inl rfl)
theorem e_198_18 {z : Int} : Ev X 198 18 ls [vi z] h Q ↔ Q (some (vi z)) h := R_ir rfl
-- 199: CellRowsModel.second(II)I
theorem e_199_0 : Ev X 199 0 ls st h Q ↔ onR (gl ls 0) (fun z => Ev X 199 1 ls (vr z :: st) h Q) := R_al rfl (Or.inl rfl)
theorem e_199_1 {x : Nat} : Ev X 199 1 ls (vr x :: st) h Q ↔ (X.1 x = 12 ∧ Ev X 199 2 ls (vr (X.2.2.1 x 6) :: st) h Q) := R_gr rfl
theorem e_199_2 : Ev X 199 2 ls st h Q ↔ onI (gl ls 1) (fun z => Ev X 199 3 ls (vi z :: st) h Q) := R_il rfl (Or.inl rfl)
theorem e_199_3 {rest : List xV} {a0 : Int} : Ev X 199 3 ls ((vi a0) :: rest) h Q ↔ (wd rest ≤ 8 ∧ Cl X 159 [vi a0] h (fun r h2 => Ev X 199 4 ls (r.toList ++ rest) h2 Q)) := R_cs (as := [vi a0]) (k2 := 159) rfl rfl (Nat.le_of_ble_eq_true rfl)
theorem e_199_4 : Ev X 199 4 ls st h Q ↔ Ev X 199 5 ls (vi 2 :: st) h Q := R_kc rfl (Or.inl ⟨Or.inl rfl, by decide⟩)
theorem e_199_5 {x y : Int} : Ev X 199 5 ls (vi y :: vi x :: st) h Q ↔ ((inR (x + y)) ∧ Ev X 199 6 ls (vi (x + y) :: st) h Q) := R_add rfl
theorem e_199_6 : Ev X 199 6 ls st h Q ↔ Ev X 199 7 ls (vi 2 :: st) h Q := R_kc rfl (Or.inl ⟨Or.inl rfl, by decide⟩)
theorem e_199_7 : Ev X 199 7 ls st h Q ↔ onI (gl ls 2) (fun z => Ev X 199 8 ls (vi z :: st) h Q) := R_il rfl (Or.inl rfl)
theorem e_199_8 {x y : Int} : Ev X 199 8 ls (vi y :: vi x :: st) h Q ↔ ((inR (x * y)) ∧ Ev X 199 9 ls (vi (x * y) :: st) h Q) := R_mul rfl
theorem e_199_9 {x y : Int} : Ev X 199 9 ls (vi y :: vi x :: st) h Q ↔ ((inR (x + y)) ∧ Ev X 199 10 ls (vi (x + y) :: st) h Q) := R_add rfl
theorem e_199_10 : Ev X 199 10 ls st h Q ↔ Ev X 199 11 ls (vi 1 :: st) h Q := R_kc rfl (Or.inl ⟨Or.inl rfl, by decide⟩)
theorem e_199_11 {x y : Int} : Ev X 199 11 ls (vi y :: vi x :: st) h Q ↔ ((inR (x + y)) ∧ Ev X 199 12 ls (vi (x + y) :: st) h Q) := R_add rfl
theorem e_199_12 {x : Nat} {j : Int} : Ev X 199 12 ls (vi j :: vr x :: st) h Q ↔ (((X.1 x = 13 ∨ X.1 x = 20) ∧ 0 ≤ j ∧ j < X.2.1 x) ∧ Ev X 199 13 ls (vi (h.1 x j.toNat) :: st) h Q) := R_ia rfl
theorem e_199_13 {z : Int} : Ev X 199 13 ls [vi z] h Q ↔ Q (some (vi z)) h := R_ir rfl
-- 200: CellRowsModel.pinX(IIZ)I
theorem e_200_0 : Ev X 200 0 ls st h Q ↔ onR (gl ls 0) (fun z => Ev X 200 1 ls (vr z :: st) h Q) := R_al rfl (Or.inl rfl)
theorem e_200_1 : Ev X 200 1 ls st h Q ↔ onI (gl ls 1) (fun z => Ev X 200 2 ls (vi z :: st) h Q) := R_il rfl (Or.inl rfl)
theorem e_200_2 : Ev X 200 2 ls st h Q ↔ onI (gl ls 2) (fun z => Ev X 200 3 ls (vi z :: st) h Q) := R_il rfl (Or.inl rfl)
theorem e_200_3 {rest : List xV} {a0 : Int} {a1 : Int} {o : Nat} : Ev X 200 3 ls ((vi a1) :: (vi a0) :: vr o :: rest) h Q ↔ ((X.1 o = 12 ∧ wd rest ≤ 8) ∧ Cl X 198 [vr o, vi a0, vi a1] h (fun r h2 => Ev X 200 4 ls (r.toList ++ rest) h2 Q)) := R_cv (x := o) (as := [vi a0, vi a1]) (k2 := 198) rfl rfl (Nat.le_of_ble_eq_true rfl)
theorem e_200_4 {x : Int} : Ev X 200 4 ls (vi x :: st) h Q ↔ (stOK ls 4 = true ∧ Ev X 200 5 (ls.set 4 (some (vi x))) st h Q) := R_is rfl (Or.inr rfl)
theorem e_200_5 : Ev X 200 5 ls st h Q ↔ onI (gl ls 4) (fun z => Ev X 200 6 ls (vi z :: st) h Q) := R_il rfl (Or.inr rfl)
theorem e_200_6 : Ev X 200 6 ls st h Q ↔ Ev X 200 7 ls (vi (-1) :: st) h Q := R_kc rfl (Or.inl ⟨Or.inl rfl, by decide⟩)
theorem e_200_7 {x y : Int} : Ev X 200 7 ls (vi y :: vi x :: st) h Q ↔ (if ¬ x = y then Ev X 200 17 ls st h Q else Ev X 200 8 ls st h Q) := R_icne rfl
theorem e_200_8 : Ev X 200 8 ls st h Q ↔ Ev X 200 9 ls (vi 16 :: st) h Q := R_kc rfl (Or.inr (Or.inl ⟨rfl, by decide⟩))
theorem e_200_9 : Ev X 200 9 ls st h Q ↔ onR (gl ls 0) (fun z => Ev X 200 10 ls (vr z :: st) h Q) := R_al rfl (Or.inl rfl)
theorem e_200_10 : Ev X 200 10 ls st h Q ↔ onI (gl ls 1) (fun z => Ev X 200 11 ls (vi z :: st) h Q) := R_il rfl (Or.inl rfl)
theorem e_200_11 : Ev X 200 11 ls st h Q ↔ onI (gl ls 2) (fun z => Ev X 200 12 ls (vi z :: st) h Q) := R_il rfl (Or.inl rfl)
theorem e_200_12 {rest : List xV} {a0 : Int} {a1 : Int} {o : Nat} : Ev X 200 12 ls ((vi a1) :: (vi a0) :: vr o :: rest) h Q ↔ ((X.1 o = 12 ∧ wd rest ≤ 8) ∧ Cl X 199 [vr o, vi a0, vi a1] h (fun r h2 => Ev X 200 13 ls (r.toList ++ rest) h2 Q)) := R_cv (x := o) (as := [vi a0, vi a1]) (k2 := 199) rfl rfl (Nat.le_of_ble_eq_true rfl)
theorem e_200_13 {x y : Int} : Ev X 200 13 ls (vi y :: vi x :: st) h Q ↔ ((inR (x * y)) ∧ Ev X 200 14 ls (vi (x * y) :: st) h Q) := R_mul rfl
theorem e_200_14 : Ev X 200 14 ls st h Q ↔ Ev X 200 15 ls (vi 8 :: st) h Q := R_kc rfl (Or.inr (Or.inl ⟨rfl, by decide⟩))
theorem e_200_15 {x y : Int} : Ev X 200 15 ls (vi y :: vi x :: st) h Q ↔ ((inR (x + y)) ∧ Ev X 200 16 ls (vi (x + y) :: st) h Q) := R_add rfl
theorem e_200_16 {z : Int} : Ev X 200 16 ls [vi z] h Q ↔ Q (some (vi z)) h := R_ir rfl
theorem e_200_17 : Ev X 200 17 ls st h Q ↔ onI (gl ls 3) (fun z => Ev X 200 18 ls (vi z :: st) h Q) := R_il rfl (Or.inl rfl)
theorem e_200_18 {x : Int} : Ev X 200 18 ls (vi x :: st) h Q ↔ (if x = 0 then Ev X 200 33 ls st h Q else Ev X 200 19 ls st h Q) := R_ifeq rfl
theorem e_200_19 : Ev X 200 19 ls st h Q ↔ onR (gl ls 0) (fun z => Ev X 200 20 ls (vr z :: st) h Q) := R_al rfl (Or.inl rfl)
theorem e_200_20 : Ev X 200 20 ls st h Q ↔ onI (gl ls 4) (fun z => Ev X 200 21 ls (vi z :: st) h Q) := R_il rfl (Or.inr rfl)
theorem e_200_21 {rest : List xV} {a0 : Int} {o : Nat} : Ev X 200 21 ls ((vi a0) :: vr o :: rest) h Q ↔ ((X.1 o = 12 ∧ wd rest ≤ 8) ∧ Cl X 163 [vr o, vi a0] h (fun r h2 => Ev X 200 22 ls (r.toList ++ rest) h2 Q)) := R_cv (x := o) (as := [vi a0]) (k2 := 163) rfl rfl (Nat.le_of_ble_eq_true rfl)
theorem e_200_22 {x : Int} : Ev X 200 22 ls (vi x :: st) h Q ↔ (if x = 0 then Ev X 200 33 ls st h Q else Ev X 200 23 ls st h Q) := R_ifeq rfl
theorem e_200_23 : Ev X 200 23 ls st h Q ↔ Ev X 200 24 ls (vi 16 :: st) h Q := R_kc rfl (Or.inr (Or.inl ⟨rfl, by decide⟩))
theorem e_200_24 : Ev X 200 24 ls st h Q ↔ onR (gl ls 0) (fun z => Ev X 200 25 ls (vr z :: st) h Q) := R_al rfl (Or.inl rfl)
theorem e_200_25 {x : Nat} : Ev X 200 25 ls (vr x :: st) h Q ↔ (X.1 x = 12 ∧ Ev X 200 26 ls (vr (X.2.2.1 x 6) :: st) h Q) := R_gr rfl
theorem e_200_26 : Ev X 200 26 ls st h Q ↔ onI (gl ls 4) (fun z => Ev X 200 27 ls (vi z :: st) h Q) := R_il rfl (Or.inr rfl)
theorem e_200_27 {rest : List xV} {a0 : Int} : Ev X 200 27 ls ((vi a0) :: rest) h Q ↔ (wd rest ≤ 8 ∧ Cl X 158 [vi a0] h (fun r h2 => Ev X 200 28 ls (r.toList ++ rest) h2 Q)) := R_cs (as := [vi a0]) (k2 := 158) rfl rfl (Nat.le_of_ble_eq_true rfl)
theorem e_200_28 : Ev X 200 28 ls st h Q ↔ Ev X 200 29 ls (vi 6 :: st) h Q := R_kc rfl (Or.inr (Or.inl ⟨rfl, by decide⟩))
theorem e_200_29 {x y : Int} : Ev X 200 29 ls (vi y :: vi x :: st) h Q ↔ ((inR (x + y)) ∧ Ev X 200 30 ls (vi (x + y) :: st) h Q) := R_add rfl
theorem e_200_30 {x : Nat} {j : Int} : Ev X 200 30 ls (vi j :: vr x :: st) h Q ↔ (((X.1 x = 13 ∨ X.1 x = 20) ∧ 0 ≤ j ∧ j < X.2.1 x) ∧ Ev X 200 31 ls (vi (h.1 x j.toNat) :: st) h Q) := R_ia rfl
theorem e_200_31 {x y : Int} : Ev X 200 31 ls (vi y :: vi x :: st) h Q ↔ ((inR (x * y)) ∧ Ev X 200 32 ls (vi (x * y) :: st) h Q) := R_mul rfl
theorem e_200_32 : Ev X 200 32 ls st h Q ↔ Ev X 200 40 ls st h Q := R_go rfl
theorem e_200_33 : Ev X 200 33 ls st h Q ↔ onR (gl ls 0) (fun z => Ev X 200 34 ls (vr z :: st) h Q) := R_al rfl (Or.inl rfl)
theorem e_200_34 {x : Nat} : Ev X 200 34 ls (vr x :: st) h Q ↔ (X.1 x = 12 ∧ Ev X 200 35 ls (vr (X.2.2.1 x 6) :: st) h Q) := R_gr rfl
theorem e_200_35 : Ev X 200 35 ls st h Q ↔ onI (gl ls 4) (fun z => Ev X 200 36 ls (vi z :: st) h Q) := R_il rfl (Or.inr rfl)
theorem e_200_36 {rest : List xV} {a0 : Int} : Ev X 200 36 ls ((vi a0) :: rest) h Q ↔ (wd rest ≤ 8 ∧ Cl X 158 [vi a0] h (fun r h2 => Ev X 200 37 ls (r.toList ++ rest) h2 Q)) := R_cs (as := [vi a0]) (k2 := 158) rfl rfl (Nat.le_of_ble_eq_true rfl)
theorem e_200_37 : Ev X 200 37 ls st h Q ↔ Ev X 200 38 ls (vi 3 :: st) h Q := R_kc rfl (Or.inl ⟨Or.inl rfl, by decide⟩)
theorem e_200_38 {x y : Int} : Ev X 200 38 ls (vi y :: vi x :: st) h Q ↔ ((inR (x + y)) ∧ Ev X 200 39 ls (vi (x + y) :: st) h Q) := R_add rfl
theorem e_200_39 {x : Nat} {j : Int} : Ev X 200 39 ls (vi j :: vr x :: st) h Q ↔ (((X.1 x = 13 ∨ X.1 x = 20) ∧ 0 ≤ j ∧ j < X.2.1 x) ∧ Ev X 200 40 ls (vi (h.1 x j.toNat) :: st) h Q) := R_ia rfl
theorem e_200_40 : Ev X 200 40 ls st h Q ↔ Ev X 200 41 ls (vi 16 :: st) h Q := R_kc rfl (Or.inr (Or.inl ⟨rfl, by decide⟩))
theorem e_200_41 : Ev X 200 41 ls st h Q ↔ onR (gl ls 0) (fun z => Ev X 200 42 ls (vr z :: st) h Q) := R_al rfl (Or.inl rfl)
theorem e_200_42 : Ev X 200 42 ls st h Q ↔ onI (gl ls 1) (fun z => Ev X 200 43 ls (vi z :: st) h Q) := R_il rfl (Or.inl rfl)
theorem e_200_43 : Ev X 200 43 ls st h Q ↔ onI (gl ls 2) (fun z => Ev X 200 44 ls (vi z :: st) h Q) := R_il rfl (Or.inl rfl)
theorem e_200_44 {rest : List xV} {a0 : Int} {a1 : Int} {o : Nat} : Ev X 200 44 ls ((vi a1) :: (vi a0) :: vr o :: rest) h Q ↔ ((X.1 o = 12 ∧ wd rest ≤ 8) ∧ Cl X 199 [vr o, vi a0, vi a1] h (fun r h2 => Ev X 200 45 ls (r.toList ++ rest) h2 Q)) := R_cv (x := o) (as := [vi a0, vi a1]) (k2 := 199) rfl rfl (Nat.le_of_ble_eq_true rfl)
theorem e_200_45 {x y : Int} : Ev X 200 45 ls (vi y :: vi x :: st) h Q ↔ ((inR (x * y)) ∧ Ev X 200 46 ls (vi (x * y) :: st) h Q) := R_mul rfl
theorem e_200_46 {x y : Int} : Ev X 200 46 ls (vi y :: vi x :: st) h Q ↔ ((inR (x + y)) ∧ Ev X 200 47 ls (vi (x + y) :: st) h Q) := R_add rfl
theorem e_200_47 : Ev X 200 47 ls st h Q ↔ Ev X 200 48 ls (vi 8 :: st) h Q := R_kc rfl (Or.inr (Or.inl ⟨rfl, by decide⟩))
theorem e_200_48 {x y : Int} : Ev X 200 48 ls (vi y :: vi x :: st) h Q ↔ ((inR (x + y)) ∧ Ev X 200 49 ls (vi (x + y) :: st) h Q) := R_add rfl
theorem e_200_49 {z : Int} : Ev X 200 49 ls [vi z] h Q ↔ Q (some (vi z)) h := R_ir rfl
-- 201: CellRowsModel.pinY(IIZ)I
theorem e_201_0 : Ev X 201 0 ls st h Q ↔ onR (gl ls 0) (fun z => Ev X 201 1 ls (vr z :: st) h Q) := R_al rfl (Or.inl rfl)
theorem e_201_1 : Ev X 201 1 ls st h Q ↔ onI (gl ls 1) (fun z => Ev X 201 2 ls (vi z :: st) h Q) := R_il rfl (Or.inl rfl)
theorem e_201_2 : Ev X 201 2 ls st h Q ↔ onI (gl ls 2) (fun z => Ev X 201 3 ls (vi z :: st) h Q) := R_il rfl (Or.inl rfl)
theorem e_201_3 {rest : List xV} {a0 : Int} {a1 : Int} {o : Nat} : Ev X 201 3 ls ((vi a1) :: (vi a0) :: vr o :: rest) h Q ↔ ((X.1 o = 12 ∧ wd rest ≤ 8) ∧ Cl X 198 [vr o, vi a0, vi a1] h (fun r h2 => Ev X 201 4 ls (r.toList ++ rest) h2 Q)) := R_cv (x := o) (as := [vi a0, vi a1]) (k2 := 198) rfl rfl (Nat.le_of_ble_eq_true rfl)
theorem e_201_4 {x : Int} : Ev X 201 4 ls (vi x :: st) h Q ↔ (stOK ls 4 = true ∧ Ev X 201 5 (ls.set 4 (some (vi x))) st h Q) := R_is rfl (Or.inr rfl)
theorem e_201_5 : Ev X 201 5 ls st h Q ↔ onI (gl ls 4) (fun z => Ev X 201 6 ls (vi z :: st) h Q) := R_il rfl (Or.inr rfl)
theorem e_201_6 : Ev X 201 6 ls st h Q ↔ Ev X 201 7 ls (vi (-1) :: st) h Q := R_kc rfl (Or.inl ⟨Or.inl rfl, by decide⟩)
theorem e_201_7 {x y : Int} : Ev X 201 7 ls (vi y :: vi x :: st) h Q ↔ (if ¬ x = y then Ev X 201 26 ls st h Q else Ev X 201 8 ls st h Q) := R_icne rfl
theorem e_201_8 : Ev X 201 8 ls st h Q ↔ Ev X 201 9 ls (vi 16 :: st) h Q := R_kc rfl (Or.inr (Or.inl ⟨rfl, by decide⟩))
theorem e_201_9 : Ev X 201 9 ls st h Q ↔ onR (gl ls 0) (fun z => Ev X 201 10 ls (vr z :: st) h Q) := R_al rfl (Or.inl rfl)
theorem e_201_10 {x : Nat} : Ev X 201 10 ls (vr x :: st) h Q ↔ (X.1 x = 12 ∧ Ev X 201 11 ls (vr (X.2.2.1 x 6) :: st) h Q) := R_gr rfl
theorem e_201_11 : Ev X 201 11 ls st h Q ↔ onI (gl ls 1) (fun z => Ev X 201 12 ls (vi z :: st) h Q) := R_il rfl (Or.inl rfl)
theorem e_201_12 {rest : List xV} {a0 : Int} : Ev X 201 12 ls ((vi a0) :: rest) h Q ↔ (wd rest ≤ 8 ∧ Cl X 159 [vi a0] h (fun r h2 => Ev X 201 13 ls (r.toList ++ rest) h2 Q)) := R_cs (as := [vi a0]) (k2 := 159) rfl rfl (Nat.le_of_ble_eq_true rfl)
theorem e_201_13 : Ev X 201 13 ls st h Q ↔ Ev X 201 14 ls (vi 2 :: st) h Q := R_kc rfl (Or.inl ⟨Or.inl rfl, by decide⟩)
theorem e_201_14 {x y : Int} : Ev X 201 14 ls (vi y :: vi x :: st) h Q ↔ ((inR (x + y)) ∧ Ev X 201 15 ls (vi (x + y) :: st) h Q) := R_add rfl
theorem e_201_15 : Ev X 201 15 ls st h Q ↔ Ev X 201 16 ls (vi 2 :: st) h Q := R_kc rfl (Or.inl ⟨Or.inl rfl, by decide⟩)
theorem e_201_16 : Ev X 201 16 ls st h Q ↔ onI (gl ls 2) (fun z => Ev X 201 17 ls (vi z :: st) h Q) := R_il rfl (Or.inl rfl)
theorem e_201_17 {x y : Int} : Ev X 201 17 ls (vi y :: vi x :: st) h Q ↔ ((inR (x * y)) ∧ Ev X 201 18 ls (vi (x * y) :: st) h Q) := R_mul rfl
theorem e_201_18 {x y : Int} : Ev X 201 18 ls (vi y :: vi x :: st) h Q ↔ ((inR (x + y)) ∧ Ev X 201 19 ls (vi (x + y) :: st) h Q) := R_add rfl
theorem e_201_19 {x : Nat} {j : Int} : Ev X 201 19 ls (vi j :: vr x :: st) h Q ↔ (((X.1 x = 13 ∨ X.1 x = 20) ∧ 0 ≤ j ∧ j < X.2.1 x) ∧ Ev X 201 20 ls (vi (h.1 x j.toNat) :: st) h Q) := R_ia rfl
theorem e_201_20 : Ev X 201 20 ls st h Q ↔ Ev X 201 21 ls (vi 200 :: st) h Q := R_kc rfl (Or.inr (Or.inr ⟨rfl, by decide⟩))
theorem e_201_21 {x y : Int} : Ev X 201 21 ls (vi y :: vi x :: st) h Q ↔ ((inR (x - y)) ∧ Ev X 201 22 ls (vi (x - y) :: st) h Q) := R_sub rfl
theorem e_201_22 {x y : Int} : Ev X 201 22 ls (vi y :: vi x :: st) h Q ↔ ((inR (x * y)) ∧ Ev X 201 23 ls (vi (x * y) :: st) h Q) := R_mul rfl
theorem e_201_23 : Ev X 201 23 ls st h Q ↔ Ev X 201 24 ls (vi 8 :: st) h Q := R_kc rfl (Or.inr (Or.inl ⟨rfl, by decide⟩))
theorem e_201_24 {x y : Int} : Ev X 201 24 ls (vi y :: vi x :: st) h Q ↔ ((inR (x + y)) ∧ Ev X 201 25 ls (vi (x + y) :: st) h Q) := R_add rfl
theorem e_201_25 {z : Int} : Ev X 201 25 ls [vi z] h Q ↔ Q (some (vi z)) h := R_ir rfl
theorem e_201_26 : Ev X 201 26 ls st h Q ↔ onI (gl ls 3) (fun z => Ev X 201 27 ls (vi z :: st) h Q) := R_il rfl (Or.inl rfl)
theorem e_201_27 {x : Int} : Ev X 201 27 ls (vi x :: st) h Q ↔ (if x = 0 then Ev X 201 42 ls st h Q else Ev X 201 28 ls st h Q) := R_ifeq rfl
theorem e_201_28 : Ev X 201 28 ls st h Q ↔ onR (gl ls 0) (fun z => Ev X 201 29 ls (vr z :: st) h Q) := R_al rfl (Or.inl rfl)
theorem e_201_29 : Ev X 201 29 ls st h Q ↔ onI (gl ls 4) (fun z => Ev X 201 30 ls (vi z :: st) h Q) := R_il rfl (Or.inr rfl)
theorem e_201_30 {rest : List xV} {a0 : Int} {o : Nat} : Ev X 201 30 ls ((vi a0) :: vr o :: rest) h Q ↔ ((X.1 o = 12 ∧ wd rest ≤ 8) ∧ Cl X 163 [vr o, vi a0] h (fun r h2 => Ev X 201 31 ls (r.toList ++ rest) h2 Q)) := R_cv (x := o) (as := [vi a0]) (k2 := 163) rfl rfl (Nat.le_of_ble_eq_true rfl)
theorem e_201_31 {x : Int} : Ev X 201 31 ls (vi x :: st) h Q ↔ (if x = 0 then Ev X 201 42 ls st h Q else Ev X 201 32 ls st h Q) := R_ifeq rfl
theorem e_201_32 : Ev X 201 32 ls st h Q ↔ Ev X 201 33 ls (vi 16 :: st) h Q := R_kc rfl (Or.inr (Or.inl ⟨rfl, by decide⟩))
theorem e_201_33 : Ev X 201 33 ls st h Q ↔ onR (gl ls 0) (fun z => Ev X 201 34 ls (vr z :: st) h Q) := R_al rfl (Or.inl rfl)
theorem e_201_34 {x : Nat} : Ev X 201 34 ls (vr x :: st) h Q ↔ (X.1 x = 12 ∧ Ev X 201 35 ls (vr (X.2.2.1 x 6) :: st) h Q) := R_gr rfl
theorem e_201_35 : Ev X 201 35 ls st h Q ↔ onI (gl ls 4) (fun z => Ev X 201 36 ls (vi z :: st) h Q) := R_il rfl (Or.inr rfl)
theorem e_201_36 {rest : List xV} {a0 : Int} : Ev X 201 36 ls ((vi a0) :: rest) h Q ↔ (wd rest ≤ 8 ∧ Cl X 158 [vi a0] h (fun r h2 => Ev X 201 37 ls (r.toList ++ rest) h2 Q)) := R_cs (as := [vi a0]) (k2 := 158) rfl rfl (Nat.le_of_ble_eq_true rfl)
theorem e_201_37 : Ev X 201 37 ls st h Q ↔ Ev X 201 38 ls (vi 5 :: st) h Q := R_kc rfl (Or.inl ⟨Or.inl rfl, by decide⟩)
theorem e_201_38 {x y : Int} : Ev X 201 38 ls (vi y :: vi x :: st) h Q ↔ ((inR (x + y)) ∧ Ev X 201 39 ls (vi (x + y) :: st) h Q) := R_add rfl
theorem e_201_39 {x : Nat} {j : Int} : Ev X 201 39 ls (vi j :: vr x :: st) h Q ↔ (((X.1 x = 13 ∨ X.1 x = 20) ∧ 0 ≤ j ∧ j < X.2.1 x) ∧ Ev X 201 40 ls (vi (h.1 x j.toNat) :: st) h Q) := R_ia rfl
theorem e_201_40 {x y : Int} : Ev X 201 40 ls (vi y :: vi x :: st) h Q ↔ ((inR (x * y)) ∧ Ev X 201 41 ls (vi (x * y) :: st) h Q) := R_mul rfl
theorem e_201_41 : Ev X 201 41 ls st h Q ↔ Ev X 201 49 ls st h Q := R_go rfl
theorem e_201_42 : Ev X 201 42 ls st h Q ↔ onR (gl ls 0) (fun z => Ev X 201 43 ls (vr z :: st) h Q) := R_al rfl (Or.inl rfl)
theorem e_201_43 {x : Nat} : Ev X 201 43 ls (vr x :: st) h Q ↔ (X.1 x = 12 ∧ Ev X 201 44 ls (vr (X.2.2.1 x 6) :: st) h Q) := R_gr rfl
theorem e_201_44 : Ev X 201 44 ls st h Q ↔ onI (gl ls 4) (fun z => Ev X 201 45 ls (vi z :: st) h Q) := R_il rfl (Or.inr rfl)
theorem e_201_45 {rest : List xV} {a0 : Int} : Ev X 201 45 ls ((vi a0) :: rest) h Q ↔ (wd rest ≤ 8 ∧ Cl X 158 [vi a0] h (fun r h2 => Ev X 201 46 ls (r.toList ++ rest) h2 Q)) := R_cs (as := [vi a0]) (k2 := 158) rfl rfl (Nat.le_of_ble_eq_true rfl)
theorem e_201_46 : Ev X 201 46 ls st h Q ↔ Ev X 201 47 ls (vi 4 :: st) h Q := R_kc rfl (Or.inl ⟨Or.inl rfl, by decide⟩)
theorem e_201_47 {x y : Int} : Ev X 201 47 ls (vi y :: vi x :: st) h Q ↔ ((inR (x + y)) ∧ Ev X 201 48 ls (vi (x + y) :: st) h Q) := R_add rfl
theorem e_201_48 {x : Nat} {j : Int} : Ev X 201 48 ls (vi j :: vr x :: st) h Q ↔ (((X.1 x = 13 ∨ X.1 x = 20) ∧ 0 ≤ j ∧ j < X.2.1 x) ∧ Ev X 201 49 ls (vi (h.1 x j.toNat) :: st) h Q) := R_ia rfl
theorem e_201_49 : Ev X 201 49 ls st h Q ↔ Ev X 201 50 ls (vi 8 :: st) h Q := R_kc rfl (Or.inr (Or.inl ⟨rfl, by decide⟩))
theorem e_201_50 {x y : Int} : Ev X 201 50 ls (vi y :: vi x :: st) h Q ↔ ((inR (x + y)) ∧ Ev X 201 51 ls (vi (x + y) :: st) h Q) := R_add rfl
theorem e_201_51 {z : Int} : Ev X 201 51 ls [vi z] h Q ↔ Q (some (vi z)) h := R_ir rfl
-- 202: CellRowsModel.pinIs(IIZZ)I
theorem e_202_0 : Ev X 202 0 ls st h Q ↔ onI (gl ls 4) (fun z => Ev X 202 1 ls (vi z :: st) h Q) := R_il rfl (Or.inr rfl)
theorem e_202_1 {x : Int} : Ev X 202 1 ls (vi x :: st) h Q ↔ (if x = 0 then Ev X 202 8 ls st h Q else Ev X 202 2 ls st h Q) := R_ifeq rfl
theorem e_202_2 : Ev X 202 2 ls st h Q ↔ onR (gl ls 0) (fun z => Ev X 202 3 ls (vr z :: st) h Q) := R_al rfl (Or.inl rfl)
theorem e_202_3 : Ev X 202 3 ls st h Q ↔ onI (gl ls 1) (fun z => Ev X 202 4 ls (vi z :: st) h Q) := R_il rfl (Or.inl rfl)
theorem e_202_4 : Ev X 202 4 ls st h Q ↔ onI (gl ls 2) (fun z => Ev X 202 5 ls (vi z :: st) h Q) := R_il rfl (Or.inl rfl)
theorem e_202_5 : Ev X 202 5 ls st h Q ↔ onI (gl ls 3) (fun z => Ev X 202 6 ls (vi z :: st) h Q) := R_il rfl (Or.inl rfl)
theorem e_202_6 {rest : List xV} {a0 : Int} {a1 : Int} {a2 : Int} {o : Nat} : Ev X 202 6 ls ((vi a2) :: (vi a1) :: (vi a0) :: vr o :: rest) h Q ↔ ((X.1 o = 12 ∧ wd rest ≤ 8) ∧ Cl X 201 [vr o, vi a0, vi a1, vi a2] h (fun r h2 => Ev X 202 7 ls (r.toList ++ rest) h2 Q)) := R_cv (x := o) (as := [vi a0, vi a1, vi a2]) (k2 := 201) rfl rfl (Nat.le_of_ble_eq_true rfl)
theorem e_202_7 : Ev X 202 7 ls st h Q ↔ Ev X 202 13 ls st h Q := R_go rfl
theorem e_202_8 : Ev X 202 8 ls st h Q ↔ onR (gl ls 0) (fun z => Ev X 202 9 ls (vr z :: st) h Q) := R_al rfl (Or.inl rfl)
theorem e_202_9 : Ev X 202 9 ls st h Q ↔ onI (gl ls 1) (fun z => Ev X 202 10 ls (vi z :: st) h Q) := R_il rfl (Or.inl rfl)
theorem e_202_10 : Ev X 202 10 ls st h Q ↔ onI (gl ls 2) (fun z => Ev X 202 11 ls (vi z :: st) h Q) := R_il rfl (Or.inl rfl)
theorem e_202_11 : Ev X 202 11 ls st h Q ↔ onI (gl ls 3) (fun z => Ev X 202 12 ls (vi z :: st) h Q) := R_il rfl (Or.inl rfl)
theorem e_202_12 {rest : List xV} {a0 : Int} {a1 : Int} {a2 : Int} {o : Nat} : Ev X 202 12 ls ((vi a2) :: (vi a1) :: (vi a0) :: vr o :: rest) h Q ↔ ((X.1 o = 12 ∧ wd rest ≤ 8) ∧ Cl X 200 [vr o, vi a0, vi a1, vi a2] h (fun r h2 => Ev X 202 13 ls (r.toList ++ rest) h2 Q)) := R_cv (x := o) (as := [vi a0, vi a1, vi a2]) (k2 := 200) rfl rfl (Nat.le_of_ble_eq_true rfl)
theorem e_202_13 {z : Int} : Ev X 202 13 ls [vi z] h Q ↔ Q (some (vi z)) h := R_ir rfl
-- 203: CellRowsModel.leastOf(IZZ)I
theorem e_203_0 : Ev X 203 0 ls st h Q ↔ Ev X 203 1 ls (vi 100000000 :: st) h Q := R_kc rfl (Or.inl ⟨Or.inr (Or.inl rfl), by decide⟩)
theorem e_203_1 {x : Int} : Ev X 203 1 ls (vi x :: st) h Q ↔ (stOK ls 4 = true ∧ Ev X 203 2 (ls.set 4 (some (vi x))) st h Q) := R_is rfl (Or.inr rfl)
theorem e_203_2 : Ev X 203 2 ls st h Q ↔ Ev X 203 3 ls (vi 0 :: st) h Q := R_kc rfl (Or.inl ⟨Or.inl rfl, by decide⟩)
theorem e_203_3 {x : Int} : Ev X 203 3 ls (vi x :: st) h Q ↔ (stOK ls 5 = true ∧ Ev X 203 4 (ls.set 5 (some (vi x))) st h Q) := R_is rfl (Or.inr rfl)
theorem e_203_4 : Ev X 203 4 ls st h Q ↔ onI (gl ls 5) (fun z => Ev X 203 5 ls (vi z :: st) h Q) := R_il rfl (Or.inr rfl)
theorem e_203_5 : Ev X 203 5 ls st h Q ↔ onR (gl ls 0) (fun z => Ev X 203 6 ls (vr z :: st) h Q) := R_al rfl (Or.inl rfl)
theorem e_203_6 : Ev X 203 6 ls st h Q ↔ onI (gl ls 1) (fun z => Ev X 203 7 ls (vi z :: st) h Q) := R_il rfl (Or.inl rfl)
theorem e_203_7 {rest : List xV} {a0 : Int} {o : Nat} : Ev X 203 7 ls ((vi a0) :: vr o :: rest) h Q ↔ ((X.1 o = 12 ∧ wd rest ≤ 8) ∧ Cl X 197 [vr o, vi a0] h (fun r h2 => Ev X 203 8 ls (r.toList ++ rest) h2 Q)) := R_cv (x := o) (as := [vi a0]) (k2 := 197) rfl rfl (Nat.le_of_ble_eq_true rfl)
theorem e_203_8 {x y : Int} : Ev X 203 8 ls (vi y :: vi x :: st) h Q ↔ (if y ≤ x then Ev X 203 25 ls st h Q else Ev X 203 9 ls st h Q) := R_icge rfl
theorem e_203_9 : Ev X 203 9 ls st h Q ↔ onR (gl ls 0) (fun z => Ev X 203 10 ls (vr z :: st) h Q) := R_al rfl (Or.inl rfl)
theorem e_203_10 : Ev X 203 10 ls st h Q ↔ onI (gl ls 1) (fun z => Ev X 203 11 ls (vi z :: st) h Q) := R_il rfl (Or.inl rfl)
theorem e_203_11 : Ev X 203 11 ls st h Q ↔ onI (gl ls 5) (fun z => Ev X 203 12 ls (vi z :: st) h Q) := R_il rfl (Or.inr rfl)
theorem e_203_12 : Ev X 203 12 ls st h Q ↔ onI (gl ls 2) (fun z => Ev X 203 13 ls (vi z :: st) h Q) := R_il rfl (Or.inl rfl)
theorem e_203_13 : Ev X 203 13 ls st h Q ↔ onI (gl ls 3) (fun z => Ev X 203 14 ls (vi z :: st) h Q) := R_il rfl (Or.inl rfl)
theorem e_203_14 {rest : List xV} {a0 : Int} {a1 : Int} {a2 : Int} {a3 : Int} {o : Nat} : Ev X 203 14 ls ((vi a3) :: (vi a2) :: (vi a1) :: (vi a0) :: vr o :: rest) h Q ↔ ((X.1 o = 12 ∧ wd rest ≤ 8) ∧ Cl X 202 [vr o, vi a0, vi a1, vi a2, vi a3] h (fun r h2 => Ev X 203 15 ls (r.toList ++ rest) h2 Q)) := R_cv (x := o) (as := [vi a0, vi a1, vi a2, vi a3]) (k2 := 202) rfl rfl (Nat.le_of_ble_eq_true rfl)
theorem e_203_15 {x : Int} : Ev X 203 15 ls (vi x :: st) h Q ↔ (stOK ls 6 = true ∧ Ev X 203 16 (ls.set 6 (some (vi x))) st h Q) := R_is rfl (Or.inr rfl)
theorem e_203_16 : Ev X 203 16 ls st h Q ↔ onI (gl ls 6) (fun z => Ev X 203 17 ls (vi z :: st) h Q) := R_il rfl (Or.inr rfl)
theorem e_203_17 : Ev X 203 17 ls st h Q ↔ onI (gl ls 4) (fun z => Ev X 203 18 ls (vi z :: st) h Q) := R_il rfl (Or.inr rfl)
theorem e_203_18 {x y : Int} : Ev X 203 18 ls (vi y :: vi x :: st) h Q ↔ (if y ≤ x then Ev X 203 21 ls st h Q else Ev X 203 19 ls st h Q) := R_icge rfl
theorem e_203_19 : Ev X 203 19 ls st h Q ↔ onI (gl ls 6) (fun z => Ev X 203 20 ls (vi z :: st) h Q) := R_il rfl (Or.inr rfl)
theorem e_203_20 : Ev X 203 20 ls st h Q ↔ Ev X 203 22 ls st h Q := R_go rfl
theorem e_203_21 : Ev X 203 21 ls st h Q ↔ onI (gl ls 4) (fun z => Ev X 203 22 ls (vi z :: st) h Q) := R_il rfl (Or.inr rfl)
theorem e_203_22 {x : Int} : Ev X 203 22 ls (vi x :: st) h Q ↔ (stOK ls 4 = true ∧ Ev X 203 23 (ls.set 4 (some (vi x))) st h Q) := R_is rfl (Or.inr rfl)
theorem e_203_23 : Ev X 203 23 ls st h Q ↔ onI (gl ls 5) (fun x => (stOK ls 5 = true ∧ inR (x + 1)) ∧ Ev X 203 24 (ls.set 5 (some (vi (x + 1)))) st h Q) := R_inc rfl
theorem e_203_24 : Ev X 203 24 ls st h Q ↔ Ev X 203 4 ls st h Q := R_go rfl
theorem e_203_25 : Ev X 203 25 ls st h Q ↔ onI (gl ls 4) (fun z => Ev X 203 26 ls (vi z :: st) h Q) := R_il rfl (Or.inr rfl)
theorem e_203_26 {z : Int} : Ev X 203 26 ls [vi z] h Q ↔ Q (some (vi z)) h := R_ir rfl
-- 204: CellRowsModel.greatestOf(IZZ)I
theorem e_204_0 : Ev X 204 0 ls st h Q ↔ Ev X 204 1 ls (vi (-100000000) :: st) h Q := R_kc rfl (Or.inl ⟨Or.inr (Or.inl rfl), by decide⟩)
theorem e_204_1 {x : Int} : Ev X 204 1 ls (vi x :: st) h Q ↔ (stOK ls 4 = true ∧ Ev X 204 2 (ls.set 4 (some (vi x))) st h Q) := R_is rfl (Or.inr rfl)
theorem e_204_2 : Ev X 204 2 ls st h Q ↔ Ev X 204 3 ls (vi 0 :: st) h Q := R_kc rfl (Or.inl ⟨Or.inl rfl, by decide⟩)
theorem e_204_3 {x : Int} : Ev X 204 3 ls (vi x :: st) h Q ↔ (stOK ls 5 = true ∧ Ev X 204 4 (ls.set 5 (some (vi x))) st h Q) := R_is rfl (Or.inr rfl)
theorem e_204_4 : Ev X 204 4 ls st h Q ↔ onI (gl ls 5) (fun z => Ev X 204 5 ls (vi z :: st) h Q) := R_il rfl (Or.inr rfl)
theorem e_204_5 : Ev X 204 5 ls st h Q ↔ onR (gl ls 0) (fun z => Ev X 204 6 ls (vr z :: st) h Q) := R_al rfl (Or.inl rfl)
theorem e_204_6 : Ev X 204 6 ls st h Q ↔ onI (gl ls 1) (fun z => Ev X 204 7 ls (vi z :: st) h Q) := R_il rfl (Or.inl rfl)
theorem e_204_7 {rest : List xV} {a0 : Int} {o : Nat} : Ev X 204 7 ls ((vi a0) :: vr o :: rest) h Q ↔ ((X.1 o = 12 ∧ wd rest ≤ 8) ∧ Cl X 197 [vr o, vi a0] h (fun r h2 => Ev X 204 8 ls (r.toList ++ rest) h2 Q)) := R_cv (x := o) (as := [vi a0]) (k2 := 197) rfl rfl (Nat.le_of_ble_eq_true rfl)
theorem e_204_8 {x y : Int} : Ev X 204 8 ls (vi y :: vi x :: st) h Q ↔ (if y ≤ x then Ev X 204 25 ls st h Q else Ev X 204 9 ls st h Q) := R_icge rfl
theorem e_204_9 : Ev X 204 9 ls st h Q ↔ onR (gl ls 0) (fun z => Ev X 204 10 ls (vr z :: st) h Q) := R_al rfl (Or.inl rfl)
theorem e_204_10 : Ev X 204 10 ls st h Q ↔ onI (gl ls 1) (fun z => Ev X 204 11 ls (vi z :: st) h Q) := R_il rfl (Or.inl rfl)
theorem e_204_11 : Ev X 204 11 ls st h Q ↔ onI (gl ls 5) (fun z => Ev X 204 12 ls (vi z :: st) h Q) := R_il rfl (Or.inr rfl)
theorem e_204_12 : Ev X 204 12 ls st h Q ↔ onI (gl ls 2) (fun z => Ev X 204 13 ls (vi z :: st) h Q) := R_il rfl (Or.inl rfl)
theorem e_204_13 : Ev X 204 13 ls st h Q ↔ onI (gl ls 3) (fun z => Ev X 204 14 ls (vi z :: st) h Q) := R_il rfl (Or.inl rfl)
theorem e_204_14 {rest : List xV} {a0 : Int} {a1 : Int} {a2 : Int} {a3 : Int} {o : Nat} : Ev X 204 14 ls ((vi a3) :: (vi a2) :: (vi a1) :: (vi a0) :: vr o :: rest) h Q ↔ ((X.1 o = 12 ∧ wd rest ≤ 8) ∧ Cl X 202 [vr o, vi a0, vi a1, vi a2, vi a3] h (fun r h2 => Ev X 204 15 ls (r.toList ++ rest) h2 Q)) := R_cv (x := o) (as := [vi a0, vi a1, vi a2, vi a3]) (k2 := 202) rfl rfl (Nat.le_of_ble_eq_true rfl)
theorem e_204_15 {x : Int} : Ev X 204 15 ls (vi x :: st) h Q ↔ (stOK ls 6 = true ∧ Ev X 204 16 (ls.set 6 (some (vi x))) st h Q) := R_is rfl (Or.inr rfl)
theorem e_204_16 : Ev X 204 16 ls st h Q ↔ onI (gl ls 6) (fun z => Ev X 204 17 ls (vi z :: st) h Q) := R_il rfl (Or.inr rfl)
theorem e_204_17 : Ev X 204 17 ls st h Q ↔ onI (gl ls 4) (fun z => Ev X 204 18 ls (vi z :: st) h Q) := R_il rfl (Or.inr rfl)
theorem e_204_18 {x y : Int} : Ev X 204 18 ls (vi y :: vi x :: st) h Q ↔ (if x ≤ y then Ev X 204 21 ls st h Q else Ev X 204 19 ls st h Q) := R_icle rfl
theorem e_204_19 : Ev X 204 19 ls st h Q ↔ onI (gl ls 6) (fun z => Ev X 204 20 ls (vi z :: st) h Q) := R_il rfl (Or.inr rfl)
theorem e_204_20 : Ev X 204 20 ls st h Q ↔ Ev X 204 22 ls st h Q := R_go rfl
theorem e_204_21 : Ev X 204 21 ls st h Q ↔ onI (gl ls 4) (fun z => Ev X 204 22 ls (vi z :: st) h Q) := R_il rfl (Or.inr rfl)
theorem e_204_22 {x : Int} : Ev X 204 22 ls (vi x :: st) h Q ↔ (stOK ls 4 = true ∧ Ev X 204 23 (ls.set 4 (some (vi x))) st h Q) := R_is rfl (Or.inr rfl)
theorem e_204_23 : Ev X 204 23 ls st h Q ↔ onI (gl ls 5) (fun x => (stOK ls 5 = true ∧ inR (x + 1)) ∧ Ev X 204 24 (ls.set 5 (some (vi (x + 1)))) st h Q) := R_inc rfl
theorem e_204_24 : Ev X 204 24 ls st h Q ↔ Ev X 204 4 ls st h Q := R_go rfl
theorem e_204_25 : Ev X 204 25 ls st h Q ↔ onI (gl ls 4) (fun z => Ev X 204 26 ls (vi z :: st) h Q) := R_il rfl (Or.inr rfl)
theorem e_204_26 {z : Int} : Ev X 204 26 ls [vi z] h Q ↔ Q (some (vi z)) h := R_ir rfl
-- 205: CellRowsModel.span(I)I
theorem e_205_0 : Ev X 205 0 ls st h Q ↔ onR (gl ls 0) (fun z => Ev X 205 1 ls (vr z :: st) h Q) := R_al rfl (Or.inl rfl)
theorem e_205_1 : Ev X 205 1 ls st h Q ↔ onI (gl ls 1) (fun z => Ev X 205 2 ls (vi z :: st) h Q) := R_il rfl (Or.inl rfl)
theorem e_205_2 : Ev X 205 2 ls st h Q ↔ Ev X 205 3 ls (vi 1 :: st) h Q := R_kc rfl (Or.inl ⟨Or.inl rfl, by decide⟩)
theorem e_205_3 : Ev X 205 3 ls st h Q ↔ Ev X 205 4 ls (vi 0 :: st) h Q := R_kc rfl (Or.inl ⟨Or.inl rfl, by decide⟩)
theorem e_205_4 {rest : List xV} {a0 : Int} {a1 : Int} {a2 : Int} {o : Nat} : Ev X 205 4 ls ((vi a2) :: (vi a1) :: (vi a0) :: vr o :: rest) h Q ↔ ((X.1 o = 12 ∧ wd rest ≤ 8) ∧ Cl X 204 [vr o, vi a0, vi a1, vi a2] h (fun r h2 => Ev X 205 5 ls (r.toList ++ rest) h2 Q)) := R_cv (x := o) (as := [vi a0, vi a1, vi a2]) (k2 := 204) rfl rfl (Nat.le_of_ble_eq_true rfl)
theorem e_205_5 : Ev X 205 5 ls st h Q ↔ onR (gl ls 0) (fun z => Ev X 205 6 ls (vr z :: st) h Q) := R_al rfl (Or.inl rfl)
theorem e_205_6 : Ev X 205 6 ls st h Q ↔ onI (gl ls 1) (fun z => Ev X 205 7 ls (vi z :: st) h Q) := R_il rfl (Or.inl rfl)
theorem e_205_7 : Ev X 205 7 ls st h Q ↔ Ev X 205 8 ls (vi 1 :: st) h Q := R_kc rfl (Or.inl ⟨Or.inl rfl, by decide⟩)
theorem e_205_8 : Ev X 205 8 ls st h Q ↔ Ev X 205 9 ls (vi 0 :: st) h Q := R_kc rfl (Or.inl ⟨Or.inl rfl, by decide⟩)
theorem e_205_9 {rest : List xV} {a0 : Int} {a1 : Int} {a2 : Int} {o : Nat} : Ev X 205 9 ls ((vi a2) :: (vi a1) :: (vi a0) :: vr o :: rest) h Q ↔ ((X.1 o = 12 ∧ wd rest ≤ 8) ∧ Cl X 203 [vr o, vi a0, vi a1, vi a2] h (fun r h2 => Ev X 205 10 ls (r.toList ++ rest) h2 Q)) := R_cv (x := o) (as := [vi a0, vi a1, vi a2]) (k2 := 203) rfl rfl (Nat.le_of_ble_eq_true rfl)
theorem e_205_10 {x y : Int} : Ev X 205 10 ls (vi y :: vi x :: st) h Q ↔ ((inR (x - y)) ∧ Ev X 205 11 ls (vi (x - y) :: st) h Q) := R_sub rfl
theorem e_205_11 : Ev X 205 11 ls st h Q ↔ onR (gl ls 0) (fun z => Ev X 205 12 ls (vr z :: st) h Q) := R_al rfl (Or.inl rfl)
theorem e_205_12 {x : Nat} : Ev X 205 12 ls (vr x :: st) h Q ↔ (X.1 x = 12 ∧ Ev X 205 13 ls (vr (X.2.2.1 x 5) :: st) h Q) := R_gr rfl
theorem e_205_13 : Ev X 205 13 ls st h Q ↔ Ev X 205 14 ls (vi 4 :: st) h Q := R_kc rfl (Or.inl ⟨Or.inl rfl, by decide⟩)
theorem e_205_14 {x : Nat} {j : Int} : Ev X 205 14 ls (vi j :: vr x :: st) h Q ↔ (((X.1 x = 13 ∨ X.1 x = 20) ∧ 0 ≤ j ∧ j < X.2.1 x) ∧ Ev X 205 15 ls (vi (h.1 x j.toNat) :: st) h Q) := R_ia rfl
theorem e_205_15 : Ev X 205 15 ls st h Q ↔ onR (gl ls 0) (fun z => Ev X 205 16 ls (vr z :: st) h Q) := R_al rfl (Or.inl rfl)
theorem e_205_16 : Ev X 205 16 ls st h Q ↔ onI (gl ls 1) (fun z => Ev X 205 17 ls (vi z :: st) h Q) := R_il rfl (Or.inl rfl)
theorem e_205_17 : Ev X 205 17 ls st h Q ↔ Ev X 205 18 ls (vi 1 :: st) h Q := R_kc rfl (Or.inl ⟨Or.inl rfl, by decide⟩)
theorem e_205_18 : Ev X 205 18 ls st h Q ↔ Ev X 205 19 ls (vi 1 :: st) h Q := R_kc rfl (Or.inl ⟨Or.inl rfl, by decide⟩)
theorem e_205_19 {rest : List xV} {a0 : Int} {a1 : Int} {a2 : Int} {o : Nat} : Ev X 205 19 ls ((vi a2) :: (vi a1) :: (vi a0) :: vr o :: rest) h Q ↔ ((X.1 o = 12 ∧ wd rest ≤ 8) ∧ Cl X 204 [vr o, vi a0, vi a1, vi a2] h (fun r h2 => Ev X 205 20 ls (r.toList ++ rest) h2 Q)) := R_cv (x := o) (as := [vi a0, vi a1, vi a2]) (k2 := 204) rfl rfl (Nat.le_of_ble_eq_true rfl)
theorem e_205_20 : Ev X 205 20 ls st h Q ↔ onR (gl ls 0) (fun z => Ev X 205 21 ls (vr z :: st) h Q) := R_al rfl (Or.inl rfl)
theorem e_205_21 : Ev X 205 21 ls st h Q ↔ onI (gl ls 1) (fun z => Ev X 205 22 ls (vi z :: st) h Q) := R_il rfl (Or.inl rfl)
theorem e_205_22 : Ev X 205 22 ls st h Q ↔ Ev X 205 23 ls (vi 1 :: st) h Q := R_kc rfl (Or.inl ⟨Or.inl rfl, by decide⟩)
theorem e_205_23 : Ev X 205 23 ls st h Q ↔ Ev X 205 24 ls (vi 1 :: st) h Q := R_kc rfl (Or.inl ⟨Or.inl rfl, by decide⟩)
theorem e_205_24 {rest : List xV} {a0 : Int} {a1 : Int} {a2 : Int} {o : Nat} : Ev X 205 24 ls ((vi a2) :: (vi a1) :: (vi a0) :: vr o :: rest) h Q ↔ ((X.1 o = 12 ∧ wd rest ≤ 8) ∧ Cl X 203 [vr o, vi a0, vi a1, vi a2] h (fun r h2 => Ev X 205 25 ls (r.toList ++ rest) h2 Q)) := R_cv (x := o) (as := [vi a0, vi a1, vi a2]) (k2 := 203) rfl rfl (Nat.le_of_ble_eq_true rfl)
theorem e_205_25 {x y : Int} : Ev X 205 25 ls (vi y :: vi x :: st) h Q ↔ ((inR (x - y)) ∧ Ev X 205 26 ls (vi (x - y) :: st) h Q) := R_sub rfl
theorem e_205_26 {x y : Int} : Ev X 205 26 ls (vi y :: vi x :: st) h Q ↔ ((inR (x * y)) ∧ Ev X 205 27 ls (vi (x * y) :: st) h Q) := R_mul rfl
theorem e_205_27 {x y : Int} : Ev X 205 27 ls (vi y :: vi x :: st) h Q ↔ ((inR (x + y)) ∧ Ev X 205 28 ls (vi (x + y) :: st) h Q) := R_add rfl
theorem e_205_28 {z : Int} : Ev X 205 28 ls [vi z] h Q ↔ Q (some (vi z)) h := R_ir rfl
-- 206: CellRowsModel.wire()I
theorem e_206_0 : Ev X 206 0 ls st h Q ↔ Ev X 206 1 ls (vi 0 :: st) h Q := R_kc rfl (Or.inl ⟨Or.inl rfl, by decide⟩)
theorem e_206_1 {x : Int} : Ev X 206 1 ls (vi x :: st) h Q ↔ (stOK ls 1 = true ∧ Ev X 206 2 (ls.set 1 (some (vi x))) st h Q) := R_is rfl (Or.inl rfl)
theorem e_206_2 : Ev X 206 2 ls st h Q ↔ Ev X 206 3 ls (vi 0 :: st) h Q := R_kc rfl (Or.inl ⟨Or.inl rfl, by decide⟩)
theorem e_206_3 {x : Int} : Ev X 206 3 ls (vi x :: st) h Q ↔ (stOK ls 2 = true ∧ Ev X 206 4 (ls.set 2 (some (vi x))) st h Q) := R_is rfl (Or.inl rfl)
theorem e_206_4 : Ev X 206 4 ls st h Q ↔ onI (gl ls 2) (fun z => Ev X 206 5 ls (vi z :: st) h Q) := R_il rfl (Or.inl rfl)
theorem e_206_5 : Ev X 206 5 ls st h Q ↔ onR (gl ls 0) (fun z => Ev X 206 6 ls (vr z :: st) h Q) := R_al rfl (Or.inl rfl)
theorem e_206_6 {x : Nat} : Ev X 206 6 ls (vr x :: st) h Q ↔ (X.1 x = 12 ∧ Ev X 206 7 ls (vr (X.2.2.1 x 6) :: st) h Q) := R_gr rfl
theorem e_206_7 : Ev X 206 7 ls st h Q ↔ Ev X 206 8 ls (vi 3 :: st) h Q := R_kc rfl (Or.inl ⟨Or.inl rfl, by decide⟩)
theorem e_206_8 {x : Nat} {j : Int} : Ev X 206 8 ls (vi j :: vr x :: st) h Q ↔ (((X.1 x = 13 ∨ X.1 x = 20) ∧ 0 ≤ j ∧ j < X.2.1 x) ∧ Ev X 206 9 ls (vi (h.1 x j.toNat) :: st) h Q) := R_ia rfl
theorem e_206_9 {x y : Int} : Ev X 206 9 ls (vi y :: vi x :: st) h Q ↔ (if y ≤ x then Ev X 206 24 ls st h Q else Ev X 206 10 ls st h Q) := R_icge rfl
theorem e_206_10 : Ev X 206 10 ls st h Q ↔ onI (gl ls 1) (fun z => Ev X 206 11 ls (vi z :: st) h Q) := R_il rfl (Or.inl rfl)
theorem e_206_11 : Ev X 206 11 ls st h Q ↔ onR (gl ls 0) (fun z => Ev X 206 12 ls (vr z :: st) h Q) := R_al rfl (Or.inl rfl)
theorem e_206_12 {x : Nat} : Ev X 206 12 ls (vr x :: st) h Q ↔ (X.1 x = 12 ∧ Ev X 206 13 ls (vr (X.2.2.1 x 6) :: st) h Q) := R_gr rfl
theorem e_206_13 : Ev X 206 13 ls st h Q ↔ onI (gl ls 2) (fun z => Ev X 206 14 ls (vi z :: st) h Q) := R_il rfl (Or.inl rfl)
theorem e_206_14 {rest : List xV} {a0 : Int} : Ev X 206 14 ls ((vi a0) :: rest) h Q ↔ (wd rest ≤ 8 ∧ Cl X 159 [vi a0] h (fun r h2 => Ev X 206 15 ls (r.toList ++ rest) h2 Q)) := R_cs (as := [vi a0]) (k2 := 159) rfl rfl (Nat.le_of_ble_eq_true rfl)
theorem e_206_15 {x : Nat} {j : Int} : Ev X 206 15 ls (vi j :: vr x :: st) h Q ↔ (((X.1 x = 13 ∨ X.1 x = 20) ∧ 0 ≤ j ∧ j < X.2.1 x) ∧ Ev X 206 16 ls (vi (h.1 x j.toNat) :: st) h Q) := R_ia rfl
theorem e_206_16 : Ev X 206 16 ls st h Q ↔ onR (gl ls 0) (fun z => Ev X 206 17 ls (vr z :: st) h Q) := R_al rfl (Or.inl rfl)
theorem e_206_17 : Ev X 206 17 ls st h Q ↔ onI (gl ls 2) (fun z => Ev X 206 18 ls (vi z :: st) h Q) := R_il rfl (Or.inl rfl)
theorem e_206_18 {rest : List xV} {a0 : Int} {o : Nat} : Ev X 206 18 ls ((vi a0) :: vr o :: rest) h Q ↔ ((X.1 o = 12 ∧ wd rest ≤ 8) ∧ Cl X 205 [vr o, vi a0] h (fun r h2 => Ev X 206 19 ls (r.toList ++ rest) h2 Q)) := R_cv (x := o) (as := [vi a0]) (k2 := 205) rfl rfl (Nat.le_of_ble_eq_true rfl)
theorem e_206_19 {x y : Int} : Ev X 206 19 ls (vi y :: vi x :: st) h Q ↔ ((inR (x * y)) ∧ Ev X 206 20 ls (vi (x * y) :: st) h Q) := R_mul rfl
theorem e_206_20 {x y : Int} : Ev X 206 20 ls (vi y :: vi x :: st) h Q ↔ ((inR (x + y)) ∧ Ev X 206 21 ls (vi (x + y) :: st) h Q) := R_add rfl
theorem e_206_21 {x : Int} : Ev X 206 21 ls (vi x :: st) h Q ↔ (stOK ls 1 = true ∧ Ev X 206 22 (ls.set 1 (some (vi x))) st h Q) := R_is rfl (Or.inl rfl)
theorem e_206_22 : Ev X 206 22 ls st h Q ↔ onI (gl ls 2) (fun x => (stOK ls 2 = true ∧ inR (x + 1)) ∧ Ev X 206 23 (ls.set 2 (some (vi (x + 1)))) st h Q) := R_inc rfl
theorem e_206_23 : Ev X 206 23 ls st h Q ↔ Ev X 206 4 ls st h Q := R_go rfl
theorem e_206_24 : Ev X 206 24 ls st h Q ↔ onI (gl ls 1) (fun z => Ev X 206 25 ls (vi z :: st) h Q) := R_il rfl (Or.inl rfl)
theorem e_206_25 {z : Int} : Ev X 206 25 ls [vi z] h Q ↔ Q (some (vi z)) h := R_ir rfl
-- 207: CellRowsModel.smoothBy(IZ)I
theorem e_207_0 : Ev X 207 0 ls st h Q ↔ onR (gl ls 0) (fun z => Ev X 207 1 ls (vr z :: st) h Q) := R_al rfl (Or.inl rfl)
theorem e_207_1 : Ev X 207 1 ls st h Q ↔ onI (gl ls 1) (fun z => Ev X 207 2 ls (vi z :: st) h Q) := R_il rfl (Or.inl rfl)
theorem e_207_2 : Ev X 207 2 ls st h Q ↔ Ev X 207 3 ls (vi 0 :: st) h Q := R_kc rfl (Or.inl ⟨Or.inl rfl, by decide⟩)
theorem e_207_3 : Ev X 207 3 ls st h Q ↔ onI (gl ls 2) (fun z => Ev X 207 4 ls (vi z :: st) h Q) := R_il rfl (Or.inl rfl)
theorem e_207_4 {rest : List xV} {a0 : Int} {a1 : Int} {a2 : Int} {o : Nat} : Ev X 207 4 ls ((vi a2) :: (vi a1) :: (vi a0) :: vr o :: rest) h Q ↔ ((X.1 o = 12 ∧ wd rest ≤ 8) ∧ Cl X 203 [vr o, vi a0, vi a1, vi a2] h (fun r h2 => Ev X 207 5 ls (r.toList ++ rest) h2 Q)) := R_cv (x := o) (as := [vi a0, vi a1, vi a2]) (k2 := 203) rfl rfl (Nat.le_of_ble_eq_true rfl)
theorem e_207_5 {x : Int} : Ev X 207 5 ls (vi x :: st) h Q ↔ (stOK ls 3 = true ∧ Ev X 207 6 (ls.set 3 (some (vi x))) st h Q) := R_is rfl (Or.inl rfl)
theorem e_207_6 : Ev X 207 6 ls st h Q ↔ onR (gl ls 0) (fun z => Ev X 207 7 ls (vr z :: st) h Q) := R_al rfl (Or.inl rfl)
theorem e_207_7 : Ev X 207 7 ls st h Q ↔ onI (gl ls 1) (fun z => Ev X 207 8 ls (vi z :: st) h Q) := R_il rfl (Or.inl rfl)
theorem e_207_8 : Ev X 207 8 ls st h Q ↔ Ev X 207 9 ls (vi 0 :: st) h Q := R_kc rfl (Or.inl ⟨Or.inl rfl, by decide⟩)
theorem e_207_9 : Ev X 207 9 ls st h Q ↔ onI (gl ls 2) (fun z => Ev X 207 10 ls (vi z :: st) h Q) := R_il rfl (Or.inl rfl)
theorem e_207_10 {rest : List xV} {a0 : Int} {a1 : Int} {a2 : Int} {o : Nat} : Ev X 207 10 ls ((vi a2) :: (vi a1) :: (vi a0) :: vr o :: rest) h Q ↔ ((X.1 o = 12 ∧ wd rest ≤ 8) ∧ Cl X 204 [vr o, vi a0, vi a1, vi a2] h (fun r h2 => Ev X 207 11 ls (r.toList ++ rest) h2 Q)) := R_cv (x := o) (as := [vi a0, vi a1, vi a2]) (k2 := 204) rfl rfl (Nat.le_of_ble_eq_true rfl)
theorem e_207_11 {x : Int} : Ev X 207 11 ls (vi x :: st) h Q ↔ (stOK ls 4 = true ∧ Ev X 207 12 (ls.set 4 (some (vi x))) st h Q) := R_is rfl (Or.inr rfl)
theorem e_207_12 : Ev X 207 12 ls st h Q ↔ Ev X 207 13 ls (vi 0 :: st) h Q := R_kc rfl (Or.inl ⟨Or.inl rfl, by decide⟩)
theorem e_207_13 {x : Int} : Ev X 207 13 ls (vi x :: st) h Q ↔ (stOK ls 5 = true ∧ Ev X 207 14 (ls.set 5 (some (vi x))) st h Q) := R_is rfl (Or.inr rfl)
theorem e_207_14 : Ev X 207 14 ls st h Q ↔ Ev X 207 15 ls (vi 0 :: st) h Q := R_kc rfl (Or.inl ⟨Or.inl rfl, by decide⟩)
theorem e_207_15 {x : Int} : Ev X 207 15 ls (vi x :: st) h Q ↔ (stOK ls 6 = true ∧ Ev X 207 16 (ls.set 6 (some (vi x))) st h Q) := R_is rfl (Or.inr rfl)
theorem e_207_16 : Ev X 207 16 ls st h Q ↔ Ev X 207 17 ls (vi 0 :: st) h Q := R_kc rfl (Or.inl ⟨Or.inl rfl, by decide⟩)
theorem e_207_17 {x : Int} : Ev X 207 17 ls (vi x :: st) h Q ↔ (stOK ls 7 = true ∧ Ev X 207 18 (ls.set 7 (some (vi x))) st h Q) := R_is rfl (Or.inr rfl)
theorem e_207_18 : Ev X 207 18 ls st h Q ↔ Ev X 207 19 ls (vi 0 :: st) h Q := R_kc rfl (Or.inl ⟨Or.inl rfl, by decide⟩)
theorem e_207_19 {x : Int} : Ev X 207 19 ls (vi x :: st) h Q ↔ (stOK ls 8 = true ∧ Ev X 207 20 (ls.set 8 (some (vi x))) st h Q) := R_is rfl (Or.inr rfl)
theorem e_207_20 : Ev X 207 20 ls st h Q ↔ Ev X 207 21 ls (vi 0 :: st) h Q := R_kc rfl (Or.inl ⟨Or.inl rfl, by decide⟩)
theorem e_207_21 {x : Int} : Ev X 207 21 ls (vi x :: st) h Q ↔ (stOK ls 9 = true ∧ Ev X 207 22 (ls.set 9 (some (vi x))) st h Q) := R_is rfl (Or.inr rfl)
theorem e_207_22 : Ev X 207 22 ls st h Q ↔ onI (gl ls 9) (fun z => Ev X 207 23 ls (vi z :: st) h Q) := R_il rfl (Or.inr rfl)
theorem e_207_23 : Ev X 207 23 ls st h Q ↔ onR (gl ls 0) (fun z => Ev X 207 24 ls (vr z :: st) h Q) := R_al rfl (Or.inl rfl)
theorem e_207_24 : Ev X 207 24 ls st h Q ↔ onI (gl ls 1) (fun z => Ev X 207 25 ls (vi z :: st) h Q) := R_il rfl (Or.inl rfl)
theorem e_207_25 {rest : List xV} {a0 : Int} {o : Nat} : Ev X 207 25 ls ((vi a0) :: vr o :: rest) h Q ↔ ((X.1 o = 12 ∧ wd rest ≤ 8) ∧ Cl X 197 [vr o, vi a0] h (fun r h2 => Ev X 207 26 ls (r.toList ++ rest) h2 Q)) := R_cv (x := o) (as := [vi a0]) (k2 := 197) rfl rfl (Nat.le_of_ble_eq_true rfl)
theorem e_207_26 {x y : Int} : Ev X 207 26 ls (vi y :: vi x :: st) h Q ↔ (if y ≤ x then Ev X 207 72 ls st h Q else Ev X 207 27 ls st h Q) := R_icge rfl
theorem e_207_27 : Ev X 207 27 ls st h Q ↔ onR (gl ls 0) (fun z => Ev X 207 28 ls (vr z :: st) h Q) := R_al rfl (Or.inl rfl)
theorem e_207_28 : Ev X 207 28 ls st h Q ↔ onI (gl ls 1) (fun z => Ev X 207 29 ls (vi z :: st) h Q) := R_il rfl (Or.inl rfl)
theorem e_207_29 : Ev X 207 29 ls st h Q ↔ onI (gl ls 9) (fun z => Ev X 207 30 ls (vi z :: st) h Q) := R_il rfl (Or.inr rfl)
theorem e_207_30 : Ev X 207 30 ls st h Q ↔ Ev X 207 31 ls (vi 0 :: st) h Q := R_kc rfl (Or.inl ⟨Or.inl rfl, by decide⟩)
theorem e_207_31 : Ev X 207 31 ls st h Q ↔ onI (gl ls 2) (fun z => Ev X 207 32 ls (vi z :: st) h Q) := R_il rfl (Or.inl rfl)
theorem e_207_32 {rest : List xV} {a0 : Int} {a1 : Int} {a2 : Int} {a3 : Int} {o : Nat} : Ev X 207 32 ls ((vi a3) :: (vi a2) :: (vi a1) :: (vi a0) :: vr o :: rest) h Q ↔ ((X.1 o = 12 ∧ wd rest ≤ 8) ∧ Cl X 202 [vr o, vi a0, vi a1, vi a2, vi a3] h (fun r h2 => Ev X 207 33 ls (r.toList ++ rest) h2 Q)) := R_cv (x := o) (as := [vi a0, vi a1, vi a2, vi a3]) (k2 := 202) rfl rfl (Nat.le_of_ble_eq_true rfl)
theorem e_207_33 {x : Int} : Ev X 207 33 ls (vi x :: st) h Q ↔ (stOK ls 10 = true ∧ Ev X 207 34 (ls.set 10 (some (vi x))) st h Q) := R_is rfl (Or.inr rfl)
theorem e_207_34 : Ev X 207 34 ls st h Q ↔ onR (gl ls 0) (fun z => Ev X 207 35 ls (vr z :: st) h Q) := R_al rfl (Or.inl rfl)
theorem e_207_35 : Ev X 207 35 ls st h Q ↔ onI (gl ls 4) (fun z => Ev X 207 36 ls (vi z :: st) h Q) := R_il rfl (Or.inr rfl)
theorem e_207_36 : Ev X 207 36 ls st h Q ↔ onI (gl ls 10) (fun z => Ev X 207 37 ls (vi z :: st) h Q) := R_il rfl (Or.inr rfl)
theorem e_207_37 {x y : Int} : Ev X 207 37 ls (vi y :: vi x :: st) h Q ↔ ((inR (x - y)) ∧ Ev X 207 38 ls (vi (x - y) :: st) h Q) := R_sub rfl
theorem e_207_38 {rest : List xV} {a0 : Int} {o : Nat} : Ev X 207 38 ls ((vi a0) :: vr o :: rest) h Q ↔ ((X.1 o = 12 ∧ wd rest ≤ 8) ∧ Cl X 208 [vr o, vi a0] h (fun r h2 => Ev X 207 39 ls (r.toList ++ rest) h2 Q)) := R_cv (x := o) (as := [vi a0]) (k2 := 208) rfl rfl (Nat.le_of_ble_eq_true rfl)
theorem e_207_39 {x : Int} : Ev X 207 39 ls (vi x :: st) h Q ↔ (stOK ls 11 = true ∧ Ev X 207 40 (ls.set 11 (some (vi x))) st h Q) := R_is rfl (Or.inr rfl)
theorem e_207_40 : Ev X 207 40 ls st h Q ↔ onI (gl ls 5) (fun z => Ev X 207 41 ls (vi z :: st) h Q) := R_il rfl (Or.inr rfl)
theorem e_207_41 : Ev X 207 41 ls st h Q ↔ onI (gl ls 4) (fun z => Ev X 207 42 ls (vi z :: st) h Q) := R_il rfl (Or.inr rfl)
theorem e_207_42 : Ev X 207 42 ls st h Q ↔ onI (gl ls 10) (fun z => Ev X 207 43 ls (vi z :: st) h Q) := R_il rfl (Or.inr rfl)
theorem e_207_43 {x y : Int} : Ev X 207 43 ls (vi y :: vi x :: st) h Q ↔ ((inR (x - y)) ∧ Ev X 207 44 ls (vi (x - y) :: st) h Q) := R_sub rfl
theorem e_207_44 : Ev X 207 44 ls st h Q ↔ onI (gl ls 11) (fun z => Ev X 207 45 ls (vi z :: st) h Q) := R_il rfl (Or.inr rfl)
theorem e_207_45 {x y : Int} : Ev X 207 45 ls (vi y :: vi x :: st) h Q ↔ ((inR (x * y)) ∧ Ev X 207 46 ls (vi (x * y) :: st) h Q) := R_mul rfl
theorem e_207_46 {x y : Int} : Ev X 207 46 ls (vi y :: vi x :: st) h Q ↔ ((inR (x + y)) ∧ Ev X 207 47 ls (vi (x + y) :: st) h Q) := R_add rfl
theorem e_207_47 {x : Int} : Ev X 207 47 ls (vi x :: st) h Q ↔ (stOK ls 5 = true ∧ Ev X 207 48 (ls.set 5 (some (vi x))) st h Q) := R_is rfl (Or.inr rfl)
theorem e_207_48 : Ev X 207 48 ls st h Q ↔ onI (gl ls 6) (fun z => Ev X 207 49 ls (vi z :: st) h Q) := R_il rfl (Or.inr rfl)
theorem e_207_49 : Ev X 207 49 ls st h Q ↔ onI (gl ls 11) (fun z => Ev X 207 50 ls (vi z :: st) h Q) := R_il rfl (Or.inr rfl)
theorem e_207_50 {x y : Int} : Ev X 207 50 ls (vi y :: vi x :: st) h Q ↔ ((inR (x + y)) ∧ Ev X 207 51 ls (vi (x + y) :: st) h Q) := R_add rfl
theorem e_207_51 {x : Int} : Ev X 207 51 ls (vi x :: st) h Q ↔ (stOK ls 6 = true ∧ Ev X 207 52 (ls.set 6 (some (vi x))) st h Q) := R_is rfl (Or.inr rfl)
theorem e_207_52 : Ev X 207 52 ls st h Q ↔ onR (gl ls 0) (fun z => Ev X 207 53 ls (vr z :: st) h Q) := R_al rfl (Or.inl rfl)
theorem e_207_53 : Ev X 207 53 ls st h Q ↔ onI (gl ls 10) (fun z => Ev X 207 54 ls (vi z :: st) h Q) := R_il rfl (Or.inr rfl)
theorem e_207_54 : Ev X 207 54 ls st h Q ↔ onI (gl ls 3) (fun z => Ev X 207 55 ls (vi z :: st) h Q) := R_il rfl (Or.inl rfl)
theorem e_207_55 {x y : Int} : Ev X 207 55 ls (vi y :: vi x :: st) h Q ↔ ((inR (x - y)) ∧ Ev X 207 56 ls (vi (x - y) :: st) h Q) := R_sub rfl
theorem e_207_56 {rest : List xV} {a0 : Int} {o : Nat} : Ev X 207 56 ls ((vi a0) :: vr o :: rest) h Q ↔ ((X.1 o = 12 ∧ wd rest ≤ 8) ∧ Cl X 208 [vr o, vi a0] h (fun r h2 => Ev X 207 57 ls (r.toList ++ rest) h2 Q)) := R_cv (x := o) (as := [vi a0]) (k2 := 208) rfl rfl (Nat.le_of_ble_eq_true rfl)
theorem e_207_57 {x : Int} : Ev X 207 57 ls (vi x :: st) h Q ↔ (stOK ls 11 = true ∧ Ev X 207 58 (ls.set 11 (some (vi x))) st h Q) := R_is rfl (Or.inr rfl)
theorem e_207_58 : Ev X 207 58 ls st h Q ↔ onI (gl ls 7) (fun z => Ev X 207 59 ls (vi z :: st) h Q) := R_il rfl (Or.inr rfl)
theorem e_207_59 : Ev X 207 59 ls st h Q ↔ onI (gl ls 10) (fun z => Ev X 207 60 ls (vi z :: st) h Q) := R_il rfl (Or.inr rfl)
theorem e_207_60 : Ev X 207 60 ls st h Q ↔ onI (gl ls 3) (fun z => Ev X 207 61 ls (vi z :: st) h Q) := R_il rfl (Or.inl rfl)
theorem e_207_61 {x y : Int} : Ev X 207 61 ls (vi y :: vi x :: st) h Q ↔ ((inR (x - y)) ∧ Ev X 207 62 ls (vi (x - y) :: st) h Q) := R_sub rfl
theorem e_207_62 : Ev X 207 62 ls st h Q ↔ onI (gl ls 11) (fun z => Ev X 207 63 ls (vi z :: st) h Q) := R_il rfl (Or.inr rfl)
theorem e_207_63 {x y : Int} : Ev X 207 63 ls (vi y :: vi x :: st) h Q ↔ ((inR (x * y)) ∧ Ev X 207 64 ls (vi (x * y) :: st) h Q) := R_mul rfl
theorem e_207_64 {x y : Int} : Ev X 207 64 ls (vi y :: vi x :: st) h Q ↔ ((inR (x + y)) ∧ Ev X 207 65 ls (vi (x + y) :: st) h Q) := R_add rfl
theorem e_207_65 {x : Int} : Ev X 207 65 ls (vi x :: st) h Q ↔ (stOK ls 7 = true ∧ Ev X 207 66 (ls.set 7 (some (vi x))) st h Q) := R_is rfl (Or.inr rfl)
theorem e_207_66 : Ev X 207 66 ls st h Q ↔ onI (gl ls 8) (fun z => Ev X 207 67 ls (vi z :: st) h Q) := R_il rfl (Or.inr rfl)
theorem e_207_67 : Ev X 207 67 ls st h Q ↔ onI (gl ls 11) (fun z => Ev X 207 68 ls (vi z :: st) h Q) := R_il rfl (Or.inr rfl)
theorem e_207_68 {x y : Int} : Ev X 207 68 ls (vi y :: vi x :: st) h Q ↔ ((inR (x + y)) ∧ Ev X 207 69 ls (vi (x + y) :: st) h Q) := R_add rfl
theorem e_207_69 {x : Int} : Ev X 207 69 ls (vi x :: st) h Q ↔ (stOK ls 8 = true ∧ Ev X 207 70 (ls.set 8 (some (vi x))) st h Q) := R_is rfl (Or.inr rfl)
theorem e_207_70 : Ev X 207 70 ls st h Q ↔ onI (gl ls 9) (fun x => (stOK ls 9 = true ∧ inR (x + 1)) ∧ Ev X 207 71 (ls.set 9 (some (vi (x + 1)))) st h Q) := R_inc rfl
theorem e_207_71 : Ev X 207 71 ls st h Q ↔ Ev X 207 22 ls st h Q := R_go rfl
theorem e_207_72 : Ev X 207 72 ls st h Q ↔ onI (gl ls 4) (fun z => Ev X 207 73 ls (vi z :: st) h Q) := R_il rfl (Or.inr rfl)
theorem e_207_73 : Ev X 207 73 ls st h Q ↔ onI (gl ls 5) (fun z => Ev X 207 74 ls (vi z :: st) h Q) := R_il rfl (Or.inr rfl)
theorem e_207_74 : Ev X 207 74 ls st h Q ↔ onI (gl ls 6) (fun z => Ev X 207 75 ls (vi z :: st) h Q) := R_il rfl (Or.inr rfl)
theorem e_207_75 {x y : Int} : Ev X 207 75 ls (vi y :: vi x :: st) h Q ↔ ((y ≠ 0 ∧ inR (x.tdiv y)) ∧ Ev X 207 76 ls (vi (x.tdiv y) :: st) h Q) := R_div rfl
theorem e_207_76 {x y : Int} : Ev X 207 76 ls (vi y :: vi x :: st) h Q ↔ ((inR (x - y)) ∧ Ev X 207 77 ls (vi (x - y) :: st) h Q) := R_sub rfl
theorem e_207_77 : Ev X 207 77 ls st h Q ↔ onI (gl ls 3) (fun z => Ev X 207 78 ls (vi z :: st) h Q) := R_il rfl (Or.inl rfl)
theorem e_207_78 : Ev X 207 78 ls st h Q ↔ onI (gl ls 7) (fun z => Ev X 207 79 ls (vi z :: st) h Q) := R_il rfl (Or.inr rfl)
theorem e_207_79 : Ev X 207 79 ls st h Q ↔ onI (gl ls 8) (fun z => Ev X 207 80 ls (vi z :: st) h Q) := R_il rfl (Or.inr rfl)
theorem e_207_80 {x y : Int} : Ev X 207 80 ls (vi y :: vi x :: st) h Q ↔ ((y ≠ 0 ∧ inR (x.tdiv y)) ∧ Ev X 207 81 ls (vi (x.tdiv y) :: st) h Q) := R_div rfl
theorem e_207_81 {x y : Int} : Ev X 207 81 ls (vi y :: vi x :: st) h Q ↔ ((inR (x + y)) ∧ Ev X 207 82 ls (vi (x + y) :: st) h Q) := R_add rfl
theorem e_207_82 {x y : Int} : Ev X 207 82 ls (vi y :: vi x :: st) h Q ↔ ((inR (x - y)) ∧ Ev X 207 83 ls (vi (x - y) :: st) h Q) := R_sub rfl
theorem e_207_83 {z : Int} : Ev X 207 83 ls [vi z] h Q ↔ Q (some (vi z)) h := R_ir rfl
-- 208: CellRowsModel.share(I)I
theorem e_208_0 : Ev X 208 0 ls st h Q ↔ onI (gl ls 1) (fun z => Ev X 208 1 ls (vi z :: st) h Q) := R_il rfl (Or.inl rfl)
theorem e_208_1 : Ev X 208 1 ls st h Q ↔ onR (gl ls 0) (fun z => Ev X 208 2 ls (vr z :: st) h Q) := R_al rfl (Or.inl rfl)
theorem e_208_2 {x : Nat} : Ev X 208 2 ls (vr x :: st) h Q ↔ (X.1 x = 12 ∧ Ev X 208 3 ls (vr (X.2.2.1 x 5) :: st) h Q) := R_gr rfl
theorem e_208_3 : Ev X 208 3 ls st h Q ↔ Ev X 208 4 ls (vi 0 :: st) h Q := R_kc rfl (Or.inl ⟨Or.inl rfl, by decide⟩)
theorem e_208_4 {x : Nat} {j : Int} : Ev X 208 4 ls (vi j :: vr x :: st) h Q ↔ (((X.1 x = 13 ∨ X.1 x = 20) ∧ 0 ≤ j ∧ j < X.2.1 x) ∧ Ev X 208 5 ls (vi (h.1 x j.toNat) :: st) h Q) := R_ia rfl
theorem e_208_5 {x y : Int} : Ev X 208 5 ls (vi y :: vi x :: st) h Q ↔ ((y ≠ 0 ∧ inR (x.tdiv y)) ∧ Ev X 208 6 ls (vi (x.tdiv y) :: st) h Q) := R_div rfl
theorem e_208_6 {x : Int} : Ev X 208 6 ls (vi x :: st) h Q ↔ (stOK ls 2 = true ∧ Ev X 208 7 (ls.set 2 (some (vi x))) st h Q) := R_is rfl (Or.inl rfl)
theorem e_208_7 : Ev X 208 7 ls st h Q ↔ onI (gl ls 2) (fun z => Ev X 208 8 ls (vi z :: st) h Q) := R_il rfl (Or.inl rfl)
theorem e_208_8 : Ev X 208 8 ls st h Q ↔ Ev X 208 9 ls (vi 12 :: st) h Q := R_kc rfl (Or.inr (Or.inl ⟨rfl, by decide⟩))
theorem e_208_9 {x y : Int} : Ev X 208 9 ls (vi y :: vi x :: st) h Q ↔ (if x ≤ y then Ev X 208 12 ls st h Q else Ev X 208 10 ls st h Q) := R_icle rfl
theorem e_208_10 : Ev X 208 10 ls st h Q ↔ Ev X 208 11 ls (vi 0 :: st) h Q := R_kc rfl (Or.inl ⟨Or.inl rfl, by decide⟩)
theorem e_208_11 : Ev X 208 11 ls st h Q ↔ Ev X 208 15 ls st h Q := R_go rfl
theorem e_208_12 : Ev X 208 12 ls st h Q ↔ Ev X 208 13 ls (vi 4096 :: st) h Q := R_kc rfl (Or.inr (Or.inr ⟨rfl, by decide⟩))
theorem e_208_13 : Ev X 208 13 ls st h Q ↔ onI (gl ls 2) (fun z => Ev X 208 14 ls (vi z :: st) h Q) := R_il rfl (Or.inl rfl)
theorem e_208_14 {x y : Int} : Ev X 208 14 ls (vi y :: vi x :: st) h Q ↔ Ev X 208 15 ls (vi ((Int32.ofInt x >>> (Int32.ofInt y &&& 31)).toInt) :: st) h Q := R_shr rfl
theorem e_208_15 {z : Int} : Ev X 208 15 ls [vi z] h Q ↔ Q (some (vi z)) h := R_ir rfl
-- 209: CellRowsModel.smooth(I)I
theorem e_209_0 : Ev X 209 0 ls st h Q ↔ onR (gl ls 0) (fun z => Ev X 209 1 ls (vr z :: st) h Q) := R_al rfl (Or.inl rfl)
theorem e_209_1 : Ev X 209 1 ls st h Q ↔ onI (gl ls 1) (fun z => Ev X 209 2 ls (vi z :: st) h Q) := R_il rfl (Or.inl rfl)
theorem e_209_2 : Ev X 209 2 ls st h Q ↔ Ev X 209 3 ls (vi 0 :: st) h Q := R_kc rfl (Or.inl ⟨Or.inl rfl, by decide⟩)
theorem e_209_3 {rest : List xV} {a0 : Int} {a1 : Int} {o : Nat} : Ev X 209 3 ls ((vi a1) :: (vi a0) :: vr o :: rest) h Q ↔ ((X.1 o = 12 ∧ wd rest ≤ 8) ∧ Cl X 207 [vr o, vi a0, vi a1] h (fun r h2 => Ev X 209 4 ls (r.toList ++ rest) h2 Q)) := R_cv (x := o) (as := [vi a0, vi a1]) (k2 := 207) rfl rfl (Nat.le_of_ble_eq_true rfl)
theorem e_209_4 : Ev X 209 4 ls st h Q ↔ onR (gl ls 0) (fun z => Ev X 209 5 ls (vr z :: st) h Q) := R_al rfl (Or.inl rfl)
theorem e_209_5 {x : Nat} : Ev X 209 5 ls (vr x :: st) h Q ↔ (X.1 x = 12 ∧ Ev X 209 6 ls (vr (X.2.2.1 x 5) :: st) h Q) := R_gr rfl
theorem e_209_6 : Ev X 209 6 ls st h Q ↔ Ev X 209 7 ls (vi 4 :: st) h Q := R_kc rfl (Or.inl ⟨Or.inl rfl, by decide⟩)
theorem e_209_7 {x : Nat} {j : Int} : Ev X 209 7 ls (vi j :: vr x :: st) h Q ↔ (((X.1 x = 13 ∨ X.1 x = 20) ∧ 0 ≤ j ∧ j < X.2.1 x) ∧ Ev X 209 8 ls (vi (h.1 x j.toNat) :: st) h Q) := R_ia rfl
theorem e_209_8 : Ev X 209 8 ls st h Q ↔ onR (gl ls 0) (fun z => Ev X 209 9 ls (vr z :: st) h Q) := R_al rfl (Or.inl rfl)
theorem e_209_9 : Ev X 209 9 ls st h Q ↔ onI (gl ls 1) (fun z => Ev X 209 10 ls (vi z :: st) h Q) := R_il rfl (Or.inl rfl)
theorem e_209_10 : Ev X 209 10 ls st h Q ↔ Ev X 209 11 ls (vi 1 :: st) h Q := R_kc rfl (Or.inl ⟨Or.inl rfl, by decide⟩)
theorem e_209_11 {rest : List xV} {a0 : Int} {a1 : Int} {o : Nat} : Ev X 209 11 ls ((vi a1) :: (vi a0) :: vr o :: rest) h Q ↔ ((X.1 o = 12 ∧ wd rest ≤ 8) ∧ Cl X 207 [vr o, vi a0, vi a1] h (fun r h2 => Ev X 209 12 ls (r.toList ++ rest) h2 Q)) := R_cv (x := o) (as := [vi a0, vi a1]) (k2 := 207) rfl rfl (Nat.le_of_ble_eq_true rfl)
theorem e_209_12 {x y : Int} : Ev X 209 12 ls (vi y :: vi x :: st) h Q ↔ ((inR (x * y)) ∧ Ev X 209 13 ls (vi (x * y) :: st) h Q) := R_mul rfl
theorem e_209_13 {x y : Int} : Ev X 209 13 ls (vi y :: vi x :: st) h Q ↔ ((inR (x + y)) ∧ Ev X 209 14 ls (vi (x + y) :: st) h Q) := R_add rfl
theorem e_209_14 {z : Int} : Ev X 209 14 ls [vi z] h Q ↔ Q (some (vi z)) h := R_ir rfl
-- 210: CellRowsModel.smooths()I
theorem e_210_0 : Ev X 210 0 ls st h Q ↔ Ev X 210 1 ls (vi 0 :: st) h Q := R_kc rfl (Or.inl ⟨Or.inl rfl, by decide⟩)
theorem e_210_1 {x : Int} : Ev X 210 1 ls (vi x :: st) h Q ↔ (stOK ls 1 = true ∧ Ev X 210 2 (ls.set 1 (some (vi x))) st h Q) := R_is rfl (Or.inl rfl)
theorem e_210_2 : Ev X 210 2 ls st h Q ↔ Ev X 210 3 ls (vi 0 :: st) h Q := R_kc rfl (Or.inl ⟨Or.inl rfl, by decide⟩)
theorem e_210_3 {x : Int} : Ev X 210 3 ls (vi x :: st) h Q ↔ (stOK ls 2 = true ∧ Ev X 210 4 (ls.set 2 (some (vi x))) st h Q) := R_is rfl (Or.inl rfl)
theorem e_210_4 : Ev X 210 4 ls st h Q ↔ onI (gl ls 2) (fun z => Ev X 210 5 ls (vi z :: st) h Q) := R_il rfl (Or.inl rfl)
theorem e_210_5 : Ev X 210 5 ls st h Q ↔ onR (gl ls 0) (fun z => Ev X 210 6 ls (vr z :: st) h Q) := R_al rfl (Or.inl rfl)
theorem e_210_6 {x : Nat} : Ev X 210 6 ls (vr x :: st) h Q ↔ (X.1 x = 12 ∧ Ev X 210 7 ls (vr (X.2.2.1 x 6) :: st) h Q) := R_gr rfl
theorem e_210_7 : Ev X 210 7 ls st h Q ↔ Ev X 210 8 ls (vi 3 :: st) h Q := R_kc rfl (Or.inl ⟨Or.inl rfl, by decide⟩)
theorem e_210_8 {x : Nat} {j : Int} : Ev X 210 8 ls (vi j :: vr x :: st) h Q ↔ (((X.1 x = 13 ∨ X.1 x = 20) ∧ 0 ≤ j ∧ j < X.2.1 x) ∧ Ev X 210 9 ls (vi (h.1 x j.toNat) :: st) h Q) := R_ia rfl
theorem e_210_9 {x y : Int} : Ev X 210 9 ls (vi y :: vi x :: st) h Q ↔ (if y ≤ x then Ev X 210 24 ls st h Q else Ev X 210 10 ls st h Q) := R_icge rfl
theorem e_210_10 : Ev X 210 10 ls st h Q ↔ onI (gl ls 1) (fun z => Ev X 210 11 ls (vi z :: st) h Q) := R_il rfl (Or.inl rfl)
theorem e_210_11 : Ev X 210 11 ls st h Q ↔ onR (gl ls 0) (fun z => Ev X 210 12 ls (vr z :: st) h Q) := R_al rfl (Or.inl rfl)
theorem e_210_12 {x : Nat} : Ev X 210 12 ls (vr x :: st) h Q ↔ (X.1 x = 12 ∧ Ev X 210 13 ls (vr (X.2.2.1 x 6) :: st) h Q) := R_gr rfl
theorem e_210_13 : Ev X 210 13 ls st h Q ↔ onI (gl ls 2) (fun z => Ev X 210 14 ls (vi z :: st) h Q) := R_il rfl (Or.inl rfl)
theorem e_210_14 {rest : List xV} {a0 : Int} : Ev X 210 14 ls ((vi a0) :: rest) h Q ↔ (wd rest ≤ 8 ∧ Cl X 159 [vi a0] h (fun r h2 => Ev X 210 15 ls (r.toList ++ rest) h2 Q)) := R_cs (as := [vi a0]) (k2 := 159) rfl rfl (Nat.le_of_ble_eq_true rfl)
theorem e_210_15 {x : Nat} {j : Int} : Ev X 210 15 ls (vi j :: vr x :: st) h Q ↔ (((X.1 x = 13 ∨ X.1 x = 20) ∧ 0 ≤ j ∧ j < X.2.1 x) ∧ Ev X 210 16 ls (vi (h.1 x j.toNat) :: st) h Q) := R_ia rfl
theorem e_210_16 : Ev X 210 16 ls st h Q ↔ onR (gl ls 0) (fun z => Ev X 210 17 ls (vr z :: st) h Q) := R_al rfl (Or.inl rfl)
theorem e_210_17 : Ev X 210 17 ls st h Q ↔ onI (gl ls 2) (fun z => Ev X 210 18 ls (vi z :: st) h Q) := R_il rfl (Or.inl rfl)
theorem e_210_18 {rest : List xV} {a0 : Int} {o : Nat} : Ev X 210 18 ls ((vi a0) :: vr o :: rest) h Q ↔ ((X.1 o = 12 ∧ wd rest ≤ 8) ∧ Cl X 209 [vr o, vi a0] h (fun r h2 => Ev X 210 19 ls (r.toList ++ rest) h2 Q)) := R_cv (x := o) (as := [vi a0]) (k2 := 209) rfl rfl (Nat.le_of_ble_eq_true rfl)
theorem e_210_19 {x y : Int} : Ev X 210 19 ls (vi y :: vi x :: st) h Q ↔ ((inR (x * y)) ∧ Ev X 210 20 ls (vi (x * y) :: st) h Q) := R_mul rfl
theorem e_210_20 {x y : Int} : Ev X 210 20 ls (vi y :: vi x :: st) h Q ↔ ((inR (x + y)) ∧ Ev X 210 21 ls (vi (x + y) :: st) h Q) := R_add rfl
theorem e_210_21 {x : Int} : Ev X 210 21 ls (vi x :: st) h Q ↔ (stOK ls 1 = true ∧ Ev X 210 22 (ls.set 1 (some (vi x))) st h Q) := R_is rfl (Or.inl rfl)
theorem e_210_22 : Ev X 210 22 ls st h Q ↔ onI (gl ls 2) (fun x => (stOK ls 2 = true ∧ inR (x + 1)) ∧ Ev X 210 23 (ls.set 2 (some (vi (x + 1)))) st h Q) := R_inc rfl
theorem e_210_23 : Ev X 210 23 ls st h Q ↔ Ev X 210 4 ls st h Q := R_go rfl
theorem e_210_24 : Ev X 210 24 ls st h Q ↔ onI (gl ls 1) (fun z => Ev X 210 25 ls (vi z :: st) h Q) := R_il rfl (Or.inl rfl)
theorem e_210_25 {z : Int} : Ev X 210 25 ls [vi z] h Q ↔ Q (some (vi z)) h := R_ir rfl
-- 211: CellRowsModel.columns()I
theorem e_211_0 : Ev X 211 0 ls st h Q ↔ onR (gl ls 0) (fun z => Ev X 211 1 ls (vr z :: st) h Q) := R_al rfl (Or.inl rfl)
theorem e_211_1 {x : Nat} : Ev X 211 1 ls (vr x :: st) h Q ↔ (X.1 x = 12 ∧ Ev X 211 2 ls (vi (h.2 x 3) :: st) h Q) := R_gi rfl
theorem e_211_2 : Ev X 211 2 ls st h Q ↔ Ev X 211 3 ls (vi 7 :: st) h Q := R_kc rfl (Or.inr (Or.inl ⟨rfl, by decide⟩))
theorem e_211_3 {x y : Int} : Ev X 211 3 ls (vi y :: vi x :: st) h Q ↔ ((inR (x + y)) ∧ Ev X 211 4 ls (vi (x + y) :: st) h Q) := R_add rfl
theorem e_211_4 : Ev X 211 4 ls st h Q ↔ Ev X 211 5 ls (vi 8 :: st) h Q := R_kc rfl (Or.inr (Or.inl ⟨rfl, by decide⟩))
theorem e_211_5 {x y : Int} : Ev X 211 5 ls (vi y :: vi x :: st) h Q ↔ ((y ≠ 0 ∧ inR (x.tdiv y)) ∧ Ev X 211 6 ls (vi (x.tdiv y) :: st) h Q) := R_div rfl
theorem e_211_6 {z : Int} : Ev X 211 6 ls [vi z] h Q ↔ Q (some (vi z)) h := R_ir rfl
-- 212: CellRowsModel.bins()I
theorem e_212_0 : Ev X 212 0 ls st h Q ↔ onR (gl ls 0) (fun z => Ev X 212 1 ls (vr z :: st) h Q) := R_al rfl (Or.inl rfl)
theorem e_212_1 {rest : List xV}  {o : Nat} : Ev X 212 1 ls (vr o :: rest) h Q ↔ ((X.1 o = 12 ∧ wd rest ≤ 8) ∧ Cl X 211 [vr o] h (fun r h2 => Ev X 212 2 ls (r.toList ++ rest) h2 Q)) := R_cv (x := o) (as := []) (k2 := 211) rfl rfl (Nat.le_of_ble_eq_true rfl)
theorem e_212_2 : Ev X 212 2 ls st h Q ↔ onR (gl ls 0) (fun z => Ev X 212 3 ls (vr z :: st) h Q) := R_al rfl (Or.inl rfl)
theorem e_212_3 {x : Nat} : Ev X 212 3 ls (vr x :: st) h Q ↔ (X.1 x = 12 ∧ Ev X 212 4 ls (vi (h.2 x 2) :: st) h Q) := R_gi rfl
theorem e_212_4 : Ev X 212 4 ls st h Q ↔ Ev X 212 5 ls (vi 1 :: st) h Q := R_kc rfl (Or.inl ⟨Or.inl rfl, by decide⟩)
theorem e_212_5 {x y : Int} : Ev X 212 5 ls (vi y :: vi x :: st) h Q ↔ ((inR (x + y)) ∧ Ev X 212 6 ls (vi (x + y) :: st) h Q) := R_add rfl
theorem e_212_6 : Ev X 212 6 ls st h Q ↔ Ev X 212 7 ls (vi 2 :: st) h Q := R_kc rfl (Or.inl ⟨Or.inl rfl, by decide⟩)
theorem e_212_7 {x y : Int} : Ev X 212 7 ls (vi y :: vi x :: st) h Q ↔ ((y ≠ 0 ∧ inR (x.tdiv y)) ∧ Ev X 212 8 ls (vi (x.tdiv y) :: st) h Q) := R_div rfl
theorem e_212_8 {x y : Int} : Ev X 212 8 ls (vi y :: vi x :: st) h Q ↔ ((inR (x * y)) ∧ Ev X 212 9 ls (vi (x * y) :: st) h Q) := R_mul rfl
theorem e_212_9 {z : Int} : Ev X 212 9 ls [vi z] h Q ↔ Q (some (vi z)) h := R_ir rfl
-- 213: CellRowsModel.supply(I)I
theorem e_213_0 : Ev X 213 0 ls st h Q ↔ Ev X 213 1 ls (vi 0 :: st) h Q := R_kc rfl (Or.inl ⟨Or.inl rfl, by decide⟩)
theorem e_213_1 {x : Int} : Ev X 213 1 ls (vi x :: st) h Q ↔ (stOK ls 2 = true ∧ Ev X 213 2 (ls.set 2 (some (vi x))) st h Q) := R_is rfl (Or.inl rfl)
theorem e_213_2 : Ev X 213 2 ls st h Q ↔ onI (gl ls 1) (fun z => Ev X 213 3 ls (vi z :: st) h Q) := R_il rfl (Or.inl rfl)
theorem e_213_3 : Ev X 213 3 ls st h Q ↔ onR (gl ls 0) (fun z => Ev X 213 4 ls (vr z :: st) h Q) := R_al rfl (Or.inl rfl)
theorem e_213_4 {rest : List xV}  {o : Nat} : Ev X 213 4 ls (vr o :: rest) h Q ↔ ((X.1 o = 12 ∧ wd rest ≤ 8) ∧ Cl X 211 [vr o] h (fun r h2 => Ev X 213 5 ls (r.toList ++ rest) h2 Q)) := R_cv (x := o) (as := []) (k2 := 211) rfl rfl (Nat.le_of_ble_eq_true rfl)
theorem e_213_5 {x y : Int} : Ev X 213 5 ls (vi y :: vi x :: st) h Q ↔ ((y ≠ 0 ∧ inR (x.tdiv y)) ∧ Ev X 213 6 ls (vi (x.tdiv y) :: st) h Q) := R_div rfl
theorem e_213_6 : Ev X 213 6 ls st h Q ↔ Ev X 213 7 ls (vi 2 :: st) h Q := R_kc rfl (Or.inl ⟨Or.inl rfl, by decide⟩)
theorem e_213_7 {x y : Int} : Ev X 213 7 ls (vi y :: vi x :: st) h Q ↔ ((inR (x * y)) ∧ Ev X 213 8 ls (vi (x * y) :: st) h Q) := R_mul rfl
theorem e_213_8 {x : Int} : Ev X 213 8 ls (vi x :: st) h Q ↔ (stOK ls 3 = true ∧ Ev X 213 9 (ls.set 3 (some (vi x))) st h Q) := R_is rfl (Or.inl rfl)
theorem e_213_9 : Ev X 213 9 ls st h Q ↔ onI (gl ls 3) (fun z => Ev X 213 10 ls (vi z :: st) h Q) := R_il rfl (Or.inl rfl)
theorem e_213_10 : Ev X 213 10 ls st h Q ↔ onI (gl ls 1) (fun z => Ev X 213 11 ls (vi z :: st) h Q) := R_il rfl (Or.inl rfl)
theorem e_213_11 : Ev X 213 11 ls st h Q ↔ onR (gl ls 0) (fun z => Ev X 213 12 ls (vr z :: st) h Q) := R_al rfl (Or.inl rfl)
theorem e_213_12 {rest : List xV}  {o : Nat} : Ev X 213 12 ls (vr o :: rest) h Q ↔ ((X.1 o = 12 ∧ wd rest ≤ 8) ∧ Cl X 211 [vr o] h (fun r h2 => Ev X 213 13 ls (r.toList ++ rest) h2 Q)) := R_cv (x := o) (as := []) (k2 := 211) rfl rfl (Nat.le_of_ble_eq_true rfl)
theorem e_213_13 {x y : Int} : Ev X 213 13 ls (vi y :: vi x :: st) h Q ↔ ((y ≠ 0 ∧ inR (x.tdiv y)) ∧ Ev X 213 14 ls (vi (x.tdiv y) :: st) h Q) := R_div rfl
theorem e_213_14 : Ev X 213 14 ls st h Q ↔ Ev X 213 15 ls (vi 2 :: st) h Q := R_kc rfl (Or.inl ⟨Or.inl rfl, by decide⟩)
theorem e_213_15 {x y : Int} : Ev X 213 15 ls (vi y :: vi x :: st) h Q ↔ ((inR (x * y)) ∧ Ev X 213 16 ls (vi (x * y) :: st) h Q) := R_mul rfl
theorem e_213_16 : Ev X 213 16 ls st h Q ↔ Ev X 213 17 ls (vi 2 :: st) h Q := R_kc rfl (Or.inl ⟨Or.inl rfl, by decide⟩)
theorem e_213_17 {x y : Int} : Ev X 213 17 ls (vi y :: vi x :: st) h Q ↔ ((inR (x + y)) ∧ Ev X 213 18 ls (vi (x + y) :: st) h Q) := R_add rfl
theorem e_213_18 {x y : Int} : Ev X 213 18 ls (vi y :: vi x :: st) h Q ↔ (if y ≤ x then Ev X 213 64 ls st h Q else Ev X 213 19 ls st h Q) := R_icge rfl
theorem e_213_19 : Ev X 213 19 ls st h Q ↔ onI (gl ls 1) (fun z => Ev X 213 20 ls (vi z :: st) h Q) := R_il rfl (Or.inl rfl)
theorem e_213_20 : Ev X 213 20 ls st h Q ↔ onR (gl ls 0) (fun z => Ev X 213 21 ls (vr z :: st) h Q) := R_al rfl (Or.inl rfl)
theorem e_213_21 {rest : List xV}  {o : Nat} : Ev X 213 21 ls (vr o :: rest) h Q ↔ ((X.1 o = 12 ∧ wd rest ≤ 8) ∧ Cl X 211 [vr o] h (fun r h2 => Ev X 213 22 ls (r.toList ++ rest) h2 Q)) := R_cv (x := o) (as := []) (k2 := 211) rfl rfl (Nat.le_of_ble_eq_true rfl)
theorem e_213_22 {x y : Int} : Ev X 213 22 ls (vi y :: vi x :: st) h Q ↔ ((y ≠ 0 ∧ inR (x.tdiv y)) ∧ Ev X 213 23 ls (vi (x.tmod y) :: st) h Q) := R_rem rfl
theorem e_213_23 : Ev X 213 23 ls st h Q ↔ Ev X 213 24 ls (vi 8 :: st) h Q := R_kc rfl (Or.inr (Or.inl ⟨rfl, by decide⟩))
theorem e_213_24 {x y : Int} : Ev X 213 24 ls (vi y :: vi x :: st) h Q ↔ ((inR (x * y)) ∧ Ev X 213 25 ls (vi (x * y) :: st) h Q) := R_mul rfl
theorem e_213_25 {x : Int} : Ev X 213 25 ls (vi x :: st) h Q ↔ (stOK ls 4 = true ∧ Ev X 213 26 (ls.set 4 (some (vi x))) st h Q) := R_is rfl (Or.inr rfl)
theorem e_213_26 : Ev X 213 26 ls st h Q ↔ onI (gl ls 4) (fun z => Ev X 213 27 ls (vi z :: st) h Q) := R_il rfl (Or.inr rfl)
theorem e_213_27 : Ev X 213 27 ls st h Q ↔ onI (gl ls 1) (fun z => Ev X 213 28 ls (vi z :: st) h Q) := R_il rfl (Or.inl rfl)
theorem e_213_28 : Ev X 213 28 ls st h Q ↔ onR (gl ls 0) (fun z => Ev X 213 29 ls (vr z :: st) h Q) := R_al rfl (Or.inl rfl)
theorem e_213_29 {rest : List xV}  {o : Nat} : Ev X 213 29 ls (vr o :: rest) h Q ↔ ((X.1 o = 12 ∧ wd rest ≤ 8) ∧ Cl X 211 [vr o] h (fun r h2 => Ev X 213 30 ls (r.toList ++ rest) h2 Q)) := R_cv (x := o) (as := []) (k2 := 211) rfl rfl (Nat.le_of_ble_eq_true rfl)
theorem e_213_30 {x y : Int} : Ev X 213 30 ls (vi y :: vi x :: st) h Q ↔ ((y ≠ 0 ∧ inR (x.tdiv y)) ∧ Ev X 213 31 ls (vi (x.tmod y) :: st) h Q) := R_rem rfl
theorem e_213_31 : Ev X 213 31 ls st h Q ↔ Ev X 213 32 ls (vi 8 :: st) h Q := R_kc rfl (Or.inr (Or.inl ⟨rfl, by decide⟩))
theorem e_213_32 {x y : Int} : Ev X 213 32 ls (vi y :: vi x :: st) h Q ↔ ((inR (x * y)) ∧ Ev X 213 33 ls (vi (x * y) :: st) h Q) := R_mul rfl
theorem e_213_33 : Ev X 213 33 ls st h Q ↔ Ev X 213 34 ls (vi 8 :: st) h Q := R_kc rfl (Or.inr (Or.inl ⟨rfl, by decide⟩))
theorem e_213_34 {x y : Int} : Ev X 213 34 ls (vi y :: vi x :: st) h Q ↔ ((inR (x + y)) ∧ Ev X 213 35 ls (vi (x + y) :: st) h Q) := R_add rfl
theorem e_213_35 {x y : Int} : Ev X 213 35 ls (vi y :: vi x :: st) h Q ↔ (if y ≤ x then Ev X 213 62 ls st h Q else Ev X 213 36 ls st h Q) := R_icge rfl
theorem e_213_36 : Ev X 213 36 ls st h Q ↔ onI (gl ls 2) (fun z => Ev X 213 37 ls (vi z :: st) h Q) := R_il rfl (Or.inl rfl)
theorem e_213_37 : Ev X 213 37 ls st h Q ↔ onR (gl ls 0) (fun z => Ev X 213 38 ls (vr z :: st) h Q) := R_al rfl (Or.inl rfl)
theorem e_213_38 : Ev X 213 38 ls st h Q ↔ onI (gl ls 3) (fun z => Ev X 213 39 ls (vi z :: st) h Q) := R_il rfl (Or.inl rfl)
theorem e_213_39 : Ev X 213 39 ls st h Q ↔ onI (gl ls 4) (fun z => Ev X 213 40 ls (vi z :: st) h Q) := R_il rfl (Or.inr rfl)
theorem e_213_40 {rest : List xV} {a0 : Int} {a1 : Int} {o : Nat} : Ev X 213 40 ls ((vi a1) :: (vi a0) :: vr o :: rest) h Q ↔ ((X.1 o = 12 ∧ wd rest ≤ 8) ∧ Cl X 170 [vr o, vi a0, vi a1] h (fun r h2 => Ev X 213 41 ls (r.toList ++ rest) h2 Q)) := R_cv (x := o) (as := [vi a0, vi a1]) (k2 := 170) rfl rfl (Nat.le_of_ble_eq_true rfl)
theorem e_213_41 {x : Int} : Ev X 213 41 ls (vi x :: st) h Q ↔ (if x = 0 then Ev X 213 57 ls st h Q else Ev X 213 42 ls st h Q) := R_ifeq rfl
theorem e_213_42 : Ev X 213 42 ls st h Q ↔ onR (gl ls 0) (fun z => Ev X 213 43 ls (vr z :: st) h Q) := R_al rfl (Or.inl rfl)
theorem e_213_43 : Ev X 213 43 ls st h Q ↔ onI (gl ls 3) (fun z => Ev X 213 44 ls (vi z :: st) h Q) := R_il rfl (Or.inl rfl)
theorem e_213_44 : Ev X 213 44 ls st h Q ↔ onI (gl ls 4) (fun z => Ev X 213 45 ls (vi z :: st) h Q) := R_il rfl (Or.inr rfl)
theorem e_213_45 {rest : List xV} {a0 : Int} {a1 : Int} {o : Nat} : Ev X 213 45 ls ((vi a1) :: (vi a0) :: vr o :: rest) h Q ↔ ((X.1 o = 12 ∧ wd rest ≤ 8) ∧ Cl X 171 [vr o, vi a0, vi a1] h (fun r h2 => Ev X 213 46 ls (r.toList ++ rest) h2 Q)) := R_cv (x := o) (as := [vi a0, vi a1]) (k2 := 171) rfl rfl (Nat.le_of_ble_eq_true rfl)
theorem e_213_46 {x : Int} : Ev X 213 46 ls (vi x :: st) h Q ↔ (if ¬ x = 0 then Ev X 213 57 ls st h Q else Ev X 213 47 ls st h Q) := R_ifne rfl
theorem e_213_47 : Ev X 213 47 ls st h Q ↔ onR (gl ls 0) (fun z => Ev X 213 48 ls (vr z :: st) h Q) := R_al rfl (Or.inl rfl)
theorem e_213_48 : Ev X 213 48 ls st h Q ↔ onI (gl ls 3) (fun z => Ev X 213 49 ls (vi z :: st) h Q) := R_il rfl (Or.inl rfl)
theorem e_213_49 : Ev X 213 49 ls st h Q ↔ onI (gl ls 4) (fun z => Ev X 213 50 ls (vi z :: st) h Q) := R_il rfl (Or.inr rfl)
theorem e_213_50 : Ev X 213 50 ls st h Q ↔ Ev X 213 51 ls (vi (-1) :: st) h Q := R_kc rfl (Or.inl ⟨Or.inl rfl, by decide⟩)
theorem e_213_51 : Ev X 213 51 ls st h Q ↔ Ev X 213 52 ls (vi 1 :: st) h Q := R_kc rfl (Or.inl ⟨Or.inl rfl, by decide⟩)
theorem e_213_52 {rest : List xV} {a0 : Int} {a1 : Int} {a2 : Int} {a3 : Int} {o : Nat} : Ev X 213 52 ls ((vi a3) :: (vi a2) :: (vi a1) :: (vi a0) :: vr o :: rest) h Q ↔ ((X.1 o = 12 ∧ wd rest ≤ 8) ∧ Cl X 175 [vr o, vi a0, vi a1, vi a2, vi a3] h (fun r h2 => Ev X 213 53 ls (r.toList ++ rest) h2 Q)) := R_cv (x := o) (as := [vi a0, vi a1, vi a2, vi a3]) (k2 := 175) rfl rfl (Nat.le_of_ble_eq_true rfl)
theorem e_213_53 : Ev X 213 53 ls st h Q ↔ Ev X 213 54 ls (vi (-1) :: st) h Q := R_kc rfl (Or.inl ⟨Or.inl rfl, by decide⟩)
theorem e_213_54 {x y : Int} : Ev X 213 54 ls (vi y :: vi x :: st) h Q ↔ (if ¬ x = y then Ev X 213 57 ls st h Q else Ev X 213 55 ls st h Q) := R_icne rfl
theorem e_213_55 : Ev X 213 55 ls st h Q ↔ Ev X 213 56 ls (vi 256 :: st) h Q := R_kc rfl (Or.inr (Or.inr ⟨rfl, by decide⟩))
theorem e_213_56 : Ev X 213 56 ls st h Q ↔ Ev X 213 58 ls st h Q := R_go rfl
theorem e_213_57 : Ev X 213 57 ls st h Q ↔ Ev X 213 58 ls (vi 0 :: st) h Q := R_kc rfl (Or.inl ⟨Or.inl rfl, by decide⟩)
theorem e_213_58 {x y : Int} : Ev X 213 58 ls (vi y :: vi x :: st) h Q ↔ ((inR (x + y)) ∧ Ev X 213 59 ls (vi (x + y) :: st) h Q) := R_add rfl
theorem e_213_59 {x : Int} : Ev X 213 59 ls (vi x :: st) h Q ↔ (stOK ls 2 = true ∧ Ev X 213 60 (ls.set 2 (some (vi x))) st h Q) := R_is rfl (Or.inl rfl)
theorem e_213_60 : Ev X 213 60 ls st h Q ↔ onI (gl ls 4) (fun x => (stOK ls 4 = true ∧ inR (x + 1)) ∧ Ev X 213 61 (ls.set 4 (some (vi (x + 1)))) st h Q) := R_inc rfl
theorem e_213_61 : Ev X 213 61 ls st h Q ↔ Ev X 213 26 ls st h Q := R_go rfl
theorem e_213_62 : Ev X 213 62 ls st h Q ↔ onI (gl ls 3) (fun x => (stOK ls 3 = true ∧ inR (x + 1)) ∧ Ev X 213 63 (ls.set 3 (some (vi (x + 1)))) st h Q) := R_inc rfl
theorem e_213_63 : Ev X 213 63 ls st h Q ↔ Ev X 213 9 ls st h Q := R_go rfl
theorem e_213_64 : Ev X 213 64 ls st h Q ↔ onI (gl ls 2) (fun z => Ev X 213 65 ls (vi z :: st) h Q) := R_il rfl (Or.inl rfl)
theorem e_213_65 {z : Int} : Ev X 213 65 ls [vi z] h Q ↔ Q (some (vi z)) h := R_ir rfl
-- 214: CellRowsModel.common(IIII)I
theorem e_214_0 : Ev X 214 0 ls st h Q ↔ onI (gl ls 0) (fun z => Ev X 214 1 ls (vi z :: st) h Q) := R_il rfl (Or.inl rfl)
theorem e_214_1 : Ev X 214 1 ls st h Q ↔ onI (gl ls 2) (fun z => Ev X 214 2 ls (vi z :: st) h Q) := R_il rfl (Or.inl rfl)
theorem e_214_2 {x y : Int} : Ev X 214 2 ls (vi y :: vi x :: st) h Q ↔ (if x ≤ y then Ev X 214 5 ls st h Q else Ev X 214 3 ls st h Q) := R_icle rfl
theorem e_214_3 : Ev X 214 3 ls st h Q ↔ onI (gl ls 0) (fun z => Ev X 214 4 ls (vi z :: st) h Q) := R_il rfl (Or.inl rfl)
theorem e_214_4 : Ev X 214 4 ls st h Q ↔ Ev X 214 6 ls st h Q := R_go rfl
theorem e_214_5 : Ev X 214 5 ls st h Q ↔ onI (gl ls 2) (fun z => Ev X 214 6 ls (vi z :: st) h Q) := R_il rfl (Or.inl rfl)
theorem e_214_6 {x : Int} : Ev X 214 6 ls (vi x :: st) h Q ↔ (stOK ls 4 = true ∧ Ev X 214 7 (ls.set 4 (some (vi x))) st h Q) := R_is rfl (Or.inr rfl)
theorem e_214_7 : Ev X 214 7 ls st h Q ↔ onI (gl ls 0) (fun z => Ev X 214 8 ls (vi z :: st) h Q) := R_il rfl (Or.inl rfl)
theorem e_214_8 : Ev X 214 8 ls st h Q ↔ onI (gl ls 1) (fun z => Ev X 214 9 ls (vi z :: st) h Q) := R_il rfl (Or.inl rfl)
theorem e_214_9 {x y : Int} : Ev X 214 9 ls (vi y :: vi x :: st) h Q ↔ ((inR (x + y)) ∧ Ev X 214 10 ls (vi (x + y) :: st) h Q) := R_add rfl
theorem e_214_10 : Ev X 214 10 ls st h Q ↔ onI (gl ls 2) (fun z => Ev X 214 11 ls (vi z :: st) h Q) := R_il rfl (Or.inl rfl)
theorem e_214_11 : Ev X 214 11 ls st h Q ↔ onI (gl ls 3) (fun z => Ev X 214 12 ls (vi z :: st) h Q) := R_il rfl (Or.inl rfl)
theorem e_214_12 {x y : Int} : Ev X 214 12 ls (vi y :: vi x :: st) h Q ↔ ((inR (x + y)) ∧ Ev X 214 13 ls (vi (x + y) :: st) h Q) := R_add rfl
theorem e_214_13 {x y : Int} : Ev X 214 13 ls (vi y :: vi x :: st) h Q ↔ (if y ≤ x then Ev X 214 18 ls st h Q else Ev X 214 14 ls st h Q) := R_icge rfl
theorem e_214_14 : Ev X 214 14 ls st h Q ↔ onI (gl ls 0) (fun z => Ev X 214 15 ls (vi z :: st) h Q) := R_il rfl (Or.inl rfl)
theorem e_214_15 : Ev X 214 15 ls st h Q ↔ onI (gl ls 1) (fun z => Ev X 214 16 ls (vi z :: st) h Q) := R_il rfl (Or.inl rfl)
theorem e_214_16 {x y : Int} : Ev X 214 16 ls (vi y :: vi x :: st) h Q ↔ ((inR (x + y)) ∧ Ev X 214 17 ls (vi (x + y) :: st) h Q) := R_add rfl
theorem e_214_17 : Ev X 214 17 ls st h Q ↔ Ev X 214 21 ls st h Q := R_go rfl
theorem e_214_18 : Ev X 214 18 ls st h Q ↔ onI (gl ls 2) (fun z => Ev X 214 19 ls (vi z :: st) h Q) := R_il rfl (Or.inl rfl)
theorem e_214_19 : Ev X 214 19 ls st h Q ↔ onI (gl ls 3) (fun z => Ev X 214 20 ls (vi z :: st) h Q) := R_il rfl (Or.inl rfl)
theorem e_214_20 {x y : Int} : Ev X 214 20 ls (vi y :: vi x :: st) h Q ↔ ((inR (x + y)) ∧ Ev X 214 21 ls (vi (x + y) :: st) h Q) := R_add rfl
theorem e_214_21 {x : Int} : Ev X 214 21 ls (vi x :: st) h Q ↔ (stOK ls 5 = true ∧ Ev X 214 22 (ls.set 5 (some (vi x))) st h Q) := R_is rfl (Or.inr rfl)
theorem e_214_22 : Ev X 214 22 ls st h Q ↔ onI (gl ls 5) (fun z => Ev X 214 23 ls (vi z :: st) h Q) := R_il rfl (Or.inr rfl)
theorem e_214_23 : Ev X 214 23 ls st h Q ↔ onI (gl ls 4) (fun z => Ev X 214 24 ls (vi z :: st) h Q) := R_il rfl (Or.inr rfl)
theorem e_214_24 {x y : Int} : Ev X 214 24 ls (vi y :: vi x :: st) h Q ↔ (if x ≤ y then Ev X 214 29 ls st h Q else Ev X 214 25 ls st h Q) := R_icle rfl
theorem e_214_25 : Ev X 214 25 ls st h Q ↔ onI (gl ls 5) (fun z => Ev X 214 26 ls (vi z :: st) h Q) := R_il rfl (Or.inr rfl)
theorem e_214_26 : Ev X 214 26 ls st h Q ↔ onI (gl ls 4) (fun z => Ev X 214 27 ls (vi z :: st) h Q) := R_il rfl (Or.inr rfl)
theorem e_214_27 {x y : Int} : Ev X 214 27 ls (vi y :: vi x :: st) h Q ↔ ((inR (x - y)) ∧ Ev X 214 28 ls (vi (x - y) :: st) h Q) := R_sub rfl
theorem e_214_28 : Ev X 214 28 ls st h Q ↔ Ev X 214 30 ls st h Q := R_go rfl
theorem e_214_29 : Ev X 214 29 ls st h Q ↔ Ev X 214 30 ls (vi 0 :: st) h Q := R_kc rfl (Or.inl ⟨Or.inl rfl, by decide⟩)
theorem e_214_30 {z : Int} : Ev X 214 30 ls [vi z] h Q ↔ Q (some (vi z)) h := R_ir rfl
-- 215: CellRowsModel.needOf(I)I
theorem e_215_0 : Ev X 215 0 ls st h Q ↔ Ev X 215 1 ls (vi 0 :: st) h Q := R_kc rfl (Or.inl ⟨Or.inl rfl, by decide⟩)
theorem e_215_1 {x : Int} : Ev X 215 1 ls (vi x :: st) h Q ↔ (stOK ls 2 = true ∧ Ev X 215 2 (ls.set 2 (some (vi x))) st h Q) := R_is rfl (Or.inl rfl)
theorem e_215_2 : Ev X 215 2 ls st h Q ↔ Ev X 215 3 ls (vi 0 :: st) h Q := R_kc rfl (Or.inl ⟨Or.inl rfl, by decide⟩)
theorem e_215_3 {x : Int} : Ev X 215 3 ls (vi x :: st) h Q ↔ (stOK ls 3 = true ∧ Ev X 215 4 (ls.set 3 (some (vi x))) st h Q) := R_is rfl (Or.inl rfl)
theorem e_215_4 : Ev X 215 4 ls st h Q ↔ onI (gl ls 3) (fun z => Ev X 215 5 ls (vi z :: st) h Q) := R_il rfl (Or.inl rfl)
theorem e_215_5 : Ev X 215 5 ls st h Q ↔ onR (gl ls 0) (fun z => Ev X 215 6 ls (vr z :: st) h Q) := R_al rfl (Or.inl rfl)
theorem e_215_6 {x : Nat} : Ev X 215 6 ls (vr x :: st) h Q ↔ (X.1 x = 12 ∧ Ev X 215 7 ls (vr (X.2.2.1 x 6) :: st) h Q) := R_gr rfl
theorem e_215_7 : Ev X 215 7 ls st h Q ↔ Ev X 215 8 ls (vi 2 :: st) h Q := R_kc rfl (Or.inl ⟨Or.inl rfl, by decide⟩)
theorem e_215_8 {x : Nat} {j : Int} : Ev X 215 8 ls (vi j :: vr x :: st) h Q ↔ (((X.1 x = 13 ∨ X.1 x = 20) ∧ 0 ≤ j ∧ j < X.2.1 x) ∧ Ev X 215 9 ls (vi (h.1 x j.toNat) :: st) h Q) := R_ia rfl
theorem e_215_9 {x y : Int} : Ev X 215 9 ls (vi y :: vi x :: st) h Q ↔ (if y ≤ x then Ev X 215 60 ls st h Q else Ev X 215 10 ls st h Q) := R_icge rfl
theorem e_215_10 : Ev X 215 10 ls st h Q ↔ onI (gl ls 3) (fun z => Ev X 215 11 ls (vi z :: st) h Q) := R_il rfl (Or.inl rfl)
theorem e_215_11 {rest : List xV} {a0 : Int} : Ev X 215 11 ls ((vi a0) :: rest) h Q ↔ (wd rest ≤ 8 ∧ Cl X 158 [vi a0] h (fun r h2 => Ev X 215 12 ls (r.toList ++ rest) h2 Q)) := R_cs (as := [vi a0]) (k2 := 158) rfl rfl (Nat.le_of_ble_eq_true rfl)
theorem e_215_12 {x : Int} : Ev X 215 12 ls (vi x :: st) h Q ↔ (stOK ls 4 = true ∧ Ev X 215 13 (ls.set 4 (some (vi x))) st h Q) := R_is rfl (Or.inr rfl)
theorem e_215_13 : Ev X 215 13 ls st h Q ↔ onI (gl ls 2) (fun z => Ev X 215 14 ls (vi z :: st) h Q) := R_il rfl (Or.inl rfl)
theorem e_215_14 : Ev X 215 14 ls st h Q ↔ onR (gl ls 0) (fun z => Ev X 215 15 ls (vr z :: st) h Q) := R_al rfl (Or.inl rfl)
theorem e_215_15 : Ev X 215 15 ls st h Q ↔ onI (gl ls 3) (fun z => Ev X 215 16 ls (vi z :: st) h Q) := R_il rfl (Or.inl rfl)
theorem e_215_16 {rest : List xV} {a0 : Int} {o : Nat} : Ev X 215 16 ls ((vi a0) :: vr o :: rest) h Q ↔ ((X.1 o = 12 ∧ wd rest ≤ 8) ∧ Cl X 162 [vr o, vi a0] h (fun r h2 => Ev X 215 17 ls (r.toList ++ rest) h2 Q)) := R_cv (x := o) (as := [vi a0]) (k2 := 162) rfl rfl (Nat.le_of_ble_eq_true rfl)
theorem e_215_17 {x : Int} : Ev X 215 17 ls (vi x :: st) h Q ↔ (if x = 0 then Ev X 215 20 ls st h Q else Ev X 215 18 ls st h Q) := R_ifeq rfl
theorem e_215_18 : Ev X 215 18 ls st h Q ↔ Ev X 215 19 ls (vi 0 :: st) h Q := R_kc rfl (Or.inl ⟨Or.inl rfl, by decide⟩)
theorem e_215_19 : Ev X 215 19 ls st h Q ↔ Ev X 215 56 ls st h Q := R_go rfl
theorem e_215_20 : Ev X 215 20 ls st h Q ↔ onR (gl ls 0) (fun z => Ev X 215 21 ls (vr z :: st) h Q) := R_al rfl (Or.inl rfl)
theorem e_215_21 {x : Nat} : Ev X 215 21 ls (vr x :: st) h Q ↔ (X.1 x = 12 ∧ Ev X 215 22 ls (vr (X.2.2.1 x 6) :: st) h Q) := R_gr rfl
theorem e_215_22 : Ev X 215 22 ls st h Q ↔ onI (gl ls 4) (fun z => Ev X 215 23 ls (vi z :: st) h Q) := R_il rfl (Or.inr rfl)
theorem e_215_23 : Ev X 215 23 ls st h Q ↔ Ev X 215 24 ls (vi 3 :: st) h Q := R_kc rfl (Or.inl ⟨Or.inl rfl, by decide⟩)
theorem e_215_24 {x y : Int} : Ev X 215 24 ls (vi y :: vi x :: st) h Q ↔ ((inR (x + y)) ∧ Ev X 215 25 ls (vi (x + y) :: st) h Q) := R_add rfl
theorem e_215_25 {x : Nat} {j : Int} : Ev X 215 25 ls (vi j :: vr x :: st) h Q ↔ (((X.1 x = 13 ∨ X.1 x = 20) ∧ 0 ≤ j ∧ j < X.2.1 x) ∧ Ev X 215 26 ls (vi (h.1 x j.toNat) :: st) h Q) := R_ia rfl
theorem e_215_26 : Ev X 215 26 ls st h Q ↔ Ev X 215 27 ls (vi 16 :: st) h Q := R_kc rfl (Or.inr (Or.inl ⟨rfl, by decide⟩))
theorem e_215_27 : Ev X 215 27 ls st h Q ↔ onR (gl ls 0) (fun z => Ev X 215 28 ls (vr z :: st) h Q) := R_al rfl (Or.inl rfl)
theorem e_215_28 {x : Nat} : Ev X 215 28 ls (vr x :: st) h Q ↔ (X.1 x = 12 ∧ Ev X 215 29 ls (vr (X.2.2.1 x 6) :: st) h Q) := R_gr rfl
theorem e_215_29 : Ev X 215 29 ls st h Q ↔ onI (gl ls 4) (fun z => Ev X 215 30 ls (vi z :: st) h Q) := R_il rfl (Or.inr rfl)
theorem e_215_30 {x : Nat} {j : Int} : Ev X 215 30 ls (vi j :: vr x :: st) h Q ↔ (((X.1 x = 13 ∨ X.1 x = 20) ∧ 0 ≤ j ∧ j < X.2.1 x) ∧ Ev X 215 31 ls (vi (h.1 x j.toNat) :: st) h Q) := R_ia rfl
theorem e_215_31 {x y : Int} : Ev X 215 31 ls (vi y :: vi x :: st) h Q ↔ ((inR (x * y)) ∧ Ev X 215 32 ls (vi (x * y) :: st) h Q) := R_mul rfl
theorem e_215_32 : Ev X 215 32 ls st h Q ↔ Ev X 215 33 ls (vi 128 :: st) h Q := R_kc rfl (Or.inr (Or.inr ⟨rfl, by decide⟩))
theorem e_215_33 : Ev X 215 33 ls st h Q ↔ onI (gl ls 1) (fun z => Ev X 215 34 ls (vi z :: st) h Q) := R_il rfl (Or.inl rfl)
theorem e_215_34 : Ev X 215 34 ls st h Q ↔ onR (gl ls 0) (fun z => Ev X 215 35 ls (vr z :: st) h Q) := R_al rfl (Or.inl rfl)
theorem e_215_35 {rest : List xV}  {o : Nat} : Ev X 215 35 ls (vr o :: rest) h Q ↔ ((X.1 o = 12 ∧ wd rest ≤ 8) ∧ Cl X 211 [vr o] h (fun r h2 => Ev X 215 36 ls (r.toList ++ rest) h2 Q)) := R_cv (x := o) (as := []) (k2 := 211) rfl rfl (Nat.le_of_ble_eq_true rfl)
theorem e_215_36 {x y : Int} : Ev X 215 36 ls (vi y :: vi x :: st) h Q ↔ ((y ≠ 0 ∧ inR (x.tdiv y)) ∧ Ev X 215 37 ls (vi (x.tmod y) :: st) h Q) := R_rem rfl
theorem e_215_37 {x y : Int} : Ev X 215 37 ls (vi y :: vi x :: st) h Q ↔ ((inR (x * y)) ∧ Ev X 215 38 ls (vi (x * y) :: st) h Q) := R_mul rfl
theorem e_215_38 : Ev X 215 38 ls st h Q ↔ Ev X 215 39 ls (vi 128 :: st) h Q := R_kc rfl (Or.inr (Or.inr ⟨rfl, by decide⟩))
theorem e_215_39 {rest : List xV} {a0 : Int} {a1 : Int} {a2 : Int} {a3 : Int} : Ev X 215 39 ls ((vi a3) :: (vi a2) :: (vi a1) :: (vi a0) :: rest) h Q ↔ (wd rest ≤ 8 ∧ Cl X 214 [vi a0, vi a1, vi a2, vi a3] h (fun r h2 => Ev X 215 40 ls (r.toList ++ rest) h2 Q)) := R_cs (as := [vi a0, vi a1, vi a2, vi a3]) (k2 := 214) rfl rfl (Nat.le_of_ble_eq_true rfl)
theorem e_215_40 : Ev X 215 40 ls st h Q ↔ onR (gl ls 0) (fun z => Ev X 215 41 ls (vr z :: st) h Q) := R_al rfl (Or.inl rfl)
theorem e_215_41 {x : Nat} : Ev X 215 41 ls (vr x :: st) h Q ↔ (X.1 x = 12 ∧ Ev X 215 42 ls (vr (X.2.2.1 x 6) :: st) h Q) := R_gr rfl
theorem e_215_42 : Ev X 215 42 ls st h Q ↔ onI (gl ls 4) (fun z => Ev X 215 43 ls (vi z :: st) h Q) := R_il rfl (Or.inr rfl)
theorem e_215_43 : Ev X 215 43 ls st h Q ↔ Ev X 215 44 ls (vi 4 :: st) h Q := R_kc rfl (Or.inl ⟨Or.inl rfl, by decide⟩)
theorem e_215_44 {x y : Int} : Ev X 215 44 ls (vi y :: vi x :: st) h Q ↔ ((inR (x + y)) ∧ Ev X 215 45 ls (vi (x + y) :: st) h Q) := R_add rfl
theorem e_215_45 {x : Nat} {j : Int} : Ev X 215 45 ls (vi j :: vr x :: st) h Q ↔ (((X.1 x = 13 ∨ X.1 x = 20) ∧ 0 ≤ j ∧ j < X.2.1 x) ∧ Ev X 215 46 ls (vi (h.1 x j.toNat) :: st) h Q) := R_ia rfl
theorem e_215_46 : Ev X 215 46 ls st h Q ↔ Ev X 215 47 ls (vi 16 :: st) h Q := R_kc rfl (Or.inr (Or.inl ⟨rfl, by decide⟩))
theorem e_215_47 : Ev X 215 47 ls st h Q ↔ Ev X 215 48 ls (vi 32 :: st) h Q := R_kc rfl (Or.inr (Or.inl ⟨rfl, by decide⟩))
theorem e_215_48 : Ev X 215 48 ls st h Q ↔ onI (gl ls 1) (fun z => Ev X 215 49 ls (vi z :: st) h Q) := R_il rfl (Or.inl rfl)
theorem e_215_49 : Ev X 215 49 ls st h Q ↔ onR (gl ls 0) (fun z => Ev X 215 50 ls (vr z :: st) h Q) := R_al rfl (Or.inl rfl)
theorem e_215_50 {rest : List xV}  {o : Nat} : Ev X 215 50 ls (vr o :: rest) h Q ↔ ((X.1 o = 12 ∧ wd rest ≤ 8) ∧ Cl X 211 [vr o] h (fun r h2 => Ev X 215 51 ls (r.toList ++ rest) h2 Q)) := R_cv (x := o) (as := []) (k2 := 211) rfl rfl (Nat.le_of_ble_eq_true rfl)
theorem e_215_51 {x y : Int} : Ev X 215 51 ls (vi y :: vi x :: st) h Q ↔ ((y ≠ 0 ∧ inR (x.tdiv y)) ∧ Ev X 215 52 ls (vi (x.tdiv y) :: st) h Q) := R_div rfl
theorem e_215_52 {x y : Int} : Ev X 215 52 ls (vi y :: vi x :: st) h Q ↔ ((inR (x * y)) ∧ Ev X 215 53 ls (vi (x * y) :: st) h Q) := R_mul rfl
theorem e_215_53 : Ev X 215 53 ls st h Q ↔ Ev X 215 54 ls (vi 32 :: st) h Q := R_kc rfl (Or.inr (Or.inl ⟨rfl, by decide⟩))
theorem e_215_54 {rest : List xV} {a0 : Int} {a1 : Int} {a2 : Int} {a3 : Int} : Ev X 215 54 ls ((vi a3) :: (vi a2) :: (vi a1) :: (vi a0) :: rest) h Q ↔ (wd rest ≤ 8 ∧ Cl X 214 [vi a0, vi a1, vi a2, vi a3] h (fun r h2 => Ev X 215 55 ls (r.toList ++ rest) h2 Q)) := R_cs (as := [vi a0, vi a1, vi a2, vi a3]) (k2 := 214) rfl rfl (Nat.le_of_ble_eq_true rfl)
theorem e_215_55 {x y : Int} : Ev X 215 55 ls (vi y :: vi x :: st) h Q ↔ ((inR (x * y)) ∧ Ev X 215 56 ls (vi (x * y) :: st) h Q) := R_mul rfl
theorem e_215_56 {x y : Int} : Ev X 215 56 ls (vi y :: vi x :: st) h Q ↔ ((inR (x + y)) ∧ Ev X 215 57 ls (vi (x + y) :: st) h Q) := R_add rfl
theorem e_215_57 {x : Int} : Ev X 215 57 ls (vi x :: st) h Q ↔ (stOK ls 2 = true ∧ Ev X 215 58 (ls.set 2 (some (vi x))) st h Q) := R_is rfl (Or.inl rfl)
theorem e_215_58 : Ev X 215 58 ls st h Q ↔ onI (gl ls 3) (fun x => (stOK ls 3 = true ∧ inR (x + 1)) ∧ Ev X 215 59 (ls.set 3 (some (vi (x + 1)))) st h Q) := R_inc rfl
theorem e_215_59 : Ev X 215 59 ls st h Q ↔ Ev X 215 4 ls st h Q := R_go rfl
theorem e_215_60 : Ev X 215 60 ls st h Q ↔ onI (gl ls 2) (fun z => Ev X 215 61 ls (vi z :: st) h Q) := R_il rfl (Or.inl rfl)
theorem e_215_61 {z : Int} : Ev X 215 61 ls [vi z] h Q ↔ Q (some (vi z)) h := R_ir rfl
-- 216: CellRowsModel.over(I)I
theorem e_216_0 : Ev X 216 0 ls st h Q ↔ onR (gl ls 0) (fun z => Ev X 216 1 ls (vr z :: st) h Q) := R_al rfl (Or.inl rfl)
theorem e_216_1 : Ev X 216 1 ls st h Q ↔ onI (gl ls 1) (fun z => Ev X 216 2 ls (vi z :: st) h Q) := R_il rfl (Or.inl rfl)
theorem e_216_2 {rest : List xV} {a0 : Int} {o : Nat} : Ev X 216 2 ls ((vi a0) :: vr o :: rest) h Q ↔ ((X.1 o = 12 ∧ wd rest ≤ 8) ∧ Cl X 215 [vr o, vi a0] h (fun r h2 => Ev X 216 3 ls (r.toList ++ rest) h2 Q)) := R_cv (x := o) (as := [vi a0]) (k2 := 215) rfl rfl (Nat.le_of_ble_eq_true rfl)
theorem e_216_3 : Ev X 216 3 ls st h Q ↔ onR (gl ls 0) (fun z => Ev X 216 4 ls (vr z :: st) h Q) := R_al rfl (Or.inl rfl)
theorem e_216_4 {x : Nat} : Ev X 216 4 ls (vr x :: st) h Q ↔ (X.1 x = 12 ∧ Ev X 216 5 ls (vr (X.2.2.1 x 36) :: st) h Q) := R_gr rfl
theorem e_216_5 : Ev X 216 5 ls st h Q ↔ onI (gl ls 1) (fun z => Ev X 216 6 ls (vi z :: st) h Q) := R_il rfl (Or.inl rfl)
theorem e_216_6 {x : Nat} {j : Int} : Ev X 216 6 ls (vi j :: vr x :: st) h Q ↔ (((X.1 x = 13 ∨ X.1 x = 20) ∧ 0 ≤ j ∧ j < X.2.1 x) ∧ Ev X 216 7 ls (vi (h.1 x j.toNat) :: st) h Q) := R_ia rfl
theorem e_216_7 : Ev X 216 7 ls st h Q ↔ onR (gl ls 0) (fun z => Ev X 216 8 ls (vr z :: st) h Q) := R_al rfl (Or.inl rfl)
theorem e_216_8 {x : Nat} : Ev X 216 8 ls (vr x :: st) h Q ↔ (X.1 x = 12 ∧ Ev X 216 9 ls (vr (X.2.2.1 x 5) :: st) h Q) := R_gr rfl
theorem e_216_9 : Ev X 216 9 ls st h Q ↔ Ev X 216 10 ls (vi 1 :: st) h Q := R_kc rfl (Or.inl ⟨Or.inl rfl, by decide⟩)
theorem e_216_10 {x : Nat} {j : Int} : Ev X 216 10 ls (vi j :: vr x :: st) h Q ↔ (((X.1 x = 13 ∨ X.1 x = 20) ∧ 0 ≤ j ∧ j < X.2.1 x) ∧ Ev X 216 11 ls (vi (h.1 x j.toNat) :: st) h Q) := R_ia rfl
theorem e_216_11 {x y : Int} : Ev X 216 11 ls (vi y :: vi x :: st) h Q ↔ ((inR (x * y)) ∧ Ev X 216 12 ls (vi (x * y) :: st) h Q) := R_mul rfl
theorem e_216_12 : Ev X 216 12 ls st h Q ↔ Ev X 216 13 ls (vi 100 :: st) h Q := R_kc rfl (Or.inr (Or.inl ⟨rfl, by decide⟩))
theorem e_216_13 {x y : Int} : Ev X 216 13 ls (vi y :: vi x :: st) h Q ↔ ((y ≠ 0 ∧ inR (x.tdiv y)) ∧ Ev X 216 14 ls (vi (x.tdiv y) :: st) h Q) := R_div rfl
theorem e_216_14 {x y : Int} : Ev X 216 14 ls (vi y :: vi x :: st) h Q ↔ ((inR (x - y)) ∧ Ev X 216 15 ls (vi (x - y) :: st) h Q) := R_sub rfl
theorem e_216_15 {x : Int} : Ev X 216 15 ls (vi x :: st) h Q ↔ (stOK ls 2 = true ∧ Ev X 216 16 (ls.set 2 (some (vi x))) st h Q) := R_is rfl (Or.inl rfl)
theorem e_216_16 : Ev X 216 16 ls st h Q ↔ onI (gl ls 2) (fun z => Ev X 216 17 ls (vi z :: st) h Q) := R_il rfl (Or.inl rfl)
theorem e_216_17 {x : Int} : Ev X 216 17 ls (vi x :: st) h Q ↔ (if x ≤ 0 then Ev X 216 20 ls st h Q else Ev X 216 18 ls st h Q) := R_ifle rfl
theorem e_216_18 : Ev X 216 18 ls st h Q ↔ onI (gl ls 2) (fun z => Ev X 216 19 ls (vi z :: st) h Q) := R_il rfl (Or.inl rfl)
theorem e_216_19 : Ev X 216 19 ls st h Q ↔ Ev X 216 21 ls st h Q := R_go rfl
theorem e_216_20 : Ev X 216 20 ls st h Q ↔ Ev X 216 21 ls (vi 0 :: st) h Q := R_kc rfl (Or.inl ⟨Or.inl rfl, by decide⟩)
theorem e_216_21 {z : Int} : Ev X 216 21 ls [vi z] h Q ↔ Q (some (vi z)) h := R_ir rfl
-- 217: CellRowsModel.overflow()I
theorem e_217_0 : Ev X 217 0 ls st h Q ↔ Ev X 217 1 ls (vi 0 :: st) h Q := R_kc rfl (Or.inl ⟨Or.inl rfl, by decide⟩)
theorem e_217_1 {x : Int} : Ev X 217 1 ls (vi x :: st) h Q ↔ (stOK ls 1 = true ∧ Ev X 217 2 (ls.set 1 (some (vi x))) st h Q) := R_is rfl (Or.inl rfl)
theorem e_217_2 : Ev X 217 2 ls st h Q ↔ Ev X 217 3 ls (vi 0 :: st) h Q := R_kc rfl (Or.inl ⟨Or.inl rfl, by decide⟩)
theorem e_217_3 {x : Int} : Ev X 217 3 ls (vi x :: st) h Q ↔ (stOK ls 2 = true ∧ Ev X 217 4 (ls.set 2 (some (vi x))) st h Q) := R_is rfl (Or.inl rfl)
theorem e_217_4 : Ev X 217 4 ls st h Q ↔ onI (gl ls 2) (fun z => Ev X 217 5 ls (vi z :: st) h Q) := R_il rfl (Or.inl rfl)
theorem e_217_5 : Ev X 217 5 ls st h Q ↔ onR (gl ls 0) (fun z => Ev X 217 6 ls (vr z :: st) h Q) := R_al rfl (Or.inl rfl)
theorem e_217_6 {rest : List xV}  {o : Nat} : Ev X 217 6 ls (vr o :: rest) h Q ↔ ((X.1 o = 12 ∧ wd rest ≤ 8) ∧ Cl X 212 [vr o] h (fun r h2 => Ev X 217 7 ls (r.toList ++ rest) h2 Q)) := R_cv (x := o) (as := []) (k2 := 212) rfl rfl (Nat.le_of_ble_eq_true rfl)
theorem e_217_7 {x y : Int} : Ev X 217 7 ls (vi y :: vi x :: st) h Q ↔ (if y ≤ x then Ev X 217 16 ls st h Q else Ev X 217 8 ls st h Q) := R_icge rfl
theorem e_217_8 : Ev X 217 8 ls st h Q ↔ onI (gl ls 1) (fun z => Ev X 217 9 ls (vi z :: st) h Q) := R_il rfl (Or.inl rfl)
theorem e_217_9 : Ev X 217 9 ls st h Q ↔ onR (gl ls 0) (fun z => Ev X 217 10 ls (vr z :: st) h Q) := R_al rfl (Or.inl rfl)
theorem e_217_10 : Ev X 217 10 ls st h Q ↔ onI (gl ls 2) (fun z => Ev X 217 11 ls (vi z :: st) h Q) := R_il rfl (Or.inl rfl)
theorem e_217_11 {rest : List xV} {a0 : Int} {o : Nat} : Ev X 217 11 ls ((vi a0) :: vr o :: rest) h Q ↔ ((X.1 o = 12 ∧ wd rest ≤ 8) ∧ Cl X 216 [vr o, vi a0] h (fun r h2 => Ev X 217 12 ls (r.toList ++ rest) h2 Q)) := R_cv (x := o) (as := [vi a0]) (k2 := 216) rfl rfl (Nat.le_of_ble_eq_true rfl)
theorem e_217_12 {x y : Int} : Ev X 217 12 ls (vi y :: vi x :: st) h Q ↔ ((inR (x + y)) ∧ Ev X 217 13 ls (vi (x + y) :: st) h Q) := R_add rfl
theorem e_217_13 {x : Int} : Ev X 217 13 ls (vi x :: st) h Q ↔ (stOK ls 1 = true ∧ Ev X 217 14 (ls.set 1 (some (vi x))) st h Q) := R_is rfl (Or.inl rfl)
theorem e_217_14 : Ev X 217 14 ls st h Q ↔ onI (gl ls 2) (fun x => (stOK ls 2 = true ∧ inR (x + 1)) ∧ Ev X 217 15 (ls.set 2 (some (vi (x + 1)))) st h Q) := R_inc rfl
theorem e_217_15 : Ev X 217 15 ls st h Q ↔ Ev X 217 4 ls st h Q := R_go rfl
theorem e_217_16 : Ev X 217 16 ls st h Q ↔ onI (gl ls 1) (fun z => Ev X 217 17 ls (vi z :: st) h Q) := R_il rfl (Or.inl rfl)
theorem e_217_17 {z : Int} : Ev X 217 17 ls [vi z] h Q ↔ Q (some (vi z)) h := R_ir rfl
-- 218: CellRowsModel.cost()I
theorem e_218_0 : Ev X 218 0 ls st h Q ↔ Ev X 218 1 ls (vi 16 :: st) h Q := R_kc rfl (Or.inr (Or.inl ⟨rfl, by decide⟩))
theorem e_218_1 : Ev X 218 1 ls st h Q ↔ onR (gl ls 0) (fun z => Ev X 218 2 ls (vr z :: st) h Q) := R_al rfl (Or.inl rfl)
theorem e_218_2 {rest : List xV}  {o : Nat} : Ev X 218 2 ls (vr o :: rest) h Q ↔ ((X.1 o = 12 ∧ wd rest ≤ 8) ∧ Cl X 210 [vr o] h (fun r h2 => Ev X 218 3 ls (r.toList ++ rest) h2 Q)) := R_cv (x := o) (as := []) (k2 := 210) rfl rfl (Nat.le_of_ble_eq_true rfl)
theorem e_218_3 {x y : Int} : Ev X 218 3 ls (vi y :: vi x :: st) h Q ↔ ((inR (x * y)) ∧ Ev X 218 4 ls (vi (x * y) :: st) h Q) := R_mul rfl
theorem e_218_4 : Ev X 218 4 ls st h Q ↔ onR (gl ls 0) (fun z => Ev X 218 5 ls (vr z :: st) h Q) := R_al rfl (Or.inl rfl)
theorem e_218_5 {x : Nat} : Ev X 218 5 ls (vr x :: st) h Q ↔ (X.1 x = 12 ∧ Ev X 218 6 ls (vr (X.2.2.1 x 5) :: st) h Q) := R_gr rfl
theorem e_218_6 : Ev X 218 6 ls st h Q ↔ Ev X 218 7 ls (vi 2 :: st) h Q := R_kc rfl (Or.inl ⟨Or.inl rfl, by decide⟩)
theorem e_218_7 {x : Nat} {j : Int} : Ev X 218 7 ls (vi j :: vr x :: st) h Q ↔ (((X.1 x = 13 ∨ X.1 x = 20) ∧ 0 ≤ j ∧ j < X.2.1 x) ∧ Ev X 218 8 ls (vi (h.1 x j.toNat) :: st) h Q) := R_ia rfl
theorem e_218_8 : Ev X 218 8 ls st h Q ↔ onR (gl ls 0) (fun z => Ev X 218 9 ls (vr z :: st) h Q) := R_al rfl (Or.inl rfl)
theorem e_218_9 {rest : List xV}  {o : Nat} : Ev X 218 9 ls (vr o :: rest) h Q ↔ ((X.1 o = 12 ∧ wd rest ≤ 8) ∧ Cl X 217 [vr o] h (fun r h2 => Ev X 218 10 ls (r.toList ++ rest) h2 Q)) := R_cv (x := o) (as := []) (k2 := 217) rfl rfl (Nat.le_of_ble_eq_true rfl)
theorem e_218_10 {x y : Int} : Ev X 218 10 ls (vi y :: vi x :: st) h Q ↔ ((inR (x * y)) ∧ Ev X 218 11 ls (vi (x * y) :: st) h Q) := R_mul rfl
theorem e_218_11 {x y : Int} : Ev X 218 11 ls (vi y :: vi x :: st) h Q ↔ ((inR (x + y)) ∧ Ev X 218 12 ls (vi (x + y) :: st) h Q) := R_add rfl
theorem e_218_12 {z : Int} : Ev X 218 12 ls [vi z] h Q ↔ Q (some (vi z)) h := R_ir rfl
-- 219: CellRowsModel.demand(I)I
theorem e_219_0 : Ev X 219 0 ls st h Q ↔ Ev X 219 1 ls (vi 0 :: st) h Q := R_kc rfl (Or.inl ⟨Or.inl rfl, by decide⟩)
theorem e_219_1 {x : Int} : Ev X 219 1 ls (vi x :: st) h Q ↔ (stOK ls 2 = true ∧ Ev X 219 2 (ls.set 2 (some (vi x))) st h Q) := R_is rfl (Or.inl rfl)
theorem e_219_2 : Ev X 219 2 ls st h Q ↔ Ev X 219 3 ls (vi 0 :: st) h Q := R_kc rfl (Or.inl ⟨Or.inl rfl, by decide⟩)
theorem e_219_3 {x : Int} : Ev X 219 3 ls (vi x :: st) h Q ↔ (stOK ls 3 = true ∧ Ev X 219 4 (ls.set 3 (some (vi x))) st h Q) := R_is rfl (Or.inl rfl)
theorem e_219_4 : Ev X 219 4 ls st h Q ↔ onI (gl ls 3) (fun z => Ev X 219 5 ls (vi z :: st) h Q) := R_il rfl (Or.inl rfl)
theorem e_219_5 : Ev X 219 5 ls st h Q ↔ onR (gl ls 0) (fun z => Ev X 219 6 ls (vr z :: st) h Q) := R_al rfl (Or.inl rfl)
theorem e_219_6 {x : Nat} : Ev X 219 6 ls (vr x :: st) h Q ↔ (X.1 x = 12 ∧ Ev X 219 7 ls (vr (X.2.2.1 x 6) :: st) h Q) := R_gr rfl
theorem e_219_7 : Ev X 219 7 ls st h Q ↔ Ev X 219 8 ls (vi 3 :: st) h Q := R_kc rfl (Or.inl ⟨Or.inl rfl, by decide⟩)
theorem e_219_8 {x : Nat} {j : Int} : Ev X 219 8 ls (vi j :: vr x :: st) h Q ↔ (((X.1 x = 13 ∨ X.1 x = 20) ∧ 0 ≤ j ∧ j < X.2.1 x) ∧ Ev X 219 9 ls (vi (h.1 x j.toNat) :: st) h Q) := R_ia rfl
theorem e_219_9 {x y : Int} : Ev X 219 9 ls (vi y :: vi x :: st) h Q ↔ (if y ≤ x then Ev X 219 74 ls st h Q else Ev X 219 10 ls st h Q) := R_icge rfl
theorem e_219_10 : Ev X 219 10 ls st h Q ↔ onI (gl ls 1) (fun z => Ev X 219 11 ls (vi z :: st) h Q) := R_il rfl (Or.inl rfl)
theorem e_219_11 : Ev X 219 11 ls st h Q ↔ onR (gl ls 0) (fun z => Ev X 219 12 ls (vr z :: st) h Q) := R_al rfl (Or.inl rfl)
theorem e_219_12 {rest : List xV}  {o : Nat} : Ev X 219 12 ls (vr o :: rest) h Q ↔ ((X.1 o = 12 ∧ wd rest ≤ 8) ∧ Cl X 211 [vr o] h (fun r h2 => Ev X 219 13 ls (r.toList ++ rest) h2 Q)) := R_cv (x := o) (as := []) (k2 := 211) rfl rfl (Nat.le_of_ble_eq_true rfl)
theorem e_219_13 {x y : Int} : Ev X 219 13 ls (vi y :: vi x :: st) h Q ↔ ((y ≠ 0 ∧ inR (x.tdiv y)) ∧ Ev X 219 14 ls (vi (x.tmod y) :: st) h Q) := R_rem rfl
theorem e_219_14 {x : Int} : Ev X 219 14 ls (vi x :: st) h Q ↔ Ev X 219 15 ls (vl x :: st) h Q := R_i2l rfl
theorem e_219_15 : Ev X 219 15 ls st h Q ↔ onR (gl ls 0) (fun z => Ev X 219 16 ls (vr z :: st) h Q) := R_al rfl (Or.inl rfl)
theorem e_219_16 : Ev X 219 16 ls st h Q ↔ onI (gl ls 3) (fun z => Ev X 219 17 ls (vi z :: st) h Q) := R_il rfl (Or.inl rfl)
theorem e_219_17 : Ev X 219 17 ls st h Q ↔ Ev X 219 18 ls (vi 1 :: st) h Q := R_kc rfl (Or.inl ⟨Or.inl rfl, by decide⟩)
theorem e_219_18 : Ev X 219 18 ls st h Q ↔ Ev X 219 19 ls (vi 0 :: st) h Q := R_kc rfl (Or.inl ⟨Or.inl rfl, by decide⟩)
theorem e_219_19 {rest : List xV} {a0 : Int} {a1 : Int} {a2 : Int} {o : Nat} : Ev X 219 19 ls ((vi a2) :: (vi a1) :: (vi a0) :: vr o :: rest) h Q ↔ ((X.1 o = 12 ∧ wd rest ≤ 8) ∧ Cl X 203 [vr o, vi a0, vi a1, vi a2] h (fun r h2 => Ev X 219 20 ls (r.toList ++ rest) h2 Q)) := R_cv (x := o) (as := [vi a0, vi a1, vi a2]) (k2 := 203) rfl rfl (Nat.le_of_ble_eq_true rfl)
theorem e_219_20 : Ev X 219 20 ls st h Q ↔ Ev X 219 21 ls (vi 128 :: st) h Q := R_kc rfl (Or.inr (Or.inr ⟨rfl, by decide⟩))
theorem e_219_21 {x y : Int} : Ev X 219 21 ls (vi y :: vi x :: st) h Q ↔ ((y ≠ 0 ∧ inR (x.tdiv y)) ∧ Ev X 219 22 ls (vi (x.tdiv y) :: st) h Q) := R_div rfl
theorem e_219_22 {x : Int} : Ev X 219 22 ls (vi x :: st) h Q ↔ Ev X 219 23 ls (vl x :: st) h Q := R_i2l rfl
theorem e_219_23 : Ev X 219 23 ls st h Q ↔ onR (gl ls 0) (fun z => Ev X 219 24 ls (vr z :: st) h Q) := R_al rfl (Or.inl rfl)
theorem e_219_24 : Ev X 219 24 ls st h Q ↔ onI (gl ls 3) (fun z => Ev X 219 25 ls (vi z :: st) h Q) := R_il rfl (Or.inl rfl)
theorem e_219_25 : Ev X 219 25 ls st h Q ↔ Ev X 219 26 ls (vi 1 :: st) h Q := R_kc rfl (Or.inl ⟨Or.inl rfl, by decide⟩)
theorem e_219_26 : Ev X 219 26 ls st h Q ↔ Ev X 219 27 ls (vi 0 :: st) h Q := R_kc rfl (Or.inl ⟨Or.inl rfl, by decide⟩)
theorem e_219_27 {rest : List xV} {a0 : Int} {a1 : Int} {a2 : Int} {o : Nat} : Ev X 219 27 ls ((vi a2) :: (vi a1) :: (vi a0) :: vr o :: rest) h Q ↔ ((X.1 o = 12 ∧ wd rest ≤ 8) ∧ Cl X 204 [vr o, vi a0, vi a1, vi a2] h (fun r h2 => Ev X 219 28 ls (r.toList ++ rest) h2 Q)) := R_cv (x := o) (as := [vi a0, vi a1, vi a2]) (k2 := 204) rfl rfl (Nat.le_of_ble_eq_true rfl)
theorem e_219_28 : Ev X 219 28 ls st h Q ↔ Ev X 219 29 ls (vi 128 :: st) h Q := R_kc rfl (Or.inr (Or.inr ⟨rfl, by decide⟩))
theorem e_219_29 {x y : Int} : Ev X 219 29 ls (vi y :: vi x :: st) h Q ↔ ((y ≠ 0 ∧ inR (x.tdiv y)) ∧ Ev X 219 30 ls (vi (x.tdiv y) :: st) h Q) := R_div rfl
theorem e_219_30 {x : Int} : Ev X 219 30 ls (vi x :: st) h Q ↔ Ev X 219 31 ls (vl x :: st) h Q := R_i2l rfl
theorem e_219_31 {rest : List xV} {a0 : Int} {a1 : Int} {a2 : Int} : Ev X 219 31 ls ((vl a2) :: (vl a1) :: (vl a0) :: rest) h Q ↔ (wd rest ≤ 8 ∧ Cl X 149 [vl a0, vl a1, vl a2] h (fun r h2 => Ev X 219 32 ls (r.toList ++ rest) h2 Q)) := R_cs (as := [vl a0, vl a1, vl a2]) (k2 := 149) rfl rfl (Nat.le_of_ble_eq_true rfl)
theorem e_219_32 {x : Int} : Ev X 219 32 ls (vi x :: st) h Q ↔ (if x = 0 then Ev X 219 58 ls st h Q else Ev X 219 33 ls st h Q) := R_ifeq rfl
theorem e_219_33 : Ev X 219 33 ls st h Q ↔ onI (gl ls 1) (fun z => Ev X 219 34 ls (vi z :: st) h Q) := R_il rfl (Or.inl rfl)
theorem e_219_34 : Ev X 219 34 ls st h Q ↔ onR (gl ls 0) (fun z => Ev X 219 35 ls (vr z :: st) h Q) := R_al rfl (Or.inl rfl)
theorem e_219_35 {rest : List xV}  {o : Nat} : Ev X 219 35 ls (vr o :: rest) h Q ↔ ((X.1 o = 12 ∧ wd rest ≤ 8) ∧ Cl X 211 [vr o] h (fun r h2 => Ev X 219 36 ls (r.toList ++ rest) h2 Q)) := R_cv (x := o) (as := []) (k2 := 211) rfl rfl (Nat.le_of_ble_eq_true rfl)
theorem e_219_36 {x y : Int} : Ev X 219 36 ls (vi y :: vi x :: st) h Q ↔ ((y ≠ 0 ∧ inR (x.tdiv y)) ∧ Ev X 219 37 ls (vi (x.tdiv y) :: st) h Q) := R_div rfl
theorem e_219_37 {x : Int} : Ev X 219 37 ls (vi x :: st) h Q ↔ Ev X 219 38 ls (vl x :: st) h Q := R_i2l rfl
theorem e_219_38 : Ev X 219 38 ls st h Q ↔ onR (gl ls 0) (fun z => Ev X 219 39 ls (vr z :: st) h Q) := R_al rfl (Or.inl rfl)
theorem e_219_39 : Ev X 219 39 ls st h Q ↔ onI (gl ls 3) (fun z => Ev X 219 40 ls (vi z :: st) h Q) := R_il rfl (Or.inl rfl)
theorem e_219_40 : Ev X 219 40 ls st h Q ↔ Ev X 219 41 ls (vi 1 :: st) h Q := R_kc rfl (Or.inl ⟨Or.inl rfl, by decide⟩)
theorem e_219_41 : Ev X 219 41 ls st h Q ↔ Ev X 219 42 ls (vi 1 :: st) h Q := R_kc rfl (Or.inl ⟨Or.inl rfl, by decide⟩)
theorem e_219_42 {rest : List xV} {a0 : Int} {a1 : Int} {a2 : Int} {o : Nat} : Ev X 219 42 ls ((vi a2) :: (vi a1) :: (vi a0) :: vr o :: rest) h Q ↔ ((X.1 o = 12 ∧ wd rest ≤ 8) ∧ Cl X 203 [vr o, vi a0, vi a1, vi a2] h (fun r h2 => Ev X 219 43 ls (r.toList ++ rest) h2 Q)) := R_cv (x := o) (as := [vi a0, vi a1, vi a2]) (k2 := 203) rfl rfl (Nat.le_of_ble_eq_true rfl)
theorem e_219_43 : Ev X 219 43 ls st h Q ↔ Ev X 219 44 ls (vi 32 :: st) h Q := R_kc rfl (Or.inr (Or.inl ⟨rfl, by decide⟩))
theorem e_219_44 {x y : Int} : Ev X 219 44 ls (vi y :: vi x :: st) h Q ↔ ((y ≠ 0 ∧ inR (x.tdiv y)) ∧ Ev X 219 45 ls (vi (x.tdiv y) :: st) h Q) := R_div rfl
theorem e_219_45 {x : Int} : Ev X 219 45 ls (vi x :: st) h Q ↔ Ev X 219 46 ls (vl x :: st) h Q := R_i2l rfl
theorem e_219_46 : Ev X 219 46 ls st h Q ↔ onR (gl ls 0) (fun z => Ev X 219 47 ls (vr z :: st) h Q) := R_al rfl (Or.inl rfl)
theorem e_219_47 : Ev X 219 47 ls st h Q ↔ onI (gl ls 3) (fun z => Ev X 219 48 ls (vi z :: st) h Q) := R_il rfl (Or.inl rfl)
theorem e_219_48 : Ev X 219 48 ls st h Q ↔ Ev X 219 49 ls (vi 1 :: st) h Q := R_kc rfl (Or.inl ⟨Or.inl rfl, by decide⟩)
theorem e_219_49 : Ev X 219 49 ls st h Q ↔ Ev X 219 50 ls (vi 1 :: st) h Q := R_kc rfl (Or.inl ⟨Or.inl rfl, by decide⟩)
theorem e_219_50 {rest : List xV} {a0 : Int} {a1 : Int} {a2 : Int} {o : Nat} : Ev X 219 50 ls ((vi a2) :: (vi a1) :: (vi a0) :: vr o :: rest) h Q ↔ ((X.1 o = 12 ∧ wd rest ≤ 8) ∧ Cl X 204 [vr o, vi a0, vi a1, vi a2] h (fun r h2 => Ev X 219 51 ls (r.toList ++ rest) h2 Q)) := R_cv (x := o) (as := [vi a0, vi a1, vi a2]) (k2 := 204) rfl rfl (Nat.le_of_ble_eq_true rfl)
theorem e_219_51 : Ev X 219 51 ls st h Q ↔ Ev X 219 52 ls (vi 32 :: st) h Q := R_kc rfl (Or.inr (Or.inl ⟨rfl, by decide⟩))
theorem e_219_52 {x y : Int} : Ev X 219 52 ls (vi y :: vi x :: st) h Q ↔ ((y ≠ 0 ∧ inR (x.tdiv y)) ∧ Ev X 219 53 ls (vi (x.tdiv y) :: st) h Q) := R_div rfl
theorem e_219_53 {x : Int} : Ev X 219 53 ls (vi x :: st) h Q ↔ Ev X 219 54 ls (vl x :: st) h Q := R_i2l rfl
theorem e_219_54 {rest : List xV} {a0 : Int} {a1 : Int} {a2 : Int} : Ev X 219 54 ls ((vl a2) :: (vl a1) :: (vl a0) :: rest) h Q ↔ (wd rest ≤ 8 ∧ Cl X 149 [vl a0, vl a1, vl a2] h (fun r h2 => Ev X 219 55 ls (r.toList ++ rest) h2 Q)) := R_cs (as := [vl a0, vl a1, vl a2]) (k2 := 149) rfl rfl (Nat.le_of_ble_eq_true rfl)
theorem e_219_55 {x : Int} : Ev X 219 55 ls (vi x :: st) h Q ↔ (if x = 0 then Ev X 219 58 ls st h Q else Ev X 219 56 ls st h Q) := R_ifeq rfl
theorem e_219_56 : Ev X 219 56 ls st h Q ↔ Ev X 219 57 ls (vi 1 :: st) h Q := R_kc rfl (Or.inl ⟨Or.inl rfl, by decide⟩)
theorem e_219_57 : Ev X 219 57 ls st h Q ↔ Ev X 219 59 ls st h Q := R_go rfl
theorem e_219_58 : Ev X 219 58 ls st h Q ↔ Ev X 219 59 ls (vi 0 :: st) h Q := R_kc rfl (Or.inl ⟨Or.inl rfl, by decide⟩)
theorem e_219_59 {x : Int} : Ev X 219 59 ls (vi x :: st) h Q ↔ (stOK ls 4 = true ∧ Ev X 219 60 (ls.set 4 (some (vi x))) st h Q) := R_is rfl (Or.inr rfl)
theorem e_219_60 : Ev X 219 60 ls st h Q ↔ onI (gl ls 2) (fun z => Ev X 219 61 ls (vi z :: st) h Q) := R_il rfl (Or.inl rfl)
theorem e_219_61 : Ev X 219 61 ls st h Q ↔ onI (gl ls 4) (fun z => Ev X 219 62 ls (vi z :: st) h Q) := R_il rfl (Or.inr rfl)
theorem e_219_62 {x : Int} : Ev X 219 62 ls (vi x :: st) h Q ↔ (if x = 0 then Ev X 219 69 ls st h Q else Ev X 219 63 ls st h Q) := R_ifeq rfl
theorem e_219_63 : Ev X 219 63 ls st h Q ↔ onR (gl ls 0) (fun z => Ev X 219 64 ls (vr z :: st) h Q) := R_al rfl (Or.inl rfl)
theorem e_219_64 {x : Nat} : Ev X 219 64 ls (vr x :: st) h Q ↔ (X.1 x = 12 ∧ Ev X 219 65 ls (vr (X.2.2.1 x 6) :: st) h Q) := R_gr rfl
theorem e_219_65 : Ev X 219 65 ls st h Q ↔ onI (gl ls 3) (fun z => Ev X 219 66 ls (vi z :: st) h Q) := R_il rfl (Or.inl rfl)
theorem e_219_66 {rest : List xV} {a0 : Int} : Ev X 219 66 ls ((vi a0) :: rest) h Q ↔ (wd rest ≤ 8 ∧ Cl X 159 [vi a0] h (fun r h2 => Ev X 219 67 ls (r.toList ++ rest) h2 Q)) := R_cs (as := [vi a0]) (k2 := 159) rfl rfl (Nat.le_of_ble_eq_true rfl)
theorem e_219_67 {x : Nat} {j : Int} : Ev X 219 67 ls (vi j :: vr x :: st) h Q ↔ (((X.1 x = 13 ∨ X.1 x = 20) ∧ 0 ≤ j ∧ j < X.2.1 x) ∧ Ev X 219 68 ls (vi (h.1 x j.toNat) :: st) h Q) := R_ia rfl
theorem e_219_68 : Ev X 219 68 ls st h Q ↔ Ev X 219 70 ls st h Q := R_go rfl
theorem e_219_69 : Ev X 219 69 ls st h Q ↔ Ev X 219 70 ls (vi 0 :: st) h Q := R_kc rfl (Or.inl ⟨Or.inl rfl, by decide⟩)
theorem e_219_70 {x y : Int} : Ev X 219 70 ls (vi y :: vi x :: st) h Q ↔ ((inR (x + y)) ∧ Ev X 219 71 ls (vi (x + y) :: st) h Q) := R_add rfl
theorem e_219_71 {x : Int} : Ev X 219 71 ls (vi x :: st) h Q ↔ (stOK ls 2 = true ∧ Ev X 219 72 (ls.set 2 (some (vi x))) st h Q) := R_is rfl (Or.inl rfl)
theorem e_219_72 : Ev X 219 72 ls st h Q ↔ onI (gl ls 3) (fun x => (stOK ls 3 = true ∧ inR (x + 1)) ∧ Ev X 219 73 (ls.set 3 (some (vi (x + 1)))) st h Q) := R_inc rfl
theorem e_219_73 : Ev X 219 73 ls st h Q ↔ Ev X 219 4 ls st h Q := R_go rfl
theorem e_219_74 : Ev X 219 74 ls st h Q ↔ onI (gl ls 2) (fun z => Ev X 219 75 ls (vi z :: st) h Q) := R_il rfl (Or.inl rfl)
theorem e_219_75 {z : Int} : Ev X 219 75 ls [vi z] h Q ↔ Q (some (vi z)) h := R_ir rfl
-- 220: CellRowsModel.moveOf(I)I
theorem e_220_0 : Ev X 220 0 ls st h Q ↔ onI (gl ls 1) (fun z => Ev X 220 1 ls (vi z :: st) h Q) := R_il rfl (Or.inl rfl)
theorem e_220_1 {rest : List xV} {a0 : Int} : Ev X 220 1 ls ((vi a0) :: rest) h Q ↔ (wd rest ≤ 8 ∧ Cl X 158 [vi a0] h (fun r h2 => Ev X 220 2 ls (r.toList ++ rest) h2 Q)) := R_cs (as := [vi a0]) (k2 := 158) rfl rfl (Nat.le_of_ble_eq_true rfl)
theorem e_220_2 {x : Int} : Ev X 220 2 ls (vi x :: st) h Q ↔ (stOK ls 2 = true ∧ Ev X 220 3 (ls.set 2 (some (vi x))) st h Q) := R_is rfl (Or.inl rfl)
theorem e_220_3 : Ev X 220 3 ls st h Q ↔ onR (gl ls 0) (fun z => Ev X 220 4 ls (vr z :: st) h Q) := R_al rfl (Or.inl rfl)
theorem e_220_4 {x : Nat} : Ev X 220 4 ls (vr x :: st) h Q ↔ (X.1 x = 12 ∧ Ev X 220 5 ls (vr (X.2.2.1 x 6) :: st) h Q) := R_gr rfl
theorem e_220_5 : Ev X 220 5 ls st h Q ↔ onI (gl ls 2) (fun z => Ev X 220 6 ls (vi z :: st) h Q) := R_il rfl (Or.inl rfl)
theorem e_220_6 {x : Nat} {j : Int} : Ev X 220 6 ls (vi j :: vr x :: st) h Q ↔ (((X.1 x = 13 ∨ X.1 x = 20) ∧ 0 ≤ j ∧ j < X.2.1 x) ∧ Ev X 220 7 ls (vi (h.1 x j.toNat) :: st) h Q) := R_ia rfl
theorem e_220_7 : Ev X 220 7 ls st h Q ↔ Ev X 220 8 ls (vi 16 :: st) h Q := R_kc rfl (Or.inr (Or.inl ⟨rfl, by decide⟩))
theorem e_220_8 : Ev X 220 8 ls st h Q ↔ onR (gl ls 0) (fun z => Ev X 220 9 ls (vr z :: st) h Q) := R_al rfl (Or.inl rfl)
theorem e_220_9 {x : Nat} : Ev X 220 9 ls (vr x :: st) h Q ↔ (X.1 x = 12 ∧ Ev X 220 10 ls (vr (X.2.2.1 x 6) :: st) h Q) := R_gr rfl
theorem e_220_10 : Ev X 220 10 ls st h Q ↔ onI (gl ls 2) (fun z => Ev X 220 11 ls (vi z :: st) h Q) := R_il rfl (Or.inl rfl)
theorem e_220_11 : Ev X 220 11 ls st h Q ↔ Ev X 220 12 ls (vi 6 :: st) h Q := R_kc rfl (Or.inr (Or.inl ⟨rfl, by decide⟩))
theorem e_220_12 {x y : Int} : Ev X 220 12 ls (vi y :: vi x :: st) h Q ↔ ((inR (x + y)) ∧ Ev X 220 13 ls (vi (x + y) :: st) h Q) := R_add rfl
theorem e_220_13 {x : Nat} {j : Int} : Ev X 220 13 ls (vi j :: vr x :: st) h Q ↔ (((X.1 x = 13 ∨ X.1 x = 20) ∧ 0 ≤ j ∧ j < X.2.1 x) ∧ Ev X 220 14 ls (vi (h.1 x j.toNat) :: st) h Q) := R_ia rfl
theorem e_220_14 {x y : Int} : Ev X 220 14 ls (vi y :: vi x :: st) h Q ↔ ((inR (x * y)) ∧ Ev X 220 15 ls (vi (x * y) :: st) h Q) := R_mul rfl
theorem e_220_15 : Ev X 220 15 ls st h Q ↔ onR (gl ls 0) (fun z => Ev X 220 16 ls (vr z :: st) h Q) := R_al rfl (Or.inl rfl)
theorem e_220_16 {x : Nat} : Ev X 220 16 ls (vr x :: st) h Q ↔ (X.1 x = 12 ∧ Ev X 220 17 ls (vr (X.2.2.1 x 6) :: st) h Q) := R_gr rfl
theorem e_220_17 : Ev X 220 17 ls st h Q ↔ onI (gl ls 2) (fun z => Ev X 220 18 ls (vi z :: st) h Q) := R_il rfl (Or.inl rfl)
theorem e_220_18 : Ev X 220 18 ls st h Q ↔ Ev X 220 19 ls (vi 3 :: st) h Q := R_kc rfl (Or.inl ⟨Or.inl rfl, by decide⟩)
theorem e_220_19 {x y : Int} : Ev X 220 19 ls (vi y :: vi x :: st) h Q ↔ ((inR (x + y)) ∧ Ev X 220 20 ls (vi (x + y) :: st) h Q) := R_add rfl
theorem e_220_20 {x : Nat} {j : Int} : Ev X 220 20 ls (vi j :: vr x :: st) h Q ↔ (((X.1 x = 13 ∨ X.1 x = 20) ∧ 0 ≤ j ∧ j < X.2.1 x) ∧ Ev X 220 21 ls (vi (h.1 x j.toNat) :: st) h Q) := R_ia rfl
theorem e_220_21 {rest : List xV} {a0 : Int} {a1 : Int} : Ev X 220 21 ls ((vi a1) :: (vi a0) :: rest) h Q ↔ (wd rest ≤ 8 ∧ Cl X 150 [vi a0, vi a1] h (fun r h2 => Ev X 220 22 ls (r.toList ++ rest) h2 Q)) := R_cs (as := [vi a0, vi a1]) (k2 := 150) rfl rfl (Nat.le_of_ble_eq_true rfl)
theorem e_220_22 : Ev X 220 22 ls st h Q ↔ onR (gl ls 0) (fun z => Ev X 220 23 ls (vr z :: st) h Q) := R_al rfl (Or.inl rfl)
theorem e_220_23 {x : Nat} : Ev X 220 23 ls (vr x :: st) h Q ↔ (X.1 x = 12 ∧ Ev X 220 24 ls (vr (X.2.2.1 x 5) :: st) h Q) := R_gr rfl
theorem e_220_24 : Ev X 220 24 ls st h Q ↔ Ev X 220 25 ls (vi 4 :: st) h Q := R_kc rfl (Or.inl ⟨Or.inl rfl, by decide⟩)
theorem e_220_25 {x : Nat} {j : Int} : Ev X 220 25 ls (vi j :: vr x :: st) h Q ↔ (((X.1 x = 13 ∨ X.1 x = 20) ∧ 0 ≤ j ∧ j < X.2.1 x) ∧ Ev X 220 26 ls (vi (h.1 x j.toNat) :: st) h Q) := R_ia rfl
theorem e_220_26 : Ev X 220 26 ls st h Q ↔ Ev X 220 27 ls (vi 16 :: st) h Q := R_kc rfl (Or.inr (Or.inl ⟨rfl, by decide⟩))
theorem e_220_27 : Ev X 220 27 ls st h Q ↔ onR (gl ls 0) (fun z => Ev X 220 28 ls (vr z :: st) h Q) := R_al rfl (Or.inl rfl)
theorem e_220_28 {x : Nat} : Ev X 220 28 ls (vr x :: st) h Q ↔ (X.1 x = 12 ∧ Ev X 220 29 ls (vr (X.2.2.1 x 6) :: st) h Q) := R_gr rfl
theorem e_220_29 : Ev X 220 29 ls st h Q ↔ onI (gl ls 2) (fun z => Ev X 220 30 ls (vi z :: st) h Q) := R_il rfl (Or.inl rfl)
theorem e_220_30 : Ev X 220 30 ls st h Q ↔ Ev X 220 31 ls (vi 5 :: st) h Q := R_kc rfl (Or.inl ⟨Or.inl rfl, by decide⟩)
theorem e_220_31 {x y : Int} : Ev X 220 31 ls (vi y :: vi x :: st) h Q ↔ ((inR (x + y)) ∧ Ev X 220 32 ls (vi (x + y) :: st) h Q) := R_add rfl
theorem e_220_32 {x : Nat} {j : Int} : Ev X 220 32 ls (vi j :: vr x :: st) h Q ↔ (((X.1 x = 13 ∨ X.1 x = 20) ∧ 0 ≤ j ∧ j < X.2.1 x) ∧ Ev X 220 33 ls (vi (h.1 x j.toNat) :: st) h Q) := R_ia rfl
theorem e_220_33 {x y : Int} : Ev X 220 33 ls (vi y :: vi x :: st) h Q ↔ ((inR (x * y)) ∧ Ev X 220 34 ls (vi (x * y) :: st) h Q) := R_mul rfl
theorem e_220_34 : Ev X 220 34 ls st h Q ↔ onR (gl ls 0) (fun z => Ev X 220 35 ls (vr z :: st) h Q) := R_al rfl (Or.inl rfl)
theorem e_220_35 {x : Nat} : Ev X 220 35 ls (vr x :: st) h Q ↔ (X.1 x = 12 ∧ Ev X 220 36 ls (vr (X.2.2.1 x 6) :: st) h Q) := R_gr rfl
theorem e_220_36 : Ev X 220 36 ls st h Q ↔ onI (gl ls 2) (fun z => Ev X 220 37 ls (vi z :: st) h Q) := R_il rfl (Or.inl rfl)
theorem e_220_37 : Ev X 220 37 ls st h Q ↔ Ev X 220 38 ls (vi 4 :: st) h Q := R_kc rfl (Or.inl ⟨Or.inl rfl, by decide⟩)
theorem e_220_38 {x y : Int} : Ev X 220 38 ls (vi y :: vi x :: st) h Q ↔ ((inR (x + y)) ∧ Ev X 220 39 ls (vi (x + y) :: st) h Q) := R_add rfl
theorem e_220_39 {x : Nat} {j : Int} : Ev X 220 39 ls (vi j :: vr x :: st) h Q ↔ (((X.1 x = 13 ∨ X.1 x = 20) ∧ 0 ≤ j ∧ j < X.2.1 x) ∧ Ev X 220 40 ls (vi (h.1 x j.toNat) :: st) h Q) := R_ia rfl
theorem e_220_40 {rest : List xV} {a0 : Int} {a1 : Int} : Ev X 220 40 ls ((vi a1) :: (vi a0) :: rest) h Q ↔ (wd rest ≤ 8 ∧ Cl X 150 [vi a0, vi a1] h (fun r h2 => Ev X 220 41 ls (r.toList ++ rest) h2 Q)) := R_cs (as := [vi a0, vi a1]) (k2 := 150) rfl rfl (Nat.le_of_ble_eq_true rfl)
theorem e_220_41 {x y : Int} : Ev X 220 41 ls (vi y :: vi x :: st) h Q ↔ ((inR (x * y)) ∧ Ev X 220 42 ls (vi (x * y) :: st) h Q) := R_mul rfl
theorem e_220_42 {x y : Int} : Ev X 220 42 ls (vi y :: vi x :: st) h Q ↔ ((inR (x + y)) ∧ Ev X 220 43 ls (vi (x + y) :: st) h Q) := R_add rfl
theorem e_220_43 {x y : Int} : Ev X 220 43 ls (vi y :: vi x :: st) h Q ↔ ((inR (x * y)) ∧ Ev X 220 44 ls (vi (x * y) :: st) h Q) := R_mul rfl
theorem e_220_44 {z : Int} : Ev X 220 44 ls [vi z] h Q ↔ Q (some (vi z)) h := R_ir rfl
-- 221: CellRowsModel.heldX(II)I
theorem e_221_0 : Ev X 221 0 ls st h Q ↔ onI (gl ls 1) (fun z => Ev X 221 1 ls (vi z :: st) h Q) := R_il rfl (Or.inl rfl)
theorem e_221_1 {rest : List xV} {a0 : Int} : Ev X 221 1 ls ((vi a0) :: rest) h Q ↔ (wd rest ≤ 8 ∧ Cl X 158 [vi a0] h (fun r h2 => Ev X 221 2 ls (r.toList ++ rest) h2 Q)) := R_cs (as := [vi a0]) (k2 := 158) rfl rfl (Nat.le_of_ble_eq_true rfl)
theorem e_221_2 {x : Int} : Ev X 221 2 ls (vi x :: st) h Q ↔ (stOK ls 3 = true ∧ Ev X 221 3 (ls.set 3 (some (vi x))) st h Q) := R_is rfl (Or.inl rfl)
theorem e_221_3 : Ev X 221 3 ls st h Q ↔ onI (gl ls 2) (fun z => Ev X 221 4 ls (vi z :: st) h Q) := R_il rfl (Or.inl rfl)
theorem e_221_4 {x : Int} : Ev X 221 4 ls (vi x :: st) h Q ↔ (stOK ls 4 = true ∧ Ev X 221 5 (ls.set 4 (some (vi x))) st h Q) := R_is rfl (Or.inr rfl)
theorem e_221_5 : Ev X 221 5 ls st h Q ↔ onR (gl ls 0) (fun z => Ev X 221 6 ls (vr z :: st) h Q) := R_al rfl (Or.inl rfl)
theorem e_221_6 {x : Nat} : Ev X 221 6 ls (vr x :: st) h Q ↔ (X.1 x = 12 ∧ Ev X 221 7 ls (vr (X.2.2.1 x 6) :: st) h Q) := R_gr rfl
theorem e_221_7 : Ev X 221 7 ls st h Q ↔ onI (gl ls 3) (fun z => Ev X 221 8 ls (vi z :: st) h Q) := R_il rfl (Or.inl rfl)
theorem e_221_8 : Ev X 221 8 ls st h Q ↔ Ev X 221 9 ls (vi 1 :: st) h Q := R_kc rfl (Or.inl ⟨Or.inl rfl, by decide⟩)
theorem e_221_9 {x y : Int} : Ev X 221 9 ls (vi y :: vi x :: st) h Q ↔ ((inR (x + y)) ∧ Ev X 221 10 ls (vi (x + y) :: st) h Q) := R_add rfl
theorem e_221_10 {x : Nat} {j : Int} : Ev X 221 10 ls (vi j :: vr x :: st) h Q ↔ (((X.1 x = 13 ∨ X.1 x = 20) ∧ 0 ≤ j ∧ j < X.2.1 x) ∧ Ev X 221 11 ls (vi (h.1 x j.toNat) :: st) h Q) := R_ia rfl
theorem e_221_11 : Ev X 221 11 ls st h Q ↔ Ev X 221 12 ls (vi (-1) :: st) h Q := R_kc rfl (Or.inl ⟨Or.inl rfl, by decide⟩)
theorem e_221_12 {x y : Int} : Ev X 221 12 ls (vi y :: vi x :: st) h Q ↔ (if x = y then Ev X 221 67 ls st h Q else Ev X 221 13 ls st h Q) := R_iceq rfl
theorem e_221_13 : Ev X 221 13 ls st h Q ↔ Ev X 221 14 ls (vi 24 :: st) h Q := R_kc rfl (Or.inr (Or.inl ⟨rfl, by decide⟩))
theorem e_221_14 : Ev X 221 14 ls st h Q ↔ Ev X 221 15 ls (vi 4 :: st) h Q := R_kc rfl (Or.inl ⟨Or.inl rfl, by decide⟩)
theorem e_221_15 : Ev X 221 15 ls st h Q ↔ onR (gl ls 0) (fun z => Ev X 221 16 ls (vr z :: st) h Q) := R_al rfl (Or.inl rfl)
theorem e_221_16 {x : Nat} : Ev X 221 16 ls (vr x :: st) h Q ↔ (X.1 x = 12 ∧ Ev X 221 17 ls (vr (X.2.2.1 x 6) :: st) h Q) := R_gr rfl
theorem e_221_17 : Ev X 221 17 ls st h Q ↔ onI (gl ls 3) (fun z => Ev X 221 18 ls (vi z :: st) h Q) := R_il rfl (Or.inl rfl)
theorem e_221_18 : Ev X 221 18 ls st h Q ↔ Ev X 221 19 ls (vi 1 :: st) h Q := R_kc rfl (Or.inl ⟨Or.inl rfl, by decide⟩)
theorem e_221_19 {x y : Int} : Ev X 221 19 ls (vi y :: vi x :: st) h Q ↔ ((inR (x + y)) ∧ Ev X 221 20 ls (vi (x + y) :: st) h Q) := R_add rfl
theorem e_221_20 {x : Nat} {j : Int} : Ev X 221 20 ls (vi j :: vr x :: st) h Q ↔ (((X.1 x = 13 ∨ X.1 x = 20) ∧ 0 ≤ j ∧ j < X.2.1 x) ∧ Ev X 221 21 ls (vi (h.1 x j.toNat) :: st) h Q) := R_ia rfl
theorem e_221_21 {x y : Int} : Ev X 221 21 ls (vi y :: vi x :: st) h Q ↔ ((inR (x * y)) ∧ Ev X 221 22 ls (vi (x * y) :: st) h Q) := R_mul rfl
theorem e_221_22 {x y : Int} : Ev X 221 22 ls (vi y :: vi x :: st) h Q ↔ ((inR (x + y)) ∧ Ev X 221 23 ls (vi (x + y) :: st) h Q) := R_add rfl
theorem e_221_23 {x : Int} : Ev X 221 23 ls (vi x :: st) h Q ↔ (stOK ls 5 = true ∧ Ev X 221 24 (ls.set 5 (some (vi x))) st h Q) := R_is rfl (Or.inr rfl)
theorem e_221_24 : Ev X 221 24 ls st h Q ↔ onR (gl ls 0) (fun z => Ev X 221 25 ls (vr z :: st) h Q) := R_al rfl (Or.inl rfl)
theorem e_221_25 {x : Nat} : Ev X 221 25 ls (vr x :: st) h Q ↔ (X.1 x = 12 ∧ Ev X 221 26 ls (vr (X.2.2.1 x 6) :: st) h Q) := R_gr rfl
theorem e_221_26 : Ev X 221 26 ls st h Q ↔ onI (gl ls 5) (fun z => Ev X 221 27 ls (vi z :: st) h Q) := R_il rfl (Or.inr rfl)
theorem e_221_27 : Ev X 221 27 ls st h Q ↔ Ev X 221 28 ls (vi 3 :: st) h Q := R_kc rfl (Or.inl ⟨Or.inl rfl, by decide⟩)
theorem e_221_28 {x y : Int} : Ev X 221 28 ls (vi y :: vi x :: st) h Q ↔ ((inR (x + y)) ∧ Ev X 221 29 ls (vi (x + y) :: st) h Q) := R_add rfl
theorem e_221_29 {x : Nat} {j : Int} : Ev X 221 29 ls (vi j :: vr x :: st) h Q ↔ (((X.1 x = 13 ∨ X.1 x = 20) ∧ 0 ≤ j ∧ j < X.2.1 x) ∧ Ev X 221 30 ls (vi (h.1 x j.toNat) :: st) h Q) := R_ia rfl
theorem e_221_30 : Ev X 221 30 ls st h Q ↔ onR (gl ls 0) (fun z => Ev X 221 31 ls (vr z :: st) h Q) := R_al rfl (Or.inl rfl)
theorem e_221_31 {x : Nat} : Ev X 221 31 ls (vr x :: st) h Q ↔ (X.1 x = 12 ∧ Ev X 221 32 ls (vr (X.2.2.1 x 6) :: st) h Q) := R_gr rfl
theorem e_221_32 : Ev X 221 32 ls st h Q ↔ onI (gl ls 3) (fun z => Ev X 221 33 ls (vi z :: st) h Q) := R_il rfl (Or.inl rfl)
theorem e_221_33 {x : Nat} {j : Int} : Ev X 221 33 ls (vi j :: vr x :: st) h Q ↔ (((X.1 x = 13 ∨ X.1 x = 20) ∧ 0 ≤ j ∧ j < X.2.1 x) ∧ Ev X 221 34 ls (vi (h.1 x j.toNat) :: st) h Q) := R_ia rfl
theorem e_221_34 {x y : Int} : Ev X 221 34 ls (vi y :: vi x :: st) h Q ↔ ((inR (x - y)) ∧ Ev X 221 35 ls (vi (x - y) :: st) h Q) := R_sub rfl
theorem e_221_35 : Ev X 221 35 ls st h Q ↔ Ev X 221 36 ls (vi 1 :: st) h Q := R_kc rfl (Or.inl ⟨Or.inl rfl, by decide⟩)
theorem e_221_36 {x y : Int} : Ev X 221 36 ls (vi y :: vi x :: st) h Q ↔ ((inR (x + y)) ∧ Ev X 221 37 ls (vi (x + y) :: st) h Q) := R_add rfl
theorem e_221_37 {x : Int} : Ev X 221 37 ls (vi x :: st) h Q ↔ (stOK ls 6 = true ∧ Ev X 221 38 (ls.set 6 (some (vi x))) st h Q) := R_is rfl (Or.inr rfl)
theorem e_221_38 : Ev X 221 38 ls st h Q ↔ onI (gl ls 4) (fun z => Ev X 221 39 ls (vi z :: st) h Q) := R_il rfl (Or.inr rfl)
theorem e_221_39 : Ev X 221 39 ls st h Q ↔ Ev X 221 40 ls (vi 16 :: st) h Q := R_kc rfl (Or.inr (Or.inl ⟨rfl, by decide⟩))
theorem e_221_40 : Ev X 221 40 ls st h Q ↔ onR (gl ls 0) (fun z => Ev X 221 41 ls (vr z :: st) h Q) := R_al rfl (Or.inl rfl)
theorem e_221_41 {x : Nat} : Ev X 221 41 ls (vr x :: st) h Q ↔ (X.1 x = 12 ∧ Ev X 221 42 ls (vr (X.2.2.1 x 6) :: st) h Q) := R_gr rfl
theorem e_221_42 : Ev X 221 42 ls st h Q ↔ onI (gl ls 5) (fun z => Ev X 221 43 ls (vi z :: st) h Q) := R_il rfl (Or.inr rfl)
theorem e_221_43 : Ev X 221 43 ls st h Q ↔ Ev X 221 44 ls (vi 2 :: st) h Q := R_kc rfl (Or.inl ⟨Or.inl rfl, by decide⟩)
theorem e_221_44 {x y : Int} : Ev X 221 44 ls (vi y :: vi x :: st) h Q ↔ ((inR (x + y)) ∧ Ev X 221 45 ls (vi (x + y) :: st) h Q) := R_add rfl
theorem e_221_45 {x : Nat} {j : Int} : Ev X 221 45 ls (vi j :: vr x :: st) h Q ↔ (((X.1 x = 13 ∨ X.1 x = 20) ∧ 0 ≤ j ∧ j < X.2.1 x) ∧ Ev X 221 46 ls (vi (h.1 x j.toNat) :: st) h Q) := R_ia rfl
theorem e_221_46 {x y : Int} : Ev X 221 46 ls (vi y :: vi x :: st) h Q ↔ ((inR (x * y)) ∧ Ev X 221 47 ls (vi (x * y) :: st) h Q) := R_mul rfl
theorem e_221_47 : Ev X 221 47 ls st h Q ↔ Ev X 221 48 ls (vi 16 :: st) h Q := R_kc rfl (Or.inr (Or.inl ⟨rfl, by decide⟩))
theorem e_221_48 : Ev X 221 48 ls st h Q ↔ onI (gl ls 6) (fun z => Ev X 221 49 ls (vi z :: st) h Q) := R_il rfl (Or.inr rfl)
theorem e_221_49 : Ev X 221 49 ls st h Q ↔ onR (gl ls 0) (fun z => Ev X 221 50 ls (vr z :: st) h Q) := R_al rfl (Or.inl rfl)
theorem e_221_50 {x : Nat} : Ev X 221 50 ls (vr x :: st) h Q ↔ (X.1 x = 12 ∧ Ev X 221 51 ls (vr (X.2.2.1 x 6) :: st) h Q) := R_gr rfl
theorem e_221_51 : Ev X 221 51 ls st h Q ↔ onI (gl ls 5) (fun z => Ev X 221 52 ls (vi z :: st) h Q) := R_il rfl (Or.inr rfl)
theorem e_221_52 : Ev X 221 52 ls st h Q ↔ Ev X 221 53 ls (vi 2 :: st) h Q := R_kc rfl (Or.inl ⟨Or.inl rfl, by decide⟩)
theorem e_221_53 {x y : Int} : Ev X 221 53 ls (vi y :: vi x :: st) h Q ↔ ((inR (x + y)) ∧ Ev X 221 54 ls (vi (x + y) :: st) h Q) := R_add rfl
theorem e_221_54 {x : Nat} {j : Int} : Ev X 221 54 ls (vi j :: vr x :: st) h Q ↔ (((X.1 x = 13 ∨ X.1 x = 20) ∧ 0 ≤ j ∧ j < X.2.1 x) ∧ Ev X 221 55 ls (vi (h.1 x j.toNat) :: st) h Q) := R_ia rfl
theorem e_221_55 {x y : Int} : Ev X 221 55 ls (vi y :: vi x :: st) h Q ↔ (if y ≤ x then Ev X 221 63 ls st h Q else Ev X 221 56 ls st h Q) := R_icge rfl
theorem e_221_56 : Ev X 221 56 ls st h Q ↔ onR (gl ls 0) (fun z => Ev X 221 57 ls (vr z :: st) h Q) := R_al rfl (Or.inl rfl)
theorem e_221_57 {x : Nat} : Ev X 221 57 ls (vr x :: st) h Q ↔ (X.1 x = 12 ∧ Ev X 221 58 ls (vr (X.2.2.1 x 6) :: st) h Q) := R_gr rfl
theorem e_221_58 : Ev X 221 58 ls st h Q ↔ onI (gl ls 5) (fun z => Ev X 221 59 ls (vi z :: st) h Q) := R_il rfl (Or.inr rfl)
theorem e_221_59 : Ev X 221 59 ls st h Q ↔ Ev X 221 60 ls (vi 2 :: st) h Q := R_kc rfl (Or.inl ⟨Or.inl rfl, by decide⟩)
theorem e_221_60 {x y : Int} : Ev X 221 60 ls (vi y :: vi x :: st) h Q ↔ ((inR (x + y)) ∧ Ev X 221 61 ls (vi (x + y) :: st) h Q) := R_add rfl
theorem e_221_61 {x : Nat} {j : Int} : Ev X 221 61 ls (vi j :: vr x :: st) h Q ↔ (((X.1 x = 13 ∨ X.1 x = 20) ∧ 0 ≤ j ∧ j < X.2.1 x) ∧ Ev X 221 62 ls (vi (h.1 x j.toNat) :: st) h Q) := R_ia rfl
theorem e_221_62 : Ev X 221 62 ls st h Q ↔ Ev X 221 64 ls st h Q := R_go rfl
theorem e_221_63 : Ev X 221 63 ls st h Q ↔ onI (gl ls 6) (fun z => Ev X 221 64 ls (vi z :: st) h Q) := R_il rfl (Or.inr rfl)
theorem e_221_64 {x y : Int} : Ev X 221 64 ls (vi y :: vi x :: st) h Q ↔ ((inR (x * y)) ∧ Ev X 221 65 ls (vi (x * y) :: st) h Q) := R_mul rfl
theorem e_221_65 {rest : List xV} {a0 : Int} {a1 : Int} {a2 : Int} : Ev X 221 65 ls ((vi a2) :: (vi a1) :: (vi a0) :: rest) h Q ↔ (wd rest ≤ 8 ∧ Cl X 151 [vi a0, vi a1, vi a2] h (fun r h2 => Ev X 221 66 ls (r.toList ++ rest) h2 Q)) := R_cs (as := [vi a0, vi a1, vi a2]) (k2 := 151) rfl rfl (Nat.le_of_ble_eq_true rfl)
theorem e_221_66 {x : Int} : Ev X 221 66 ls (vi x :: st) h Q ↔ (stOK ls 4 = true ∧ Ev X 221 67 (ls.set 4 (some (vi x))) st h Q) := R_is rfl (Or.inr rfl)
theorem e_221_67 : Ev X 221 67 ls st h Q ↔ onI (gl ls 4) (fun z => Ev X 221 68 ls (vi z :: st) h Q) := R_il rfl (Or.inr rfl)
theorem e_221_68 : Ev X 221 68 ls st h Q ↔ Ev X 221 69 ls (vi 0 :: st) h Q := R_kc rfl (Or.inl ⟨Or.inl rfl, by decide⟩)
theorem e_221_69 : Ev X 221 69 ls st h Q ↔ Ev X 221 70 ls (vi 16 :: st) h Q := R_kc rfl (Or.inr (Or.inl ⟨rfl, by decide⟩))
theorem e_221_70 : Ev X 221 70 ls st h Q ↔ onR (gl ls 0) (fun z => Ev X 221 71 ls (vr z :: st) h Q) := R_al rfl (Or.inl rfl)
theorem e_221_71 {x : Nat} : Ev X 221 71 ls (vr x :: st) h Q ↔ (X.1 x = 12 ∧ Ev X 221 72 ls (vi (h.2 x 3) :: st) h Q) := R_gi rfl
theorem e_221_72 : Ev X 221 72 ls st h Q ↔ onR (gl ls 0) (fun z => Ev X 221 73 ls (vr z :: st) h Q) := R_al rfl (Or.inl rfl)
theorem e_221_73 {x : Nat} : Ev X 221 73 ls (vr x :: st) h Q ↔ (X.1 x = 12 ∧ Ev X 221 74 ls (vr (X.2.2.1 x 6) :: st) h Q) := R_gr rfl
theorem e_221_74 : Ev X 221 74 ls st h Q ↔ onI (gl ls 3) (fun z => Ev X 221 75 ls (vi z :: st) h Q) := R_il rfl (Or.inl rfl)
theorem e_221_75 {x : Nat} {j : Int} : Ev X 221 75 ls (vi j :: vr x :: st) h Q ↔ (((X.1 x = 13 ∨ X.1 x = 20) ∧ 0 ≤ j ∧ j < X.2.1 x) ∧ Ev X 221 76 ls (vi (h.1 x j.toNat) :: st) h Q) := R_ia rfl
theorem e_221_76 {x y : Int} : Ev X 221 76 ls (vi y :: vi x :: st) h Q ↔ ((inR (x - y)) ∧ Ev X 221 77 ls (vi (x - y) :: st) h Q) := R_sub rfl
theorem e_221_77 {x y : Int} : Ev X 221 77 ls (vi y :: vi x :: st) h Q ↔ ((inR (x * y)) ∧ Ev X 221 78 ls (vi (x * y) :: st) h Q) := R_mul rfl
theorem e_221_78 {rest : List xV} {a0 : Int} {a1 : Int} {a2 : Int} : Ev X 221 78 ls ((vi a2) :: (vi a1) :: (vi a0) :: rest) h Q ↔ (wd rest ≤ 8 ∧ Cl X 151 [vi a0, vi a1, vi a2] h (fun r h2 => Ev X 221 79 ls (r.toList ++ rest) h2 Q)) := R_cs (as := [vi a0, vi a1, vi a2]) (k2 := 151) rfl rfl (Nat.le_of_ble_eq_true rfl)
theorem e_221_79 {z : Int} : Ev X 221 79 ls [vi z] h Q ↔ Q (some (vi z)) h := R_ir rfl
-- 222: CellRowsModel.heldY(II)I
theorem e_222_0 : Ev X 222 0 ls st h Q ↔ onI (gl ls 1) (fun z => Ev X 222 1 ls (vi z :: st) h Q) := R_il rfl (Or.inl rfl)
theorem e_222_1 {rest : List xV} {a0 : Int} : Ev X 222 1 ls ((vi a0) :: rest) h Q ↔ (wd rest ≤ 8 ∧ Cl X 158 [vi a0] h (fun r h2 => Ev X 222 2 ls (r.toList ++ rest) h2 Q)) := R_cs (as := [vi a0]) (k2 := 158) rfl rfl (Nat.le_of_ble_eq_true rfl)
theorem e_222_2 {x : Int} : Ev X 222 2 ls (vi x :: st) h Q ↔ (stOK ls 3 = true ∧ Ev X 222 3 (ls.set 3 (some (vi x))) st h Q) := R_is rfl (Or.inl rfl)
theorem e_222_3 : Ev X 222 3 ls st h Q ↔ onI (gl ls 2) (fun z => Ev X 222 4 ls (vi z :: st) h Q) := R_il rfl (Or.inl rfl)
theorem e_222_4 {x : Int} : Ev X 222 4 ls (vi x :: st) h Q ↔ (stOK ls 4 = true ∧ Ev X 222 5 (ls.set 4 (some (vi x))) st h Q) := R_is rfl (Or.inr rfl)
theorem e_222_5 : Ev X 222 5 ls st h Q ↔ onR (gl ls 0) (fun z => Ev X 222 6 ls (vr z :: st) h Q) := R_al rfl (Or.inl rfl)
theorem e_222_6 {x : Nat} : Ev X 222 6 ls (vr x :: st) h Q ↔ (X.1 x = 12 ∧ Ev X 222 7 ls (vr (X.2.2.1 x 6) :: st) h Q) := R_gr rfl
theorem e_222_7 : Ev X 222 7 ls st h Q ↔ onI (gl ls 3) (fun z => Ev X 222 8 ls (vi z :: st) h Q) := R_il rfl (Or.inl rfl)
theorem e_222_8 : Ev X 222 8 ls st h Q ↔ Ev X 222 9 ls (vi 1 :: st) h Q := R_kc rfl (Or.inl ⟨Or.inl rfl, by decide⟩)
theorem e_222_9 {x y : Int} : Ev X 222 9 ls (vi y :: vi x :: st) h Q ↔ ((inR (x + y)) ∧ Ev X 222 10 ls (vi (x + y) :: st) h Q) := R_add rfl
theorem e_222_10 {x : Nat} {j : Int} : Ev X 222 10 ls (vi j :: vr x :: st) h Q ↔ (((X.1 x = 13 ∨ X.1 x = 20) ∧ 0 ≤ j ∧ j < X.2.1 x) ∧ Ev X 222 11 ls (vi (h.1 x j.toNat) :: st) h Q) := R_ia rfl
theorem e_222_11 : Ev X 222 11 ls st h Q ↔ Ev X 222 12 ls (vi (-1) :: st) h Q := R_kc rfl (Or.inl ⟨Or.inl rfl, by decide⟩)
theorem e_222_12 {x y : Int} : Ev X 222 12 ls (vi y :: vi x :: st) h Q ↔ (if x = y then Ev X 222 41 ls st h Q else Ev X 222 13 ls st h Q) := R_iceq rfl
theorem e_222_13 : Ev X 222 13 ls st h Q ↔ Ev X 222 14 ls (vi 24 :: st) h Q := R_kc rfl (Or.inr (Or.inl ⟨rfl, by decide⟩))
theorem e_222_14 : Ev X 222 14 ls st h Q ↔ Ev X 222 15 ls (vi 4 :: st) h Q := R_kc rfl (Or.inl ⟨Or.inl rfl, by decide⟩)
theorem e_222_15 : Ev X 222 15 ls st h Q ↔ onR (gl ls 0) (fun z => Ev X 222 16 ls (vr z :: st) h Q) := R_al rfl (Or.inl rfl)
theorem e_222_16 {x : Nat} : Ev X 222 16 ls (vr x :: st) h Q ↔ (X.1 x = 12 ∧ Ev X 222 17 ls (vr (X.2.2.1 x 6) :: st) h Q) := R_gr rfl
theorem e_222_17 : Ev X 222 17 ls st h Q ↔ onI (gl ls 3) (fun z => Ev X 222 18 ls (vi z :: st) h Q) := R_il rfl (Or.inl rfl)
theorem e_222_18 : Ev X 222 18 ls st h Q ↔ Ev X 222 19 ls (vi 1 :: st) h Q := R_kc rfl (Or.inl ⟨Or.inl rfl, by decide⟩)
theorem e_222_19 {x y : Int} : Ev X 222 19 ls (vi y :: vi x :: st) h Q ↔ ((inR (x + y)) ∧ Ev X 222 20 ls (vi (x + y) :: st) h Q) := R_add rfl
theorem e_222_20 {x : Nat} {j : Int} : Ev X 222 20 ls (vi j :: vr x :: st) h Q ↔ (((X.1 x = 13 ∨ X.1 x = 20) ∧ 0 ≤ j ∧ j < X.2.1 x) ∧ Ev X 222 21 ls (vi (h.1 x j.toNat) :: st) h Q) := R_ia rfl
theorem e_222_21 {x y : Int} : Ev X 222 21 ls (vi y :: vi x :: st) h Q ↔ ((inR (x * y)) ∧ Ev X 222 22 ls (vi (x * y) :: st) h Q) := R_mul rfl
theorem e_222_22 {x y : Int} : Ev X 222 22 ls (vi y :: vi x :: st) h Q ↔ ((inR (x + y)) ∧ Ev X 222 23 ls (vi (x + y) :: st) h Q) := R_add rfl
theorem e_222_23 {x : Int} : Ev X 222 23 ls (vi x :: st) h Q ↔ (stOK ls 5 = true ∧ Ev X 222 24 (ls.set 5 (some (vi x))) st h Q) := R_is rfl (Or.inr rfl)
theorem e_222_24 : Ev X 222 24 ls st h Q ↔ onI (gl ls 4) (fun z => Ev X 222 25 ls (vi z :: st) h Q) := R_il rfl (Or.inr rfl)
theorem e_222_25 : Ev X 222 25 ls st h Q ↔ Ev X 222 26 ls (vi 16 :: st) h Q := R_kc rfl (Or.inr (Or.inl ⟨rfl, by decide⟩))
theorem e_222_26 : Ev X 222 26 ls st h Q ↔ onR (gl ls 0) (fun z => Ev X 222 27 ls (vr z :: st) h Q) := R_al rfl (Or.inl rfl)
theorem e_222_27 {x : Nat} : Ev X 222 27 ls (vr x :: st) h Q ↔ (X.1 x = 12 ∧ Ev X 222 28 ls (vr (X.2.2.1 x 6) :: st) h Q) := R_gr rfl
theorem e_222_28 : Ev X 222 28 ls st h Q ↔ onI (gl ls 5) (fun z => Ev X 222 29 ls (vi z :: st) h Q) := R_il rfl (Or.inr rfl)
theorem e_222_29 {x : Nat} {j : Int} : Ev X 222 29 ls (vi j :: vr x :: st) h Q ↔ (((X.1 x = 13 ∨ X.1 x = 20) ∧ 0 ≤ j ∧ j < X.2.1 x) ∧ Ev X 222 30 ls (vi (h.1 x j.toNat) :: st) h Q) := R_ia rfl
theorem e_222_30 {x y : Int} : Ev X 222 30 ls (vi y :: vi x :: st) h Q ↔ ((inR (x * y)) ∧ Ev X 222 31 ls (vi (x * y) :: st) h Q) := R_mul rfl
theorem e_222_31 : Ev X 222 31 ls st h Q ↔ Ev X 222 32 ls (vi 16 :: st) h Q := R_kc rfl (Or.inr (Or.inl ⟨rfl, by decide⟩))
theorem e_222_32 : Ev X 222 32 ls st h Q ↔ onR (gl ls 0) (fun z => Ev X 222 33 ls (vr z :: st) h Q) := R_al rfl (Or.inl rfl)
theorem e_222_33 {x : Nat} : Ev X 222 33 ls (vr x :: st) h Q ↔ (X.1 x = 12 ∧ Ev X 222 34 ls (vr (X.2.2.1 x 6) :: st) h Q) := R_gr rfl
theorem e_222_34 : Ev X 222 34 ls st h Q ↔ onI (gl ls 5) (fun z => Ev X 222 35 ls (vi z :: st) h Q) := R_il rfl (Or.inr rfl)
theorem e_222_35 : Ev X 222 35 ls st h Q ↔ Ev X 222 36 ls (vi 1 :: st) h Q := R_kc rfl (Or.inl ⟨Or.inl rfl, by decide⟩)
theorem e_222_36 {x y : Int} : Ev X 222 36 ls (vi y :: vi x :: st) h Q ↔ ((inR (x + y)) ∧ Ev X 222 37 ls (vi (x + y) :: st) h Q) := R_add rfl
theorem e_222_37 {x : Nat} {j : Int} : Ev X 222 37 ls (vi j :: vr x :: st) h Q ↔ (((X.1 x = 13 ∨ X.1 x = 20) ∧ 0 ≤ j ∧ j < X.2.1 x) ∧ Ev X 222 38 ls (vi (h.1 x j.toNat) :: st) h Q) := R_ia rfl
theorem e_222_38 {x y : Int} : Ev X 222 38 ls (vi y :: vi x :: st) h Q ↔ ((inR (x * y)) ∧ Ev X 222 39 ls (vi (x * y) :: st) h Q) := R_mul rfl
theorem e_222_39 {rest : List xV} {a0 : Int} {a1 : Int} {a2 : Int} : Ev X 222 39 ls ((vi a2) :: (vi a1) :: (vi a0) :: rest) h Q ↔ (wd rest ≤ 8 ∧ Cl X 151 [vi a0, vi a1, vi a2] h (fun r h2 => Ev X 222 40 ls (r.toList ++ rest) h2 Q)) := R_cs (as := [vi a0, vi a1, vi a2]) (k2 := 151) rfl rfl (Nat.le_of_ble_eq_true rfl)
theorem e_222_40 {x : Int} : Ev X 222 40 ls (vi x :: st) h Q ↔ (stOK ls 4 = true ∧ Ev X 222 41 (ls.set 4 (some (vi x))) st h Q) := R_is rfl (Or.inr rfl)
theorem e_222_41 : Ev X 222 41 ls st h Q ↔ onI (gl ls 4) (fun z => Ev X 222 42 ls (vi z :: st) h Q) := R_il rfl (Or.inr rfl)
theorem e_222_42 : Ev X 222 42 ls st h Q ↔ Ev X 222 43 ls (vi 0 :: st) h Q := R_kc rfl (Or.inl ⟨Or.inl rfl, by decide⟩)
theorem e_222_43 : Ev X 222 43 ls st h Q ↔ Ev X 222 44 ls (vi 16 :: st) h Q := R_kc rfl (Or.inr (Or.inl ⟨rfl, by decide⟩))
theorem e_222_44 : Ev X 222 44 ls st h Q ↔ onR (gl ls 0) (fun z => Ev X 222 45 ls (vr z :: st) h Q) := R_al rfl (Or.inl rfl)
theorem e_222_45 {x : Nat} : Ev X 222 45 ls (vr x :: st) h Q ↔ (X.1 x = 12 ∧ Ev X 222 46 ls (vi (h.2 x 2) :: st) h Q) := R_gi rfl
theorem e_222_46 : Ev X 222 46 ls st h Q ↔ Ev X 222 47 ls (vi 1 :: st) h Q := R_kc rfl (Or.inl ⟨Or.inl rfl, by decide⟩)
theorem e_222_47 {x y : Int} : Ev X 222 47 ls (vi y :: vi x :: st) h Q ↔ ((inR (x - y)) ∧ Ev X 222 48 ls (vi (x - y) :: st) h Q) := R_sub rfl
theorem e_222_48 {x y : Int} : Ev X 222 48 ls (vi y :: vi x :: st) h Q ↔ ((inR (x * y)) ∧ Ev X 222 49 ls (vi (x * y) :: st) h Q) := R_mul rfl
theorem e_222_49 {rest : List xV} {a0 : Int} {a1 : Int} {a2 : Int} : Ev X 222 49 ls ((vi a2) :: (vi a1) :: (vi a0) :: rest) h Q ↔ (wd rest ≤ 8 ∧ Cl X 151 [vi a0, vi a1, vi a2] h (fun r h2 => Ev X 222 50 ls (r.toList ++ rest) h2 Q)) := R_cs (as := [vi a0, vi a1, vi a2]) (k2 := 151) rfl rfl (Nat.le_of_ble_eq_true rfl)
theorem e_222_50 {z : Int} : Ev X 222 50 ls [vi z] h Q ↔ Q (some (vi z)) h := R_ir rfl
-- 223: CellRowsModel.pinOf(II)I
theorem e_223_0 : Ev X 223 0 ls st h Q ↔ Ev X 223 1 ls (vi (-1) :: st) h Q := R_kc rfl (Or.inl ⟨Or.inl rfl, by decide⟩)
theorem e_223_1 {x : Int} : Ev X 223 1 ls (vi x :: st) h Q ↔ (stOK ls 3 = true ∧ Ev X 223 2 (ls.set 3 (some (vi x))) st h Q) := R_is rfl (Or.inl rfl)
theorem e_223_2 : Ev X 223 2 ls st h Q ↔ Ev X 223 3 ls (vi 0 :: st) h Q := R_kc rfl (Or.inl ⟨Or.inl rfl, by decide⟩)
theorem e_223_3 {x : Int} : Ev X 223 3 ls (vi x :: st) h Q ↔ (stOK ls 4 = true ∧ Ev X 223 4 (ls.set 4 (some (vi x))) st h Q) := R_is rfl (Or.inr rfl)
theorem e_223_4 : Ev X 223 4 ls st h Q ↔ onI (gl ls 4) (fun z => Ev X 223 5 ls (vi z :: st) h Q) := R_il rfl (Or.inr rfl)
theorem e_223_5 : Ev X 223 5 ls st h Q ↔ onR (gl ls 0) (fun z => Ev X 223 6 ls (vr z :: st) h Q) := R_al rfl (Or.inl rfl)
theorem e_223_6 : Ev X 223 6 ls st h Q ↔ onI (gl ls 1) (fun z => Ev X 223 7 ls (vi z :: st) h Q) := R_il rfl (Or.inl rfl)
theorem e_223_7 {rest : List xV} {a0 : Int} {o : Nat} : Ev X 223 7 ls ((vi a0) :: vr o :: rest) h Q ↔ ((X.1 o = 12 ∧ wd rest ≤ 8) ∧ Cl X 197 [vr o, vi a0] h (fun r h2 => Ev X 223 8 ls (r.toList ++ rest) h2 Q)) := R_cv (x := o) (as := [vi a0]) (k2 := 197) rfl rfl (Nat.le_of_ble_eq_true rfl)
theorem e_223_8 {x y : Int} : Ev X 223 8 ls (vi y :: vi x :: st) h Q ↔ (if y ≤ x then Ev X 223 21 ls st h Q else Ev X 223 9 ls st h Q) := R_icge rfl
theorem e_223_9 : Ev X 223 9 ls st h Q ↔ onR (gl ls 0) (fun z => Ev X 223 10 ls (vr z :: st) h Q) := R_al rfl (Or.inl rfl)
theorem e_223_10 : Ev X 223 10 ls st h Q ↔ onI (gl ls 1) (fun z => Ev X 223 11 ls (vi z :: st) h Q) := R_il rfl (Or.inl rfl)
theorem e_223_11 : Ev X 223 11 ls st h Q ↔ onI (gl ls 4) (fun z => Ev X 223 12 ls (vi z :: st) h Q) := R_il rfl (Or.inr rfl)
theorem e_223_12 {rest : List xV} {a0 : Int} {a1 : Int} {o : Nat} : Ev X 223 12 ls ((vi a1) :: (vi a0) :: vr o :: rest) h Q ↔ ((X.1 o = 12 ∧ wd rest ≤ 8) ∧ Cl X 198 [vr o, vi a0, vi a1] h (fun r h2 => Ev X 223 13 ls (r.toList ++ rest) h2 Q)) := R_cv (x := o) (as := [vi a0, vi a1]) (k2 := 198) rfl rfl (Nat.le_of_ble_eq_true rfl)
theorem e_223_13 : Ev X 223 13 ls st h Q ↔ onI (gl ls 2) (fun z => Ev X 223 14 ls (vi z :: st) h Q) := R_il rfl (Or.inl rfl)
theorem e_223_14 {x y : Int} : Ev X 223 14 ls (vi y :: vi x :: st) h Q ↔ (if ¬ x = y then Ev X 223 17 ls st h Q else Ev X 223 15 ls st h Q) := R_icne rfl
theorem e_223_15 : Ev X 223 15 ls st h Q ↔ onI (gl ls 4) (fun z => Ev X 223 16 ls (vi z :: st) h Q) := R_il rfl (Or.inr rfl)
theorem e_223_16 : Ev X 223 16 ls st h Q ↔ Ev X 223 18 ls st h Q := R_go rfl
theorem e_223_17 : Ev X 223 17 ls st h Q ↔ onI (gl ls 3) (fun z => Ev X 223 18 ls (vi z :: st) h Q) := R_il rfl (Or.inl rfl)
theorem e_223_18 {x : Int} : Ev X 223 18 ls (vi x :: st) h Q ↔ (stOK ls 3 = true ∧ Ev X 223 19 (ls.set 3 (some (vi x))) st h Q) := R_is rfl (Or.inl rfl)
theorem e_223_19 : Ev X 223 19 ls st h Q ↔ onI (gl ls 4) (fun x => (stOK ls 4 = true ∧ inR (x + 1)) ∧ Ev X 223 20 (ls.set 4 (some (vi (x + 1)))) st h Q) := R_inc rfl
theorem e_223_20 : Ev X 223 20 ls st h Q ↔ Ev X 223 4 ls st h Q := R_go rfl
theorem e_223_21 : Ev X 223 21 ls st h Q ↔ onI (gl ls 3) (fun z => Ev X 223 22 ls (vi z :: st) h Q) := R_il rfl (Or.inl rfl)
theorem e_223_22 {z : Int} : Ev X 223 22 ls [vi z] h Q ↔ Q (some (vi z)) h := R_ir rfl
-- 224: CellRowsModel.startCell(I)V
theorem e_224_0 : Ev X 224 0 ls st h Q ↔ Ev X 224 1 ls (vi 0 :: st) h Q := R_kc rfl (Or.inl ⟨Or.inl rfl, by decide⟩)
theorem e_224_1 {x : Int} : Ev X 224 1 ls (vi x :: st) h Q ↔ (stOK ls 2 = true ∧ Ev X 224 2 (ls.set 2 (some (vi x))) st h Q) := R_is rfl (Or.inl rfl)
theorem e_224_2 : Ev X 224 2 ls st h Q ↔ Ev X 224 3 ls (vi 0 :: st) h Q := R_kc rfl (Or.inl ⟨Or.inl rfl, by decide⟩)
theorem e_224_3 {x : Int} : Ev X 224 3 ls (vi x :: st) h Q ↔ (stOK ls 3 = true ∧ Ev X 224 4 (ls.set 3 (some (vi x))) st h Q) := R_is rfl (Or.inl rfl)
theorem e_224_4 : Ev X 224 4 ls st h Q ↔ Ev X 224 5 ls (vi 0 :: st) h Q := R_kc rfl (Or.inl ⟨Or.inl rfl, by decide⟩)
theorem e_224_5 {x : Int} : Ev X 224 5 ls (vi x :: st) h Q ↔ (stOK ls 4 = true ∧ Ev X 224 6 (ls.set 4 (some (vi x))) st h Q) := R_is rfl (Or.inr rfl)
theorem e_224_6 : Ev X 224 6 ls st h Q ↔ Ev X 224 7 ls (vi 0 :: st) h Q := R_kc rfl (Or.inl ⟨Or.inl rfl, by decide⟩)
theorem e_224_7 {x : Int} : Ev X 224 7 ls (vi x :: st) h Q ↔ (stOK ls 5 = true ∧ Ev X 224 8 (ls.set 5 (some (vi x))) st h Q) := R_is rfl (Or.inr rfl)
theorem e_224_8 : Ev X 224 8 ls st h Q ↔ onI (gl ls 5) (fun z => Ev X 224 9 ls (vi z :: st) h Q) := R_il rfl (Or.inr rfl)
theorem e_224_9 : Ev X 224 9 ls st h Q ↔ onR (gl ls 0) (fun z => Ev X 224 10 ls (vr z :: st) h Q) := R_al rfl (Or.inl rfl)
theorem e_224_10 {x : Nat} : Ev X 224 10 ls (vr x :: st) h Q ↔ (X.1 x = 12 ∧ Ev X 224 11 ls (vr (X.2.2.1 x 6) :: st) h Q) := R_gr rfl
theorem e_224_11 : Ev X 224 11 ls st h Q ↔ Ev X 224 12 ls (vi 3 :: st) h Q := R_kc rfl (Or.inl ⟨Or.inl rfl, by decide⟩)
theorem e_224_12 {x : Nat} {j : Int} : Ev X 224 12 ls (vi j :: vr x :: st) h Q ↔ (((X.1 x = 13 ∨ X.1 x = 20) ∧ 0 ≤ j ∧ j < X.2.1 x) ∧ Ev X 224 13 ls (vi (h.1 x j.toNat) :: st) h Q) := R_ia rfl
theorem e_224_13 {x y : Int} : Ev X 224 13 ls (vi y :: vi x :: st) h Q ↔ (if y ≤ x then Ev X 224 83 ls st h Q else Ev X 224 14 ls st h Q) := R_icge rfl
theorem e_224_14 : Ev X 224 14 ls st h Q ↔ onR (gl ls 0) (fun z => Ev X 224 15 ls (vr z :: st) h Q) := R_al rfl (Or.inl rfl)
theorem e_224_15 : Ev X 224 15 ls st h Q ↔ onI (gl ls 5) (fun z => Ev X 224 16 ls (vi z :: st) h Q) := R_il rfl (Or.inr rfl)
theorem e_224_16 : Ev X 224 16 ls st h Q ↔ onI (gl ls 1) (fun z => Ev X 224 17 ls (vi z :: st) h Q) := R_il rfl (Or.inl rfl)
theorem e_224_17 {rest : List xV} {a0 : Int} {a1 : Int} {o : Nat} : Ev X 224 17 ls ((vi a1) :: (vi a0) :: vr o :: rest) h Q ↔ ((X.1 o = 12 ∧ wd rest ≤ 8) ∧ Cl X 223 [vr o, vi a0, vi a1] h (fun r h2 => Ev X 224 18 ls (r.toList ++ rest) h2 Q)) := R_cv (x := o) (as := [vi a0, vi a1]) (k2 := 223) rfl rfl (Nat.le_of_ble_eq_true rfl)
theorem e_224_18 {x : Int} : Ev X 224 18 ls (vi x :: st) h Q ↔ (stOK ls 6 = true ∧ Ev X 224 19 (ls.set 6 (some (vi x))) st h Q) := R_is rfl (Or.inr rfl)
theorem e_224_19 : Ev X 224 19 ls st h Q ↔ Ev X 224 20 ls (vi 0 :: st) h Q := R_kc rfl (Or.inl ⟨Or.inl rfl, by decide⟩)
theorem e_224_20 {x : Int} : Ev X 224 20 ls (vi x :: st) h Q ↔ (stOK ls 7 = true ∧ Ev X 224 21 (ls.set 7 (some (vi x))) st h Q) := R_is rfl (Or.inr rfl)
theorem e_224_21 : Ev X 224 21 ls st h Q ↔ onI (gl ls 7) (fun z => Ev X 224 22 ls (vi z :: st) h Q) := R_il rfl (Or.inr rfl)
theorem e_224_22 : Ev X 224 22 ls st h Q ↔ onR (gl ls 0) (fun z => Ev X 224 23 ls (vr z :: st) h Q) := R_al rfl (Or.inl rfl)
theorem e_224_23 : Ev X 224 23 ls st h Q ↔ onI (gl ls 5) (fun z => Ev X 224 24 ls (vi z :: st) h Q) := R_il rfl (Or.inr rfl)
theorem e_224_24 {rest : List xV} {a0 : Int} {o : Nat} : Ev X 224 24 ls ((vi a0) :: vr o :: rest) h Q ↔ ((X.1 o = 12 ∧ wd rest ≤ 8) ∧ Cl X 197 [vr o, vi a0] h (fun r h2 => Ev X 224 25 ls (r.toList ++ rest) h2 Q)) := R_cv (x := o) (as := [vi a0]) (k2 := 197) rfl rfl (Nat.le_of_ble_eq_true rfl)
theorem e_224_25 {x y : Int} : Ev X 224 25 ls (vi y :: vi x :: st) h Q ↔ (if y ≤ x then Ev X 224 81 ls st h Q else Ev X 224 26 ls st h Q) := R_icge rfl
theorem e_224_26 : Ev X 224 26 ls st h Q ↔ onI (gl ls 6) (fun z => Ev X 224 27 ls (vi z :: st) h Q) := R_il rfl (Or.inr rfl)
theorem e_224_27 : Ev X 224 27 ls st h Q ↔ Ev X 224 28 ls (vi (-1) :: st) h Q := R_kc rfl (Or.inl ⟨Or.inl rfl, by decide⟩)
theorem e_224_28 {x y : Int} : Ev X 224 28 ls (vi y :: vi x :: st) h Q ↔ (if x = y then Ev X 224 81 ls st h Q else Ev X 224 29 ls st h Q) := R_iceq rfl
theorem e_224_29 : Ev X 224 29 ls st h Q ↔ onI (gl ls 7) (fun z => Ev X 224 30 ls (vi z :: st) h Q) := R_il rfl (Or.inr rfl)
theorem e_224_30 : Ev X 224 30 ls st h Q ↔ onI (gl ls 6) (fun z => Ev X 224 31 ls (vi z :: st) h Q) := R_il rfl (Or.inr rfl)
theorem e_224_31 {x y : Int} : Ev X 224 31 ls (vi y :: vi x :: st) h Q ↔ (if x = y then Ev X 224 79 ls st h Q else Ev X 224 32 ls st h Q) := R_iceq rfl
theorem e_224_32 : Ev X 224 32 ls st h Q ↔ onI (gl ls 2) (fun z => Ev X 224 33 ls (vi z :: st) h Q) := R_il rfl (Or.inl rfl)
theorem e_224_33 : Ev X 224 33 ls st h Q ↔ onR (gl ls 0) (fun z => Ev X 224 34 ls (vr z :: st) h Q) := R_al rfl (Or.inl rfl)
theorem e_224_34 {x : Nat} : Ev X 224 34 ls (vr x :: st) h Q ↔ (X.1 x = 12 ∧ Ev X 224 35 ls (vr (X.2.2.1 x 6) :: st) h Q) := R_gr rfl
theorem e_224_35 : Ev X 224 35 ls st h Q ↔ onI (gl ls 5) (fun z => Ev X 224 36 ls (vi z :: st) h Q) := R_il rfl (Or.inr rfl)
theorem e_224_36 {rest : List xV} {a0 : Int} : Ev X 224 36 ls ((vi a0) :: rest) h Q ↔ (wd rest ≤ 8 ∧ Cl X 159 [vi a0] h (fun r h2 => Ev X 224 37 ls (r.toList ++ rest) h2 Q)) := R_cs (as := [vi a0]) (k2 := 159) rfl rfl (Nat.le_of_ble_eq_true rfl)
theorem e_224_37 {x : Nat} {j : Int} : Ev X 224 37 ls (vi j :: vr x :: st) h Q ↔ (((X.1 x = 13 ∨ X.1 x = 20) ∧ 0 ≤ j ∧ j < X.2.1 x) ∧ Ev X 224 38 ls (vi (h.1 x j.toNat) :: st) h Q) := R_ia rfl
theorem e_224_38 : Ev X 224 38 ls st h Q ↔ onR (gl ls 0) (fun z => Ev X 224 39 ls (vr z :: st) h Q) := R_al rfl (Or.inl rfl)
theorem e_224_39 : Ev X 224 39 ls st h Q ↔ onI (gl ls 5) (fun z => Ev X 224 40 ls (vi z :: st) h Q) := R_il rfl (Or.inr rfl)
theorem e_224_40 : Ev X 224 40 ls st h Q ↔ onI (gl ls 7) (fun z => Ev X 224 41 ls (vi z :: st) h Q) := R_il rfl (Or.inr rfl)
theorem e_224_41 : Ev X 224 41 ls st h Q ↔ Ev X 224 42 ls (vi 0 :: st) h Q := R_kc rfl (Or.inl ⟨Or.inl rfl, by decide⟩)
theorem e_224_42 {rest : List xV} {a0 : Int} {a1 : Int} {a2 : Int} {o : Nat} : Ev X 224 42 ls ((vi a2) :: (vi a1) :: (vi a0) :: vr o :: rest) h Q ↔ ((X.1 o = 12 ∧ wd rest ≤ 8) ∧ Cl X 200 [vr o, vi a0, vi a1, vi a2] h (fun r h2 => Ev X 224 43 ls (r.toList ++ rest) h2 Q)) := R_cv (x := o) (as := [vi a0, vi a1, vi a2]) (k2 := 200) rfl rfl (Nat.le_of_ble_eq_true rfl)
theorem e_224_43 : Ev X 224 43 ls st h Q ↔ Ev X 224 44 ls (vi 16 :: st) h Q := R_kc rfl (Or.inr (Or.inl ⟨rfl, by decide⟩))
theorem e_224_44 : Ev X 224 44 ls st h Q ↔ onR (gl ls 0) (fun z => Ev X 224 45 ls (vr z :: st) h Q) := R_al rfl (Or.inl rfl)
theorem e_224_45 : Ev X 224 45 ls st h Q ↔ onI (gl ls 5) (fun z => Ev X 224 46 ls (vi z :: st) h Q) := R_il rfl (Or.inr rfl)
theorem e_224_46 : Ev X 224 46 ls st h Q ↔ onI (gl ls 6) (fun z => Ev X 224 47 ls (vi z :: st) h Q) := R_il rfl (Or.inr rfl)
theorem e_224_47 {rest : List xV} {a0 : Int} {a1 : Int} {o : Nat} : Ev X 224 47 ls ((vi a1) :: (vi a0) :: vr o :: rest) h Q ↔ ((X.1 o = 12 ∧ wd rest ≤ 8) ∧ Cl X 199 [vr o, vi a0, vi a1] h (fun r h2 => Ev X 224 48 ls (r.toList ++ rest) h2 Q)) := R_cv (x := o) (as := [vi a0, vi a1]) (k2 := 199) rfl rfl (Nat.le_of_ble_eq_true rfl)
theorem e_224_48 {x y : Int} : Ev X 224 48 ls (vi y :: vi x :: st) h Q ↔ ((inR (x * y)) ∧ Ev X 224 49 ls (vi (x * y) :: st) h Q) := R_mul rfl
theorem e_224_49 {x y : Int} : Ev X 224 49 ls (vi y :: vi x :: st) h Q ↔ ((inR (x - y)) ∧ Ev X 224 50 ls (vi (x - y) :: st) h Q) := R_sub rfl
theorem e_224_50 : Ev X 224 50 ls st h Q ↔ Ev X 224 51 ls (vi 8 :: st) h Q := R_kc rfl (Or.inr (Or.inl ⟨rfl, by decide⟩))
theorem e_224_51 {x y : Int} : Ev X 224 51 ls (vi y :: vi x :: st) h Q ↔ ((inR (x - y)) ∧ Ev X 224 52 ls (vi (x - y) :: st) h Q) := R_sub rfl
theorem e_224_52 {x y : Int} : Ev X 224 52 ls (vi y :: vi x :: st) h Q ↔ ((inR (x * y)) ∧ Ev X 224 53 ls (vi (x * y) :: st) h Q) := R_mul rfl
theorem e_224_53 {x y : Int} : Ev X 224 53 ls (vi y :: vi x :: st) h Q ↔ ((inR (x + y)) ∧ Ev X 224 54 ls (vi (x + y) :: st) h Q) := R_add rfl
theorem e_224_54 {x : Int} : Ev X 224 54 ls (vi x :: st) h Q ↔ (stOK ls 2 = true ∧ Ev X 224 55 (ls.set 2 (some (vi x))) st h Q) := R_is rfl (Or.inl rfl)
theorem e_224_55 : Ev X 224 55 ls st h Q ↔ onI (gl ls 3) (fun z => Ev X 224 56 ls (vi z :: st) h Q) := R_il rfl (Or.inl rfl)
theorem e_224_56 : Ev X 224 56 ls st h Q ↔ onR (gl ls 0) (fun z => Ev X 224 57 ls (vr z :: st) h Q) := R_al rfl (Or.inl rfl)
theorem e_224_57 {x : Nat} : Ev X 224 57 ls (vr x :: st) h Q ↔ (X.1 x = 12 ∧ Ev X 224 58 ls (vr (X.2.2.1 x 6) :: st) h Q) := R_gr rfl
theorem e_224_58 : Ev X 224 58 ls st h Q ↔ onI (gl ls 5) (fun z => Ev X 224 59 ls (vi z :: st) h Q) := R_il rfl (Or.inr rfl)
theorem e_224_59 {rest : List xV} {a0 : Int} : Ev X 224 59 ls ((vi a0) :: rest) h Q ↔ (wd rest ≤ 8 ∧ Cl X 159 [vi a0] h (fun r h2 => Ev X 224 60 ls (r.toList ++ rest) h2 Q)) := R_cs (as := [vi a0]) (k2 := 159) rfl rfl (Nat.le_of_ble_eq_true rfl)
theorem e_224_60 {x : Nat} {j : Int} : Ev X 224 60 ls (vi j :: vr x :: st) h Q ↔ (((X.1 x = 13 ∨ X.1 x = 20) ∧ 0 ≤ j ∧ j < X.2.1 x) ∧ Ev X 224 61 ls (vi (h.1 x j.toNat) :: st) h Q) := R_ia rfl
theorem e_224_61 : Ev X 224 61 ls st h Q ↔ onR (gl ls 0) (fun z => Ev X 224 62 ls (vr z :: st) h Q) := R_al rfl (Or.inl rfl)
theorem e_224_62 : Ev X 224 62 ls st h Q ↔ onI (gl ls 5) (fun z => Ev X 224 63 ls (vi z :: st) h Q) := R_il rfl (Or.inr rfl)
theorem e_224_63 : Ev X 224 63 ls st h Q ↔ onI (gl ls 7) (fun z => Ev X 224 64 ls (vi z :: st) h Q) := R_il rfl (Or.inr rfl)
theorem e_224_64 : Ev X 224 64 ls st h Q ↔ Ev X 224 65 ls (vi 0 :: st) h Q := R_kc rfl (Or.inl ⟨Or.inl rfl, by decide⟩)
theorem e_224_65 {rest : List xV} {a0 : Int} {a1 : Int} {a2 : Int} {o : Nat} : Ev X 224 65 ls ((vi a2) :: (vi a1) :: (vi a0) :: vr o :: rest) h Q ↔ ((X.1 o = 12 ∧ wd rest ≤ 8) ∧ Cl X 201 [vr o, vi a0, vi a1, vi a2] h (fun r h2 => Ev X 224 66 ls (r.toList ++ rest) h2 Q)) := R_cv (x := o) (as := [vi a0, vi a1, vi a2]) (k2 := 201) rfl rfl (Nat.le_of_ble_eq_true rfl)
theorem e_224_66 : Ev X 224 66 ls st h Q ↔ Ev X 224 67 ls (vi 8 :: st) h Q := R_kc rfl (Or.inr (Or.inl ⟨rfl, by decide⟩))
theorem e_224_67 {x y : Int} : Ev X 224 67 ls (vi y :: vi x :: st) h Q ↔ ((inR (x - y)) ∧ Ev X 224 68 ls (vi (x - y) :: st) h Q) := R_sub rfl
theorem e_224_68 {x y : Int} : Ev X 224 68 ls (vi y :: vi x :: st) h Q ↔ ((inR (x * y)) ∧ Ev X 224 69 ls (vi (x * y) :: st) h Q) := R_mul rfl
theorem e_224_69 {x y : Int} : Ev X 224 69 ls (vi y :: vi x :: st) h Q ↔ ((inR (x + y)) ∧ Ev X 224 70 ls (vi (x + y) :: st) h Q) := R_add rfl
theorem e_224_70 {x : Int} : Ev X 224 70 ls (vi x :: st) h Q ↔ (stOK ls 3 = true ∧ Ev X 224 71 (ls.set 3 (some (vi x))) st h Q) := R_is rfl (Or.inl rfl)
theorem e_224_71 : Ev X 224 71 ls st h Q ↔ onI (gl ls 4) (fun z => Ev X 224 72 ls (vi z :: st) h Q) := R_il rfl (Or.inr rfl)
theorem e_224_72 : Ev X 224 72 ls st h Q ↔ onR (gl ls 0) (fun z => Ev X 224 73 ls (vr z :: st) h Q) := R_al rfl (Or.inl rfl)
theorem e_224_73 {x : Nat} : Ev X 224 73 ls (vr x :: st) h Q ↔ (X.1 x = 12 ∧ Ev X 224 74 ls (vr (X.2.2.1 x 6) :: st) h Q) := R_gr rfl
theorem e_224_74 : Ev X 224 74 ls st h Q ↔ onI (gl ls 5) (fun z => Ev X 224 75 ls (vi z :: st) h Q) := R_il rfl (Or.inr rfl)
theorem e_224_75 {rest : List xV} {a0 : Int} : Ev X 224 75 ls ((vi a0) :: rest) h Q ↔ (wd rest ≤ 8 ∧ Cl X 159 [vi a0] h (fun r h2 => Ev X 224 76 ls (r.toList ++ rest) h2 Q)) := R_cs (as := [vi a0]) (k2 := 159) rfl rfl (Nat.le_of_ble_eq_true rfl)
theorem e_224_76 {x : Nat} {j : Int} : Ev X 224 76 ls (vi j :: vr x :: st) h Q ↔ (((X.1 x = 13 ∨ X.1 x = 20) ∧ 0 ≤ j ∧ j < X.2.1 x) ∧ Ev X 224 77 ls (vi (h.1 x j.toNat) :: st) h Q) := R_ia rfl
theorem e_224_77 {x y : Int} : Ev X 224 77 ls (vi y :: vi x :: st) h Q ↔ ((inR (x + y)) ∧ Ev X 224 78 ls (vi (x + y) :: st) h Q) := R_add rfl
theorem e_224_78 {x : Int} : Ev X 224 78 ls (vi x :: st) h Q ↔ (stOK ls 4 = true ∧ Ev X 224 79 (ls.set 4 (some (vi x))) st h Q) := R_is rfl (Or.inr rfl)
theorem e_224_79 : Ev X 224 79 ls st h Q ↔ onI (gl ls 7) (fun x => (stOK ls 7 = true ∧ inR (x + 1)) ∧ Ev X 224 80 (ls.set 7 (some (vi (x + 1)))) st h Q) := R_inc rfl
theorem e_224_80 : Ev X 224 80 ls st h Q ↔ Ev X 224 21 ls st h Q := R_go rfl
theorem e_224_81 : Ev X 224 81 ls st h Q ↔ onI (gl ls 5) (fun x => (stOK ls 5 = true ∧ inR (x + 1)) ∧ Ev X 224 82 (ls.set 5 (some (vi (x + 1)))) st h Q) := R_inc rfl
theorem e_224_82 : Ev X 224 82 ls st h Q ↔ Ev X 224 8 ls st h Q := R_go rfl
theorem e_224_83 : Ev X 224 83 ls st h Q ↔ onI (gl ls 4) (fun z => Ev X 224 84 ls (vi z :: st) h Q) := R_il rfl (Or.inr rfl)
theorem e_224_84 {x : Int} : Ev X 224 84 ls (vi x :: st) h Q ↔ (if x ≤ 0 then Ev X 224 111 ls st h Q else Ev X 224 85 ls st h Q) := R_ifle rfl
theorem e_224_85 : Ev X 224 85 ls st h Q ↔ onR (gl ls 0) (fun z => Ev X 224 86 ls (vr z :: st) h Q) := R_al rfl (Or.inl rfl)
theorem e_224_86 {x : Nat} : Ev X 224 86 ls (vr x :: st) h Q ↔ (X.1 x = 12 ∧ Ev X 224 87 ls (vr (X.2.2.1 x 6) :: st) h Q) := R_gr rfl
theorem e_224_87 : Ev X 224 87 ls st h Q ↔ onI (gl ls 1) (fun z => Ev X 224 88 ls (vi z :: st) h Q) := R_il rfl (Or.inl rfl)
theorem e_224_88 {rest : List xV} {a0 : Int} : Ev X 224 88 ls ((vi a0) :: rest) h Q ↔ (wd rest ≤ 8 ∧ Cl X 158 [vi a0] h (fun r h2 => Ev X 224 89 ls (r.toList ++ rest) h2 Q)) := R_cs (as := [vi a0]) (k2 := 158) rfl rfl (Nat.le_of_ble_eq_true rfl)
theorem e_224_89 : Ev X 224 89 ls st h Q ↔ Ev X 224 90 ls (vi 3 :: st) h Q := R_kc rfl (Or.inl ⟨Or.inl rfl, by decide⟩)
theorem e_224_90 {x y : Int} : Ev X 224 90 ls (vi y :: vi x :: st) h Q ↔ ((inR (x + y)) ∧ Ev X 224 91 ls (vi (x + y) :: st) h Q) := R_add rfl
theorem e_224_91 : Ev X 224 91 ls st h Q ↔ onR (gl ls 0) (fun z => Ev X 224 92 ls (vr z :: st) h Q) := R_al rfl (Or.inl rfl)
theorem e_224_92 : Ev X 224 92 ls st h Q ↔ onI (gl ls 1) (fun z => Ev X 224 93 ls (vi z :: st) h Q) := R_il rfl (Or.inl rfl)
theorem e_224_93 : Ev X 224 93 ls st h Q ↔ onI (gl ls 2) (fun z => Ev X 224 94 ls (vi z :: st) h Q) := R_il rfl (Or.inl rfl)
theorem e_224_94 : Ev X 224 94 ls st h Q ↔ onI (gl ls 4) (fun z => Ev X 224 95 ls (vi z :: st) h Q) := R_il rfl (Or.inr rfl)
theorem e_224_95 {rest : List xV} {a0 : Int} {a1 : Int} : Ev X 224 95 ls ((vi a1) :: (vi a0) :: rest) h Q ↔ (wd rest ≤ 8 ∧ Cl X 152 [vi a0, vi a1] h (fun r h2 => Ev X 224 96 ls (r.toList ++ rest) h2 Q)) := R_cs (as := [vi a0, vi a1]) (k2 := 152) rfl rfl (Nat.le_of_ble_eq_true rfl)
theorem e_224_96 {rest : List xV} {a0 : Int} {a1 : Int} {o : Nat} : Ev X 224 96 ls ((vi a1) :: (vi a0) :: vr o :: rest) h Q ↔ ((X.1 o = 12 ∧ wd rest ≤ 8) ∧ Cl X 221 [vr o, vi a0, vi a1] h (fun r h2 => Ev X 224 97 ls (r.toList ++ rest) h2 Q)) := R_cv (x := o) (as := [vi a0, vi a1]) (k2 := 221) rfl rfl (Nat.le_of_ble_eq_true rfl)
theorem e_224_97 {x : Nat} {j v : Int} : Ev X 224 97 ls (vi v :: vi j :: vr x :: st) h Q ↔ ((X.1 x = 13 ∧ 0 ≤ j ∧ j < X.2.1 x) ∧ Ev X 224 98 ls st (up2 h.1 x j.toNat v, h.2) Q) := R_ias rfl
theorem e_224_98 : Ev X 224 98 ls st h Q ↔ onR (gl ls 0) (fun z => Ev X 224 99 ls (vr z :: st) h Q) := R_al rfl (Or.inl rfl)
theorem e_224_99 {x : Nat} : Ev X 224 99 ls (vr x :: st) h Q ↔ (X.1 x = 12 ∧ Ev X 224 100 ls (vr (X.2.2.1 x 6) :: st) h Q) := R_gr rfl
theorem e_224_100 : Ev X 224 100 ls st h Q ↔ onI (gl ls 1) (fun z => Ev X 224 101 ls (vi z :: st) h Q) := R_il rfl (Or.inl rfl)
theorem e_224_101 {rest : List xV} {a0 : Int} : Ev X 224 101 ls ((vi a0) :: rest) h Q ↔ (wd rest ≤ 8 ∧ Cl X 158 [vi a0] h (fun r h2 => Ev X 224 102 ls (r.toList ++ rest) h2 Q)) := R_cs (as := [vi a0]) (k2 := 158) rfl rfl (Nat.le_of_ble_eq_true rfl)
theorem e_224_102 : Ev X 224 102 ls st h Q ↔ Ev X 224 103 ls (vi 4 :: st) h Q := R_kc rfl (Or.inl ⟨Or.inl rfl, by decide⟩)
theorem e_224_103 {x y : Int} : Ev X 224 103 ls (vi y :: vi x :: st) h Q ↔ ((inR (x + y)) ∧ Ev X 224 104 ls (vi (x + y) :: st) h Q) := R_add rfl
theorem e_224_104 : Ev X 224 104 ls st h Q ↔ onR (gl ls 0) (fun z => Ev X 224 105 ls (vr z :: st) h Q) := R_al rfl (Or.inl rfl)
theorem e_224_105 : Ev X 224 105 ls st h Q ↔ onI (gl ls 1) (fun z => Ev X 224 106 ls (vi z :: st) h Q) := R_il rfl (Or.inl rfl)
theorem e_224_106 : Ev X 224 106 ls st h Q ↔ onI (gl ls 3) (fun z => Ev X 224 107 ls (vi z :: st) h Q) := R_il rfl (Or.inl rfl)
theorem e_224_107 : Ev X 224 107 ls st h Q ↔ onI (gl ls 4) (fun z => Ev X 224 108 ls (vi z :: st) h Q) := R_il rfl (Or.inr rfl)
theorem e_224_108 {rest : List xV} {a0 : Int} {a1 : Int} : Ev X 224 108 ls ((vi a1) :: (vi a0) :: rest) h Q ↔ (wd rest ≤ 8 ∧ Cl X 152 [vi a0, vi a1] h (fun r h2 => Ev X 224 109 ls (r.toList ++ rest) h2 Q)) := R_cs (as := [vi a0, vi a1]) (k2 := 152) rfl rfl (Nat.le_of_ble_eq_true rfl)
theorem e_224_109 {rest : List xV} {a0 : Int} {a1 : Int} {o : Nat} : Ev X 224 109 ls ((vi a1) :: (vi a0) :: vr o :: rest) h Q ↔ ((X.1 o = 12 ∧ wd rest ≤ 8) ∧ Cl X 222 [vr o, vi a0, vi a1] h (fun r h2 => Ev X 224 110 ls (r.toList ++ rest) h2 Q)) := R_cv (x := o) (as := [vi a0, vi a1]) (k2 := 222) rfl rfl (Nat.le_of_ble_eq_true rfl)
theorem e_224_110 {x : Nat} {j v : Int} : Ev X 224 110 ls (vi v :: vi j :: vr x :: st) h Q ↔ ((X.1 x = 13 ∧ 0 ≤ j ∧ j < X.2.1 x) ∧ Ev X 224 111 ls st (up2 h.1 x j.toNat v, h.2) Q) := R_ias rfl
theorem e_224_111 : Ev X 224 111 ls [] h Q ↔ Q none h := R_vr rfl
-- 225: CellRowsModel.start(I)I
theorem e_225_0 : Ev X 225 0 ls st h Q ↔ onR (gl ls 0) (fun z => Ev X 225 1 ls (vr z :: st) h Q) := R_al rfl (Or.inl rfl)
theorem e_225_1 : Ev X 225 1 ls st h Q ↔ Ev X 225 2 ls (vi 0 :: st) h Q := R_kc rfl (Or.inl ⟨Or.inl rfl, by decide⟩)
theorem e_225_2 {x : Nat} {v : Int} : Ev X 225 2 ls (vi v :: vr x :: st) h Q ↔ (X.1 x = 12 ∧ Ev X 225 3 ls st (h.1, up2 h.2 x 0 v) Q) := R_pi rfl
theorem e_225_3 : Ev X 225 3 ls st h Q ↔ onI (gl ls 1) (fun z => Ev X 225 4 ls (vi z :: st) h Q) := R_il rfl (Or.inl rfl)
theorem e_225_4 {x : Int} : Ev X 225 4 ls (vi x :: st) h Q ↔ Ev X 225 5 ls (vl x :: st) h Q := R_i2l rfl
theorem e_225_5 : Ev X 225 5 ls st h Q ↔ Ev X 225 6 ls (vl 1 :: st) h Q := R_lc rfl ⟨Or.inl rfl, by decide⟩
theorem e_225_6 : Ev X 225 6 ls st h Q ↔ Ev X 225 7 ls (vl 20 :: st) h Q := R_lc rfl ⟨Or.inr rfl, by decide⟩
theorem e_225_7 {rest : List xV} {a0 : Int} {a1 : Int} {a2 : Int} : Ev X 225 7 ls ((vl a2) :: (vl a1) :: (vl a0) :: rest) h Q ↔ (wd rest ≤ 8 ∧ Cl X 149 [vl a0, vl a1, vl a2] h (fun r h2 => Ev X 225 8 ls (r.toList ++ rest) h2 Q)) := R_cs (as := [vl a0, vl a1, vl a2]) (k2 := 149) rfl rfl (Nat.le_of_ble_eq_true rfl)
theorem e_225_8 {x : Int} : Ev X 225 8 ls (vi x :: st) h Q ↔ (if ¬ x = 0 then Ev X 225 13 ls st h Q else Ev X 225 9 ls st h Q) := R_ifne rfl
theorem e_225_9 : Ev X 225 9 ls st h Q ↔ onR (gl ls 0) (fun z => Ev X 225 10 ls (vr z :: st) h Q) := R_al rfl (Or.inl rfl)
theorem e_225_10 : Ev X 225 10 ls st h Q ↔ Ev X 225 11 ls (vi (-1) :: st) h Q := R_kc rfl (Or.inl ⟨Or.inl rfl, by decide⟩)
theorem e_225_11 {rest : List xV} {a0 : Int} {o : Nat} : Ev X 225 11 ls ((vi a0) :: vr o :: rest) h Q ↔ ((X.1 o = 12 ∧ wd rest ≤ 8) ∧ Cl X 154 [vr o, vi a0] h (fun r h2 => Ev X 225 12 ls (r.toList ++ rest) h2 Q)) := R_cv (x := o) (as := [vi a0]) (k2 := 154) rfl rfl (Nat.le_of_ble_eq_true rfl)
theorem e_225_12 {z : Int} : Ev X 225 12 ls [vi z] h Q ↔ Q (some (vi z)) h := R_ir rfl
theorem e_225_13 : Ev X 225 13 ls st h Q ↔ onR (gl ls 0) (fun z => Ev X 225 14 ls (vr z :: st) h Q) := R_al rfl (Or.inl rfl)
theorem e_225_14 : Ev X 225 14 ls st h Q ↔ Ev X 225 15 ls (vi 10 :: st) h Q := R_kc rfl (Or.inr (Or.inl ⟨rfl, by decide⟩))
theorem e_225_15 {rest : List xV} {a0 : Int} {o : Nat} : Ev X 225 15 ls ((vi a0) :: vr o :: rest) h Q ↔ ((X.1 o = 12 ∧ wd rest ≤ 8) ∧ Cl X 156 [vr o, vi a0] h (fun r h2 => Ev X 225 16 ls (r.toList ++ rest) h2 Q)) := R_cv (x := o) (as := [vi a0]) (k2 := 156) rfl rfl (Nat.le_of_ble_eq_true rfl)
theorem e_225_16 : Ev X 225 16 ls st h Q ↔ onR (gl ls 0) (fun z => Ev X 225 17 ls (vr z :: st) h Q) := R_al rfl (Or.inl rfl)
theorem e_225_17 {x : Nat} : Ev X 225 17 ls (vr x :: st) h Q ↔ (X.1 x = 12 ∧ Ev X 225 18 ls (vr (X.2.2.1 x 6) :: st) h Q) := R_gr rfl
theorem e_225_18 : Ev X 225 18 ls st h Q ↔ Ev X 225 19 ls (vi 0 :: st) h Q := R_kc rfl (Or.inl ⟨Or.inl rfl, by decide⟩)
theorem e_225_19 : Ev X 225 19 ls st h Q ↔ onR (gl ls 0) (fun z => Ev X 225 20 ls (vr z :: st) h Q) := R_al rfl (Or.inl rfl)
theorem e_225_20 {x : Nat} : Ev X 225 20 ls (vr x :: st) h Q ↔ (X.1 x = 12 ∧ Ev X 225 21 ls (vr (X.2.2.1 x 10) :: st) h Q) := R_gr rfl
theorem e_225_21 : Ev X 225 21 ls st h Q ↔ Ev X 225 22 ls (vi 0 :: st) h Q := R_kc rfl (Or.inl ⟨Or.inl rfl, by decide⟩)
theorem e_225_22 {rest : List xV} {a0 : Nat} {a1 : Int} {a2 : Nat} {a3 : Int} : Ev X 225 22 ls ((vi a3) :: (vr a2) :: (vi a1) :: (vr a0) :: rest) h Q ↔ (wd rest ≤ 8 ∧ Cl X 155 [vr a0, vi a1, vr a2, vi a3] h (fun r h2 => Ev X 225 23 ls (r.toList ++ rest) h2 Q)) := R_cs (as := [vr a0, vi a1, vr a2, vi a3]) (k2 := 155) rfl rfl (Nat.le_of_ble_eq_true rfl)
theorem e_225_23 : Ev X 225 23 ls st h Q ↔ Ev X 225 24 ls (vi 0 :: st) h Q := R_kc rfl (Or.inl ⟨Or.inl rfl, by decide⟩)
theorem e_225_24 {x : Int} : Ev X 225 24 ls (vi x :: st) h Q ↔ (stOK ls 2 = true ∧ Ev X 225 25 (ls.set 2 (some (vi x))) st h Q) := R_is rfl (Or.inl rfl)
theorem e_225_25 : Ev X 225 25 ls st h Q ↔ onI (gl ls 2) (fun z => Ev X 225 26 ls (vi z :: st) h Q) := R_il rfl (Or.inl rfl)
theorem e_225_26 : Ev X 225 26 ls st h Q ↔ onI (gl ls 1) (fun z => Ev X 225 27 ls (vi z :: st) h Q) := R_il rfl (Or.inl rfl)
theorem e_225_27 {x y : Int} : Ev X 225 27 ls (vi y :: vi x :: st) h Q ↔ (if y ≤ x then Ev X 225 47 ls st h Q else Ev X 225 28 ls st h Q) := R_icge rfl
theorem e_225_28 : Ev X 225 28 ls st h Q ↔ Ev X 225 29 ls (vi 0 :: st) h Q := R_kc rfl (Or.inl ⟨Or.inl rfl, by decide⟩)
theorem e_225_29 {x : Int} : Ev X 225 29 ls (vi x :: st) h Q ↔ (stOK ls 3 = true ∧ Ev X 225 30 (ls.set 3 (some (vi x))) st h Q) := R_is rfl (Or.inl rfl)
theorem e_225_30 : Ev X 225 30 ls st h Q ↔ onI (gl ls 3) (fun z => Ev X 225 31 ls (vi z :: st) h Q) := R_il rfl (Or.inl rfl)
theorem e_225_31 : Ev X 225 31 ls st h Q ↔ onR (gl ls 0) (fun z => Ev X 225 32 ls (vr z :: st) h Q) := R_al rfl (Or.inl rfl)
theorem e_225_32 {x : Nat} : Ev X 225 32 ls (vr x :: st) h Q ↔ (X.1 x = 12 ∧ Ev X 225 33 ls (vr (X.2.2.1 x 6) :: st) h Q) := R_gr rfl
theorem e_225_33 : Ev X 225 33 ls st h Q ↔ Ev X 225 34 ls (vi 2 :: st) h Q := R_kc rfl (Or.inl ⟨Or.inl rfl, by decide⟩)
theorem e_225_34 {x : Nat} {j : Int} : Ev X 225 34 ls (vi j :: vr x :: st) h Q ↔ (((X.1 x = 13 ∨ X.1 x = 20) ∧ 0 ≤ j ∧ j < X.2.1 x) ∧ Ev X 225 35 ls (vi (h.1 x j.toNat) :: st) h Q) := R_ia rfl
theorem e_225_35 {x y : Int} : Ev X 225 35 ls (vi y :: vi x :: st) h Q ↔ (if y ≤ x then Ev X 225 45 ls st h Q else Ev X 225 36 ls st h Q) := R_icge rfl
theorem e_225_36 : Ev X 225 36 ls st h Q ↔ onR (gl ls 0) (fun z => Ev X 225 37 ls (vr z :: st) h Q) := R_al rfl (Or.inl rfl)
theorem e_225_37 : Ev X 225 37 ls st h Q ↔ onI (gl ls 3) (fun z => Ev X 225 38 ls (vi z :: st) h Q) := R_il rfl (Or.inl rfl)
theorem e_225_38 {rest : List xV} {a0 : Int} {o : Nat} : Ev X 225 38 ls ((vi a0) :: vr o :: rest) h Q ↔ ((X.1 o = 12 ∧ wd rest ≤ 8) ∧ Cl X 162 [vr o, vi a0] h (fun r h2 => Ev X 225 39 ls (r.toList ++ rest) h2 Q)) := R_cv (x := o) (as := [vi a0]) (k2 := 162) rfl rfl (Nat.le_of_ble_eq_true rfl)
theorem e_225_39 {x : Int} : Ev X 225 39 ls (vi x :: st) h Q ↔ (if ¬ x = 0 then Ev X 225 43 ls st h Q else Ev X 225 40 ls st h Q) := R_ifne rfl
theorem e_225_40 : Ev X 225 40 ls st h Q ↔ onR (gl ls 0) (fun z => Ev X 225 41 ls (vr z :: st) h Q) := R_al rfl (Or.inl rfl)
theorem e_225_41 : Ev X 225 41 ls st h Q ↔ onI (gl ls 3) (fun z => Ev X 225 42 ls (vi z :: st) h Q) := R_il rfl (Or.inl rfl)
theorem e_225_42 {rest : List xV} {a0 : Int} {o : Nat} : Ev X 225 42 ls ((vi a0) :: vr o :: rest) h Q ↔ ((X.1 o = 12 ∧ wd rest ≤ 8) ∧ Cl X 224 [vr o, vi a0] h (fun r h2 => Ev X 225 43 ls (r.toList ++ rest) h2 Q)) := R_cv (x := o) (as := [vi a0]) (k2 := 224) rfl rfl (Nat.le_of_ble_eq_true rfl)
theorem e_225_43 : Ev X 225 43 ls st h Q ↔ onI (gl ls 3) (fun x => (stOK ls 3 = true ∧ inR (x + 1)) ∧ Ev X 225 44 (ls.set 3 (some (vi (x + 1)))) st h Q) := R_inc rfl
theorem e_225_44 : Ev X 225 44 ls st h Q ↔ Ev X 225 30 ls st h Q := R_go rfl
theorem e_225_45 : Ev X 225 45 ls st h Q ↔ onI (gl ls 2) (fun x => (stOK ls 2 = true ∧ inR (x + 1)) ∧ Ev X 225 46 (ls.set 2 (some (vi (x + 1)))) st h Q) := R_inc rfl
theorem e_225_46 : Ev X 225 46 ls st h Q ↔ Ev X 225 25 ls st h Q := R_go rfl
theorem e_225_47 : Ev X 225 47 ls st h Q ↔ Ev X 225 48 ls (vi 0 :: st) h Q := R_kc rfl (Or.inl ⟨Or.inl rfl, by decide⟩)
theorem e_225_48 {x : Int} : Ev X 225 48 ls (vi x :: st) h Q ↔ (stOK ls 2 = true ∧ Ev X 225 49 (ls.set 2 (some (vi x))) st h Q) := R_is rfl (Or.inl rfl)
theorem e_225_49 : Ev X 225 49 ls st h Q ↔ Ev X 225 50 ls (vi 0 :: st) h Q := R_kc rfl (Or.inl ⟨Or.inl rfl, by decide⟩)
theorem e_225_50 {x : Int} : Ev X 225 50 ls (vi x :: st) h Q ↔ (stOK ls 3 = true ∧ Ev X 225 51 (ls.set 3 (some (vi x))) st h Q) := R_is rfl (Or.inl rfl)
theorem e_225_51 : Ev X 225 51 ls st h Q ↔ onI (gl ls 3) (fun z => Ev X 225 52 ls (vi z :: st) h Q) := R_il rfl (Or.inl rfl)
theorem e_225_52 : Ev X 225 52 ls st h Q ↔ onR (gl ls 0) (fun z => Ev X 225 53 ls (vr z :: st) h Q) := R_al rfl (Or.inl rfl)
theorem e_225_53 {x : Nat} : Ev X 225 53 ls (vr x :: st) h Q ↔ (X.1 x = 12 ∧ Ev X 225 54 ls (vr (X.2.2.1 x 6) :: st) h Q) := R_gr rfl
theorem e_225_54 : Ev X 225 54 ls st h Q ↔ Ev X 225 55 ls (vi 2 :: st) h Q := R_kc rfl (Or.inl ⟨Or.inl rfl, by decide⟩)
theorem e_225_55 {x : Nat} {j : Int} : Ev X 225 55 ls (vi j :: vr x :: st) h Q ↔ (((X.1 x = 13 ∨ X.1 x = 20) ∧ 0 ≤ j ∧ j < X.2.1 x) ∧ Ev X 225 56 ls (vi (h.1 x j.toNat) :: st) h Q) := R_ia rfl
theorem e_225_56 {x y : Int} : Ev X 225 56 ls (vi y :: vi x :: st) h Q ↔ (if y ≤ x then Ev X 225 94 ls st h Q else Ev X 225 57 ls st h Q) := R_icge rfl
theorem e_225_57 : Ev X 225 57 ls st h Q ↔ onI (gl ls 3) (fun z => Ev X 225 58 ls (vi z :: st) h Q) := R_il rfl (Or.inl rfl)
theorem e_225_58 {rest : List xV} {a0 : Int} : Ev X 225 58 ls ((vi a0) :: rest) h Q ↔ (wd rest ≤ 8 ∧ Cl X 158 [vi a0] h (fun r h2 => Ev X 225 59 ls (r.toList ++ rest) h2 Q)) := R_cs (as := [vi a0]) (k2 := 158) rfl rfl (Nat.le_of_ble_eq_true rfl)
theorem e_225_59 {x : Int} : Ev X 225 59 ls (vi x :: st) h Q ↔ (stOK ls 4 = true ∧ Ev X 225 60 (ls.set 4 (some (vi x))) st h Q) := R_is rfl (Or.inr rfl)
theorem e_225_60 : Ev X 225 60 ls st h Q ↔ onI (gl ls 2) (fun z => Ev X 225 61 ls (vi z :: st) h Q) := R_il rfl (Or.inl rfl)
theorem e_225_61 : Ev X 225 61 ls st h Q ↔ onR (gl ls 0) (fun z => Ev X 225 62 ls (vr z :: st) h Q) := R_al rfl (Or.inl rfl)
theorem e_225_62 {x : Nat} : Ev X 225 62 ls (vr x :: st) h Q ↔ (X.1 x = 12 ∧ Ev X 225 63 ls (vr (X.2.2.1 x 6) :: st) h Q) := R_gr rfl
theorem e_225_63 : Ev X 225 63 ls st h Q ↔ onI (gl ls 4) (fun z => Ev X 225 64 ls (vi z :: st) h Q) := R_il rfl (Or.inr rfl)
theorem e_225_64 : Ev X 225 64 ls st h Q ↔ Ev X 225 65 ls (vi 3 :: st) h Q := R_kc rfl (Or.inl ⟨Or.inl rfl, by decide⟩)
theorem e_225_65 {x y : Int} : Ev X 225 65 ls (vi y :: vi x :: st) h Q ↔ ((inR (x + y)) ∧ Ev X 225 66 ls (vi (x + y) :: st) h Q) := R_add rfl
theorem e_225_66 {x : Nat} {j : Int} : Ev X 225 66 ls (vi j :: vr x :: st) h Q ↔ (((X.1 x = 13 ∨ X.1 x = 20) ∧ 0 ≤ j ∧ j < X.2.1 x) ∧ Ev X 225 67 ls (vi (h.1 x j.toNat) :: st) h Q) := R_ia rfl
theorem e_225_67 : Ev X 225 67 ls st h Q ↔ onR (gl ls 0) (fun z => Ev X 225 68 ls (vr z :: st) h Q) := R_al rfl (Or.inl rfl)
theorem e_225_68 {x : Nat} : Ev X 225 68 ls (vr x :: st) h Q ↔ (X.1 x = 12 ∧ Ev X 225 69 ls (vr (X.2.2.1 x 10) :: st) h Q) := R_gr rfl
theorem e_225_69 : Ev X 225 69 ls st h Q ↔ onI (gl ls 4) (fun z => Ev X 225 70 ls (vi z :: st) h Q) := R_il rfl (Or.inr rfl)
theorem e_225_70 : Ev X 225 70 ls st h Q ↔ Ev X 225 71 ls (vi 3 :: st) h Q := R_kc rfl (Or.inl ⟨Or.inl rfl, by decide⟩)
theorem e_225_71 {x y : Int} : Ev X 225 71 ls (vi y :: vi x :: st) h Q ↔ ((inR (x + y)) ∧ Ev X 225 72 ls (vi (x + y) :: st) h Q) := R_add rfl
theorem e_225_72 {x : Nat} {j : Int} : Ev X 225 72 ls (vi j :: vr x :: st) h Q ↔ (((X.1 x = 13 ∨ X.1 x = 20) ∧ 0 ≤ j ∧ j < X.2.1 x) ∧ Ev X 225 73 ls (vi (h.1 x j.toNat) :: st) h Q) := R_ia rfl
theorem e_225_73 {x y : Int} : Ev X 225 73 ls (vi y :: vi x :: st) h Q ↔ (if ¬ x = y then Ev X 225 89 ls st h Q else Ev X 225 74 ls st h Q) := R_icne rfl
theorem e_225_74 : Ev X 225 74 ls st h Q ↔ onR (gl ls 0) (fun z => Ev X 225 75 ls (vr z :: st) h Q) := R_al rfl (Or.inl rfl)
theorem e_225_75 {x : Nat} : Ev X 225 75 ls (vr x :: st) h Q ↔ (X.1 x = 12 ∧ Ev X 225 76 ls (vr (X.2.2.1 x 6) :: st) h Q) := R_gr rfl
theorem e_225_76 : Ev X 225 76 ls st h Q ↔ onI (gl ls 4) (fun z => Ev X 225 77 ls (vi z :: st) h Q) := R_il rfl (Or.inr rfl)
theorem e_225_77 : Ev X 225 77 ls st h Q ↔ Ev X 225 78 ls (vi 4 :: st) h Q := R_kc rfl (Or.inl ⟨Or.inl rfl, by decide⟩)
theorem e_225_78 {x y : Int} : Ev X 225 78 ls (vi y :: vi x :: st) h Q ↔ ((inR (x + y)) ∧ Ev X 225 79 ls (vi (x + y) :: st) h Q) := R_add rfl
theorem e_225_79 {x : Nat} {j : Int} : Ev X 225 79 ls (vi j :: vr x :: st) h Q ↔ (((X.1 x = 13 ∨ X.1 x = 20) ∧ 0 ≤ j ∧ j < X.2.1 x) ∧ Ev X 225 80 ls (vi (h.1 x j.toNat) :: st) h Q) := R_ia rfl
theorem e_225_80 : Ev X 225 80 ls st h Q ↔ onR (gl ls 0) (fun z => Ev X 225 81 ls (vr z :: st) h Q) := R_al rfl (Or.inl rfl)
theorem e_225_81 {x : Nat} : Ev X 225 81 ls (vr x :: st) h Q ↔ (X.1 x = 12 ∧ Ev X 225 82 ls (vr (X.2.2.1 x 10) :: st) h Q) := R_gr rfl
theorem e_225_82 : Ev X 225 82 ls st h Q ↔ onI (gl ls 4) (fun z => Ev X 225 83 ls (vi z :: st) h Q) := R_il rfl (Or.inr rfl)
theorem e_225_83 : Ev X 225 83 ls st h Q ↔ Ev X 225 84 ls (vi 4 :: st) h Q := R_kc rfl (Or.inl ⟨Or.inl rfl, by decide⟩)
theorem e_225_84 {x y : Int} : Ev X 225 84 ls (vi y :: vi x :: st) h Q ↔ ((inR (x + y)) ∧ Ev X 225 85 ls (vi (x + y) :: st) h Q) := R_add rfl
theorem e_225_85 {x : Nat} {j : Int} : Ev X 225 85 ls (vi j :: vr x :: st) h Q ↔ (((X.1 x = 13 ∨ X.1 x = 20) ∧ 0 ≤ j ∧ j < X.2.1 x) ∧ Ev X 225 86 ls (vi (h.1 x j.toNat) :: st) h Q) := R_ia rfl
theorem e_225_86 {x y : Int} : Ev X 225 86 ls (vi y :: vi x :: st) h Q ↔ (if ¬ x = y then Ev X 225 89 ls st h Q else Ev X 225 87 ls st h Q) := R_icne rfl
theorem e_225_87 : Ev X 225 87 ls st h Q ↔ Ev X 225 88 ls (vi 0 :: st) h Q := R_kc rfl (Or.inl ⟨Or.inl rfl, by decide⟩)
theorem e_225_88 : Ev X 225 88 ls st h Q ↔ Ev X 225 90 ls st h Q := R_go rfl
theorem e_225_89 : Ev X 225 89 ls st h Q ↔ Ev X 225 90 ls (vi 1 :: st) h Q := R_kc rfl (Or.inl ⟨Or.inl rfl, by decide⟩)
theorem e_225_90 {x y : Int} : Ev X 225 90 ls (vi y :: vi x :: st) h Q ↔ ((inR (x + y)) ∧ Ev X 225 91 ls (vi (x + y) :: st) h Q) := R_add rfl
theorem e_225_91 {x : Int} : Ev X 225 91 ls (vi x :: st) h Q ↔ (stOK ls 2 = true ∧ Ev X 225 92 (ls.set 2 (some (vi x))) st h Q) := R_is rfl (Or.inl rfl)
theorem e_225_92 : Ev X 225 92 ls st h Q ↔ onI (gl ls 3) (fun x => (stOK ls 3 = true ∧ inR (x + 1)) ∧ Ev X 225 93 (ls.set 3 (some (vi (x + 1)))) st h Q) := R_inc rfl
theorem e_225_93 : Ev X 225 93 ls st h Q ↔ Ev X 225 51 ls st h Q := R_go rfl
theorem e_225_94 : Ev X 225 94 ls st h Q ↔ onR (gl ls 0) (fun z => Ev X 225 95 ls (vr z :: st) h Q) := R_al rfl (Or.inl rfl)
theorem e_225_95 : Ev X 225 95 ls st h Q ↔ onI (gl ls 2) (fun z => Ev X 225 96 ls (vi z :: st) h Q) := R_il rfl (Or.inl rfl)
theorem e_225_96 {rest : List xV} {a0 : Int} {o : Nat} : Ev X 225 96 ls ((vi a0) :: vr o :: rest) h Q ↔ ((X.1 o = 12 ∧ wd rest ≤ 8) ∧ Cl X 153 [vr o, vi a0] h (fun r h2 => Ev X 225 97 ls (r.toList ++ rest) h2 Q)) := R_cv (x := o) (as := [vi a0]) (k2 := 153) rfl rfl (Nat.le_of_ble_eq_true rfl)
theorem e_225_97 {z : Int} : Ev X 225 97 ls [vi z] h Q ↔ Q (some (vi z)) h := R_ir rfl
-- 226: CellRowsModel.stepX(I)I
theorem e_226_0 : Ev X 226 0 ls st h Q ↔ onI (gl ls 0) (fun z => Ev X 226 1 ls (vi z :: st) h Q) := R_il rfl (Or.inl rfl)
theorem e_226_1 : Ev X 226 1 ls st h Q ↔ Ev X 226 2 ls (vi 1 :: st) h Q := R_kc rfl (Or.inl ⟨Or.inl rfl, by decide⟩)
theorem e_226_2 {x y : Int} : Ev X 226 2 ls (vi y :: vi x :: st) h Q ↔ (if ¬ x = y then Ev X 226 5 ls st h Q else Ev X 226 3 ls st h Q) := R_icne rfl
theorem e_226_3 : Ev X 226 3 ls st h Q ↔ Ev X 226 4 ls (vi (-1) :: st) h Q := R_kc rfl (Or.inl ⟨Or.inl rfl, by decide⟩)
theorem e_226_4 : Ev X 226 4 ls st h Q ↔ Ev X 226 11 ls st h Q := R_go rfl
theorem e_226_5 : Ev X 226 5 ls st h Q ↔ onI (gl ls 0) (fun z => Ev X 226 6 ls (vi z :: st) h Q) := R_il rfl (Or.inl rfl)
theorem e_226_6 : Ev X 226 6 ls st h Q ↔ Ev X 226 7 ls (vi 2 :: st) h Q := R_kc rfl (Or.inl ⟨Or.inl rfl, by decide⟩)
theorem e_226_7 {x y : Int} : Ev X 226 7 ls (vi y :: vi x :: st) h Q ↔ (if ¬ x = y then Ev X 226 10 ls st h Q else Ev X 226 8 ls st h Q) := R_icne rfl
theorem e_226_8 : Ev X 226 8 ls st h Q ↔ Ev X 226 9 ls (vi 1 :: st) h Q := R_kc rfl (Or.inl ⟨Or.inl rfl, by decide⟩)
theorem e_226_9 : Ev X 226 9 ls st h Q ↔ Ev X 226 11 ls st h Q := R_go rfl
theorem e_226_10 : Ev X 226 10 ls st h Q ↔ Ev X 226 11 ls (vi 0 :: st) h Q := R_kc rfl (Or.inl ⟨Or.inl rfl, by decide⟩)
theorem e_226_11 {z : Int} : Ev X 226 11 ls [vi z] h Q ↔ Q (some (vi z)) h := R_ir rfl
-- 227: CellRowsModel.stepY(I)I
theorem e_227_0 : Ev X 227 0 ls st h Q ↔ onI (gl ls 0) (fun z => Ev X 227 1 ls (vi z :: st) h Q) := R_il rfl (Or.inl rfl)
theorem e_227_1 : Ev X 227 1 ls st h Q ↔ Ev X 227 2 ls (vi 3 :: st) h Q := R_kc rfl (Or.inl ⟨Or.inl rfl, by decide⟩)
theorem e_227_2 {x y : Int} : Ev X 227 2 ls (vi y :: vi x :: st) h Q ↔ (if ¬ x = y then Ev X 227 5 ls st h Q else Ev X 227 3 ls st h Q) := R_icne rfl
theorem e_227_3 : Ev X 227 3 ls st h Q ↔ Ev X 227 4 ls (vi (-1) :: st) h Q := R_kc rfl (Or.inl ⟨Or.inl rfl, by decide⟩)
theorem e_227_4 : Ev X 227 4 ls st h Q ↔ Ev X 227 11 ls st h Q := R_go rfl
theorem e_227_5 : Ev X 227 5 ls st h Q ↔ onI (gl ls 0) (fun z => Ev X 227 6 ls (vi z :: st) h Q) := R_il rfl (Or.inl rfl)
theorem e_227_6 : Ev X 227 6 ls st h Q ↔ Ev X 227 7 ls (vi 4 :: st) h Q := R_kc rfl (Or.inl ⟨Or.inl rfl, by decide⟩)
theorem e_227_7 {x y : Int} : Ev X 227 7 ls (vi y :: vi x :: st) h Q ↔ (if ¬ x = y then Ev X 227 10 ls st h Q else Ev X 227 8 ls st h Q) := R_icne rfl
theorem e_227_8 : Ev X 227 8 ls st h Q ↔ Ev X 227 9 ls (vi 1 :: st) h Q := R_kc rfl (Or.inl ⟨Or.inl rfl, by decide⟩)
theorem e_227_9 : Ev X 227 9 ls st h Q ↔ Ev X 227 11 ls st h Q := R_go rfl
theorem e_227_10 : Ev X 227 10 ls st h Q ↔ Ev X 227 11 ls (vi 0 :: st) h Q := R_kc rfl (Or.inl ⟨Or.inl rfl, by decide⟩)
theorem e_227_11 {z : Int} : Ev X 227 11 ls [vi z] h Q ↔ Q (some (vi z)) h := R_ir rfl
-- 228: CellRowsModel.spreadCell(I)V
theorem e_228_0 : Ev X 228 0 ls st h Q ↔ onI (gl ls 1) (fun z => Ev X 228 1 ls (vi z :: st) h Q) := R_il rfl (Or.inl rfl)
theorem e_228_1 {rest : List xV} {a0 : Int} : Ev X 228 1 ls ((vi a0) :: rest) h Q ↔ (wd rest ≤ 8 ∧ Cl X 158 [vi a0] h (fun r h2 => Ev X 228 2 ls (r.toList ++ rest) h2 Q)) := R_cs (as := [vi a0]) (k2 := 158) rfl rfl (Nat.le_of_ble_eq_true rfl)
theorem e_228_2 {x : Int} : Ev X 228 2 ls (vi x :: st) h Q ↔ (stOK ls 2 = true ∧ Ev X 228 3 (ls.set 2 (some (vi x))) st h Q) := R_is rfl (Or.inl rfl)
theorem e_228_3 : Ev X 228 3 ls st h Q ↔ onR (gl ls 0) (fun z => Ev X 228 4 ls (vr z :: st) h Q) := R_al rfl (Or.inl rfl)
theorem e_228_4 {x : Nat} : Ev X 228 4 ls (vr x :: st) h Q ↔ (X.1 x = 12 ∧ Ev X 228 5 ls (vr (X.2.2.1 x 6) :: st) h Q) := R_gr rfl
theorem e_228_5 : Ev X 228 5 ls st h Q ↔ onI (gl ls 2) (fun z => Ev X 228 6 ls (vi z :: st) h Q) := R_il rfl (Or.inl rfl)
theorem e_228_6 : Ev X 228 6 ls st h Q ↔ Ev X 228 7 ls (vi 3 :: st) h Q := R_kc rfl (Or.inl ⟨Or.inl rfl, by decide⟩)
theorem e_228_7 {x y : Int} : Ev X 228 7 ls (vi y :: vi x :: st) h Q ↔ ((inR (x + y)) ∧ Ev X 228 8 ls (vi (x + y) :: st) h Q) := R_add rfl
theorem e_228_8 {x : Nat} {j : Int} : Ev X 228 8 ls (vi j :: vr x :: st) h Q ↔ (((X.1 x = 13 ∨ X.1 x = 20) ∧ 0 ≤ j ∧ j < X.2.1 x) ∧ Ev X 228 9 ls (vi (h.1 x j.toNat) :: st) h Q) := R_ia rfl
theorem e_228_9 {x : Int} : Ev X 228 9 ls (vi x :: st) h Q ↔ (stOK ls 3 = true ∧ Ev X 228 10 (ls.set 3 (some (vi x))) st h Q) := R_is rfl (Or.inl rfl)
theorem e_228_10 : Ev X 228 10 ls st h Q ↔ onR (gl ls 0) (fun z => Ev X 228 11 ls (vr z :: st) h Q) := R_al rfl (Or.inl rfl)
theorem e_228_11 {x : Nat} : Ev X 228 11 ls (vr x :: st) h Q ↔ (X.1 x = 12 ∧ Ev X 228 12 ls (vr (X.2.2.1 x 6) :: st) h Q) := R_gr rfl
theorem e_228_12 : Ev X 228 12 ls st h Q ↔ onI (gl ls 2) (fun z => Ev X 228 13 ls (vi z :: st) h Q) := R_il rfl (Or.inl rfl)
theorem e_228_13 : Ev X 228 13 ls st h Q ↔ Ev X 228 14 ls (vi 4 :: st) h Q := R_kc rfl (Or.inl ⟨Or.inl rfl, by decide⟩)
theorem e_228_14 {x y : Int} : Ev X 228 14 ls (vi y :: vi x :: st) h Q ↔ ((inR (x + y)) ∧ Ev X 228 15 ls (vi (x + y) :: st) h Q) := R_add rfl
theorem e_228_15 {x : Nat} {j : Int} : Ev X 228 15 ls (vi j :: vr x :: st) h Q ↔ (((X.1 x = 13 ∨ X.1 x = 20) ∧ 0 ≤ j ∧ j < X.2.1 x) ∧ Ev X 228 16 ls (vi (h.1 x j.toNat) :: st) h Q) := R_ia rfl
theorem e_228_16 {x : Int} : Ev X 228 16 ls (vi x :: st) h Q ↔ (stOK ls 4 = true ∧ Ev X 228 17 (ls.set 4 (some (vi x))) st h Q) := R_is rfl (Or.inr rfl)
theorem e_228_17 : Ev X 228 17 ls st h Q ↔ onI (gl ls 3) (fun z => Ev X 228 18 ls (vi z :: st) h Q) := R_il rfl (Or.inl rfl)
theorem e_228_18 {x : Int} : Ev X 228 18 ls (vi x :: st) h Q ↔ (stOK ls 5 = true ∧ Ev X 228 19 (ls.set 5 (some (vi x))) st h Q) := R_is rfl (Or.inr rfl)
theorem e_228_19 : Ev X 228 19 ls st h Q ↔ onI (gl ls 4) (fun z => Ev X 228 20 ls (vi z :: st) h Q) := R_il rfl (Or.inr rfl)
theorem e_228_20 {x : Int} : Ev X 228 20 ls (vi x :: st) h Q ↔ (stOK ls 6 = true ∧ Ev X 228 21 (ls.set 6 (some (vi x))) st h Q) := R_is rfl (Or.inr rfl)
theorem e_228_21 : Ev X 228 21 ls st h Q ↔ onR (gl ls 0) (fun z => Ev X 228 22 ls (vr z :: st) h Q) := R_al rfl (Or.inl rfl)
theorem e_228_22 {rest : List xV}  {o : Nat} : Ev X 228 22 ls (vr o :: rest) h Q ↔ ((X.1 o = 12 ∧ wd rest ≤ 8) ∧ Cl X 218 [vr o] h (fun r h2 => Ev X 228 23 ls (r.toList ++ rest) h2 Q)) := R_cv (x := o) (as := []) (k2 := 218) rfl rfl (Nat.le_of_ble_eq_true rfl)
theorem e_228_23 {x : Int} : Ev X 228 23 ls (vi x :: st) h Q ↔ (stOK ls 7 = true ∧ Ev X 228 24 (ls.set 7 (some (vi x))) st h Q) := R_is rfl (Or.inr rfl)
theorem e_228_24 : Ev X 228 24 ls st h Q ↔ Ev X 228 25 ls (vi 1 :: st) h Q := R_kc rfl (Or.inl ⟨Or.inl rfl, by decide⟩)
theorem e_228_25 {x : Int} : Ev X 228 25 ls (vi x :: st) h Q ↔ (stOK ls 8 = true ∧ Ev X 228 26 (ls.set 8 (some (vi x))) st h Q) := R_is rfl (Or.inr rfl)
theorem e_228_26 : Ev X 228 26 ls st h Q ↔ onI (gl ls 8) (fun z => Ev X 228 27 ls (vi z :: st) h Q) := R_il rfl (Or.inr rfl)
theorem e_228_27 : Ev X 228 27 ls st h Q ↔ Ev X 228 28 ls (vi 5 :: st) h Q := R_kc rfl (Or.inl ⟨Or.inl rfl, by decide⟩)
theorem e_228_28 {x y : Int} : Ev X 228 28 ls (vi y :: vi x :: st) h Q ↔ (if y ≤ x then Ev X 228 89 ls st h Q else Ev X 228 29 ls st h Q) := R_icge rfl
theorem e_228_29 : Ev X 228 29 ls st h Q ↔ onR (gl ls 0) (fun z => Ev X 228 30 ls (vr z :: st) h Q) := R_al rfl (Or.inl rfl)
theorem e_228_30 {x : Nat} : Ev X 228 30 ls (vr x :: st) h Q ↔ (X.1 x = 12 ∧ Ev X 228 31 ls (vr (X.2.2.1 x 6) :: st) h Q) := R_gr rfl
theorem e_228_31 : Ev X 228 31 ls st h Q ↔ onI (gl ls 2) (fun z => Ev X 228 32 ls (vi z :: st) h Q) := R_il rfl (Or.inl rfl)
theorem e_228_32 : Ev X 228 32 ls st h Q ↔ Ev X 228 33 ls (vi 3 :: st) h Q := R_kc rfl (Or.inl ⟨Or.inl rfl, by decide⟩)
theorem e_228_33 {x y : Int} : Ev X 228 33 ls (vi y :: vi x :: st) h Q ↔ ((inR (x + y)) ∧ Ev X 228 34 ls (vi (x + y) :: st) h Q) := R_add rfl
theorem e_228_34 : Ev X 228 34 ls st h Q ↔ onR (gl ls 0) (fun z => Ev X 228 35 ls (vr z :: st) h Q) := R_al rfl (Or.inl rfl)
theorem e_228_35 : Ev X 228 35 ls st h Q ↔ onI (gl ls 1) (fun z => Ev X 228 36 ls (vi z :: st) h Q) := R_il rfl (Or.inl rfl)
theorem e_228_36 : Ev X 228 36 ls st h Q ↔ onI (gl ls 3) (fun z => Ev X 228 37 ls (vi z :: st) h Q) := R_il rfl (Or.inl rfl)
theorem e_228_37 : Ev X 228 37 ls st h Q ↔ onR (gl ls 0) (fun z => Ev X 228 38 ls (vr z :: st) h Q) := R_al rfl (Or.inl rfl)
theorem e_228_38 {x : Nat} : Ev X 228 38 ls (vr x :: st) h Q ↔ (X.1 x = 12 ∧ Ev X 228 39 ls (vr (X.2.2.1 x 5) :: st) h Q) := R_gr rfl
theorem e_228_39 : Ev X 228 39 ls st h Q ↔ Ev X 228 40 ls (vi 3 :: st) h Q := R_kc rfl (Or.inl ⟨Or.inl rfl, by decide⟩)
theorem e_228_40 {x : Nat} {j : Int} : Ev X 228 40 ls (vi j :: vr x :: st) h Q ↔ (((X.1 x = 13 ∨ X.1 x = 20) ∧ 0 ≤ j ∧ j < X.2.1 x) ∧ Ev X 228 41 ls (vi (h.1 x j.toNat) :: st) h Q) := R_ia rfl
theorem e_228_41 : Ev X 228 41 ls st h Q ↔ onI (gl ls 8) (fun z => Ev X 228 42 ls (vi z :: st) h Q) := R_il rfl (Or.inr rfl)
theorem e_228_42 {rest : List xV} {a0 : Int} : Ev X 228 42 ls ((vi a0) :: rest) h Q ↔ (wd rest ≤ 8 ∧ Cl X 226 [vi a0] h (fun r h2 => Ev X 228 43 ls (r.toList ++ rest) h2 Q)) := R_cs (as := [vi a0]) (k2 := 226) rfl rfl (Nat.le_of_ble_eq_true rfl)
theorem e_228_43 {x y : Int} : Ev X 228 43 ls (vi y :: vi x :: st) h Q ↔ ((inR (x * y)) ∧ Ev X 228 44 ls (vi (x * y) :: st) h Q) := R_mul rfl
theorem e_228_44 {x y : Int} : Ev X 228 44 ls (vi y :: vi x :: st) h Q ↔ ((inR (x + y)) ∧ Ev X 228 45 ls (vi (x + y) :: st) h Q) := R_add rfl
theorem e_228_45 {rest : List xV} {a0 : Int} {a1 : Int} {o : Nat} : Ev X 228 45 ls ((vi a1) :: (vi a0) :: vr o :: rest) h Q ↔ ((X.1 o = 12 ∧ wd rest ≤ 8) ∧ Cl X 221 [vr o, vi a0, vi a1] h (fun r h2 => Ev X 228 46 ls (r.toList ++ rest) h2 Q)) := R_cv (x := o) (as := [vi a0, vi a1]) (k2 := 221) rfl rfl (Nat.le_of_ble_eq_true rfl)
theorem e_228_46 {x : Nat} {j v : Int} : Ev X 228 46 ls (vi v :: vi j :: vr x :: st) h Q ↔ ((X.1 x = 13 ∧ 0 ≤ j ∧ j < X.2.1 x) ∧ Ev X 228 47 ls st (up2 h.1 x j.toNat v, h.2) Q) := R_ias rfl
theorem e_228_47 : Ev X 228 47 ls st h Q ↔ onR (gl ls 0) (fun z => Ev X 228 48 ls (vr z :: st) h Q) := R_al rfl (Or.inl rfl)
theorem e_228_48 {x : Nat} : Ev X 228 48 ls (vr x :: st) h Q ↔ (X.1 x = 12 ∧ Ev X 228 49 ls (vr (X.2.2.1 x 6) :: st) h Q) := R_gr rfl
theorem e_228_49 : Ev X 228 49 ls st h Q ↔ onI (gl ls 2) (fun z => Ev X 228 50 ls (vi z :: st) h Q) := R_il rfl (Or.inl rfl)
theorem e_228_50 : Ev X 228 50 ls st h Q ↔ Ev X 228 51 ls (vi 4 :: st) h Q := R_kc rfl (Or.inl ⟨Or.inl rfl, by decide⟩)
theorem e_228_51 {x y : Int} : Ev X 228 51 ls (vi y :: vi x :: st) h Q ↔ ((inR (x + y)) ∧ Ev X 228 52 ls (vi (x + y) :: st) h Q) := R_add rfl
theorem e_228_52 : Ev X 228 52 ls st h Q ↔ onR (gl ls 0) (fun z => Ev X 228 53 ls (vr z :: st) h Q) := R_al rfl (Or.inl rfl)
theorem e_228_53 : Ev X 228 53 ls st h Q ↔ onI (gl ls 1) (fun z => Ev X 228 54 ls (vi z :: st) h Q) := R_il rfl (Or.inl rfl)
theorem e_228_54 : Ev X 228 54 ls st h Q ↔ onI (gl ls 4) (fun z => Ev X 228 55 ls (vi z :: st) h Q) := R_il rfl (Or.inr rfl)
theorem e_228_55 : Ev X 228 55 ls st h Q ↔ onR (gl ls 0) (fun z => Ev X 228 56 ls (vr z :: st) h Q) := R_al rfl (Or.inl rfl)
theorem e_228_56 {x : Nat} : Ev X 228 56 ls (vr x :: st) h Q ↔ (X.1 x = 12 ∧ Ev X 228 57 ls (vr (X.2.2.1 x 5) :: st) h Q) := R_gr rfl
theorem e_228_57 : Ev X 228 57 ls st h Q ↔ Ev X 228 58 ls (vi 3 :: st) h Q := R_kc rfl (Or.inl ⟨Or.inl rfl, by decide⟩)
theorem e_228_58 {x : Nat} {j : Int} : Ev X 228 58 ls (vi j :: vr x :: st) h Q ↔ (((X.1 x = 13 ∨ X.1 x = 20) ∧ 0 ≤ j ∧ j < X.2.1 x) ∧ Ev X 228 59 ls (vi (h.1 x j.toNat) :: st) h Q) := R_ia rfl
theorem e_228_59 : Ev X 228 59 ls st h Q ↔ onI (gl ls 8) (fun z => Ev X 228 60 ls (vi z :: st) h Q) := R_il rfl (Or.inr rfl)
theorem e_228_60 {rest : List xV} {a0 : Int} : Ev X 228 60 ls ((vi a0) :: rest) h Q ↔ (wd rest ≤ 8 ∧ Cl X 227 [vi a0] h (fun r h2 => Ev X 228 61 ls (r.toList ++ rest) h2 Q)) := R_cs (as := [vi a0]) (k2 := 227) rfl rfl (Nat.le_of_ble_eq_true rfl)
theorem e_228_61 {x y : Int} : Ev X 228 61 ls (vi y :: vi x :: st) h Q ↔ ((inR (x * y)) ∧ Ev X 228 62 ls (vi (x * y) :: st) h Q) := R_mul rfl
theorem e_228_62 {x y : Int} : Ev X 228 62 ls (vi y :: vi x :: st) h Q ↔ ((inR (x + y)) ∧ Ev X 228 63 ls (vi (x + y) :: st) h Q) := R_add rfl
theorem e_228_63 {rest : List xV} {a0 : Int} {a1 : Int} {o : Nat} : Ev X 228 63 ls ((vi a1) :: (vi a0) :: vr o :: rest) h Q ↔ ((X.1 o = 12 ∧ wd rest ≤ 8) ∧ Cl X 222 [vr o, vi a0, vi a1] h (fun r h2 => Ev X 228 64 ls (r.toList ++ rest) h2 Q)) := R_cv (x := o) (as := [vi a0, vi a1]) (k2 := 222) rfl rfl (Nat.le_of_ble_eq_true rfl)
theorem e_228_64 {x : Nat} {j v : Int} : Ev X 228 64 ls (vi v :: vi j :: vr x :: st) h Q ↔ ((X.1 x = 13 ∧ 0 ≤ j ∧ j < X.2.1 x) ∧ Ev X 228 65 ls st (up2 h.1 x j.toNat v, h.2) Q) := R_ias rfl
theorem e_228_65 : Ev X 228 65 ls st h Q ↔ onR (gl ls 0) (fun z => Ev X 228 66 ls (vr z :: st) h Q) := R_al rfl (Or.inl rfl)
theorem e_228_66 {rest : List xV}  {o : Nat} : Ev X 228 66 ls (vr o :: rest) h Q ↔ ((X.1 o = 12 ∧ wd rest ≤ 8) ∧ Cl X 218 [vr o] h (fun r h2 => Ev X 228 67 ls (r.toList ++ rest) h2 Q)) := R_cv (x := o) (as := []) (k2 := 218) rfl rfl (Nat.le_of_ble_eq_true rfl)
theorem e_228_67 {x : Int} : Ev X 228 67 ls (vi x :: st) h Q ↔ (stOK ls 9 = true ∧ Ev X 228 68 (ls.set 9 (some (vi x))) st h Q) := R_is rfl (Or.inr rfl)
theorem e_228_68 : Ev X 228 68 ls st h Q ↔ onI (gl ls 9) (fun z => Ev X 228 69 ls (vi z :: st) h Q) := R_il rfl (Or.inr rfl)
theorem e_228_69 : Ev X 228 69 ls st h Q ↔ onI (gl ls 7) (fun z => Ev X 228 70 ls (vi z :: st) h Q) := R_il rfl (Or.inr rfl)
theorem e_228_70 {x y : Int} : Ev X 228 70 ls (vi y :: vi x :: st) h Q ↔ (if y ≤ x then Ev X 228 87 ls st h Q else Ev X 228 71 ls st h Q) := R_icge rfl
theorem e_228_71 : Ev X 228 71 ls st h Q ↔ onI (gl ls 9) (fun z => Ev X 228 72 ls (vi z :: st) h Q) := R_il rfl (Or.inr rfl)
theorem e_228_72 {x : Int} : Ev X 228 72 ls (vi x :: st) h Q ↔ (stOK ls 7 = true ∧ Ev X 228 73 (ls.set 7 (some (vi x))) st h Q) := R_is rfl (Or.inr rfl)
theorem e_228_73 : Ev X 228 73 ls st h Q ↔ onR (gl ls 0) (fun z => Ev X 228 74 ls (vr z :: st) h Q) := R_al rfl (Or.inl rfl)
theorem e_228_74 {x : Nat} : Ev X 228 74 ls (vr x :: st) h Q ↔ (X.1 x = 12 ∧ Ev X 228 75 ls (vr (X.2.2.1 x 6) :: st) h Q) := R_gr rfl
theorem e_228_75 : Ev X 228 75 ls st h Q ↔ onI (gl ls 2) (fun z => Ev X 228 76 ls (vi z :: st) h Q) := R_il rfl (Or.inl rfl)
theorem e_228_76 : Ev X 228 76 ls st h Q ↔ Ev X 228 77 ls (vi 3 :: st) h Q := R_kc rfl (Or.inl ⟨Or.inl rfl, by decide⟩)
theorem e_228_77 {x y : Int} : Ev X 228 77 ls (vi y :: vi x :: st) h Q ↔ ((inR (x + y)) ∧ Ev X 228 78 ls (vi (x + y) :: st) h Q) := R_add rfl
theorem e_228_78 {x : Nat} {j : Int} : Ev X 228 78 ls (vi j :: vr x :: st) h Q ↔ (((X.1 x = 13 ∨ X.1 x = 20) ∧ 0 ≤ j ∧ j < X.2.1 x) ∧ Ev X 228 79 ls (vi (h.1 x j.toNat) :: st) h Q) := R_ia rfl
theorem e_228_79 {x : Int} : Ev X 228 79 ls (vi x :: st) h Q ↔ (stOK ls 5 = true ∧ Ev X 228 80 (ls.set 5 (some (vi x))) st h Q) := R_is rfl (Or.inr rfl)
theorem e_228_80 : Ev X 228 80 ls st h Q ↔ onR (gl ls 0) (fun z => Ev X 228 81 ls (vr z :: st) h Q) := R_al rfl (Or.inl rfl)
theorem e_228_81 {x : Nat} : Ev X 228 81 ls (vr x :: st) h Q ↔ (X.1 x = 12 ∧ Ev X 228 82 ls (vr (X.2.2.1 x 6) :: st) h Q) := R_gr rfl
theorem e_228_82 : Ev X 228 82 ls st h Q ↔ onI (gl ls 2) (fun z => Ev X 228 83 ls (vi z :: st) h Q) := R_il rfl (Or.inl rfl)
theorem e_228_83 : Ev X 228 83 ls st h Q ↔ Ev X 228 84 ls (vi 4 :: st) h Q := R_kc rfl (Or.inl ⟨Or.inl rfl, by decide⟩)
theorem e_228_84 {x y : Int} : Ev X 228 84 ls (vi y :: vi x :: st) h Q ↔ ((inR (x + y)) ∧ Ev X 228 85 ls (vi (x + y) :: st) h Q) := R_add rfl
theorem e_228_85 {x : Nat} {j : Int} : Ev X 228 85 ls (vi j :: vr x :: st) h Q ↔ (((X.1 x = 13 ∨ X.1 x = 20) ∧ 0 ≤ j ∧ j < X.2.1 x) ∧ Ev X 228 86 ls (vi (h.1 x j.toNat) :: st) h Q) := R_ia rfl
theorem e_228_86 {x : Int} : Ev X 228 86 ls (vi x :: st) h Q ↔ (stOK ls 6 = true ∧ Ev X 228 87 (ls.set 6 (some (vi x))) st h Q) := R_is rfl (Or.inr rfl)
theorem e_228_87 : Ev X 228 87 ls st h Q ↔ onI (gl ls 8) (fun x => (stOK ls 8 = true ∧ inR (x + 1)) ∧ Ev X 228 88 (ls.set 8 (some (vi (x + 1)))) st h Q) := R_inc rfl
theorem e_228_88 : Ev X 228 88 ls st h Q ↔ Ev X 228 26 ls st h Q := R_go rfl
theorem e_228_89 : Ev X 228 89 ls st h Q ↔ onR (gl ls 0) (fun z => Ev X 228 90 ls (vr z :: st) h Q) := R_al rfl (Or.inl rfl)
theorem e_228_90 {x : Nat} : Ev X 228 90 ls (vr x :: st) h Q ↔ (X.1 x = 12 ∧ Ev X 228 91 ls (vr (X.2.2.1 x 6) :: st) h Q) := R_gr rfl
theorem e_228_91 : Ev X 228 91 ls st h Q ↔ onI (gl ls 2) (fun z => Ev X 228 92 ls (vi z :: st) h Q) := R_il rfl (Or.inl rfl)
theorem e_228_92 : Ev X 228 92 ls st h Q ↔ Ev X 228 93 ls (vi 3 :: st) h Q := R_kc rfl (Or.inl ⟨Or.inl rfl, by decide⟩)
theorem e_228_93 {x y : Int} : Ev X 228 93 ls (vi y :: vi x :: st) h Q ↔ ((inR (x + y)) ∧ Ev X 228 94 ls (vi (x + y) :: st) h Q) := R_add rfl
theorem e_228_94 : Ev X 228 94 ls st h Q ↔ onI (gl ls 5) (fun z => Ev X 228 95 ls (vi z :: st) h Q) := R_il rfl (Or.inr rfl)
theorem e_228_95 {x : Nat} {j v : Int} : Ev X 228 95 ls (vi v :: vi j :: vr x :: st) h Q ↔ ((X.1 x = 13 ∧ 0 ≤ j ∧ j < X.2.1 x) ∧ Ev X 228 96 ls st (up2 h.1 x j.toNat v, h.2) Q) := R_ias rfl
theorem e_228_96 : Ev X 228 96 ls st h Q ↔ onR (gl ls 0) (fun z => Ev X 228 97 ls (vr z :: st) h Q) := R_al rfl (Or.inl rfl)
theorem e_228_97 {x : Nat} : Ev X 228 97 ls (vr x :: st) h Q ↔ (X.1 x = 12 ∧ Ev X 228 98 ls (vr (X.2.2.1 x 6) :: st) h Q) := R_gr rfl
theorem e_228_98 : Ev X 228 98 ls st h Q ↔ onI (gl ls 2) (fun z => Ev X 228 99 ls (vi z :: st) h Q) := R_il rfl (Or.inl rfl)
theorem e_228_99 : Ev X 228 99 ls st h Q ↔ Ev X 228 100 ls (vi 4 :: st) h Q := R_kc rfl (Or.inl ⟨Or.inl rfl, by decide⟩)
theorem e_228_100 {x y : Int} : Ev X 228 100 ls (vi y :: vi x :: st) h Q ↔ ((inR (x + y)) ∧ Ev X 228 101 ls (vi (x + y) :: st) h Q) := R_add rfl
theorem e_228_101 : Ev X 228 101 ls st h Q ↔ onI (gl ls 6) (fun z => Ev X 228 102 ls (vi z :: st) h Q) := R_il rfl (Or.inr rfl)
theorem e_228_102 {x : Nat} {j v : Int} : Ev X 228 102 ls (vi v :: vi j :: vr x :: st) h Q ↔ ((X.1 x = 13 ∧ 0 ≤ j ∧ j < X.2.1 x) ∧ Ev X 228 103 ls st (up2 h.1 x j.toNat v, h.2) Q) := R_ias rfl
theorem e_228_103 : Ev X 228 103 ls [] h Q ↔ Q none h := R_vr rfl
-- 229: CellRowsModel.spread(I)I
theorem e_229_0 : Ev X 229 0 ls st h Q ↔ onR (gl ls 0) (fun z => Ev X 229 1 ls (vr z :: st) h Q) := R_al rfl (Or.inl rfl)
theorem e_229_1 : Ev X 229 1 ls st h Q ↔ Ev X 229 2 ls (vi 0 :: st) h Q := R_kc rfl (Or.inl ⟨Or.inl rfl, by decide⟩)
theorem e_229_2 {x : Nat} {v : Int} : Ev X 229 2 ls (vi v :: vr x :: st) h Q ↔ (X.1 x = 12 ∧ Ev X 229 3 ls st (h.1, up2 h.2 x 0 v) Q) := R_pi rfl
theorem e_229_3 : Ev X 229 3 ls st h Q ↔ onI (gl ls 1) (fun z => Ev X 229 4 ls (vi z :: st) h Q) := R_il rfl (Or.inl rfl)
theorem e_229_4 {x : Int} : Ev X 229 4 ls (vi x :: st) h Q ↔ Ev X 229 5 ls (vl x :: st) h Q := R_i2l rfl
theorem e_229_5 : Ev X 229 5 ls st h Q ↔ Ev X 229 6 ls (vl 1 :: st) h Q := R_lc rfl ⟨Or.inl rfl, by decide⟩
theorem e_229_6 : Ev X 229 6 ls st h Q ↔ Ev X 229 7 ls (vl 10 :: st) h Q := R_lc rfl ⟨Or.inr rfl, by decide⟩
theorem e_229_7 {rest : List xV} {a0 : Int} {a1 : Int} {a2 : Int} : Ev X 229 7 ls ((vl a2) :: (vl a1) :: (vl a0) :: rest) h Q ↔ (wd rest ≤ 8 ∧ Cl X 149 [vl a0, vl a1, vl a2] h (fun r h2 => Ev X 229 8 ls (r.toList ++ rest) h2 Q)) := R_cs (as := [vl a0, vl a1, vl a2]) (k2 := 149) rfl rfl (Nat.le_of_ble_eq_true rfl)
theorem e_229_8 {x : Int} : Ev X 229 8 ls (vi x :: st) h Q ↔ (if ¬ x = 0 then Ev X 229 13 ls st h Q else Ev X 229 9 ls st h Q) := R_ifne rfl
theorem e_229_9 : Ev X 229 9 ls st h Q ↔ onR (gl ls 0) (fun z => Ev X 229 10 ls (vr z :: st) h Q) := R_al rfl (Or.inl rfl)
theorem e_229_10 : Ev X 229 10 ls st h Q ↔ Ev X 229 11 ls (vi (-1) :: st) h Q := R_kc rfl (Or.inl ⟨Or.inl rfl, by decide⟩)
theorem e_229_11 {rest : List xV} {a0 : Int} {o : Nat} : Ev X 229 11 ls ((vi a0) :: vr o :: rest) h Q ↔ ((X.1 o = 12 ∧ wd rest ≤ 8) ∧ Cl X 154 [vr o, vi a0] h (fun r h2 => Ev X 229 12 ls (r.toList ++ rest) h2 Q)) := R_cv (x := o) (as := [vi a0]) (k2 := 154) rfl rfl (Nat.le_of_ble_eq_true rfl)
theorem e_229_12 {z : Int} : Ev X 229 12 ls [vi z] h Q ↔ Q (some (vi z)) h := R_ir rfl
theorem e_229_13 : Ev X 229 13 ls st h Q ↔ onR (gl ls 0) (fun z => Ev X 229 14 ls (vr z :: st) h Q) := R_al rfl (Or.inl rfl)
theorem e_229_14 : Ev X 229 14 ls st h Q ↔ Ev X 229 15 ls (vi 11 :: st) h Q := R_kc rfl (Or.inr (Or.inl ⟨rfl, by decide⟩))
theorem e_229_15 {rest : List xV} {a0 : Int} {o : Nat} : Ev X 229 15 ls ((vi a0) :: vr o :: rest) h Q ↔ ((X.1 o = 12 ∧ wd rest ≤ 8) ∧ Cl X 156 [vr o, vi a0] h (fun r h2 => Ev X 229 16 ls (r.toList ++ rest) h2 Q)) := R_cv (x := o) (as := [vi a0]) (k2 := 156) rfl rfl (Nat.le_of_ble_eq_true rfl)
theorem e_229_16 : Ev X 229 16 ls st h Q ↔ onR (gl ls 0) (fun z => Ev X 229 17 ls (vr z :: st) h Q) := R_al rfl (Or.inl rfl)
theorem e_229_17 {rest : List xV}  {o : Nat} : Ev X 229 17 ls (vr o :: rest) h Q ↔ ((X.1 o = 12 ∧ wd rest ≤ 8) ∧ Cl X 267 [vr o] h (fun r h2 => Ev X 229 18 ls (r.toList ++ rest) h2 Q)) := R_cv (x := o) (as := []) (k2 := 267) rfl rfl (Nat.le_of_ble_eq_true rfl)
theorem e_229_18 : Ev X 229 18 ls st h Q ↔ onR (gl ls 0) (fun z => Ev X 229 19 ls (vr z :: st) h Q) := R_al rfl (Or.inl rfl)
theorem e_229_19 {rest : List xV}  {o : Nat} : Ev X 229 19 ls (vr o :: rest) h Q ↔ ((X.1 o = 12 ∧ wd rest ≤ 8) ∧ Cl X 218 [vr o] h (fun r h2 => Ev X 229 20 ls (r.toList ++ rest) h2 Q)) := R_cv (x := o) (as := []) (k2 := 218) rfl rfl (Nat.le_of_ble_eq_true rfl)
theorem e_229_20 {x : Int} : Ev X 229 20 ls (vi x :: st) h Q ↔ (stOK ls 2 = true ∧ Ev X 229 21 (ls.set 2 (some (vi x))) st h Q) := R_is rfl (Or.inl rfl)
theorem e_229_21 : Ev X 229 21 ls st h Q ↔ Ev X 229 22 ls (vi 0 :: st) h Q := R_kc rfl (Or.inl ⟨Or.inl rfl, by decide⟩)
theorem e_229_22 {x : Int} : Ev X 229 22 ls (vi x :: st) h Q ↔ (stOK ls 3 = true ∧ Ev X 229 23 (ls.set 3 (some (vi x))) st h Q) := R_is rfl (Or.inl rfl)
theorem e_229_23 : Ev X 229 23 ls st h Q ↔ onI (gl ls 3) (fun z => Ev X 229 24 ls (vi z :: st) h Q) := R_il rfl (Or.inl rfl)
theorem e_229_24 : Ev X 229 24 ls st h Q ↔ onI (gl ls 1) (fun z => Ev X 229 25 ls (vi z :: st) h Q) := R_il rfl (Or.inl rfl)
theorem e_229_25 {x y : Int} : Ev X 229 25 ls (vi y :: vi x :: st) h Q ↔ (if y ≤ x then Ev X 229 45 ls st h Q else Ev X 229 26 ls st h Q) := R_icge rfl
theorem e_229_26 : Ev X 229 26 ls st h Q ↔ Ev X 229 27 ls (vi 0 :: st) h Q := R_kc rfl (Or.inl ⟨Or.inl rfl, by decide⟩)
theorem e_229_27 {x : Int} : Ev X 229 27 ls (vi x :: st) h Q ↔ (stOK ls 4 = true ∧ Ev X 229 28 (ls.set 4 (some (vi x))) st h Q) := R_is rfl (Or.inr rfl)
theorem e_229_28 : Ev X 229 28 ls st h Q ↔ onI (gl ls 4) (fun z => Ev X 229 29 ls (vi z :: st) h Q) := R_il rfl (Or.inr rfl)
theorem e_229_29 : Ev X 229 29 ls st h Q ↔ onR (gl ls 0) (fun z => Ev X 229 30 ls (vr z :: st) h Q) := R_al rfl (Or.inl rfl)
theorem e_229_30 {x : Nat} : Ev X 229 30 ls (vr x :: st) h Q ↔ (X.1 x = 12 ∧ Ev X 229 31 ls (vr (X.2.2.1 x 6) :: st) h Q) := R_gr rfl
theorem e_229_31 : Ev X 229 31 ls st h Q ↔ Ev X 229 32 ls (vi 2 :: st) h Q := R_kc rfl (Or.inl ⟨Or.inl rfl, by decide⟩)
theorem e_229_32 {x : Nat} {j : Int} : Ev X 229 32 ls (vi j :: vr x :: st) h Q ↔ (((X.1 x = 13 ∨ X.1 x = 20) ∧ 0 ≤ j ∧ j < X.2.1 x) ∧ Ev X 229 33 ls (vi (h.1 x j.toNat) :: st) h Q) := R_ia rfl
theorem e_229_33 {x y : Int} : Ev X 229 33 ls (vi y :: vi x :: st) h Q ↔ (if y ≤ x then Ev X 229 43 ls st h Q else Ev X 229 34 ls st h Q) := R_icge rfl
theorem e_229_34 : Ev X 229 34 ls st h Q ↔ onR (gl ls 0) (fun z => Ev X 229 35 ls (vr z :: st) h Q) := R_al rfl (Or.inl rfl)
theorem e_229_35 : Ev X 229 35 ls st h Q ↔ onI (gl ls 4) (fun z => Ev X 229 36 ls (vi z :: st) h Q) := R_il rfl (Or.inr rfl)
theorem e_229_36 {rest : List xV} {a0 : Int} {o : Nat} : Ev X 229 36 ls ((vi a0) :: vr o :: rest) h Q ↔ ((X.1 o = 12 ∧ wd rest ≤ 8) ∧ Cl X 162 [vr o, vi a0] h (fun r h2 => Ev X 229 37 ls (r.toList ++ rest) h2 Q)) := R_cv (x := o) (as := [vi a0]) (k2 := 162) rfl rfl (Nat.le_of_ble_eq_true rfl)
theorem e_229_37 {x : Int} : Ev X 229 37 ls (vi x :: st) h Q ↔ (if ¬ x = 0 then Ev X 229 41 ls st h Q else Ev X 229 38 ls st h Q) := R_ifne rfl
theorem e_229_38 : Ev X 229 38 ls st h Q ↔ onR (gl ls 0) (fun z => Ev X 229 39 ls (vr z :: st) h Q) := R_al rfl (Or.inl rfl)
theorem e_229_39 : Ev X 229 39 ls st h Q ↔ onI (gl ls 4) (fun z => Ev X 229 40 ls (vi z :: st) h Q) := R_il rfl (Or.inr rfl)
theorem e_229_40 {rest : List xV} {a0 : Int} {o : Nat} : Ev X 229 40 ls ((vi a0) :: vr o :: rest) h Q ↔ ((X.1 o = 12 ∧ wd rest ≤ 8) ∧ Cl X 228 [vr o, vi a0] h (fun r h2 => Ev X 229 41 ls (r.toList ++ rest) h2 Q)) := R_cv (x := o) (as := [vi a0]) (k2 := 228) rfl rfl (Nat.le_of_ble_eq_true rfl)
theorem e_229_41 : Ev X 229 41 ls st h Q ↔ onI (gl ls 4) (fun x => (stOK ls 4 = true ∧ inR (x + 1)) ∧ Ev X 229 42 (ls.set 4 (some (vi (x + 1)))) st h Q) := R_inc rfl
theorem e_229_42 : Ev X 229 42 ls st h Q ↔ Ev X 229 28 ls st h Q := R_go rfl
theorem e_229_43 : Ev X 229 43 ls st h Q ↔ onI (gl ls 3) (fun x => (stOK ls 3 = true ∧ inR (x + 1)) ∧ Ev X 229 44 (ls.set 3 (some (vi (x + 1)))) st h Q) := R_inc rfl
theorem e_229_44 : Ev X 229 44 ls st h Q ↔ Ev X 229 23 ls st h Q := R_go rfl
theorem e_229_45 : Ev X 229 45 ls st h Q ↔ onR (gl ls 0) (fun z => Ev X 229 46 ls (vr z :: st) h Q) := R_al rfl (Or.inl rfl)
theorem e_229_46 : Ev X 229 46 ls st h Q ↔ onI (gl ls 2) (fun z => Ev X 229 47 ls (vi z :: st) h Q) := R_il rfl (Or.inl rfl)
theorem e_229_47 : Ev X 229 47 ls st h Q ↔ onR (gl ls 0) (fun z => Ev X 229 48 ls (vr z :: st) h Q) := R_al rfl (Or.inl rfl)
theorem e_229_48 {rest : List xV}  {o : Nat} : Ev X 229 48 ls (vr o :: rest) h Q ↔ ((X.1 o = 12 ∧ wd rest ≤ 8) ∧ Cl X 218 [vr o] h (fun r h2 => Ev X 229 49 ls (r.toList ++ rest) h2 Q)) := R_cv (x := o) (as := []) (k2 := 218) rfl rfl (Nat.le_of_ble_eq_true rfl)
theorem e_229_49 {x y : Int} : Ev X 229 49 ls (vi y :: vi x :: st) h Q ↔ ((inR (x - y)) ∧ Ev X 229 50 ls (vi (x - y) :: st) h Q) := R_sub rfl
theorem e_229_50 {rest : List xV} {a0 : Int} {o : Nat} : Ev X 229 50 ls ((vi a0) :: vr o :: rest) h Q ↔ ((X.1 o = 12 ∧ wd rest ≤ 8) ∧ Cl X 153 [vr o, vi a0] h (fun r h2 => Ev X 229 51 ls (r.toList ++ rest) h2 Q)) := R_cv (x := o) (as := [vi a0]) (k2 := 153) rfl rfl (Nat.le_of_ble_eq_true rfl)
theorem e_229_51 {z : Int} : Ev X 229 51 ls [vi z] h Q ↔ Q (some (vi z)) h := R_ir rfl
-- 230: CellRowsModel.isRunSite(III)Z
theorem e_230_0 : Ev X 230 0 ls st h Q ↔ onR (gl ls 0) (fun z => Ev X 230 1 ls (vr z :: st) h Q) := R_al rfl (Or.inl rfl)
theorem e_230_1 : Ev X 230 1 ls st h Q ↔ onI (gl ls 1) (fun z => Ev X 230 2 ls (vi z :: st) h Q) := R_il rfl (Or.inl rfl)
theorem e_230_2 : Ev X 230 2 ls st h Q ↔ onI (gl ls 2) (fun z => Ev X 230 3 ls (vi z :: st) h Q) := R_il rfl (Or.inl rfl)
theorem e_230_3 {rest : List xV} {a0 : Int} {a1 : Int} {o : Nat} : Ev X 230 3 ls ((vi a1) :: (vi a0) :: vr o :: rest) h Q ↔ ((X.1 o = 12 ∧ wd rest ≤ 8) ∧ Cl X 170 [vr o, vi a0, vi a1] h (fun r h2 => Ev X 230 4 ls (r.toList ++ rest) h2 Q)) := R_cv (x := o) (as := [vi a0, vi a1]) (k2 := 170) rfl rfl (Nat.le_of_ble_eq_true rfl)
theorem e_230_4 {x : Int} : Ev X 230 4 ls (vi x :: st) h Q ↔ (if x = 0 then Ev X 230 26 ls st h Q else Ev X 230 5 ls st h Q) := R_ifeq rfl
theorem e_230_5 : Ev X 230 5 ls st h Q ↔ onR (gl ls 0) (fun z => Ev X 230 6 ls (vr z :: st) h Q) := R_al rfl (Or.inl rfl)
theorem e_230_6 : Ev X 230 6 ls st h Q ↔ onI (gl ls 1) (fun z => Ev X 230 7 ls (vi z :: st) h Q) := R_il rfl (Or.inl rfl)
theorem e_230_7 : Ev X 230 7 ls st h Q ↔ onI (gl ls 2) (fun z => Ev X 230 8 ls (vi z :: st) h Q) := R_il rfl (Or.inl rfl)
theorem e_230_8 {rest : List xV} {a0 : Int} {a1 : Int} {o : Nat} : Ev X 230 8 ls ((vi a1) :: (vi a0) :: vr o :: rest) h Q ↔ ((X.1 o = 12 ∧ wd rest ≤ 8) ∧ Cl X 171 [vr o, vi a0, vi a1] h (fun r h2 => Ev X 230 9 ls (r.toList ++ rest) h2 Q)) := R_cv (x := o) (as := [vi a0, vi a1]) (k2 := 171) rfl rfl (Nat.le_of_ble_eq_true rfl)
theorem e_230_9 {x : Int} : Ev X 230 9 ls (vi x :: st) h Q ↔ (if ¬ x = 0 then Ev X 230 26 ls st h Q else Ev X 230 10 ls st h Q) := R_ifne rfl
theorem e_230_10 : Ev X 230 10 ls st h Q ↔ onR (gl ls 0) (fun z => Ev X 230 11 ls (vr z :: st) h Q) := R_al rfl (Or.inl rfl)
theorem e_230_11 : Ev X 230 11 ls st h Q ↔ onI (gl ls 1) (fun z => Ev X 230 12 ls (vi z :: st) h Q) := R_il rfl (Or.inl rfl)
theorem e_230_12 : Ev X 230 12 ls st h Q ↔ onI (gl ls 2) (fun z => Ev X 230 13 ls (vi z :: st) h Q) := R_il rfl (Or.inl rfl)
theorem e_230_13 : Ev X 230 13 ls st h Q ↔ Ev X 230 14 ls (vi (-1) :: st) h Q := R_kc rfl (Or.inl ⟨Or.inl rfl, by decide⟩)
theorem e_230_14 : Ev X 230 14 ls st h Q ↔ Ev X 230 15 ls (vi 1 :: st) h Q := R_kc rfl (Or.inl ⟨Or.inl rfl, by decide⟩)
theorem e_230_15 {rest : List xV} {a0 : Int} {a1 : Int} {a2 : Int} {a3 : Int} {o : Nat} : Ev X 230 15 ls ((vi a3) :: (vi a2) :: (vi a1) :: (vi a0) :: vr o :: rest) h Q ↔ ((X.1 o = 12 ∧ wd rest ≤ 8) ∧ Cl X 175 [vr o, vi a0, vi a1, vi a2, vi a3] h (fun r h2 => Ev X 230 16 ls (r.toList ++ rest) h2 Q)) := R_cv (x := o) (as := [vi a0, vi a1, vi a2, vi a3]) (k2 := 175) rfl rfl (Nat.le_of_ble_eq_true rfl)
theorem e_230_16 : Ev X 230 16 ls st h Q ↔ Ev X 230 17 ls (vi (-1) :: st) h Q := R_kc rfl (Or.inl ⟨Or.inl rfl, by decide⟩)
theorem e_230_17 {x y : Int} : Ev X 230 17 ls (vi y :: vi x :: st) h Q ↔ (if ¬ x = y then Ev X 230 26 ls st h Q else Ev X 230 18 ls st h Q) := R_icne rfl
theorem e_230_18 : Ev X 230 18 ls st h Q ↔ onR (gl ls 0) (fun z => Ev X 230 19 ls (vr z :: st) h Q) := R_al rfl (Or.inl rfl)
theorem e_230_19 : Ev X 230 19 ls st h Q ↔ onI (gl ls 1) (fun z => Ev X 230 20 ls (vi z :: st) h Q) := R_il rfl (Or.inl rfl)
theorem e_230_20 : Ev X 230 20 ls st h Q ↔ onI (gl ls 2) (fun z => Ev X 230 21 ls (vi z :: st) h Q) := R_il rfl (Or.inl rfl)
theorem e_230_21 {rest : List xV} {a0 : Int} {a1 : Int} {o : Nat} : Ev X 230 21 ls ((vi a1) :: (vi a0) :: vr o :: rest) h Q ↔ ((X.1 o = 12 ∧ wd rest ≤ 8) ∧ Cl X 173 [vr o, vi a0, vi a1] h (fun r h2 => Ev X 230 22 ls (r.toList ++ rest) h2 Q)) := R_cv (x := o) (as := [vi a0, vi a1]) (k2 := 173) rfl rfl (Nat.le_of_ble_eq_true rfl)
theorem e_230_22 : Ev X 230 22 ls st h Q ↔ onI (gl ls 3) (fun z => Ev X 230 23 ls (vi z :: st) h Q) := R_il rfl (Or.inl rfl)
theorem e_230_23 {x y : Int} : Ev X 230 23 ls (vi y :: vi x :: st) h Q ↔ (if ¬ x = y then Ev X 230 26 ls st h Q else Ev X 230 24 ls st h Q) := R_icne rfl
theorem e_230_24 : Ev X 230 24 ls st h Q ↔ Ev X 230 25 ls (vi 1 :: st) h Q := R_kc rfl (Or.inl ⟨Or.inl rfl, by decide⟩)
theorem e_230_25 : Ev X 230 25 ls st h Q ↔ Ev X 230 27 ls st h Q := R_go rfl
theorem e_230_26 : Ev X 230 26 ls st h Q ↔ Ev X 230 27 ls (vi 0 :: st) h Q := R_kc rfl (Or.inl ⟨Or.inl rfl, by decide⟩)
theorem e_230_27 {z : Int} : Ev X 230 27 ls [vi z] h Q ↔ ((z = 0 ∨ z = 1) ∧ Q (some (vi z)) h) := R_zr rfl
-- 231: CellRowsModel.layRuns()V
theorem e_231_0 : Ev X 231 0 ls st h Q ↔ onR (gl ls 0) (fun z => Ev X 231 1 ls (vr z :: st) h Q) := R_al rfl (Or.inl rfl)
theorem e_231_1 : Ev X 231 1 ls st h Q ↔ Ev X 231 2 ls (vi 0 :: st) h Q := R_kc rfl (Or.inl ⟨Or.inl rfl, by decide⟩)
theorem e_231_2 {x : Nat} {v : Int} : Ev X 231 2 ls (vi v :: vr x :: st) h Q ↔ (X.1 x = 12 ∧ Ev X 231 3 ls st (h.1, up2 h.2 x 18 v) Q) := R_pi rfl
theorem e_231_3 : Ev X 231 3 ls st h Q ↔ Ev X 231 4 ls (vi 0 :: st) h Q := R_kc rfl (Or.inl ⟨Or.inl rfl, by decide⟩)
theorem e_231_4 {x : Int} : Ev X 231 4 ls (vi x :: st) h Q ↔ (stOK ls 1 = true ∧ Ev X 231 5 (ls.set 1 (some (vi x))) st h Q) := R_is rfl (Or.inl rfl)
theorem e_231_5 : Ev X 231 5 ls st h Q ↔ onI (gl ls 1) (fun z => Ev X 231 6 ls (vi z :: st) h Q) := R_il rfl (Or.inl rfl)
theorem e_231_6 : Ev X 231 6 ls st h Q ↔ onR (gl ls 0) (fun z => Ev X 231 7 ls (vr z :: st) h Q) := R_al rfl (Or.inl rfl)
theorem e_231_7 {x : Nat} : Ev X 231 7 ls (vr x :: st) h Q ↔ (X.1 x = 12 ∧ Ev X 231 8 ls (vi (h.2 x 2) :: st) h Q) := R_gi rfl
theorem e_231_8 {x y : Int} : Ev X 231 8 ls (vi y :: vi x :: st) h Q ↔ (if y ≤ x then Ev X 231 74 ls st h Q else Ev X 231 9 ls st h Q) := R_icge rfl
theorem e_231_9 : Ev X 231 9 ls st h Q ↔ Ev X 231 10 ls (vi (-1) :: st) h Q := R_kc rfl (Or.inl ⟨Or.inl rfl, by decide⟩)
theorem e_231_10 {x : Int} : Ev X 231 10 ls (vi x :: st) h Q ↔ (stOK ls 2 = true ∧ Ev X 231 11 (ls.set 2 (some (vi x))) st h Q) := R_is rfl (Or.inl rfl)
theorem e_231_11 : Ev X 231 11 ls st h Q ↔ onI (gl ls 2) (fun z => Ev X 231 12 ls (vi z :: st) h Q) := R_il rfl (Or.inl rfl)
theorem e_231_12 : Ev X 231 12 ls st h Q ↔ onR (gl ls 0) (fun z => Ev X 231 13 ls (vr z :: st) h Q) := R_al rfl (Or.inl rfl)
theorem e_231_13 {x : Nat} : Ev X 231 13 ls (vr x :: st) h Q ↔ (X.1 x = 12 ∧ Ev X 231 14 ls (vr (X.2.2.1 x 6) :: st) h Q) := R_gr rfl
theorem e_231_14 : Ev X 231 14 ls st h Q ↔ Ev X 231 15 ls (vi 1 :: st) h Q := R_kc rfl (Or.inl ⟨Or.inl rfl, by decide⟩)
theorem e_231_15 {x : Nat} {j : Int} : Ev X 231 15 ls (vi j :: vr x :: st) h Q ↔ (((X.1 x = 13 ∨ X.1 x = 20) ∧ 0 ≤ j ∧ j < X.2.1 x) ∧ Ev X 231 16 ls (vi (h.1 x j.toNat) :: st) h Q) := R_ia rfl
theorem e_231_16 {x y : Int} : Ev X 231 16 ls (vi y :: vi x :: st) h Q ↔ (if y ≤ x then Ev X 231 72 ls st h Q else Ev X 231 17 ls st h Q) := R_icge rfl
theorem e_231_17 : Ev X 231 17 ls st h Q ↔ Ev X 231 18 ls (vi 0 :: st) h Q := R_kc rfl (Or.inl ⟨Or.inl rfl, by decide⟩)
theorem e_231_18 {x : Int} : Ev X 231 18 ls (vi x :: st) h Q ↔ (stOK ls 3 = true ∧ Ev X 231 19 (ls.set 3 (some (vi x))) st h Q) := R_is rfl (Or.inl rfl)
theorem e_231_19 : Ev X 231 19 ls st h Q ↔ onI (gl ls 3) (fun z => Ev X 231 20 ls (vi z :: st) h Q) := R_il rfl (Or.inl rfl)
theorem e_231_20 : Ev X 231 20 ls st h Q ↔ onR (gl ls 0) (fun z => Ev X 231 21 ls (vr z :: st) h Q) := R_al rfl (Or.inl rfl)
theorem e_231_21 {x : Nat} : Ev X 231 21 ls (vr x :: st) h Q ↔ (X.1 x = 12 ∧ Ev X 231 22 ls (vi (h.2 x 3) :: st) h Q) := R_gi rfl
theorem e_231_22 {x y : Int} : Ev X 231 22 ls (vi y :: vi x :: st) h Q ↔ (if y ≤ x then Ev X 231 70 ls st h Q else Ev X 231 23 ls st h Q) := R_icge rfl
theorem e_231_23 : Ev X 231 23 ls st h Q ↔ onI (gl ls 3) (fun z => Ev X 231 24 ls (vi z :: st) h Q) := R_il rfl (Or.inl rfl)
theorem e_231_24 {x : Int} : Ev X 231 24 ls (vi x :: st) h Q ↔ (stOK ls 4 = true ∧ Ev X 231 25 (ls.set 4 (some (vi x))) st h Q) := R_is rfl (Or.inr rfl)
theorem e_231_25 : Ev X 231 25 ls st h Q ↔ onR (gl ls 0) (fun z => Ev X 231 26 ls (vr z :: st) h Q) := R_al rfl (Or.inl rfl)
theorem e_231_26 : Ev X 231 26 ls st h Q ↔ onI (gl ls 1) (fun z => Ev X 231 27 ls (vi z :: st) h Q) := R_il rfl (Or.inl rfl)
theorem e_231_27 : Ev X 231 27 ls st h Q ↔ onI (gl ls 3) (fun z => Ev X 231 28 ls (vi z :: st) h Q) := R_il rfl (Or.inl rfl)
theorem e_231_28 : Ev X 231 28 ls st h Q ↔ onI (gl ls 2) (fun z => Ev X 231 29 ls (vi z :: st) h Q) := R_il rfl (Or.inl rfl)
theorem e_231_29 {rest : List xV} {a0 : Int} {a1 : Int} {a2 : Int} {o : Nat} : Ev X 231 29 ls ((vi a2) :: (vi a1) :: (vi a0) :: vr o :: rest) h Q ↔ ((X.1 o = 12 ∧ wd rest ≤ 8) ∧ Cl X 230 [vr o, vi a0, vi a1, vi a2] h (fun r h2 => Ev X 231 30 ls (r.toList ++ rest) h2 Q)) := R_cv (x := o) (as := [vi a0, vi a1, vi a2]) (k2 := 230) rfl rfl (Nat.le_of_ble_eq_true rfl)
theorem e_231_30 {x : Int} : Ev X 231 30 ls (vi x :: st) h Q ↔ (if x = 0 then Ev X 231 33 ls st h Q else Ev X 231 31 ls st h Q) := R_ifeq rfl
theorem e_231_31 : Ev X 231 31 ls st h Q ↔ onI (gl ls 3) (fun x => (stOK ls 3 = true ∧ inR (x + 1)) ∧ Ev X 231 32 (ls.set 3 (some (vi (x + 1)))) st h Q) := R_inc rfl
theorem e_231_32 : Ev X 231 32 ls st h Q ↔ Ev X 231 25 ls st h Q := R_go rfl
theorem e_231_33 : Ev X 231 33 ls st h Q ↔ onI (gl ls 3) (fun z => Ev X 231 34 ls (vi z :: st) h Q) := R_il rfl (Or.inl rfl)
theorem e_231_34 : Ev X 231 34 ls st h Q ↔ onI (gl ls 4) (fun z => Ev X 231 35 ls (vi z :: st) h Q) := R_il rfl (Or.inr rfl)
theorem e_231_35 {x y : Int} : Ev X 231 35 ls (vi y :: vi x :: st) h Q ↔ (if x ≤ y then Ev X 231 68 ls st h Q else Ev X 231 36 ls st h Q) := R_icle rfl
theorem e_231_36 : Ev X 231 36 ls st h Q ↔ onR (gl ls 0) (fun z => Ev X 231 37 ls (vr z :: st) h Q) := R_al rfl (Or.inl rfl)
theorem e_231_37 {x : Nat} : Ev X 231 37 ls (vr x :: st) h Q ↔ (X.1 x = 12 ∧ Ev X 231 38 ls (vr (X.2.2.1 x 14) :: st) h Q) := R_gr rfl
theorem e_231_38 : Ev X 231 38 ls st h Q ↔ onR (gl ls 0) (fun z => Ev X 231 39 ls (vr z :: st) h Q) := R_al rfl (Or.inl rfl)
theorem e_231_39 {x : Nat} : Ev X 231 39 ls (vr x :: st) h Q ↔ (X.1 x = 12 ∧ Ev X 231 40 ls (vi (h.2 x 18) :: st) h Q) := R_gi rfl
theorem e_231_40 : Ev X 231 40 ls st h Q ↔ onI (gl ls 1) (fun z => Ev X 231 41 ls (vi z :: st) h Q) := R_il rfl (Or.inl rfl)
theorem e_231_41 {x : Nat} {j v : Int} : Ev X 231 41 ls (vi v :: vi j :: vr x :: st) h Q ↔ ((X.1 x = 13 ∧ 0 ≤ j ∧ j < X.2.1 x) ∧ Ev X 231 42 ls st (up2 h.1 x j.toNat v, h.2) Q) := R_ias rfl
theorem e_231_42 : Ev X 231 42 ls st h Q ↔ onR (gl ls 0) (fun z => Ev X 231 43 ls (vr z :: st) h Q) := R_al rfl (Or.inl rfl)
theorem e_231_43 {x : Nat} : Ev X 231 43 ls (vr x :: st) h Q ↔ (X.1 x = 12 ∧ Ev X 231 44 ls (vr (X.2.2.1 x 15) :: st) h Q) := R_gr rfl
theorem e_231_44 : Ev X 231 44 ls st h Q ↔ onR (gl ls 0) (fun z => Ev X 231 45 ls (vr z :: st) h Q) := R_al rfl (Or.inl rfl)
theorem e_231_45 {x : Nat} : Ev X 231 45 ls (vr x :: st) h Q ↔ (X.1 x = 12 ∧ Ev X 231 46 ls (vi (h.2 x 18) :: st) h Q) := R_gi rfl
theorem e_231_46 : Ev X 231 46 ls st h Q ↔ onI (gl ls 2) (fun z => Ev X 231 47 ls (vi z :: st) h Q) := R_il rfl (Or.inl rfl)
theorem e_231_47 {x : Nat} {j v : Int} : Ev X 231 47 ls (vi v :: vi j :: vr x :: st) h Q ↔ ((X.1 x = 13 ∧ 0 ≤ j ∧ j < X.2.1 x) ∧ Ev X 231 48 ls st (up2 h.1 x j.toNat v, h.2) Q) := R_ias rfl
theorem e_231_48 : Ev X 231 48 ls st h Q ↔ onR (gl ls 0) (fun z => Ev X 231 49 ls (vr z :: st) h Q) := R_al rfl (Or.inl rfl)
theorem e_231_49 {x : Nat} : Ev X 231 49 ls (vr x :: st) h Q ↔ (X.1 x = 12 ∧ Ev X 231 50 ls (vr (X.2.2.1 x 16) :: st) h Q) := R_gr rfl
theorem e_231_50 : Ev X 231 50 ls st h Q ↔ onR (gl ls 0) (fun z => Ev X 231 51 ls (vr z :: st) h Q) := R_al rfl (Or.inl rfl)
theorem e_231_51 {x : Nat} : Ev X 231 51 ls (vr x :: st) h Q ↔ (X.1 x = 12 ∧ Ev X 231 52 ls (vi (h.2 x 18) :: st) h Q) := R_gi rfl
theorem e_231_52 : Ev X 231 52 ls st h Q ↔ onI (gl ls 4) (fun z => Ev X 231 53 ls (vi z :: st) h Q) := R_il rfl (Or.inr rfl)
theorem e_231_53 {x : Nat} {j v : Int} : Ev X 231 53 ls (vi v :: vi j :: vr x :: st) h Q ↔ ((X.1 x = 13 ∧ 0 ≤ j ∧ j < X.2.1 x) ∧ Ev X 231 54 ls st (up2 h.1 x j.toNat v, h.2) Q) := R_ias rfl
theorem e_231_54 : Ev X 231 54 ls st h Q ↔ onR (gl ls 0) (fun z => Ev X 231 55 ls (vr z :: st) h Q) := R_al rfl (Or.inl rfl)
theorem e_231_55 {x : Nat} : Ev X 231 55 ls (vr x :: st) h Q ↔ (X.1 x = 12 ∧ Ev X 231 56 ls (vr (X.2.2.1 x 17) :: st) h Q) := R_gr rfl
theorem e_231_56 : Ev X 231 56 ls st h Q ↔ onR (gl ls 0) (fun z => Ev X 231 57 ls (vr z :: st) h Q) := R_al rfl (Or.inl rfl)
theorem e_231_57 {x : Nat} : Ev X 231 57 ls (vr x :: st) h Q ↔ (X.1 x = 12 ∧ Ev X 231 58 ls (vi (h.2 x 18) :: st) h Q) := R_gi rfl
theorem e_231_58 : Ev X 231 58 ls st h Q ↔ onI (gl ls 3) (fun z => Ev X 231 59 ls (vi z :: st) h Q) := R_il rfl (Or.inl rfl)
theorem e_231_59 : Ev X 231 59 ls st h Q ↔ onI (gl ls 4) (fun z => Ev X 231 60 ls (vi z :: st) h Q) := R_il rfl (Or.inr rfl)
theorem e_231_60 {x y : Int} : Ev X 231 60 ls (vi y :: vi x :: st) h Q ↔ ((inR (x - y)) ∧ Ev X 231 61 ls (vi (x - y) :: st) h Q) := R_sub rfl
theorem e_231_61 {x : Nat} {j v : Int} : Ev X 231 61 ls (vi v :: vi j :: vr x :: st) h Q ↔ ((X.1 x = 13 ∧ 0 ≤ j ∧ j < X.2.1 x) ∧ Ev X 231 62 ls st (up2 h.1 x j.toNat v, h.2) Q) := R_ias rfl
theorem e_231_62 : Ev X 231 62 ls st h Q ↔ onR (gl ls 0) (fun z => Ev X 231 63 ls (vr z :: st) h Q) := R_al rfl (Or.inl rfl)
theorem e_231_63 {v : xV} : Ev X 231 63 ls (v :: st) h Q ↔ (ct1 v = true ∧ Ev X 231 64 ls (v :: v :: st) h Q) := R_dup rfl
theorem e_231_64 {x : Nat} : Ev X 231 64 ls (vr x :: st) h Q ↔ (X.1 x = 12 ∧ Ev X 231 65 ls (vi (h.2 x 18) :: st) h Q) := R_gi rfl
theorem e_231_65 : Ev X 231 65 ls st h Q ↔ Ev X 231 66 ls (vi 1 :: st) h Q := R_kc rfl (Or.inl ⟨Or.inl rfl, by decide⟩)
theorem e_231_66 {x y : Int} : Ev X 231 66 ls (vi y :: vi x :: st) h Q ↔ ((inR (x + y)) ∧ Ev X 231 67 ls (vi (x + y) :: st) h Q) := R_add rfl
theorem e_231_67 {x : Nat} {v : Int} : Ev X 231 67 ls (vi v :: vr x :: st) h Q ↔ (X.1 x = 12 ∧ Ev X 231 68 ls st (h.1, up2 h.2 x 18 v) Q) := R_pi rfl
theorem e_231_68 : Ev X 231 68 ls st h Q ↔ onI (gl ls 3) (fun x => (stOK ls 3 = true ∧ inR (x + 1)) ∧ Ev X 231 69 (ls.set 3 (some (vi (x + 1)))) st h Q) := R_inc rfl
theorem e_231_69 : Ev X 231 69 ls st h Q ↔ Ev X 231 19 ls st h Q := R_go rfl
theorem e_231_70 : Ev X 231 70 ls st h Q ↔ onI (gl ls 2) (fun x => (stOK ls 2 = true ∧ inR (x + 1)) ∧ Ev X 231 71 (ls.set 2 (some (vi (x + 1)))) st h Q) := R_inc rfl
theorem e_231_71 : Ev X 231 71 ls st h Q ↔ Ev X 231 11 ls st h Q := R_go rfl
theorem e_231_72 : Ev X 231 72 ls st h Q ↔ onI (gl ls 1) (fun x => (stOK ls 1 = true ∧ inR (x + 1)) ∧ Ev X 231 73 (ls.set 1 (some (vi (x + 1)))) st h Q) := R_inc rfl
theorem e_231_73 : Ev X 231 73 ls st h Q ↔ Ev X 231 5 ls st h Q := R_go rfl
theorem e_231_74 : Ev X 231 74 ls [] h Q ↔ Q none h := R_vr rfl
end RUL
