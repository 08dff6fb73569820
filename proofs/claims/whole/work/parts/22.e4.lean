section RUL
variable {X : xL} {ls : List (Option xV)} {st : List xV} {h : xH} {Q : Option xV → xH → Prop}
-- 155: CellRowsModel.copy([II[II)V
theorem e_155_0 : Ev X 155 0 ls st h Q ↔ Ev X 155 1 ls (vi 0 :: st) h Q := R_kc rfl (Or.inl ⟨Or.inl rfl, by decide⟩)
theorem e_155_1 {x : Int} : Ev X 155 1 ls (vi x :: st) h Q ↔ (stOK ls 4 = true ∧ Ev X 155 2 (ls.set 4 (some (vi x))) st h Q) := R_is rfl (Or.inr rfl)
theorem e_155_2 : Ev X 155 2 ls st h Q ↔ onI (gl ls 4) (fun z => Ev X 155 3 ls (vi z :: st) h Q) := R_il rfl (Or.inr rfl)
theorem e_155_3 : Ev X 155 3 ls st h Q ↔ Ev X 155 4 ls (vi 400 :: st) h Q := R_kc rfl (Or.inr (Or.inr ⟨rfl, by decide⟩))
theorem e_155_4 {x y : Int} : Ev X 155 4 ls (vi y :: vi x :: st) h Q ↔ (if y ≤ x then Ev X 155 17 ls st h Q else Ev X 155 5 ls st h Q) := R_icge rfl
theorem e_155_5 : Ev X 155 5 ls st h Q ↔ onR (gl ls 2) (fun z => Ev X 155 6 ls (vr z :: st) h Q) := R_al rfl (Or.inl rfl)
theorem e_155_6 : Ev X 155 6 ls st h Q ↔ onI (gl ls 3) (fun z => Ev X 155 7 ls (vi z :: st) h Q) := R_il rfl (Or.inl rfl)
theorem e_155_7 : Ev X 155 7 ls st h Q ↔ onI (gl ls 4) (fun z => Ev X 155 8 ls (vi z :: st) h Q) := R_il rfl (Or.inr rfl)
theorem e_155_8 {x y : Int} : Ev X 155 8 ls (vi y :: vi x :: st) h Q ↔ ((inR (x + y)) ∧ Ev X 155 9 ls (vi (x + y) :: st) h Q) := R_add rfl
theorem e_155_9 : Ev X 155 9 ls st h Q ↔ onR (gl ls 0) (fun z => Ev X 155 10 ls (vr z :: st) h Q) := R_al rfl (Or.inl rfl)
theorem e_155_10 : Ev X 155 10 ls st h Q ↔ onI (gl ls 1) (fun z => Ev X 155 11 ls (vi z :: st) h Q) := R_il rfl (Or.inl rfl)
theorem e_155_11 : Ev X 155 11 ls st h Q ↔ onI (gl ls 4) (fun z => Ev X 155 12 ls (vi z :: st) h Q) := R_il rfl (Or.inr rfl)
theorem e_155_12 {x y : Int} : Ev X 155 12 ls (vi y :: vi x :: st) h Q ↔ ((inR (x + y)) ∧ Ev X 155 13 ls (vi (x + y) :: st) h Q) := R_add rfl
theorem e_155_13 {x : Nat} {j : Int} : Ev X 155 13 ls (vi j :: vr x :: st) h Q ↔ (((X.1 x = 13 ∨ X.1 x = 20) ∧ 0 ≤ j ∧ j < X.2.1 x) ∧ Ev X 155 14 ls (vi (h.1 x j.toNat) :: st) h Q) := R_ia rfl
theorem e_155_14 {x : Nat} {j v : Int} : Ev X 155 14 ls (vi v :: vi j :: vr x :: st) h Q ↔ ((X.1 x = 13 ∧ 0 ≤ j ∧ j < X.2.1 x) ∧ Ev X 155 15 ls st (up2 h.1 x j.toNat v, h.2) Q) := R_ias rfl
theorem e_155_15 : Ev X 155 15 ls st h Q ↔ onI (gl ls 4) (fun x => (stOK ls 4 = true ∧ inR (x + 1)) ∧ Ev X 155 16 (ls.set 4 (some (vi (x + 1)))) st h Q) := R_inc rfl
theorem e_155_16 : Ev X 155 16 ls st h Q ↔ Ev X 155 2 ls st h Q := R_go rfl
theorem e_155_17 : Ev X 155 17 ls [] h Q ↔ Q none h := R_vr rfl
-- 156: CellRowsModel.remember(I)V
theorem e_156_0 : Ev X 156 0 ls st h Q ↔ onR (gl ls 0) (fun z => Ev X 156 1 ls (vr z :: st) h Q) := R_al rfl (Or.inl rfl)
theorem e_156_1 {x : Nat} : Ev X 156 1 ls (vr x :: st) h Q ↔ (X.1 x = 12 ∧ Ev X 156 2 ls (vi (h.2 x 9) :: st) h Q) := R_gi rfl
theorem e_156_2 : Ev X 156 2 ls st h Q ↔ Ev X 156 3 ls (vi 12 :: st) h Q := R_kc rfl (Or.inr (Or.inl ⟨rfl, by decide⟩))
theorem e_156_3 {x y : Int} : Ev X 156 3 ls (vi y :: vi x :: st) h Q ↔ (if ¬ x = y then Ev X 156 44 ls st h Q else Ev X 156 4 ls st h Q) := R_icne rfl
theorem e_156_4 : Ev X 156 4 ls st h Q ↔ Ev X 156 5 ls (vi 0 :: st) h Q := R_kc rfl (Or.inl ⟨Or.inl rfl, by decide⟩)
theorem e_156_5 {x : Int} : Ev X 156 5 ls (vi x :: st) h Q ↔ (stOK ls 2 = true ∧ Ev X 156 6 (ls.set 2 (some (vi x))) st h Q) := R_is rfl (Or.inl rfl)
theorem e_156_6 : Ev X 156 6 ls st h Q ↔ onI (gl ls 2) (fun z => Ev X 156 7 ls (vi z :: st) h Q) := R_il rfl (Or.inl rfl)
theorem e_156_7 : Ev X 156 7 ls st h Q ↔ Ev X 156 8 ls (vi 4400 :: st) h Q := R_kc rfl (Or.inr (Or.inr ⟨rfl, by decide⟩))
theorem e_156_8 {x y : Int} : Ev X 156 8 ls (vi y :: vi x :: st) h Q ↔ (if y ≤ x then Ev X 156 21 ls st h Q else Ev X 156 9 ls st h Q) := R_icge rfl
theorem e_156_9 : Ev X 156 9 ls st h Q ↔ onR (gl ls 0) (fun z => Ev X 156 10 ls (vr z :: st) h Q) := R_al rfl (Or.inl rfl)
theorem e_156_10 {x : Nat} : Ev X 156 10 ls (vr x :: st) h Q ↔ (X.1 x = 12 ∧ Ev X 156 11 ls (vr (X.2.2.1 x 7) :: st) h Q) := R_gr rfl
theorem e_156_11 : Ev X 156 11 ls st h Q ↔ onI (gl ls 2) (fun z => Ev X 156 12 ls (vi z :: st) h Q) := R_il rfl (Or.inl rfl)
theorem e_156_12 : Ev X 156 12 ls st h Q ↔ onR (gl ls 0) (fun z => Ev X 156 13 ls (vr z :: st) h Q) := R_al rfl (Or.inl rfl)
theorem e_156_13 {x : Nat} : Ev X 156 13 ls (vr x :: st) h Q ↔ (X.1 x = 12 ∧ Ev X 156 14 ls (vr (X.2.2.1 x 7) :: st) h Q) := R_gr rfl
theorem e_156_14 : Ev X 156 14 ls st h Q ↔ onI (gl ls 2) (fun z => Ev X 156 15 ls (vi z :: st) h Q) := R_il rfl (Or.inl rfl)
theorem e_156_15 : Ev X 156 15 ls st h Q ↔ Ev X 156 16 ls (vi 400 :: st) h Q := R_kc rfl (Or.inr (Or.inr ⟨rfl, by decide⟩))
theorem e_156_16 {x y : Int} : Ev X 156 16 ls (vi y :: vi x :: st) h Q ↔ ((inR (x + y)) ∧ Ev X 156 17 ls (vi (x + y) :: st) h Q) := R_add rfl
theorem e_156_17 {x : Nat} {j : Int} : Ev X 156 17 ls (vi j :: vr x :: st) h Q ↔ (((X.1 x = 13 ∨ X.1 x = 20) ∧ 0 ≤ j ∧ j < X.2.1 x) ∧ Ev X 156 18 ls (vi (h.1 x j.toNat) :: st) h Q) := R_ia rfl
theorem e_156_18 {x : Nat} {j v : Int} : Ev X 156 18 ls (vi v :: vi j :: vr x :: st) h Q ↔ ((X.1 x = 13 ∧ 0 ≤ j ∧ j < X.2.1 x) ∧ Ev X 156 19 ls st (up2 h.1 x j.toNat v, h.2) Q) := R_ias rfl
theorem e_156_19 : Ev X 156 19 ls st h Q ↔ onI (gl ls 2) (fun x => (stOK ls 2 = true ∧ inR (x + 1)) ∧ Ev X 156 20 (ls.set 2 (some (vi (x + 1)))) st h Q) := R_inc rfl
theorem e_156_20 : Ev X 156 20 ls st h Q ↔ Ev X 156 6 ls st h Q := R_go rfl
theorem e_156_21 : Ev X 156 21 ls st h Q ↔ Ev X 156 22 ls (vi 0 :: st) h Q := R_kc rfl (Or.inl ⟨Or.inl rfl, by decide⟩)
theorem e_156_22 {x : Int} : Ev X 156 22 ls (vi x :: st) h Q ↔ (stOK ls 2 = true ∧ Ev X 156 23 (ls.set 2 (some (vi x))) st h Q) := R_is rfl (Or.inl rfl)
theorem e_156_23 : Ev X 156 23 ls st h Q ↔ onI (gl ls 2) (fun z => Ev X 156 24 ls (vi z :: st) h Q) := R_il rfl (Or.inl rfl)
theorem e_156_24 : Ev X 156 24 ls st h Q ↔ Ev X 156 25 ls (vi 11 :: st) h Q := R_kc rfl (Or.inr (Or.inl ⟨rfl, by decide⟩))
theorem e_156_25 {x y : Int} : Ev X 156 25 ls (vi y :: vi x :: st) h Q ↔ (if y ≤ x then Ev X 156 38 ls st h Q else Ev X 156 26 ls st h Q) := R_icge rfl
theorem e_156_26 : Ev X 156 26 ls st h Q ↔ onR (gl ls 0) (fun z => Ev X 156 27 ls (vr z :: st) h Q) := R_al rfl (Or.inl rfl)
theorem e_156_27 {x : Nat} : Ev X 156 27 ls (vr x :: st) h Q ↔ (X.1 x = 12 ∧ Ev X 156 28 ls (vr (X.2.2.1 x 8) :: st) h Q) := R_gr rfl
theorem e_156_28 : Ev X 156 28 ls st h Q ↔ onI (gl ls 2) (fun z => Ev X 156 29 ls (vi z :: st) h Q) := R_il rfl (Or.inl rfl)
theorem e_156_29 : Ev X 156 29 ls st h Q ↔ onR (gl ls 0) (fun z => Ev X 156 30 ls (vr z :: st) h Q) := R_al rfl (Or.inl rfl)
theorem e_156_30 {x : Nat} : Ev X 156 30 ls (vr x :: st) h Q ↔ (X.1 x = 12 ∧ Ev X 156 31 ls (vr (X.2.2.1 x 8) :: st) h Q) := R_gr rfl
theorem e_156_31 : Ev X 156 31 ls st h Q ↔ onI (gl ls 2) (fun z => Ev X 156 32 ls (vi z :: st) h Q) := R_il rfl (Or.inl rfl)
theorem e_156_32 : Ev X 156 32 ls st h Q ↔ Ev X 156 33 ls (vi 1 :: st) h Q := R_kc rfl (Or.inl ⟨Or.inl rfl, by decide⟩)
theorem e_156_33 {x y : Int} : Ev X 156 33 ls (vi y :: vi x :: st) h Q ↔ ((inR (x + y)) ∧ Ev X 156 34 ls (vi (x + y) :: st) h Q) := R_add rfl
theorem e_156_34 {x : Nat} {j : Int} : Ev X 156 34 ls (vi j :: vr x :: st) h Q ↔ (((X.1 x = 13 ∨ X.1 x = 20) ∧ 0 ≤ j ∧ j < X.2.1 x) ∧ Ev X 156 35 ls (vi (h.1 x j.toNat) :: st) h Q) := R_ia rfl
theorem e_156_35 {x : Nat} {j v : Int} : Ev X 156 35 ls (vi v :: vi j :: vr x :: st) h Q ↔ ((X.1 x = 13 ∧ 0 ≤ j ∧ j < X.2.1 x) ∧ Ev X 156 36 ls st (up2 h.1 x j.toNat v, h.2) Q) := R_ias rfl
theorem e_156_36 : Ev X 156 36 ls st h Q ↔ onI (gl ls 2) (fun x => (stOK ls 2 = true ∧ inR (x + 1)) ∧ Ev X 156 37 (ls.set 2 (some (vi (x + 1)))) st h Q) := R_inc rfl
theorem e_156_37 : Ev X 156 37 ls st h Q ↔ Ev X 156 23 ls st h Q := R_go rfl
theorem e_156_38 : Ev X 156 38 ls st h Q ↔ onR (gl ls 0) (fun z => Ev X 156 39 ls (vr z :: st) h Q) := R_al rfl (Or.inl rfl)
theorem e_156_39 {v : xV} : Ev X 156 39 ls (v :: st) h Q ↔ (ct1 v = true ∧ Ev X 156 40 ls (v :: v :: st) h Q) := R_dup rfl
theorem e_156_40 {x : Nat} : Ev X 156 40 ls (vr x :: st) h Q ↔ (X.1 x = 12 ∧ Ev X 156 41 ls (vi (h.2 x 9) :: st) h Q) := R_gi rfl
theorem e_156_41 : Ev X 156 41 ls st h Q ↔ Ev X 156 42 ls (vi 1 :: st) h Q := R_kc rfl (Or.inl ⟨Or.inl rfl, by decide⟩)
theorem e_156_42 {x y : Int} : Ev X 156 42 ls (vi y :: vi x :: st) h Q ↔ ((inR (x - y)) ∧ Ev X 156 43 ls (vi (x - y) :: st) h Q) := R_sub rfl
theorem e_156_43 {x : Nat} {v : Int} : Ev X 156 43 ls (vi v :: vr x :: st) h Q ↔ (X.1 x = 12 ∧ Ev X 156 44 ls st (h.1, up2 h.2 x 9 v) Q) := R_pi rfl
theorem e_156_44 : Ev X 156 44 ls st h Q ↔ onR (gl ls 0) (fun z => Ev X 156 45 ls (vr z :: st) h Q) := R_al rfl (Or.inl rfl)
theorem e_156_45 {x : Nat} : Ev X 156 45 ls (vr x :: st) h Q ↔ (X.1 x = 12 ∧ Ev X 156 46 ls (vr (X.2.2.1 x 6) :: st) h Q) := R_gr rfl
theorem e_156_46 : Ev X 156 46 ls st h Q ↔ Ev X 156 47 ls (vi 0 :: st) h Q := R_kc rfl (Or.inl ⟨Or.inl rfl, by decide⟩)
theorem e_156_47 : Ev X 156 47 ls st h Q ↔ onR (gl ls 0) (fun z => Ev X 156 48 ls (vr z :: st) h Q) := R_al rfl (Or.inl rfl)
theorem e_156_48 {x : Nat} : Ev X 156 48 ls (vr x :: st) h Q ↔ (X.1 x = 12 ∧ Ev X 156 49 ls (vr (X.2.2.1 x 7) :: st) h Q) := R_gr rfl
theorem e_156_49 : Ev X 156 49 ls st h Q ↔ Ev X 156 50 ls (vi 400 :: st) h Q := R_kc rfl (Or.inr (Or.inr ⟨rfl, by decide⟩))
theorem e_156_50 : Ev X 156 50 ls st h Q ↔ onR (gl ls 0) (fun z => Ev X 156 51 ls (vr z :: st) h Q) := R_al rfl (Or.inl rfl)
theorem e_156_51 {x : Nat} : Ev X 156 51 ls (vr x :: st) h Q ↔ (X.1 x = 12 ∧ Ev X 156 52 ls (vi (h.2 x 9) :: st) h Q) := R_gi rfl
theorem e_156_52 {x y : Int} : Ev X 156 52 ls (vi y :: vi x :: st) h Q ↔ ((inR (x * y)) ∧ Ev X 156 53 ls (vi (x * y) :: st) h Q) := R_mul rfl
theorem e_156_53 {rest : List xV} {a0 : Nat} {a1 : Int} {a2 : Nat} {a3 : Int} : Ev X 156 53 ls ((vi a3) :: (vr a2) :: (vi a1) :: (vr a0) :: rest) h Q ↔ (wd rest ≤ 8 ∧ Cl X 155 [vr a0, vi a1, vr a2, vi a3] h (fun r h2 => Ev X 156 54 ls (r.toList ++ rest) h2 Q)) := R_cs (as := [vr a0, vi a1, vr a2, vi a3]) (k2 := 155) rfl rfl (Nat.le_of_ble_eq_true rfl)
theorem e_156_54 : Ev X 156 54 ls st h Q ↔ onR (gl ls 0) (fun z => Ev X 156 55 ls (vr z :: st) h Q) := R_al rfl (Or.inl rfl)
theorem e_156_55 {x : Nat} : Ev X 156 55 ls (vr x :: st) h Q ↔ (X.1 x = 12 ∧ Ev X 156 56 ls (vr (X.2.2.1 x 8) :: st) h Q) := R_gr rfl
theorem e_156_56 : Ev X 156 56 ls st h Q ↔ onR (gl ls 0) (fun z => Ev X 156 57 ls (vr z :: st) h Q) := R_al rfl (Or.inl rfl)
theorem e_156_57 {x : Nat} : Ev X 156 57 ls (vr x :: st) h Q ↔ (X.1 x = 12 ∧ Ev X 156 58 ls (vi (h.2 x 9) :: st) h Q) := R_gi rfl
theorem e_156_58 : Ev X 156 58 ls st h Q ↔ onI (gl ls 1) (fun z => Ev X 156 59 ls (vi z :: st) h Q) := R_il rfl (Or.inl rfl)
theorem e_156_59 {x : Nat} {j v : Int} : Ev X 156 59 ls (vi v :: vi j :: vr x :: st) h Q ↔ ((X.1 x = 13 ∧ 0 ≤ j ∧ j < X.2.1 x) ∧ Ev X 156 60 ls st (up2 h.1 x j.toNat v, h.2) Q) := R_ias rfl
theorem e_156_60 : Ev X 156 60 ls st h Q ↔ onR (gl ls 0) (fun z => Ev X 156 61 ls (vr z :: st) h Q) := R_al rfl (Or.inl rfl)
theorem e_156_61 {v : xV} : Ev X 156 61 ls (v :: st) h Q ↔ (ct1 v = true ∧ Ev X 156 62 ls (v :: v :: st) h Q) := R_dup rfl
theorem e_156_62 {x : Nat} : Ev X 156 62 ls (vr x :: st) h Q ↔ (X.1 x = 12 ∧ Ev X 156 63 ls (vi (h.2 x 9) :: st) h Q) := R_gi rfl
theorem e_156_63 : Ev X 156 63 ls st h Q ↔ Ev X 156 64 ls (vi 1 :: st) h Q := R_kc rfl (Or.inl ⟨Or.inl rfl, by decide⟩)
theorem e_156_64 {x y : Int} : Ev X 156 64 ls (vi y :: vi x :: st) h Q ↔ ((inR (x + y)) ∧ Ev X 156 65 ls (vi (x + y) :: st) h Q) := R_add rfl
theorem e_156_65 {x : Nat} {v : Int} : Ev X 156 65 ls (vi v :: vr x :: st) h Q ↔ (X.1 x = 12 ∧ Ev X 156 66 ls st (h.1, up2 h.2 x 9 v) Q) := R_pi rfl
theorem e_156_66 : Ev X 156 66 ls [] h Q ↔ Q none h := R_vr rfl
-- 157: CellRowsModel.undo()I
theorem e_157_0 : Ev X 157 0 ls st h Q ↔ onR (gl ls 0) (fun z => Ev X 157 1 ls (vr z :: st) h Q) := R_al rfl (Or.inl rfl)
theorem e_157_1 : Ev X 157 1 ls st h Q ↔ Ev X 157 2 ls (vi 0 :: st) h Q := R_kc rfl (Or.inl ⟨Or.inl rfl, by decide⟩)
theorem e_157_2 {x : Nat} {v : Int} : Ev X 157 2 ls (vi v :: vr x :: st) h Q ↔ (X.1 x = 12 ∧ Ev X 157 3 ls st (h.1, up2 h.2 x 0 v) Q) := R_pi rfl
theorem e_157_3 : Ev X 157 3 ls st h Q ↔ onR (gl ls 0) (fun z => Ev X 157 4 ls (vr z :: st) h Q) := R_al rfl (Or.inl rfl)
theorem e_157_4 {x : Nat} : Ev X 157 4 ls (vr x :: st) h Q ↔ (X.1 x = 12 ∧ Ev X 157 5 ls (vi (h.2 x 9) :: st) h Q) := R_gi rfl
theorem e_157_5 {x : Int} : Ev X 157 5 ls (vi x :: st) h Q ↔ (if ¬ x = 0 then Ev X 157 10 ls st h Q else Ev X 157 6 ls st h Q) := R_ifne rfl
theorem e_157_6 : Ev X 157 6 ls st h Q ↔ onR (gl ls 0) (fun z => Ev X 157 7 ls (vr z :: st) h Q) := R_al rfl (Or.inl rfl)
theorem e_157_7 : Ev X 157 7 ls st h Q ↔ Ev X 157 8 ls (vi (-4) :: st) h Q := R_kc rfl (Or.inr (Or.inl ⟨rfl, by decide⟩))
theorem e_157_8 {rest : List xV} {a0 : Int} {o : Nat} : Ev X 157 8 ls ((vi a0) :: vr o :: rest) h Q ↔ ((X.1 o = 12 ∧ wd rest ≤ 8) ∧ Cl X 154 [vr o, vi a0] h (fun r h2 => Ev X 157 9 ls (r.toList ++ rest) h2 Q)) := R_cv (x := o) (as := [vi a0]) (k2 := 154) rfl rfl (Nat.le_of_ble_eq_true rfl)
theorem e_157_9 {z : Int} : Ev X 157 9 ls [vi z] h Q ↔ Q (some (vi z)) h := R_ir rfl
theorem e_157_10 : Ev X 157 10 ls st h Q ↔ onR (gl ls 0) (fun z => Ev X 157 11 ls (vr z :: st) h Q) := R_al rfl (Or.inl rfl)
theorem e_157_11 {v : xV} : Ev X 157 11 ls (v :: st) h Q ↔ (ct1 v = true ∧ Ev X 157 12 ls (v :: v :: st) h Q) := R_dup rfl
theorem e_157_12 {x : Nat} : Ev X 157 12 ls (vr x :: st) h Q ↔ (X.1 x = 12 ∧ Ev X 157 13 ls (vi (h.2 x 9) :: st) h Q) := R_gi rfl
theorem e_157_13 : Ev X 157 13 ls st h Q ↔ Ev X 157 14 ls (vi 1 :: st) h Q := R_kc rfl (Or.inl ⟨Or.inl rfl, by decide⟩)
theorem e_157_14 {x y : Int} : Ev X 157 14 ls (vi y :: vi x :: st) h Q ↔ ((inR (x - y)) ∧ Ev X 157 15 ls (vi (x - y) :: st) h Q) := R_sub rfl
theorem e_157_15 {x : Nat} {v : Int} : Ev X 157 15 ls (vi v :: vr x :: st) h Q ↔ (X.1 x = 12 ∧ Ev X 157 16 ls st (h.1, up2 h.2 x 9 v) Q) := R_pi rfl
theorem e_157_16 : Ev X 157 16 ls st h Q ↔ onR (gl ls 0) (fun z => Ev X 157 17 ls (vr z :: st) h Q) := R_al rfl (Or.inl rfl)
theorem e_157_17 {x : Nat} : Ev X 157 17 ls (vr x :: st) h Q ↔ (X.1 x = 12 ∧ Ev X 157 18 ls (vr (X.2.2.1 x 7) :: st) h Q) := R_gr rfl
theorem e_157_18 : Ev X 157 18 ls st h Q ↔ Ev X 157 19 ls (vi 400 :: st) h Q := R_kc rfl (Or.inr (Or.inr ⟨rfl, by decide⟩))
theorem e_157_19 : Ev X 157 19 ls st h Q ↔ onR (gl ls 0) (fun z => Ev X 157 20 ls (vr z :: st) h Q) := R_al rfl (Or.inl rfl)
theorem e_157_20 {x : Nat} : Ev X 157 20 ls (vr x :: st) h Q ↔ (X.1 x = 12 ∧ Ev X 157 21 ls (vi (h.2 x 9) :: st) h Q) := R_gi rfl
theorem e_157_21 {x y : Int} : Ev X 157 21 ls (vi y :: vi x :: st) h Q ↔ ((inR (x * y)) ∧ Ev X 157 22 ls (vi (x * y) :: st) h Q) := R_mul rfl
theorem e_157_22 : Ev X 157 22 ls st h Q ↔ onR (gl ls 0) (fun z => Ev X 157 23 ls (vr z :: st) h Q) := R_al rfl (Or.inl rfl)
theorem e_157_23 {x : Nat} : Ev X 157 23 ls (vr x :: st) h Q ↔ (X.1 x = 12 ∧ Ev X 157 24 ls (vr (X.2.2.1 x 6) :: st) h Q) := R_gr rfl
theorem e_157_24 : Ev X 157 24 ls st h Q ↔ Ev X 157 25 ls (vi 0 :: st) h Q := R_kc rfl (Or.inl ⟨Or.inl rfl, by decide⟩)
theorem e_157_25 {rest : List xV} {a0 : Nat} {a1 : Int} {a2 : Nat} {a3 : Int} : Ev X 157 25 ls ((vi a3) :: (vr a2) :: (vi a1) :: (vr a0) :: rest) h Q ↔ (wd rest ≤ 8 ∧ Cl X 155 [vr a0, vi a1, vr a2, vi a3] h (fun r h2 => Ev X 157 26 ls (r.toList ++ rest) h2 Q)) := R_cs (as := [vr a0, vi a1, vr a2, vi a3]) (k2 := 155) rfl rfl (Nat.le_of_ble_eq_true rfl)
theorem e_157_26 : Ev X 157 26 ls st h Q ↔ onR (gl ls 0) (fun z => Ev X 157 27 ls (vr z :: st) h Q) := R_al rfl (Or.inl rfl)
theorem e_157_27 : Ev X 157 27 ls st h Q ↔ onR (gl ls 0) (fun z => Ev X 157 28 ls (vr z :: st) h Q) := R_al rfl (Or.inl rfl)
theorem e_157_28 {x : Nat} : Ev X 157 28 ls (vr x :: st) h Q ↔ (X.1 x = 12 ∧ Ev X 157 29 ls (vr (X.2.2.1 x 8) :: st) h Q) := R_gr rfl
theorem e_157_29 : Ev X 157 29 ls st h Q ↔ onR (gl ls 0) (fun z => Ev X 157 30 ls (vr z :: st) h Q) := R_al rfl (Or.inl rfl)
theorem e_157_30 {x : Nat} : Ev X 157 30 ls (vr x :: st) h Q ↔ (X.1 x = 12 ∧ Ev X 157 31 ls (vi (h.2 x 9) :: st) h Q) := R_gi rfl
theorem e_157_31 {x : Nat} {j : Int} : Ev X 157 31 ls (vi j :: vr x :: st) h Q ↔ (((X.1 x = 13 ∨ X.1 x = 20) ∧ 0 ≤ j ∧ j < X.2.1 x) ∧ Ev X 157 32 ls (vi (h.1 x j.toNat) :: st) h Q) := R_ia rfl
theorem e_157_32 {rest : List xV} {a0 : Int} {o : Nat} : Ev X 157 32 ls ((vi a0) :: vr o :: rest) h Q ↔ ((X.1 o = 12 ∧ wd rest ≤ 8) ∧ Cl X 153 [vr o, vi a0] h (fun r h2 => Ev X 157 33 ls (r.toList ++ rest) h2 Q)) := R_cv (x := o) (as := [vi a0]) (k2 := 153) rfl rfl (Nat.le_of_ble_eq_true rfl)
theorem e_157_33 {z : Int} : Ev X 157 33 ls [vi z] h Q ↔ Q (some (vi z)) h := R_ir rfl
-- 158: CellRowsModel.cellAt(I)I
theorem e_158_0 : Ev X 158 0 ls st h Q ↔ Ev X 158 1 ls (vi 36 :: st) h Q := R_kc rfl (Or.inr (Or.inl ⟨rfl, by decide⟩))
theorem e_158_1 : Ev X 158 1 ls st h Q ↔ Ev X 158 2 ls (vi 7 :: st) h Q := R_kc rfl (Or.inr (Or.inl ⟨rfl, by decide⟩))
theorem e_158_2 : Ev X 158 2 ls st h Q ↔ onI (gl ls 0) (fun z => Ev X 158 3 ls (vi z :: st) h Q) := R_il rfl (Or.inl rfl)
theorem e_158_3 {x y : Int} : Ev X 158 3 ls (vi y :: vi x :: st) h Q ↔ ((inR (x * y)) ∧ Ev X 158 4 ls (vi (x * y) :: st) h Q) := R_mul rfl
theorem e_158_4 {x y : Int} : Ev X 158 4 ls (vi y :: vi x :: st) h Q ↔ ((inR (x + y)) ∧ Ev X 158 5 ls (vi (x + y) :: st) h Q) := R_add rfl
theorem e_158_5 {z : Int} : Ev X 158 5 ls [vi z] h Q ↔ Q (some (vi z)) h := R_ir rfl
-- 159: CellRowsModel.netAt(I)I
theorem e_159_0 : Ev X 159 0 ls st h Q ↔ Ev X 159 1 ls (vi 176 :: st) h Q := R_kc rfl (Or.inr (Or.inr ⟨rfl, by decide⟩))
theorem e_159_1 : Ev X 159 1 ls st h Q ↔ Ev X 159 2 ls (vi 14 :: st) h Q := R_kc rfl (Or.inr (Or.inl ⟨rfl, by decide⟩))
theorem e_159_2 : Ev X 159 2 ls st h Q ↔ onI (gl ls 0) (fun z => Ev X 159 3 ls (vi z :: st) h Q) := R_il rfl (Or.inl rfl)
theorem e_159_3 {x y : Int} : Ev X 159 3 ls (vi y :: vi x :: st) h Q ↔ ((inR (x * y)) ∧ Ev X 159 4 ls (vi (x * y) :: st) h Q) := R_mul rfl
theorem e_159_4 {x y : Int} : Ev X 159 4 ls (vi y :: vi x :: st) h Q ↔ ((inR (x + y)) ∧ Ev X 159 5 ls (vi (x + y) :: st) h Q) := R_add rfl
theorem e_159_5 {z : Int} : Ev X 159 5 ls [vi z] h Q ↔ Q (some (vi z)) h := R_ir rfl
-- 160: CellRowsModel.width(I)I
theorem e_160_0 : Ev X 160 0 ls st h Q ↔ onR (gl ls 0) (fun z => Ev X 160 1 ls (vr z :: st) h Q) := R_al rfl (Or.inl rfl)
theorem e_160_1 {x : Nat} : Ev X 160 1 ls (vr x :: st) h Q ↔ (X.1 x = 12 ∧ Ev X 160 2 ls (vr (X.2.2.1 x 6) :: st) h Q) := R_gr rfl
theorem e_160_2 : Ev X 160 2 ls st h Q ↔ onI (gl ls 1) (fun z => Ev X 160 3 ls (vi z :: st) h Q) := R_il rfl (Or.inl rfl)
theorem e_160_3 {rest : List xV} {a0 : Int} : Ev X 160 3 ls ((vi a0) :: rest) h Q ↔ (wd rest ≤ 8 ∧ Cl X 158 [vi a0] h (fun r h2 => Ev X 160 4 ls (r.toList ++ rest) h2 Q)) := R_cs (as := [vi a0]) (k2 := 158) rfl rfl (Nat.le_of_ble_eq_true rfl)
theorem e_160_4 {x : Nat} {j : Int} : Ev X 160 4 ls (vi j :: vr x :: st) h Q ↔ (((X.1 x = 13 ∨ X.1 x = 20) ∧ 0 ≤ j ∧ j < X.2.1 x) ∧ Ev X 160 5 ls (vi (h.1 x j.toNat) :: st) h Q) := R_ia rfl
theorem e_160_5 {z : Int} : Ev X 160 5 ls [vi z] h Q ↔ Q (some (vi z)) h := R_ir rfl
-- 161: CellRowsModel.fenceOf(I)I
theorem e_161_0 : Ev X 161 0 ls st h Q ↔ onR (gl ls 0) (fun z => Ev X 161 1 ls (vr z :: st) h Q) := R_al rfl (Or.inl rfl)
theorem e_161_1 {x : Nat} : Ev X 161 1 ls (vr x :: st) h Q ↔ (X.1 x = 12 ∧ Ev X 161 2 ls (vr (X.2.2.1 x 6) :: st) h Q) := R_gr rfl
theorem e_161_2 : Ev X 161 2 ls st h Q ↔ onI (gl ls 1) (fun z => Ev X 161 3 ls (vi z :: st) h Q) := R_il rfl (Or.inl rfl)
theorem e_161_3 {rest : List xV} {a0 : Int} : Ev X 161 3 ls ((vi a0) :: rest) h Q ↔ (wd rest ≤ 8 ∧ Cl X 158 [vi a0] h (fun r h2 => Ev X 161 4 ls (r.toList ++ rest) h2 Q)) := R_cs (as := [vi a0]) (k2 := 158) rfl rfl (Nat.le_of_ble_eq_true rfl)
theorem e_161_4 : Ev X 161 4 ls st h Q ↔ Ev X 161 5 ls (vi 1 :: st) h Q := R_kc rfl (Or.inl ⟨Or.inl rfl, by decide⟩)
theorem e_161_5 {x y : Int} : Ev X 161 5 ls (vi y :: vi x :: st) h Q ↔ ((inR (x + y)) ∧ Ev X 161 6 ls (vi (x + y) :: st) h Q) := R_add rfl
theorem e_161_6 {x : Nat} {j : Int} : Ev X 161 6 ls (vi j :: vr x :: st) h Q ↔ (((X.1 x = 13 ∨ X.1 x = 20) ∧ 0 ≤ j ∧ j < X.2.1 x) ∧ Ev X 161 7 ls (vi (h.1 x j.toNat) :: st) h Q) := R_ia rfl
theorem e_161_7 {z : Int} : Ev X 161 7 ls [vi z] h Q ↔ Q (some (vi z)) h := R_ir rfl
-- 162: CellRowsModel.isFixed(I)Z
theorem e_162_0 : Ev X 162 0 ls st h Q ↔ onR (gl ls 0) (fun z => Ev X 162 1 ls (vr z :: st) h Q) := R_al rfl (Or.inl rfl)
theorem e_162_1 {x : Nat} : Ev X 162 1 ls (vr x :: st) h Q ↔ (X.1 x = 12 ∧ Ev X 162 2 ls (vr (X.2.2.1 x 6) :: st) h Q) := R_gr rfl
theorem e_162_2 : Ev X 162 2 ls st h Q ↔ onI (gl ls 1) (fun z => Ev X 162 3 ls (vi z :: st) h Q) := R_il rfl (Or.inl rfl)
theorem e_162_3 {rest : List xV} {a0 : Int} : Ev X 162 3 ls ((vi a0) :: rest) h Q ↔ (wd rest ≤ 8 ∧ Cl X 158 [vi a0] h (fun r h2 => Ev X 162 4 ls (r.toList ++ rest) h2 Q)) := R_cs (as := [vi a0]) (k2 := 158) rfl rfl (Nat.le_of_ble_eq_true rfl)
theorem e_162_4 : Ev X 162 4 ls st h Q ↔ Ev X 162 5 ls (vi 2 :: st) h Q := R_kc rfl (Or.inl ⟨Or.inl rfl, by decide⟩)
theorem e_162_5 {x y : Int} : Ev X 162 5 ls (vi y :: vi x :: st) h Q ↔ ((inR (x + y)) ∧ Ev X 162 6 ls (vi (x + y) :: st) h Q) := R_add rfl
theorem e_162_6 {x : Nat} {j : Int} : Ev X 162 6 ls (vi j :: vr x :: st) h Q ↔ (((X.1 x = 13 ∨ X.1 x = 20) ∧ 0 ≤ j ∧ j < X.2.1 x) ∧ Ev X 162 7 ls (vi (h.1 x j.toNat) :: st) h Q) := R_ia rfl
theorem e_162_7 : Ev X 162 7 ls st h Q ↔ Ev X 162 8 ls (vi 1 :: st) h Q := R_kc rfl (Or.inl ⟨Or.inl rfl, by decide⟩)
theorem e_162_8 {x y : Int} : Ev X 162 8 ls (vi y :: vi x :: st) h Q ↔ (if ¬ x = y then Ev X 162 11 ls st h Q else Ev X 162 9 ls st h Q) := R_icne rfl
theorem e_162_9 : Ev X 162 9 ls st h Q ↔ Ev X 162 10 ls (vi 1 :: st) h Q := R_kc rfl (Or.inl ⟨Or.inl rfl, by decide⟩)
theorem e_162_10 : Ev X 162 10 ls st h Q ↔ Ev X 162 12 ls st h Q := R_go rfl
theorem e_162_11 : Ev X 162 11 ls st h Q ↔ Ev X 162 12 ls (vi 0 :: st) h Q := R_kc rfl (Or.inl ⟨Or.inl rfl, by decide⟩)
theorem e_162_12 {z : Int} : Ev X 162 12 ls [vi z] h Q ↔ ((z = 0 ∨ z = 1) ∧ Q (some (vi z)) h) := R_zr rfl
-- 163: CellRowsModel.hasSpot(I)Z
theorem e_163_0 : Ev X 163 0 ls st h Q ↔ onR (gl ls 0) (fun z => Ev X 163 1 ls (vr z :: st) h Q) := R_al rfl (Or.inl rfl)
theorem e_163_1 {x : Nat} : Ev X 163 1 ls (vr x :: st) h Q ↔ (X.1 x = 12 ∧ Ev X 163 2 ls (vr (X.2.2.1 x 6) :: st) h Q) := R_gr rfl
theorem e_163_2 : Ev X 163 2 ls st h Q ↔ onI (gl ls 1) (fun z => Ev X 163 3 ls (vi z :: st) h Q) := R_il rfl (Or.inl rfl)
theorem e_163_3 {rest : List xV} {a0 : Int} : Ev X 163 3 ls ((vi a0) :: rest) h Q ↔ (wd rest ≤ 8 ∧ Cl X 158 [vi a0] h (fun r h2 => Ev X 163 4 ls (r.toList ++ rest) h2 Q)) := R_cs (as := [vi a0]) (k2 := 158) rfl rfl (Nat.le_of_ble_eq_true rfl)
theorem e_163_4 : Ev X 163 4 ls st h Q ↔ Ev X 163 5 ls (vi 5 :: st) h Q := R_kc rfl (Or.inl ⟨Or.inl rfl, by decide⟩)
theorem e_163_5 {x y : Int} : Ev X 163 5 ls (vi y :: vi x :: st) h Q ↔ ((inR (x + y)) ∧ Ev X 163 6 ls (vi (x + y) :: st) h Q) := R_add rfl
theorem e_163_6 {x : Nat} {j : Int} : Ev X 163 6 ls (vi j :: vr x :: st) h Q ↔ (((X.1 x = 13 ∨ X.1 x = 20) ∧ 0 ≤ j ∧ j < X.2.1 x) ∧ Ev X 163 7 ls (vi (h.1 x j.toNat) :: st) h Q) := R_ia rfl
theorem e_163_7 : Ev X 163 7 ls st h Q ↔ Ev X 163 8 ls (vi (-1) :: st) h Q := R_kc rfl (Or.inl ⟨Or.inl rfl, by decide⟩)
theorem e_163_8 {x y : Int} : Ev X 163 8 ls (vi y :: vi x :: st) h Q ↔ (if x = y then Ev X 163 11 ls st h Q else Ev X 163 9 ls st h Q) := R_iceq rfl
theorem e_163_9 : Ev X 163 9 ls st h Q ↔ Ev X 163 10 ls (vi 1 :: st) h Q := R_kc rfl (Or.inl ⟨Or.inl rfl, by decide⟩)
theorem e_163_10 : Ev X 163 10 ls st h Q ↔ Ev X 163 12 ls st h Q := R_go rfl
theorem e_163_11 : Ev X 163 11 ls st h Q ↔ Ev X 163 12 ls (vi 0 :: st) h Q := R_kc rfl (Or.inl ⟨Or.inl rfl, by decide⟩)
theorem e_163_12 {z : Int} : Ev X 163 12 ls [vi z] h Q ↔ ((z = 0 ∨ z = 1) ∧ Q (some (vi z)) h) := R_zr rfl
-- 164: CellRowsModel.isMoving(I)Z
theorem e_164_0 : Ev X 164 0 ls st h Q ↔ onR (gl ls 0) (fun z => Ev X 164 1 ls (vr z :: st) h Q) := R_al rfl (Or.inl rfl)
theorem e_164_1 : Ev X 164 1 ls st h Q ↔ onI (gl ls 1) (fun z => Ev X 164 2 ls (vi z :: st) h Q) := R_il rfl (Or.inl rfl)
theorem e_164_2 {rest : List xV} {a0 : Int} {o : Nat} : Ev X 164 2 ls ((vi a0) :: vr o :: rest) h Q ↔ ((X.1 o = 12 ∧ wd rest ≤ 8) ∧ Cl X 162 [vr o, vi a0] h (fun r h2 => Ev X 164 3 ls (r.toList ++ rest) h2 Q)) := R_cv (x := o) (as := [vi a0]) (k2 := 162) rfl rfl (Nat.le_of_ble_eq_true rfl)
theorem e_164_3 {x : Int} : Ev X 164 3 ls (vi x :: st) h Q ↔ (if ¬ x = 0 then Ev X 164 10 ls st h Q else Ev X 164 4 ls st h Q) := R_ifne rfl
theorem e_164_4 : Ev X 164 4 ls st h Q ↔ onR (gl ls 0) (fun z => Ev X 164 5 ls (vr z :: st) h Q) := R_al rfl (Or.inl rfl)
theorem e_164_5 : Ev X 164 5 ls st h Q ↔ onI (gl ls 1) (fun z => Ev X 164 6 ls (vi z :: st) h Q) := R_il rfl (Or.inl rfl)
theorem e_164_6 {rest : List xV} {a0 : Int} {o : Nat} : Ev X 164 6 ls ((vi a0) :: vr o :: rest) h Q ↔ ((X.1 o = 12 ∧ wd rest ≤ 8) ∧ Cl X 163 [vr o, vi a0] h (fun r h2 => Ev X 164 7 ls (r.toList ++ rest) h2 Q)) := R_cv (x := o) (as := [vi a0]) (k2 := 163) rfl rfl (Nat.le_of_ble_eq_true rfl)
theorem e_164_7 {x : Int} : Ev X 164 7 ls (vi x :: st) h Q ↔ (if x = 0 then Ev X 164 10 ls st h Q else Ev X 164 8 ls st h Q) := R_ifeq rfl
theorem e_164_8 : Ev X 164 8 ls st h Q ↔ Ev X 164 9 ls (vi 1 :: st) h Q := R_kc rfl (Or.inl ⟨Or.inl rfl, by decide⟩)
theorem e_164_9 : Ev X 164 9 ls st h Q ↔ Ev X 164 11 ls st h Q := R_go rfl
theorem e_164_10 : Ev X 164 10 ls st h Q ↔ Ev X 164 11 ls (vi 0 :: st) h Q := R_kc rfl (Or.inl ⟨Or.inl rfl, by decide⟩)
theorem e_164_11 {z : Int} : Ev X 164 11 ls [vi z] h Q ↔ ((z = 0 ∨ z = 1) ∧ Q (some (vi z)) h) := R_zr rfl
-- 165: CellRowsModel.lose(I)V
theorem e_165_0 : Ev X 165 0 ls st h Q ↔ onR (gl ls 0) (fun z => Ev X 165 1 ls (vr z :: st) h Q) := R_al rfl (Or.inl rfl)
theorem e_165_1 {x : Nat} : Ev X 165 1 ls (vr x :: st) h Q ↔ (X.1 x = 12 ∧ Ev X 165 2 ls (vr (X.2.2.1 x 6) :: st) h Q) := R_gr rfl
theorem e_165_2 : Ev X 165 2 ls st h Q ↔ onI (gl ls 1) (fun z => Ev X 165 3 ls (vi z :: st) h Q) := R_il rfl (Or.inl rfl)
theorem e_165_3 {rest : List xV} {a0 : Int} : Ev X 165 3 ls ((vi a0) :: rest) h Q ↔ (wd rest ≤ 8 ∧ Cl X 158 [vi a0] h (fun r h2 => Ev X 165 4 ls (r.toList ++ rest) h2 Q)) := R_cs (as := [vi a0]) (k2 := 158) rfl rfl (Nat.le_of_ble_eq_true rfl)
theorem e_165_4 : Ev X 165 4 ls st h Q ↔ Ev X 165 5 ls (vi 5 :: st) h Q := R_kc rfl (Or.inl ⟨Or.inl rfl, by decide⟩)
theorem e_165_5 {x y : Int} : Ev X 165 5 ls (vi y :: vi x :: st) h Q ↔ ((inR (x + y)) ∧ Ev X 165 6 ls (vi (x + y) :: st) h Q) := R_add rfl
theorem e_165_6 : Ev X 165 6 ls st h Q ↔ Ev X 165 7 ls (vi (-1) :: st) h Q := R_kc rfl (Or.inl ⟨Or.inl rfl, by decide⟩)
theorem e_165_7 {x : Nat} {j v : Int} : Ev X 165 7 ls (vi v :: vi j :: vr x :: st) h Q ↔ ((X.1 x = 13 ∧ 0 ≤ j ∧ j < X.2.1 x) ∧ Ev X 165 8 ls st (up2 h.1 x j.toNat v, h.2) Q) := R_ias rfl
theorem e_165_8 : Ev X 165 8 ls st h Q ↔ onR (gl ls 0) (fun z => Ev X 165 9 ls (vr z :: st) h Q) := R_al rfl (Or.inl rfl)
theorem e_165_9 {x : Nat} : Ev X 165 9 ls (vr x :: st) h Q ↔ (X.1 x = 12 ∧ Ev X 165 10 ls (vr (X.2.2.1 x 6) :: st) h Q) := R_gr rfl
theorem e_165_10 : Ev X 165 10 ls st h Q ↔ onI (gl ls 1) (fun z => Ev X 165 11 ls (vi z :: st) h Q) := R_il rfl (Or.inl rfl)
theorem e_165_11 {rest : List xV} {a0 : Int} : Ev X 165 11 ls ((vi a0) :: rest) h Q ↔ (wd rest ≤ 8 ∧ Cl X 158 [vi a0] h (fun r h2 => Ev X 165 12 ls (r.toList ++ rest) h2 Q)) := R_cs (as := [vi a0]) (k2 := 158) rfl rfl (Nat.le_of_ble_eq_true rfl)
theorem e_165_12 : Ev X 165 12 ls st h Q ↔ Ev X 165 13 ls (vi 6 :: st) h Q := R_kc rfl (Or.inr (Or.inl ⟨rfl, by decide⟩))
theorem e_165_13 {x y : Int} : Ev X 165 13 ls (vi y :: vi x :: st) h Q ↔ ((inR (x + y)) ∧ Ev X 165 14 ls (vi (x + y) :: st) h Q) := R_add rfl
theorem e_165_14 : Ev X 165 14 ls st h Q ↔ Ev X 165 15 ls (vi (-1) :: st) h Q := R_kc rfl (Or.inl ⟨Or.inl rfl, by decide⟩)
theorem e_165_15 {x : Nat} {j v : Int} : Ev X 165 15 ls (vi v :: vi j :: vr x :: st) h Q ↔ ((X.1 x = 13 ∧ 0 ≤ j ∧ j < X.2.1 x) ∧ Ev X 165 16 ls st (up2 h.1 x j.toNat v, h.2) Q) := R_ias rfl
theorem e_165_16 : Ev X 165 16 ls [] h Q ↔ Q none h := R_vr rfl
-- 166: CellRowsModel.give(III)V
theorem e_166_0 : Ev X 166 0 ls st h Q ↔ onR (gl ls 0) (fun z => Ev X 166 1 ls (vr z :: st) h Q) := R_al rfl (Or.inl rfl)
theorem e_166_1 {x : Nat} : Ev X 166 1 ls (vr x :: st) h Q ↔ (X.1 x = 12 ∧ Ev X 166 2 ls (vr (X.2.2.1 x 6) :: st) h Q) := R_gr rfl
theorem e_166_2 : Ev X 166 2 ls st h Q ↔ onI (gl ls 1) (fun z => Ev X 166 3 ls (vi z :: st) h Q) := R_il rfl (Or.inl rfl)
theorem e_166_3 {rest : List xV} {a0 : Int} : Ev X 166 3 ls ((vi a0) :: rest) h Q ↔ (wd rest ≤ 8 ∧ Cl X 158 [vi a0] h (fun r h2 => Ev X 166 4 ls (r.toList ++ rest) h2 Q)) := R_cs (as := [vi a0]) (k2 := 158) rfl rfl (Nat.le_of_ble_eq_true rfl)
theorem e_166_4 : Ev X 166 4 ls st h Q ↔ Ev X 166 5 ls (vi 5 :: st) h Q := R_kc rfl (Or.inl ⟨Or.inl rfl, by decide⟩)
theorem e_166_5 {x y : Int} : Ev X 166 5 ls (vi y :: vi x :: st) h Q ↔ ((inR (x + y)) ∧ Ev X 166 6 ls (vi (x + y) :: st) h Q) := R_add rfl
theorem e_166_6 : Ev X 166 6 ls st h Q ↔ onI (gl ls 2) (fun z => Ev X 166 7 ls (vi z :: st) h Q) := R_il rfl (Or.inl rfl)
theorem e_166_7 {x : Nat} {j v : Int} : Ev X 166 7 ls (vi v :: vi j :: vr x :: st) h Q ↔ ((X.1 x = 13 ∧ 0 ≤ j ∧ j < X.2.1 x) ∧ Ev X 166 8 ls st (up2 h.1 x j.toNat v, h.2) Q) := R_ias rfl
theorem e_166_8 : Ev X 166 8 ls st h Q ↔ onR (gl ls 0) (fun z => Ev X 166 9 ls (vr z :: st) h Q) := R_al rfl (Or.inl rfl)
theorem e_166_9 {x : Nat} : Ev X 166 9 ls (vr x :: st) h Q ↔ (X.1 x = 12 ∧ Ev X 166 10 ls (vr (X.2.2.1 x 6) :: st) h Q) := R_gr rfl
theorem e_166_10 : Ev X 166 10 ls st h Q ↔ onI (gl ls 1) (fun z => Ev X 166 11 ls (vi z :: st) h Q) := R_il rfl (Or.inl rfl)
theorem e_166_11 {rest : List xV} {a0 : Int} : Ev X 166 11 ls ((vi a0) :: rest) h Q ↔ (wd rest ≤ 8 ∧ Cl X 158 [vi a0] h (fun r h2 => Ev X 166 12 ls (r.toList ++ rest) h2 Q)) := R_cs (as := [vi a0]) (k2 := 158) rfl rfl (Nat.le_of_ble_eq_true rfl)
theorem e_166_12 : Ev X 166 12 ls st h Q ↔ Ev X 166 13 ls (vi 6 :: st) h Q := R_kc rfl (Or.inr (Or.inl ⟨rfl, by decide⟩))
theorem e_166_13 {x y : Int} : Ev X 166 13 ls (vi y :: vi x :: st) h Q ↔ ((inR (x + y)) ∧ Ev X 166 14 ls (vi (x + y) :: st) h Q) := R_add rfl
theorem e_166_14 : Ev X 166 14 ls st h Q ↔ onI (gl ls 3) (fun z => Ev X 166 15 ls (vi z :: st) h Q) := R_il rfl (Or.inl rfl)
theorem e_166_15 {x : Nat} {j v : Int} : Ev X 166 15 ls (vi v :: vi j :: vr x :: st) h Q ↔ ((X.1 x = 13 ∧ 0 ≤ j ∧ j < X.2.1 x) ∧ Ev X 166 16 ls st (up2 h.1 x j.toNat v, h.2) Q) := R_ias rfl
theorem e_166_16 : Ev X 166 16 ls [] h Q ↔ Q none h := R_vr rfl
-- 167: CellRowsModel.isCell(I)Z
theorem e_167_0 : Ev X 167 0 ls st h Q ↔ onI (gl ls 1) (fun z => Ev X 167 1 ls (vi z :: st) h Q) := R_il rfl (Or.inl rfl)
theorem e_167_1 {x : Int} : Ev X 167 1 ls (vi x :: st) h Q ↔ Ev X 167 2 ls (vl x :: st) h Q := R_i2l rfl
theorem e_167_2 : Ev X 167 2 ls st h Q ↔ Ev X 167 3 ls (vl 0 :: st) h Q := R_lc rfl ⟨Or.inl rfl, by decide⟩
theorem e_167_3 : Ev X 167 3 ls st h Q ↔ onR (gl ls 0) (fun z => Ev X 167 4 ls (vr z :: st) h Q) := R_al rfl (Or.inl rfl)
theorem e_167_4 {x : Nat} : Ev X 167 4 ls (vr x :: st) h Q ↔ (X.1 x = 12 ∧ Ev X 167 5 ls (vr (X.2.2.1 x 6) :: st) h Q) := R_gr rfl
theorem e_167_5 : Ev X 167 5 ls st h Q ↔ Ev X 167 6 ls (vi 2 :: st) h Q := R_kc rfl (Or.inl ⟨Or.inl rfl, by decide⟩)
theorem e_167_6 {x : Nat} {j : Int} : Ev X 167 6 ls (vi j :: vr x :: st) h Q ↔ (((X.1 x = 13 ∨ X.1 x = 20) ∧ 0 ≤ j ∧ j < X.2.1 x) ∧ Ev X 167 7 ls (vi (h.1 x j.toNat) :: st) h Q) := R_ia rfl
theorem e_167_7 {x : Int} : Ev X 167 7 ls (vi x :: st) h Q ↔ Ev X 167 8 ls (vl x :: st) h Q := R_i2l rfl
theorem e_167_8 : Ev X 167 8 ls st h Q ↔ Ev X 167 9 ls (vl 1 :: st) h Q := R_lc rfl ⟨Or.inl rfl, by decide⟩
theorem e_167_9 {x y : Int} : Ev X 167 9 ls (vl y :: vl x :: st) h Q ↔ ((inL (x - y)) ∧ Ev X 167 10 ls (vl (x - y) :: st) h Q) := R_lsub rfl
theorem e_167_10 {rest : List xV} {a0 : Int} {a1 : Int} {a2 : Int} : Ev X 167 10 ls ((vl a2) :: (vl a1) :: (vl a0) :: rest) h Q ↔ (wd rest ≤ 8 ∧ Cl X 149 [vl a0, vl a1, vl a2] h (fun r h2 => Ev X 167 11 ls (r.toList ++ rest) h2 Q)) := R_cs (as := [vl a0, vl a1, vl a2]) (k2 := 149) rfl rfl (Nat.le_of_ble_eq_true rfl)
theorem e_167_11 {z : Int} : Ev X 167 11 ls [vi z] h Q ↔ ((z = 0 ∨ z = 1) ∧ Q (some (vi z)) h) := R_zr rfl
-- 168: CellRowsModel.isNet(I)Z
theorem e_168_0 : Ev X 168 0 ls st h Q ↔ onI (gl ls 1) (fun z => Ev X 168 1 ls (vi z :: st) h Q) := R_il rfl (Or.inl rfl)
theorem e_168_1 {x : Int} : Ev X 168 1 ls (vi x :: st) h Q ↔ Ev X 168 2 ls (vl x :: st) h Q := R_i2l rfl
theorem e_168_2 : Ev X 168 2 ls st h Q ↔ Ev X 168 3 ls (vl 0 :: st) h Q := R_lc rfl ⟨Or.inl rfl, by decide⟩
theorem e_168_3 : Ev X 168 3 ls st h Q ↔ onR (gl ls 0) (fun z => Ev X 168 4 ls (vr z :: st) h Q) := R_al rfl (Or.inl rfl)
theorem e_168_4 {x : Nat} : Ev X 168 4 ls (vr x :: st) h Q ↔ (X.1 x = 12 ∧ Ev X 168 5 ls (vr (X.2.2.1 x 6) :: st) h Q) := R_gr rfl
theorem e_168_5 : Ev X 168 5 ls st h Q ↔ Ev X 168 6 ls (vi 3 :: st) h Q := R_kc rfl (Or.inl ⟨Or.inl rfl, by decide⟩)
theorem e_168_6 {x : Nat} {j : Int} : Ev X 168 6 ls (vi j :: vr x :: st) h Q ↔ (((X.1 x = 13 ∨ X.1 x = 20) ∧ 0 ≤ j ∧ j < X.2.1 x) ∧ Ev X 168 7 ls (vi (h.1 x j.toNat) :: st) h Q) := R_ia rfl
theorem e_168_7 {x : Int} : Ev X 168 7 ls (vi x :: st) h Q ↔ Ev X 168 8 ls (vl x :: st) h Q := R_i2l rfl
theorem e_168_8 : Ev X 168 8 ls st h Q ↔ Ev X 168 9 ls (vl 1 :: st) h Q := R_lc rfl ⟨Or.inl rfl, by decide⟩
theorem e_168_9 {x y : Int} : Ev X 168 9 ls (vl y :: vl x :: st) h Q ↔ ((inL (x - y)) ∧ Ev X 168 10 ls (vl (x - y) :: st) h Q) := R_lsub rfl
theorem e_168_10 {rest : List xV} {a0 : Int} {a1 : Int} {a2 : Int} : Ev X 168 10 ls ((vl a2) :: (vl a1) :: (vl a0) :: rest) h Q ↔ (wd rest ≤ 8 ∧ Cl X 149 [vl a0, vl a1, vl a2] h (fun r h2 => Ev X 168 11 ls (r.toList ++ rest) h2 Q)) := R_cs (as := [vl a0, vl a1, vl a2]) (k2 := 149) rfl rfl (Nat.le_of_ble_eq_true rfl)
theorem e_168_11 {z : Int} : Ev X 168 11 ls [vi z] h Q ↔ ((z = 0 ∨ z = 1) ∧ Q (some (vi z)) h) := R_zr rfl
-- 169: CellRowsModel.isFence(I)Z
theorem e_169_0 : Ev X 169 0 ls st h Q ↔ onI (gl ls 1) (fun z => Ev X 169 1 ls (vi z :: st) h Q) := R_il rfl (Or.inl rfl)
theorem e_169_1 {x : Int} : Ev X 169 1 ls (vi x :: st) h Q ↔ Ev X 169 2 ls (vl x :: st) h Q := R_i2l rfl
theorem e_169_2 : Ev X 169 2 ls st h Q ↔ Ev X 169 3 ls (vl 0 :: st) h Q := R_lc rfl ⟨Or.inl rfl, by decide⟩
theorem e_169_3 : Ev X 169 3 ls st h Q ↔ onR (gl ls 0) (fun z => Ev X 169 4 ls (vr z :: st) h Q) := R_al rfl (Or.inl rfl)
theorem e_169_4 {x : Nat} : Ev X 169 4 ls (vr x :: st) h Q ↔ (X.1 x = 12 ∧ Ev X 169 5 ls (vr (X.2.2.1 x 6) :: st) h Q) := R_gr rfl
theorem e_169_5 : Ev X 169 5 ls st h Q ↔ Ev X 169 6 ls (vi 1 :: st) h Q := R_kc rfl (Or.inl ⟨Or.inl rfl, by decide⟩)
theorem e_169_6 {x : Nat} {j : Int} : Ev X 169 6 ls (vi j :: vr x :: st) h Q ↔ (((X.1 x = 13 ∨ X.1 x = 20) ∧ 0 ≤ j ∧ j < X.2.1 x) ∧ Ev X 169 7 ls (vi (h.1 x j.toNat) :: st) h Q) := R_ia rfl
theorem e_169_7 {x : Int} : Ev X 169 7 ls (vi x :: st) h Q ↔ Ev X 169 8 ls (vl x :: st) h Q := R_i2l rfl
theorem e_169_8 : Ev X 169 8 ls st h Q ↔ Ev X 169 9 ls (vl 1 :: st) h Q := R_lc rfl ⟨Or.inl rfl, by decide⟩
theorem e_169_9 {x y : Int} : Ev X 169 9 ls (vl y :: vl x :: st) h Q ↔ ((inL (x - y)) ∧ Ev X 169 10 ls (vl (x - y) :: st) h Q) := R_lsub rfl
theorem e_169_10 {rest : List xV} {a0 : Int} {a1 : Int} {a2 : Int} : Ev X 169 10 ls ((vl a2) :: (vl a1) :: (vl a0) :: rest) h Q ↔ (wd rest ≤ 8 ∧ Cl X 149 [vl a0, vl a1, vl a2] h (fun r h2 => Ev X 169 11 ls (r.toList ++ rest) h2 Q)) := R_cs (as := [vl a0, vl a1, vl a2]) (k2 := 149) rfl rfl (Nat.le_of_ble_eq_true rfl)
theorem e_169_11 {z : Int} : Ev X 169 11 ls [vi z] h Q ↔ ((z = 0 ∨ z = 1) ∧ Q (some (vi z)) h) := R_zr rfl
-- 170: CellRowsModel.isSite(II)Z
theorem e_170_0 : Ev X 170 0 ls st h Q ↔ onI (gl ls 1) (fun z => Ev X 170 1 ls (vi z :: st) h Q) := R_il rfl (Or.inl rfl)
theorem e_170_1 {x : Int} : Ev X 170 1 ls (vi x :: st) h Q ↔ Ev X 170 2 ls (vl x :: st) h Q := R_i2l rfl
theorem e_170_2 : Ev X 170 2 ls st h Q ↔ Ev X 170 3 ls (vl 0 :: st) h Q := R_lc rfl ⟨Or.inl rfl, by decide⟩
theorem e_170_3 : Ev X 170 3 ls st h Q ↔ onR (gl ls 0) (fun z => Ev X 170 4 ls (vr z :: st) h Q) := R_al rfl (Or.inl rfl)
theorem e_170_4 {x : Nat} : Ev X 170 4 ls (vr x :: st) h Q ↔ (X.1 x = 12 ∧ Ev X 170 5 ls (vi (h.2 x 2) :: st) h Q) := R_gi rfl
theorem e_170_5 {x : Int} : Ev X 170 5 ls (vi x :: st) h Q ↔ Ev X 170 6 ls (vl x :: st) h Q := R_i2l rfl
theorem e_170_6 : Ev X 170 6 ls st h Q ↔ Ev X 170 7 ls (vl 1 :: st) h Q := R_lc rfl ⟨Or.inl rfl, by decide⟩
theorem e_170_7 {x y : Int} : Ev X 170 7 ls (vl y :: vl x :: st) h Q ↔ ((inL (x - y)) ∧ Ev X 170 8 ls (vl (x - y) :: st) h Q) := R_lsub rfl
theorem e_170_8 {rest : List xV} {a0 : Int} {a1 : Int} {a2 : Int} : Ev X 170 8 ls ((vl a2) :: (vl a1) :: (vl a0) :: rest) h Q ↔ (wd rest ≤ 8 ∧ Cl X 149 [vl a0, vl a1, vl a2] h (fun r h2 => Ev X 170 9 ls (r.toList ++ rest) h2 Q)) := R_cs (as := [vl a0, vl a1, vl a2]) (k2 := 149) rfl rfl (Nat.le_of_ble_eq_true rfl)
theorem e_170_9 {x : Int} : Ev X 170 9 ls (vi x :: st) h Q ↔ (if x = 0 then Ev X 170 22 ls st h Q else Ev X 170 10 ls st h Q) := R_ifeq rfl
theorem e_170_10 : Ev X 170 10 ls st h Q ↔ onI (gl ls 2) (fun z => Ev X 170 11 ls (vi z :: st) h Q) := R_il rfl (Or.inl rfl)
theorem e_170_11 {x : Int} : Ev X 170 11 ls (vi x :: st) h Q ↔ Ev X 170 12 ls (vl x :: st) h Q := R_i2l rfl
theorem e_170_12 : Ev X 170 12 ls st h Q ↔ Ev X 170 13 ls (vl 0 :: st) h Q := R_lc rfl ⟨Or.inl rfl, by decide⟩
theorem e_170_13 : Ev X 170 13 ls st h Q ↔ onR (gl ls 0) (fun z => Ev X 170 14 ls (vr z :: st) h Q) := R_al rfl (Or.inl rfl)
theorem e_170_14 {x : Nat} : Ev X 170 14 ls (vr x :: st) h Q ↔ (X.1 x = 12 ∧ Ev X 170 15 ls (vi (h.2 x 3) :: st) h Q) := R_gi rfl
theorem e_170_15 {x : Int} : Ev X 170 15 ls (vi x :: st) h Q ↔ Ev X 170 16 ls (vl x :: st) h Q := R_i2l rfl
theorem e_170_16 : Ev X 170 16 ls st h Q ↔ Ev X 170 17 ls (vl 1 :: st) h Q := R_lc rfl ⟨Or.inl rfl, by decide⟩
theorem e_170_17 {x y : Int} : Ev X 170 17 ls (vl y :: vl x :: st) h Q ↔ ((inL (x - y)) ∧ Ev X 170 18 ls (vl (x - y) :: st) h Q) := R_lsub rfl
theorem e_170_18 {rest : List xV} {a0 : Int} {a1 : Int} {a2 : Int} : Ev X 170 18 ls ((vl a2) :: (vl a1) :: (vl a0) :: rest) h Q ↔ (wd rest ≤ 8 ∧ Cl X 149 [vl a0, vl a1, vl a2] h (fun r h2 => Ev X 170 19 ls (r.toList ++ rest) h2 Q)) := R_cs (as := [vl a0, vl a1, vl a2]) (k2 := 149) rfl rfl (Nat.le_of_ble_eq_true rfl)
theorem e_170_19 {x : Int} : Ev X 170 19 ls (vi x :: st) h Q ↔ (if x = 0 then Ev X 170 22 ls st h Q else Ev X 170 20 ls st h Q) := R_ifeq rfl
theorem e_170_20 : Ev X 170 20 ls st h Q ↔ Ev X 170 21 ls (vi 1 :: st) h Q := R_kc rfl (Or.inl ⟨Or.inl rfl, by decide⟩)
theorem e_170_21 : Ev X 170 21 ls st h Q ↔ Ev X 170 23 ls st h Q := R_go rfl
theorem e_170_22 : Ev X 170 22 ls st h Q ↔ Ev X 170 23 ls (vi 0 :: st) h Q := R_kc rfl (Or.inl ⟨Or.inl rfl, by decide⟩)
theorem e_170_23 {z : Int} : Ev X 170 23 ls [vi z] h Q ↔ ((z = 0 ∨ z = 1) ∧ Q (some (vi z)) h) := R_zr rfl
-- 171: CellRowsModel.isBarred(II)Z
theorem e_171_0 : Ev X 171 0 ls st h Q ↔ Ev X 171 1 ls (vi 0 :: st) h Q := R_kc rfl (Or.inl ⟨Or.inl rfl, by decide⟩)
theorem e_171_1 {x : Int} : Ev X 171 1 ls (vi x :: st) h Q ↔ (stOK ls 3 = true ∧ Ev X 171 2 (ls.set 3 (some (vi x))) st h Q) := R_is rfl (Or.inl rfl)
theorem e_171_2 : Ev X 171 2 ls st h Q ↔ Ev X 171 3 ls (vi 0 :: st) h Q := R_kc rfl (Or.inl ⟨Or.inl rfl, by decide⟩)
theorem e_171_3 {x : Int} : Ev X 171 3 ls (vi x :: st) h Q ↔ (stOK ls 4 = true ∧ Ev X 171 4 (ls.set 4 (some (vi x))) st h Q) := R_is rfl (Or.inr rfl)
theorem e_171_4 : Ev X 171 4 ls st h Q ↔ onI (gl ls 4) (fun z => Ev X 171 5 ls (vi z :: st) h Q) := R_il rfl (Or.inr rfl)
theorem e_171_5 : Ev X 171 5 ls st h Q ↔ onR (gl ls 0) (fun z => Ev X 171 6 ls (vr z :: st) h Q) := R_al rfl (Or.inl rfl)
theorem e_171_6 {x : Nat} : Ev X 171 6 ls (vr x :: st) h Q ↔ (X.1 x = 12 ∧ Ev X 171 7 ls (vr (X.2.2.1 x 6) :: st) h Q) := R_gr rfl
theorem e_171_7 : Ev X 171 7 ls st h Q ↔ Ev X 171 8 ls (vi 0 :: st) h Q := R_kc rfl (Or.inl ⟨Or.inl rfl, by decide⟩)
theorem e_171_8 {x : Nat} {j : Int} : Ev X 171 8 ls (vi j :: vr x :: st) h Q ↔ (((X.1 x = 13 ∨ X.1 x = 20) ∧ 0 ≤ j ∧ j < X.2.1 x) ∧ Ev X 171 9 ls (vi (h.1 x j.toNat) :: st) h Q) := R_ia rfl
theorem e_171_9 {x y : Int} : Ev X 171 9 ls (vi y :: vi x :: st) h Q ↔ (if y ≤ x then Ev X 171 72 ls st h Q else Ev X 171 10 ls st h Q) := R_icge rfl
theorem e_171_10 : Ev X 171 10 ls st h Q ↔ Ev X 171 11 ls (vi 4 :: st) h Q := R_kc rfl (Or.inl ⟨Or.inl rfl, by decide⟩)
theorem e_171_11 : Ev X 171 11 ls st h Q ↔ Ev X 171 12 ls (vi 5 :: st) h Q := R_kc rfl (Or.inl ⟨Or.inl rfl, by decide⟩)
theorem e_171_12 : Ev X 171 12 ls st h Q ↔ onI (gl ls 4) (fun z => Ev X 171 13 ls (vi z :: st) h Q) := R_il rfl (Or.inr rfl)
theorem e_171_13 {x y : Int} : Ev X 171 13 ls (vi y :: vi x :: st) h Q ↔ ((inR (x * y)) ∧ Ev X 171 14 ls (vi (x * y) :: st) h Q) := R_mul rfl
theorem e_171_14 {x y : Int} : Ev X 171 14 ls (vi y :: vi x :: st) h Q ↔ ((inR (x + y)) ∧ Ev X 171 15 ls (vi (x + y) :: st) h Q) := R_add rfl
theorem e_171_15 {x : Int} : Ev X 171 15 ls (vi x :: st) h Q ↔ (stOK ls 5 = true ∧ Ev X 171 16 (ls.set 5 (some (vi x))) st h Q) := R_is rfl (Or.inr rfl)
theorem e_171_16 : Ev X 171 16 ls st h Q ↔ onI (gl ls 3) (fun z => Ev X 171 17 ls (vi z :: st) h Q) := R_il rfl (Or.inl rfl)
theorem e_171_17 {x : Int} : Ev X 171 17 ls (vi x :: st) h Q ↔ (if ¬ x = 0 then Ev X 171 66 ls st h Q else Ev X 171 18 ls st h Q) := R_ifne rfl
theorem e_171_18 : Ev X 171 18 ls st h Q ↔ onI (gl ls 1) (fun z => Ev X 171 19 ls (vi z :: st) h Q) := R_il rfl (Or.inl rfl)
theorem e_171_19 {x : Int} : Ev X 171 19 ls (vi x :: st) h Q ↔ Ev X 171 20 ls (vl x :: st) h Q := R_i2l rfl
theorem e_171_20 : Ev X 171 20 ls st h Q ↔ onR (gl ls 0) (fun z => Ev X 171 21 ls (vr z :: st) h Q) := R_al rfl (Or.inl rfl)
theorem e_171_21 {x : Nat} : Ev X 171 21 ls (vr x :: st) h Q ↔ (X.1 x = 12 ∧ Ev X 171 22 ls (vr (X.2.2.1 x 6) :: st) h Q) := R_gr rfl
theorem e_171_22 : Ev X 171 22 ls st h Q ↔ onI (gl ls 5) (fun z => Ev X 171 23 ls (vi z :: st) h Q) := R_il rfl (Or.inr rfl)
theorem e_171_23 {x : Nat} {j : Int} : Ev X 171 23 ls (vi j :: vr x :: st) h Q ↔ (((X.1 x = 13 ∨ X.1 x = 20) ∧ 0 ≤ j ∧ j < X.2.1 x) ∧ Ev X 171 24 ls (vi (h.1 x j.toNat) :: st) h Q) := R_ia rfl
theorem e_171_24 {x : Int} : Ev X 171 24 ls (vi x :: st) h Q ↔ Ev X 171 25 ls (vl x :: st) h Q := R_i2l rfl
theorem e_171_25 : Ev X 171 25 ls st h Q ↔ onR (gl ls 0) (fun z => Ev X 171 26 ls (vr z :: st) h Q) := R_al rfl (Or.inl rfl)
theorem e_171_26 {x : Nat} : Ev X 171 26 ls (vr x :: st) h Q ↔ (X.1 x = 12 ∧ Ev X 171 27 ls (vr (X.2.2.1 x 6) :: st) h Q) := R_gr rfl
theorem e_171_27 : Ev X 171 27 ls st h Q ↔ onI (gl ls 5) (fun z => Ev X 171 28 ls (vi z :: st) h Q) := R_il rfl (Or.inr rfl)
theorem e_171_28 : Ev X 171 28 ls st h Q ↔ Ev X 171 29 ls (vi 1 :: st) h Q := R_kc rfl (Or.inl ⟨Or.inl rfl, by decide⟩)
theorem e_171_29 {x y : Int} : Ev X 171 29 ls (vi y :: vi x :: st) h Q ↔ ((inR (x + y)) ∧ Ev X 171 30 ls (vi (x + y) :: st) h Q) := R_add rfl
theorem e_171_30 {x : Nat} {j : Int} : Ev X 171 30 ls (vi j :: vr x :: st) h Q ↔ (((X.1 x = 13 ∨ X.1 x = 20) ∧ 0 ≤ j ∧ j < X.2.1 x) ∧ Ev X 171 31 ls (vi (h.1 x j.toNat) :: st) h Q) := R_ia rfl
theorem e_171_31 {x : Int} : Ev X 171 31 ls (vi x :: st) h Q ↔ Ev X 171 32 ls (vl x :: st) h Q := R_i2l rfl
theorem e_171_32 {rest : List xV} {a0 : Int} {a1 : Int} {a2 : Int} : Ev X 171 32 ls ((vl a2) :: (vl a1) :: (vl a0) :: rest) h Q ↔ (wd rest ≤ 8 ∧ Cl X 149 [vl a0, vl a1, vl a2] h (fun r h2 => Ev X 171 33 ls (r.toList ++ rest) h2 Q)) := R_cs (as := [vl a0, vl a1, vl a2]) (k2 := 149) rfl rfl (Nat.le_of_ble_eq_true rfl)
theorem e_171_33 {x : Int} : Ev X 171 33 ls (vi x :: st) h Q ↔ (if x = 0 then Ev X 171 68 ls st h Q else Ev X 171 34 ls st h Q) := R_ifeq rfl
theorem e_171_34 : Ev X 171 34 ls st h Q ↔ onI (gl ls 2) (fun z => Ev X 171 35 ls (vi z :: st) h Q) := R_il rfl (Or.inl rfl)
theorem e_171_35 {x : Int} : Ev X 171 35 ls (vi x :: st) h Q ↔ Ev X 171 36 ls (vl x :: st) h Q := R_i2l rfl
theorem e_171_36 : Ev X 171 36 ls st h Q ↔ onR (gl ls 0) (fun z => Ev X 171 37 ls (vr z :: st) h Q) := R_al rfl (Or.inl rfl)
theorem e_171_37 {x : Nat} : Ev X 171 37 ls (vr x :: st) h Q ↔ (X.1 x = 12 ∧ Ev X 171 38 ls (vr (X.2.2.1 x 6) :: st) h Q) := R_gr rfl
theorem e_171_38 : Ev X 171 38 ls st h Q ↔ onI (gl ls 5) (fun z => Ev X 171 39 ls (vi z :: st) h Q) := R_il rfl (Or.inr rfl)
theorem e_171_39 : Ev X 171 39 ls st h Q ↔ Ev X 171 40 ls (vi 2 :: st) h Q := R_kc rfl (Or.inl ⟨Or.inl rfl, by decide⟩)
theorem e_171_40 {x y : Int} : Ev X 171 40 ls (vi y :: vi x :: st) h Q ↔ ((inR (x + y)) ∧ Ev X 171 41 ls (vi (x + y) :: st) h Q) := R_add rfl
theorem e_171_41 {x : Nat} {j : Int} : Ev X 171 41 ls (vi j :: vr x :: st) h Q ↔ (((X.1 x = 13 ∨ X.1 x = 20) ∧ 0 ≤ j ∧ j < X.2.1 x) ∧ Ev X 171 42 ls (vi (h.1 x j.toNat) :: st) h Q) := R_ia rfl
theorem e_171_42 : Ev X 171 42 ls st h Q ↔ onR (gl ls 0) (fun z => Ev X 171 43 ls (vr z :: st) h Q) := R_al rfl (Or.inl rfl)
theorem e_171_43 {x : Nat} : Ev X 171 43 ls (vr x :: st) h Q ↔ (X.1 x = 12 ∧ Ev X 171 44 ls (vr (X.2.2.1 x 6) :: st) h Q) := R_gr rfl
theorem e_171_44 : Ev X 171 44 ls st h Q ↔ onI (gl ls 5) (fun z => Ev X 171 45 ls (vi z :: st) h Q) := R_il rfl (Or.inr rfl)
theorem e_171_45 : Ev X 171 45 ls st h Q ↔ Ev X 171 46 ls (vi 4 :: st) h Q := R_kc rfl (Or.inl ⟨Or.inl rfl, by decide⟩)
theorem e_171_46 {x y : Int} : Ev X 171 46 ls (vi y :: vi x :: st) h Q ↔ ((inR (x + y)) ∧ Ev X 171 47 ls (vi (x + y) :: st) h Q) := R_add rfl
theorem e_171_47 {x : Nat} {j : Int} : Ev X 171 47 ls (vi j :: vr x :: st) h Q ↔ (((X.1 x = 13 ∨ X.1 x = 20) ∧ 0 ≤ j ∧ j < X.2.1 x) ∧ Ev X 171 48 ls (vi (h.1 x j.toNat) :: st) h Q) := R_ia rfl
theorem e_171_48 {x y : Int} : Ev X 171 48 ls (vi y :: vi x :: st) h Q ↔ ((inR (x - y)) ∧ Ev X 171 49 ls (vi (x - y) :: st) h Q) := R_sub rfl
theorem e_171_49 {x : Int} : Ev X 171 49 ls (vi x :: st) h Q ↔ Ev X 171 50 ls (vl x :: st) h Q := R_i2l rfl
theorem e_171_50 : Ev X 171 50 ls st h Q ↔ onR (gl ls 0) (fun z => Ev X 171 51 ls (vr z :: st) h Q) := R_al rfl (Or.inl rfl)
theorem e_171_51 {x : Nat} : Ev X 171 51 ls (vr x :: st) h Q ↔ (X.1 x = 12 ∧ Ev X 171 52 ls (vr (X.2.2.1 x 6) :: st) h Q) := R_gr rfl
theorem e_171_52 : Ev X 171 52 ls st h Q ↔ onI (gl ls 5) (fun z => Ev X 171 53 ls (vi z :: st) h Q) := R_il rfl (Or.inr rfl)
theorem e_171_53 : Ev X 171 53 ls st h Q ↔ Ev X 171 54 ls (vi 3 :: st) h Q := R_kc rfl (Or.inl ⟨Or.inl rfl, by decide⟩)
theorem e_171_54 {x y : Int} : Ev X 171 54 ls (vi y :: vi x :: st) h Q ↔ ((inR (x + y)) ∧ Ev X 171 55 ls (vi (x + y) :: st) h Q) := R_add rfl
theorem e_171_55 {x : Nat} {j : Int} : Ev X 171 55 ls (vi j :: vr x :: st) h Q ↔ (((X.1 x = 13 ∨ X.1 x = 20) ∧ 0 ≤ j ∧ j < X.2.1 x) ∧ Ev X 171 56 ls (vi (h.1 x j.toNat) :: st) h Q) := R_ia rfl
theorem e_171_56 : Ev X 171 56 ls st h Q ↔ onR (gl ls 0) (fun z => Ev X 171 57 ls (vr z :: st) h Q) := R_al rfl (Or.inl rfl)
theorem e_171_57 {x : Nat} : Ev X 171 57 ls (vr x :: st) h Q ↔ (X.1 x = 12 ∧ Ev X 171 58 ls (vr (X.2.2.1 x 6) :: st) h Q) := R_gr rfl
theorem e_171_58 : Ev X 171 58 ls st h Q ↔ onI (gl ls 5) (fun z => Ev X 171 59 ls (vi z :: st) h Q) := R_il rfl (Or.inr rfl)
theorem e_171_59 : Ev X 171 59 ls st h Q ↔ Ev X 171 60 ls (vi 4 :: st) h Q := R_kc rfl (Or.inl ⟨Or.inl rfl, by decide⟩)
theorem e_171_60 {x y : Int} : Ev X 171 60 ls (vi y :: vi x :: st) h Q ↔ ((inR (x + y)) ∧ Ev X 171 61 ls (vi (x + y) :: st) h Q) := R_add rfl
theorem e_171_61 {x : Nat} {j : Int} : Ev X 171 61 ls (vi j :: vr x :: st) h Q ↔ (((X.1 x = 13 ∨ X.1 x = 20) ∧ 0 ≤ j ∧ j < X.2.1 x) ∧ Ev X 171 62 ls (vi (h.1 x j.toNat) :: st) h Q) := R_ia rfl
theorem e_171_62 {x y : Int} : Ev X 171 62 ls (vi y :: vi x :: st) h Q ↔ ((inR (x + y)) ∧ Ev X 171 63 ls (vi (x + y) :: st) h Q) := R_add rfl
theorem e_171_63 {x : Int} : Ev X 171 63 ls (vi x :: st) h Q ↔ Ev X 171 64 ls (vl x :: st) h Q := R_i2l rfl
theorem e_171_64 {rest : List xV} {a0 : Int} {a1 : Int} {a2 : Int} : Ev X 171 64 ls ((vl a2) :: (vl a1) :: (vl a0) :: rest) h Q ↔ (wd rest ≤ 8 ∧ Cl X 149 [vl a0, vl a1, vl a2] h (fun r h2 => Ev X 171 65 ls (r.toList ++ rest) h2 Q)) := R_cs (as := [vl a0, vl a1, vl a2]) (k2 := 149) rfl rfl (Nat.le_of_ble_eq_true rfl)
theorem e_171_65 {x : Int} : Ev X 171 65 ls (vi x :: st) h Q ↔ (if x = 0 then Ev X 171 68 ls st h Q else Ev X 171 66 ls st h Q) := R_ifeq rfl
theorem e_171_66 : Ev X 171 66 ls st h Q ↔ Ev X 171 67 ls (vi 1 :: st) h Q := R_kc rfl (Or.inl ⟨Or.inl rfl, by decide⟩)
theorem e_171_67 : Ev X 171 67 ls st h Q ↔ Ev X 171 69 ls st h Q := R_go rfl
theorem e_171_68 : Ev X 171 68 ls st h Q ↔ Ev X 171 69 ls (vi 0 :: st) h Q := R_kc rfl (Or.inl ⟨Or.inl rfl, by decide⟩)
theorem e_171_69 {x : Int} : Ev X 171 69 ls (vi x :: st) h Q ↔ (stOK ls 3 = true ∧ Ev X 171 70 (ls.set 3 (some (vi x))) st h Q) := R_is rfl (Or.inl rfl)
theorem e_171_70 : Ev X 171 70 ls st h Q ↔ onI (gl ls 4) (fun x => (stOK ls 4 = true ∧ inR (x + 1)) ∧ Ev X 171 71 (ls.set 4 (some (vi (x + 1)))) st h Q) := R_inc rfl
theorem e_171_71 : Ev X 171 71 ls st h Q ↔ Ev X 171 4 ls st h Q := R_go rfl
theorem e_171_72 : Ev X 171 72 ls st h Q ↔ onI (gl ls 3) (fun z => Ev X 171 73 ls (vi z :: st) h Q) := R_il rfl (Or.inl rfl)
theorem e_171_73 {z : Int} : Ev X 171 73 ls [vi z] h Q ↔ ((z = 0 ∨ z = 1) ∧ Q (some (vi z)) h) := R_zr rfl
-- 172: CellRowsModel.isInFence(III)Z
theorem e_172_0 : Ev X 172 0 ls st h Q ↔ Ev X 172 1 ls (vi 24 :: st) h Q := R_kc rfl (Or.inr (Or.inl ⟨rfl, by decide⟩))
theorem e_172_1 : Ev X 172 1 ls st h Q ↔ Ev X 172 2 ls (vi 4 :: st) h Q := R_kc rfl (Or.inl ⟨Or.inl rfl, by decide⟩)
theorem e_172_2 : Ev X 172 2 ls st h Q ↔ onI (gl ls 1) (fun z => Ev X 172 3 ls (vi z :: st) h Q) := R_il rfl (Or.inl rfl)
theorem e_172_3 {x y : Int} : Ev X 172 3 ls (vi y :: vi x :: st) h Q ↔ ((inR (x * y)) ∧ Ev X 172 4 ls (vi (x * y) :: st) h Q) := R_mul rfl
theorem e_172_4 {x y : Int} : Ev X 172 4 ls (vi y :: vi x :: st) h Q ↔ ((inR (x + y)) ∧ Ev X 172 5 ls (vi (x + y) :: st) h Q) := R_add rfl
theorem e_172_5 {x : Int} : Ev X 172 5 ls (vi x :: st) h Q ↔ (stOK ls 4 = true ∧ Ev X 172 6 (ls.set 4 (some (vi x))) st h Q) := R_is rfl (Or.inr rfl)
theorem e_172_6 : Ev X 172 6 ls st h Q ↔ onI (gl ls 2) (fun z => Ev X 172 7 ls (vi z :: st) h Q) := R_il rfl (Or.inl rfl)
theorem e_172_7 {x : Int} : Ev X 172 7 ls (vi x :: st) h Q ↔ Ev X 172 8 ls (vl x :: st) h Q := R_i2l rfl
theorem e_172_8 : Ev X 172 8 ls st h Q ↔ onR (gl ls 0) (fun z => Ev X 172 9 ls (vr z :: st) h Q) := R_al rfl (Or.inl rfl)
theorem e_172_9 {x : Nat} : Ev X 172 9 ls (vr x :: st) h Q ↔ (X.1 x = 12 ∧ Ev X 172 10 ls (vr (X.2.2.1 x 6) :: st) h Q) := R_gr rfl
theorem e_172_10 : Ev X 172 10 ls st h Q ↔ onI (gl ls 4) (fun z => Ev X 172 11 ls (vi z :: st) h Q) := R_il rfl (Or.inr rfl)
theorem e_172_11 {x : Nat} {j : Int} : Ev X 172 11 ls (vi j :: vr x :: st) h Q ↔ (((X.1 x = 13 ∨ X.1 x = 20) ∧ 0 ≤ j ∧ j < X.2.1 x) ∧ Ev X 172 12 ls (vi (h.1 x j.toNat) :: st) h Q) := R_ia rfl
theorem e_172_12 {x : Int} : Ev X 172 12 ls (vi x :: st) h Q ↔ Ev X 172 13 ls (vl x :: st) h Q := R_i2l rfl
theorem e_172_13 : Ev X 172 13 ls st h Q ↔ onR (gl ls 0) (fun z => Ev X 172 14 ls (vr z :: st) h Q) := R_al rfl (Or.inl rfl)
theorem e_172_14 {x : Nat} : Ev X 172 14 ls (vr x :: st) h Q ↔ (X.1 x = 12 ∧ Ev X 172 15 ls (vr (X.2.2.1 x 6) :: st) h Q) := R_gr rfl
theorem e_172_15 : Ev X 172 15 ls st h Q ↔ onI (gl ls 4) (fun z => Ev X 172 16 ls (vi z :: st) h Q) := R_il rfl (Or.inr rfl)
theorem e_172_16 : Ev X 172 16 ls st h Q ↔ Ev X 172 17 ls (vi 1 :: st) h Q := R_kc rfl (Or.inl ⟨Or.inl rfl, by decide⟩)
theorem e_172_17 {x y : Int} : Ev X 172 17 ls (vi y :: vi x :: st) h Q ↔ ((inR (x + y)) ∧ Ev X 172 18 ls (vi (x + y) :: st) h Q) := R_add rfl
theorem e_172_18 {x : Nat} {j : Int} : Ev X 172 18 ls (vi j :: vr x :: st) h Q ↔ (((X.1 x = 13 ∨ X.1 x = 20) ∧ 0 ≤ j ∧ j < X.2.1 x) ∧ Ev X 172 19 ls (vi (h.1 x j.toNat) :: st) h Q) := R_ia rfl
theorem e_172_19 {x : Int} : Ev X 172 19 ls (vi x :: st) h Q ↔ Ev X 172 20 ls (vl x :: st) h Q := R_i2l rfl
theorem e_172_20 {rest : List xV} {a0 : Int} {a1 : Int} {a2 : Int} : Ev X 172 20 ls ((vl a2) :: (vl a1) :: (vl a0) :: rest) h Q ↔ (wd rest ≤ 8 ∧ Cl X 149 [vl a0, vl a1, vl a2] h (fun r h2 => Ev X 172 21 ls (r.toList ++ rest) h2 Q)) := R_cs (as := [vl a0, vl a1, vl a2]) (k2 := 149) rfl rfl (Nat.le_of_ble_eq_true rfl)
theorem e_172_21 {x : Int} : Ev X 172 21 ls (vi x :: st) h Q ↔ (if x = 0 then Ev X 172 42 ls st h Q else Ev X 172 22 ls st h Q) := R_ifeq rfl
theorem e_172_22 : Ev X 172 22 ls st h Q ↔ onI (gl ls 3) (fun z => Ev X 172 23 ls (vi z :: st) h Q) := R_il rfl (Or.inl rfl)
theorem e_172_23 {x : Int} : Ev X 172 23 ls (vi x :: st) h Q ↔ Ev X 172 24 ls (vl x :: st) h Q := R_i2l rfl
theorem e_172_24 : Ev X 172 24 ls st h Q ↔ onR (gl ls 0) (fun z => Ev X 172 25 ls (vr z :: st) h Q) := R_al rfl (Or.inl rfl)
theorem e_172_25 {x : Nat} : Ev X 172 25 ls (vr x :: st) h Q ↔ (X.1 x = 12 ∧ Ev X 172 26 ls (vr (X.2.2.1 x 6) :: st) h Q) := R_gr rfl
theorem e_172_26 : Ev X 172 26 ls st h Q ↔ onI (gl ls 4) (fun z => Ev X 172 27 ls (vi z :: st) h Q) := R_il rfl (Or.inr rfl)
theorem e_172_27 : Ev X 172 27 ls st h Q ↔ Ev X 172 28 ls (vi 2 :: st) h Q := R_kc rfl (Or.inl ⟨Or.inl rfl, by decide⟩)
theorem e_172_28 {x y : Int} : Ev X 172 28 ls (vi y :: vi x :: st) h Q ↔ ((inR (x + y)) ∧ Ev X 172 29 ls (vi (x + y) :: st) h Q) := R_add rfl
theorem e_172_29 {x : Nat} {j : Int} : Ev X 172 29 ls (vi j :: vr x :: st) h Q ↔ (((X.1 x = 13 ∨ X.1 x = 20) ∧ 0 ≤ j ∧ j < X.2.1 x) ∧ Ev X 172 30 ls (vi (h.1 x j.toNat) :: st) h Q) := R_ia rfl
theorem e_172_30 {x : Int} : Ev X 172 30 ls (vi x :: st) h Q ↔ Ev X 172 31 ls (vl x :: st) h Q := R_i2l rfl
theorem e_172_31 : Ev X 172 31 ls st h Q ↔ onR (gl ls 0) (fun z => Ev X 172 32 ls (vr z :: st) h Q) := R_al rfl (Or.inl rfl)
theorem e_172_32 {x : Nat} : Ev X 172 32 ls (vr x :: st) h Q ↔ (X.1 x = 12 ∧ Ev X 172 33 ls (vr (X.2.2.1 x 6) :: st) h Q) := R_gr rfl
theorem e_172_33 : Ev X 172 33 ls st h Q ↔ onI (gl ls 4) (fun z => Ev X 172 34 ls (vi z :: st) h Q) := R_il rfl (Or.inr rfl)
theorem e_172_34 : Ev X 172 34 ls st h Q ↔ Ev X 172 35 ls (vi 3 :: st) h Q := R_kc rfl (Or.inl ⟨Or.inl rfl, by decide⟩)
theorem e_172_35 {x y : Int} : Ev X 172 35 ls (vi y :: vi x :: st) h Q ↔ ((inR (x + y)) ∧ Ev X 172 36 ls (vi (x + y) :: st) h Q) := R_add rfl
theorem e_172_36 {x : Nat} {j : Int} : Ev X 172 36 ls (vi j :: vr x :: st) h Q ↔ (((X.1 x = 13 ∨ X.1 x = 20) ∧ 0 ≤ j ∧ j < X.2.1 x) ∧ Ev X 172 37 ls (vi (h.1 x j.toNat) :: st) h Q) := R_ia rfl
theorem e_172_37 {x : Int} : Ev X 172 37 ls (vi x :: st) h Q ↔ Ev X 172 38 ls (vl x :: st) h Q := R_i2l rfl
theorem e_172_38 {rest : List xV} {a0 : Int} {a1 : Int} {a2 : Int} : Ev X 172 38 ls ((vl a2) :: (vl a1) :: (vl a0) :: rest) h Q ↔ (wd rest ≤ 8 ∧ Cl X 149 [vl a0, vl a1, vl a2] h (fun r h2 => Ev X 172 39 ls (r.toList ++ rest) h2 Q)) := R_cs (as := [vl a0, vl a1, vl a2]) (k2 := 149) rfl rfl (Nat.le_of_ble_eq_true rfl)
theorem e_172_39 {x : Int} : Ev X 172 39 ls (vi x :: st) h Q ↔ (if x = 0 then Ev X 172 42 ls st h Q else Ev X 172 40 ls st h Q) := R_ifeq rfl
theorem e_172_40 : Ev X 172 40 ls st h Q ↔ Ev X 172 41 ls (vi 1 :: st) h Q := R_kc rfl (Or.inl ⟨Or.inl rfl, by decide⟩)
theorem e_172_41 : Ev X 172 41 ls st h Q ↔ Ev X 172 43 ls st h Q := R_go rfl
theorem e_172_42 : Ev X 172 42 ls st h Q ↔ Ev X 172 43 ls (vi 0 :: st) h Q := R_kc rfl (Or.inl ⟨Or.inl rfl, by decide⟩)
theorem e_172_43 {z : Int} : Ev X 172 43 ls [vi z] h Q ↔ ((z = 0 ∨ z = 1) ∧ Q (some (vi z)) h) := R_zr rfl
-- 173: CellRowsModel.fenceThere(II)I
theorem e_173_0 : Ev X 173 0 ls st h Q ↔ Ev X 173 1 ls (vi (-1) :: st) h Q := R_kc rfl (Or.inl ⟨Or.inl rfl, by decide⟩)
theorem e_173_1 {x : Int} : Ev X 173 1 ls (vi x :: st) h Q ↔ (stOK ls 3 = true ∧ Ev X 173 2 (ls.set 3 (some (vi x))) st h Q) := R_is rfl (Or.inl rfl)
theorem e_173_2 : Ev X 173 2 ls st h Q ↔ Ev X 173 3 ls (vi 0 :: st) h Q := R_kc rfl (Or.inl ⟨Or.inl rfl, by decide⟩)
theorem e_173_3 {x : Int} : Ev X 173 3 ls (vi x :: st) h Q ↔ (stOK ls 4 = true ∧ Ev X 173 4 (ls.set 4 (some (vi x))) st h Q) := R_is rfl (Or.inr rfl)
theorem e_173_4 : Ev X 173 4 ls st h Q ↔ onI (gl ls 4) (fun z => Ev X 173 5 ls (vi z :: st) h Q) := R_il rfl (Or.inr rfl)
theorem e_173_5 : Ev X 173 5 ls st h Q ↔ onR (gl ls 0) (fun z => Ev X 173 6 ls (vr z :: st) h Q) := R_al rfl (Or.inl rfl)
theorem e_173_6 {x : Nat} : Ev X 173 6 ls (vr x :: st) h Q ↔ (X.1 x = 12 ∧ Ev X 173 7 ls (vr (X.2.2.1 x 6) :: st) h Q) := R_gr rfl
theorem e_173_7 : Ev X 173 7 ls st h Q ↔ Ev X 173 8 ls (vi 1 :: st) h Q := R_kc rfl (Or.inl ⟨Or.inl rfl, by decide⟩)
theorem e_173_8 {x : Nat} {j : Int} : Ev X 173 8 ls (vi j :: vr x :: st) h Q ↔ (((X.1 x = 13 ∨ X.1 x = 20) ∧ 0 ≤ j ∧ j < X.2.1 x) ∧ Ev X 173 9 ls (vi (h.1 x j.toNat) :: st) h Q) := R_ia rfl
theorem e_173_9 {x y : Int} : Ev X 173 9 ls (vi y :: vi x :: st) h Q ↔ (if y ≤ x then Ev X 173 22 ls st h Q else Ev X 173 10 ls st h Q) := R_icge rfl
theorem e_173_10 : Ev X 173 10 ls st h Q ↔ onR (gl ls 0) (fun z => Ev X 173 11 ls (vr z :: st) h Q) := R_al rfl (Or.inl rfl)
theorem e_173_11 : Ev X 173 11 ls st h Q ↔ onI (gl ls 4) (fun z => Ev X 173 12 ls (vi z :: st) h Q) := R_il rfl (Or.inr rfl)
theorem e_173_12 : Ev X 173 12 ls st h Q ↔ onI (gl ls 1) (fun z => Ev X 173 13 ls (vi z :: st) h Q) := R_il rfl (Or.inl rfl)
theorem e_173_13 : Ev X 173 13 ls st h Q ↔ onI (gl ls 2) (fun z => Ev X 173 14 ls (vi z :: st) h Q) := R_il rfl (Or.inl rfl)
theorem e_173_14 {rest : List xV} {a0 : Int} {a1 : Int} {a2 : Int} {o : Nat} : Ev X 173 14 ls ((vi a2) :: (vi a1) :: (vi a0) :: vr o :: rest) h Q ↔ ((X.1 o = 12 ∧ wd rest ≤ 8) ∧ Cl X 172 [vr o, vi a0, vi a1, vi a2] h (fun r h2 => Ev X 173 15 ls (r.toList ++ rest) h2 Q)) := R_cv (x := o) (as := [vi a0, vi a1, vi a2]) (k2 := 172) rfl rfl (Nat.le_of_ble_eq_true rfl)
theorem e_173_15 {x : Int} : Ev X 173 15 ls (vi x :: st) h Q ↔ (if x = 0 then Ev X 173 18 ls st h Q else Ev X 173 16 ls st h Q) := R_ifeq rfl
theorem e_173_16 : Ev X 173 16 ls st h Q ↔ onI (gl ls 4) (fun z => Ev X 173 17 ls (vi z :: st) h Q) := R_il rfl (Or.inr rfl)
theorem e_173_17 : Ev X 173 17 ls st h Q ↔ Ev X 173 19 ls st h Q := R_go rfl
theorem e_173_18 : Ev X 173 18 ls st h Q ↔ onI (gl ls 3) (fun z => Ev X 173 19 ls (vi z :: st) h Q) := R_il rfl (Or.inl rfl)
theorem e_173_19 {x : Int} : Ev X 173 19 ls (vi x :: st) h Q ↔ (stOK ls 3 = true ∧ Ev X 173 20 (ls.set 3 (some (vi x))) st h Q) := R_is rfl (Or.inl rfl)
theorem e_173_20 : Ev X 173 20 ls st h Q ↔ onI (gl ls 4) (fun x => (stOK ls 4 = true ∧ inR (x + 1)) ∧ Ev X 173 21 (ls.set 4 (some (vi (x + 1)))) st h Q) := R_inc rfl
theorem e_173_21 : Ev X 173 21 ls st h Q ↔ Ev X 173 4 ls st h Q := R_go rfl
theorem e_173_22 : Ev X 173 22 ls st h Q ↔ onI (gl ls 3) (fun z => Ev X 173 23 ls (vi z :: st) h Q) := R_il rfl (Or.inl rfl)
theorem e_173_23 {z : Int} : Ev X 173 23 ls [vi z] h Q ↔ Q (some (vi z)) h := R_ir rfl
-- 174: CellRowsModel.covers(III)Z
theorem e_174_0 : Ev X 174 0 ls st h Q ↔ onI (gl ls 1) (fun z => Ev X 174 1 ls (vi z :: st) h Q) := R_il rfl (Or.inl rfl)
theorem e_174_1 {rest : List xV} {a0 : Int} : Ev X 174 1 ls ((vi a0) :: rest) h Q ↔ (wd rest ≤ 8 ∧ Cl X 158 [vi a0] h (fun r h2 => Ev X 174 2 ls (r.toList ++ rest) h2 Q)) := R_cs (as := [vi a0]) (k2 := 158) rfl rfl (Nat.le_of_ble_eq_true rfl)
theorem e_174_2 {x : Int} : Ev X 174 2 ls (vi x :: st) h Q ↔ (stOK ls 4 = true ∧ Ev X 174 3 (ls.set 4 (some (vi x))) st h Q) := R_is rfl (Or.inr rfl)
theorem e_174_3 : Ev X 174 3 ls st h Q ↔ onR (gl ls 0) (fun z => Ev X 174 4 ls (vr z :: st) h Q) := R_al rfl (Or.inl rfl)
theorem e_174_4 {x : Nat} : Ev X 174 4 ls (vr x :: st) h Q ↔ (X.1 x = 12 ∧ Ev X 174 5 ls (vr (X.2.2.1 x 6) :: st) h Q) := R_gr rfl
theorem e_174_5 : Ev X 174 5 ls st h Q ↔ onI (gl ls 4) (fun z => Ev X 174 6 ls (vi z :: st) h Q) := R_il rfl (Or.inr rfl)
theorem e_174_6 : Ev X 174 6 ls st h Q ↔ Ev X 174 7 ls (vi 5 :: st) h Q := R_kc rfl (Or.inl ⟨Or.inl rfl, by decide⟩)
theorem e_174_7 {x y : Int} : Ev X 174 7 ls (vi y :: vi x :: st) h Q ↔ ((inR (x + y)) ∧ Ev X 174 8 ls (vi (x + y) :: st) h Q) := R_add rfl
theorem e_174_8 {x : Nat} {j : Int} : Ev X 174 8 ls (vi j :: vr x :: st) h Q ↔ (((X.1 x = 13 ∨ X.1 x = 20) ∧ 0 ≤ j ∧ j < X.2.1 x) ∧ Ev X 174 9 ls (vi (h.1 x j.toNat) :: st) h Q) := R_ia rfl
theorem e_174_9 : Ev X 174 9 ls st h Q ↔ onI (gl ls 2) (fun z => Ev X 174 10 ls (vi z :: st) h Q) := R_il rfl (Or.inl rfl)
theorem e_174_10 {x y : Int} : Ev X 174 10 ls (vi y :: vi x :: st) h Q ↔ (if ¬ x = y then Ev X 174 38 ls st h Q else Ev X 174 11 ls st h Q) := R_icne rfl
theorem e_174_11 : Ev X 174 11 ls st h Q ↔ onI (gl ls 3) (fun z => Ev X 174 12 ls (vi z :: st) h Q) := R_il rfl (Or.inl rfl)
theorem e_174_12 {x : Int} : Ev X 174 12 ls (vi x :: st) h Q ↔ Ev X 174 13 ls (vl x :: st) h Q := R_i2l rfl
theorem e_174_13 : Ev X 174 13 ls st h Q ↔ onR (gl ls 0) (fun z => Ev X 174 14 ls (vr z :: st) h Q) := R_al rfl (Or.inl rfl)
theorem e_174_14 {x : Nat} : Ev X 174 14 ls (vr x :: st) h Q ↔ (X.1 x = 12 ∧ Ev X 174 15 ls (vr (X.2.2.1 x 6) :: st) h Q) := R_gr rfl
theorem e_174_15 : Ev X 174 15 ls st h Q ↔ onI (gl ls 4) (fun z => Ev X 174 16 ls (vi z :: st) h Q) := R_il rfl (Or.inr rfl)
theorem e_174_16 : Ev X 174 16 ls st h Q ↔ Ev X 174 17 ls (vi 6 :: st) h Q := R_kc rfl (Or.inr (Or.inl ⟨rfl, by decide⟩))
theorem e_174_17 {x y : Int} : Ev X 174 17 ls (vi y :: vi x :: st) h Q ↔ ((inR (x + y)) ∧ Ev X 174 18 ls (vi (x + y) :: st) h Q) := R_add rfl
theorem e_174_18 {x : Nat} {j : Int} : Ev X 174 18 ls (vi j :: vr x :: st) h Q ↔ (((X.1 x = 13 ∨ X.1 x = 20) ∧ 0 ≤ j ∧ j < X.2.1 x) ∧ Ev X 174 19 ls (vi (h.1 x j.toNat) :: st) h Q) := R_ia rfl
theorem e_174_19 {x : Int} : Ev X 174 19 ls (vi x :: st) h Q ↔ Ev X 174 20 ls (vl x :: st) h Q := R_i2l rfl
theorem e_174_20 : Ev X 174 20 ls st h Q ↔ onR (gl ls 0) (fun z => Ev X 174 21 ls (vr z :: st) h Q) := R_al rfl (Or.inl rfl)
theorem e_174_21 {x : Nat} : Ev X 174 21 ls (vr x :: st) h Q ↔ (X.1 x = 12 ∧ Ev X 174 22 ls (vr (X.2.2.1 x 6) :: st) h Q) := R_gr rfl
theorem e_174_22 : Ev X 174 22 ls st h Q ↔ onI (gl ls 4) (fun z => Ev X 174 23 ls (vi z :: st) h Q) := R_il rfl (Or.inr rfl)
theorem e_174_23 : Ev X 174 23 ls st h Q ↔ Ev X 174 24 ls (vi 6 :: st) h Q := R_kc rfl (Or.inr (Or.inl ⟨rfl, by decide⟩))
theorem e_174_24 {x y : Int} : Ev X 174 24 ls (vi y :: vi x :: st) h Q ↔ ((inR (x + y)) ∧ Ev X 174 25 ls (vi (x + y) :: st) h Q) := R_add rfl
theorem e_174_25 {x : Nat} {j : Int} : Ev X 174 25 ls (vi j :: vr x :: st) h Q ↔ (((X.1 x = 13 ∨ X.1 x = 20) ∧ 0 ≤ j ∧ j < X.2.1 x) ∧ Ev X 174 26 ls (vi (h.1 x j.toNat) :: st) h Q) := R_ia rfl
theorem e_174_26 : Ev X 174 26 ls st h Q ↔ onR (gl ls 0) (fun z => Ev X 174 27 ls (vr z :: st) h Q) := R_al rfl (Or.inl rfl)
theorem e_174_27 {x : Nat} : Ev X 174 27 ls (vr x :: st) h Q ↔ (X.1 x = 12 ∧ Ev X 174 28 ls (vr (X.2.2.1 x 6) :: st) h Q) := R_gr rfl
theorem e_174_28 : Ev X 174 28 ls st h Q ↔ onI (gl ls 4) (fun z => Ev X 174 29 ls (vi z :: st) h Q) := R_il rfl (Or.inr rfl)
theorem e_174_29 {x : Nat} {j : Int} : Ev X 174 29 ls (vi j :: vr x :: st) h Q ↔ (((X.1 x = 13 ∨ X.1 x = 20) ∧ 0 ≤ j ∧ j < X.2.1 x) ∧ Ev X 174 30 ls (vi (h.1 x j.toNat) :: st) h Q) := R_ia rfl
theorem e_174_30 {x y : Int} : Ev X 174 30 ls (vi y :: vi x :: st) h Q ↔ ((inR (x + y)) ∧ Ev X 174 31 ls (vi (x + y) :: st) h Q) := R_add rfl
theorem e_174_31 {x : Int} : Ev X 174 31 ls (vi x :: st) h Q ↔ Ev X 174 32 ls (vl x :: st) h Q := R_i2l rfl
theorem e_174_32 : Ev X 174 32 ls st h Q ↔ Ev X 174 33 ls (vl 1 :: st) h Q := R_lc rfl ⟨Or.inl rfl, by decide⟩
theorem e_174_33 {x y : Int} : Ev X 174 33 ls (vl y :: vl x :: st) h Q ↔ ((inL (x - y)) ∧ Ev X 174 34 ls (vl (x - y) :: st) h Q) := R_lsub rfl
theorem e_174_34 {rest : List xV} {a0 : Int} {a1 : Int} {a2 : Int} : Ev X 174 34 ls ((vl a2) :: (vl a1) :: (vl a0) :: rest) h Q ↔ (wd rest ≤ 8 ∧ Cl X 149 [vl a0, vl a1, vl a2] h (fun r h2 => Ev X 174 35 ls (r.toList ++ rest) h2 Q)) := R_cs (as := [vl a0, vl a1, vl a2]) (k2 := 149) rfl rfl (Nat.le_of_ble_eq_true rfl)
theorem e_174_35 {x : Int} : Ev X 174 35 ls (vi x :: st) h Q ↔ (if x = 0 then Ev X 174 38 ls st h Q else Ev X 174 36 ls st h Q) := R_ifeq rfl
theorem e_174_36 : Ev X 174 36 ls st h Q ↔ Ev X 174 37 ls (vi 1 :: st) h Q := R_kc rfl (Or.inl ⟨Or.inl rfl, by decide⟩)
theorem e_174_37 : Ev X 174 37 ls st h Q ↔ Ev X 174 39 ls st h Q := R_go rfl
theorem e_174_38 : Ev X 174 38 ls st h Q ↔ Ev X 174 39 ls (vi 0 :: st) h Q := R_kc rfl (Or.inl ⟨Or.inl rfl, by decide⟩)
theorem e_174_39 {z : Int} : Ev X 174 39 ls [vi z] h Q ↔ ((z = 0 ∨ z = 1) ∧ Q (some (vi z)) h) := R_zr rfl
-- 175: CellRowsModel.cellThere(IIIZ)I
theorem e_175_0 : Ev X 175 0 ls st h Q ↔ Ev X 175 1 ls (vi (-1) :: st) h Q := R_kc rfl (Or.inl ⟨Or.inl rfl, by decide⟩)
theorem e_175_1 {x : Int} : Ev X 175 1 ls (vi x :: st) h Q ↔ (stOK ls 5 = true ∧ Ev X 175 2 (ls.set 5 (some (vi x))) st h Q) := R_is rfl (Or.inr rfl)
theorem e_175_2 : Ev X 175 2 ls st h Q ↔ Ev X 175 3 ls (vi 0 :: st) h Q := R_kc rfl (Or.inl ⟨Or.inl rfl, by decide⟩)
theorem e_175_3 {x : Int} : Ev X 175 3 ls (vi x :: st) h Q ↔ (stOK ls 6 = true ∧ Ev X 175 4 (ls.set 6 (some (vi x))) st h Q) := R_is rfl (Or.inr rfl)
theorem e_175_4 : Ev X 175 4 ls st h Q ↔ onI (gl ls 6) (fun z => Ev X 175 5 ls (vi z :: st) h Q) := R_il rfl (Or.inr rfl)
theorem e_175_5 : Ev X 175 5 ls st h Q ↔ onR (gl ls 0) (fun z => Ev X 175 6 ls (vr z :: st) h Q) := R_al rfl (Or.inl rfl)
theorem e_175_6 {x : Nat} : Ev X 175 6 ls (vr x :: st) h Q ↔ (X.1 x = 12 ∧ Ev X 175 7 ls (vr (X.2.2.1 x 6) :: st) h Q) := R_gr rfl
theorem e_175_7 : Ev X 175 7 ls st h Q ↔ Ev X 175 8 ls (vi 2 :: st) h Q := R_kc rfl (Or.inl ⟨Or.inl rfl, by decide⟩)
theorem e_175_8 {x : Nat} {j : Int} : Ev X 175 8 ls (vi j :: vr x :: st) h Q ↔ (((X.1 x = 13 ∨ X.1 x = 20) ∧ 0 ≤ j ∧ j < X.2.1 x) ∧ Ev X 175 9 ls (vi (h.1 x j.toNat) :: st) h Q) := R_ia rfl
theorem e_175_9 {x y : Int} : Ev X 175 9 ls (vi y :: vi x :: st) h Q ↔ (if y ≤ x then Ev X 175 31 ls st h Q else Ev X 175 10 ls st h Q) := R_icge rfl
theorem e_175_10 : Ev X 175 10 ls st h Q ↔ onI (gl ls 6) (fun z => Ev X 175 11 ls (vi z :: st) h Q) := R_il rfl (Or.inr rfl)
theorem e_175_11 : Ev X 175 11 ls st h Q ↔ onI (gl ls 3) (fun z => Ev X 175 12 ls (vi z :: st) h Q) := R_il rfl (Or.inl rfl)
theorem e_175_12 {x y : Int} : Ev X 175 12 ls (vi y :: vi x :: st) h Q ↔ (if x = y then Ev X 175 27 ls st h Q else Ev X 175 13 ls st h Q) := R_iceq rfl
theorem e_175_13 : Ev X 175 13 ls st h Q ↔ onR (gl ls 0) (fun z => Ev X 175 14 ls (vr z :: st) h Q) := R_al rfl (Or.inl rfl)
theorem e_175_14 : Ev X 175 14 ls st h Q ↔ onI (gl ls 6) (fun z => Ev X 175 15 ls (vi z :: st) h Q) := R_il rfl (Or.inr rfl)
theorem e_175_15 : Ev X 175 15 ls st h Q ↔ onI (gl ls 1) (fun z => Ev X 175 16 ls (vi z :: st) h Q) := R_il rfl (Or.inl rfl)
theorem e_175_16 : Ev X 175 16 ls st h Q ↔ onI (gl ls 2) (fun z => Ev X 175 17 ls (vi z :: st) h Q) := R_il rfl (Or.inl rfl)
theorem e_175_17 {rest : List xV} {a0 : Int} {a1 : Int} {a2 : Int} {o : Nat} : Ev X 175 17 ls ((vi a2) :: (vi a1) :: (vi a0) :: vr o :: rest) h Q ↔ ((X.1 o = 12 ∧ wd rest ≤ 8) ∧ Cl X 174 [vr o, vi a0, vi a1, vi a2] h (fun r h2 => Ev X 175 18 ls (r.toList ++ rest) h2 Q)) := R_cv (x := o) (as := [vi a0, vi a1, vi a2]) (k2 := 174) rfl rfl (Nat.le_of_ble_eq_true rfl)
theorem e_175_18 {x : Int} : Ev X 175 18 ls (vi x :: st) h Q ↔ (if x = 0 then Ev X 175 27 ls st h Q else Ev X 175 19 ls st h Q) := R_ifeq rfl
theorem e_175_19 : Ev X 175 19 ls st h Q ↔ onI (gl ls 4) (fun z => Ev X 175 20 ls (vi z :: st) h Q) := R_il rfl (Or.inr rfl)
theorem e_175_20 {x : Int} : Ev X 175 20 ls (vi x :: st) h Q ↔ (if x = 0 then Ev X 175 25 ls st h Q else Ev X 175 21 ls st h Q) := R_ifeq rfl
theorem e_175_21 : Ev X 175 21 ls st h Q ↔ onR (gl ls 0) (fun z => Ev X 175 22 ls (vr z :: st) h Q) := R_al rfl (Or.inl rfl)
theorem e_175_22 : Ev X 175 22 ls st h Q ↔ onI (gl ls 6) (fun z => Ev X 175 23 ls (vi z :: st) h Q) := R_il rfl (Or.inr rfl)
theorem e_175_23 {rest : List xV} {a0 : Int} {o : Nat} : Ev X 175 23 ls ((vi a0) :: vr o :: rest) h Q ↔ ((X.1 o = 12 ∧ wd rest ≤ 8) ∧ Cl X 162 [vr o, vi a0] h (fun r h2 => Ev X 175 24 ls (r.toList ++ rest) h2 Q)) := R_cv (x := o) (as := [vi a0]) (k2 := 162) rfl rfl (Nat.le_of_ble_eq_true rfl)
theorem e_175_24 {x : Int} : Ev X 175 24 ls (vi x :: st) h Q ↔ (if x = 0 then Ev X 175 27 ls st h Q else Ev X 175 25 ls st h Q) := R_ifeq rfl
theorem e_175_25 : Ev X 175 25 ls st h Q ↔ onI (gl ls 6) (fun z => Ev X 175 26 ls (vi z :: st) h Q) := R_il rfl (Or.inr rfl)
theorem e_175_26 : Ev X 175 26 ls st h Q ↔ Ev X 175 28 ls st h Q := R_go rfl
theorem e_175_27 : Ev X 175 27 ls st h Q ↔ onI (gl ls 5) (fun z => Ev X 175 28 ls (vi z :: st) h Q) := R_il rfl (Or.inr rfl)
theorem e_175_28 {x : Int} : Ev X 175 28 ls (vi x :: st) h Q ↔ (stOK ls 5 = true ∧ Ev X 175 29 (ls.set 5 (some (vi x))) st h Q) := R_is rfl (Or.inr rfl)
theorem e_175_29 : Ev X 175 29 ls st h Q ↔ onI (gl ls 6) (fun x => (stOK ls 6 = true ∧ inR (x + 1)) ∧ Ev X 175 30 (ls.set 6 (some (vi (x + 1)))) st h Q) := R_inc rfl
theorem e_175_30 : Ev X 175 30 ls st h Q ↔ Ev X 175 4 ls st h Q := R_go rfl
theorem e_175_31 : Ev X 175 31 ls st h Q ↔ onI (gl ls 5) (fun z => Ev X 175 32 ls (vi z :: st) h Q) := R_il rfl (Or.inr rfl)
theorem e_175_32 {z : Int} : Ev X 175 32 ls [vi z] h Q ↔ Q (some (vi z)) h := R_ir rfl
-- 176: CellRowsModel.isLawful(IIIZ)Z
theorem e_176_0 : Ev X 176 0 ls st h Q ↔ onR (gl ls 0) (fun z => Ev X 176 1 ls (vr z :: st) h Q) := R_al rfl (Or.inl rfl)
theorem e_176_1 : Ev X 176 1 ls st h Q ↔ onI (gl ls 2) (fun z => Ev X 176 2 ls (vi z :: st) h Q) := R_il rfl (Or.inl rfl)
theorem e_176_2 : Ev X 176 2 ls st h Q ↔ onI (gl ls 3) (fun z => Ev X 176 3 ls (vi z :: st) h Q) := R_il rfl (Or.inl rfl)
theorem e_176_3 {rest : List xV} {a0 : Int} {a1 : Int} {o : Nat} : Ev X 176 3 ls ((vi a1) :: (vi a0) :: vr o :: rest) h Q ↔ ((X.1 o = 12 ∧ wd rest ≤ 8) ∧ Cl X 170 [vr o, vi a0, vi a1] h (fun r h2 => Ev X 176 4 ls (r.toList ++ rest) h2 Q)) := R_cv (x := o) (as := [vi a0, vi a1]) (k2 := 170) rfl rfl (Nat.le_of_ble_eq_true rfl)
theorem e_176_4 {x : Int} : Ev X 176 4 ls (vi x :: st) h Q ↔ (if x = 0 then Ev X 176 15 ls st h Q else Ev X 176 5 ls st h Q) := R_ifeq rfl
theorem e_176_5 : Ev X 176 5 ls st h Q ↔ onI (gl ls 3) (fun z => Ev X 176 6 ls (vi z :: st) h Q) := R_il rfl (Or.inl rfl)
theorem e_176_6 : Ev X 176 6 ls st h Q ↔ onR (gl ls 0) (fun z => Ev X 176 7 ls (vr z :: st) h Q) := R_al rfl (Or.inl rfl)
theorem e_176_7 : Ev X 176 7 ls st h Q ↔ onI (gl ls 1) (fun z => Ev X 176 8 ls (vi z :: st) h Q) := R_il rfl (Or.inl rfl)
theorem e_176_8 {rest : List xV} {a0 : Int} {o : Nat} : Ev X 176 8 ls ((vi a0) :: vr o :: rest) h Q ↔ ((X.1 o = 12 ∧ wd rest ≤ 8) ∧ Cl X 160 [vr o, vi a0] h (fun r h2 => Ev X 176 9 ls (r.toList ++ rest) h2 Q)) := R_cv (x := o) (as := [vi a0]) (k2 := 160) rfl rfl (Nat.le_of_ble_eq_true rfl)
theorem e_176_9 {x y : Int} : Ev X 176 9 ls (vi y :: vi x :: st) h Q ↔ ((inR (x + y)) ∧ Ev X 176 10 ls (vi (x + y) :: st) h Q) := R_add rfl
theorem e_176_10 : Ev X 176 10 ls st h Q ↔ onR (gl ls 0) (fun z => Ev X 176 11 ls (vr z :: st) h Q) := R_al rfl (Or.inl rfl)
theorem e_176_11 {x : Nat} : Ev X 176 11 ls (vr x :: st) h Q ↔ (X.1 x = 12 ∧ Ev X 176 12 ls (vi (h.2 x 3) :: st) h Q) := R_gi rfl
theorem e_176_12 {x y : Int} : Ev X 176 12 ls (vi y :: vi x :: st) h Q ↔ (if y < x then Ev X 176 15 ls st h Q else Ev X 176 13 ls st h Q) := R_icgt rfl
theorem e_176_13 : Ev X 176 13 ls st h Q ↔ Ev X 176 14 ls (vi 1 :: st) h Q := R_kc rfl (Or.inl ⟨Or.inl rfl, by decide⟩)
theorem e_176_14 : Ev X 176 14 ls st h Q ↔ Ev X 176 16 ls st h Q := R_go rfl
theorem e_176_15 : Ev X 176 15 ls st h Q ↔ Ev X 176 16 ls (vi 0 :: st) h Q := R_kc rfl (Or.inl ⟨Or.inl rfl, by decide⟩)
theorem e_176_16 {x : Int} : Ev X 176 16 ls (vi x :: st) h Q ↔ (stOK ls 5 = true ∧ Ev X 176 17 (ls.set 5 (some (vi x))) st h Q) := R_is rfl (Or.inr rfl)
theorem e_176_17 : Ev X 176 17 ls st h Q ↔ onI (gl ls 3) (fun z => Ev X 176 18 ls (vi z :: st) h Q) := R_il rfl (Or.inl rfl)
theorem e_176_18 {x : Int} : Ev X 176 18 ls (vi x :: st) h Q ↔ (stOK ls 6 = true ∧ Ev X 176 19 (ls.set 6 (some (vi x))) st h Q) := R_is rfl (Or.inr rfl)
theorem e_176_19 : Ev X 176 19 ls st h Q ↔ onI (gl ls 6) (fun z => Ev X 176 20 ls (vi z :: st) h Q) := R_il rfl (Or.inr rfl)
theorem e_176_20 : Ev X 176 20 ls st h Q ↔ onI (gl ls 3) (fun z => Ev X 176 21 ls (vi z :: st) h Q) := R_il rfl (Or.inl rfl)
theorem e_176_21 : Ev X 176 21 ls st h Q ↔ onR (gl ls 0) (fun z => Ev X 176 22 ls (vr z :: st) h Q) := R_al rfl (Or.inl rfl)
theorem e_176_22 : Ev X 176 22 ls st h Q ↔ onI (gl ls 1) (fun z => Ev X 176 23 ls (vi z :: st) h Q) := R_il rfl (Or.inl rfl)
theorem e_176_23 {rest : List xV} {a0 : Int} {o : Nat} : Ev X 176 23 ls ((vi a0) :: vr o :: rest) h Q ↔ ((X.1 o = 12 ∧ wd rest ≤ 8) ∧ Cl X 160 [vr o, vi a0] h (fun r h2 => Ev X 176 24 ls (r.toList ++ rest) h2 Q)) := R_cv (x := o) (as := [vi a0]) (k2 := 160) rfl rfl (Nat.le_of_ble_eq_true rfl)
theorem e_176_24 {x y : Int} : Ev X 176 24 ls (vi y :: vi x :: st) h Q ↔ Ev X 176 25 ls (vi (Int32.ofInt (x + y)).toInt :: st) h Q := R_addw rfl
theorem e_176_25 {x y : Int} : Ev X 176 25 ls (vi y :: vi x :: st) h Q ↔ (if y ≤ x then Ev X 176 55 ls st h Q else Ev X 176 26 ls st h Q) := R_icge rfl
theorem e_176_26 : Ev X 176 26 ls st h Q ↔ onI (gl ls 5) (fun z => Ev X 176 27 ls (vi z :: st) h Q) := R_il rfl (Or.inr rfl)
theorem e_176_27 {x : Int} : Ev X 176 27 ls (vi x :: st) h Q ↔ (if x = 0 then Ev X 176 55 ls st h Q else Ev X 176 28 ls st h Q) := R_ifeq rfl
theorem e_176_28 : Ev X 176 28 ls st h Q ↔ onR (gl ls 0) (fun z => Ev X 176 29 ls (vr z :: st) h Q) := R_al rfl (Or.inl rfl)
theorem e_176_29 : Ev X 176 29 ls st h Q ↔ onI (gl ls 2) (fun z => Ev X 176 30 ls (vi z :: st) h Q) := R_il rfl (Or.inl rfl)
theorem e_176_30 : Ev X 176 30 ls st h Q ↔ onI (gl ls 6) (fun z => Ev X 176 31 ls (vi z :: st) h Q) := R_il rfl (Or.inr rfl)
theorem e_176_31 {rest : List xV} {a0 : Int} {a1 : Int} {o : Nat} : Ev X 176 31 ls ((vi a1) :: (vi a0) :: vr o :: rest) h Q ↔ ((X.1 o = 12 ∧ wd rest ≤ 8) ∧ Cl X 171 [vr o, vi a0, vi a1] h (fun r h2 => Ev X 176 32 ls (r.toList ++ rest) h2 Q)) := R_cv (x := o) (as := [vi a0, vi a1]) (k2 := 171) rfl rfl (Nat.le_of_ble_eq_true rfl)
theorem e_176_32 {x : Int} : Ev X 176 32 ls (vi x :: st) h Q ↔ (if ¬ x = 0 then Ev X 176 51 ls st h Q else Ev X 176 33 ls st h Q) := R_ifne rfl
theorem e_176_33 : Ev X 176 33 ls st h Q ↔ onR (gl ls 0) (fun z => Ev X 176 34 ls (vr z :: st) h Q) := R_al rfl (Or.inl rfl)
theorem e_176_34 : Ev X 176 34 ls st h Q ↔ onI (gl ls 2) (fun z => Ev X 176 35 ls (vi z :: st) h Q) := R_il rfl (Or.inl rfl)
theorem e_176_35 : Ev X 176 35 ls st h Q ↔ onI (gl ls 6) (fun z => Ev X 176 36 ls (vi z :: st) h Q) := R_il rfl (Or.inr rfl)
theorem e_176_36 {rest : List xV} {a0 : Int} {a1 : Int} {o : Nat} : Ev X 176 36 ls ((vi a1) :: (vi a0) :: vr o :: rest) h Q ↔ ((X.1 o = 12 ∧ wd rest ≤ 8) ∧ Cl X 173 [vr o, vi a0, vi a1] h (fun r h2 => Ev X 176 37 ls (r.toList ++ rest) h2 Q)) := R_cv (x := o) (as := [vi a0, vi a1]) (k2 := 173) rfl rfl (Nat.le_of_ble_eq_true rfl)
theorem e_176_37 : Ev X 176 37 ls st h Q ↔ onR (gl ls 0) (fun z => Ev X 176 38 ls (vr z :: st) h Q) := R_al rfl (Or.inl rfl)
theorem e_176_38 : Ev X 176 38 ls st h Q ↔ onI (gl ls 1) (fun z => Ev X 176 39 ls (vi z :: st) h Q) := R_il rfl (Or.inl rfl)
theorem e_176_39 {rest : List xV} {a0 : Int} {o : Nat} : Ev X 176 39 ls ((vi a0) :: vr o :: rest) h Q ↔ ((X.1 o = 12 ∧ wd rest ≤ 8) ∧ Cl X 161 [vr o, vi a0] h (fun r h2 => Ev X 176 40 ls (r.toList ++ rest) h2 Q)) := R_cv (x := o) (as := [vi a0]) (k2 := 161) rfl rfl (Nat.le_of_ble_eq_true rfl)
theorem e_176_40 {x y : Int} : Ev X 176 40 ls (vi y :: vi x :: st) h Q ↔ (if ¬ x = y then Ev X 176 51 ls st h Q else Ev X 176 41 ls st h Q) := R_icne rfl
theorem e_176_41 : Ev X 176 41 ls st h Q ↔ onR (gl ls 0) (fun z => Ev X 176 42 ls (vr z :: st) h Q) := R_al rfl (Or.inl rfl)
theorem e_176_42 : Ev X 176 42 ls st h Q ↔ onI (gl ls 2) (fun z => Ev X 176 43 ls (vi z :: st) h Q) := R_il rfl (Or.inl rfl)
theorem e_176_43 : Ev X 176 43 ls st h Q ↔ onI (gl ls 6) (fun z => Ev X 176 44 ls (vi z :: st) h Q) := R_il rfl (Or.inr rfl)
theorem e_176_44 : Ev X 176 44 ls st h Q ↔ onI (gl ls 1) (fun z => Ev X 176 45 ls (vi z :: st) h Q) := R_il rfl (Or.inl rfl)
theorem e_176_45 : Ev X 176 45 ls st h Q ↔ onI (gl ls 4) (fun z => Ev X 176 46 ls (vi z :: st) h Q) := R_il rfl (Or.inr rfl)
theorem e_176_46 {rest : List xV} {a0 : Int} {a1 : Int} {a2 : Int} {a3 : Int} {o : Nat} : Ev X 176 46 ls ((vi a3) :: (vi a2) :: (vi a1) :: (vi a0) :: vr o :: rest) h Q ↔ ((X.1 o = 12 ∧ wd rest ≤ 8) ∧ Cl X 175 [vr o, vi a0, vi a1, vi a2, vi a3] h (fun r h2 => Ev X 176 47 ls (r.toList ++ rest) h2 Q)) := R_cv (x := o) (as := [vi a0, vi a1, vi a2, vi a3]) (k2 := 175) rfl rfl (Nat.le_of_ble_eq_true rfl)
theorem e_176_47 : Ev X 176 47 ls st h Q ↔ Ev X 176 48 ls (vi (-1) :: st) h Q := R_kc rfl (Or.inl ⟨Or.inl rfl, by decide⟩)
theorem e_176_48 {x y : Int} : Ev X 176 48 ls (vi y :: vi x :: st) h Q ↔ (if ¬ x = y then Ev X 176 51 ls st h Q else Ev X 176 49 ls st h Q) := R_icne rfl
theorem e_176_49 : Ev X 176 49 ls st h Q ↔ Ev X 176 50 ls (vi 1 :: st) h Q := R_kc rfl (Or.inl ⟨Or.inl rfl, by decide⟩)
theorem e_176_50 : Ev X 176 50 ls st h Q ↔ Ev X 176 52 ls st h Q := R_go rfl
theorem e_176_51 : Ev X 176 51 ls st h Q ↔ Ev X 176 52 ls (vi 0 :: st) h Q := R_kc rfl (Or.inl ⟨Or.inl rfl, by decide⟩)
theorem e_176_52 {x : Int} : Ev X 176 52 ls (vi x :: st) h Q ↔ (stOK ls 5 = true ∧ Ev X 176 53 (ls.set 5 (some (vi x))) st h Q) := R_is rfl (Or.inr rfl)
theorem e_176_53 : Ev X 176 53 ls st h Q ↔ onI (gl ls 6) (fun x => (stOK ls 6 = true ∧ inR (x + 1)) ∧ Ev X 176 54 (ls.set 6 (some (vi (x + 1)))) st h Q) := R_inc rfl
theorem e_176_54 : Ev X 176 54 ls st h Q ↔ Ev X 176 19 ls st h Q := R_go rfl
theorem e_176_55 : Ev X 176 55 ls st h Q ↔ onI (gl ls 5) (fun z => Ev X 176 56 ls (vi z :: st) h Q) := R_il rfl (Or.inr rfl)
theorem e_176_56 {z : Int} : Ev X 176 56 ls [vi z] h Q ↔ ((z = 0 ∨ z = 1) ∧ Q (some (vi z)) h) := R_zr rfl
-- 177: CellRowsModel.lawful(III)Z
theorem e_177_0 : Ev X 177 0 ls st h Q ↔ onR (gl ls 0) (fun z => Ev X 177 1 ls (vr z :: st) h Q) := R_al rfl (Or.inl rfl)
theorem e_177_1 : Ev X 177 1 ls st h Q ↔ Ev X 177 2 ls (vi 0 :: st) h Q := R_kc rfl (Or.inl ⟨Or.inl rfl, by decide⟩)
theorem e_177_2 {x : Nat} {v : Int} : Ev X 177 2 ls (vi v :: vr x :: st) h Q ↔ (X.1 x = 12 ∧ Ev X 177 3 ls st (h.1, up2 h.2 x 0 v) Q) := R_pi rfl
theorem e_177_3 : Ev X 177 3 ls st h Q ↔ onR (gl ls 0) (fun z => Ev X 177 4 ls (vr z :: st) h Q) := R_al rfl (Or.inl rfl)
theorem e_177_4 : Ev X 177 4 ls st h Q ↔ onI (gl ls 1) (fun z => Ev X 177 5 ls (vi z :: st) h Q) := R_il rfl (Or.inl rfl)
theorem e_177_5 {rest : List xV} {a0 : Int} {o : Nat} : Ev X 177 5 ls ((vi a0) :: vr o :: rest) h Q ↔ ((X.1 o = 12 ∧ wd rest ≤ 8) ∧ Cl X 167 [vr o, vi a0] h (fun r h2 => Ev X 177 6 ls (r.toList ++ rest) h2 Q)) := R_cv (x := o) (as := [vi a0]) (k2 := 167) rfl rfl (Nat.le_of_ble_eq_true rfl)
theorem e_177_6 {x : Int} : Ev X 177 6 ls (vi x :: st) h Q ↔ (if x = 0 then Ev X 177 16 ls st h Q else Ev X 177 7 ls st h Q) := R_ifeq rfl
theorem e_177_7 : Ev X 177 7 ls st h Q ↔ onR (gl ls 0) (fun z => Ev X 177 8 ls (vr z :: st) h Q) := R_al rfl (Or.inl rfl)
theorem e_177_8 : Ev X 177 8 ls st h Q ↔ onI (gl ls 1) (fun z => Ev X 177 9 ls (vi z :: st) h Q) := R_il rfl (Or.inl rfl)
theorem e_177_9 : Ev X 177 9 ls st h Q ↔ onI (gl ls 2) (fun z => Ev X 177 10 ls (vi z :: st) h Q) := R_il rfl (Or.inl rfl)
theorem e_177_10 : Ev X 177 10 ls st h Q ↔ onI (gl ls 3) (fun z => Ev X 177 11 ls (vi z :: st) h Q) := R_il rfl (Or.inl rfl)
theorem e_177_11 : Ev X 177 11 ls st h Q ↔ Ev X 177 12 ls (vi 0 :: st) h Q := R_kc rfl (Or.inl ⟨Or.inl rfl, by decide⟩)
theorem e_177_12 {rest : List xV} {a0 : Int} {a1 : Int} {a2 : Int} {a3 : Int} {o : Nat} : Ev X 177 12 ls ((vi a3) :: (vi a2) :: (vi a1) :: (vi a0) :: vr o :: rest) h Q ↔ ((X.1 o = 12 ∧ wd rest ≤ 8) ∧ Cl X 176 [vr o, vi a0, vi a1, vi a2, vi a3] h (fun r h2 => Ev X 177 13 ls (r.toList ++ rest) h2 Q)) := R_cv (x := o) (as := [vi a0, vi a1, vi a2, vi a3]) (k2 := 176) rfl rfl (Nat.le_of_ble_eq_true rfl)
theorem e_177_13 {x : Int} : Ev X 177 13 ls (vi x :: st) h Q ↔ (if x = 0 then Ev X 177 16 ls st h Q else Ev X 177 14 ls st h Q) := R_ifeq rfl
theorem e_177_14 : Ev X 177 14 ls st h Q ↔ Ev X 177 15 ls (vi 1 :: st) h Q := R_kc rfl (Or.inl ⟨Or.inl rfl, by decide⟩)
theorem e_177_15 : Ev X 177 15 ls st h Q ↔ Ev X 177 17 ls st h Q := R_go rfl
theorem e_177_16 : Ev X 177 16 ls st h Q ↔ Ev X 177 17 ls (vi 0 :: st) h Q := R_kc rfl (Or.inl ⟨Or.inl rfl, by decide⟩)
theorem e_177_17 {z : Int} : Ev X 177 17 ls [vi z] h Q ↔ ((z = 0 ∨ z = 1) ∧ Q (some (vi z)) h) := R_zr rfl
-- 178: CellRowsModel.loseUnlawful()V
theorem e_178_0 : Ev X 178 0 ls st h Q ↔ Ev X 178 1 ls (vi 0 :: st) h Q := R_kc rfl (Or.inl ⟨Or.inl rfl, by decide⟩)
theorem e_178_1 {x : Int} : Ev X 178 1 ls (vi x :: st) h Q ↔ (stOK ls 1 = true ∧ Ev X 178 2 (ls.set 1 (some (vi x))) st h Q) := R_is rfl (Or.inl rfl)
theorem e_178_2 : Ev X 178 2 ls st h Q ↔ onI (gl ls 1) (fun z => Ev X 178 3 ls (vi z :: st) h Q) := R_il rfl (Or.inl rfl)
theorem e_178_3 : Ev X 178 3 ls st h Q ↔ onR (gl ls 0) (fun z => Ev X 178 4 ls (vr z :: st) h Q) := R_al rfl (Or.inl rfl)
theorem e_178_4 {x : Nat} : Ev X 178 4 ls (vr x :: st) h Q ↔ (X.1 x = 12 ∧ Ev X 178 5 ls (vr (X.2.2.1 x 6) :: st) h Q) := R_gr rfl
theorem e_178_5 : Ev X 178 5 ls st h Q ↔ Ev X 178 6 ls (vi 2 :: st) h Q := R_kc rfl (Or.inl ⟨Or.inl rfl, by decide⟩)
theorem e_178_6 {x : Nat} {j : Int} : Ev X 178 6 ls (vi j :: vr x :: st) h Q ↔ (((X.1 x = 13 ∨ X.1 x = 20) ∧ 0 ≤ j ∧ j < X.2.1 x) ∧ Ev X 178 7 ls (vi (h.1 x j.toNat) :: st) h Q) := R_ia rfl
theorem e_178_7 {x y : Int} : Ev X 178 7 ls (vi y :: vi x :: st) h Q ↔ (if y ≤ x then Ev X 178 36 ls st h Q else Ev X 178 8 ls st h Q) := R_icge rfl
theorem e_178_8 : Ev X 178 8 ls st h Q ↔ onR (gl ls 0) (fun z => Ev X 178 9 ls (vr z :: st) h Q) := R_al rfl (Or.inl rfl)
theorem e_178_9 : Ev X 178 9 ls st h Q ↔ onI (gl ls 1) (fun z => Ev X 178 10 ls (vi z :: st) h Q) := R_il rfl (Or.inl rfl)
theorem e_178_10 {rest : List xV} {a0 : Int} {o : Nat} : Ev X 178 10 ls ((vi a0) :: vr o :: rest) h Q ↔ ((X.1 o = 12 ∧ wd rest ≤ 8) ∧ Cl X 164 [vr o, vi a0] h (fun r h2 => Ev X 178 11 ls (r.toList ++ rest) h2 Q)) := R_cv (x := o) (as := [vi a0]) (k2 := 164) rfl rfl (Nat.le_of_ble_eq_true rfl)
theorem e_178_11 {x : Int} : Ev X 178 11 ls (vi x :: st) h Q ↔ (if x = 0 then Ev X 178 34 ls st h Q else Ev X 178 12 ls st h Q) := R_ifeq rfl
theorem e_178_12 : Ev X 178 12 ls st h Q ↔ onR (gl ls 0) (fun z => Ev X 178 13 ls (vr z :: st) h Q) := R_al rfl (Or.inl rfl)
theorem e_178_13 : Ev X 178 13 ls st h Q ↔ onI (gl ls 1) (fun z => Ev X 178 14 ls (vi z :: st) h Q) := R_il rfl (Or.inl rfl)
theorem e_178_14 : Ev X 178 14 ls st h Q ↔ onR (gl ls 0) (fun z => Ev X 178 15 ls (vr z :: st) h Q) := R_al rfl (Or.inl rfl)
theorem e_178_15 {x : Nat} : Ev X 178 15 ls (vr x :: st) h Q ↔ (X.1 x = 12 ∧ Ev X 178 16 ls (vr (X.2.2.1 x 6) :: st) h Q) := R_gr rfl
theorem e_178_16 : Ev X 178 16 ls st h Q ↔ onI (gl ls 1) (fun z => Ev X 178 17 ls (vi z :: st) h Q) := R_il rfl (Or.inl rfl)
theorem e_178_17 {rest : List xV} {a0 : Int} : Ev X 178 17 ls ((vi a0) :: rest) h Q ↔ (wd rest ≤ 8 ∧ Cl X 158 [vi a0] h (fun r h2 => Ev X 178 18 ls (r.toList ++ rest) h2 Q)) := R_cs (as := [vi a0]) (k2 := 158) rfl rfl (Nat.le_of_ble_eq_true rfl)
theorem e_178_18 : Ev X 178 18 ls st h Q ↔ Ev X 178 19 ls (vi 5 :: st) h Q := R_kc rfl (Or.inl ⟨Or.inl rfl, by decide⟩)
theorem e_178_19 {x y : Int} : Ev X 178 19 ls (vi y :: vi x :: st) h Q ↔ ((inR (x + y)) ∧ Ev X 178 20 ls (vi (x + y) :: st) h Q) := R_add rfl
theorem e_178_20 {x : Nat} {j : Int} : Ev X 178 20 ls (vi j :: vr x :: st) h Q ↔ (((X.1 x = 13 ∨ X.1 x = 20) ∧ 0 ≤ j ∧ j < X.2.1 x) ∧ Ev X 178 21 ls (vi (h.1 x j.toNat) :: st) h Q) := R_ia rfl
theorem e_178_21 : Ev X 178 21 ls st h Q ↔ onR (gl ls 0) (fun z => Ev X 178 22 ls (vr z :: st) h Q) := R_al rfl (Or.inl rfl)
theorem e_178_22 {x : Nat} : Ev X 178 22 ls (vr x :: st) h Q ↔ (X.1 x = 12 ∧ Ev X 178 23 ls (vr (X.2.2.1 x 6) :: st) h Q) := R_gr rfl
theorem e_178_23 : Ev X 178 23 ls st h Q ↔ onI (gl ls 1) (fun z => Ev X 178 24 ls (vi z :: st) h Q) := R_il rfl (Or.inl rfl)
theorem e_178_24 {rest : List xV} {a0 : Int} : Ev X 178 24 ls ((vi a0) :: rest) h Q ↔ (wd rest ≤ 8 ∧ Cl X 158 [vi a0] h (fun r h2 => Ev X 178 25 ls (r.toList ++ rest) h2 Q)) := R_cs (as := [vi a0]) (k2 := 158) rfl rfl (Nat.le_of_ble_eq_true rfl)
theorem e_178_25 : Ev X 178 25 ls st h Q ↔ Ev X 178 26 ls (vi 6 :: st) h Q := R_kc rfl (Or.inr (Or.inl ⟨rfl, by decide⟩))
theorem e_178_26 {x y : Int} : Ev X 178 26 ls (vi y :: vi x :: st) h Q ↔ ((inR (x + y)) ∧ Ev X 178 27 ls (vi (x + y) :: st) h Q) := R_add rfl
theorem e_178_27 {x : Nat} {j : Int} : Ev X 178 27 ls (vi j :: vr x :: st) h Q ↔ (((X.1 x = 13 ∨ X.1 x = 20) ∧ 0 ≤ j ∧ j < X.2.1 x) ∧ Ev X 178 28 ls (vi (h.1 x j.toNat) :: st) h Q) := R_ia rfl
theorem e_178_28 : Ev X 178 28 ls st h Q ↔ Ev X 178 29 ls (vi 0 :: st) h Q := R_kc rfl (Or.inl ⟨Or.inl rfl, by decide⟩)
theorem e_178_29 {rest : List xV} {a0 : Int} {a1 : Int} {a2 : Int} {a3 : Int} {o : Nat} : Ev X 178 29 ls ((vi a3) :: (vi a2) :: (vi a1) :: (vi a0) :: vr o :: rest) h Q ↔ ((X.1 o = 12 ∧ wd rest ≤ 8) ∧ Cl X 176 [vr o, vi a0, vi a1, vi a2, vi a3] h (fun r h2 => Ev X 178 30 ls (r.toList ++ rest) h2 Q)) := R_cv (x := o) (as := [vi a0, vi a1, vi a2, vi a3]) (k2 := 176) rfl rfl (Nat.le_of_ble_eq_true rfl)
theorem e_178_30 {x : Int} : Ev X 178 30 ls (vi x :: st) h Q ↔ (if ¬ x = 0 then Ev X 178 34 ls st h Q else Ev X 178 31 ls st h Q) := R_ifne rfl
theorem e_178_31 : Ev X 178 31 ls st h Q ↔ onR (gl ls 0) (fun z => Ev X 178 32 ls (vr z :: st) h Q) := R_al rfl (Or.inl rfl)
theorem e_178_32 : Ev X 178 32 ls st h Q ↔ onI (gl ls 1) (fun z => Ev X 178 33 ls (vi z :: st) h Q) := R_il rfl (Or.inl rfl)
theorem e_178_33 {rest : List xV} {a0 : Int} {o : Nat} : Ev X 178 33 ls ((vi a0) :: vr o :: rest) h Q ↔ ((X.1 o = 12 ∧ wd rest ≤ 8) ∧ Cl X 165 [vr o, vi a0] h (fun r h2 => Ev X 178 34 ls (r.toList ++ rest) h2 Q)) := R_cv (x := o) (as := [vi a0]) (k2 := 165) rfl rfl (Nat.le_of_ble_eq_true rfl)
theorem e_178_34 : Ev X 178 34 ls st h Q ↔ onI (gl ls 1) (fun x => (stOK ls 1 = true ∧ inR (x + 1)) ∧ Ev X 178 35 (ls.set 1 (some (vi (x + 1)))) st h Q) := R_inc rfl
theorem e_178_35 : Ev X 178 35 ls st h Q ↔ Ev X 178 2 ls st h Q := R_go rfl
theorem e_178_36 : Ev X 178 36 ls [] h Q ↔ Q none h := R_vr rfl
-- 179: CellRowsModel.terms(II)I
theorem e_179_0 : Ev X 179 0 ls st h Q ↔ onR (gl ls 0) (fun z => Ev X 179 1 ls (vr z :: st) h Q) := R_al rfl (Or.inl rfl)
theorem e_179_1 : Ev X 179 1 ls st h Q ↔ Ev X 179 2 ls (vi 0 :: st) h Q := R_kc rfl (Or.inl ⟨Or.inl rfl, by decide⟩)
theorem e_179_2 {x : Nat} {v : Int} : Ev X 179 2 ls (vi v :: vr x :: st) h Q ↔ (X.1 x = 12 ∧ Ev X 179 3 ls st (h.1, up2 h.2 x 0 v) Q) := R_pi rfl
theorem e_179_3 : Ev X 179 3 ls st h Q ↔ onI (gl ls 1) (fun z => Ev X 179 4 ls (vi z :: st) h Q) := R_il rfl (Or.inl rfl)
theorem e_179_4 : Ev X 179 4 ls st h Q ↔ Ev X 179 5 ls (vi 1 :: st) h Q := R_kc rfl (Or.inl ⟨Or.inl rfl, by decide⟩)
theorem e_179_5 {x y : Int} : Ev X 179 5 ls (vi y :: vi x :: st) h Q ↔ (if ¬ x = y then Ev X 179 8 ls st h Q else Ev X 179 6 ls st h Q) := R_icne rfl
theorem e_179_6 : Ev X 179 6 ls st h Q ↔ Ev X 179 7 ls (vi 10 :: st) h Q := R_kc rfl (Or.inr (Or.inl ⟨rfl, by decide⟩))
theorem e_179_7 : Ev X 179 7 ls st h Q ↔ Ev X 179 14 ls st h Q := R_go rfl
theorem e_179_8 : Ev X 179 8 ls st h Q ↔ onI (gl ls 1) (fun z => Ev X 179 9 ls (vi z :: st) h Q) := R_il rfl (Or.inl rfl)
theorem e_179_9 : Ev X 179 9 ls st h Q ↔ Ev X 179 10 ls (vi 2 :: st) h Q := R_kc rfl (Or.inl ⟨Or.inl rfl, by decide⟩)
theorem e_179_10 {x y : Int} : Ev X 179 10 ls (vi y :: vi x :: st) h Q ↔ (if ¬ x = y then Ev X 179 13 ls st h Q else Ev X 179 11 ls st h Q) := R_icne rfl
theorem e_179_11 : Ev X 179 11 ls st h Q ↔ Ev X 179 12 ls (vi 0 :: st) h Q := R_kc rfl (Or.inl ⟨Or.inl rfl, by decide⟩)
theorem e_179_12 : Ev X 179 12 ls st h Q ↔ Ev X 179 14 ls st h Q := R_go rfl
theorem e_179_13 : Ev X 179 13 ls st h Q ↔ Ev X 179 14 ls (vi 1 :: st) h Q := R_kc rfl (Or.inl ⟨Or.inl rfl, by decide⟩)
theorem e_179_14 {x : Int} : Ev X 179 14 ls (vi x :: st) h Q ↔ (stOK ls 3 = true ∧ Ev X 179 15 (ls.set 3 (some (vi x))) st h Q) := R_is rfl (Or.inl rfl)
theorem e_179_15 : Ev X 179 15 ls st h Q ↔ onI (gl ls 1) (fun z => Ev X 179 16 ls (vi z :: st) h Q) := R_il rfl (Or.inl rfl)
theorem e_179_16 : Ev X 179 16 ls st h Q ↔ Ev X 179 17 ls (vi 1 :: st) h Q := R_kc rfl (Or.inl ⟨Or.inl rfl, by decide⟩)
theorem e_179_17 {x y : Int} : Ev X 179 17 ls (vi y :: vi x :: st) h Q ↔ (if ¬ x = y then Ev X 179 20 ls st h Q else Ev X 179 18 ls st h Q) := R_icne rfl
theorem e_179_18 : Ev X 179 18 ls st h Q ↔ Ev X 179 19 ls (vi 100 :: st) h Q := R_kc rfl (Or.inr (Or.inl ⟨rfl, by decide⟩))
theorem e_179_19 : Ev X 179 19 ls st h Q ↔ Ev X 179 34 ls st h Q := R_go rfl
theorem e_179_20 : Ev X 179 20 ls st h Q ↔ onI (gl ls 1) (fun z => Ev X 179 21 ls (vi z :: st) h Q) := R_il rfl (Or.inl rfl)
theorem e_179_21 : Ev X 179 21 ls st h Q ↔ Ev X 179 22 ls (vi 2 :: st) h Q := R_kc rfl (Or.inl ⟨Or.inl rfl, by decide⟩)
theorem e_179_22 {x y : Int} : Ev X 179 22 ls (vi y :: vi x :: st) h Q ↔ (if x = y then Ev X 179 26 ls st h Q else Ev X 179 23 ls st h Q) := R_iceq rfl
theorem e_179_23 : Ev X 179 23 ls st h Q ↔ onI (gl ls 1) (fun z => Ev X 179 24 ls (vi z :: st) h Q) := R_il rfl (Or.inl rfl)
theorem e_179_24 : Ev X 179 24 ls st h Q ↔ Ev X 179 25 ls (vi 5 :: st) h Q := R_kc rfl (Or.inl ⟨Or.inl rfl, by decide⟩)
theorem e_179_25 {x y : Int} : Ev X 179 25 ls (vi y :: vi x :: st) h Q ↔ (if ¬ x = y then Ev X 179 28 ls st h Q else Ev X 179 26 ls st h Q) := R_icne rfl
theorem e_179_26 : Ev X 179 26 ls st h Q ↔ Ev X 179 27 ls (vi 99 :: st) h Q := R_kc rfl (Or.inr (Or.inl ⟨rfl, by decide⟩))
theorem e_179_27 : Ev X 179 27 ls st h Q ↔ Ev X 179 34 ls st h Q := R_go rfl
theorem e_179_28 : Ev X 179 28 ls st h Q ↔ onI (gl ls 1) (fun z => Ev X 179 29 ls (vi z :: st) h Q) := R_il rfl (Or.inl rfl)
theorem e_179_29 : Ev X 179 29 ls st h Q ↔ Ev X 179 30 ls (vi 4 :: st) h Q := R_kc rfl (Or.inl ⟨Or.inl rfl, by decide⟩)
theorem e_179_30 {x y : Int} : Ev X 179 30 ls (vi y :: vi x :: st) h Q ↔ (if ¬ x = y then Ev X 179 33 ls st h Q else Ev X 179 31 ls st h Q) := R_icne rfl
theorem e_179_31 : Ev X 179 31 ls st h Q ↔ Ev X 179 32 ls (vi 8 :: st) h Q := R_kc rfl (Or.inr (Or.inl ⟨rfl, by decide⟩))
theorem e_179_32 : Ev X 179 32 ls st h Q ↔ Ev X 179 34 ls st h Q := R_go rfl
theorem e_179_33 : Ev X 179 33 ls st h Q ↔ Ev X 179 34 ls (vi 64 :: st) h Q := R_kc rfl (Or.inr (Or.inl ⟨rfl, by decide⟩))
theorem e_179_34 {x : Int} : Ev X 179 34 ls (vi x :: st) h Q ↔ (stOK ls 4 = true ∧ Ev X 179 35 (ls.set 4 (some (vi x))) st h Q) := R_is rfl (Or.inr rfl)
theorem e_179_35 : Ev X 179 35 ls st h Q ↔ onI (gl ls 1) (fun z => Ev X 179 36 ls (vi z :: st) h Q) := R_il rfl (Or.inl rfl)
theorem e_179_36 {x : Int} : Ev X 179 36 ls (vi x :: st) h Q ↔ Ev X 179 37 ls (vl x :: st) h Q := R_i2l rfl
theorem e_179_37 : Ev X 179 37 ls st h Q ↔ Ev X 179 38 ls (vl 0 :: st) h Q := R_lc rfl ⟨Or.inl rfl, by decide⟩
theorem e_179_38 : Ev X 179 38 ls st h Q ↔ Ev X 179 39 ls (vl 5 :: st) h Q := R_lc rfl ⟨Or.inr rfl, by decide⟩
theorem e_179_39 {rest : List xV} {a0 : Int} {a1 : Int} {a2 : Int} : Ev X 179 39 ls ((vl a2) :: (vl a1) :: (vl a0) :: rest) h Q ↔ (wd rest ≤ 8 ∧ Cl X 149 [vl a0, vl a1, vl a2] h (fun r h2 => Ev X 179 40 ls (r.toList ++ rest) h2 Q)) := R_cs (as := [vl a0, vl a1, vl a2]) (k2 := 149) rfl rfl (Nat.le_of_ble_eq_true rfl)
theorem e_179_40 {x : Int} : Ev X 179 40 ls (vi x :: st) h Q ↔ (if x = 0 then Ev X 179 49 ls st h Q else Ev X 179 41 ls st h Q) := R_ifeq rfl
theorem e_179_41 : Ev X 179 41 ls st h Q ↔ onI (gl ls 2) (fun z => Ev X 179 42 ls (vi z :: st) h Q) := R_il rfl (Or.inl rfl)
theorem e_179_42 {x : Int} : Ev X 179 42 ls (vi x :: st) h Q ↔ Ev X 179 43 ls (vl x :: st) h Q := R_i2l rfl
theorem e_179_43 : Ev X 179 43 ls st h Q ↔ onI (gl ls 3) (fun z => Ev X 179 44 ls (vi z :: st) h Q) := R_il rfl (Or.inl rfl)
theorem e_179_44 {x : Int} : Ev X 179 44 ls (vi x :: st) h Q ↔ Ev X 179 45 ls (vl x :: st) h Q := R_i2l rfl
theorem e_179_45 : Ev X 179 45 ls st h Q ↔ onI (gl ls 4) (fun z => Ev X 179 46 ls (vi z :: st) h Q) := R_il rfl (Or.inr rfl)
theorem e_179_46 {x : Int} : Ev X 179 46 ls (vi x :: st) h Q ↔ Ev X 179 47 ls (vl x :: st) h Q := R_i2l rfl
theorem e_179_47 {rest : List xV} {a0 : Int} {a1 : Int} {a2 : Int} : Ev X 179 47 ls ((vl a2) :: (vl a1) :: (vl a0) :: rest) h Q ↔ (wd rest ≤ 8 ∧ Cl X 149 [vl a0, vl a1, vl a2] h (fun r h2 => Ev X 179 48 ls (r.toList ++ rest) h2 Q)) := R_cs (as := [vl a0, vl a1, vl a2]) (k2 := 149) rfl rfl (Nat.le_of_ble_eq_true rfl)
theorem e_179_48 {x : Int} : Ev X 179 48 ls (vi x :: st) h Q ↔ (if ¬ x = 0 then Ev X 179 53 ls st h Q else Ev X 179 49 ls st h Q) := R_ifne rfl
theorem e_179_49 : Ev X 179 49 ls st h Q ↔ onR (gl ls 0) (fun z => Ev X 179 50 ls (vr z :: st) h Q) := R_al rfl (Or.inl rfl)
theorem e_179_50 : Ev X 179 50 ls st h Q ↔ Ev X 179 51 ls (vi (-1) :: st) h Q := R_kc rfl (Or.inl ⟨Or.inl rfl, by decide⟩)
theorem e_179_51 {rest : List xV} {a0 : Int} {o : Nat} : Ev X 179 51 ls ((vi a0) :: vr o :: rest) h Q ↔ ((X.1 o = 12 ∧ wd rest ≤ 8) ∧ Cl X 154 [vr o, vi a0] h (fun r h2 => Ev X 179 52 ls (r.toList ++ rest) h2 Q)) := R_cv (x := o) (as := [vi a0]) (k2 := 154) rfl rfl (Nat.le_of_ble_eq_true rfl)
theorem e_179_52 {z : Int} : Ev X 179 52 ls [vi z] h Q ↔ Q (some (vi z)) h := R_ir rfl
theorem e_179_53 : Ev X 179 53 ls st h Q ↔ onR (gl ls 0) (fun z => Ev X 179 54 ls (vr z :: st) h Q) := R_al rfl (Or.inl rfl)
theorem e_179_54 {x : Nat} : Ev X 179 54 ls (vr x :: st) h Q ↔ (X.1 x = 12 ∧ Ev X 179 55 ls (vr (X.2.2.1 x 5) :: st) h Q) := R_gr rfl
theorem e_179_55 : Ev X 179 55 ls st h Q ↔ onI (gl ls 1) (fun z => Ev X 179 56 ls (vi z :: st) h Q) := R_il rfl (Or.inl rfl)
theorem e_179_56 {x : Nat} {j : Int} : Ev X 179 56 ls (vi j :: vr x :: st) h Q ↔ (((X.1 x = 13 ∨ X.1 x = 20) ∧ 0 ≤ j ∧ j < X.2.1 x) ∧ Ev X 179 57 ls (vi (h.1 x j.toNat) :: st) h Q) := R_ia rfl
theorem e_179_57 {x : Int} : Ev X 179 57 ls (vi x :: st) h Q ↔ (stOK ls 5 = true ∧ Ev X 179 58 (ls.set 5 (some (vi x))) st h Q) := R_is rfl (Or.inr rfl)
theorem e_179_58 : Ev X 179 58 ls st h Q ↔ onR (gl ls 0) (fun z => Ev X 179 59 ls (vr z :: st) h Q) := R_al rfl (Or.inl rfl)
theorem e_179_59 {x : Nat} : Ev X 179 59 ls (vr x :: st) h Q ↔ (X.1 x = 12 ∧ Ev X 179 60 ls (vr (X.2.2.1 x 5) :: st) h Q) := R_gr rfl
theorem e_179_60 : Ev X 179 60 ls st h Q ↔ onI (gl ls 1) (fun z => Ev X 179 61 ls (vi z :: st) h Q) := R_il rfl (Or.inl rfl)
theorem e_179_61 : Ev X 179 61 ls st h Q ↔ onI (gl ls 2) (fun z => Ev X 179 62 ls (vi z :: st) h Q) := R_il rfl (Or.inl rfl)
theorem e_179_62 {x : Nat} {j v : Int} : Ev X 179 62 ls (vi v :: vi j :: vr x :: st) h Q ↔ ((X.1 x = 13 ∧ 0 ≤ j ∧ j < X.2.1 x) ∧ Ev X 179 63 ls st (up2 h.1 x j.toNat v, h.2) Q) := R_ias rfl
theorem e_179_63 : Ev X 179 63 ls st h Q ↔ onR (gl ls 0) (fun z => Ev X 179 64 ls (vr z :: st) h Q) := R_al rfl (Or.inl rfl)
theorem e_179_64 : Ev X 179 64 ls st h Q ↔ onI (gl ls 5) (fun z => Ev X 179 65 ls (vi z :: st) h Q) := R_il rfl (Or.inr rfl)
theorem e_179_65 {rest : List xV} {a0 : Int} {o : Nat} : Ev X 179 65 ls ((vi a0) :: vr o :: rest) h Q ↔ ((X.1 o = 12 ∧ wd rest ≤ 8) ∧ Cl X 153 [vr o, vi a0] h (fun r h2 => Ev X 179 66 ls (r.toList ++ rest) h2 Q)) := R_cv (x := o) (as := [vi a0]) (k2 := 153) rfl rfl (Nat.le_of_ble_eq_true rfl)
theorem e_179_66 {z : Int} : Ev X 179 66 ls [vi z] h Q ↔ Q (some (vi z)) h := R_ir rfl
-- 180: CellRowsModel.four(I)V
theorem e_180_0 : Ev X 180 0 ls st h Q ↔ Ev X 180 1 ls (vi 24 :: st) h Q := R_kc rfl (Or.inr (Or.inl ⟨rfl, by decide⟩))
theorem e_180_1 {x : Int} : Ev X 180 1 ls (vi x :: st) h Q ↔ (stOK ls 2 = true ∧ Ev X 180 2 (ls.set 2 (some (vi x))) st h Q) := R_is rfl (Or.inl rfl)
theorem e_180_2 : Ev X 180 2 ls st h Q ↔ onI (gl ls 2) (fun z => Ev X 180 3 ls (vi z :: st) h Q) := R_il rfl (Or.inl rfl)
theorem e_180_3 {x : Int} : Ev X 180 3 ls (vi x :: st) h Q ↔ (if x < 0 then Ev X 180 22 ls st h Q else Ev X 180 4 ls st h Q) := R_iflt rfl
theorem e_180_4 : Ev X 180 4 ls st h Q ↔ onR (gl ls 0) (fun z => Ev X 180 5 ls (vr z :: st) h Q) := R_al rfl (Or.inl rfl)
theorem e_180_5 {x : Nat} : Ev X 180 5 ls (vr x :: st) h Q ↔ (X.1 x = 12 ∧ Ev X 180 6 ls (vr (X.2.2.1 x 12) :: st) h Q) := R_gr rfl
theorem e_180_6 : Ev X 180 6 ls st h Q ↔ onR (gl ls 0) (fun z => Ev X 180 7 ls (vr z :: st) h Q) := R_al rfl (Or.inl rfl)
theorem e_180_7 {x : Nat} : Ev X 180 7 ls (vr x :: st) h Q ↔ (X.1 x = 12 ∧ Ev X 180 8 ls (vi (h.2 x 13) :: st) h Q) := R_gi rfl
theorem e_180_8 : Ev X 180 8 ls st h Q ↔ onI (gl ls 1) (fun z => Ev X 180 9 ls (vi z :: st) h Q) := R_il rfl (Or.inl rfl)
theorem e_180_9 : Ev X 180 9 ls st h Q ↔ onI (gl ls 2) (fun z => Ev X 180 10 ls (vi z :: st) h Q) := R_il rfl (Or.inl rfl)
theorem e_180_10 {x y : Int} : Ev X 180 10 ls (vi y :: vi x :: st) h Q ↔ Ev X 180 11 ls (vi ((Int32.ofInt x >>> (Int32.ofInt y &&& 31)).toInt) :: st) h Q := R_shr rfl
theorem e_180_11 : Ev X 180 11 ls st h Q ↔ Ev X 180 12 ls (vi 255 :: st) h Q := R_kc rfl (Or.inr (Or.inr ⟨rfl, by decide⟩))
theorem e_180_12 {x y : Int} : Ev X 180 12 ls (vi y :: vi x :: st) h Q ↔ Ev X 180 13 ls (vi ((Int32.ofInt x &&& Int32.ofInt y).toInt) :: st) h Q := R_and rfl
theorem e_180_13 {x : Nat} {j v : Int} : Ev X 180 13 ls (vi v :: vi j :: vr x :: st) h Q ↔ ((X.1 x = 13 ∧ 0 ≤ j ∧ j < X.2.1 x) ∧ Ev X 180 14 ls st (up2 h.1 x j.toNat v, h.2) Q) := R_ias rfl
theorem e_180_14 : Ev X 180 14 ls st h Q ↔ onR (gl ls 0) (fun z => Ev X 180 15 ls (vr z :: st) h Q) := R_al rfl (Or.inl rfl)
theorem e_180_15 {v : xV} : Ev X 180 15 ls (v :: st) h Q ↔ (ct1 v = true ∧ Ev X 180 16 ls (v :: v :: st) h Q) := R_dup rfl
theorem e_180_16 {x : Nat} : Ev X 180 16 ls (vr x :: st) h Q ↔ (X.1 x = 12 ∧ Ev X 180 17 ls (vi (h.2 x 13) :: st) h Q) := R_gi rfl
theorem e_180_17 : Ev X 180 17 ls st h Q ↔ Ev X 180 18 ls (vi 1 :: st) h Q := R_kc rfl (Or.inl ⟨Or.inl rfl, by decide⟩)
theorem e_180_18 {x y : Int} : Ev X 180 18 ls (vi y :: vi x :: st) h Q ↔ ((inR (x + y)) ∧ Ev X 180 19 ls (vi (x + y) :: st) h Q) := R_add rfl
theorem e_180_19 {x : Nat} {v : Int} : Ev X 180 19 ls (vi v :: vr x :: st) h Q ↔ (X.1 x = 12 ∧ Ev X 180 20 ls st (h.1, up2 h.2 x 13 v) Q) := R_pi rfl
theorem e_180_20 : Ev X 180 20 ls st h Q ↔ onI (gl ls 2) (fun x => (stOK ls 2 = true ∧ inR (x + (-8))) ∧ Ev X 180 21 (ls.set 2 (some (vi (x + (-8))))) st h Q) := R_inc rfl
theorem e_180_21 : Ev X 180 21 ls st h Q ↔ Ev X 180 2 ls st h Q := R_go rfl
theorem e_180_22 : Ev X 180 22 ls [] h Q ↔ Q none h := R_vr rfl
-- 181: CellRowsModel.feed(IIIII)I
theorem e_181_0 : Ev X 181 0 ls st h Q ↔ onR (gl ls 0) (fun z => Ev X 181 1 ls (vr z :: st) h Q) := R_al rfl (Or.inl rfl)
theorem e_181_1 : Ev X 181 1 ls st h Q ↔ Ev X 181 2 ls (vi 0 :: st) h Q := R_kc rfl (Or.inl ⟨Or.inl rfl, by decide⟩)
theorem e_181_2 {x : Nat} {v : Int} : Ev X 181 2 ls (vi v :: vr x :: st) h Q ↔ (X.1 x = 12 ∧ Ev X 181 3 ls st (h.1, up2 h.2 x 0 v) Q) := R_pi rfl
theorem e_181_3 : Ev X 181 3 ls st h Q ↔ onR (gl ls 0) (fun z => Ev X 181 4 ls (vr z :: st) h Q) := R_al rfl (Or.inl rfl)
theorem e_181_4 {x : Nat} : Ev X 181 4 ls (vr x :: st) h Q ↔ (X.1 x = 12 ∧ Ev X 181 5 ls (vi (h.2 x 13) :: st) h Q) := R_gi rfl
theorem e_181_5 : Ev X 181 5 ls st h Q ↔ Ev X 181 6 ls (vi 20 :: st) h Q := R_kc rfl (Or.inr (Or.inl ⟨rfl, by decide⟩))
theorem e_181_6 {x y : Int} : Ev X 181 6 ls (vi y :: vi x :: st) h Q ↔ ((inR (x + y)) ∧ Ev X 181 7 ls (vi (x + y) :: st) h Q) := R_add rfl
theorem e_181_7 : Ev X 181 7 ls st h Q ↔ Ev X 181 8 ls (vi 100 :: st) h Q := R_kc rfl (Or.inr (Or.inl ⟨rfl, by decide⟩))
theorem e_181_8 {x y : Int} : Ev X 181 8 ls (vi y :: vi x :: st) h Q ↔ (if x ≤ y then Ev X 181 11 ls st h Q else Ev X 181 9 ls st h Q) := R_icle rfl
theorem e_181_9 : Ev X 181 9 ls st h Q ↔ Ev X 181 10 ls (vi (-1) :: st) h Q := R_kc rfl (Or.inl ⟨Or.inl rfl, by decide⟩)
theorem e_181_10 {z : Int} : Ev X 181 10 ls [vi z] h Q ↔ Q (some (vi z)) h := R_ir rfl
theorem e_181_11 : Ev X 181 11 ls st h Q ↔ onR (gl ls 0) (fun z => Ev X 181 12 ls (vr z :: st) h Q) := R_al rfl (Or.inl rfl)
theorem e_181_12 : Ev X 181 12 ls st h Q ↔ onI (gl ls 1) (fun z => Ev X 181 13 ls (vi z :: st) h Q) := R_il rfl (Or.inl rfl)
theorem e_181_13 {rest : List xV} {a0 : Int} {o : Nat} : Ev X 181 13 ls ((vi a0) :: vr o :: rest) h Q ↔ ((X.1 o = 12 ∧ wd rest ≤ 8) ∧ Cl X 180 [vr o, vi a0] h (fun r h2 => Ev X 181 14 ls (r.toList ++ rest) h2 Q)) := R_cv (x := o) (as := [vi a0]) (k2 := 180) rfl rfl (Nat.le_of_ble_eq_true rfl)
theorem e_181_14 : Ev X 181 14 ls st h Q ↔ onR (gl ls 0) (fun z => Ev X 181 15 ls (vr z :: st) h Q) := R_al rfl (Or.inl rfl)
theorem e_181_15 : Ev X 181 15 ls st h Q ↔ onI (gl ls 2) (fun z => Ev X 181 16 ls (vi z :: st) h Q) := R_il rfl (Or.inl rfl)
theorem e_181_16 {rest : List xV} {a0 : Int} {o : Nat} : Ev X 181 16 ls ((vi a0) :: vr o :: rest) h Q ↔ ((X.1 o = 12 ∧ wd rest ≤ 8) ∧ Cl X 180 [vr o, vi a0] h (fun r h2 => Ev X 181 17 ls (r.toList ++ rest) h2 Q)) := R_cv (x := o) (as := [vi a0]) (k2 := 180) rfl rfl (Nat.le_of_ble_eq_true rfl)
theorem e_181_17 : Ev X 181 17 ls st h Q ↔ onR (gl ls 0) (fun z => Ev X 181 18 ls (vr z :: st) h Q) := R_al rfl (Or.inl rfl)
theorem e_181_18 : Ev X 181 18 ls st h Q ↔ onI (gl ls 3) (fun z => Ev X 181 19 ls (vi z :: st) h Q) := R_il rfl (Or.inl rfl)
theorem e_181_19 {rest : List xV} {a0 : Int} {o : Nat} : Ev X 181 19 ls ((vi a0) :: vr o :: rest) h Q ↔ ((X.1 o = 12 ∧ wd rest ≤ 8) ∧ Cl X 180 [vr o, vi a0] h (fun r h2 => Ev X 181 20 ls (r.toList ++ rest) h2 Q)) := R_cv (x := o) (as := [vi a0]) (k2 := 180) rfl rfl (Nat.le_of_ble_eq_true rfl)
theorem e_181_20 : Ev X 181 20 ls st h Q ↔ onR (gl ls 0) (fun z => Ev X 181 21 ls (vr z :: st) h Q) := R_al rfl (Or.inl rfl)
theorem e_181_21 : Ev X 181 21 ls st h Q ↔ onI (gl ls 4) (fun z => Ev X 181 22 ls (vi z :: st) h Q) := R_il rfl (Or.inr rfl)
theorem e_181_22 {rest : List xV} {a0 : Int} {o : Nat} : Ev X 181 22 ls ((vi a0) :: vr o :: rest) h Q ↔ ((X.1 o = 12 ∧ wd rest ≤ 8) ∧ Cl X 180 [vr o, vi a0] h (fun r h2 => Ev X 181 23 ls (r.toList ++ rest) h2 Q)) := R_cv (x := o) (as := [vi a0]) (k2 := 180) rfl rfl (Nat.le_of_ble_eq_true rfl)
theorem e_181_23 : Ev X 181 23 ls st h Q ↔ onR (gl ls 0) (fun z => Ev X 181 24 ls (vr z :: st) h Q) := R_al rfl (Or.inl rfl)
theorem e_181_24 : Ev X 181 24 ls st h Q ↔ onI (gl ls 5) (fun z => Ev X 181 25 ls (vi z :: st) h Q) := R_il rfl (Or.inr rfl)
theorem e_181_25 {rest : List xV} {a0 : Int} {o : Nat} : Ev X 181 25 ls ((vi a0) :: vr o :: rest) h Q ↔ ((X.1 o = 12 ∧ wd rest ≤ 8) ∧ Cl X 180 [vr o, vi a0] h (fun r h2 => Ev X 181 26 ls (r.toList ++ rest) h2 Q)) := R_cv (x := o) (as := [vi a0]) (k2 := 180) rfl rfl (Nat.le_of_ble_eq_true rfl)
theorem e_181_26 : Ev X 181 26 ls st h Q ↔ onR (gl ls 0) (fun z => Ev X 181 27 ls (vr z :: st) h Q) := R_al rfl (Or.inl rfl)
theorem e_181_27 {x : Nat} : Ev X 181 27 ls (vr x :: st) h Q ↔ (X.1 x = 12 ∧ Ev X 181 28 ls (vi (h.2 x 13) :: st) h Q) := R_gi rfl
theorem e_181_28 {z : Int} : Ev X 181 28 ls [vi z] h Q ↔ Q (some (vi z)) h := R_ir rfl
-- 182: CellRowsModel.end(I)I
theorem e_182_0 : Ev X 182 0 ls st h Q ↔ onR (gl ls 0) (fun z => Ev X 182 1 ls (vr z :: st) h Q) := R_al rfl (Or.inl rfl)
theorem e_182_1 : Ev X 182 1 ls st h Q ↔ Ev X 182 2 ls (vi 0 :: st) h Q := R_kc rfl (Or.inl ⟨Or.inl rfl, by decide⟩)
theorem e_182_2 {x : Nat} {v : Int} : Ev X 182 2 ls (vi v :: vr x :: st) h Q ↔ (X.1 x = 12 ∧ Ev X 182 3 ls st (h.1, up2 h.2 x 0 v) Q) := R_pi rfl
theorem e_182_3 : Ev X 182 3 ls st h Q ↔ onI (gl ls 1) (fun z => Ev X 182 4 ls (vi z :: st) h Q) := R_il rfl (Or.inl rfl)
theorem e_182_4 {x : Int} : Ev X 182 4 ls (vi x :: st) h Q ↔ (if x < 0 then Ev X 182 9 ls st h Q else Ev X 182 5 ls st h Q) := R_iflt rfl
theorem e_182_5 : Ev X 182 5 ls st h Q ↔ onI (gl ls 1) (fun z => Ev X 182 6 ls (vi z :: st) h Q) := R_il rfl (Or.inl rfl)
theorem e_182_6 : Ev X 182 6 ls st h Q ↔ onR (gl ls 0) (fun z => Ev X 182 7 ls (vr z :: st) h Q) := R_al rfl (Or.inl rfl)
theorem e_182_7 {x : Nat} : Ev X 182 7 ls (vr x :: st) h Q ↔ (X.1 x = 12 ∧ Ev X 182 8 ls (vi (h.2 x 13) :: st) h Q) := R_gi rfl
theorem e_182_8 {x y : Int} : Ev X 182 8 ls (vi y :: vi x :: st) h Q ↔ (if x ≤ y then Ev X 182 11 ls st h Q else Ev X 182 9 ls st h Q) := R_icle rfl
theorem e_182_9 : Ev X 182 9 ls st h Q ↔ Ev X 182 10 ls (vi (-1) :: st) h Q := R_kc rfl (Or.inl ⟨Or.inl rfl, by decide⟩)
theorem e_182_10 {z : Int} : Ev X 182 10 ls [vi z] h Q ↔ Q (some (vi z)) h := R_ir rfl
theorem e_182_11 : Ev X 182 11 ls st h Q ↔ onR (gl ls 0) (fun z => Ev X 182 12 ls (vr z :: st) h Q) := R_al rfl (Or.inl rfl)
theorem e_182_12 : Ev X 182 12 ls st h Q ↔ onI (gl ls 1) (fun z => Ev X 182 13 ls (vi z :: st) h Q) := R_il rfl (Or.inl rfl)
theorem e_182_13 {x : Nat} {v : Int} : Ev X 182 13 ls (vi v :: vr x :: st) h Q ↔ (X.1 x = 12 ∧ Ev X 182 14 ls st (h.1, up2 h.2 x 13 v) Q) := R_pi rfl
theorem e_182_14 : Ev X 182 14 ls st h Q ↔ onI (gl ls 1) (fun z => Ev X 182 15 ls (vi z :: st) h Q) := R_il rfl (Or.inl rfl)
theorem e_182_15 {z : Int} : Ev X 182 15 ls [vi z] h Q ↔ Q (some (vi z)) h := R_ir rfl
-- 183: CellRowsModel.isBox(IIII)Z
theorem e_183_0 : Ev X 183 0 ls st h Q ↔ onR (gl ls 0) (fun z => Ev X 183 1 ls (vr z :: st) h Q) := R_al rfl (Or.inl rfl)
theorem e_183_1 : Ev X 183 1 ls st h Q ↔ onI (gl ls 1) (fun z => Ev X 183 2 ls (vi z :: st) h Q) := R_il rfl (Or.inl rfl)
theorem e_183_2 : Ev X 183 2 ls st h Q ↔ onI (gl ls 3) (fun z => Ev X 183 3 ls (vi z :: st) h Q) := R_il rfl (Or.inl rfl)
theorem e_183_3 {rest : List xV} {a0 : Int} {a1 : Int} {o : Nat} : Ev X 183 3 ls ((vi a1) :: (vi a0) :: vr o :: rest) h Q ↔ ((X.1 o = 12 ∧ wd rest ≤ 8) ∧ Cl X 170 [vr o, vi a0, vi a1] h (fun r h2 => Ev X 183 4 ls (r.toList ++ rest) h2 Q)) := R_cv (x := o) (as := [vi a0, vi a1]) (k2 := 170) rfl rfl (Nat.le_of_ble_eq_true rfl)
theorem e_183_4 {x : Int} : Ev X 183 4 ls (vi x :: st) h Q ↔ (if x = 0 then Ev X 183 18 ls st h Q else Ev X 183 5 ls st h Q) := R_ifeq rfl
theorem e_183_5 : Ev X 183 5 ls st h Q ↔ onR (gl ls 0) (fun z => Ev X 183 6 ls (vr z :: st) h Q) := R_al rfl (Or.inl rfl)
theorem e_183_6 : Ev X 183 6 ls st h Q ↔ onI (gl ls 2) (fun z => Ev X 183 7 ls (vi z :: st) h Q) := R_il rfl (Or.inl rfl)
theorem e_183_7 : Ev X 183 7 ls st h Q ↔ onI (gl ls 4) (fun z => Ev X 183 8 ls (vi z :: st) h Q) := R_il rfl (Or.inr rfl)
theorem e_183_8 {rest : List xV} {a0 : Int} {a1 : Int} {o : Nat} : Ev X 183 8 ls ((vi a1) :: (vi a0) :: vr o :: rest) h Q ↔ ((X.1 o = 12 ∧ wd rest ≤ 8) ∧ Cl X 170 [vr o, vi a0, vi a1] h (fun r h2 => Ev X 183 9 ls (r.toList ++ rest) h2 Q)) := R_cv (x := o) (as := [vi a0, vi a1]) (k2 := 170) rfl rfl (Nat.le_of_ble_eq_true rfl)
theorem e_183_9 {x : Int} : Ev X 183 9 ls (vi x :: st) h Q ↔ (if x = 0 then Ev X 183 18 ls st h Q else Ev X 183 10 ls st h Q) := R_ifeq rfl
theorem e_183_10 : Ev X 183 10 ls st h Q ↔ onI (gl ls 1) (fun z => Ev X 183 11 ls (vi z :: st) h Q) := R_il rfl (Or.inl rfl)
theorem e_183_11 : Ev X 183 11 ls st h Q ↔ onI (gl ls 2) (fun z => Ev X 183 12 ls (vi z :: st) h Q) := R_il rfl (Or.inl rfl)
theorem e_183_12 {x y : Int} : Ev X 183 12 ls (vi y :: vi x :: st) h Q ↔ (if y < x then Ev X 183 18 ls st h Q else Ev X 183 13 ls st h Q) := R_icgt rfl
theorem e_183_13 : Ev X 183 13 ls st h Q ↔ onI (gl ls 3) (fun z => Ev X 183 14 ls (vi z :: st) h Q) := R_il rfl (Or.inl rfl)
theorem e_183_14 : Ev X 183 14 ls st h Q ↔ onI (gl ls 4) (fun z => Ev X 183 15 ls (vi z :: st) h Q) := R_il rfl (Or.inr rfl)
theorem e_183_15 {x y : Int} : Ev X 183 15 ls (vi y :: vi x :: st) h Q ↔ (if y < x then Ev X 183 18 ls st h Q else Ev X 183 16 ls st h Q) := R_icgt rfl
theorem e_183_16 : Ev X 183 16 ls st h Q ↔ Ev X 183 17 ls (vi 1 :: st) h Q := R_kc rfl (Or.inl ⟨Or.inl rfl, by decide⟩)
theorem e_183_17 : Ev X 183 17 ls st h Q ↔ Ev X 183 19 ls st h Q := R_go rfl
theorem e_183_18 : Ev X 183 18 ls st h Q ↔ Ev X 183 19 ls (vi 0 :: st) h Q := R_kc rfl (Or.inl ⟨Or.inl rfl, by decide⟩)
theorem e_183_19 {z : Int} : Ev X 183 19 ls [vi z] h Q ↔ ((z = 0 ∨ z = 1) ∧ Q (some (vi z)) h) := R_zr rfl
-- 184: CellRowsModel.isTaken(IIIIZ)Z
theorem e_184_0 : Ev X 184 0 ls st h Q ↔ Ev X 184 1 ls (vi 0 :: st) h Q := R_kc rfl (Or.inl ⟨Or.inl rfl, by decide⟩)
theorem e_184_1 {x : Int} : Ev X 184 1 ls (vi x :: st) h Q ↔ (stOK ls 6 = true ∧ Ev X 184 2 (ls.set 6 (some (vi x))) st h Q) := R_is rfl (Or.inr rfl)
theorem e_184_2 : Ev X 184 2 ls st h Q ↔ onI (gl ls 1) (fun z => Ev X 184 3 ls (vi z :: st) h Q) := R_il rfl (Or.inl rfl)
theorem e_184_3 {x : Int} : Ev X 184 3 ls (vi x :: st) h Q ↔ (stOK ls 7 = true ∧ Ev X 184 4 (ls.set 7 (some (vi x))) st h Q) := R_is rfl (Or.inr rfl)
theorem e_184_4 : Ev X 184 4 ls st h Q ↔ onI (gl ls 7) (fun z => Ev X 184 5 ls (vi z :: st) h Q) := R_il rfl (Or.inr rfl)
theorem e_184_5 : Ev X 184 5 ls st h Q ↔ onI (gl ls 2) (fun z => Ev X 184 6 ls (vi z :: st) h Q) := R_il rfl (Or.inl rfl)
theorem e_184_6 {x y : Int} : Ev X 184 6 ls (vi y :: vi x :: st) h Q ↔ (if y < x then Ev X 184 43 ls st h Q else Ev X 184 7 ls st h Q) := R_icgt rfl
theorem e_184_7 : Ev X 184 7 ls st h Q ↔ onI (gl ls 3) (fun z => Ev X 184 8 ls (vi z :: st) h Q) := R_il rfl (Or.inl rfl)
theorem e_184_8 {x : Int} : Ev X 184 8 ls (vi x :: st) h Q ↔ (stOK ls 8 = true ∧ Ev X 184 9 (ls.set 8 (some (vi x))) st h Q) := R_is rfl (Or.inr rfl)
theorem e_184_9 : Ev X 184 9 ls st h Q ↔ onI (gl ls 8) (fun z => Ev X 184 10 ls (vi z :: st) h Q) := R_il rfl (Or.inr rfl)
theorem e_184_10 : Ev X 184 10 ls st h Q ↔ onI (gl ls 4) (fun z => Ev X 184 11 ls (vi z :: st) h Q) := R_il rfl (Or.inr rfl)
theorem e_184_11 {x y : Int} : Ev X 184 11 ls (vi y :: vi x :: st) h Q ↔ (if y < x then Ev X 184 41 ls st h Q else Ev X 184 12 ls st h Q) := R_icgt rfl
theorem e_184_12 : Ev X 184 12 ls st h Q ↔ onI (gl ls 6) (fun z => Ev X 184 13 ls (vi z :: st) h Q) := R_il rfl (Or.inr rfl)
theorem e_184_13 {x : Int} : Ev X 184 13 ls (vi x :: st) h Q ↔ (if ¬ x = 0 then Ev X 184 35 ls st h Q else Ev X 184 14 ls st h Q) := R_ifne rfl
theorem e_184_14 : Ev X 184 14 ls st h Q ↔ onR (gl ls 0) (fun z => Ev X 184 15 ls (vr z :: st) h Q) := R_al rfl (Or.inl rfl)
theorem e_184_15 : Ev X 184 15 ls st h Q ↔ onI (gl ls 7) (fun z => Ev X 184 16 ls (vi z :: st) h Q) := R_il rfl (Or.inr rfl)
theorem e_184_16 : Ev X 184 16 ls st h Q ↔ onI (gl ls 8) (fun z => Ev X 184 17 ls (vi z :: st) h Q) := R_il rfl (Or.inr rfl)
theorem e_184_17 {rest : List xV} {a0 : Int} {a1 : Int} {o : Nat} : Ev X 184 17 ls ((vi a1) :: (vi a0) :: vr o :: rest) h Q ↔ ((X.1 o = 12 ∧ wd rest ≤ 8) ∧ Cl X 170 [vr o, vi a0, vi a1] h (fun r h2 => Ev X 184 18 ls (r.toList ++ rest) h2 Q)) := R_cv (x := o) (as := [vi a0, vi a1]) (k2 := 170) rfl rfl (Nat.le_of_ble_eq_true rfl)
theorem e_184_18 {x : Int} : Ev X 184 18 ls (vi x :: st) h Q ↔ (if x = 0 then Ev X 184 37 ls st h Q else Ev X 184 19 ls st h Q) := R_ifeq rfl
theorem e_184_19 : Ev X 184 19 ls st h Q ↔ onR (gl ls 0) (fun z => Ev X 184 20 ls (vr z :: st) h Q) := R_al rfl (Or.inl rfl)
theorem e_184_20 : Ev X 184 20 ls st h Q ↔ onI (gl ls 7) (fun z => Ev X 184 21 ls (vi z :: st) h Q) := R_il rfl (Or.inr rfl)
theorem e_184_21 : Ev X 184 21 ls st h Q ↔ onI (gl ls 8) (fun z => Ev X 184 22 ls (vi z :: st) h Q) := R_il rfl (Or.inr rfl)
theorem e_184_22 : Ev X 184 22 ls st h Q ↔ Ev X 184 23 ls (vi (-1) :: st) h Q := R_kc rfl (Or.inl ⟨Or.inl rfl, by decide⟩)
theorem e_184_23 : Ev X 184 23 ls st h Q ↔ Ev X 184 24 ls (vi 1 :: st) h Q := R_kc rfl (Or.inl ⟨Or.inl rfl, by decide⟩)
theorem e_184_24 {rest : List xV} {a0 : Int} {a1 : Int} {a2 : Int} {a3 : Int} {o : Nat} : Ev X 184 24 ls ((vi a3) :: (vi a2) :: (vi a1) :: (vi a0) :: vr o :: rest) h Q ↔ ((X.1 o = 12 ∧ wd rest ≤ 8) ∧ Cl X 175 [vr o, vi a0, vi a1, vi a2, vi a3] h (fun r h2 => Ev X 184 25 ls (r.toList ++ rest) h2 Q)) := R_cv (x := o) (as := [vi a0, vi a1, vi a2, vi a3]) (k2 := 175) rfl rfl (Nat.le_of_ble_eq_true rfl)
theorem e_184_25 : Ev X 184 25 ls st h Q ↔ Ev X 184 26 ls (vi (-1) :: st) h Q := R_kc rfl (Or.inl ⟨Or.inl rfl, by decide⟩)
theorem e_184_26 {x y : Int} : Ev X 184 26 ls (vi y :: vi x :: st) h Q ↔ (if ¬ x = y then Ev X 184 35 ls st h Q else Ev X 184 27 ls st h Q) := R_icne rfl
theorem e_184_27 : Ev X 184 27 ls st h Q ↔ onI (gl ls 5) (fun z => Ev X 184 28 ls (vi z :: st) h Q) := R_il rfl (Or.inr rfl)
theorem e_184_28 {x : Int} : Ev X 184 28 ls (vi x :: st) h Q ↔ (if x = 0 then Ev X 184 37 ls st h Q else Ev X 184 29 ls st h Q) := R_ifeq rfl
theorem e_184_29 : Ev X 184 29 ls st h Q ↔ onR (gl ls 0) (fun z => Ev X 184 30 ls (vr z :: st) h Q) := R_al rfl (Or.inl rfl)
theorem e_184_30 : Ev X 184 30 ls st h Q ↔ onI (gl ls 7) (fun z => Ev X 184 31 ls (vi z :: st) h Q) := R_il rfl (Or.inr rfl)
theorem e_184_31 : Ev X 184 31 ls st h Q ↔ onI (gl ls 8) (fun z => Ev X 184 32 ls (vi z :: st) h Q) := R_il rfl (Or.inr rfl)
theorem e_184_32 {rest : List xV} {a0 : Int} {a1 : Int} {o : Nat} : Ev X 184 32 ls ((vi a1) :: (vi a0) :: vr o :: rest) h Q ↔ ((X.1 o = 12 ∧ wd rest ≤ 8) ∧ Cl X 173 [vr o, vi a0, vi a1] h (fun r h2 => Ev X 184 33 ls (r.toList ++ rest) h2 Q)) := R_cv (x := o) (as := [vi a0, vi a1]) (k2 := 173) rfl rfl (Nat.le_of_ble_eq_true rfl)
theorem e_184_33 : Ev X 184 33 ls st h Q ↔ Ev X 184 34 ls (vi (-1) :: st) h Q := R_kc rfl (Or.inl ⟨Or.inl rfl, by decide⟩)
theorem e_184_34 {x y : Int} : Ev X 184 34 ls (vi y :: vi x :: st) h Q ↔ (if x = y then Ev X 184 37 ls st h Q else Ev X 184 35 ls st h Q) := R_iceq rfl
theorem e_184_35 : Ev X 184 35 ls st h Q ↔ Ev X 184 36 ls (vi 1 :: st) h Q := R_kc rfl (Or.inl ⟨Or.inl rfl, by decide⟩)
theorem e_184_36 : Ev X 184 36 ls st h Q ↔ Ev X 184 38 ls st h Q := R_go rfl
theorem e_184_37 : Ev X 184 37 ls st h Q ↔ Ev X 184 38 ls (vi 0 :: st) h Q := R_kc rfl (Or.inl ⟨Or.inl rfl, by decide⟩)
theorem e_184_38 {x : Int} : Ev X 184 38 ls (vi x :: st) h Q ↔ (stOK ls 6 = true ∧ Ev X 184 39 (ls.set 6 (some (vi x))) st h Q) := R_is rfl (Or.inr rfl)
theorem e_184_39 : Ev X 184 39 ls st h Q ↔ onI (gl ls 8) (fun x => (stOK ls 8 = true ∧ inR (x + 1)) ∧ Ev X 184 40 (ls.set 8 (some (vi (x + 1)))) st h Q) := R_inc rfl
theorem e_184_40 : Ev X 184 40 ls st h Q ↔ Ev X 184 9 ls st h Q := R_go rfl
theorem e_184_41 : Ev X 184 41 ls st h Q ↔ onI (gl ls 7) (fun x => (stOK ls 7 = true ∧ inR (x + 1)) ∧ Ev X 184 42 (ls.set 7 (some (vi (x + 1)))) st h Q) := R_inc rfl
theorem e_184_42 : Ev X 184 42 ls st h Q ↔ Ev X 184 4 ls st h Q := R_go rfl
theorem e_184_43 : Ev X 184 43 ls st h Q ↔ onI (gl ls 6) (fun z => Ev X 184 44 ls (vi z :: st) h Q) := R_il rfl (Or.inr rfl)
theorem e_184_44 {z : Int} : Ev X 184 44 ls [vi z] h Q ↔ ((z = 0 ∨ z = 1) ∧ Q (some (vi z)) h) := R_zr rfl
-- 185: CellRowsModel.write(IIIII)V
theorem e_185_0 : Ev X 185 0 ls st h Q ↔ onR (gl ls 0) (fun z => Ev X 185 1 ls (vr z :: st) h Q) := R_al rfl (Or.inl rfl)
theorem e_185_1 {x : Nat} : Ev X 185 1 ls (vr x :: st) h Q ↔ (X.1 x = 12 ∧ Ev X 185 2 ls (vr (X.2.2.1 x 6) :: st) h Q) := R_gr rfl
theorem e_185_2 : Ev X 185 2 ls st h Q ↔ onI (gl ls 1) (fun z => Ev X 185 3 ls (vi z :: st) h Q) := R_il rfl (Or.inl rfl)
theorem e_185_3 : Ev X 185 3 ls st h Q ↔ onI (gl ls 2) (fun z => Ev X 185 4 ls (vi z :: st) h Q) := R_il rfl (Or.inl rfl)
theorem e_185_4 {x : Nat} {j v : Int} : Ev X 185 4 ls (vi v :: vi j :: vr x :: st) h Q ↔ ((X.1 x = 13 ∧ 0 ≤ j ∧ j < X.2.1 x) ∧ Ev X 185 5 ls st (up2 h.1 x j.toNat v, h.2) Q) := R_ias rfl
theorem e_185_5 : Ev X 185 5 ls st h Q ↔ onR (gl ls 0) (fun z => Ev X 185 6 ls (vr z :: st) h Q) := R_al rfl (Or.inl rfl)
theorem e_185_6 {x : Nat} : Ev X 185 6 ls (vr x :: st) h Q ↔ (X.1 x = 12 ∧ Ev X 185 7 ls (vr (X.2.2.1 x 6) :: st) h Q) := R_gr rfl
theorem e_185_7 : Ev X 185 7 ls st h Q ↔ onI (gl ls 1) (fun z => Ev X 185 8 ls (vi z :: st) h Q) := R_il rfl (Or.inl rfl)
theorem e_185_8 : Ev X 185 8 ls st h Q ↔ Ev X 185 9 ls (vi 1 :: st) h Q := R_kc rfl (Or.inl ⟨Or.inl rfl, by decide⟩)
theorem e_185_9 {x y : Int} : Ev X 185 9 ls (vi y :: vi x :: st) h Q ↔ ((inR (x + y)) ∧ Ev X 185 10 ls (vi (x + y) :: st) h Q) := R_add rfl
theorem e_185_10 : Ev X 185 10 ls st h Q ↔ onI (gl ls 3) (fun z => Ev X 185 11 ls (vi z :: st) h Q) := R_il rfl (Or.inl rfl)
theorem e_185_11 {x : Nat} {j v : Int} : Ev X 185 11 ls (vi v :: vi j :: vr x :: st) h Q ↔ ((X.1 x = 13 ∧ 0 ≤ j ∧ j < X.2.1 x) ∧ Ev X 185 12 ls st (up2 h.1 x j.toNat v, h.2) Q) := R_ias rfl
theorem e_185_12 : Ev X 185 12 ls st h Q ↔ onR (gl ls 0) (fun z => Ev X 185 13 ls (vr z :: st) h Q) := R_al rfl (Or.inl rfl)
theorem e_185_13 {x : Nat} : Ev X 185 13 ls (vr x :: st) h Q ↔ (X.1 x = 12 ∧ Ev X 185 14 ls (vr (X.2.2.1 x 6) :: st) h Q) := R_gr rfl
theorem e_185_14 : Ev X 185 14 ls st h Q ↔ onI (gl ls 1) (fun z => Ev X 185 15 ls (vi z :: st) h Q) := R_il rfl (Or.inl rfl)
theorem e_185_15 : Ev X 185 15 ls st h Q ↔ Ev X 185 16 ls (vi 2 :: st) h Q := R_kc rfl (Or.inl ⟨Or.inl rfl, by decide⟩)
theorem e_185_16 {x y : Int} : Ev X 185 16 ls (vi y :: vi x :: st) h Q ↔ ((inR (x + y)) ∧ Ev X 185 17 ls (vi (x + y) :: st) h Q) := R_add rfl
theorem e_185_17 : Ev X 185 17 ls st h Q ↔ onI (gl ls 4) (fun z => Ev X 185 18 ls (vi z :: st) h Q) := R_il rfl (Or.inr rfl)
theorem e_185_18 {x : Nat} {j v : Int} : Ev X 185 18 ls (vi v :: vi j :: vr x :: st) h Q ↔ ((X.1 x = 13 ∧ 0 ≤ j ∧ j < X.2.1 x) ∧ Ev X 185 19 ls st (up2 h.1 x j.toNat v, h.2) Q) := R_ias rfl
theorem e_185_19 : Ev X 185 19 ls st h Q ↔ onR (gl ls 0) (fun z => Ev X 185 20 ls (vr z :: st) h Q) := R_al rfl (Or.inl rfl)
theorem e_185_20 {x : Nat} : Ev X 185 20 ls (vr x :: st) h Q ↔ (X.1 x = 12 ∧ Ev X 185 21 ls (vr (X.2.2.1 x 6) :: st) h Q) := R_gr rfl
theorem e_185_21 : Ev X 185 21 ls st h Q ↔ onI (gl ls 1) (fun z => Ev X 185 22 ls (vi z :: st) h Q) := R_il rfl (Or.inl rfl)
theorem e_185_22 : Ev X 185 22 ls st h Q ↔ Ev X 185 23 ls (vi 3 :: st) h Q := R_kc rfl (Or.inl ⟨Or.inl rfl, by decide⟩)
theorem e_185_23 {x y : Int} : Ev X 185 23 ls (vi y :: vi x :: st) h Q ↔ ((inR (x + y)) ∧ Ev X 185 24 ls (vi (x + y) :: st) h Q) := R_add rfl
theorem e_185_24 : Ev X 185 24 ls st h Q ↔ onI (gl ls 5) (fun z => Ev X 185 25 ls (vi z :: st) h Q) := R_il rfl (Or.inr rfl)
theorem e_185_25 {x : Nat} {j v : Int} : Ev X 185 25 ls (vi v :: vi j :: vr x :: st) h Q ↔ ((X.1 x = 13 ∧ 0 ≤ j ∧ j < X.2.1 x) ∧ Ev X 185 26 ls st (up2 h.1 x j.toNat v, h.2) Q) := R_ias rfl
theorem e_185_26 : Ev X 185 26 ls [] h Q ↔ Q none h := R_vr rfl
-- 186: CellRowsModel.block(IIIII)I
theorem e_186_0 : Ev X 186 0 ls st h Q ↔ onR (gl ls 0) (fun z => Ev X 186 1 ls (vr z :: st) h Q) := R_al rfl (Or.inl rfl)
theorem e_186_1 : Ev X 186 1 ls st h Q ↔ Ev X 186 2 ls (vi 0 :: st) h Q := R_kc rfl (Or.inl ⟨Or.inl rfl, by decide⟩)
theorem e_186_2 {x : Nat} {v : Int} : Ev X 186 2 ls (vi v :: vr x :: st) h Q ↔ (X.1 x = 12 ∧ Ev X 186 3 ls st (h.1, up2 h.2 x 0 v) Q) := R_pi rfl
theorem e_186_3 : Ev X 186 3 ls st h Q ↔ onR (gl ls 0) (fun z => Ev X 186 4 ls (vr z :: st) h Q) := R_al rfl (Or.inl rfl)
theorem e_186_4 : Ev X 186 4 ls st h Q ↔ onI (gl ls 1) (fun z => Ev X 186 5 ls (vi z :: st) h Q) := R_il rfl (Or.inl rfl)
theorem e_186_5 : Ev X 186 5 ls st h Q ↔ onI (gl ls 2) (fun z => Ev X 186 6 ls (vi z :: st) h Q) := R_il rfl (Or.inl rfl)
theorem e_186_6 : Ev X 186 6 ls st h Q ↔ onI (gl ls 3) (fun z => Ev X 186 7 ls (vi z :: st) h Q) := R_il rfl (Or.inl rfl)
theorem e_186_7 : Ev X 186 7 ls st h Q ↔ onI (gl ls 4) (fun z => Ev X 186 8 ls (vi z :: st) h Q) := R_il rfl (Or.inr rfl)
theorem e_186_8 {rest : List xV} {a0 : Int} {a1 : Int} {a2 : Int} {a3 : Int} {o : Nat} : Ev X 186 8 ls ((vi a3) :: (vi a2) :: (vi a1) :: (vi a0) :: vr o :: rest) h Q ↔ ((X.1 o = 12 ∧ wd rest ≤ 8) ∧ Cl X 183 [vr o, vi a0, vi a1, vi a2, vi a3] h (fun r h2 => Ev X 186 9 ls (r.toList ++ rest) h2 Q)) := R_cv (x := o) (as := [vi a0, vi a1, vi a2, vi a3]) (k2 := 183) rfl rfl (Nat.le_of_ble_eq_true rfl)
theorem e_186_9 {x : Int} : Ev X 186 9 ls (vi x :: st) h Q ↔ (if x = 0 then Ev X 186 16 ls st h Q else Ev X 186 10 ls st h Q) := R_ifeq rfl
theorem e_186_10 : Ev X 186 10 ls st h Q ↔ onI (gl ls 5) (fun z => Ev X 186 11 ls (vi z :: st) h Q) := R_il rfl (Or.inr rfl)
theorem e_186_11 {x : Int} : Ev X 186 11 ls (vi x :: st) h Q ↔ Ev X 186 12 ls (vl x :: st) h Q := R_i2l rfl
theorem e_186_12 : Ev X 186 12 ls st h Q ↔ Ev X 186 13 ls (vl 0 :: st) h Q := R_lc rfl ⟨Or.inl rfl, by decide⟩
theorem e_186_13 : Ev X 186 13 ls st h Q ↔ Ev X 186 14 ls (vl 4 :: st) h Q := R_lc rfl ⟨Or.inr rfl, by decide⟩
theorem e_186_14 {rest : List xV} {a0 : Int} {a1 : Int} {a2 : Int} : Ev X 186 14 ls ((vl a2) :: (vl a1) :: (vl a0) :: rest) h Q ↔ (wd rest ≤ 8 ∧ Cl X 149 [vl a0, vl a1, vl a2] h (fun r h2 => Ev X 186 15 ls (r.toList ++ rest) h2 Q)) := R_cs (as := [vl a0, vl a1, vl a2]) (k2 := 149) rfl rfl (Nat.le_of_ble_eq_true rfl)
theorem e_186_15 {x : Int} : Ev X 186 15 ls (vi x :: st) h Q ↔ (if ¬ x = 0 then Ev X 186 20 ls st h Q else Ev X 186 16 ls st h Q) := R_ifne rfl
theorem e_186_16 : Ev X 186 16 ls st h Q ↔ onR (gl ls 0) (fun z => Ev X 186 17 ls (vr z :: st) h Q) := R_al rfl (Or.inl rfl)
theorem e_186_17 : Ev X 186 17 ls st h Q ↔ Ev X 186 18 ls (vi (-1) :: st) h Q := R_kc rfl (Or.inl ⟨Or.inl rfl, by decide⟩)
theorem e_186_18 {rest : List xV} {a0 : Int} {o : Nat} : Ev X 186 18 ls ((vi a0) :: vr o :: rest) h Q ↔ ((X.1 o = 12 ∧ wd rest ≤ 8) ∧ Cl X 154 [vr o, vi a0] h (fun r h2 => Ev X 186 19 ls (r.toList ++ rest) h2 Q)) := R_cv (x := o) (as := [vi a0]) (k2 := 154) rfl rfl (Nat.le_of_ble_eq_true rfl)
theorem e_186_19 {z : Int} : Ev X 186 19 ls [vi z] h Q ↔ Q (some (vi z)) h := R_ir rfl
theorem e_186_20 : Ev X 186 20 ls st h Q ↔ onR (gl ls 0) (fun z => Ev X 186 21 ls (vr z :: st) h Q) := R_al rfl (Or.inl rfl)
theorem e_186_21 : Ev X 186 21 ls st h Q ↔ onI (gl ls 1) (fun z => Ev X 186 22 ls (vi z :: st) h Q) := R_il rfl (Or.inl rfl)
theorem e_186_22 : Ev X 186 22 ls st h Q ↔ onI (gl ls 2) (fun z => Ev X 186 23 ls (vi z :: st) h Q) := R_il rfl (Or.inl rfl)
theorem e_186_23 : Ev X 186 23 ls st h Q ↔ onI (gl ls 3) (fun z => Ev X 186 24 ls (vi z :: st) h Q) := R_il rfl (Or.inl rfl)
theorem e_186_24 : Ev X 186 24 ls st h Q ↔ onI (gl ls 5) (fun z => Ev X 186 25 ls (vi z :: st) h Q) := R_il rfl (Or.inr rfl)
theorem e_186_25 {x y : Int} : Ev X 186 25 ls (vi y :: vi x :: st) h Q ↔ ((inR (x - y)) ∧ Ev X 186 26 ls (vi (x - y) :: st) h Q) := R_sub rfl
theorem e_186_26 : Ev X 186 26 ls st h Q ↔ onI (gl ls 4) (fun z => Ev X 186 27 ls (vi z :: st) h Q) := R_il rfl (Or.inr rfl)
theorem e_186_27 : Ev X 186 27 ls st h Q ↔ onI (gl ls 5) (fun z => Ev X 186 28 ls (vi z :: st) h Q) := R_il rfl (Or.inr rfl)
theorem e_186_28 {x y : Int} : Ev X 186 28 ls (vi y :: vi x :: st) h Q ↔ ((inR (x + y)) ∧ Ev X 186 29 ls (vi (x + y) :: st) h Q) := R_add rfl
theorem e_186_29 : Ev X 186 29 ls st h Q ↔ Ev X 186 30 ls (vi 0 :: st) h Q := R_kc rfl (Or.inl ⟨Or.inl rfl, by decide⟩)
theorem e_186_30 {rest : List xV} {a0 : Int} {a1 : Int} {a2 : Int} {a3 : Int} {a4 : Int} {o : Nat} : Ev X 186 30 ls ((vi a4) :: (vi a3) :: (vi a2) :: (vi a1) :: (vi a0) :: vr o :: rest) h Q ↔ ((X.1 o = 12 ∧ wd rest ≤ 8) ∧ Cl X 184 [vr o, vi a0, vi a1, vi a2, vi a3, vi a4] h (fun r h2 => Ev X 186 31 ls (r.toList ++ rest) h2 Q)) := R_cv (x := o) (as := [vi a0, vi a1, vi a2, vi a3, vi a4]) (k2 := 184) rfl rfl (Nat.le_of_ble_eq_true rfl)
theorem e_186_31 {x : Int} : Ev X 186 31 ls (vi x :: st) h Q ↔ (if x = 0 then Ev X 186 36 ls st h Q else Ev X 186 32 ls st h Q) := R_ifeq rfl
theorem e_186_32 : Ev X 186 32 ls st h Q ↔ onR (gl ls 0) (fun z => Ev X 186 33 ls (vr z :: st) h Q) := R_al rfl (Or.inl rfl)
theorem e_186_33 : Ev X 186 33 ls st h Q ↔ Ev X 186 34 ls (vi (-4) :: st) h Q := R_kc rfl (Or.inr (Or.inl ⟨rfl, by decide⟩))
theorem e_186_34 {rest : List xV} {a0 : Int} {o : Nat} : Ev X 186 34 ls ((vi a0) :: vr o :: rest) h Q ↔ ((X.1 o = 12 ∧ wd rest ≤ 8) ∧ Cl X 154 [vr o, vi a0] h (fun r h2 => Ev X 186 35 ls (r.toList ++ rest) h2 Q)) := R_cv (x := o) (as := [vi a0]) (k2 := 154) rfl rfl (Nat.le_of_ble_eq_true rfl)
theorem e_186_35 {z : Int} : Ev X 186 35 ls [vi z] h Q ↔ Q (some (vi z)) h := R_ir rfl
theorem e_186_36 : Ev X 186 36 ls st h Q ↔ onR (gl ls 0) (fun z => Ev X 186 37 ls (vr z :: st) h Q) := R_al rfl (Or.inl rfl)
theorem e_186_37 {x : Nat} : Ev X 186 37 ls (vr x :: st) h Q ↔ (X.1 x = 12 ∧ Ev X 186 38 ls (vr (X.2.2.1 x 6) :: st) h Q) := R_gr rfl
theorem e_186_38 : Ev X 186 38 ls st h Q ↔ Ev X 186 39 ls (vi 0 :: st) h Q := R_kc rfl (Or.inl ⟨Or.inl rfl, by decide⟩)
theorem e_186_39 {x : Nat} {j : Int} : Ev X 186 39 ls (vi j :: vr x :: st) h Q ↔ (((X.1 x = 13 ∨ X.1 x = 20) ∧ 0 ≤ j ∧ j < X.2.1 x) ∧ Ev X 186 40 ls (vi (h.1 x j.toNat) :: st) h Q) := R_ia rfl
theorem e_186_40 {x : Int} : Ev X 186 40 ls (vi x :: st) h Q ↔ (stOK ls 6 = true ∧ Ev X 186 41 (ls.set 6 (some (vi x))) st h Q) := R_is rfl (Or.inr rfl)
theorem e_186_41 : Ev X 186 41 ls st h Q ↔ onI (gl ls 6) (fun z => Ev X 186 42 ls (vi z :: st) h Q) := R_il rfl (Or.inr rfl)
theorem e_186_42 : Ev X 186 42 ls st h Q ↔ Ev X 186 43 ls (vi 4 :: st) h Q := R_kc rfl (Or.inl ⟨Or.inl rfl, by decide⟩)
theorem e_186_43 {x y : Int} : Ev X 186 43 ls (vi y :: vi x :: st) h Q ↔ (if ¬ x = y then Ev X 186 48 ls st h Q else Ev X 186 44 ls st h Q) := R_icne rfl
theorem e_186_44 : Ev X 186 44 ls st h Q ↔ onR (gl ls 0) (fun z => Ev X 186 45 ls (vr z :: st) h Q) := R_al rfl (Or.inl rfl)
theorem e_186_45 : Ev X 186 45 ls st h Q ↔ Ev X 186 46 ls (vi (-5) :: st) h Q := R_kc rfl (Or.inr (Or.inl ⟨rfl, by decide⟩))
theorem e_186_46 {rest : List xV} {a0 : Int} {o : Nat} : Ev X 186 46 ls ((vi a0) :: vr o :: rest) h Q ↔ ((X.1 o = 12 ∧ wd rest ≤ 8) ∧ Cl X 154 [vr o, vi a0] h (fun r h2 => Ev X 186 47 ls (r.toList ++ rest) h2 Q)) := R_cv (x := o) (as := [vi a0]) (k2 := 154) rfl rfl (Nat.le_of_ble_eq_true rfl)
theorem e_186_47 {z : Int} : Ev X 186 47 ls [vi z] h Q ↔ Q (some (vi z)) h := R_ir rfl
theorem e_186_48 : Ev X 186 48 ls st h Q ↔ onR (gl ls 0) (fun z => Ev X 186 49 ls (vr z :: st) h Q) := R_al rfl (Or.inl rfl)
theorem e_186_49 : Ev X 186 49 ls st h Q ↔ Ev X 186 50 ls (vi 0 :: st) h Q := R_kc rfl (Or.inl ⟨Or.inl rfl, by decide⟩)
theorem e_186_50 {rest : List xV} {a0 : Int} {o : Nat} : Ev X 186 50 ls ((vi a0) :: vr o :: rest) h Q ↔ ((X.1 o = 12 ∧ wd rest ≤ 8) ∧ Cl X 156 [vr o, vi a0] h (fun r h2 => Ev X 186 51 ls (r.toList ++ rest) h2 Q)) := R_cv (x := o) (as := [vi a0]) (k2 := 156) rfl rfl (Nat.le_of_ble_eq_true rfl)
theorem e_186_51 : Ev X 186 51 ls st h Q ↔ onR (gl ls 0) (fun z => Ev X 186 52 ls (vr z :: st) h Q) := R_al rfl (Or.inl rfl)
theorem e_186_52 : Ev X 186 52 ls st h Q ↔ Ev X 186 53 ls (vi 4 :: st) h Q := R_kc rfl (Or.inl ⟨Or.inl rfl, by decide⟩)
theorem e_186_53 : Ev X 186 53 ls st h Q ↔ Ev X 186 54 ls (vi 5 :: st) h Q := R_kc rfl (Or.inl ⟨Or.inl rfl, by decide⟩)
theorem e_186_54 : Ev X 186 54 ls st h Q ↔ onI (gl ls 6) (fun z => Ev X 186 55 ls (vi z :: st) h Q) := R_il rfl (Or.inr rfl)
theorem e_186_55 {x y : Int} : Ev X 186 55 ls (vi y :: vi x :: st) h Q ↔ ((inR (x * y)) ∧ Ev X 186 56 ls (vi (x * y) :: st) h Q) := R_mul rfl
theorem e_186_56 {x y : Int} : Ev X 186 56 ls (vi y :: vi x :: st) h Q ↔ ((inR (x + y)) ∧ Ev X 186 57 ls (vi (x + y) :: st) h Q) := R_add rfl
theorem e_186_57 : Ev X 186 57 ls st h Q ↔ onI (gl ls 1) (fun z => Ev X 186 58 ls (vi z :: st) h Q) := R_il rfl (Or.inl rfl)
theorem e_186_58 : Ev X 186 58 ls st h Q ↔ onI (gl ls 2) (fun z => Ev X 186 59 ls (vi z :: st) h Q) := R_il rfl (Or.inl rfl)
theorem e_186_59 : Ev X 186 59 ls st h Q ↔ onI (gl ls 3) (fun z => Ev X 186 60 ls (vi z :: st) h Q) := R_il rfl (Or.inl rfl)
theorem e_186_60 : Ev X 186 60 ls st h Q ↔ onI (gl ls 4) (fun z => Ev X 186 61 ls (vi z :: st) h Q) := R_il rfl (Or.inr rfl)
theorem e_186_61 {rest : List xV} {a0 : Int} {a1 : Int} {a2 : Int} {a3 : Int} {a4 : Int} {o : Nat} : Ev X 186 61 ls ((vi a4) :: (vi a3) :: (vi a2) :: (vi a1) :: (vi a0) :: vr o :: rest) h Q ↔ ((X.1 o = 12 ∧ wd rest ≤ 8) ∧ Cl X 185 [vr o, vi a0, vi a1, vi a2, vi a3, vi a4] h (fun r h2 => Ev X 186 62 ls (r.toList ++ rest) h2 Q)) := R_cv (x := o) (as := [vi a0, vi a1, vi a2, vi a3, vi a4]) (k2 := 185) rfl rfl (Nat.le_of_ble_eq_true rfl)
theorem e_186_62 : Ev X 186 62 ls st h Q ↔ onR (gl ls 0) (fun z => Ev X 186 63 ls (vr z :: st) h Q) := R_al rfl (Or.inl rfl)
theorem e_186_63 {x : Nat} : Ev X 186 63 ls (vr x :: st) h Q ↔ (X.1 x = 12 ∧ Ev X 186 64 ls (vr (X.2.2.1 x 6) :: st) h Q) := R_gr rfl
theorem e_186_64 : Ev X 186 64 ls st h Q ↔ Ev X 186 65 ls (vi 4 :: st) h Q := R_kc rfl (Or.inl ⟨Or.inl rfl, by decide⟩)
theorem e_186_65 : Ev X 186 65 ls st h Q ↔ Ev X 186 66 ls (vi 5 :: st) h Q := R_kc rfl (Or.inl ⟨Or.inl rfl, by decide⟩)
theorem e_186_66 : Ev X 186 66 ls st h Q ↔ onI (gl ls 6) (fun z => Ev X 186 67 ls (vi z :: st) h Q) := R_il rfl (Or.inr rfl)
theorem e_186_67 {x y : Int} : Ev X 186 67 ls (vi y :: vi x :: st) h Q ↔ ((inR (x * y)) ∧ Ev X 186 68 ls (vi (x * y) :: st) h Q) := R_mul rfl
theorem e_186_68 {x y : Int} : Ev X 186 68 ls (vi y :: vi x :: st) h Q ↔ ((inR (x + y)) ∧ Ev X 186 69 ls (vi (x + y) :: st) h Q) := R_add rfl
theorem e_186_69 : Ev X 186 69 ls st h Q ↔ Ev X 186 70 ls (vi 4 :: st) h Q := R_kc rfl (Or.inl ⟨Or.inl rfl, by decide⟩)
theorem e_186_70 {x y : Int} : Ev X 186 70 ls (vi y :: vi x :: st) h Q ↔ ((inR (x + y)) ∧ Ev X 186 71 ls (vi (x + y) :: st) h Q) := R_add rfl
theorem e_186_71 : Ev X 186 71 ls st h Q ↔ onI (gl ls 5) (fun z => Ev X 186 72 ls (vi z :: st) h Q) := R_il rfl (Or.inr rfl)
theorem e_186_72 {x : Nat} {j v : Int} : Ev X 186 72 ls (vi v :: vi j :: vr x :: st) h Q ↔ ((X.1 x = 13 ∧ 0 ≤ j ∧ j < X.2.1 x) ∧ Ev X 186 73 ls st (up2 h.1 x j.toNat v, h.2) Q) := R_ias rfl
theorem e_186_73 : Ev X 186 73 ls st h Q ↔ onR (gl ls 0) (fun z => Ev X 186 74 ls (vr z :: st) h Q) := R_al rfl (Or.inl rfl)
theorem e_186_74 {x : Nat} : Ev X 186 74 ls (vr x :: st) h Q ↔ (X.1 x = 12 ∧ Ev X 186 75 ls (vr (X.2.2.1 x 6) :: st) h Q) := R_gr rfl
theorem e_186_75 : Ev X 186 75 ls st h Q ↔ Ev X 186 76 ls (vi 0 :: st) h Q := R_kc rfl (Or.inl ⟨Or.inl rfl, by decide⟩)
theorem e_186_76 {v w : xV} : Ev X 186 76 ls (v :: w :: st) h Q ↔ ((ct1 v = true ∧ ct1 w = true) ∧ Ev X 186 77 ls (v :: w :: v :: w :: st) h Q) := R_dup2 rfl
theorem e_186_77 {x : Nat} {j : Int} : Ev X 186 77 ls (vi j :: vr x :: st) h Q ↔ (((X.1 x = 13 ∨ X.1 x = 20) ∧ 0 ≤ j ∧ j < X.2.1 x) ∧ Ev X 186 78 ls (vi (h.1 x j.toNat) :: st) h Q) := R_ia rfl
theorem e_186_78 : Ev X 186 78 ls st h Q ↔ Ev X 186 79 ls (vi 1 :: st) h Q := R_kc rfl (Or.inl ⟨Or.inl rfl, by decide⟩)
theorem e_186_79 {x y : Int} : Ev X 186 79 ls (vi y :: vi x :: st) h Q ↔ ((inR (x + y)) ∧ Ev X 186 80 ls (vi (x + y) :: st) h Q) := R_add rfl
theorem e_186_80 {x : Nat} {j v : Int} : Ev X 186 80 ls (vi v :: vi j :: vr x :: st) h Q ↔ ((X.1 x = 13 ∧ 0 ≤ j ∧ j < X.2.1 x) ∧ Ev X 186 81 ls st (up2 h.1 x j.toNat v, h.2) Q) := R_ias rfl
theorem e_186_81 : Ev X 186 81 ls st h Q ↔ onR (gl ls 0) (fun z => Ev X 186 82 ls (vr z :: st) h Q) := R_al rfl (Or.inl rfl)
theorem e_186_82 {rest : List xV}  {o : Nat} : Ev X 186 82 ls (vr o :: rest) h Q ↔ ((X.1 o = 12 ∧ wd rest ≤ 8) ∧ Cl X 178 [vr o] h (fun r h2 => Ev X 186 83 ls (r.toList ++ rest) h2 Q)) := R_cv (x := o) (as := []) (k2 := 178) rfl rfl (Nat.le_of_ble_eq_true rfl)
theorem e_186_83 : Ev X 186 83 ls st h Q ↔ onR (gl ls 0) (fun z => Ev X 186 84 ls (vr z :: st) h Q) := R_al rfl (Or.inl rfl)
theorem e_186_84 : Ev X 186 84 ls st h Q ↔ onI (gl ls 6) (fun z => Ev X 186 85 ls (vi z :: st) h Q) := R_il rfl (Or.inr rfl)
theorem e_186_85 {rest : List xV} {a0 : Int} {o : Nat} : Ev X 186 85 ls ((vi a0) :: vr o :: rest) h Q ↔ ((X.1 o = 12 ∧ wd rest ≤ 8) ∧ Cl X 153 [vr o, vi a0] h (fun r h2 => Ev X 186 86 ls (r.toList ++ rest) h2 Q)) := R_cv (x := o) (as := [vi a0]) (k2 := 153) rfl rfl (Nat.le_of_ble_eq_true rfl)
theorem e_186_86 {z : Int} : Ev X 186 86 ls [vi z] h Q ↔ Q (some (vi z)) h := R_ir rfl
-- 187: CellRowsModel.fence(IIII)I
theorem e_187_0 : Ev X 187 0 ls st h Q ↔ onR (gl ls 0) (fun z => Ev X 187 1 ls (vr z :: st) h Q) := R_al rfl (Or.inl rfl)
theorem e_187_1 : Ev X 187 1 ls st h Q ↔ Ev X 187 2 ls (vi 0 :: st) h Q := R_kc rfl (Or.inl ⟨Or.inl rfl, by decide⟩)
theorem e_187_2 {x : Nat} {v : Int} : Ev X 187 2 ls (vi v :: vr x :: st) h Q ↔ (X.1 x = 12 ∧ Ev X 187 3 ls st (h.1, up2 h.2 x 0 v) Q) := R_pi rfl
theorem e_187_3 : Ev X 187 3 ls st h Q ↔ onR (gl ls 0) (fun z => Ev X 187 4 ls (vr z :: st) h Q) := R_al rfl (Or.inl rfl)
theorem e_187_4 : Ev X 187 4 ls st h Q ↔ onI (gl ls 1) (fun z => Ev X 187 5 ls (vi z :: st) h Q) := R_il rfl (Or.inl rfl)
theorem e_187_5 : Ev X 187 5 ls st h Q ↔ onI (gl ls 2) (fun z => Ev X 187 6 ls (vi z :: st) h Q) := R_il rfl (Or.inl rfl)
theorem e_187_6 : Ev X 187 6 ls st h Q ↔ onI (gl ls 3) (fun z => Ev X 187 7 ls (vi z :: st) h Q) := R_il rfl (Or.inl rfl)
theorem e_187_7 : Ev X 187 7 ls st h Q ↔ onI (gl ls 4) (fun z => Ev X 187 8 ls (vi z :: st) h Q) := R_il rfl (Or.inr rfl)
theorem e_187_8 {rest : List xV} {a0 : Int} {a1 : Int} {a2 : Int} {a3 : Int} {o : Nat} : Ev X 187 8 ls ((vi a3) :: (vi a2) :: (vi a1) :: (vi a0) :: vr o :: rest) h Q ↔ ((X.1 o = 12 ∧ wd rest ≤ 8) ∧ Cl X 183 [vr o, vi a0, vi a1, vi a2, vi a3] h (fun r h2 => Ev X 187 9 ls (r.toList ++ rest) h2 Q)) := R_cv (x := o) (as := [vi a0, vi a1, vi a2, vi a3]) (k2 := 183) rfl rfl (Nat.le_of_ble_eq_true rfl)
theorem e_187_9 {x : Int} : Ev X 187 9 ls (vi x :: st) h Q ↔ (if ¬ x = 0 then Ev X 187 14 ls st h Q else Ev X 187 10 ls st h Q) := R_ifne rfl
theorem e_187_10 : Ev X 187 10 ls st h Q ↔ onR (gl ls 0) (fun z => Ev X 187 11 ls (vr z :: st) h Q) := R_al rfl (Or.inl rfl)
theorem e_187_11 : Ev X 187 11 ls st h Q ↔ Ev X 187 12 ls (vi (-1) :: st) h Q := R_kc rfl (Or.inl ⟨Or.inl rfl, by decide⟩)
theorem e_187_12 {rest : List xV} {a0 : Int} {o : Nat} : Ev X 187 12 ls ((vi a0) :: vr o :: rest) h Q ↔ ((X.1 o = 12 ∧ wd rest ≤ 8) ∧ Cl X 154 [vr o, vi a0] h (fun r h2 => Ev X 187 13 ls (r.toList ++ rest) h2 Q)) := R_cv (x := o) (as := [vi a0]) (k2 := 154) rfl rfl (Nat.le_of_ble_eq_true rfl)
theorem e_187_13 {z : Int} : Ev X 187 13 ls [vi z] h Q ↔ Q (some (vi z)) h := R_ir rfl
theorem e_187_14 : Ev X 187 14 ls st h Q ↔ onR (gl ls 0) (fun z => Ev X 187 15 ls (vr z :: st) h Q) := R_al rfl (Or.inl rfl)
theorem e_187_15 : Ev X 187 15 ls st h Q ↔ onI (gl ls 1) (fun z => Ev X 187 16 ls (vi z :: st) h Q) := R_il rfl (Or.inl rfl)
theorem e_187_16 : Ev X 187 16 ls st h Q ↔ onI (gl ls 2) (fun z => Ev X 187 17 ls (vi z :: st) h Q) := R_il rfl (Or.inl rfl)
theorem e_187_17 : Ev X 187 17 ls st h Q ↔ onI (gl ls 3) (fun z => Ev X 187 18 ls (vi z :: st) h Q) := R_il rfl (Or.inl rfl)
theorem e_187_18 : Ev X 187 18 ls st h Q ↔ onI (gl ls 4) (fun z => Ev X 187 19 ls (vi z :: st) h Q) := R_il rfl (Or.inr rfl)
theorem e_187_19 : Ev X 187 19 ls st h Q ↔ Ev X 187 20 ls (vi 1 :: st) h Q := R_kc rfl (Or.inl ⟨Or.inl rfl, by decide⟩)
theorem e_187_20 {rest : List xV} {a0 : Int} {a1 : Int} {a2 : Int} {a3 : Int} {a4 : Int} {o : Nat} : Ev X 187 20 ls ((vi a4) :: (vi a3) :: (vi a2) :: (vi a1) :: (vi a0) :: vr o :: rest) h Q ↔ ((X.1 o = 12 ∧ wd rest ≤ 8) ∧ Cl X 184 [vr o, vi a0, vi a1, vi a2, vi a3, vi a4] h (fun r h2 => Ev X 187 21 ls (r.toList ++ rest) h2 Q)) := R_cv (x := o) (as := [vi a0, vi a1, vi a2, vi a3, vi a4]) (k2 := 184) rfl rfl (Nat.le_of_ble_eq_true rfl)
theorem e_187_21 {x : Int} : Ev X 187 21 ls (vi x :: st) h Q ↔ (if x = 0 then Ev X 187 26 ls st h Q else Ev X 187 22 ls st h Q) := R_ifeq rfl
theorem e_187_22 : Ev X 187 22 ls st h Q ↔ onR (gl ls 0) (fun z => Ev X 187 23 ls (vr z :: st) h Q) := R_al rfl (Or.inl rfl)
theorem e_187_23 : Ev X 187 23 ls st h Q ↔ Ev X 187 24 ls (vi (-4) :: st) h Q := R_kc rfl (Or.inr (Or.inl ⟨rfl, by decide⟩))
theorem e_187_24 {rest : List xV} {a0 : Int} {o : Nat} : Ev X 187 24 ls ((vi a0) :: vr o :: rest) h Q ↔ ((X.1 o = 12 ∧ wd rest ≤ 8) ∧ Cl X 154 [vr o, vi a0] h (fun r h2 => Ev X 187 25 ls (r.toList ++ rest) h2 Q)) := R_cv (x := o) (as := [vi a0]) (k2 := 154) rfl rfl (Nat.le_of_ble_eq_true rfl)
theorem e_187_25 {z : Int} : Ev X 187 25 ls [vi z] h Q ↔ Q (some (vi z)) h := R_ir rfl
theorem e_187_26 : Ev X 187 26 ls st h Q ↔ onR (gl ls 0) (fun z => Ev X 187 27 ls (vr z :: st) h Q) := R_al rfl (Or.inl rfl)
theorem e_187_27 {x : Nat} : Ev X 187 27 ls (vr x :: st) h Q ↔ (X.1 x = 12 ∧ Ev X 187 28 ls (vr (X.2.2.1 x 6) :: st) h Q) := R_gr rfl
theorem e_187_28 : Ev X 187 28 ls st h Q ↔ Ev X 187 29 ls (vi 1 :: st) h Q := R_kc rfl (Or.inl ⟨Or.inl rfl, by decide⟩)
theorem e_187_29 {x : Nat} {j : Int} : Ev X 187 29 ls (vi j :: vr x :: st) h Q ↔ (((X.1 x = 13 ∨ X.1 x = 20) ∧ 0 ≤ j ∧ j < X.2.1 x) ∧ Ev X 187 30 ls (vi (h.1 x j.toNat) :: st) h Q) := R_ia rfl
theorem e_187_30 {x : Int} : Ev X 187 30 ls (vi x :: st) h Q ↔ (stOK ls 5 = true ∧ Ev X 187 31 (ls.set 5 (some (vi x))) st h Q) := R_is rfl (Or.inr rfl)
theorem e_187_31 : Ev X 187 31 ls st h Q ↔ onI (gl ls 5) (fun z => Ev X 187 32 ls (vi z :: st) h Q) := R_il rfl (Or.inr rfl)
theorem e_187_32 : Ev X 187 32 ls st h Q ↔ Ev X 187 33 ls (vi 3 :: st) h Q := R_kc rfl (Or.inl ⟨Or.inl rfl, by decide⟩)
theorem e_187_33 {x y : Int} : Ev X 187 33 ls (vi y :: vi x :: st) h Q ↔ (if ¬ x = y then Ev X 187 38 ls st h Q else Ev X 187 34 ls st h Q) := R_icne rfl
theorem e_187_34 : Ev X 187 34 ls st h Q ↔ onR (gl ls 0) (fun z => Ev X 187 35 ls (vr z :: st) h Q) := R_al rfl (Or.inl rfl)
theorem e_187_35 : Ev X 187 35 ls st h Q ↔ Ev X 187 36 ls (vi (-5) :: st) h Q := R_kc rfl (Or.inr (Or.inl ⟨rfl, by decide⟩))
theorem e_187_36 {rest : List xV} {a0 : Int} {o : Nat} : Ev X 187 36 ls ((vi a0) :: vr o :: rest) h Q ↔ ((X.1 o = 12 ∧ wd rest ≤ 8) ∧ Cl X 154 [vr o, vi a0] h (fun r h2 => Ev X 187 37 ls (r.toList ++ rest) h2 Q)) := R_cv (x := o) (as := [vi a0]) (k2 := 154) rfl rfl (Nat.le_of_ble_eq_true rfl)
theorem e_187_37 {z : Int} : Ev X 187 37 ls [vi z] h Q ↔ Q (some (vi z)) h := R_ir rfl
theorem e_187_38 : Ev X 187 38 ls st h Q ↔ onR (gl ls 0) (fun z => Ev X 187 39 ls (vr z :: st) h Q) := R_al rfl (Or.inl rfl)
theorem e_187_39 : Ev X 187 39 ls st h Q ↔ Ev X 187 40 ls (vi 1 :: st) h Q := R_kc rfl (Or.inl ⟨Or.inl rfl, by decide⟩)
theorem e_187_40 {rest : List xV} {a0 : Int} {o : Nat} : Ev X 187 40 ls ((vi a0) :: vr o :: rest) h Q ↔ ((X.1 o = 12 ∧ wd rest ≤ 8) ∧ Cl X 156 [vr o, vi a0] h (fun r h2 => Ev X 187 41 ls (r.toList ++ rest) h2 Q)) := R_cv (x := o) (as := [vi a0]) (k2 := 156) rfl rfl (Nat.le_of_ble_eq_true rfl)
theorem e_187_41 : Ev X 187 41 ls st h Q ↔ onR (gl ls 0) (fun z => Ev X 187 42 ls (vr z :: st) h Q) := R_al rfl (Or.inl rfl)
theorem e_187_42 : Ev X 187 42 ls st h Q ↔ Ev X 187 43 ls (vi 24 :: st) h Q := R_kc rfl (Or.inr (Or.inl ⟨rfl, by decide⟩))
theorem e_187_43 : Ev X 187 43 ls st h Q ↔ Ev X 187 44 ls (vi 4 :: st) h Q := R_kc rfl (Or.inl ⟨Or.inl rfl, by decide⟩)
theorem e_187_44 : Ev X 187 44 ls st h Q ↔ onI (gl ls 5) (fun z => Ev X 187 45 ls (vi z :: st) h Q) := R_il rfl (Or.inr rfl)
theorem e_187_45 {x y : Int} : Ev X 187 45 ls (vi y :: vi x :: st) h Q ↔ ((inR (x * y)) ∧ Ev X 187 46 ls (vi (x * y) :: st) h Q) := R_mul rfl
theorem e_187_46 {x y : Int} : Ev X 187 46 ls (vi y :: vi x :: st) h Q ↔ ((inR (x + y)) ∧ Ev X 187 47 ls (vi (x + y) :: st) h Q) := R_add rfl
theorem e_187_47 : Ev X 187 47 ls st h Q ↔ onI (gl ls 1) (fun z => Ev X 187 48 ls (vi z :: st) h Q) := R_il rfl (Or.inl rfl)
theorem e_187_48 : Ev X 187 48 ls st h Q ↔ onI (gl ls 2) (fun z => Ev X 187 49 ls (vi z :: st) h Q) := R_il rfl (Or.inl rfl)
theorem e_187_49 : Ev X 187 49 ls st h Q ↔ onI (gl ls 3) (fun z => Ev X 187 50 ls (vi z :: st) h Q) := R_il rfl (Or.inl rfl)
theorem e_187_50 : Ev X 187 50 ls st h Q ↔ onI (gl ls 4) (fun z => Ev X 187 51 ls (vi z :: st) h Q) := R_il rfl (Or.inr rfl)
theorem e_187_51 {rest : List xV} {a0 : Int} {a1 : Int} {a2 : Int} {a3 : Int} {a4 : Int} {o : Nat} : Ev X 187 51 ls ((vi a4) :: (vi a3) :: (vi a2) :: (vi a1) :: (vi a0) :: vr o :: rest) h Q ↔ ((X.1 o = 12 ∧ wd rest ≤ 8) ∧ Cl X 185 [vr o, vi a0, vi a1, vi a2, vi a3, vi a4] h (fun r h2 => Ev X 187 52 ls (r.toList ++ rest) h2 Q)) := R_cv (x := o) (as := [vi a0, vi a1, vi a2, vi a3, vi a4]) (k2 := 185) rfl rfl (Nat.le_of_ble_eq_true rfl)
theorem e_187_52 : Ev X 187 52 ls st h Q ↔ onR (gl ls 0) (fun z => Ev X 187 53 ls (vr z :: st) h Q) := R_al rfl (Or.inl rfl)
theorem e_187_53 {x : Nat} : Ev X 187 53 ls (vr x :: st) h Q ↔ (X.1 x = 12 ∧ Ev X 187 54 ls (vr (X.2.2.1 x 6) :: st) h Q) := R_gr rfl
theorem e_187_54 : Ev X 187 54 ls st h Q ↔ Ev X 187 55 ls (vi 1 :: st) h Q := R_kc rfl (Or.inl ⟨Or.inl rfl, by decide⟩)
theorem e_187_55 {v w : xV} : Ev X 187 55 ls (v :: w :: st) h Q ↔ ((ct1 v = true ∧ ct1 w = true) ∧ Ev X 187 56 ls (v :: w :: v :: w :: st) h Q) := R_dup2 rfl
theorem e_187_56 {x : Nat} {j : Int} : Ev X 187 56 ls (vi j :: vr x :: st) h Q ↔ (((X.1 x = 13 ∨ X.1 x = 20) ∧ 0 ≤ j ∧ j < X.2.1 x) ∧ Ev X 187 57 ls (vi (h.1 x j.toNat) :: st) h Q) := R_ia rfl
theorem e_187_57 : Ev X 187 57 ls st h Q ↔ Ev X 187 58 ls (vi 1 :: st) h Q := R_kc rfl (Or.inl ⟨Or.inl rfl, by decide⟩)
theorem e_187_58 {x y : Int} : Ev X 187 58 ls (vi y :: vi x :: st) h Q ↔ ((inR (x + y)) ∧ Ev X 187 59 ls (vi (x + y) :: st) h Q) := R_add rfl
theorem e_187_59 {x : Nat} {j v : Int} : Ev X 187 59 ls (vi v :: vi j :: vr x :: st) h Q ↔ ((X.1 x = 13 ∧ 0 ≤ j ∧ j < X.2.1 x) ∧ Ev X 187 60 ls st (up2 h.1 x j.toNat v, h.2) Q) := R_ias rfl
theorem e_187_60 : Ev X 187 60 ls st h Q ↔ onR (gl ls 0) (fun z => Ev X 187 61 ls (vr z :: st) h Q) := R_al rfl (Or.inl rfl)
theorem e_187_61 {rest : List xV}  {o : Nat} : Ev X 187 61 ls (vr o :: rest) h Q ↔ ((X.1 o = 12 ∧ wd rest ≤ 8) ∧ Cl X 178 [vr o] h (fun r h2 => Ev X 187 62 ls (r.toList ++ rest) h2 Q)) := R_cv (x := o) (as := []) (k2 := 178) rfl rfl (Nat.le_of_ble_eq_true rfl)
theorem e_187_62 : Ev X 187 62 ls st h Q ↔ onR (gl ls 0) (fun z => Ev X 187 63 ls (vr z :: st) h Q) := R_al rfl (Or.inl rfl)
theorem e_187_63 : Ev X 187 63 ls st h Q ↔ onI (gl ls 5) (fun z => Ev X 187 64 ls (vi z :: st) h Q) := R_il rfl (Or.inr rfl)
theorem e_187_64 {rest : List xV} {a0 : Int} {o : Nat} : Ev X 187 64 ls ((vi a0) :: vr o :: rest) h Q ↔ ((X.1 o = 12 ∧ wd rest ≤ 8) ∧ Cl X 153 [vr o, vi a0] h (fun r h2 => Ev X 187 65 ls (r.toList ++ rest) h2 Q)) := R_cv (x := o) (as := [vi a0]) (k2 := 153) rfl rfl (Nat.le_of_ble_eq_true rfl)
theorem e_187_65 {z : Int} : Ev X 187 65 ls [vi z] h Q ↔ Q (some (vi z)) h := R_ir rfl
-- 188: CellRowsModel.cell(II)I
theorem e_188_0 : Ev X 188 0 ls st h Q ↔ onR (gl ls 0) (fun z => Ev X 188 1 ls (vr z :: st) h Q) := R_al rfl (Or.inl rfl)
theorem e_188_1 : Ev X 188 1 ls st h Q ↔ Ev X 188 2 ls (vi 0 :: st) h Q := R_kc rfl (Or.inl ⟨Or.inl rfl, by decide⟩)
theorem e_188_2 {x : Nat} {v : Int} : Ev X 188 2 ls (vi v :: vr x :: st) h Q ↔ (X.1 x = 12 ∧ Ev X 188 3 ls st (h.1, up2 h.2 x 0 v) Q) := R_pi rfl
theorem e_188_3 : Ev X 188 3 ls st h Q ↔ onI (gl ls 1) (fun z => Ev X 188 4 ls (vi z :: st) h Q) := R_il rfl (Or.inl rfl)
theorem e_188_4 {x : Int} : Ev X 188 4 ls (vi x :: st) h Q ↔ Ev X 188 5 ls (vl x :: st) h Q := R_i2l rfl
theorem e_188_5 : Ev X 188 5 ls st h Q ↔ Ev X 188 6 ls (vl 1 :: st) h Q := R_lc rfl ⟨Or.inl rfl, by decide⟩
theorem e_188_6 : Ev X 188 6 ls st h Q ↔ Ev X 188 7 ls (vl 6 :: st) h Q := R_lc rfl ⟨Or.inr rfl, by decide⟩
theorem e_188_7 {rest : List xV} {a0 : Int} {a1 : Int} {a2 : Int} : Ev X 188 7 ls ((vl a2) :: (vl a1) :: (vl a0) :: rest) h Q ↔ (wd rest ≤ 8 ∧ Cl X 149 [vl a0, vl a1, vl a2] h (fun r h2 => Ev X 188 8 ls (r.toList ++ rest) h2 Q)) := R_cs (as := [vl a0, vl a1, vl a2]) (k2 := 149) rfl rfl (Nat.le_of_ble_eq_true rfl)
theorem e_188_8 {x : Int} : Ev X 188 8 ls (vi x :: st) h Q ↔ (if ¬ x = 0 then Ev X 188 13 ls st h Q else Ev X 188 9 ls st h Q) := R_ifne rfl
theorem e_188_9 : Ev X 188 9 ls st h Q ↔ onR (gl ls 0) (fun z => Ev X 188 10 ls (vr z :: st) h Q) := R_al rfl (Or.inl rfl)
theorem e_188_10 : Ev X 188 10 ls st h Q ↔ Ev X 188 11 ls (vi (-1) :: st) h Q := R_kc rfl (Or.inl ⟨Or.inl rfl, by decide⟩)
theorem e_188_11 {rest : List xV} {a0 : Int} {o : Nat} : Ev X 188 11 ls ((vi a0) :: vr o :: rest) h Q ↔ ((X.1 o = 12 ∧ wd rest ≤ 8) ∧ Cl X 154 [vr o, vi a0] h (fun r h2 => Ev X 188 12 ls (r.toList ++ rest) h2 Q)) := R_cv (x := o) (as := [vi a0]) (k2 := 154) rfl rfl (Nat.le_of_ble_eq_true rfl)
theorem e_188_12 {z : Int} : Ev X 188 12 ls [vi z] h Q ↔ Q (some (vi z)) h := R_ir rfl
theorem e_188_13 : Ev X 188 13 ls st h Q ↔ onI (gl ls 2) (fun z => Ev X 188 14 ls (vi z :: st) h Q) := R_il rfl (Or.inl rfl)
theorem e_188_14 : Ev X 188 14 ls st h Q ↔ Ev X 188 15 ls (vi (-1) :: st) h Q := R_kc rfl (Or.inl ⟨Or.inl rfl, by decide⟩)
theorem e_188_15 {x y : Int} : Ev X 188 15 ls (vi y :: vi x :: st) h Q ↔ (if x = y then Ev X 188 24 ls st h Q else Ev X 188 16 ls st h Q) := R_iceq rfl
theorem e_188_16 : Ev X 188 16 ls st h Q ↔ onR (gl ls 0) (fun z => Ev X 188 17 ls (vr z :: st) h Q) := R_al rfl (Or.inl rfl)
theorem e_188_17 : Ev X 188 17 ls st h Q ↔ onI (gl ls 2) (fun z => Ev X 188 18 ls (vi z :: st) h Q) := R_il rfl (Or.inl rfl)
theorem e_188_18 {rest : List xV} {a0 : Int} {o : Nat} : Ev X 188 18 ls ((vi a0) :: vr o :: rest) h Q ↔ ((X.1 o = 12 ∧ wd rest ≤ 8) ∧ Cl X 169 [vr o, vi a0] h (fun r h2 => Ev X 188 19 ls (r.toList ++ rest) h2 Q)) := R_cv (x := o) (as := [vi a0]) (k2 := 169) rfl rfl (Nat.le_of_ble_eq_true rfl)
theorem e_188_19 {x : Int} : Ev X 188 19 ls (vi x :: st) h Q ↔ (if ¬ x = 0 then Ev X 188 24 ls st h Q else Ev X 188 20 ls st h Q) := R_ifne rfl
theorem e_188_20 : Ev X 188 20 ls st h Q ↔ onR (gl ls 0) (fun z => Ev X 188 21 ls (vr z :: st) h Q) := R_al rfl (Or.inl rfl)
theorem e_188_21 : Ev X 188 21 ls st h Q ↔ Ev X 188 22 ls (vi (-2) :: st) h Q := R_kc rfl (Or.inr (Or.inl ⟨rfl, by decide⟩))
theorem e_188_22 {rest : List xV} {a0 : Int} {o : Nat} : Ev X 188 22 ls ((vi a0) :: vr o :: rest) h Q ↔ ((X.1 o = 12 ∧ wd rest ≤ 8) ∧ Cl X 154 [vr o, vi a0] h (fun r h2 => Ev X 188 23 ls (r.toList ++ rest) h2 Q)) := R_cv (x := o) (as := [vi a0]) (k2 := 154) rfl rfl (Nat.le_of_ble_eq_true rfl)
theorem e_188_23 {z : Int} : Ev X 188 23 ls [vi z] h Q ↔ Q (some (vi z)) h := R_ir rfl
theorem e_188_24 : Ev X 188 24 ls st h Q ↔ onR (gl ls 0) (fun z => Ev X 188 25 ls (vr z :: st) h Q) := R_al rfl (Or.inl rfl)
theorem e_188_25 {x : Nat} : Ev X 188 25 ls (vr x :: st) h Q ↔ (X.1 x = 12 ∧ Ev X 188 26 ls (vr (X.2.2.1 x 6) :: st) h Q) := R_gr rfl
theorem e_188_26 : Ev X 188 26 ls st h Q ↔ Ev X 188 27 ls (vi 2 :: st) h Q := R_kc rfl (Or.inl ⟨Or.inl rfl, by decide⟩)
theorem e_188_27 {x : Nat} {j : Int} : Ev X 188 27 ls (vi j :: vr x :: st) h Q ↔ (((X.1 x = 13 ∨ X.1 x = 20) ∧ 0 ≤ j ∧ j < X.2.1 x) ∧ Ev X 188 28 ls (vi (h.1 x j.toNat) :: st) h Q) := R_ia rfl
theorem e_188_28 {x : Int} : Ev X 188 28 ls (vi x :: st) h Q ↔ (stOK ls 3 = true ∧ Ev X 188 29 (ls.set 3 (some (vi x))) st h Q) := R_is rfl (Or.inl rfl)
theorem e_188_29 : Ev X 188 29 ls st h Q ↔ onI (gl ls 3) (fun z => Ev X 188 30 ls (vi z :: st) h Q) := R_il rfl (Or.inl rfl)
theorem e_188_30 : Ev X 188 30 ls st h Q ↔ Ev X 188 31 ls (vi 20 :: st) h Q := R_kc rfl (Or.inr (Or.inl ⟨rfl, by decide⟩))
theorem e_188_31 {x y : Int} : Ev X 188 31 ls (vi y :: vi x :: st) h Q ↔ (if ¬ x = y then Ev X 188 36 ls st h Q else Ev X 188 32 ls st h Q) := R_icne rfl
theorem e_188_32 : Ev X 188 32 ls st h Q ↔ onR (gl ls 0) (fun z => Ev X 188 33 ls (vr z :: st) h Q) := R_al rfl (Or.inl rfl)
theorem e_188_33 : Ev X 188 33 ls st h Q ↔ Ev X 188 34 ls (vi (-5) :: st) h Q := R_kc rfl (Or.inr (Or.inl ⟨rfl, by decide⟩))
theorem e_188_34 {rest : List xV} {a0 : Int} {o : Nat} : Ev X 188 34 ls ((vi a0) :: vr o :: rest) h Q ↔ ((X.1 o = 12 ∧ wd rest ≤ 8) ∧ Cl X 154 [vr o, vi a0] h (fun r h2 => Ev X 188 35 ls (r.toList ++ rest) h2 Q)) := R_cv (x := o) (as := [vi a0]) (k2 := 154) rfl rfl (Nat.le_of_ble_eq_true rfl)
theorem e_188_35 {z : Int} : Ev X 188 35 ls [vi z] h Q ↔ Q (some (vi z)) h := R_ir rfl
theorem e_188_36 : Ev X 188 36 ls st h Q ↔ onR (gl ls 0) (fun z => Ev X 188 37 ls (vr z :: st) h Q) := R_al rfl (Or.inl rfl)
theorem e_188_37 : Ev X 188 37 ls st h Q ↔ Ev X 188 38 ls (vi 2 :: st) h Q := R_kc rfl (Or.inl ⟨Or.inl rfl, by decide⟩)
theorem e_188_38 {rest : List xV} {a0 : Int} {o : Nat} : Ev X 188 38 ls ((vi a0) :: vr o :: rest) h Q ↔ ((X.1 o = 12 ∧ wd rest ≤ 8) ∧ Cl X 156 [vr o, vi a0] h (fun r h2 => Ev X 188 39 ls (r.toList ++ rest) h2 Q)) := R_cv (x := o) (as := [vi a0]) (k2 := 156) rfl rfl (Nat.le_of_ble_eq_true rfl)
theorem e_188_39 : Ev X 188 39 ls st h Q ↔ onI (gl ls 3) (fun z => Ev X 188 40 ls (vi z :: st) h Q) := R_il rfl (Or.inl rfl)
theorem e_188_40 {rest : List xV} {a0 : Int} : Ev X 188 40 ls ((vi a0) :: rest) h Q ↔ (wd rest ≤ 8 ∧ Cl X 158 [vi a0] h (fun r h2 => Ev X 188 41 ls (r.toList ++ rest) h2 Q)) := R_cs (as := [vi a0]) (k2 := 158) rfl rfl (Nat.le_of_ble_eq_true rfl)
theorem e_188_41 {x : Int} : Ev X 188 41 ls (vi x :: st) h Q ↔ (stOK ls 4 = true ∧ Ev X 188 42 (ls.set 4 (some (vi x))) st h Q) := R_is rfl (Or.inr rfl)
theorem e_188_42 : Ev X 188 42 ls st h Q ↔ onR (gl ls 0) (fun z => Ev X 188 43 ls (vr z :: st) h Q) := R_al rfl (Or.inl rfl)
theorem e_188_43 {x : Nat} : Ev X 188 43 ls (vr x :: st) h Q ↔ (X.1 x = 12 ∧ Ev X 188 44 ls (vr (X.2.2.1 x 6) :: st) h Q) := R_gr rfl
theorem e_188_44 : Ev X 188 44 ls st h Q ↔ onI (gl ls 4) (fun z => Ev X 188 45 ls (vi z :: st) h Q) := R_il rfl (Or.inr rfl)
theorem e_188_45 : Ev X 188 45 ls st h Q ↔ onI (gl ls 1) (fun z => Ev X 188 46 ls (vi z :: st) h Q) := R_il rfl (Or.inl rfl)
theorem e_188_46 {x : Nat} {j v : Int} : Ev X 188 46 ls (vi v :: vi j :: vr x :: st) h Q ↔ ((X.1 x = 13 ∧ 0 ≤ j ∧ j < X.2.1 x) ∧ Ev X 188 47 ls st (up2 h.1 x j.toNat v, h.2) Q) := R_ias rfl
theorem e_188_47 : Ev X 188 47 ls st h Q ↔ onR (gl ls 0) (fun z => Ev X 188 48 ls (vr z :: st) h Q) := R_al rfl (Or.inl rfl)
theorem e_188_48 {x : Nat} : Ev X 188 48 ls (vr x :: st) h Q ↔ (X.1 x = 12 ∧ Ev X 188 49 ls (vr (X.2.2.1 x 6) :: st) h Q) := R_gr rfl
theorem e_188_49 : Ev X 188 49 ls st h Q ↔ onI (gl ls 4) (fun z => Ev X 188 50 ls (vi z :: st) h Q) := R_il rfl (Or.inr rfl)
theorem e_188_50 : Ev X 188 50 ls st h Q ↔ Ev X 188 51 ls (vi 1 :: st) h Q := R_kc rfl (Or.inl ⟨Or.inl rfl, by decide⟩)
theorem e_188_51 {x y : Int} : Ev X 188 51 ls (vi y :: vi x :: st) h Q ↔ ((inR (x + y)) ∧ Ev X 188 52 ls (vi (x + y) :: st) h Q) := R_add rfl
theorem e_188_52 : Ev X 188 52 ls st h Q ↔ onI (gl ls 2) (fun z => Ev X 188 53 ls (vi z :: st) h Q) := R_il rfl (Or.inl rfl)
theorem e_188_53 {x : Nat} {j v : Int} : Ev X 188 53 ls (vi v :: vi j :: vr x :: st) h Q ↔ ((X.1 x = 13 ∧ 0 ≤ j ∧ j < X.2.1 x) ∧ Ev X 188 54 ls st (up2 h.1 x j.toNat v, h.2) Q) := R_ias rfl
theorem e_188_54 : Ev X 188 54 ls st h Q ↔ onR (gl ls 0) (fun z => Ev X 188 55 ls (vr z :: st) h Q) := R_al rfl (Or.inl rfl)
theorem e_188_55 {x : Nat} : Ev X 188 55 ls (vr x :: st) h Q ↔ (X.1 x = 12 ∧ Ev X 188 56 ls (vr (X.2.2.1 x 6) :: st) h Q) := R_gr rfl
theorem e_188_56 : Ev X 188 56 ls st h Q ↔ onI (gl ls 4) (fun z => Ev X 188 57 ls (vi z :: st) h Q) := R_il rfl (Or.inr rfl)
theorem e_188_57 : Ev X 188 57 ls st h Q ↔ Ev X 188 58 ls (vi 2 :: st) h Q := R_kc rfl (Or.inl ⟨Or.inl rfl, by decide⟩)
theorem e_188_58 {x y : Int} : Ev X 188 58 ls (vi y :: vi x :: st) h Q ↔ ((inR (x + y)) ∧ Ev X 188 59 ls (vi (x + y) :: st) h Q) := R_add rfl
theorem e_188_59 : Ev X 188 59 ls st h Q ↔ Ev X 188 60 ls (vi 0 :: st) h Q := R_kc rfl (Or.inl ⟨Or.inl rfl, by decide⟩)
theorem e_188_60 {x : Nat} {j v : Int} : Ev X 188 60 ls (vi v :: vi j :: vr x :: st) h Q ↔ ((X.1 x = 13 ∧ 0 ≤ j ∧ j < X.2.1 x) ∧ Ev X 188 61 ls st (up2 h.1 x j.toNat v, h.2) Q) := R_ias rfl
theorem e_188_61 : Ev X 188 61 ls st h Q ↔ onR (gl ls 0) (fun z => Ev X 188 62 ls (vr z :: st) h Q) := R_al rfl (Or.inl rfl)
theorem e_188_62 {x : Nat} : Ev X 188 62 ls (vr x :: st) h Q ↔ (X.1 x = 12 ∧ Ev X 188 63 ls (vr (X.2.2.1 x 6) :: st) h Q) := R_gr rfl
theorem e_188_63 : Ev X 188 63 ls st h Q ↔ onI (gl ls 4) (fun z => Ev X 188 64 ls (vi z :: st) h Q) := R_il rfl (Or.inr rfl)
theorem e_188_64 : Ev X 188 64 ls st h Q ↔ Ev X 188 65 ls (vi 3 :: st) h Q := R_kc rfl (Or.inl ⟨Or.inl rfl, by decide⟩)
theorem e_188_65 {x y : Int} : Ev X 188 65 ls (vi y :: vi x :: st) h Q ↔ ((inR (x + y)) ∧ Ev X 188 66 ls (vi (x + y) :: st) h Q) := R_add rfl
theorem e_188_66 : Ev X 188 66 ls st h Q ↔ Ev X 188 67 ls (vi 8 :: st) h Q := R_kc rfl (Or.inr (Or.inl ⟨rfl, by decide⟩))
theorem e_188_67 : Ev X 188 67 ls st h Q ↔ onR (gl ls 0) (fun z => Ev X 188 68 ls (vr z :: st) h Q) := R_al rfl (Or.inl rfl)
theorem e_188_68 {x : Nat} : Ev X 188 68 ls (vr x :: st) h Q ↔ (X.1 x = 12 ∧ Ev X 188 69 ls (vi (h.2 x 3) :: st) h Q) := R_gi rfl
theorem e_188_69 : Ev X 188 69 ls st h Q ↔ onI (gl ls 1) (fun z => Ev X 188 70 ls (vi z :: st) h Q) := R_il rfl (Or.inl rfl)
theorem e_188_70 {x y : Int} : Ev X 188 70 ls (vi y :: vi x :: st) h Q ↔ ((inR (x - y)) ∧ Ev X 188 71 ls (vi (x - y) :: st) h Q) := R_sub rfl
theorem e_188_71 {x y : Int} : Ev X 188 71 ls (vi y :: vi x :: st) h Q ↔ ((inR (x * y)) ∧ Ev X 188 72 ls (vi (x * y) :: st) h Q) := R_mul rfl
theorem e_188_72 {x : Nat} {j v : Int} : Ev X 188 72 ls (vi v :: vi j :: vr x :: st) h Q ↔ ((X.1 x = 13 ∧ 0 ≤ j ∧ j < X.2.1 x) ∧ Ev X 188 73 ls st (up2 h.1 x j.toNat v, h.2) Q) := R_ias rfl
theorem e_188_73 : Ev X 188 73 ls st h Q ↔ onR (gl ls 0) (fun z => Ev X 188 74 ls (vr z :: st) h Q) := R_al rfl (Or.inl rfl)
theorem e_188_74 {x : Nat} : Ev X 188 74 ls (vr x :: st) h Q ↔ (X.1 x = 12 ∧ Ev X 188 75 ls (vr (X.2.2.1 x 6) :: st) h Q) := R_gr rfl
theorem e_188_75 : Ev X 188 75 ls st h Q ↔ onI (gl ls 4) (fun z => Ev X 188 76 ls (vi z :: st) h Q) := R_il rfl (Or.inr rfl)
theorem e_188_76 : Ev X 188 76 ls st h Q ↔ Ev X 188 77 ls (vi 4 :: st) h Q := R_kc rfl (Or.inl ⟨Or.inl rfl, by decide⟩)
theorem e_188_77 {x y : Int} : Ev X 188 77 ls (vi y :: vi x :: st) h Q ↔ ((inR (x + y)) ∧ Ev X 188 78 ls (vi (x + y) :: st) h Q) := R_add rfl
theorem e_188_78 : Ev X 188 78 ls st h Q ↔ Ev X 188 79 ls (vi 8 :: st) h Q := R_kc rfl (Or.inr (Or.inl ⟨rfl, by decide⟩))
theorem e_188_79 : Ev X 188 79 ls st h Q ↔ onR (gl ls 0) (fun z => Ev X 188 80 ls (vr z :: st) h Q) := R_al rfl (Or.inl rfl)
theorem e_188_80 {x : Nat} : Ev X 188 80 ls (vr x :: st) h Q ↔ (X.1 x = 12 ∧ Ev X 188 81 ls (vi (h.2 x 2) :: st) h Q) := R_gi rfl
theorem e_188_81 : Ev X 188 81 ls st h Q ↔ Ev X 188 82 ls (vi 1 :: st) h Q := R_kc rfl (Or.inl ⟨Or.inl rfl, by decide⟩)
theorem e_188_82 {x y : Int} : Ev X 188 82 ls (vi y :: vi x :: st) h Q ↔ ((inR (x - y)) ∧ Ev X 188 83 ls (vi (x - y) :: st) h Q) := R_sub rfl
theorem e_188_83 {x y : Int} : Ev X 188 83 ls (vi y :: vi x :: st) h Q ↔ ((inR (x * y)) ∧ Ev X 188 84 ls (vi (x * y) :: st) h Q) := R_mul rfl
theorem e_188_84 {x : Nat} {j v : Int} : Ev X 188 84 ls (vi v :: vi j :: vr x :: st) h Q ↔ ((X.1 x = 13 ∧ 0 ≤ j ∧ j < X.2.1 x) ∧ Ev X 188 85 ls st (up2 h.1 x j.toNat v, h.2) Q) := R_ias rfl
theorem e_188_85 : Ev X 188 85 ls st h Q ↔ onR (gl ls 0) (fun z => Ev X 188 86 ls (vr z :: st) h Q) := R_al rfl (Or.inl rfl)
theorem e_188_86 : Ev X 188 86 ls st h Q ↔ onI (gl ls 3) (fun z => Ev X 188 87 ls (vi z :: st) h Q) := R_il rfl (Or.inl rfl)
theorem e_188_87 {rest : List xV} {a0 : Int} {o : Nat} : Ev X 188 87 ls ((vi a0) :: vr o :: rest) h Q ↔ ((X.1 o = 12 ∧ wd rest ≤ 8) ∧ Cl X 165 [vr o, vi a0] h (fun r h2 => Ev X 188 88 ls (r.toList ++ rest) h2 Q)) := R_cv (x := o) (as := [vi a0]) (k2 := 165) rfl rfl (Nat.le_of_ble_eq_true rfl)
theorem e_188_88 : Ev X 188 88 ls st h Q ↔ onR (gl ls 0) (fun z => Ev X 188 89 ls (vr z :: st) h Q) := R_al rfl (Or.inl rfl)
theorem e_188_89 {x : Nat} : Ev X 188 89 ls (vr x :: st) h Q ↔ (X.1 x = 12 ∧ Ev X 188 90 ls (vr (X.2.2.1 x 6) :: st) h Q) := R_gr rfl
theorem e_188_90 : Ev X 188 90 ls st h Q ↔ Ev X 188 91 ls (vi 2 :: st) h Q := R_kc rfl (Or.inl ⟨Or.inl rfl, by decide⟩)
theorem e_188_91 {v w : xV} : Ev X 188 91 ls (v :: w :: st) h Q ↔ ((ct1 v = true ∧ ct1 w = true) ∧ Ev X 188 92 ls (v :: w :: v :: w :: st) h Q) := R_dup2 rfl
theorem e_188_92 {x : Nat} {j : Int} : Ev X 188 92 ls (vi j :: vr x :: st) h Q ↔ (((X.1 x = 13 ∨ X.1 x = 20) ∧ 0 ≤ j ∧ j < X.2.1 x) ∧ Ev X 188 93 ls (vi (h.1 x j.toNat) :: st) h Q) := R_ia rfl
theorem e_188_93 : Ev X 188 93 ls st h Q ↔ Ev X 188 94 ls (vi 1 :: st) h Q := R_kc rfl (Or.inl ⟨Or.inl rfl, by decide⟩)
theorem e_188_94 {x y : Int} : Ev X 188 94 ls (vi y :: vi x :: st) h Q ↔ ((inR (x + y)) ∧ Ev X 188 95 ls (vi (x + y) :: st) h Q) := R_add rfl
theorem e_188_95 {x : Nat} {j v : Int} : Ev X 188 95 ls (vi v :: vi j :: vr x :: st) h Q ↔ ((X.1 x = 13 ∧ 0 ≤ j ∧ j < X.2.1 x) ∧ Ev X 188 96 ls st (up2 h.1 x j.toNat v, h.2) Q) := R_ias rfl
theorem e_188_96 : Ev X 188 96 ls st h Q ↔ onR (gl ls 0) (fun z => Ev X 188 97 ls (vr z :: st) h Q) := R_al rfl (Or.inl rfl)
theorem e_188_97 : Ev X 188 97 ls st h Q ↔ onI (gl ls 3) (fun z => Ev X 188 98 ls (vi z :: st) h Q) := R_il rfl (Or.inl rfl)
theorem e_188_98 {rest : List xV} {a0 : Int} {o : Nat} : Ev X 188 98 ls ((vi a0) :: vr o :: rest) h Q ↔ ((X.1 o = 12 ∧ wd rest ≤ 8) ∧ Cl X 153 [vr o, vi a0] h (fun r h2 => Ev X 188 99 ls (r.toList ++ rest) h2 Q)) := R_cv (x := o) (as := [vi a0]) (k2 := 153) rfl rfl (Nat.le_of_ble_eq_true rfl)
theorem e_188_99 {z : Int} : Ev X 188 99 ls [vi z] h Q ↔ Q (some (vi z)) h := R_ir rfl
-- 189: CellRowsModel.isPin(I)Z
theorem e_189_0 : Ev X 189 0 ls st h Q ↔ onR (gl ls 0) (fun z => Ev X 189 1 ls (vr z :: st) h Q) := R_al rfl (Or.inl rfl)
theorem e_189_1 {x : Nat} : Ev X 189 1 ls (vr x :: st) h Q ↔ (X.1 x = 12 ∧ Ev X 189 2 ls (vr (X.2.2.1 x 12) :: st) h Q) := R_gr rfl
theorem e_189_2 : Ev X 189 2 ls st h Q ↔ onI (gl ls 1) (fun z => Ev X 189 3 ls (vi z :: st) h Q) := R_il rfl (Or.inl rfl)
theorem e_189_3 {x : Nat} {j : Int} : Ev X 189 3 ls (vi j :: vr x :: st) h Q ↔ (((X.1 x = 13 ∨ X.1 x = 20) ∧ 0 ≤ j ∧ j < X.2.1 x) ∧ Ev X 189 4 ls (vi (h.1 x j.toNat) :: st) h Q) := R_ia rfl
theorem e_189_4 {x : Int} : Ev X 189 4 ls (vi x :: st) h Q ↔ (stOK ls 2 = true ∧ Ev X 189 5 (ls.set 2 (some (vi x))) st h Q) := R_is rfl (Or.inl rfl)
theorem e_189_5 : Ev X 189 5 ls st h Q ↔ onR (gl ls 0) (fun z => Ev X 189 6 ls (vr z :: st) h Q) := R_al rfl (Or.inl rfl)
theorem e_189_6 {x : Nat} : Ev X 189 6 ls (vr x :: st) h Q ↔ (X.1 x = 12 ∧ Ev X 189 7 ls (vr (X.2.2.1 x 12) :: st) h Q) := R_gr rfl
theorem e_189_7 : Ev X 189 7 ls st h Q ↔ onI (gl ls 1) (fun z => Ev X 189 8 ls (vi z :: st) h Q) := R_il rfl (Or.inl rfl)
theorem e_189_8 : Ev X 189 8 ls st h Q ↔ Ev X 189 9 ls (vi 1 :: st) h Q := R_kc rfl (Or.inl ⟨Or.inl rfl, by decide⟩)
theorem e_189_9 {x y : Int} : Ev X 189 9 ls (vi y :: vi x :: st) h Q ↔ ((inR (x + y)) ∧ Ev X 189 10 ls (vi (x + y) :: st) h Q) := R_add rfl
theorem e_189_10 {x : Nat} {j : Int} : Ev X 189 10 ls (vi j :: vr x :: st) h Q ↔ (((X.1 x = 13 ∨ X.1 x = 20) ∧ 0 ≤ j ∧ j < X.2.1 x) ∧ Ev X 189 11 ls (vi (h.1 x j.toNat) :: st) h Q) := R_ia rfl
theorem e_189_11 {x : Int} : Ev X 189 11 ls (vi x :: st) h Q ↔ (stOK ls 3 = true ∧ Ev X 189 12 (ls.set 3 (some (vi x))) st h Q) := R_is rfl (Or.inl rfl)
theorem e_189_12 : Ev X 189 12 ls st h Q ↔ onI (gl ls 2) (fun z => Ev X 189 13 ls (vi z :: st) h Q) := R_il rfl (Or.inl rfl)
theorem e_189_13 : Ev X 189 13 ls st h Q ↔ Ev X 189 14 ls (vi 200 :: st) h Q := R_kc rfl (Or.inr (Or.inr ⟨rfl, by decide⟩))
theorem e_189_14 {x y : Int} : Ev X 189 14 ls (vi y :: vi x :: st) h Q ↔ (if x < y then Ev X 189 22 ls st h Q else Ev X 189 15 ls st h Q) := R_iclt rfl
theorem e_189_15 : Ev X 189 15 ls st h Q ↔ onR (gl ls 0) (fun z => Ev X 189 16 ls (vr z :: st) h Q) := R_al rfl (Or.inl rfl)
theorem e_189_16 : Ev X 189 16 ls st h Q ↔ onI (gl ls 2) (fun z => Ev X 189 17 ls (vi z :: st) h Q) := R_il rfl (Or.inl rfl)
theorem e_189_17 : Ev X 189 17 ls st h Q ↔ Ev X 189 18 ls (vi 200 :: st) h Q := R_kc rfl (Or.inr (Or.inr ⟨rfl, by decide⟩))
theorem e_189_18 {x y : Int} : Ev X 189 18 ls (vi y :: vi x :: st) h Q ↔ ((inR (x - y)) ∧ Ev X 189 19 ls (vi (x - y) :: st) h Q) := R_sub rfl
theorem e_189_19 : Ev X 189 19 ls st h Q ↔ onI (gl ls 3) (fun z => Ev X 189 20 ls (vi z :: st) h Q) := R_il rfl (Or.inl rfl)
theorem e_189_20 {rest : List xV} {a0 : Int} {a1 : Int} {o : Nat} : Ev X 189 20 ls ((vi a1) :: (vi a0) :: vr o :: rest) h Q ↔ ((X.1 o = 12 ∧ wd rest ≤ 8) ∧ Cl X 170 [vr o, vi a0, vi a1] h (fun r h2 => Ev X 189 21 ls (r.toList ++ rest) h2 Q)) := R_cv (x := o) (as := [vi a0, vi a1]) (k2 := 170) rfl rfl (Nat.le_of_ble_eq_true rfl)
theorem e_189_21 {z : Int} : Ev X 189 21 ls [vi z] h Q ↔ ((z = 0 ∨ z = 1) ∧ Q (some (vi z)) h) := R_zr rfl
theorem e_189_22 : Ev X 189 22 ls st h Q ↔ onR (gl ls 0) (fun z => Ev X 189 23 ls (vr z :: st) h Q) := R_al rfl (Or.inl rfl)
theorem e_189_23 : Ev X 189 23 ls st h Q ↔ onI (gl ls 2) (fun z => Ev X 189 24 ls (vi z :: st) h Q) := R_il rfl (Or.inl rfl)
theorem e_189_24 {rest : List xV} {a0 : Int} {o : Nat} : Ev X 189 24 ls ((vi a0) :: vr o :: rest) h Q ↔ ((X.1 o = 12 ∧ wd rest ≤ 8) ∧ Cl X 167 [vr o, vi a0] h (fun r h2 => Ev X 189 25 ls (r.toList ++ rest) h2 Q)) := R_cv (x := o) (as := [vi a0]) (k2 := 167) rfl rfl (Nat.le_of_ble_eq_true rfl)
theorem e_189_25 {x : Int} : Ev X 189 25 ls (vi x :: st) h Q ↔ (if x = 0 then Ev X 189 33 ls st h Q else Ev X 189 26 ls st h Q) := R_ifeq rfl
theorem e_189_26 : Ev X 189 26 ls st h Q ↔ onI (gl ls 3) (fun z => Ev X 189 27 ls (vi z :: st) h Q) := R_il rfl (Or.inl rfl)
theorem e_189_27 : Ev X 189 27 ls st h Q ↔ onR (gl ls 0) (fun z => Ev X 189 28 ls (vr z :: st) h Q) := R_al rfl (Or.inl rfl)
theorem e_189_28 : Ev X 189 28 ls st h Q ↔ onI (gl ls 2) (fun z => Ev X 189 29 ls (vi z :: st) h Q) := R_il rfl (Or.inl rfl)
theorem e_189_29 {rest : List xV} {a0 : Int} {o : Nat} : Ev X 189 29 ls ((vi a0) :: vr o :: rest) h Q ↔ ((X.1 o = 12 ∧ wd rest ≤ 8) ∧ Cl X 160 [vr o, vi a0] h (fun r h2 => Ev X 189 30 ls (r.toList ++ rest) h2 Q)) := R_cv (x := o) (as := [vi a0]) (k2 := 160) rfl rfl (Nat.le_of_ble_eq_true rfl)
theorem e_189_30 {x y : Int} : Ev X 189 30 ls (vi y :: vi x :: st) h Q ↔ (if y ≤ x then Ev X 189 33 ls st h Q else Ev X 189 31 ls st h Q) := R_icge rfl
theorem e_189_31 : Ev X 189 31 ls st h Q ↔ Ev X 189 32 ls (vi 1 :: st) h Q := R_kc rfl (Or.inl ⟨Or.inl rfl, by decide⟩)
theorem e_189_32 : Ev X 189 32 ls st h Q ↔ Ev X 189 34 ls st h Q := R_go rfl
theorem e_189_33 : Ev X 189 33 ls st h Q ↔ Ev X 189 34 ls (vi 0 :: st) h Q := R_kc rfl (Or.inl ⟨Or.inl rfl, by decide⟩)
theorem e_189_34 {x : Int} : Ev X 189 34 ls (vi x :: st) h Q ↔ (stOK ls 4 = true ∧ Ev X 189 35 (ls.set 4 (some (vi x))) st h Q) := R_is rfl (Or.inr rfl)
theorem e_189_35 : Ev X 189 35 ls st h Q ↔ Ev X 189 36 ls (vi 0 :: st) h Q := R_kc rfl (Or.inl ⟨Or.inl rfl, by decide⟩)
theorem e_189_36 {x : Int} : Ev X 189 36 ls (vi x :: st) h Q ↔ (stOK ls 5 = true ∧ Ev X 189 37 (ls.set 5 (some (vi x))) st h Q) := R_is rfl (Or.inr rfl)
theorem e_189_37 : Ev X 189 37 ls st h Q ↔ onI (gl ls 5) (fun z => Ev X 189 38 ls (vi z :: st) h Q) := R_il rfl (Or.inr rfl)
theorem e_189_38 : Ev X 189 38 ls st h Q ↔ onI (gl ls 1) (fun z => Ev X 189 39 ls (vi z :: st) h Q) := R_il rfl (Or.inl rfl)
theorem e_189_39 {x y : Int} : Ev X 189 39 ls (vi y :: vi x :: st) h Q ↔ (if y ≤ x then Ev X 189 54 ls st h Q else Ev X 189 40 ls st h Q) := R_icge rfl
theorem e_189_40 : Ev X 189 40 ls st h Q ↔ onI (gl ls 4) (fun z => Ev X 189 41 ls (vi z :: st) h Q) := R_il rfl (Or.inr rfl)
theorem e_189_41 {x : Int} : Ev X 189 41 ls (vi x :: st) h Q ↔ (if x = 0 then Ev X 189 50 ls st h Q else Ev X 189 42 ls st h Q) := R_ifeq rfl
theorem e_189_42 : Ev X 189 42 ls st h Q ↔ onR (gl ls 0) (fun z => Ev X 189 43 ls (vr z :: st) h Q) := R_al rfl (Or.inl rfl)
theorem e_189_43 {x : Nat} : Ev X 189 43 ls (vr x :: st) h Q ↔ (X.1 x = 12 ∧ Ev X 189 44 ls (vr (X.2.2.1 x 12) :: st) h Q) := R_gr rfl
theorem e_189_44 : Ev X 189 44 ls st h Q ↔ onI (gl ls 5) (fun z => Ev X 189 45 ls (vi z :: st) h Q) := R_il rfl (Or.inr rfl)
theorem e_189_45 {x : Nat} {j : Int} : Ev X 189 45 ls (vi j :: vr x :: st) h Q ↔ (((X.1 x = 13 ∨ X.1 x = 20) ∧ 0 ≤ j ∧ j < X.2.1 x) ∧ Ev X 189 46 ls (vi (h.1 x j.toNat) :: st) h Q) := R_ia rfl
theorem e_189_46 : Ev X 189 46 ls st h Q ↔ onI (gl ls 2) (fun z => Ev X 189 47 ls (vi z :: st) h Q) := R_il rfl (Or.inl rfl)
theorem e_189_47 {x y : Int} : Ev X 189 47 ls (vi y :: vi x :: st) h Q ↔ (if x = y then Ev X 189 50 ls st h Q else Ev X 189 48 ls st h Q) := R_iceq rfl
theorem e_189_48 : Ev X 189 48 ls st h Q ↔ Ev X 189 49 ls (vi 1 :: st) h Q := R_kc rfl (Or.inl ⟨Or.inl rfl, by decide⟩)
theorem e_189_49 : Ev X 189 49 ls st h Q ↔ Ev X 189 51 ls st h Q := R_go rfl
theorem e_189_50 : Ev X 189 50 ls st h Q ↔ Ev X 189 51 ls (vi 0 :: st) h Q := R_kc rfl (Or.inl ⟨Or.inl rfl, by decide⟩)
theorem e_189_51 {x : Int} : Ev X 189 51 ls (vi x :: st) h Q ↔ (stOK ls 4 = true ∧ Ev X 189 52 (ls.set 4 (some (vi x))) st h Q) := R_is rfl (Or.inr rfl)
theorem e_189_52 : Ev X 189 52 ls st h Q ↔ onI (gl ls 5) (fun x => (stOK ls 5 = true ∧ inR (x + 2)) ∧ Ev X 189 53 (ls.set 5 (some (vi (x + 2)))) st h Q) := R_inc rfl
theorem e_189_53 : Ev X 189 53 ls st h Q ↔ Ev X 189 37 ls st h Q := R_go rfl
theorem e_189_54 : Ev X 189 54 ls st h Q ↔ onI (gl ls 4) (fun z => Ev X 189 55 ls (vi z :: st) h Q) := R_il rfl (Or.inr rfl)
theorem e_189_55 {z : Int} : Ev X 189 55 ls [vi z] h Q ↔ ((z = 0 ∨ z = 1) ∧ Q (some (vi z)) h) := R_zr rfl
-- 190: CellRowsModel.net(I)I
theorem e_190_0 : Ev X 190 0 ls st h Q ↔ onR (gl ls 0) (fun z => Ev X 190 1 ls (vr z :: st) h Q) := R_al rfl (Or.inl rfl)
theorem e_190_1 : Ev X 190 1 ls st h Q ↔ Ev X 190 2 ls (vi 0 :: st) h Q := R_kc rfl (Or.inl ⟨Or.inl rfl, by decide⟩)
theorem e_190_2 {x : Nat} {v : Int} : Ev X 190 2 ls (vi v :: vr x :: st) h Q ↔ (X.1 x = 12 ∧ Ev X 190 3 ls st (h.1, up2 h.2 x 0 v) Q) := R_pi rfl
theorem e_190_3 : Ev X 190 3 ls st h Q ↔ onI (gl ls 1) (fun z => Ev X 190 4 ls (vi z :: st) h Q) := R_il rfl (Or.inl rfl)
theorem e_190_4 {x : Int} : Ev X 190 4 ls (vi x :: st) h Q ↔ Ev X 190 5 ls (vl x :: st) h Q := R_i2l rfl
theorem e_190_5 : Ev X 190 5 ls st h Q ↔ Ev X 190 6 ls (vl 1 :: st) h Q := R_lc rfl ⟨Or.inl rfl, by decide⟩
theorem e_190_6 : Ev X 190 6 ls st h Q ↔ Ev X 190 7 ls (vl 9 :: st) h Q := R_lc rfl ⟨Or.inr rfl, by decide⟩
theorem e_190_7 {rest : List xV} {a0 : Int} {a1 : Int} {a2 : Int} : Ev X 190 7 ls ((vl a2) :: (vl a1) :: (vl a0) :: rest) h Q ↔ (wd rest ≤ 8 ∧ Cl X 149 [vl a0, vl a1, vl a2] h (fun r h2 => Ev X 190 8 ls (r.toList ++ rest) h2 Q)) := R_cs (as := [vl a0, vl a1, vl a2]) (k2 := 149) rfl rfl (Nat.le_of_ble_eq_true rfl)
theorem e_190_8 {x : Int} : Ev X 190 8 ls (vi x :: st) h Q ↔ (if ¬ x = 0 then Ev X 190 13 ls st h Q else Ev X 190 9 ls st h Q) := R_ifne rfl
theorem e_190_9 : Ev X 190 9 ls st h Q ↔ onR (gl ls 0) (fun z => Ev X 190 10 ls (vr z :: st) h Q) := R_al rfl (Or.inl rfl)
theorem e_190_10 : Ev X 190 10 ls st h Q ↔ Ev X 190 11 ls (vi (-1) :: st) h Q := R_kc rfl (Or.inl ⟨Or.inl rfl, by decide⟩)
theorem e_190_11 {rest : List xV} {a0 : Int} {o : Nat} : Ev X 190 11 ls ((vi a0) :: vr o :: rest) h Q ↔ ((X.1 o = 12 ∧ wd rest ≤ 8) ∧ Cl X 154 [vr o, vi a0] h (fun r h2 => Ev X 190 12 ls (r.toList ++ rest) h2 Q)) := R_cv (x := o) (as := [vi a0]) (k2 := 154) rfl rfl (Nat.le_of_ble_eq_true rfl)
theorem e_190_12 {z : Int} : Ev X 190 12 ls [vi z] h Q ↔ Q (some (vi z)) h := R_ir rfl
theorem e_190_13 : Ev X 190 13 ls st h Q ↔ onR (gl ls 0) (fun z => Ev X 190 14 ls (vr z :: st) h Q) := R_al rfl (Or.inl rfl)
theorem e_190_14 {x : Nat} : Ev X 190 14 ls (vr x :: st) h Q ↔ (X.1 x = 12 ∧ Ev X 190 15 ls (vr (X.2.2.1 x 6) :: st) h Q) := R_gr rfl
theorem e_190_15 : Ev X 190 15 ls st h Q ↔ Ev X 190 16 ls (vi 3 :: st) h Q := R_kc rfl (Or.inl ⟨Or.inl rfl, by decide⟩)
theorem e_190_16 {x : Nat} {j : Int} : Ev X 190 16 ls (vi j :: vr x :: st) h Q ↔ (((X.1 x = 13 ∨ X.1 x = 20) ∧ 0 ≤ j ∧ j < X.2.1 x) ∧ Ev X 190 17 ls (vi (h.1 x j.toNat) :: st) h Q) := R_ia rfl
theorem e_190_17 {x : Int} : Ev X 190 17 ls (vi x :: st) h Q ↔ (stOK ls 2 = true ∧ Ev X 190 18 (ls.set 2 (some (vi x))) st h Q) := R_is rfl (Or.inl rfl)
theorem e_190_18 : Ev X 190 18 ls st h Q ↔ onI (gl ls 2) (fun z => Ev X 190 19 ls (vi z :: st) h Q) := R_il rfl (Or.inl rfl)
theorem e_190_19 : Ev X 190 19 ls st h Q ↔ Ev X 190 20 ls (vi 16 :: st) h Q := R_kc rfl (Or.inr (Or.inl ⟨rfl, by decide⟩))
theorem e_190_20 {x y : Int} : Ev X 190 20 ls (vi y :: vi x :: st) h Q ↔ (if ¬ x = y then Ev X 190 25 ls st h Q else Ev X 190 21 ls st h Q) := R_icne rfl
theorem e_190_21 : Ev X 190 21 ls st h Q ↔ onR (gl ls 0) (fun z => Ev X 190 22 ls (vr z :: st) h Q) := R_al rfl (Or.inl rfl)
theorem e_190_22 : Ev X 190 22 ls st h Q ↔ Ev X 190 23 ls (vi (-5) :: st) h Q := R_kc rfl (Or.inr (Or.inl ⟨rfl, by decide⟩))
theorem e_190_23 {rest : List xV} {a0 : Int} {o : Nat} : Ev X 190 23 ls ((vi a0) :: vr o :: rest) h Q ↔ ((X.1 o = 12 ∧ wd rest ≤ 8) ∧ Cl X 154 [vr o, vi a0] h (fun r h2 => Ev X 190 24 ls (r.toList ++ rest) h2 Q)) := R_cv (x := o) (as := [vi a0]) (k2 := 154) rfl rfl (Nat.le_of_ble_eq_true rfl)
theorem e_190_24 {z : Int} : Ev X 190 24 ls [vi z] h Q ↔ Q (some (vi z)) h := R_ir rfl
theorem e_190_25 : Ev X 190 25 ls st h Q ↔ onR (gl ls 0) (fun z => Ev X 190 26 ls (vr z :: st) h Q) := R_al rfl (Or.inl rfl)
theorem e_190_26 {x : Nat} : Ev X 190 26 ls (vr x :: st) h Q ↔ (X.1 x = 12 ∧ Ev X 190 27 ls (vi (h.2 x 13) :: st) h Q) := R_gi rfl
theorem e_190_27 {x : Int} : Ev X 190 27 ls (vi x :: st) h Q ↔ (stOK ls 3 = true ∧ Ev X 190 28 (ls.set 3 (some (vi x))) st h Q) := R_is rfl (Or.inl rfl)
theorem e_190_28 : Ev X 190 28 ls st h Q ↔ onR (gl ls 0) (fun z => Ev X 190 29 ls (vr z :: st) h Q) := R_al rfl (Or.inl rfl)
theorem e_190_29 : Ev X 190 29 ls st h Q ↔ Ev X 190 30 ls (vi 0 :: st) h Q := R_kc rfl (Or.inl ⟨Or.inl rfl, by decide⟩)
theorem e_190_30 {x : Nat} {v : Int} : Ev X 190 30 ls (vi v :: vr x :: st) h Q ↔ (X.1 x = 12 ∧ Ev X 190 31 ls st (h.1, up2 h.2 x 13 v) Q) := R_pi rfl
theorem e_190_31 : Ev X 190 31 ls st h Q ↔ onI (gl ls 3) (fun z => Ev X 190 32 ls (vi z :: st) h Q) := R_il rfl (Or.inl rfl)
theorem e_190_32 : Ev X 190 32 ls st h Q ↔ Ev X 190 33 ls (vi 2 :: st) h Q := R_kc rfl (Or.inl ⟨Or.inl rfl, by decide⟩)
theorem e_190_33 {x y : Int} : Ev X 190 33 ls (vi y :: vi x :: st) h Q ↔ ((y ≠ 0 ∧ inR (x.tdiv y)) ∧ Ev X 190 34 ls (vi (x.tmod y) :: st) h Q) := R_rem rfl
theorem e_190_34 {x : Int} : Ev X 190 34 ls (vi x :: st) h Q ↔ (if ¬ x = 0 then Ev X 190 43 ls st h Q else Ev X 190 35 ls st h Q) := R_ifne rfl
theorem e_190_35 : Ev X 190 35 ls st h Q ↔ onI (gl ls 3) (fun z => Ev X 190 36 ls (vi z :: st) h Q) := R_il rfl (Or.inl rfl)
theorem e_190_36 {x : Int} : Ev X 190 36 ls (vi x :: st) h Q ↔ Ev X 190 37 ls (vl x :: st) h Q := R_i2l rfl
theorem e_190_37 : Ev X 190 37 ls st h Q ↔ Ev X 190 38 ls (vl 4 :: st) h Q := R_lc rfl ⟨Or.inr rfl, by decide⟩
theorem e_190_38 : Ev X 190 38 ls st h Q ↔ Ev X 190 39 ls (vl 12 :: st) h Q := R_lc rfl ⟨Or.inr rfl, by decide⟩
theorem e_190_39 {rest : List xV} {a0 : Int} {a1 : Int} {a2 : Int} : Ev X 190 39 ls ((vl a2) :: (vl a1) :: (vl a0) :: rest) h Q ↔ (wd rest ≤ 8 ∧ Cl X 149 [vl a0, vl a1, vl a2] h (fun r h2 => Ev X 190 40 ls (r.toList ++ rest) h2 Q)) := R_cs (as := [vl a0, vl a1, vl a2]) (k2 := 149) rfl rfl (Nat.le_of_ble_eq_true rfl)
theorem e_190_40 {x : Int} : Ev X 190 40 ls (vi x :: st) h Q ↔ (if x = 0 then Ev X 190 43 ls st h Q else Ev X 190 41 ls st h Q) := R_ifeq rfl
theorem e_190_41 : Ev X 190 41 ls st h Q ↔ Ev X 190 42 ls (vi 1 :: st) h Q := R_kc rfl (Or.inl ⟨Or.inl rfl, by decide⟩)
theorem e_190_42 : Ev X 190 42 ls st h Q ↔ Ev X 190 44 ls st h Q := R_go rfl
theorem e_190_43 : Ev X 190 43 ls st h Q ↔ Ev X 190 44 ls (vi 0 :: st) h Q := R_kc rfl (Or.inl ⟨Or.inl rfl, by decide⟩)
theorem e_190_44 {x : Int} : Ev X 190 44 ls (vi x :: st) h Q ↔ (stOK ls 4 = true ∧ Ev X 190 45 (ls.set 4 (some (vi x))) st h Q) := R_is rfl (Or.inr rfl)
theorem e_190_45 : Ev X 190 45 ls st h Q ↔ Ev X 190 46 ls (vi 0 :: st) h Q := R_kc rfl (Or.inl ⟨Or.inl rfl, by decide⟩)
theorem e_190_46 {x : Int} : Ev X 190 46 ls (vi x :: st) h Q ↔ (stOK ls 5 = true ∧ Ev X 190 47 (ls.set 5 (some (vi x))) st h Q) := R_is rfl (Or.inr rfl)
theorem e_190_47 : Ev X 190 47 ls st h Q ↔ onI (gl ls 5) (fun z => Ev X 190 48 ls (vi z :: st) h Q) := R_il rfl (Or.inr rfl)
theorem e_190_48 : Ev X 190 48 ls st h Q ↔ onI (gl ls 3) (fun z => Ev X 190 49 ls (vi z :: st) h Q) := R_il rfl (Or.inl rfl)
theorem e_190_49 {x y : Int} : Ev X 190 49 ls (vi y :: vi x :: st) h Q ↔ (if y ≤ x then Ev X 190 58 ls st h Q else Ev X 190 50 ls st h Q) := R_icge rfl
theorem e_190_50 : Ev X 190 50 ls st h Q ↔ onI (gl ls 4) (fun z => Ev X 190 51 ls (vi z :: st) h Q) := R_il rfl (Or.inr rfl)
theorem e_190_51 {x : Int} : Ev X 190 51 ls (vi x :: st) h Q ↔ (if x = 0 then Ev X 190 58 ls st h Q else Ev X 190 52 ls st h Q) := R_ifeq rfl
theorem e_190_52 : Ev X 190 52 ls st h Q ↔ onR (gl ls 0) (fun z => Ev X 190 53 ls (vr z :: st) h Q) := R_al rfl (Or.inl rfl)
theorem e_190_53 : Ev X 190 53 ls st h Q ↔ onI (gl ls 5) (fun z => Ev X 190 54 ls (vi z :: st) h Q) := R_il rfl (Or.inr rfl)
theorem e_190_54 {rest : List xV} {a0 : Int} {o : Nat} : Ev X 190 54 ls ((vi a0) :: vr o :: rest) h Q ↔ ((X.1 o = 12 ∧ wd rest ≤ 8) ∧ Cl X 189 [vr o, vi a0] h (fun r h2 => Ev X 190 55 ls (r.toList ++ rest) h2 Q)) := R_cv (x := o) (as := [vi a0]) (k2 := 189) rfl rfl (Nat.le_of_ble_eq_true rfl)
theorem e_190_55 {x : Int} : Ev X 190 55 ls (vi x :: st) h Q ↔ (stOK ls 4 = true ∧ Ev X 190 56 (ls.set 4 (some (vi x))) st h Q) := R_is rfl (Or.inr rfl)
theorem e_190_56 : Ev X 190 56 ls st h Q ↔ onI (gl ls 5) (fun x => (stOK ls 5 = true ∧ inR (x + 2)) ∧ Ev X 190 57 (ls.set 5 (some (vi (x + 2)))) st h Q) := R_inc rfl
theorem e_190_57 : Ev X 190 57 ls st h Q ↔ Ev X 190 47 ls st h Q := R_go rfl
theorem e_190_58 : Ev X 190 58 ls st h Q ↔ onI (gl ls 4) (fun z => Ev X 190 59 ls (vi z :: st) h Q) := R_il rfl (Or.inr rfl)
theorem e_190_59 {x : Int} : Ev X 190 59 ls (vi x :: st) h Q ↔ (if ¬ x = 0 then Ev X 190 64 ls st h Q else Ev X 190 60 ls st h Q) := R_ifne rfl
theorem e_190_60 : Ev X 190 60 ls st h Q ↔ onR (gl ls 0) (fun z => Ev X 190 61 ls (vr z :: st) h Q) := R_al rfl (Or.inl rfl)
theorem e_190_61 : Ev X 190 61 ls st h Q ↔ Ev X 190 62 ls (vi (-6) :: st) h Q := R_kc rfl (Or.inr (Or.inl ⟨rfl, by decide⟩))
theorem e_190_62 {rest : List xV} {a0 : Int} {o : Nat} : Ev X 190 62 ls ((vi a0) :: vr o :: rest) h Q ↔ ((X.1 o = 12 ∧ wd rest ≤ 8) ∧ Cl X 154 [vr o, vi a0] h (fun r h2 => Ev X 190 63 ls (r.toList ++ rest) h2 Q)) := R_cv (x := o) (as := [vi a0]) (k2 := 154) rfl rfl (Nat.le_of_ble_eq_true rfl)
theorem e_190_63 {z : Int} : Ev X 190 63 ls [vi z] h Q ↔ Q (some (vi z)) h := R_ir rfl
theorem e_190_64 : Ev X 190 64 ls st h Q ↔ onR (gl ls 0) (fun z => Ev X 190 65 ls (vr z :: st) h Q) := R_al rfl (Or.inl rfl)
theorem e_190_65 : Ev X 190 65 ls st h Q ↔ Ev X 190 66 ls (vi 3 :: st) h Q := R_kc rfl (Or.inl ⟨Or.inl rfl, by decide⟩)
theorem e_190_66 {rest : List xV} {a0 : Int} {o : Nat} : Ev X 190 66 ls ((vi a0) :: vr o :: rest) h Q ↔ ((X.1 o = 12 ∧ wd rest ≤ 8) ∧ Cl X 156 [vr o, vi a0] h (fun r h2 => Ev X 190 67 ls (r.toList ++ rest) h2 Q)) := R_cv (x := o) (as := [vi a0]) (k2 := 156) rfl rfl (Nat.le_of_ble_eq_true rfl)
theorem e_190_67 : Ev X 190 67 ls st h Q ↔ onR (gl ls 0) (fun z => Ev X 190 68 ls (vr z :: st) h Q) := R_al rfl (Or.inl rfl)
theorem e_190_68 {x : Nat} : Ev X 190 68 ls (vr x :: st) h Q ↔ (X.1 x = 12 ∧ Ev X 190 69 ls (vr (X.2.2.1 x 6) :: st) h Q) := R_gr rfl
theorem e_190_69 : Ev X 190 69 ls st h Q ↔ onI (gl ls 2) (fun z => Ev X 190 70 ls (vi z :: st) h Q) := R_il rfl (Or.inl rfl)
theorem e_190_70 {rest : List xV} {a0 : Int} : Ev X 190 70 ls ((vi a0) :: rest) h Q ↔ (wd rest ≤ 8 ∧ Cl X 159 [vi a0] h (fun r h2 => Ev X 190 71 ls (r.toList ++ rest) h2 Q)) := R_cs (as := [vi a0]) (k2 := 159) rfl rfl (Nat.le_of_ble_eq_true rfl)
theorem e_190_71 : Ev X 190 71 ls st h Q ↔ onI (gl ls 1) (fun z => Ev X 190 72 ls (vi z :: st) h Q) := R_il rfl (Or.inl rfl)
theorem e_190_72 {x : Nat} {j v : Int} : Ev X 190 72 ls (vi v :: vi j :: vr x :: st) h Q ↔ ((X.1 x = 13 ∧ 0 ≤ j ∧ j < X.2.1 x) ∧ Ev X 190 73 ls st (up2 h.1 x j.toNat v, h.2) Q) := R_ias rfl
theorem e_190_73 : Ev X 190 73 ls st h Q ↔ onR (gl ls 0) (fun z => Ev X 190 74 ls (vr z :: st) h Q) := R_al rfl (Or.inl rfl)
theorem e_190_74 {x : Nat} : Ev X 190 74 ls (vr x :: st) h Q ↔ (X.1 x = 12 ∧ Ev X 190 75 ls (vr (X.2.2.1 x 6) :: st) h Q) := R_gr rfl
theorem e_190_75 : Ev X 190 75 ls st h Q ↔ onI (gl ls 2) (fun z => Ev X 190 76 ls (vi z :: st) h Q) := R_il rfl (Or.inl rfl)
theorem e_190_76 {rest : List xV} {a0 : Int} : Ev X 190 76 ls ((vi a0) :: rest) h Q ↔ (wd rest ≤ 8 ∧ Cl X 159 [vi a0] h (fun r h2 => Ev X 190 77 ls (r.toList ++ rest) h2 Q)) := R_cs (as := [vi a0]) (k2 := 159) rfl rfl (Nat.le_of_ble_eq_true rfl)
theorem e_190_77 : Ev X 190 77 ls st h Q ↔ Ev X 190 78 ls (vi 1 :: st) h Q := R_kc rfl (Or.inl ⟨Or.inl rfl, by decide⟩)
theorem e_190_78 {x y : Int} : Ev X 190 78 ls (vi y :: vi x :: st) h Q ↔ ((inR (x + y)) ∧ Ev X 190 79 ls (vi (x + y) :: st) h Q) := R_add rfl
theorem e_190_79 : Ev X 190 79 ls st h Q ↔ onI (gl ls 3) (fun z => Ev X 190 80 ls (vi z :: st) h Q) := R_il rfl (Or.inl rfl)
theorem e_190_80 : Ev X 190 80 ls st h Q ↔ Ev X 190 81 ls (vi 2 :: st) h Q := R_kc rfl (Or.inl ⟨Or.inl rfl, by decide⟩)
theorem e_190_81 {x y : Int} : Ev X 190 81 ls (vi y :: vi x :: st) h Q ↔ ((y ≠ 0 ∧ inR (x.tdiv y)) ∧ Ev X 190 82 ls (vi (x.tdiv y) :: st) h Q) := R_div rfl
theorem e_190_82 {x : Nat} {j v : Int} : Ev X 190 82 ls (vi v :: vi j :: vr x :: st) h Q ↔ ((X.1 x = 13 ∧ 0 ≤ j ∧ j < X.2.1 x) ∧ Ev X 190 83 ls st (up2 h.1 x j.toNat v, h.2) Q) := R_ias rfl
theorem e_190_83 : Ev X 190 83 ls st h Q ↔ Ev X 190 84 ls (vi 0 :: st) h Q := R_kc rfl (Or.inl ⟨Or.inl rfl, by decide⟩)
theorem e_190_84 {x : Int} : Ev X 190 84 ls (vi x :: st) h Q ↔ (stOK ls 5 = true ∧ Ev X 190 85 (ls.set 5 (some (vi x))) st h Q) := R_is rfl (Or.inr rfl)
theorem e_190_85 : Ev X 190 85 ls st h Q ↔ onI (gl ls 5) (fun z => Ev X 190 86 ls (vi z :: st) h Q) := R_il rfl (Or.inr rfl)
theorem e_190_86 : Ev X 190 86 ls st h Q ↔ onI (gl ls 3) (fun z => Ev X 190 87 ls (vi z :: st) h Q) := R_il rfl (Or.inl rfl)
theorem e_190_87 {x y : Int} : Ev X 190 87 ls (vi y :: vi x :: st) h Q ↔ (if y ≤ x then Ev X 190 103 ls st h Q else Ev X 190 88 ls st h Q) := R_icge rfl
theorem e_190_88 : Ev X 190 88 ls st h Q ↔ onR (gl ls 0) (fun z => Ev X 190 89 ls (vr z :: st) h Q) := R_al rfl (Or.inl rfl)
theorem e_190_89 {x : Nat} : Ev X 190 89 ls (vr x :: st) h Q ↔ (X.1 x = 12 ∧ Ev X 190 90 ls (vr (X.2.2.1 x 6) :: st) h Q) := R_gr rfl
theorem e_190_90 : Ev X 190 90 ls st h Q ↔ onI (gl ls 2) (fun z => Ev X 190 91 ls (vi z :: st) h Q) := R_il rfl (Or.inl rfl)
theorem e_190_91 {rest : List xV} {a0 : Int} : Ev X 190 91 ls ((vi a0) :: rest) h Q ↔ (wd rest ≤ 8 ∧ Cl X 159 [vi a0] h (fun r h2 => Ev X 190 92 ls (r.toList ++ rest) h2 Q)) := R_cs (as := [vi a0]) (k2 := 159) rfl rfl (Nat.le_of_ble_eq_true rfl)
theorem e_190_92 : Ev X 190 92 ls st h Q ↔ Ev X 190 93 ls (vi 2 :: st) h Q := R_kc rfl (Or.inl ⟨Or.inl rfl, by decide⟩)
theorem e_190_93 {x y : Int} : Ev X 190 93 ls (vi y :: vi x :: st) h Q ↔ ((inR (x + y)) ∧ Ev X 190 94 ls (vi (x + y) :: st) h Q) := R_add rfl
theorem e_190_94 : Ev X 190 94 ls st h Q ↔ onI (gl ls 5) (fun z => Ev X 190 95 ls (vi z :: st) h Q) := R_il rfl (Or.inr rfl)
theorem e_190_95 {x y : Int} : Ev X 190 95 ls (vi y :: vi x :: st) h Q ↔ ((inR (x + y)) ∧ Ev X 190 96 ls (vi (x + y) :: st) h Q) := R_add rfl
theorem e_190_96 : Ev X 190 96 ls st h Q ↔ onR (gl ls 0) (fun z => Ev X 190 97 ls (vr z :: st) h Q) := R_al rfl (Or.inl rfl)
theorem e_190_97 {x : Nat} : Ev X 190 97 ls (vr x :: st) h Q ↔ (X.1 x = 12 ∧ Ev X 190 98 ls (vr (X.2.2.1 x 12) :: st) h Q) := R_gr rfl
theorem e_190_98 : Ev X 190 98 ls st h Q ↔ onI (gl ls 5) (fun z => Ev X 190 99 ls (vi z :: st) h Q) := R_il rfl (Or.inr rfl)
theorem e_190_99 {x : Nat} {j : Int} : Ev X 190 99 ls (vi j :: vr x :: st) h Q ↔ (((X.1 x = 13 ∨ X.1 x = 20) ∧ 0 ≤ j ∧ j < X.2.1 x) ∧ Ev X 190 100 ls (vi (h.1 x j.toNat) :: st) h Q) := R_ia rfl
theorem e_190_100 {x : Nat} {j v : Int} : Ev X 190 100 ls (vi v :: vi j :: vr x :: st) h Q ↔ ((X.1 x = 13 ∧ 0 ≤ j ∧ j < X.2.1 x) ∧ Ev X 190 101 ls st (up2 h.1 x j.toNat v, h.2) Q) := R_ias rfl
theorem e_190_101 : Ev X 190 101 ls st h Q ↔ onI (gl ls 5) (fun x => (stOK ls 5 = true ∧ inR (x + 1)) ∧ Ev X 190 102 (ls.set 5 (some (vi (x + 1)))) st h Q) := R_inc rfl
theorem e_190_102 : Ev X 190 102 ls st h Q ↔ Ev X 190 85 ls st h Q := R_go rfl
theorem e_190_103 : Ev X 190 103 ls st h Q ↔ onR (gl ls 0) (fun z => Ev X 190 104 ls (vr z :: st) h Q) := R_al rfl (Or.inl rfl)
theorem e_190_104 {x : Nat} : Ev X 190 104 ls (vr x :: st) h Q ↔ (X.1 x = 12 ∧ Ev X 190 105 ls (vr (X.2.2.1 x 6) :: st) h Q) := R_gr rfl
theorem e_190_105 : Ev X 190 105 ls st h Q ↔ Ev X 190 106 ls (vi 3 :: st) h Q := R_kc rfl (Or.inl ⟨Or.inl rfl, by decide⟩)
theorem e_190_106 {v w : xV} : Ev X 190 106 ls (v :: w :: st) h Q ↔ ((ct1 v = true ∧ ct1 w = true) ∧ Ev X 190 107 ls (v :: w :: v :: w :: st) h Q) := R_dup2 rfl
theorem e_190_107 {x : Nat} {j : Int} : Ev X 190 107 ls (vi j :: vr x :: st) h Q ↔ (((X.1 x = 13 ∨ X.1 x = 20) ∧ 0 ≤ j ∧ j < X.2.1 x) ∧ Ev X 190 108 ls (vi (h.1 x j.toNat) :: st) h Q) := R_ia rfl
theorem e_190_108 : Ev X 190 108 ls st h Q ↔ Ev X 190 109 ls (vi 1 :: st) h Q := R_kc rfl (Or.inl ⟨Or.inl rfl, by decide⟩)
theorem e_190_109 {x y : Int} : Ev X 190 109 ls (vi y :: vi x :: st) h Q ↔ ((inR (x + y)) ∧ Ev X 190 110 ls (vi (x + y) :: st) h Q) := R_add rfl
theorem e_190_110 {x : Nat} {j v : Int} : Ev X 190 110 ls (vi v :: vi j :: vr x :: st) h Q ↔ ((X.1 x = 13 ∧ 0 ≤ j ∧ j < X.2.1 x) ∧ Ev X 190 111 ls st (up2 h.1 x j.toNat v, h.2) Q) := R_ias rfl
theorem e_190_111 : Ev X 190 111 ls st h Q ↔ onR (gl ls 0) (fun z => Ev X 190 112 ls (vr z :: st) h Q) := R_al rfl (Or.inl rfl)
theorem e_190_112 : Ev X 190 112 ls st h Q ↔ onI (gl ls 2) (fun z => Ev X 190 113 ls (vi z :: st) h Q) := R_il rfl (Or.inl rfl)
theorem e_190_113 {rest : List xV} {a0 : Int} {o : Nat} : Ev X 190 113 ls ((vi a0) :: vr o :: rest) h Q ↔ ((X.1 o = 12 ∧ wd rest ≤ 8) ∧ Cl X 153 [vr o, vi a0] h (fun r h2 => Ev X 190 114 ls (r.toList ++ rest) h2 Q)) := R_cv (x := o) (as := [vi a0]) (k2 := 153) rfl rfl (Nat.le_of_ble_eq_true rfl)
theorem e_190_114 {z : Int} : Ev X 190 114 ls [vi z] h Q ↔ Q (some (vi z)) h := R_ir rfl
-- 191: CellRowsModel.drop(I)I
theorem e_191_0 : Ev X 191 0 ls st h Q ↔ onR (gl ls 0) (fun z => Ev X 191 1 ls (vr z :: st) h Q) := R_al rfl (Or.inl rfl)
theorem e_191_1 : Ev X 191 1 ls st h Q ↔ Ev X 191 2 ls (vi 0 :: st) h Q := R_kc rfl (Or.inl ⟨Or.inl rfl, by decide⟩)
theorem e_191_2 {x : Nat} {v : Int} : Ev X 191 2 ls (vi v :: vr x :: st) h Q ↔ (X.1 x = 12 ∧ Ev X 191 3 ls st (h.1, up2 h.2 x 0 v) Q) := R_pi rfl
theorem e_191_3 : Ev X 191 3 ls st h Q ↔ onR (gl ls 0) (fun z => Ev X 191 4 ls (vr z :: st) h Q) := R_al rfl (Or.inl rfl)
theorem e_191_4 : Ev X 191 4 ls st h Q ↔ onI (gl ls 1) (fun z => Ev X 191 5 ls (vi z :: st) h Q) := R_il rfl (Or.inl rfl)
theorem e_191_5 {rest : List xV} {a0 : Int} {o : Nat} : Ev X 191 5 ls ((vi a0) :: vr o :: rest) h Q ↔ ((X.1 o = 12 ∧ wd rest ≤ 8) ∧ Cl X 168 [vr o, vi a0] h (fun r h2 => Ev X 191 6 ls (r.toList ++ rest) h2 Q)) := R_cv (x := o) (as := [vi a0]) (k2 := 168) rfl rfl (Nat.le_of_ble_eq_true rfl)
theorem e_191_6 {x : Int} : Ev X 191 6 ls (vi x :: st) h Q ↔ (if ¬ x = 0 then Ev X 191 11 ls st h Q else Ev X 191 7 ls st h Q) := R_ifne rfl
theorem e_191_7 : Ev X 191 7 ls st h Q ↔ onR (gl ls 0) (fun z => Ev X 191 8 ls (vr z :: st) h Q) := R_al rfl (Or.inl rfl)
theorem e_191_8 : Ev X 191 8 ls st h Q ↔ Ev X 191 9 ls (vi (-2) :: st) h Q := R_kc rfl (Or.inr (Or.inl ⟨rfl, by decide⟩))
theorem e_191_9 {rest : List xV} {a0 : Int} {o : Nat} : Ev X 191 9 ls ((vi a0) :: vr o :: rest) h Q ↔ ((X.1 o = 12 ∧ wd rest ≤ 8) ∧ Cl X 154 [vr o, vi a0] h (fun r h2 => Ev X 191 10 ls (r.toList ++ rest) h2 Q)) := R_cv (x := o) (as := [vi a0]) (k2 := 154) rfl rfl (Nat.le_of_ble_eq_true rfl)
theorem e_191_10 {z : Int} : Ev X 191 10 ls [vi z] h Q ↔ Q (some (vi z)) h := R_ir rfl
theorem e_191_11 : Ev X 191 11 ls st h Q ↔ onR (gl ls 0) (fun z => Ev X 191 12 ls (vr z :: st) h Q) := R_al rfl (Or.inl rfl)
theorem e_191_12 : Ev X 191 12 ls st h Q ↔ Ev X 191 13 ls (vi 4 :: st) h Q := R_kc rfl (Or.inl ⟨Or.inl rfl, by decide⟩)
theorem e_191_13 {rest : List xV} {a0 : Int} {o : Nat} : Ev X 191 13 ls ((vi a0) :: vr o :: rest) h Q ↔ ((X.1 o = 12 ∧ wd rest ≤ 8) ∧ Cl X 156 [vr o, vi a0] h (fun r h2 => Ev X 191 14 ls (r.toList ++ rest) h2 Q)) := R_cv (x := o) (as := [vi a0]) (k2 := 156) rfl rfl (Nat.le_of_ble_eq_true rfl)
theorem e_191_14 : Ev X 191 14 ls st h Q ↔ onR (gl ls 0) (fun z => Ev X 191 15 ls (vr z :: st) h Q) := R_al rfl (Or.inl rfl)
theorem e_191_15 {x : Nat} : Ev X 191 15 ls (vr x :: st) h Q ↔ (X.1 x = 12 ∧ Ev X 191 16 ls (vr (X.2.2.1 x 6) :: st) h Q) := R_gr rfl
theorem e_191_16 : Ev X 191 16 ls st h Q ↔ onI (gl ls 1) (fun z => Ev X 191 17 ls (vi z :: st) h Q) := R_il rfl (Or.inl rfl)
theorem e_191_17 {rest : List xV} {a0 : Int} : Ev X 191 17 ls ((vi a0) :: rest) h Q ↔ (wd rest ≤ 8 ∧ Cl X 159 [vi a0] h (fun r h2 => Ev X 191 18 ls (r.toList ++ rest) h2 Q)) := R_cs (as := [vi a0]) (k2 := 159) rfl rfl (Nat.le_of_ble_eq_true rfl)
theorem e_191_18 : Ev X 191 18 ls st h Q ↔ Ev X 191 19 ls (vi 1 :: st) h Q := R_kc rfl (Or.inl ⟨Or.inl rfl, by decide⟩)
theorem e_191_19 {x y : Int} : Ev X 191 19 ls (vi y :: vi x :: st) h Q ↔ ((inR (x + y)) ∧ Ev X 191 20 ls (vi (x + y) :: st) h Q) := R_add rfl
theorem e_191_20 {x : Nat} {j : Int} : Ev X 191 20 ls (vi j :: vr x :: st) h Q ↔ (((X.1 x = 13 ∨ X.1 x = 20) ∧ 0 ≤ j ∧ j < X.2.1 x) ∧ Ev X 191 21 ls (vi (h.1 x j.toNat) :: st) h Q) := R_ia rfl
theorem e_191_21 {x : Int} : Ev X 191 21 ls (vi x :: st) h Q ↔ (stOK ls 2 = true ∧ Ev X 191 22 (ls.set 2 (some (vi x))) st h Q) := R_is rfl (Or.inl rfl)
theorem e_191_22 : Ev X 191 22 ls st h Q ↔ onR (gl ls 0) (fun z => Ev X 191 23 ls (vr z :: st) h Q) := R_al rfl (Or.inl rfl)
theorem e_191_23 {x : Nat} : Ev X 191 23 ls (vr x :: st) h Q ↔ (X.1 x = 12 ∧ Ev X 191 24 ls (vr (X.2.2.1 x 6) :: st) h Q) := R_gr rfl
theorem e_191_24 : Ev X 191 24 ls st h Q ↔ Ev X 191 25 ls (vi 3 :: st) h Q := R_kc rfl (Or.inl ⟨Or.inl rfl, by decide⟩)
theorem e_191_25 {v w : xV} : Ev X 191 25 ls (v :: w :: st) h Q ↔ ((ct1 v = true ∧ ct1 w = true) ∧ Ev X 191 26 ls (v :: w :: v :: w :: st) h Q) := R_dup2 rfl
theorem e_191_26 {x : Nat} {j : Int} : Ev X 191 26 ls (vi j :: vr x :: st) h Q ↔ (((X.1 x = 13 ∨ X.1 x = 20) ∧ 0 ≤ j ∧ j < X.2.1 x) ∧ Ev X 191 27 ls (vi (h.1 x j.toNat) :: st) h Q) := R_ia rfl
theorem e_191_27 : Ev X 191 27 ls st h Q ↔ Ev X 191 28 ls (vi 1 :: st) h Q := R_kc rfl (Or.inl ⟨Or.inl rfl, by decide⟩)
theorem e_191_28 {x y : Int} : Ev X 191 28 ls (vi y :: vi x :: st) h Q ↔ ((inR (x - y)) ∧ Ev X 191 29 ls (vi (x - y) :: st) h Q) := R_sub rfl
theorem e_191_29 {x : Nat} {j v : Int} : Ev X 191 29 ls (vi v :: vi j :: vr x :: st) h Q ↔ ((X.1 x = 13 ∧ 0 ≤ j ∧ j < X.2.1 x) ∧ Ev X 191 30 ls st (up2 h.1 x j.toNat v, h.2) Q) := R_ias rfl
theorem e_191_30 : Ev X 191 30 ls st h Q ↔ onI (gl ls 1) (fun z => Ev X 191 31 ls (vi z :: st) h Q) := R_il rfl (Or.inl rfl)
theorem e_191_31 {rest : List xV} {a0 : Int} : Ev X 191 31 ls ((vi a0) :: rest) h Q ↔ (wd rest ≤ 8 ∧ Cl X 159 [vi a0] h (fun r h2 => Ev X 191 32 ls (r.toList ++ rest) h2 Q)) := R_cs (as := [vi a0]) (k2 := 159) rfl rfl (Nat.le_of_ble_eq_true rfl)
theorem e_191_32 {x : Int} : Ev X 191 32 ls (vi x :: st) h Q ↔ (stOK ls 3 = true ∧ Ev X 191 33 (ls.set 3 (some (vi x))) st h Q) := R_is rfl (Or.inl rfl)
theorem e_191_33 : Ev X 191 33 ls st h Q ↔ onI (gl ls 3) (fun z => Ev X 191 34 ls (vi z :: st) h Q) := R_il rfl (Or.inl rfl)
theorem e_191_34 : Ev X 191 34 ls st h Q ↔ onR (gl ls 0) (fun z => Ev X 191 35 ls (vr z :: st) h Q) := R_al rfl (Or.inl rfl)
theorem e_191_35 {x : Nat} : Ev X 191 35 ls (vr x :: st) h Q ↔ (X.1 x = 12 ∧ Ev X 191 36 ls (vr (X.2.2.1 x 6) :: st) h Q) := R_gr rfl
theorem e_191_36 : Ev X 191 36 ls st h Q ↔ Ev X 191 37 ls (vi 3 :: st) h Q := R_kc rfl (Or.inl ⟨Or.inl rfl, by decide⟩)
theorem e_191_37 {x : Nat} {j : Int} : Ev X 191 37 ls (vi j :: vr x :: st) h Q ↔ (((X.1 x = 13 ∨ X.1 x = 20) ∧ 0 ≤ j ∧ j < X.2.1 x) ∧ Ev X 191 38 ls (vi (h.1 x j.toNat) :: st) h Q) := R_ia rfl
theorem e_191_38 {rest : List xV} {a0 : Int} : Ev X 191 38 ls ((vi a0) :: rest) h Q ↔ (wd rest ≤ 8 ∧ Cl X 159 [vi a0] h (fun r h2 => Ev X 191 39 ls (r.toList ++ rest) h2 Q)) := R_cs (as := [vi a0]) (k2 := 159) rfl rfl (Nat.le_of_ble_eq_true rfl)
theorem e_191_39 {x y : Int} : Ev X 191 39 ls (vi y :: vi x :: st) h Q ↔ (if y ≤ x then Ev X 191 52 ls st h Q else Ev X 191 40 ls st h Q) := R_icge rfl
theorem e_191_40 : Ev X 191 40 ls st h Q ↔ onR (gl ls 0) (fun z => Ev X 191 41 ls (vr z :: st) h Q) := R_al rfl (Or.inl rfl)
theorem e_191_41 {x : Nat} : Ev X 191 41 ls (vr x :: st) h Q ↔ (X.1 x = 12 ∧ Ev X 191 42 ls (vr (X.2.2.1 x 6) :: st) h Q) := R_gr rfl
theorem e_191_42 : Ev X 191 42 ls st h Q ↔ onI (gl ls 3) (fun z => Ev X 191 43 ls (vi z :: st) h Q) := R_il rfl (Or.inl rfl)
theorem e_191_43 : Ev X 191 43 ls st h Q ↔ onR (gl ls 0) (fun z => Ev X 191 44 ls (vr z :: st) h Q) := R_al rfl (Or.inl rfl)
theorem e_191_44 {x : Nat} : Ev X 191 44 ls (vr x :: st) h Q ↔ (X.1 x = 12 ∧ Ev X 191 45 ls (vr (X.2.2.1 x 6) :: st) h Q) := R_gr rfl
theorem e_191_45 : Ev X 191 45 ls st h Q ↔ onI (gl ls 3) (fun z => Ev X 191 46 ls (vi z :: st) h Q) := R_il rfl (Or.inl rfl)
theorem e_191_46 : Ev X 191 46 ls st h Q ↔ Ev X 191 47 ls (vi 14 :: st) h Q := R_kc rfl (Or.inr (Or.inl ⟨rfl, by decide⟩))
theorem e_191_47 {x y : Int} : Ev X 191 47 ls (vi y :: vi x :: st) h Q ↔ ((inR (x + y)) ∧ Ev X 191 48 ls (vi (x + y) :: st) h Q) := R_add rfl
theorem e_191_48 {x : Nat} {j : Int} : Ev X 191 48 ls (vi j :: vr x :: st) h Q ↔ (((X.1 x = 13 ∨ X.1 x = 20) ∧ 0 ≤ j ∧ j < X.2.1 x) ∧ Ev X 191 49 ls (vi (h.1 x j.toNat) :: st) h Q) := R_ia rfl
theorem e_191_49 {x : Nat} {j v : Int} : Ev X 191 49 ls (vi v :: vi j :: vr x :: st) h Q ↔ ((X.1 x = 13 ∧ 0 ≤ j ∧ j < X.2.1 x) ∧ Ev X 191 50 ls st (up2 h.1 x j.toNat v, h.2) Q) := R_ias rfl
theorem e_191_50 : Ev X 191 50 ls st h Q ↔ onI (gl ls 3) (fun x => (stOK ls 3 = true ∧ inR (x + 1)) ∧ Ev X 191 51 (ls.set 3 (some (vi (x + 1)))) st h Q) := R_inc rfl
theorem e_191_51 : Ev X 191 51 ls st h Q ↔ Ev X 191 33 ls st h Q := R_go rfl
theorem e_191_52 : Ev X 191 52 ls st h Q ↔ onR (gl ls 0) (fun z => Ev X 191 53 ls (vr z :: st) h Q) := R_al rfl (Or.inl rfl)
theorem e_191_53 : Ev X 191 53 ls st h Q ↔ onI (gl ls 2) (fun z => Ev X 191 54 ls (vi z :: st) h Q) := R_il rfl (Or.inl rfl)
theorem e_191_54 {rest : List xV} {a0 : Int} {o : Nat} : Ev X 191 54 ls ((vi a0) :: vr o :: rest) h Q ↔ ((X.1 o = 12 ∧ wd rest ≤ 8) ∧ Cl X 153 [vr o, vi a0] h (fun r h2 => Ev X 191 55 ls (r.toList ++ rest) h2 Q)) := R_cv (x := o) (as := [vi a0]) (k2 := 153) rfl rfl (Nat.le_of_ble_eq_true rfl)
theorem e_191_55 {z : Int} : Ev X 191 55 ls [vi z] h Q ↔ Q (some (vi z)) h := R_ir rfl
-- 192: CellRowsModel.want(III)I
theorem e_192_0 : Ev X 192 0 ls st h Q ↔ onR (gl ls 0) (fun z => Ev X 192 1 ls (vr z :: st) h Q) := R_al rfl (Or.inl rfl)
theorem e_192_1 : Ev X 192 1 ls st h Q ↔ Ev X 192 2 ls (vi 0 :: st) h Q := R_kc rfl (Or.inl ⟨Or.inl rfl, by decide⟩)
theorem e_192_2 {x : Nat} {v : Int} : Ev X 192 2 ls (vi v :: vr x :: st) h Q ↔ (X.1 x = 12 ∧ Ev X 192 3 ls st (h.1, up2 h.2 x 0 v) Q) := R_pi rfl
theorem e_192_3 : Ev X 192 3 ls st h Q ↔ onI (gl ls 2) (fun z => Ev X 192 4 ls (vi z :: st) h Q) := R_il rfl (Or.inl rfl)
theorem e_192_4 {x : Int} : Ev X 192 4 ls (vi x :: st) h Q ↔ Ev X 192 5 ls (vl x :: st) h Q := R_i2l rfl
theorem e_192_5 : Ev X 192 5 ls st h Q ↔ Ev X 192 6 ls (vl 0 :: st) h Q := R_lc rfl ⟨Or.inl rfl, by decide⟩
theorem e_192_6 : Ev X 192 6 ls st h Q ↔ Ev X 192 7 ls (vl 16 :: st) h Q := R_lc rfl ⟨Or.inr rfl, by decide⟩
theorem e_192_7 : Ev X 192 7 ls st h Q ↔ onR (gl ls 0) (fun z => Ev X 192 8 ls (vr z :: st) h Q) := R_al rfl (Or.inl rfl)
theorem e_192_8 {x : Nat} : Ev X 192 8 ls (vr x :: st) h Q ↔ (X.1 x = 12 ∧ Ev X 192 9 ls (vi (h.2 x 3) :: st) h Q) := R_gi rfl
theorem e_192_9 : Ev X 192 9 ls st h Q ↔ Ev X 192 10 ls (vi 1 :: st) h Q := R_kc rfl (Or.inl ⟨Or.inl rfl, by decide⟩)
theorem e_192_10 {x y : Int} : Ev X 192 10 ls (vi y :: vi x :: st) h Q ↔ ((inR (x - y)) ∧ Ev X 192 11 ls (vi (x - y) :: st) h Q) := R_sub rfl
theorem e_192_11 {x : Int} : Ev X 192 11 ls (vi x :: st) h Q ↔ Ev X 192 12 ls (vl x :: st) h Q := R_i2l rfl
theorem e_192_12 {x y : Int} : Ev X 192 12 ls (vl y :: vl x :: st) h Q ↔ ((inL (x * y)) ∧ Ev X 192 13 ls (vl (x * y) :: st) h Q) := R_lmul rfl
theorem e_192_13 {rest : List xV} {a0 : Int} {a1 : Int} {a2 : Int} : Ev X 192 13 ls ((vl a2) :: (vl a1) :: (vl a0) :: rest) h Q ↔ (wd rest ≤ 8 ∧ Cl X 149 [vl a0, vl a1, vl a2] h (fun r h2 => Ev X 192 14 ls (r.toList ++ rest) h2 Q)) := R_cs (as := [vl a0, vl a1, vl a2]) (k2 := 149) rfl rfl (Nat.le_of_ble_eq_true rfl)
theorem e_192_14 {x : Int} : Ev X 192 14 ls (vi x :: st) h Q ↔ (if x = 0 then Ev X 192 27 ls st h Q else Ev X 192 15 ls st h Q) := R_ifeq rfl
theorem e_192_15 : Ev X 192 15 ls st h Q ↔ onI (gl ls 3) (fun z => Ev X 192 16 ls (vi z :: st) h Q) := R_il rfl (Or.inl rfl)
theorem e_192_16 {x : Int} : Ev X 192 16 ls (vi x :: st) h Q ↔ Ev X 192 17 ls (vl x :: st) h Q := R_i2l rfl
theorem e_192_17 : Ev X 192 17 ls st h Q ↔ Ev X 192 18 ls (vl 0 :: st) h Q := R_lc rfl ⟨Or.inl rfl, by decide⟩
theorem e_192_18 : Ev X 192 18 ls st h Q ↔ Ev X 192 19 ls (vl 16 :: st) h Q := R_lc rfl ⟨Or.inr rfl, by decide⟩
theorem e_192_19 : Ev X 192 19 ls st h Q ↔ onR (gl ls 0) (fun z => Ev X 192 20 ls (vr z :: st) h Q) := R_al rfl (Or.inl rfl)
theorem e_192_20 {x : Nat} : Ev X 192 20 ls (vr x :: st) h Q ↔ (X.1 x = 12 ∧ Ev X 192 21 ls (vi (h.2 x 2) :: st) h Q) := R_gi rfl
theorem e_192_21 : Ev X 192 21 ls st h Q ↔ Ev X 192 22 ls (vi 1 :: st) h Q := R_kc rfl (Or.inl ⟨Or.inl rfl, by decide⟩)
theorem e_192_22 {x y : Int} : Ev X 192 22 ls (vi y :: vi x :: st) h Q ↔ ((inR (x - y)) ∧ Ev X 192 23 ls (vi (x - y) :: st) h Q) := R_sub rfl
theorem e_192_23 {x : Int} : Ev X 192 23 ls (vi x :: st) h Q ↔ Ev X 192 24 ls (vl x :: st) h Q := R_i2l rfl
theorem e_192_24 {x y : Int} : Ev X 192 24 ls (vl y :: vl x :: st) h Q ↔ ((inL (x * y)) ∧ Ev X 192 25 ls (vl (x * y) :: st) h Q) := R_lmul rfl
theorem e_192_25 {rest : List xV} {a0 : Int} {a1 : Int} {a2 : Int} : Ev X 192 25 ls ((vl a2) :: (vl a1) :: (vl a0) :: rest) h Q ↔ (wd rest ≤ 8 ∧ Cl X 149 [vl a0, vl a1, vl a2] h (fun r h2 => Ev X 192 26 ls (r.toList ++ rest) h2 Q)) := R_cs (as := [vl a0, vl a1, vl a2]) (k2 := 149) rfl rfl (Nat.le_of_ble_eq_true rfl)
theorem e_192_26 {x : Int} : Ev X 192 26 ls (vi x :: st) h Q ↔ (if ¬ x = 0 then Ev X 192 31 ls st h Q else Ev X 192 27 ls st h Q) := R_ifne rfl
theorem e_192_27 : Ev X 192 27 ls st h Q ↔ onR (gl ls 0) (fun z => Ev X 192 28 ls (vr z :: st) h Q) := R_al rfl (Or.inl rfl)
theorem e_192_28 : Ev X 192 28 ls st h Q ↔ Ev X 192 29 ls (vi (-1) :: st) h Q := R_kc rfl (Or.inl ⟨Or.inl rfl, by decide⟩)
theorem e_192_29 {rest : List xV} {a0 : Int} {o : Nat} : Ev X 192 29 ls ((vi a0) :: vr o :: rest) h Q ↔ ((X.1 o = 12 ∧ wd rest ≤ 8) ∧ Cl X 154 [vr o, vi a0] h (fun r h2 => Ev X 192 30 ls (r.toList ++ rest) h2 Q)) := R_cv (x := o) (as := [vi a0]) (k2 := 154) rfl rfl (Nat.le_of_ble_eq_true rfl)
theorem e_192_30 {z : Int} : Ev X 192 30 ls [vi z] h Q ↔ Q (some (vi z)) h := R_ir rfl
theorem e_192_31 : Ev X 192 31 ls st h Q ↔ onR (gl ls 0) (fun z => Ev X 192 32 ls (vr z :: st) h Q) := R_al rfl (Or.inl rfl)
theorem e_192_32 : Ev X 192 32 ls st h Q ↔ onI (gl ls 1) (fun z => Ev X 192 33 ls (vi z :: st) h Q) := R_il rfl (Or.inl rfl)
theorem e_192_33 {rest : List xV} {a0 : Int} {o : Nat} : Ev X 192 33 ls ((vi a0) :: vr o :: rest) h Q ↔ ((X.1 o = 12 ∧ wd rest ≤ 8) ∧ Cl X 167 [vr o, vi a0] h (fun r h2 => Ev X 192 34 ls (r.toList ++ rest) h2 Q)) := R_cv (x := o) (as := [vi a0]) (k2 := 167) rfl rfl (Nat.le_of_ble_eq_true rfl)
theorem e_192_34 {x : Int} : Ev X 192 34 ls (vi x :: st) h Q ↔ (if ¬ x = 0 then Ev X 192 39 ls st h Q else Ev X 192 35 ls st h Q) := R_ifne rfl
theorem e_192_35 : Ev X 192 35 ls st h Q ↔ onR (gl ls 0) (fun z => Ev X 192 36 ls (vr z :: st) h Q) := R_al rfl (Or.inl rfl)
theorem e_192_36 : Ev X 192 36 ls st h Q ↔ Ev X 192 37 ls (vi (-2) :: st) h Q := R_kc rfl (Or.inr (Or.inl ⟨rfl, by decide⟩))
theorem e_192_37 {rest : List xV} {a0 : Int} {o : Nat} : Ev X 192 37 ls ((vi a0) :: vr o :: rest) h Q ↔ ((X.1 o = 12 ∧ wd rest ≤ 8) ∧ Cl X 154 [vr o, vi a0] h (fun r h2 => Ev X 192 38 ls (r.toList ++ rest) h2 Q)) := R_cv (x := o) (as := [vi a0]) (k2 := 154) rfl rfl (Nat.le_of_ble_eq_true rfl)
theorem e_192_38 {z : Int} : Ev X 192 38 ls [vi z] h Q ↔ Q (some (vi z)) h := R_ir rfl
theorem e_192_39 : Ev X 192 39 ls st h Q ↔ onR (gl ls 0) (fun z => Ev X 192 40 ls (vr z :: st) h Q) := R_al rfl (Or.inl rfl)
theorem e_192_40 : Ev X 192 40 ls st h Q ↔ onI (gl ls 1) (fun z => Ev X 192 41 ls (vi z :: st) h Q) := R_il rfl (Or.inl rfl)
theorem e_192_41 {rest : List xV} {a0 : Int} {o : Nat} : Ev X 192 41 ls ((vi a0) :: vr o :: rest) h Q ↔ ((X.1 o = 12 ∧ wd rest ≤ 8) ∧ Cl X 162 [vr o, vi a0] h (fun r h2 => Ev X 192 42 ls (r.toList ++ rest) h2 Q)) := R_cv (x := o) (as := [vi a0]) (k2 := 162) rfl rfl (Nat.le_of_ble_eq_true rfl)
theorem e_192_42 {x : Int} : Ev X 192 42 ls (vi x :: st) h Q ↔ (if ¬ x = 0 then Ev X 192 53 ls st h Q else Ev X 192 43 ls st h Q) := R_ifne rfl
theorem e_192_43 : Ev X 192 43 ls st h Q ↔ onI (gl ls 2) (fun z => Ev X 192 44 ls (vi z :: st) h Q) := R_il rfl (Or.inl rfl)
theorem e_192_44 : Ev X 192 44 ls st h Q ↔ Ev X 192 45 ls (vi 16 :: st) h Q := R_kc rfl (Or.inr (Or.inl ⟨rfl, by decide⟩))
theorem e_192_45 : Ev X 192 45 ls st h Q ↔ onR (gl ls 0) (fun z => Ev X 192 46 ls (vr z :: st) h Q) := R_al rfl (Or.inl rfl)
theorem e_192_46 {x : Nat} : Ev X 192 46 ls (vr x :: st) h Q ↔ (X.1 x = 12 ∧ Ev X 192 47 ls (vi (h.2 x 3) :: st) h Q) := R_gi rfl
theorem e_192_47 : Ev X 192 47 ls st h Q ↔ onR (gl ls 0) (fun z => Ev X 192 48 ls (vr z :: st) h Q) := R_al rfl (Or.inl rfl)
theorem e_192_48 : Ev X 192 48 ls st h Q ↔ onI (gl ls 1) (fun z => Ev X 192 49 ls (vi z :: st) h Q) := R_il rfl (Or.inl rfl)
theorem e_192_49 {rest : List xV} {a0 : Int} {o : Nat} : Ev X 192 49 ls ((vi a0) :: vr o :: rest) h Q ↔ ((X.1 o = 12 ∧ wd rest ≤ 8) ∧ Cl X 160 [vr o, vi a0] h (fun r h2 => Ev X 192 50 ls (r.toList ++ rest) h2 Q)) := R_cv (x := o) (as := [vi a0]) (k2 := 160) rfl rfl (Nat.le_of_ble_eq_true rfl)
theorem e_192_50 {x y : Int} : Ev X 192 50 ls (vi y :: vi x :: st) h Q ↔ ((inR (x - y)) ∧ Ev X 192 51 ls (vi (x - y) :: st) h Q) := R_sub rfl
theorem e_192_51 {x y : Int} : Ev X 192 51 ls (vi y :: vi x :: st) h Q ↔ ((inR (x * y)) ∧ Ev X 192 52 ls (vi (x * y) :: st) h Q) := R_mul rfl
theorem e_192_52 {x y : Int} : Ev X 192 52 ls (vi y :: vi x :: st) h Q ↔ (if x ≤ y then Ev X 192 57 ls st h Q else Ev X 192 53 ls st h Q) := R_icle rfl
theorem e_192_53 : Ev X 192 53 ls st h Q ↔ onR (gl ls 0) (fun z => Ev X 192 54 ls (vr z :: st) h Q) := R_al rfl (Or.inl rfl)
theorem e_192_54 : Ev X 192 54 ls st h Q ↔ Ev X 192 55 ls (vi (-4) :: st) h Q := R_kc rfl (Or.inr (Or.inl ⟨rfl, by decide⟩))
theorem e_192_55 {rest : List xV} {a0 : Int} {o : Nat} : Ev X 192 55 ls ((vi a0) :: vr o :: rest) h Q ↔ ((X.1 o = 12 ∧ wd rest ≤ 8) ∧ Cl X 154 [vr o, vi a0] h (fun r h2 => Ev X 192 56 ls (r.toList ++ rest) h2 Q)) := R_cv (x := o) (as := [vi a0]) (k2 := 154) rfl rfl (Nat.le_of_ble_eq_true rfl)
theorem e_192_56 {z : Int} : Ev X 192 56 ls [vi z] h Q ↔ Q (some (vi z)) h := R_ir rfl
theorem e_192_57 : Ev X 192 57 ls st h Q ↔ onR (gl ls 0) (fun z => Ev X 192 58 ls (vr z :: st) h Q) := R_al rfl (Or.inl rfl)
theorem e_192_58 : Ev X 192 58 ls st h Q ↔ Ev X 192 59 ls (vi 5 :: st) h Q := R_kc rfl (Or.inl ⟨Or.inl rfl, by decide⟩)
theorem e_192_59 {rest : List xV} {a0 : Int} {o : Nat} : Ev X 192 59 ls ((vi a0) :: vr o :: rest) h Q ↔ ((X.1 o = 12 ∧ wd rest ≤ 8) ∧ Cl X 156 [vr o, vi a0] h (fun r h2 => Ev X 192 60 ls (r.toList ++ rest) h2 Q)) := R_cv (x := o) (as := [vi a0]) (k2 := 156) rfl rfl (Nat.le_of_ble_eq_true rfl)
theorem e_192_60 : Ev X 192 60 ls st h Q ↔ onI (gl ls 1) (fun z => Ev X 192 61 ls (vi z :: st) h Q) := R_il rfl (Or.inl rfl)
theorem e_192_61 {rest : List xV} {a0 : Int} : Ev X 192 61 ls ((vi a0) :: rest) h Q ↔ (wd rest ≤ 8 ∧ Cl X 158 [vi a0] h (fun r h2 => Ev X 192 62 ls (r.toList ++ rest) h2 Q)) := R_cs (as := [vi a0]) (k2 := 158) rfl rfl (Nat.le_of_ble_eq_true rfl)
theorem e_192_62 {x : Int} : Ev X 192 62 ls (vi x :: st) h Q ↔ (stOK ls 4 = true ∧ Ev X 192 63 (ls.set 4 (some (vi x))) st h Q) := R_is rfl (Or.inr rfl)
theorem e_192_63 : Ev X 192 63 ls st h Q ↔ onR (gl ls 0) (fun z => Ev X 192 64 ls (vr z :: st) h Q) := R_al rfl (Or.inl rfl)
theorem e_192_64 {x : Nat} : Ev X 192 64 ls (vr x :: st) h Q ↔ (X.1 x = 12 ∧ Ev X 192 65 ls (vr (X.2.2.1 x 6) :: st) h Q) := R_gr rfl
theorem e_192_65 : Ev X 192 65 ls st h Q ↔ onI (gl ls 4) (fun z => Ev X 192 66 ls (vi z :: st) h Q) := R_il rfl (Or.inr rfl)
theorem e_192_66 : Ev X 192 66 ls st h Q ↔ Ev X 192 67 ls (vi 3 :: st) h Q := R_kc rfl (Or.inl ⟨Or.inl rfl, by decide⟩)
theorem e_192_67 {x y : Int} : Ev X 192 67 ls (vi y :: vi x :: st) h Q ↔ ((inR (x + y)) ∧ Ev X 192 68 ls (vi (x + y) :: st) h Q) := R_add rfl
theorem e_192_68 {x : Nat} {j : Int} : Ev X 192 68 ls (vi j :: vr x :: st) h Q ↔ (((X.1 x = 13 ∨ X.1 x = 20) ∧ 0 ≤ j ∧ j < X.2.1 x) ∧ Ev X 192 69 ls (vi (h.1 x j.toNat) :: st) h Q) := R_ia rfl
theorem e_192_69 : Ev X 192 69 ls st h Q ↔ onI (gl ls 2) (fun z => Ev X 192 70 ls (vi z :: st) h Q) := R_il rfl (Or.inl rfl)
theorem e_192_70 {rest : List xV} {a0 : Int} {a1 : Int} : Ev X 192 70 ls ((vi a1) :: (vi a0) :: rest) h Q ↔ (wd rest ≤ 8 ∧ Cl X 150 [vi a0, vi a1] h (fun r h2 => Ev X 192 71 ls (r.toList ++ rest) h2 Q)) := R_cs (as := [vi a0, vi a1]) (k2 := 150) rfl rfl (Nat.le_of_ble_eq_true rfl)
theorem e_192_71 : Ev X 192 71 ls st h Q ↔ onR (gl ls 0) (fun z => Ev X 192 72 ls (vr z :: st) h Q) := R_al rfl (Or.inl rfl)
theorem e_192_72 {x : Nat} : Ev X 192 72 ls (vr x :: st) h Q ↔ (X.1 x = 12 ∧ Ev X 192 73 ls (vr (X.2.2.1 x 6) :: st) h Q) := R_gr rfl
theorem e_192_73 : Ev X 192 73 ls st h Q ↔ onI (gl ls 4) (fun z => Ev X 192 74 ls (vi z :: st) h Q) := R_il rfl (Or.inr rfl)
theorem e_192_74 : Ev X 192 74 ls st h Q ↔ Ev X 192 75 ls (vi 4 :: st) h Q := R_kc rfl (Or.inl ⟨Or.inl rfl, by decide⟩)
theorem e_192_75 {x y : Int} : Ev X 192 75 ls (vi y :: vi x :: st) h Q ↔ ((inR (x + y)) ∧ Ev X 192 76 ls (vi (x + y) :: st) h Q) := R_add rfl
theorem e_192_76 {x : Nat} {j : Int} : Ev X 192 76 ls (vi j :: vr x :: st) h Q ↔ (((X.1 x = 13 ∨ X.1 x = 20) ∧ 0 ≤ j ∧ j < X.2.1 x) ∧ Ev X 192 77 ls (vi (h.1 x j.toNat) :: st) h Q) := R_ia rfl
theorem e_192_77 : Ev X 192 77 ls st h Q ↔ onI (gl ls 3) (fun z => Ev X 192 78 ls (vi z :: st) h Q) := R_il rfl (Or.inl rfl)
theorem e_192_78 {rest : List xV} {a0 : Int} {a1 : Int} : Ev X 192 78 ls ((vi a1) :: (vi a0) :: rest) h Q ↔ (wd rest ≤ 8 ∧ Cl X 150 [vi a0, vi a1] h (fun r h2 => Ev X 192 79 ls (r.toList ++ rest) h2 Q)) := R_cs (as := [vi a0, vi a1]) (k2 := 150) rfl rfl (Nat.le_of_ble_eq_true rfl)
theorem e_192_79 {x y : Int} : Ev X 192 79 ls (vi y :: vi x :: st) h Q ↔ ((inR (x + y)) ∧ Ev X 192 80 ls (vi (x + y) :: st) h Q) := R_add rfl
theorem e_192_80 {x : Int} : Ev X 192 80 ls (vi x :: st) h Q ↔ (stOK ls 5 = true ∧ Ev X 192 81 (ls.set 5 (some (vi x))) st h Q) := R_is rfl (Or.inr rfl)
theorem e_192_81 : Ev X 192 81 ls st h Q ↔ onR (gl ls 0) (fun z => Ev X 192 82 ls (vr z :: st) h Q) := R_al rfl (Or.inl rfl)
theorem e_192_82 {x : Nat} : Ev X 192 82 ls (vr x :: st) h Q ↔ (X.1 x = 12 ∧ Ev X 192 83 ls (vr (X.2.2.1 x 6) :: st) h Q) := R_gr rfl
theorem e_192_83 : Ev X 192 83 ls st h Q ↔ onI (gl ls 4) (fun z => Ev X 192 84 ls (vi z :: st) h Q) := R_il rfl (Or.inr rfl)
theorem e_192_84 : Ev X 192 84 ls st h Q ↔ Ev X 192 85 ls (vi 3 :: st) h Q := R_kc rfl (Or.inl ⟨Or.inl rfl, by decide⟩)
theorem e_192_85 {x y : Int} : Ev X 192 85 ls (vi y :: vi x :: st) h Q ↔ ((inR (x + y)) ∧ Ev X 192 86 ls (vi (x + y) :: st) h Q) := R_add rfl
theorem e_192_86 : Ev X 192 86 ls st h Q ↔ onI (gl ls 2) (fun z => Ev X 192 87 ls (vi z :: st) h Q) := R_il rfl (Or.inl rfl)
theorem e_192_87 {x : Nat} {j v : Int} : Ev X 192 87 ls (vi v :: vi j :: vr x :: st) h Q ↔ ((X.1 x = 13 ∧ 0 ≤ j ∧ j < X.2.1 x) ∧ Ev X 192 88 ls st (up2 h.1 x j.toNat v, h.2) Q) := R_ias rfl
theorem e_192_88 : Ev X 192 88 ls st h Q ↔ onR (gl ls 0) (fun z => Ev X 192 89 ls (vr z :: st) h Q) := R_al rfl (Or.inl rfl)
theorem e_192_89 {x : Nat} : Ev X 192 89 ls (vr x :: st) h Q ↔ (X.1 x = 12 ∧ Ev X 192 90 ls (vr (X.2.2.1 x 6) :: st) h Q) := R_gr rfl
theorem e_192_90 : Ev X 192 90 ls st h Q ↔ onI (gl ls 4) (fun z => Ev X 192 91 ls (vi z :: st) h Q) := R_il rfl (Or.inr rfl)
theorem e_192_91 : Ev X 192 91 ls st h Q ↔ Ev X 192 92 ls (vi 4 :: st) h Q := R_kc rfl (Or.inl ⟨Or.inl rfl, by decide⟩)
theorem e_192_92 {x y : Int} : Ev X 192 92 ls (vi y :: vi x :: st) h Q ↔ ((inR (x + y)) ∧ Ev X 192 93 ls (vi (x + y) :: st) h Q) := R_add rfl
theorem e_192_93 : Ev X 192 93 ls st h Q ↔ onI (gl ls 3) (fun z => Ev X 192 94 ls (vi z :: st) h Q) := R_il rfl (Or.inl rfl)
theorem e_192_94 {x : Nat} {j v : Int} : Ev X 192 94 ls (vi v :: vi j :: vr x :: st) h Q ↔ ((X.1 x = 13 ∧ 0 ≤ j ∧ j < X.2.1 x) ∧ Ev X 192 95 ls st (up2 h.1 x j.toNat v, h.2) Q) := R_ias rfl
theorem e_192_95 : Ev X 192 95 ls st h Q ↔ onR (gl ls 0) (fun z => Ev X 192 96 ls (vr z :: st) h Q) := R_al rfl (Or.inl rfl)
theorem e_192_96 : Ev X 192 96 ls st h Q ↔ onI (gl ls 5) (fun z => Ev X 192 97 ls (vi z :: st) h Q) := R_il rfl (Or.inr rfl)
theorem e_192_97 {rest : List xV} {a0 : Int} {o : Nat} : Ev X 192 97 ls ((vi a0) :: vr o :: rest) h Q ↔ ((X.1 o = 12 ∧ wd rest ≤ 8) ∧ Cl X 153 [vr o, vi a0] h (fun r h2 => Ev X 192 98 ls (r.toList ++ rest) h2 Q)) := R_cv (x := o) (as := [vi a0]) (k2 := 153) rfl rfl (Nat.le_of_ble_eq_true rfl)
theorem e_192_98 {z : Int} : Ev X 192 98 ls [vi z] h Q ↔ Q (some (vi z)) h := R_ir rfl
-- 193: CellRowsModel.fix(III)I
theorem e_193_0 : Ev X 193 0 ls st h Q ↔ onR (gl ls 0) (fun z => Ev X 193 1 ls (vr z :: st) h Q) := R_al rfl (Or.inl rfl)
theorem e_193_1 : Ev X 193 1 ls st h Q ↔ Ev X 193 2 ls (vi 0 :: st) h Q := R_kc rfl (Or.inl ⟨Or.inl rfl, by decide⟩)
theorem e_193_2 {x : Nat} {v : Int} : Ev X 193 2 ls (vi v :: vr x :: st) h Q ↔ (X.1 x = 12 ∧ Ev X 193 3 ls st (h.1, up2 h.2 x 0 v) Q) := R_pi rfl
theorem e_193_3 : Ev X 193 3 ls st h Q ↔ onR (gl ls 0) (fun z => Ev X 193 4 ls (vr z :: st) h Q) := R_al rfl (Or.inl rfl)
theorem e_193_4 : Ev X 193 4 ls st h Q ↔ onI (gl ls 2) (fun z => Ev X 193 5 ls (vi z :: st) h Q) := R_il rfl (Or.inl rfl)
theorem e_193_5 : Ev X 193 5 ls st h Q ↔ onI (gl ls 3) (fun z => Ev X 193 6 ls (vi z :: st) h Q) := R_il rfl (Or.inl rfl)
theorem e_193_6 {rest : List xV} {a0 : Int} {a1 : Int} {o : Nat} : Ev X 193 6 ls ((vi a1) :: (vi a0) :: vr o :: rest) h Q ↔ ((X.1 o = 12 ∧ wd rest ≤ 8) ∧ Cl X 170 [vr o, vi a0, vi a1] h (fun r h2 => Ev X 193 7 ls (r.toList ++ rest) h2 Q)) := R_cv (x := o) (as := [vi a0, vi a1]) (k2 := 170) rfl rfl (Nat.le_of_ble_eq_true rfl)
theorem e_193_7 {x : Int} : Ev X 193 7 ls (vi x :: st) h Q ↔ (if ¬ x = 0 then Ev X 193 12 ls st h Q else Ev X 193 8 ls st h Q) := R_ifne rfl
theorem e_193_8 : Ev X 193 8 ls st h Q ↔ onR (gl ls 0) (fun z => Ev X 193 9 ls (vr z :: st) h Q) := R_al rfl (Or.inl rfl)
theorem e_193_9 : Ev X 193 9 ls st h Q ↔ Ev X 193 10 ls (vi (-1) :: st) h Q := R_kc rfl (Or.inl ⟨Or.inl rfl, by decide⟩)
theorem e_193_10 {rest : List xV} {a0 : Int} {o : Nat} : Ev X 193 10 ls ((vi a0) :: vr o :: rest) h Q ↔ ((X.1 o = 12 ∧ wd rest ≤ 8) ∧ Cl X 154 [vr o, vi a0] h (fun r h2 => Ev X 193 11 ls (r.toList ++ rest) h2 Q)) := R_cv (x := o) (as := [vi a0]) (k2 := 154) rfl rfl (Nat.le_of_ble_eq_true rfl)
theorem e_193_11 {z : Int} : Ev X 193 11 ls [vi z] h Q ↔ Q (some (vi z)) h := R_ir rfl
theorem e_193_12 : Ev X 193 12 ls st h Q ↔ onR (gl ls 0) (fun z => Ev X 193 13 ls (vr z :: st) h Q) := R_al rfl (Or.inl rfl)
theorem e_193_13 : Ev X 193 13 ls st h Q ↔ onI (gl ls 1) (fun z => Ev X 193 14 ls (vi z :: st) h Q) := R_il rfl (Or.inl rfl)
theorem e_193_14 {rest : List xV} {a0 : Int} {o : Nat} : Ev X 193 14 ls ((vi a0) :: vr o :: rest) h Q ↔ ((X.1 o = 12 ∧ wd rest ≤ 8) ∧ Cl X 167 [vr o, vi a0] h (fun r h2 => Ev X 193 15 ls (r.toList ++ rest) h2 Q)) := R_cv (x := o) (as := [vi a0]) (k2 := 167) rfl rfl (Nat.le_of_ble_eq_true rfl)
theorem e_193_15 {x : Int} : Ev X 193 15 ls (vi x :: st) h Q ↔ (if ¬ x = 0 then Ev X 193 20 ls st h Q else Ev X 193 16 ls st h Q) := R_ifne rfl
theorem e_193_16 : Ev X 193 16 ls st h Q ↔ onR (gl ls 0) (fun z => Ev X 193 17 ls (vr z :: st) h Q) := R_al rfl (Or.inl rfl)
theorem e_193_17 : Ev X 193 17 ls st h Q ↔ Ev X 193 18 ls (vi (-2) :: st) h Q := R_kc rfl (Or.inr (Or.inl ⟨rfl, by decide⟩))
theorem e_193_18 {rest : List xV} {a0 : Int} {o : Nat} : Ev X 193 18 ls ((vi a0) :: vr o :: rest) h Q ↔ ((X.1 o = 12 ∧ wd rest ≤ 8) ∧ Cl X 154 [vr o, vi a0] h (fun r h2 => Ev X 193 19 ls (r.toList ++ rest) h2 Q)) := R_cv (x := o) (as := [vi a0]) (k2 := 154) rfl rfl (Nat.le_of_ble_eq_true rfl)
theorem e_193_19 {z : Int} : Ev X 193 19 ls [vi z] h Q ↔ Q (some (vi z)) h := R_ir rfl
theorem e_193_20 : Ev X 193 20 ls st h Q ↔ onR (gl ls 0) (fun z => Ev X 193 21 ls (vr z :: st) h Q) := R_al rfl (Or.inl rfl)
theorem e_193_21 : Ev X 193 21 ls st h Q ↔ onI (gl ls 1) (fun z => Ev X 193 22 ls (vi z :: st) h Q) := R_il rfl (Or.inl rfl)
theorem e_193_22 {rest : List xV} {a0 : Int} {o : Nat} : Ev X 193 22 ls ((vi a0) :: vr o :: rest) h Q ↔ ((X.1 o = 12 ∧ wd rest ≤ 8) ∧ Cl X 162 [vr o, vi a0] h (fun r h2 => Ev X 193 23 ls (r.toList ++ rest) h2 Q)) := R_cv (x := o) (as := [vi a0]) (k2 := 162) rfl rfl (Nat.le_of_ble_eq_true rfl)
theorem e_193_23 {x : Int} : Ev X 193 23 ls (vi x :: st) h Q ↔ (if ¬ x = 0 then Ev X 193 31 ls st h Q else Ev X 193 24 ls st h Q) := R_ifne rfl
theorem e_193_24 : Ev X 193 24 ls st h Q ↔ onR (gl ls 0) (fun z => Ev X 193 25 ls (vr z :: st) h Q) := R_al rfl (Or.inl rfl)
theorem e_193_25 : Ev X 193 25 ls st h Q ↔ onI (gl ls 1) (fun z => Ev X 193 26 ls (vi z :: st) h Q) := R_il rfl (Or.inl rfl)
theorem e_193_26 : Ev X 193 26 ls st h Q ↔ onI (gl ls 2) (fun z => Ev X 193 27 ls (vi z :: st) h Q) := R_il rfl (Or.inl rfl)
theorem e_193_27 : Ev X 193 27 ls st h Q ↔ onI (gl ls 3) (fun z => Ev X 193 28 ls (vi z :: st) h Q) := R_il rfl (Or.inl rfl)
theorem e_193_28 : Ev X 193 28 ls st h Q ↔ Ev X 193 29 ls (vi 1 :: st) h Q := R_kc rfl (Or.inl ⟨Or.inl rfl, by decide⟩)
theorem e_193_29 {rest : List xV} {a0 : Int} {a1 : Int} {a2 : Int} {a3 : Int} {o : Nat} : Ev X 193 29 ls ((vi a3) :: (vi a2) :: (vi a1) :: (vi a0) :: vr o :: rest) h Q ↔ ((X.1 o = 12 ∧ wd rest ≤ 8) ∧ Cl X 176 [vr o, vi a0, vi a1, vi a2, vi a3] h (fun r h2 => Ev X 193 30 ls (r.toList ++ rest) h2 Q)) := R_cv (x := o) (as := [vi a0, vi a1, vi a2, vi a3]) (k2 := 176) rfl rfl (Nat.le_of_ble_eq_true rfl)
theorem e_193_30 {x : Int} : Ev X 193 30 ls (vi x :: st) h Q ↔ (if ¬ x = 0 then Ev X 193 35 ls st h Q else Ev X 193 31 ls st h Q) := R_ifne rfl
theorem e_193_31 : Ev X 193 31 ls st h Q ↔ onR (gl ls 0) (fun z => Ev X 193 32 ls (vr z :: st) h Q) := R_al rfl (Or.inl rfl)
theorem e_193_32 : Ev X 193 32 ls st h Q ↔ Ev X 193 33 ls (vi (-4) :: st) h Q := R_kc rfl (Or.inr (Or.inl ⟨rfl, by decide⟩))
theorem e_193_33 {rest : List xV} {a0 : Int} {o : Nat} : Ev X 193 33 ls ((vi a0) :: vr o :: rest) h Q ↔ ((X.1 o = 12 ∧ wd rest ≤ 8) ∧ Cl X 154 [vr o, vi a0] h (fun r h2 => Ev X 193 34 ls (r.toList ++ rest) h2 Q)) := R_cv (x := o) (as := [vi a0]) (k2 := 154) rfl rfl (Nat.le_of_ble_eq_true rfl)
theorem e_193_34 {z : Int} : Ev X 193 34 ls [vi z] h Q ↔ Q (some (vi z)) h := R_ir rfl
theorem e_193_35 : Ev X 193 35 ls st h Q ↔ onR (gl ls 0) (fun z => Ev X 193 36 ls (vr z :: st) h Q) := R_al rfl (Or.inl rfl)
theorem e_193_36 : Ev X 193 36 ls st h Q ↔ Ev X 193 37 ls (vi 6 :: st) h Q := R_kc rfl (Or.inr (Or.inl ⟨rfl, by decide⟩))
theorem e_193_37 {rest : List xV} {a0 : Int} {o : Nat} : Ev X 193 37 ls ((vi a0) :: vr o :: rest) h Q ↔ ((X.1 o = 12 ∧ wd rest ≤ 8) ∧ Cl X 156 [vr o, vi a0] h (fun r h2 => Ev X 193 38 ls (r.toList ++ rest) h2 Q)) := R_cv (x := o) (as := [vi a0]) (k2 := 156) rfl rfl (Nat.le_of_ble_eq_true rfl)
theorem e_193_38 : Ev X 193 38 ls st h Q ↔ Ev X 193 39 ls (vi 0 :: st) h Q := R_kc rfl (Or.inl ⟨Or.inl rfl, by decide⟩)
theorem e_193_39 {x : Int} : Ev X 193 39 ls (vi x :: st) h Q ↔ (stOK ls 4 = true ∧ Ev X 193 40 (ls.set 4 (some (vi x))) st h Q) := R_is rfl (Or.inr rfl)
theorem e_193_40 : Ev X 193 40 ls st h Q ↔ onI (gl ls 3) (fun z => Ev X 193 41 ls (vi z :: st) h Q) := R_il rfl (Or.inl rfl)
theorem e_193_41 {x : Int} : Ev X 193 41 ls (vi x :: st) h Q ↔ (stOK ls 5 = true ∧ Ev X 193 42 (ls.set 5 (some (vi x))) st h Q) := R_is rfl (Or.inr rfl)
theorem e_193_42 : Ev X 193 42 ls st h Q ↔ onI (gl ls 5) (fun z => Ev X 193 43 ls (vi z :: st) h Q) := R_il rfl (Or.inr rfl)
theorem e_193_43 : Ev X 193 43 ls st h Q ↔ onI (gl ls 3) (fun z => Ev X 193 44 ls (vi z :: st) h Q) := R_il rfl (Or.inl rfl)
theorem e_193_44 : Ev X 193 44 ls st h Q ↔ onR (gl ls 0) (fun z => Ev X 193 45 ls (vr z :: st) h Q) := R_al rfl (Or.inl rfl)
theorem e_193_45 : Ev X 193 45 ls st h Q ↔ onI (gl ls 1) (fun z => Ev X 193 46 ls (vi z :: st) h Q) := R_il rfl (Or.inl rfl)
theorem e_193_46 {rest : List xV} {a0 : Int} {o : Nat} : Ev X 193 46 ls ((vi a0) :: vr o :: rest) h Q ↔ ((X.1 o = 12 ∧ wd rest ≤ 8) ∧ Cl X 160 [vr o, vi a0] h (fun r h2 => Ev X 193 47 ls (r.toList ++ rest) h2 Q)) := R_cv (x := o) (as := [vi a0]) (k2 := 160) rfl rfl (Nat.le_of_ble_eq_true rfl)
theorem e_193_47 {x y : Int} : Ev X 193 47 ls (vi y :: vi x :: st) h Q ↔ ((inR (x + y)) ∧ Ev X 193 48 ls (vi (x + y) :: st) h Q) := R_add rfl
theorem e_193_48 {x y : Int} : Ev X 193 48 ls (vi y :: vi x :: st) h Q ↔ (if y ≤ x then Ev X 193 65 ls st h Q else Ev X 193 49 ls st h Q) := R_icge rfl
theorem e_193_49 : Ev X 193 49 ls st h Q ↔ onR (gl ls 0) (fun z => Ev X 193 50 ls (vr z :: st) h Q) := R_al rfl (Or.inl rfl)
theorem e_193_50 : Ev X 193 50 ls st h Q ↔ onI (gl ls 2) (fun z => Ev X 193 51 ls (vi z :: st) h Q) := R_il rfl (Or.inl rfl)
theorem e_193_51 : Ev X 193 51 ls st h Q ↔ onI (gl ls 5) (fun z => Ev X 193 52 ls (vi z :: st) h Q) := R_il rfl (Or.inr rfl)
theorem e_193_52 : Ev X 193 52 ls st h Q ↔ onI (gl ls 1) (fun z => Ev X 193 53 ls (vi z :: st) h Q) := R_il rfl (Or.inl rfl)
theorem e_193_53 : Ev X 193 53 ls st h Q ↔ Ev X 193 54 ls (vi 0 :: st) h Q := R_kc rfl (Or.inl ⟨Or.inl rfl, by decide⟩)
theorem e_193_54 {rest : List xV} {a0 : Int} {a1 : Int} {a2 : Int} {a3 : Int} {o : Nat} : Ev X 193 54 ls ((vi a3) :: (vi a2) :: (vi a1) :: (vi a0) :: vr o :: rest) h Q ↔ ((X.1 o = 12 ∧ wd rest ≤ 8) ∧ Cl X 175 [vr o, vi a0, vi a1, vi a2, vi a3] h (fun r h2 => Ev X 193 55 ls (r.toList ++ rest) h2 Q)) := R_cv (x := o) (as := [vi a0, vi a1, vi a2, vi a3]) (k2 := 175) rfl rfl (Nat.le_of_ble_eq_true rfl)
theorem e_193_55 {x : Int} : Ev X 193 55 ls (vi x :: st) h Q ↔ (stOK ls 6 = true ∧ Ev X 193 56 (ls.set 6 (some (vi x))) st h Q) := R_is rfl (Or.inr rfl)
theorem e_193_56 : Ev X 193 56 ls st h Q ↔ onI (gl ls 6) (fun z => Ev X 193 57 ls (vi z :: st) h Q) := R_il rfl (Or.inr rfl)
theorem e_193_57 : Ev X 193 57 ls st h Q ↔ Ev X 193 58 ls (vi (-1) :: st) h Q := R_kc rfl (Or.inl ⟨Or.inl rfl, by decide⟩)
theorem e_193_58 {x y : Int} : Ev X 193 58 ls (vi y :: vi x :: st) h Q ↔ (if x = y then Ev X 193 63 ls st h Q else Ev X 193 59 ls st h Q) := R_iceq rfl
theorem e_193_59 : Ev X 193 59 ls st h Q ↔ onR (gl ls 0) (fun z => Ev X 193 60 ls (vr z :: st) h Q) := R_al rfl (Or.inl rfl)
theorem e_193_60 : Ev X 193 60 ls st h Q ↔ onI (gl ls 6) (fun z => Ev X 193 61 ls (vi z :: st) h Q) := R_il rfl (Or.inr rfl)
theorem e_193_61 {rest : List xV} {a0 : Int} {o : Nat} : Ev X 193 61 ls ((vi a0) :: vr o :: rest) h Q ↔ ((X.1 o = 12 ∧ wd rest ≤ 8) ∧ Cl X 165 [vr o, vi a0] h (fun r h2 => Ev X 193 62 ls (r.toList ++ rest) h2 Q)) := R_cv (x := o) (as := [vi a0]) (k2 := 165) rfl rfl (Nat.le_of_ble_eq_true rfl)
theorem e_193_62 : Ev X 193 62 ls st h Q ↔ onI (gl ls 4) (fun x => (stOK ls 4 = true ∧ inR (x + 1)) ∧ Ev X 193 63 (ls.set 4 (some (vi (x + 1)))) st h Q) := R_inc rfl
theorem e_193_63 : Ev X 193 63 ls st h Q ↔ onI (gl ls 5) (fun x => (stOK ls 5 = true ∧ inR (x + 1)) ∧ Ev X 193 64 (ls.set 5 (some (vi (x + 1)))) st h Q) := R_inc rfl
theorem e_193_64 : Ev X 193 64 ls st h Q ↔ Ev X 193 42 ls st h Q := R_go rfl
theorem e_193_65 : Ev X 193 65 ls st h Q ↔ onR (gl ls 0) (fun z => Ev X 193 66 ls (vr z :: st) h Q) := R_al rfl (Or.inl rfl)
theorem e_193_66 : Ev X 193 66 ls st h Q ↔ onI (gl ls 1) (fun z => Ev X 193 67 ls (vi z :: st) h Q) := R_il rfl (Or.inl rfl)
theorem e_193_67 : Ev X 193 67 ls st h Q ↔ onI (gl ls 2) (fun z => Ev X 193 68 ls (vi z :: st) h Q) := R_il rfl (Or.inl rfl)
theorem e_193_68 : Ev X 193 68 ls st h Q ↔ onI (gl ls 3) (fun z => Ev X 193 69 ls (vi z :: st) h Q) := R_il rfl (Or.inl rfl)
theorem e_193_69 {rest : List xV} {a0 : Int} {a1 : Int} {a2 : Int} {o : Nat} : Ev X 193 69 ls ((vi a2) :: (vi a1) :: (vi a0) :: vr o :: rest) h Q ↔ ((X.1 o = 12 ∧ wd rest ≤ 8) ∧ Cl X 166 [vr o, vi a0, vi a1, vi a2] h (fun r h2 => Ev X 193 70 ls (r.toList ++ rest) h2 Q)) := R_cv (x := o) (as := [vi a0, vi a1, vi a2]) (k2 := 166) rfl rfl (Nat.le_of_ble_eq_true rfl)
theorem e_193_70 : Ev X 193 70 ls st h Q ↔ onI (gl ls 1) (fun z => Ev X 193 71 ls (vi z :: st) h Q) := R_il rfl (Or.inl rfl)
theorem e_193_71 {rest : List xV} {a0 : Int} : Ev X 193 71 ls ((vi a0) :: rest) h Q ↔ (wd rest ≤ 8 ∧ Cl X 158 [vi a0] h (fun r h2 => Ev X 193 72 ls (r.toList ++ rest) h2 Q)) := R_cs (as := [vi a0]) (k2 := 158) rfl rfl (Nat.le_of_ble_eq_true rfl)
theorem e_193_72 {x : Int} : Ev X 193 72 ls (vi x :: st) h Q ↔ (stOK ls 5 = true ∧ Ev X 193 73 (ls.set 5 (some (vi x))) st h Q) := R_is rfl (Or.inr rfl)
theorem e_193_73 : Ev X 193 73 ls st h Q ↔ onR (gl ls 0) (fun z => Ev X 193 74 ls (vr z :: st) h Q) := R_al rfl (Or.inl rfl)
theorem e_193_74 {x : Nat} : Ev X 193 74 ls (vr x :: st) h Q ↔ (X.1 x = 12 ∧ Ev X 193 75 ls (vr (X.2.2.1 x 6) :: st) h Q) := R_gr rfl
theorem e_193_75 : Ev X 193 75 ls st h Q ↔ onI (gl ls 5) (fun z => Ev X 193 76 ls (vi z :: st) h Q) := R_il rfl (Or.inr rfl)
theorem e_193_76 : Ev X 193 76 ls st h Q ↔ Ev X 193 77 ls (vi 2 :: st) h Q := R_kc rfl (Or.inl ⟨Or.inl rfl, by decide⟩)
theorem e_193_77 {x y : Int} : Ev X 193 77 ls (vi y :: vi x :: st) h Q ↔ ((inR (x + y)) ∧ Ev X 193 78 ls (vi (x + y) :: st) h Q) := R_add rfl
theorem e_193_78 : Ev X 193 78 ls st h Q ↔ Ev X 193 79 ls (vi 1 :: st) h Q := R_kc rfl (Or.inl ⟨Or.inl rfl, by decide⟩)
theorem e_193_79 {x : Nat} {j v : Int} : Ev X 193 79 ls (vi v :: vi j :: vr x :: st) h Q ↔ ((X.1 x = 13 ∧ 0 ≤ j ∧ j < X.2.1 x) ∧ Ev X 193 80 ls st (up2 h.1 x j.toNat v, h.2) Q) := R_ias rfl
theorem e_193_80 : Ev X 193 80 ls st h Q ↔ onR (gl ls 0) (fun z => Ev X 193 81 ls (vr z :: st) h Q) := R_al rfl (Or.inl rfl)
theorem e_193_81 {x : Nat} : Ev X 193 81 ls (vr x :: st) h Q ↔ (X.1 x = 12 ∧ Ev X 193 82 ls (vr (X.2.2.1 x 6) :: st) h Q) := R_gr rfl
theorem e_193_82 : Ev X 193 82 ls st h Q ↔ onI (gl ls 5) (fun z => Ev X 193 83 ls (vi z :: st) h Q) := R_il rfl (Or.inr rfl)
theorem e_193_83 : Ev X 193 83 ls st h Q ↔ Ev X 193 84 ls (vi 3 :: st) h Q := R_kc rfl (Or.inl ⟨Or.inl rfl, by decide⟩)
theorem e_193_84 {x y : Int} : Ev X 193 84 ls (vi y :: vi x :: st) h Q ↔ ((inR (x + y)) ∧ Ev X 193 85 ls (vi (x + y) :: st) h Q) := R_add rfl
theorem e_193_85 : Ev X 193 85 ls st h Q ↔ Ev X 193 86 ls (vi 16 :: st) h Q := R_kc rfl (Or.inr (Or.inl ⟨rfl, by decide⟩))
theorem e_193_86 : Ev X 193 86 ls st h Q ↔ onI (gl ls 3) (fun z => Ev X 193 87 ls (vi z :: st) h Q) := R_il rfl (Or.inl rfl)
theorem e_193_87 {x y : Int} : Ev X 193 87 ls (vi y :: vi x :: st) h Q ↔ ((inR (x * y)) ∧ Ev X 193 88 ls (vi (x * y) :: st) h Q) := R_mul rfl
theorem e_193_88 {x : Nat} {j v : Int} : Ev X 193 88 ls (vi v :: vi j :: vr x :: st) h Q ↔ ((X.1 x = 13 ∧ 0 ≤ j ∧ j < X.2.1 x) ∧ Ev X 193 89 ls st (up2 h.1 x j.toNat v, h.2) Q) := R_ias rfl
theorem e_193_89 : Ev X 193 89 ls st h Q ↔ onR (gl ls 0) (fun z => Ev X 193 90 ls (vr z :: st) h Q) := R_al rfl (Or.inl rfl)
theorem e_193_90 {x : Nat} : Ev X 193 90 ls (vr x :: st) h Q ↔ (X.1 x = 12 ∧ Ev X 193 91 ls (vr (X.2.2.1 x 6) :: st) h Q) := R_gr rfl
theorem e_193_91 : Ev X 193 91 ls st h Q ↔ onI (gl ls 5) (fun z => Ev X 193 92 ls (vi z :: st) h Q) := R_il rfl (Or.inr rfl)
theorem e_193_92 : Ev X 193 92 ls st h Q ↔ Ev X 193 93 ls (vi 4 :: st) h Q := R_kc rfl (Or.inl ⟨Or.inl rfl, by decide⟩)
theorem e_193_93 {x y : Int} : Ev X 193 93 ls (vi y :: vi x :: st) h Q ↔ ((inR (x + y)) ∧ Ev X 193 94 ls (vi (x + y) :: st) h Q) := R_add rfl
theorem e_193_94 : Ev X 193 94 ls st h Q ↔ Ev X 193 95 ls (vi 16 :: st) h Q := R_kc rfl (Or.inr (Or.inl ⟨rfl, by decide⟩))
theorem e_193_95 : Ev X 193 95 ls st h Q ↔ onI (gl ls 2) (fun z => Ev X 193 96 ls (vi z :: st) h Q) := R_il rfl (Or.inl rfl)
theorem e_193_96 {x y : Int} : Ev X 193 96 ls (vi y :: vi x :: st) h Q ↔ ((inR (x * y)) ∧ Ev X 193 97 ls (vi (x * y) :: st) h Q) := R_mul rfl
theorem e_193_97 {x : Nat} {j v : Int} : Ev X 193 97 ls (vi v :: vi j :: vr x :: st) h Q ↔ ((X.1 x = 13 ∧ 0 ≤ j ∧ j < X.2.1 x) ∧ Ev X 193 98 ls st (up2 h.1 x j.toNat v, h.2) Q) := R_ias rfl
theorem e_193_98 : Ev X 193 98 ls st h Q ↔ onR (gl ls 0) (fun z => Ev X 193 99 ls (vr z :: st) h Q) := R_al rfl (Or.inl rfl)
theorem e_193_99 : Ev X 193 99 ls st h Q ↔ onI (gl ls 4) (fun z => Ev X 193 100 ls (vi z :: st) h Q) := R_il rfl (Or.inr rfl)
theorem e_193_100 {rest : List xV} {a0 : Int} {o : Nat} : Ev X 193 100 ls ((vi a0) :: vr o :: rest) h Q ↔ ((X.1 o = 12 ∧ wd rest ≤ 8) ∧ Cl X 153 [vr o, vi a0] h (fun r h2 => Ev X 193 101 ls (r.toList ++ rest) h2 Q)) := R_cv (x := o) (as := [vi a0]) (k2 := 153) rfl rfl (Nat.le_of_ble_eq_true rfl)
theorem e_193_101 {z : Int} : Ev X 193 101 ls [vi z] h Q ↔ Q (some (vi z)) h := R_ir rfl
end RUL
