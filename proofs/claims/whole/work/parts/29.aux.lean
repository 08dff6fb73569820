theorem sk_2 {o : Option xV} {t : List (Option xV)} : stOK (o :: t) 2 = stOK t 1 := skS
theorem sk_3 {o : Option xV} {t : List (Option xV)} : stOK (o :: t) 3 = stOK t 2 := skS
theorem sk_4 {o : Option xV} {t : List (Option xV)} : stOK (o :: t) 4 = stOK t 3 := skS
theorem sk_5 {o : Option xV} {t : List (Option xV)} : stOK (o :: t) 5 = stOK t 4 := skS
theorem sk_6 {o : Option xV} {t : List (Option xV)} : stOK (o :: t) 6 = stOK t 5 := skS
theorem sk_7 {o : Option xV} {t : List (Option xV)} : stOK (o :: t) 7 = stOK t 6 := skS
theorem sk_8 {o : Option xV} {t : List (Option xV)} : stOK (o :: t) 8 = stOK t 7 := skS
theorem sk_9 {o : Option xV} {t : List (Option xV)} : stOK (o :: t) 9 = stOK t 8 := skS
theorem sk_10 {o : Option xV} {t : List (Option xV)} : stOK (o :: t) 10 = stOK t 9 := skS
theorem sk_11 {o : Option xV} {t : List (Option xV)} : stOK (o :: t) 11 = stOK t 10 := skS
theorem sk_12 {o : Option xV} {t : List (Option xV)} : stOK (o :: t) 12 = stOK t 11 := skS
theorem sk_13 {o : Option xV} {t : List (Option xV)} : stOK (o :: t) 13 = stOK t 12 := skS
theorem sk_14 {o : Option xV} {t : List (Option xV)} : stOK (o :: t) 14 = stOK t 13 := skS
theorem sk_15 {o : Option xV} {t : List (Option xV)} : stOK (o :: t) 15 = stOK t 14 := skS
theorem sk_16 {o : Option xV} {t : List (Option xV)} : stOK (o :: t) 16 = stOK t 15 := skS
theorem sk_17 {o : Option xV} {t : List (Option xV)} : stOK (o :: t) 17 = stOK t 16 := skS
theorem gl_1 {o : Option xV} {t : List (Option xV)} : gl (o :: t) 1 = gl t 0 := rfl
theorem gl_2 {o : Option xV} {t : List (Option xV)} : gl (o :: t) 2 = gl t 1 := rfl
theorem gl_3 {o : Option xV} {t : List (Option xV)} : gl (o :: t) 3 = gl t 2 := rfl
theorem gl_4 {o : Option xV} {t : List (Option xV)} : gl (o :: t) 4 = gl t 3 := rfl
theorem gl_5 {o : Option xV} {t : List (Option xV)} : gl (o :: t) 5 = gl t 4 := rfl
theorem gl_6 {o : Option xV} {t : List (Option xV)} : gl (o :: t) 6 = gl t 5 := rfl
theorem gl_7 {o : Option xV} {t : List (Option xV)} : gl (o :: t) 7 = gl t 6 := rfl
theorem gl_8 {o : Option xV} {t : List (Option xV)} : gl (o :: t) 8 = gl t 7 := rfl
theorem gl_9 {o : Option xV} {t : List (Option xV)} : gl (o :: t) 9 = gl t 8 := rfl
theorem gl_10 {o : Option xV} {t : List (Option xV)} : gl (o :: t) 10 = gl t 9 := rfl
theorem gl_11 {o : Option xV} {t : List (Option xV)} : gl (o :: t) 11 = gl t 10 := rfl
theorem gl_12 {o : Option xV} {t : List (Option xV)} : gl (o :: t) 12 = gl t 11 := rfl
theorem gl_13 {o : Option xV} {t : List (Option xV)} : gl (o :: t) 13 = gl t 12 := rfl
theorem gl_14 {o : Option xV} {t : List (Option xV)} : gl (o :: t) 14 = gl t 13 := rfl
theorem gl_15 {o : Option xV} {t : List (Option xV)} : gl (o :: t) 15 = gl t 14 := rfl
theorem gl_16 {o : Option xV} {t : List (Option xV)} : gl (o :: t) 16 = gl t 15 := rfl
theorem gl_17 {o : Option xV} {t : List (Option xV)} : gl (o :: t) 17 = gl t 16 := rfl
theorem ls_1 {o v : Option xV} {t : List (Option xV)} : (o :: t).set 1 v = o :: t.set 0 v := rfl
theorem ls_2 {o v : Option xV} {t : List (Option xV)} : (o :: t).set 2 v = o :: t.set 1 v := rfl
theorem ls_3 {o v : Option xV} {t : List (Option xV)} : (o :: t).set 3 v = o :: t.set 2 v := rfl
theorem ls_4 {o v : Option xV} {t : List (Option xV)} : (o :: t).set 4 v = o :: t.set 3 v := rfl
theorem ls_5 {o v : Option xV} {t : List (Option xV)} : (o :: t).set 5 v = o :: t.set 4 v := rfl
theorem ls_6 {o v : Option xV} {t : List (Option xV)} : (o :: t).set 6 v = o :: t.set 5 v := rfl
theorem ls_7 {o v : Option xV} {t : List (Option xV)} : (o :: t).set 7 v = o :: t.set 6 v := rfl
theorem ls_8 {o v : Option xV} {t : List (Option xV)} : (o :: t).set 8 v = o :: t.set 7 v := rfl
theorem ls_9 {o v : Option xV} {t : List (Option xV)} : (o :: t).set 9 v = o :: t.set 8 v := rfl
theorem ls_10 {o v : Option xV} {t : List (Option xV)} : (o :: t).set 10 v = o :: t.set 9 v := rfl
theorem ls_11 {o v : Option xV} {t : List (Option xV)} : (o :: t).set 11 v = o :: t.set 10 v := rfl
theorem ls_12 {o v : Option xV} {t : List (Option xV)} : (o :: t).set 12 v = o :: t.set 11 v := rfl
theorem ls_13 {o v : Option xV} {t : List (Option xV)} : (o :: t).set 13 v = o :: t.set 12 v := rfl
theorem ls_14 {o v : Option xV} {t : List (Option xV)} : (o :: t).set 14 v = o :: t.set 13 v := rfl
theorem ls_15 {o v : Option xV} {t : List (Option xV)} : (o :: t).set 15 v = o :: t.set 14 v := rfl
theorem ls_16 {o v : Option xV} {t : List (Option xV)} : (o :: t).set 16 v = o :: t.set 15 v := rfl
theorem ls_17 {o v : Option xV} {t : List (Option xV)} : (o :: t).set 17 v = o :: t.set 16 v := rfl
theorem ls_0 {o v : Option xV} {t : List (Option xV)} : (o :: t).set 0 v = v :: t := rfl
theorem wd8_0 {n : Nat} : (wd [] ≤ n) ↔ True := ⟨fun _ => trivial, fun _ => Nat.zero_le n⟩
theorem wd8_i1 {z : Int} {t : List xV} : (wd (vi z :: t) ≤ 1) ↔ wd t ≤ 0 := by rw [wd_i]; omega
theorem wd8_r1 {z : Nat} {t : List xV} : (wd (vr z :: t) ≤ 1) ↔ wd t ≤ 0 := by rw [wd_r]; omega
theorem wd8_i2 {z : Int} {t : List xV} : (wd (vi z :: t) ≤ 2) ↔ wd t ≤ 1 := by rw [wd_i]; omega
theorem wd8_r2 {z : Nat} {t : List xV} : (wd (vr z :: t) ≤ 2) ↔ wd t ≤ 1 := by rw [wd_r]; omega
theorem wd8_l2 {z : Int} {t : List xV} : (wd (vl z :: t) ≤ 2) ↔ wd t ≤ 0 := by rw [wd_l]; omega
theorem wd8_i3 {z : Int} {t : List xV} : (wd (vi z :: t) ≤ 3) ↔ wd t ≤ 2 := by rw [wd_i]; omega
theorem wd8_r3 {z : Nat} {t : List xV} : (wd (vr z :: t) ≤ 3) ↔ wd t ≤ 2 := by rw [wd_r]; omega
theorem wd8_l3 {z : Int} {t : List xV} : (wd (vl z :: t) ≤ 3) ↔ wd t ≤ 1 := by rw [wd_l]; omega
theorem wd8_i4 {z : Int} {t : List xV} : (wd (vi z :: t) ≤ 4) ↔ wd t ≤ 3 := by rw [wd_i]; omega
theorem wd8_r4 {z : Nat} {t : List xV} : (wd (vr z :: t) ≤ 4) ↔ wd t ≤ 3 := by rw [wd_r]; omega
theorem wd8_l4 {z : Int} {t : List xV} : (wd (vl z :: t) ≤ 4) ↔ wd t ≤ 2 := by rw [wd_l]; omega
theorem wd8_i5 {z : Int} {t : List xV} : (wd (vi z :: t) ≤ 5) ↔ wd t ≤ 4 := by rw [wd_i]; omega
theorem wd8_r5 {z : Nat} {t : List xV} : (wd (vr z :: t) ≤ 5) ↔ wd t ≤ 4 := by rw [wd_r]; omega
theorem wd8_l5 {z : Int} {t : List xV} : (wd (vl z :: t) ≤ 5) ↔ wd t ≤ 3 := by rw [wd_l]; omega
theorem wd8_i6 {z : Int} {t : List xV} : (wd (vi z :: t) ≤ 6) ↔ wd t ≤ 5 := by rw [wd_i]; omega
theorem wd8_r6 {z : Nat} {t : List xV} : (wd (vr z :: t) ≤ 6) ↔ wd t ≤ 5 := by rw [wd_r]; omega
theorem wd8_l6 {z : Int} {t : List xV} : (wd (vl z :: t) ≤ 6) ↔ wd t ≤ 4 := by rw [wd_l]; omega
theorem wd8_i7 {z : Int} {t : List xV} : (wd (vi z :: t) ≤ 7) ↔ wd t ≤ 6 := by rw [wd_i]; omega
theorem wd8_r7 {z : Nat} {t : List xV} : (wd (vr z :: t) ≤ 7) ↔ wd t ≤ 6 := by rw [wd_r]; omega
theorem wd8_l7 {z : Int} {t : List xV} : (wd (vl z :: t) ≤ 7) ↔ wd t ≤ 5 := by rw [wd_l]; omega
theorem wd8_i8 {z : Int} {t : List xV} : (wd (vi z :: t) ≤ 8) ↔ wd t ≤ 7 := by rw [wd_i]; omega
theorem wd8_r8 {z : Nat} {t : List xV} : (wd (vr z :: t) ≤ 8) ↔ wd t ≤ 7 := by rw [wd_r]; omega
theorem wd8_l8 {z : Int} {t : List xV} : (wd (vl z :: t) ≤ 8) ↔ wd t ≤ 6 := by rw [wd_l]; omega
theorem b_tf : (true = false) ↔ False := ⟨fun h => (by cases h), fun h => h.elim⟩
theorem b_ft : (false = true) ↔ False := ⟨fun h => (by cases h), fun h => h.elim⟩
