section RUL
variable {X : xL} {k ip : Nat} {ls : List (Option xV)} {st : List xV} {h : xH} {Q : Option xV → xH → Prop}
theorem gl_n {t : List (Option xV)} : gl (none :: t) 0 = none := rfl
theorem sk0i {z : Int} {t : List (Option xV)} : stOK (some (vi z) :: t) 0 = true := by simp [stOK, gl]
theorem sk0r {z : Nat} {t : List (Option xV)} : stOK (some (vr z) :: t) 0 = true := by simp [stOK, gl]
theorem sk0n {t : List (Option xV)} : stOK (none :: t) 0 = true := by simp [stOK, gl]
theorem sk1i {z : Int} {o : Option xV} {t : List (Option xV)} : stOK (some (vi z) :: o :: t) 1 = true := by simp [stOK, gl]
theorem sk1r {z : Nat} {o : Option xV} {t : List (Option xV)} : stOK (some (vr z) :: o :: t) 1 = true := by simp [stOK, gl]
theorem sk1n {o : Option xV} {t : List (Option xV)} : stOK (none :: o :: t) 1 = true := by simp [stOK, gl]
theorem skS {o : Option xV} {t : List (Option xV)} {n : Nat} : stOK (o :: t) (n + 2) = stOK t (n + 1) := by
  unfold stOK
  have e1 : decide (n + 2 < (o :: t).length) = decide (n + 1 < t.length) := by
    simp only [List.length_cons]
    congr 1
    exact propext ⟨fun a => by omega, fun a => by omega⟩
  rw [e1]
  rfl
theorem ct1_i {z : Int} : ct1 (vi z) = true := rfl
theorem ct1_r {z : Nat} : ct1 (vr z) = true := rfl
theorem wd_0 : wd [] = 0 := rfl
theorem wd_i {z : Int} {t : List xV} : wd (vi z :: t) = 1 + wd t := rfl
theorem wd_r {z : Nat} {t : List xV} : wd (vr z :: t) = 1 + wd t := rfl
theorem wd_l {z : Int} {t : List xV} : wd (vl z :: t) = 2 + wd t := rfl
theorem tl_s {v : xV} {t : List xV} : (some v).toList ++ t = v :: t := rfl
theorem tl_n {t : List xV} : (none : Option xV).toList ++ t = t := rfl
theorem up2_eq {f : Nat → Nat → Int} {a k : Nat} {v : Int} {b j : Nat} : up2 f a k v b j = if b = a ∧ j = k then v else f b j := rfl
theorem up2_self {f : Nat → Nat → Int} {a k : Nat} {v : Int} : up2 f a k v a k = v := by rw [up2_eq, if_pos ⟨rfl, rfl⟩]
theorem up2_oth {f : Nat → Nat → Int} {a k : Nat} {v : Int} {b j : Nat} (h : b ≠ a) : up2 f a k v b j = f b j := by rw [up2_eq, if_neg (fun z => h z.1)]
theorem up2_same {f : Nat → Nat → Int} {a k : Nat} {v : Int} {j : Nat} : up2 f a k v a j = if j = k then v else f a j := by
  rw [up2_eq]
  by_cases e : j = k
  · rw [if_pos ⟨rfl, e⟩, if_pos e]
  · rw [if_neg (fun z => e z.2), if_neg e]
theorem up1_self {f : Nat → Nat → Int} {a : Nat} {g : Nat → Int} : up1 f a g a = g := by unfold up1; rw [if_pos rfl]
theorem Cl.mono {as : List xV} {Q2 : Option xV → xH → Prop} (a : Cl X k as h Q) (b : ∀ r h2, Q r h2 → Q2 r h2) : Cl X k as h Q2 := Ev.mono a b
end RUL
