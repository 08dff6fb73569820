/-! THE INTERPRETER AND THE MACHINE: what is held to be the same -/
abbrev xG : Type := (Nat → Nat) × (Nat → ClassId) × (Nat → ClassId) × (Nat → Nat → Nat) × List Nat
def mv (G : xG) (v : xV) : Value := match v with
  | .inl z => .int (Int32.ofInt z)
  | .inr (.inl a) => .ref (G.1 a)
  | .inr (.inr w) => .long (Int64.ofInt w)
def okv (v : xV) : Prop := match v with
  | .inl z => inR z
  | .inr (.inl _) => True
  | .inr (.inr w) => inL w
theorem mv_cat {G : xG} {v : xV} (h : ct1 v = true) : (mv G v).category = 1 := by
  rcases v with z | a | w
  · rfl
  · rfl
  · cases h
theorem mv_cat2 {G : xG} {v : xV} (h : ¬ ct1 v = true) : (mv G v).category = 2 := by
  rcases v with z | a | w
  · exact absurd rfl h
  · exact absurd rfl h
  · rfl
theorem mv_wd {G : xG} : ∀ (st : List xV), ((st.map (mv G)).map fun v => v.category).sum = wd st
  | [] => rfl
  | v :: t => by
    show (mv G v).category + ((t.map (mv G)).map fun v => v.category).sum = (if ct1 v = true then 1 else 2) + wd t
    rw [mv_wd t]
    by_cases h : ct1 v = true
    · rw [if_pos h, mv_cat h]
    · rw [if_neg h, mv_cat2 h]
def lvx (G : xG) (ls : List (Option xV)) : List (Nat × Value) := (List.range ls.length).filterMap (fun i => (gl ls i).map (fun v => (i, mv G v)))
theorem gl_lt {ls : List (Option xV)} {i : Nat} {v : xV} (h : gl ls i = some v) : i < ls.length := by
  unfold gl at h
  split at h
  · rename_i w hw
    exact (List.getElem?_eq_some_iff.mp hw).1
  · cases h
theorem lvx_mem {G : xG} {ls : List (Option xV)} {i : Nat} {v : xV} (h : gl ls i = some v) : (i, mv G v) ∈ lvx G ls :=
  List.mem_filterMap.mpr ⟨i, List.mem_range.mpr (gl_lt h), by rw [h]; rfl⟩
theorem lvx_of {G : xG} {ls : List (Option xV)} {q : Nat × Value} (h : q ∈ lvx G ls) : ∃ v, gl ls q.1 = some v ∧ q.2 = mv G v := by
  obtain ⟨i, -, hi⟩ := List.mem_filterMap.mp h
  cases hg : gl ls i with
  | none => rw [hg] at hi; cases hi
  | some v =>
    rw [hg] at hi
    cases hi
    exact ⟨v, hg, rfl⟩
def xLR (G : xG) (arr : Array Slot) (ls : List (Option xV)) (nL : Nat) : Prop := ls.length = nL ∧ lv_has arr nL (lvx G ls) ∧ ∀ i v, gl ls i = some v → okv v
theorem xLR.val {G : xG} {arr : Array Slot} {ls : List (Option xV)} {nL i : Nat} {v : xV} (h : xLR G arr ls nL) (hg : gl ls i = some v) : arr[i]? = some (.val (mv G v)) := h.2.1.2.2 (i, mv G v) (lvx_mem hg)
theorem gl_set {ls : List (Option xV)} {a j : Nat} {w : xV} (ha : a < ls.length) : gl (ls.set a (some w)) j = if j = a then some w else gl ls j := by
  unfold gl
  by_cases h : j = a
  · subst h
    simp [ha]
  · rw [if_neg h, List.getElem?_set_ne (Ne.symm h)]
theorem stOK_lt {ls : List (Option xV)} {a : Nat} (h : stOK ls a = true) : a < ls.length := by
  unfold stOK at h
  rw [Bool.and_eq_true] at h
  exact of_decide_eq_true h.1
theorem stOK_ct {ls : List (Option xV)} {a : Nat} {v : xV} (h : stOK ls a = true) (hg : gl ls (a - 1) = some v) : ct1 v = true := by
  unfold stOK at h
  rw [Bool.and_eq_true, hg] at h
  rcases v with z | a | w
  · rfl
  · rfl
  · exact absurd (show false = true from h.2) (by decide)
/-- a value into a place -/
theorem xLR.put {G : xG} {arr arr2 : Array Slot} {ls : List (Option xV)} {nL a : Nat} {w : xV} (h : xLR G arr ls nL) (hs : stOK ls a = true) (hw : okv w) (h2 : lv_has arr2 nL ((a, mv G w) :: (lvx G ls).filter (fun q => !(q.1 == a) && !(q.1 + 1 == a && q.2.category == 2)))) : xLR G arr2 (ls.set a (some w)) nL := by
  have ha := stOK_lt hs
  refine ⟨by rw [List.length_set]; exact h.1, ⟨h2.1, h2.2.1, fun q hq => ?_⟩, fun i v hv => ?_⟩
  · obtain ⟨v, hv, e⟩ := lvx_of hq
    rw [gl_set ha] at hv
    by_cases hj : q.1 = a
    · rw [if_pos hj] at hv
      cases hv
      rw [e, hj]
      exact h2.2.2 _ List.mem_cons_self
    · rw [if_neg hj] at hv
      rw [e]
      refine h2.2.2 (q.1, mv G v) (List.mem_cons_of_mem _ (List.mem_filter.mpr ⟨lvx_mem hv, ?_⟩))
      by_cases hq1 : q.1 + 1 = a
      · have hc := stOK_ct (v := v) hs (by rw [show a - 1 = q.1 by omega]; exact hv)
        simp [hj, mv_cat hc]
      · simp [hj, hq1]
  · rw [gl_set ha] at hv
    by_cases hj : i = a
    · rw [if_pos hj] at hv; cases hv; exact hw
    · rw [if_neg hj] at hv; exact h.2.2 i v hv
abbrev xcl : List vw_C := (List.range 13).map (fun ci => (xcnL.getD ci "", xfl ci, (xFl.getD ci []).length))
theorem xcl_at {ci : Nat} (h : ci < 13) : xcl[ci]? = some (xcnL.getD ci "", xfl ci, (xFl.getD ci []).length) := by
  simp [xcl, h]
def fv (G : xG) (X : xL) (h : xH) (a k : Nat) : Value := if fkd (X.1 a) k = 0 then .int (Int32.ofInt (h.2 a k)) else if fkd (X.1 a) k = 1 then .ref (G.1 (X.2.2.1 a k)) else .long (Int64.ofInt (h.2 a k))
def enn (G : xG) (X : xL) (h : xH) (a : Nat) : va_E := if X.1 a < 13 then .inr (X.1 a, (List.range (xFl.getD (X.1 a) []).length).map (fv G X h a)) else if X.1 a = 13 ∨ X.1 a = 14 then .inl (G.2.1 (X.1 a), X.2.1 a, .inl (fun j => Int32.ofInt (h.1 a j))) else .inl (G.2.1 (X.1 a), X.2.1 a, .inr (.inr (.inr (.inr (fun j => some (G.1 (X.2.2.1 a j)))))))
def wsh (G : xG) (X : xL) (h : xH) : va_W := G.2.2.2.2.map (fun a => (G.1 a, enn G X h a))
abbrev xty4 (G : xG) : List (ClassId × FieldType) := [(G.2.1 13, .int), (G.2.1 14, .boolean), (G.2.1 15, .object "CellRows$Plan"), (G.2.1 16, .array .int)]
abbrev xD (G : xG) : va_G := (G.2.2.1, G.2.2.2.1)
def xA (G : xG) : Nat → Prop := fun q => ∃ a, a ∈ G.2.2.2.2 ∧ q = G.1 a
def xOK (G : xG) (X : xL) : Prop := (∀ a, X.1 a < 20 → a ∈ G.2.2.2.2) ∧ ∀ a, (X.2.1 a : Int) ≤ 2147483647
def xRg (X : xL) (h : xH) : Prop := (∀ a j, inR (h.1 a j)) ∧ (∀ a k, if fkd (X.1 a) k = 2 then inL (h.2 a k) else inR (h.2 a k)) ∧ ∀ a j, X.1 a = 14 → h.1 a j = 0 ∨ h.1 a j = 1
/-- what stood before and stays: rows that are only read, the places of static rows -/
def xOld (G : xG) (X : xL) (U : State) (H : Heap) (h : xH) : Prop := (∀ a, X.1 a = 20 → va_X (G.1 a) (X.2.1 a) (fun j => Int32.ofInt (h.1 a j)) U H ∧ ¬ xA G (G.1 a)) ∧ ∀ j, j < 5 → va_Z (sts.getD j ("", "")).1 (sts.getD j ("", "")).2 "[I" (.ref (G.1 (X.2.2.2 j))) (xA G) U H
def xWd (G : xG) (X : xL) (U : State) (H : Heap) (h : xH) : Prop := va_P (xD G) xcl (wsh G X h) H ∧ va_K (xD G) xcl (xty4 G) U ∧ va_D (xA G) (wsh G X h) ∧ xRg X h
theorem wsh_at {G : xG} {X : xL} {h : xH} {a : Nat} (ha : a ∈ G.2.2.2.2) : ∃ q : Nat, (wsh G X h)[q]? = some (G.1 a, enn G X h a) ∧ G.2.2.2.2[q]? = some a := by
  obtain ⟨q, hq⟩ := List.getElem?_of_mem ha
  exact ⟨q, by unfold wsh; rw [List.getElem?_map, hq]; rfl, hq⟩
/-- one cell written: the rows of the world as they are then -/
theorem wsh_set {G : xG} {X : xL} {h h2 : xH} {a q : Nat} {A : Nat → Prop} (hD : va_D A (wsh G X h)) (hq : G.2.2.2.2[q]? = some a) (hne : ∀ b, b ≠ a → enn G X h2 b = enn G X h b) : (wsh G X h).set q (G.1 a, enn G X h2 a) = wsh G X h2 := by
  have hqa : (wsh G X h)[q]? = some (G.1 a, enn G X h a) := by unfold wsh; rw [List.getElem?_map, hq]; rfl
  apply List.ext_getElem?
  intro i
  by_cases hi : i = q
  · subst hi
    rw [List.getElem?_set_self (List.getElem?_eq_some_iff.mp hqa).1]
    unfold wsh
    rw [List.getElem?_map, hq]
    rfl
  · rw [List.getElem?_set_ne (Ne.symm hi)]
    unfold wsh
    rw [List.getElem?_map, List.getElem?_map]
    cases hb : G.2.2.2.2[i]? with
    | none => rfl
    | some b =>
      have hba : b ≠ a := by
        intro e
        subst e
        have hib : (wsh G X h)[i]? = some (G.1 b, enn G X h b) := by unfold wsh; rw [List.getElem?_map, hb]; rfl
        exact hi (hD.1 i q _ _ hib hqa rfl)
      show some (G.1 b, enn G X h b) = some (G.1 b, enn G X h2 b)
      rw [hne b hba]
theorem i32_in {z : Int} (h : inR z) : (Int32.ofInt z).toInt = z := Int32.toInt_ofInt_of_le (by omega) (by omega)
theorem i64_in {z : Int} (h : inL z) : (Int64.ofInt z).toInt = z := Int64.toInt_ofInt_of_le (by omega) (by omega)
theorem i32_nat {z : Int} (h : inR z) : (Int32.ofInt z).toNatClampNeg = z.toNat := Int32.toNatClampNeg_ofInt_of_le (by omega) (by omega)
theorem i32_vin {z : Int} {n : Nat} (h : inR z) (h0 : 0 ≤ z) (h1 : z < n) : vp_in (Int32.ofInt z) n := by
  rw [vp_in_iff, i32_in h]
  exact ⟨h0, h1⟩
theorem i32_eq {x y : Int} (hx : inR x) (hy : inR y) : Int32.ofInt x = Int32.ofInt y ↔ x = y := by
  rw [← Int32.toInt_inj, i32_in hx, i32_in hy]
theorem i32_lt {x y : Int} (hx : inR x) (hy : inR y) : Int32.ofInt x < Int32.ofInt y ↔ x < y := by
  rw [Int32.lt_iff_toInt_lt, i32_in hx, i32_in hy]
theorem i32_le {x y : Int} (hx : inR x) (hy : inR y) : Int32.ofInt x ≤ Int32.ofInt y ↔ x ≤ y := by
  rw [Int32.le_iff_toInt_le, i32_in hx, i32_in hy]
theorem i32_any (x : Int32) : inR x.toInt := by
  have h1 := x.le_toInt
  have h2 := x.toInt_lt
  constructor <;> omega
