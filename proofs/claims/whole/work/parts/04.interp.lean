/-! THE INTERPRETER: what the methods that make nothing do, over plain numbers; sums that leave the range of an int are refused -/
abbrev xV : Type := Int ⊕ (Nat ⊕ Int)
abbrev vi (z : Int) : xV := Sum.inl z
abbrev vr (a : Nat) : xV := Sum.inr (Sum.inl a)
abbrev vl (w : Int) : xV := Sum.inr (Sum.inr w)
/-- numbers in rows, numbers in fields -/
abbrev xH : Type := (Nat → Nat → Int) × (Nat → Nat → Int)
/-- kind and length of each cell, what a reference in a cell leads to, where the static rows are -/
abbrev xL : Type := (Nat → Nat) × (Nat → Nat) × (Nat → Nat → Nat) × (Nat → Nat)
abbrev inR (z : Int) : Prop := -2147483648 ≤ z ∧ z ≤ 2147483647
abbrev inL (z : Int) : Prop := -9223372036854775808 ≤ z ∧ z ≤ 9223372036854775807
def up2 (f : Nat → Nat → Int) (a k : Nat) (v : Int) : Nat → Nat → Int := fun b j => if b = a ∧ j = k then v else f b j
def up1 (f : Nat → Nat → Int) (a : Nat) (g : Nat → Int) : Nat → Nat → Int := fun b => if b = a then g else f b
def ins (k ip : Nat) : xI := ((xcd.getD (k / 32) []).getD (k % 32) []).getD ip (99, 0, 0, 0, [])
def pcs (k ip : Nat) : Nat := ((xpd.getD (k / 32) []).getD (k % 32) []).getD ip 0
def xm0 : xMt := (⟨"", "", ""⟩, ByteArray.empty, 0, none, 0, 98, 0, 0, [])
def mth (k : Nat) : xMt := (xmt.getD (k / 32) []).getD (k % 32) xm0
def ym (k : Nat) : MethodName := (mth k).1
def byt (k : Nat) : ByteArray := (mth k).2.1
def mxl (k : Nat) : Nat := (mth k).2.2.1
def rtt (k : Nat) : Option FieldType := (mth k).2.2.2.1
def npm (k : Nat) : Nat := (mth k).2.2.2.2.1
def cnm (k : Nat) : Nat := (mth k).2.2.2.2.2.1
def rmF (k : Nat) : Nat := (mth k).2.2.2.2.2.2.1
def rmL (k : Nat) : Nat := (mth k).2.2.2.2.2.2.2.1
def plc (k : Nat) : List Nat := (mth k).2.2.2.2.2.2.2.2
def fkd (ci k : Nat) : Nat := (xkd.getD ci []).getD k 9
def xfn (ci k : Nat) : Bool := ((xFl.getD ci []).getD k ("", "", "", true)).2.2.2
def gl (ls : List (Option xV)) (i : Nat) : Option xV := match ls[i]? with
  | some (some v) => some v
  | _ => none
def stOK (ls : List (Option xV)) (a : Nat) : Bool := decide (a < ls.length) && (match gl ls (a - 1) with
  | some (.inr (.inr _)) => false
  | _ => true)
abbrev xS : Type := Nat × List (Option xV) × List xV × xH
def stA (i : xI) (ip : Nat) (ls : List (Option xV)) (st : List xV) (h : xH) : Option xS :=
  if i.1 = 0 ∨ i.1 = 1 then (match gl ls i.2.1 with
    | some (.inl z) => some (ip + 1, ls, vi z :: st, h)
    | _ => none)
  else if i.1 = 2 ∨ i.1 = 3 then (match gl ls i.2.1 with
    | some (.inr (.inl a)) => some (ip + 1, ls, vr a :: st, h)
    | _ => none)
  else if i.1 = 4 ∨ i.1 = 5 then (match gl ls i.2.1 with
    | some (.inr (.inr w)) => some (ip + 1, ls, vl w :: st, h)
    | _ => none)
  else if i.1 = 6 ∨ i.1 = 7 then (match st with
    | .inl z :: st => if stOK ls i.2.1 = true then some (ip + 1, ls.set i.2.1 (some (vi z)), st, h) else none
    | _ => none)
  else if i.1 = 8 ∨ i.1 = 9 then (match st with
    | .inr (.inl a) :: st => if stOK ls i.2.1 = true then some (ip + 1, ls.set i.2.1 (some (vr a)), st, h) else none
    | _ => none)
  else none
def stB (i : xI) (ip : Nat) (ls : List (Option xV)) (st : List xV) (h : xH) : Option xS :=
  if i.1 = 11 ∨ i.1 = 14 ∨ i.1 = 15 then (if inR i.2.2.2.1 then some (ip + 1, ls, vi i.2.2.2.1 :: st, h) else none)
  else if i.1 = 12 then (if -128 ≤ i.2.2.2.1 ∧ i.2.2.2.1 ≤ 127 then some (ip + 1, ls, vi i.2.2.2.1 :: st, h) else none)
  else if i.1 = 13 then (if -32768 ≤ i.2.2.2.1 ∧ i.2.2.2.1 ≤ 32767 then some (ip + 1, ls, vi i.2.2.2.1 :: st, h) else none)
  else if i.1 = 16 ∨ i.1 = 17 then (if inL i.2.2.2.1 then some (ip + 1, ls, vl i.2.2.2.1 :: st, h) else none)
  else none
def stC (i : xI) (ip : Nat) (ls : List (Option xV)) (st : List xV) (h : xH) : Option xS :=
  if i.1 = 23 then (match st with
    | .inl x :: st => if inR (-x) then some (ip + 1, ls, vi (-x) :: st, h) else none
    | _ => none)
  else (match st with
    | .inl y :: .inl x :: st =>
      if i.1 = 18 then (if i.2.1 = 1 then some (ip + 1, ls, vi (Int32.ofInt (x + y)).toInt :: st, h) else if inR (x + y) then some (ip + 1, ls, vi (x + y) :: st, h) else none)
      else if i.1 = 19 then (if inR (x - y) then some (ip + 1, ls, vi (x - y) :: st, h) else none)
      else if i.1 = 20 then (if inR (x * y) then some (ip + 1, ls, vi (x * y) :: st, h) else none)
      else if i.1 = 21 then (if y ≠ 0 ∧ inR (x.tdiv y) then some (ip + 1, ls, vi (x.tdiv y) :: st, h) else none)
      else if i.1 = 22 then (if y ≠ 0 ∧ inR (x.tdiv y) then some (ip + 1, ls, vi (x.tmod y) :: st, h) else none)
      else if i.1 = 24 then some (ip + 1, ls, vi (Int32.ofInt x &&& Int32.ofInt y).toInt :: st, h)
      else if i.1 = 25 then some (ip + 1, ls, vi (Int32.ofInt x >>> (Int32.ofInt y &&& 31)).toInt :: st, h)
      else if i.1 = 26 then some (ip + 1, ls, vi ((Int32.ofInt x).toUInt32 >>> ((Int32.ofInt y).toUInt32 &&& Int32.toUInt32 31)).toInt32.toInt :: st, h)
      else if i.1 = 27 then some (ip + 1, ls, vi (Int32.ofInt x ^^^ Int32.ofInt y).toInt :: st, h)
      else none
    | _ => none)
def stD (i : xI) (ip : Nat) (ls : List (Option xV)) (st : List xV) (h : xH) : Option xS :=
  if i.1 = 28 then (match st with
    | .inl x :: st => some (ip + 1, ls, vl x :: st, h)
    | _ => none)
  else if i.1 = 29 then (match st with
    | .inr (.inr x) :: st => if inR x then some (ip + 1, ls, vi x :: st, h) else none
    | _ => none)
  else (match st with
    | .inr (.inr y) :: .inr (.inr x) :: st =>
      if i.1 = 30 then (if inL (x + y) then some (ip + 1, ls, vl (x + y) :: st, h) else none)
      else if i.1 = 31 then (if inL (x - y) then some (ip + 1, ls, vl (x - y) :: st, h) else none)
      else if i.1 = 32 then (if inL (x * y) then some (ip + 1, ls, vl (x * y) :: st, h) else none)
      else if i.1 = 33 then (if y ≠ 0 ∧ inL (x.tdiv y) then some (ip + 1, ls, vl (x.tmod y) :: st, h) else none)
      else if i.1 = 34 then some (ip + 1, ls, vi (if y < x then 1 else if x = y then 0 else -1) :: st, h)
      else none
    | _ => none)
def cmB (a : Nat) (x y : Int) : Bool :=
  if a = 0 then decide (x = y) else if a = 1 then decide (¬ x = y) else if a = 2 then decide (x < y) else if a = 3 then decide (y ≤ x) else if a = 4 then decide (y < x) else decide (x ≤ y)
def ct1 (v : xV) : Bool := match v with
  | .inr (.inr _) => false
  | _ => true
def swt (z : Int) (js : List Nat) (x : Int) : Nat := if z ≤ x ∧ x < z + ((js.length : Int) - 1) then js.getD ((x - z).toNat + 1) 0 else js.getD 0 0
def stE (i : xI) (ip : Nat) (ls : List (Option xV)) (st : List xV) (h : xH) : Option xS :=
  if i.1 = 35 then (match st with
    | v :: st => if ct1 v = true then some (ip + 1, ls, v :: v :: st, h) else none
    | _ => none)
  else if i.1 = 36 then (match st with
    | v :: w :: st => if ct1 v = true ∧ ct1 w = true then some (ip + 1, ls, v :: w :: v :: w :: st, h) else none
    | _ => none)
  else if i.1 = 37 then (match st with
    | v :: st => if ct1 v = true then some (ip + 1, ls, st, h) else none
    | _ => none)
  else if i.1 = 38 then (match gl ls i.2.1 with
    | some (.inl x) => if stOK ls i.2.1 = true ∧ inR (x + i.2.2.2.1) then some (ip + 1, ls.set i.2.1 (some (vi (x + i.2.2.2.1))), st, h) else none
    | _ => none)
  else if i.1 = 39 then some (i.2.2.1, ls, st, h)
  else if i.1 = 40 then (match st with
    | .inl x :: st => some (if cmB i.2.1 x 0 = true then i.2.2.1 else ip + 1, ls, st, h)
    | _ => none)
  else if i.1 = 41 then (match st with
    | .inl y :: .inl x :: st => some (if cmB i.2.1 x y = true then i.2.2.1 else ip + 1, ls, st, h)
    | _ => none)
  else if i.1 = 42 then (match st with
    | .inl x :: st => some (swt i.2.2.2.1 i.2.2.2.2 x, ls, st, h)
    | _ => none)
  else none
def stF (X : xL) (i : xI) (ip : Nat) (ls : List (Option xV)) (st : List xV) (h : xH) : Option xS :=
  if i.1 = 50 ∨ i.1 = 51 ∨ i.1 = 52 then (match st with
    | .inr (.inl x) :: st => if X.1 x = i.2.1 then some (ip + 1, ls, (if i.1 = 50 then vi (h.2 x i.2.2.1) else if i.1 = 51 then vr (X.2.2.1 x i.2.2.1) else vl (h.2 x i.2.2.1)) :: st, h) else none
    | _ => none)
  else if i.1 = 53 then (match st with
    | .inl z :: .inr (.inl x) :: st => if X.1 x = i.2.1 then some (ip + 1, ls, st, (h.1, up2 h.2 x i.2.2.1 z)) else none
    | _ => none)
  else if i.1 = 54 then (match st with
    | .inr (.inr z) :: .inr (.inl x) :: st => if X.1 x = i.2.1 then some (ip + 1, ls, st, (h.1, up2 h.2 x i.2.2.1 z)) else none
    | _ => none)
  else if i.1 = 55 then (match st with
    | .inl j :: .inr (.inl x) :: st => if (X.1 x = 13 ∨ X.1 x = 20) ∧ 0 ≤ j ∧ j < X.2.1 x then some (ip + 1, ls, vi (h.1 x j.toNat) :: st, h) else none
    | _ => none)
  else if i.1 = 57 then (match st with
    | .inl j :: .inr (.inl x) :: st => if X.1 x = 14 ∧ 0 ≤ j ∧ j < X.2.1 x then some (ip + 1, ls, vi (h.1 x j.toNat) :: st, h) else none
    | _ => none)
  else if i.1 = 56 then (match st with
    | .inl v :: .inl j :: .inr (.inl x) :: st => if X.1 x = 13 ∧ 0 ≤ j ∧ j < X.2.1 x then some (ip + 1, ls, st, (up2 h.1 x j.toNat v, h.2)) else none
    | _ => none)
  else if i.1 = 58 then (match st with
    | .inl v :: .inl j :: .inr (.inl x) :: st => if X.1 x = 14 ∧ (v = 0 ∨ v = 1) ∧ 0 ≤ j ∧ j < X.2.1 x then some (ip + 1, ls, st, (up2 h.1 x j.toNat v, h.2)) else none
    | _ => none)
  else if i.1 = 59 then (match st with
    | .inr (.inl x) :: st => if X.1 x = 13 ∨ X.1 x = 20 then some (ip + 1, ls, vi (X.2.1 x) :: st, h) else none
    | _ => none)
  else if i.1 = 60 then (match st with
    | .inl j :: .inr (.inl x) :: st => if X.1 x = 15 ∧ 0 ≤ j ∧ j < X.2.1 x then some (ip + 1, ls, vr (X.2.2.1 x j.toNat) :: st, h) else none
    | _ => none)
  else if i.1 = 66 then (match st with
    | .inl j :: .inr (.inl x) :: st => if X.1 x = 16 ∧ 0 ≤ j ∧ j < X.2.1 x then some (ip + 1, ls, vr (X.2.2.1 x j.toNat) :: st, h) else none
    | _ => none)
  else if i.1 = 61 then some (ip + 1, ls, vr (X.2.2.2 i.2.1) :: st, h)
  else if i.1 = 62 then (match st with
    | [.inl n, .inl dp, .inr (.inl d), .inl sp, .inr (.inl x)] => if ((X.1 x = 13 ∧ X.1 d = 13) ∨ (X.1 x = 14 ∧ X.1 d = 14)) ∧ 0 ≤ sp ∧ 0 ≤ dp ∧ 0 ≤ n ∧ sp + n ≤ X.2.1 x ∧ dp + n ≤ X.2.1 d then some (ip + 1, ls, [], (up1 h.1 d (va_cpy (h.1 x) (h.1 d) sp.toNat dp.toNat n.toNat), h.2)) else none
    | _ => none)
  else none
def stp (X : xL) (i : xI) (ip : Nat) (ls : List (Option xV)) (st : List xV) (h : xH) : Option xS :=
  if i.1 < 10 then stA i ip ls st h else if i.1 < 18 then stB i ip ls st h else if i.1 < 28 then stC i ip ls st h else if i.1 < 35 then stD i ip ls st h else if i.1 < 50 then stE i ip ls st h else stF X i ip ls st h
def fla : List xV → List (Option xV)
  | [] => []
  | v :: t => if ct1 v = true then some v :: fla t else some v :: none :: fla t
def ent (k : Nat) (as : List xV) : List (Option xV) := fla as ++ List.replicate (mxl k - (fla as).length) none
def wd : List xV → Nat
  | [] => 0
  | v :: t => (if ct1 v = true then 1 else 2) + wd t
/-- what a call asks of the stack: arguments enough, little below them, the receiver of the right kind -/
def clOK (X : xL) (op k2 m : Nat) (st : List xV) : Bool :=
  decide (m ≤ st.length) && decide (wd (st.drop m) ≤ 8) && decide ((fla (st.take m).reverse).length ≤ mxl k2) && (if op = 73 then (match (st.take m).reverse with
    | .inr (.inl x) :: _ => decide (X.1 x = cnm k2)
    | _ => false) else true)
abbrev xR : Type := Nat → Nat → List (Option xV) → List xV → xH → Option (Option xV × xH)
def xna (i : xI) : Nat := i.2.2.1 + (if i.1 = 73 then 1 else 0)
def runB (X : xL) (rn : xR) (i : xI) (k ip : Nat) (ls : List (Option xV)) (st : List xV) (h : xH) : Option (Option xV × xH) :=
  if i.1 = 70 then (match st with
    | [.inl z] => some (some (vi z), h)
    | _ => none)
  else if i.1 = 75 then (match st with
    | [.inl z] => if z = 0 ∨ z = 1 then some (some (vi z), h) else none
    | _ => none)
  else if i.1 = 71 then (match st with
    | [] => some (none, h)
    | _ => none)
  else if i.1 = 73 ∨ i.1 = 74 then
    (if clOK X i.1 i.2.1 (xna i) st = true then
      (match rn i.2.1 0 (ent i.2.1 (st.take (xna i)).reverse) [] h with
        | some q => rn k (ip + 1) ls (q.1.toList ++ st.drop (xna i)) q.2
        | none => none)
    else none)
  else (match stp X i ip ls st h with
    | some q => rn k q.1 q.2.1 q.2.2.1 q.2.2.2
    | none => none)
def run (X : xL) : Nat → xR
  | 0 => fun _ _ _ _ _ => none
  | n + 1 => fun k ip ls st h => runB X (run X n) (ins k ip) k ip ls st h
theorem run_0 (X : xL) (k ip : Nat) (ls : List (Option xV)) (st : List xV) (h : xH) : run X 0 k ip ls st h = none := rfl
theorem run_s (X : xL) (n k ip : Nat) (ls : List (Option xV)) (st : List xV) (h : xH) : run X (n + 1) k ip ls st h = runB X (run X n) (ins k ip) k ip ls st h := rfl
theorem runB_c {X : xL} {rn : xR} {i : xI} {k ip : Nat} {ls : List (Option xV)} {st : List xV} {h : xH} (ho : i.1 = 73 ∨ i.1 = 74) : runB X rn i k ip ls st h = (if clOK X i.1 i.2.1 (xna i) st = true then (match rn i.2.1 0 (ent i.2.1 (st.take (xna i)).reverse) [] h with
        | some q => rn k (ip + 1) ls (q.1.toList ++ st.drop (xna i)) q.2
        | none => none) else none) := by
  unfold runB
  rw [if_neg (by omega), if_neg (by omega), if_neg (by omega), if_pos ho]
theorem runB_o {X : xL} {rn : xR} {i : xI} {k ip : Nat} {ls : List (Option xV)} {st : List xV} {h : xH} (hn : ¬ (i.1 = 70 ∨ i.1 = 71 ∨ i.1 = 73 ∨ i.1 = 74 ∨ i.1 = 75)) : runB X rn i k ip ls st h = (match stp X i ip ls st h with
    | some q => rn k q.1 q.2.1 q.2.2.1 q.2.2.2
    | none => none) := by
  unfold runB
  rw [if_neg (by omega), if_neg (by omega), if_neg (by omega), if_neg (by omega)]
theorem runB_r {X : xL} {rn rn2 : xR} {i : xI} {k ip : Nat} {ls : List (Option xV)} {st : List xV} {h : xH} (ho : i.1 = 70 ∨ i.1 = 71 ∨ i.1 = 75) : runB X rn i k ip ls st h = runB X rn2 i k ip ls st h := by
  unfold runB
  rcases ho with e | e | e
  · rw [if_pos e, if_pos e]
  · rw [if_neg (by omega), if_neg (by omega), if_pos e, if_neg (by omega), if_neg (by omega), if_pos e]
  · rw [if_neg (by omega), if_pos e, if_neg (by omega), if_pos e]
theorem run_mono (X : xL) : ∀ (n : Nat) (k ip : Nat) (ls : List (Option xV)) (st : List xV) (h : xH) (v : Option xV × xH), run X n k ip ls st h = some v → ∀ m, run X (n + m) k ip ls st h = some v := by
  intro n
  induction n with
  | zero => intro k ip ls st h v hv; cases hv
  | succ n ih =>
    intro k ip ls st h v hv m
    rw [show n + 1 + m = (n + m) + 1 by omega]
    rw [run_s] at hv ⊢
    by_cases hr : (ins k ip).1 = 70 ∨ (ins k ip).1 = 71 ∨ (ins k ip).1 = 75
    · rw [← hv]; exact runB_r hr
    · by_cases hc : (ins k ip).1 = 73 ∨ (ins k ip).1 = 74
      · rw [runB_c hc] at hv ⊢
        by_cases e5 : clOK X (ins k ip).1 (ins k ip).2.1 (xna (ins k ip)) st = true
        · rw [if_pos e5] at hv ⊢
          generalize hz : run X n (ins k ip).2.1 0 _ [] h = rc at hv
          cases rc with
          | none => cases hv
          | some q =>
            rw [ih _ _ _ _ _ _ hz m]
            exact ih _ _ _ _ _ _ hv m
        · rw [if_neg e5] at hv; cases hv
      · rw [runB_o (by omega)] at hv ⊢
        generalize hz : stp X (ins k ip) ip ls st h = rc at hv
        cases rc with
        | none => cases hv
        | some q => exact ih _ _ _ _ _ _ hv m
def Ev (X : xL) (k ip : Nat) (ls : List (Option xV)) (st : List xV) (h : xH) (Q : Option xV → xH → Prop) : Prop := ∃ n r h2, run X n k ip ls st h = some (r, h2) ∧ Q r h2
theorem Ev.mono {X : xL} {k ip : Nat} {ls : List (Option xV)} {st : List xV} {h : xH} {Q Q2 : Option xV → xH → Prop} (a : Ev X k ip ls st h Q) (b : ∀ r h2, Q r h2 → Q2 r h2) : Ev X k ip ls st h Q2 := by
  obtain ⟨n, r, h2, e, q⟩ := a
  exact ⟨n, r, h2, e, b r h2 q⟩
def isC (op : Nat) : Bool := decide (op = 70 ∨ op = 71 ∨ op = 73 ∨ op = 74 ∨ op = 75)
theorem E_stp {X : xL} {k ip : Nat} {ls : List (Option xV)} {st : List xV} {h : xH} {Q : Option xV → xH → Prop} {i : xI} (hi : ins k ip = i) (hc : isC i.1 = false) : Ev X k ip ls st h Q ↔ ∃ q, stp X i ip ls st h = some q ∧ Ev X k q.1 q.2.1 q.2.2.1 q.2.2.2 Q := by
  subst hi
  have hn : ¬ ((ins k ip).1 = 70 ∨ (ins k ip).1 = 71 ∨ (ins k ip).1 = 73 ∨ (ins k ip).1 = 74 ∨ (ins k ip).1 = 75) := by
    intro z; unfold isC at hc; rw [decide_eq_true z] at hc; cases hc
  constructor
  · rintro ⟨n, r, h2, hr, hq⟩
    cases n with
    | zero => cases hr
    | succ n =>
      rw [run_s, runB_o hn] at hr
      generalize stp X (ins k ip) ip ls st h = z at hr
      cases z with
      | none => cases hr
      | some q => exact ⟨q, rfl, n, r, h2, hr, hq⟩
  · rintro ⟨q, hs, n, r, h2, hr, hq⟩
    exact ⟨n + 1, r, h2, by rw [run_s, runB_o hn, hs]; exact hr, hq⟩
theorem E_call {X : xL} {k ip : Nat} {ls : List (Option xV)} {st : List xV} {h : xH} {Q : Option xV → xH → Prop} {i : xI} (hi : ins k ip = i) (ho : i.1 = 73 ∨ i.1 = 74) : Ev X k ip ls st h Q ↔ (clOK X i.1 i.2.1 (xna i) st = true ∧ Ev X i.2.1 0 (ent i.2.1 (st.take (xna i)).reverse) [] h (fun r h2 => Ev X k (ip + 1) ls (r.toList ++ st.drop (xna i)) h2 Q)) := by
  subst hi
  constructor
  · rintro ⟨n, r, h2, hr, hq⟩
    cases n with
    | zero => cases hr
    | succ n =>
      rw [run_s, runB_c ho] at hr
      by_cases hc : clOK X (ins k ip).1 (ins k ip).2.1 (xna (ins k ip)) st = true
      · rw [if_pos hc] at hr
        generalize hx : run X n (ins k ip).2.1 0 _ [] h = z at hr
        cases z with
        | none => cases hr
        | some q => exact ⟨hc, n, q.1, q.2, hx, n, r, h2, hr, hq⟩
      · rw [if_neg hc] at hr; cases hr
  · rintro ⟨hc, n, r, h2, hr, n2, r2, h3, hr2, hq⟩
    refine ⟨(n + n2) + 1, r2, h3, ?_, hq⟩
    rw [run_s, runB_c ho, if_pos hc, run_mono X _ _ _ _ _ _ _ hr n2]
    show run X (n + n2) k (ip + 1) ls (r.toList ++ st.drop (xna (ins k ip))) h2 = _
    rw [Nat.add_comm]
    exact run_mono X _ _ _ _ _ _ _ hr2 n
theorem E_ret {X : xL} {k ip : Nat} {ls : List (Option xV)} {h : xH} {Q : Option xV → xH → Prop} {z : Int} (hi : (ins k ip).1 = 70) : Ev X k ip ls [vi z] h Q ↔ Q (some (vi z)) h := by
  have e : ∀ n, run X (n + 1) k ip ls [vi z] h = some (some (vi z), h) := by
    intro n
    rw [run_s]
    unfold runB
    rw [if_pos hi]
  constructor
  · rintro ⟨n, r, h2, hr, hq⟩
    cases n with
    | zero => cases hr
    | succ n => rw [e] at hr; cases hr; exact hq
  · intro hq
    exact ⟨1, _, _, e 0, hq⟩
theorem E_zret {X : xL} {k ip : Nat} {ls : List (Option xV)} {h : xH} {Q : Option xV → xH → Prop} {z : Int} (hi : (ins k ip).1 = 75) : Ev X k ip ls [vi z] h Q ↔ ((z = 0 ∨ z = 1) ∧ Q (some (vi z)) h) := by
  have e : ∀ n, run X (n + 1) k ip ls [vi z] h = if z = 0 ∨ z = 1 then some (some (vi z), h) else none := by
    intro n
    rw [run_s]
    unfold runB
    rw [if_neg (by omega), if_pos hi]
  constructor
  · rintro ⟨n, r, h2, hr, hq⟩
    cases n with
    | zero => cases hr
    | succ n =>
      rw [e] at hr
      by_cases hz : z = 0 ∨ z = 1
      · rw [if_pos hz] at hr; cases hr; exact ⟨hz, hq⟩
      · rw [if_neg hz] at hr; cases hr
  · rintro ⟨hz, hq⟩
    exact ⟨1, _, _, by rw [e 0, if_pos hz], hq⟩
theorem E_vret {X : xL} {k ip : Nat} {ls : List (Option xV)} {h : xH} {Q : Option xV → xH → Prop} (hi : (ins k ip).1 = 71) : Ev X k ip ls [] h Q ↔ Q none h := by
  have e : ∀ n, run X (n + 1) k ip ls [] h = some (none, h) := by
    intro n
    rw [run_s]
    unfold runB
    rw [if_neg (by omega), if_neg (by omega), if_pos hi]
  constructor
  · rintro ⟨n, r, h2, hr, hq⟩
    cases n with
    | zero => cases hr
    | succ n => rw [e] at hr; cases hr; exact hq
  · intro hq
    exact ⟨1, _, _, e 0, hq⟩
