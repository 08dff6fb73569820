/-! THE WORLD AT THE BEGINNING: layout, numbers, addresses -/
def XXt (a : Nat) : Nat := if a < 102 then CTt.getD a 0 else if 200 ≤ a ∧ a < 536 then PLt.getD ((a - 200) % 24) 0 else 99
def XXr (a k : Nat) : Nat := if a = 5 then 248 + 24 * k else if a = 35 then (if k < 21 then 36 + k else 537 + 24 * k) else if a < 102 then (CTr.getD a []).getD k 0 else if (a - 200) % 24 = 0 then a + [0, 0, 1, 6, 11, 19].getD k 0 else a + k
def XX (ns nb ln : Nat) : xL := (XXt, fun a => if a < 102 then (CTz ns nb ln).getD a 0 else if 200 ≤ a ∧ a < 536 then PLz.getD ((a - 200) % 24) 0 else 0, XXr, fun j => 96 + j)
def stL : List (List Int) := [[16, 80, 4, 16, 4, 6], [1, 10, 0, 1, 1, 1], [64, 100, 99, 64, 8, 99], [0, -1, 1, 0, 0], [0, 0, 0, -1, 1]]
def stv (i j : Nat) : Int := (stL.getD i []).getD j 0
def bnC (si : Int) : Int := ((si + 8) - 1).tdiv 8
def bnB (ro si : Int) : Int := (((si + 8) - 1).tdiv 8) * (((ro + 2) - 1).tdiv 2)
def HH1 (xs : Nat → Int32) (a j : Nat) : Int := if a = 1 ∨ a = 72 then tm0 j else if a < 96 then 0 else if a < 101 then stv (a - 96) j else if a = 101 then (xs j).toInt else 0
def HH2 (ro si : Int) (a k : Nat) : Int := if a = 7 ∨ (200 ≤ a ∧ a < 536 ∧ (a - 200) % 24 = 0) then [ro, si].getD k 0 else if a = 22 then [bnB ro si, bnC si].getD k 0 else if a = 70 then [0, 0, ro, si].getD k 0 else 0
def HH (ro si : Int) (xs : Nat → Int32) : xH := (HH1 xs, HH2 ro si)
def rho (f : Nat → Nat → Nat) (rm st : Nat → Nat) (b : Nat) (a : Nat) : Nat := if a < 4 then f 0 a else if a < 7 then f 3 (a - 4) else if a < 14 then f 4 (a - 7) else if a < 22 then f 5 (a - 14) else if a < 26 then f 6 (a - 22) else if a < 29 then f 7 (a - 26) else if a < 57 then f 8 (a - 29) else if a < 70 then f 9 (a - 57) else if a < 96 then rm (a - 70) else if a < 101 then st (a - 96) else if a < 102 then b else if a < 224 then f 1 (a - 200) else if a < 248 then f 2 (a - 224) else if 536 ≤ a ∧ (a - 248) % 24 = 1 then f 8 (7 + (a - 537) / 24) else f 3 (3 + (a - 248))
def LL0 : List Nat := [0, 2, 3, 1]
def LLp (b : Nat) : List Nat := (List.range 24).map (fun k => b + k)
def LL3 : List Nat := [4, 5, 6] ++ (List.range 12).flatMap (fun p => LLp (248 + 24 * p))
def LL4 : List Nat := [7, 13, 8, 9, 10, 11, 12]
def LL5 : List Nat := [14, 15, 16, 17, 18, 19, 20, 21]
def LL6 : List Nat := [22, 23, 24, 25]
def LL7 : List Nat := [26, 27, 28]
def LL8 : List Nat := (([29, 30, 31, 34] ++ 35 :: (List.range 21).map (fun j => 36 + j)) ++ [32]) ++ [33]
def LL9 : List Nat := [57, 58, 59, 60, 61, 62, 63, 64, 65, 66]
def LLm : List Nat := [70, 71, 72, 73, 74, 75, 76, 77, 78, 79, 80, 81, 82, 83, 84, 85, 86, 87, 88, 89, 90, 91, 92, 93, 94, 95]
def LL : List Nat := (((((((((LL0 ++ LLp 200) ++ LLp 224) ++ LL3) ++ LL4) ++ LL5) ++ LL6) ++ LL7) ++ LL8) ++ LL9) ++ LLm
def GG (D : va_G) (cs : Nat → ClassId) (f : Nat → Nat → Nat) (rm st : Nat → Nat) (b : Nat) : xG := (rho f rm st b, cs, D.1, D.2, LL)
def wF (D : va_G) (cs : Nat → ClassId) (f : Nat → Nat → Nat) (rm st : Nat → Nat) (b : Nat) (ro si : Int) (xs : Nat → Int32) (ln : Nat) (a : Nat) : Nat × va_E := (rho f rm st b a, enn (GG D cs f rm st b) (XX (ro * si).toNat (bnB ro si).toNat ln) (HH ro si xs) a)
section WIS
variable {D : va_G} {cs : Nat → ClassId} {f : Nat → Nat → Nat} {rm st : Nat → Nat} {b : Nat} {ro si : Int} {xs : Nat → Int32} {ln : Nat}
set_option maxRecDepth 100000 in
theorem w_0 : LL0.map (wF D cs f rm st b ro si xs ln) = [(f 0 0, .inr (11, [.ref (f 0 1), .ref (f 0 2), .int 0, .ref (f 0 3), .int 0, .ref (f 1 0), .ref (f 2 0), .ref (f 3 0), .ref (f 4 0), .ref (f 5 0), .ref (f 6 0), .ref (f 7 0), .ref (f 8 0), .ref (f 9 0)])), (f 0 2, aI cs 100), (f 0 3, aI cs 7), (f 0 1, .inl (cs 13, 6, .inl (fun j => Int32.ofInt (tm0 j))))] := by
  rfl
set_option maxRecDepth 100000 in
theorem w_4 : LL4.map (wF D cs f rm st b ro si xs ln) = wGround cs ro si (f 4) := by
  rfl
set_option maxRecDepth 100000 in
theorem w_1 : (LLp 200).map (wF D cs f rm st b ro si xs ln) = wPlan cs ro si (f 1) := by
  rfl
set_option maxRecDepth 100000 in
theorem w_2 : (LLp 224).map (wF D cs f rm st b ro si xs ln) = wPlan cs ro si (f 2) := by
  rfl
set_option maxRecDepth 100000 in
theorem w_3p (p : Nat) (h : p < 12) : (LLp (248 + 24 * p)).map (wF D cs f rm st b ro si xs ln) = wPlan cs ro si (fun k => f 3 (3 + 24 * p + k)) := by
  have h9 : p = 0 ∨ p = 1 ∨ p = 2 ∨ p = 3 ∨ p = 4 ∨ p = 5 ∨ p = 6 ∨ p = 7 ∨ p = 8 ∨ p = 9 ∨ p = 10 ∨ p = 11 := by omega
  rcases h9 with rfl | rfl | rfl | rfl | rfl | rfl | rfl | rfl | rfl | rfl | rfl | rfl <;> rfl
theorem rho_hi (a : Nat) (h : 248 ≤ a) (h2 : (a - 248) % 24 = 0) : rho f rm st b a = f 3 (3 + (a - 248)) := by
  unfold rho
  rw [if_neg (by omega), if_neg (by omega), if_neg (by omega), if_neg (by omega), if_neg (by omega), if_neg (by omega), if_neg (by omega), if_neg (by omega), if_neg (by omega), if_neg (by omega), if_neg (by omega), if_neg (by omega), if_neg (by omega), if_neg (by omega)]
set_option maxRecDepth 100000 in
theorem w_3 : LL3.map (wF D cs f rm st b ro si xs ln) = wHistory cs ro si (f 3) := by
  unfold LL3 wHistory
  rw [List.map_append, List.map_flatMap]
  have e1 : (List.range 12).flatMap (fun p => (LLp (248 + 24 * p)).map (wF D cs f rm st b ro si xs ln)) = (List.range 12).flatMap (fun p => wPlan cs ro si (fun k => f 3 (3 + 24 * p + k))) := fm_c _ (fun p hp => w_3p p (List.mem_range.mp hp))
  rw [e1]
  refine congrArg (fun z => z ++ _) ?_
  have e5 : wF D cs f rm st b ro si xs ln 5 = (f 3 1, aQ (cs 15) 12 (fun j => some (f 3 (3 + 24 * j)))) := by
    have e6 : (fun j => some (rho f rm st b (248 + 24 * j))) = fun j => some (f 3 (3 + 24 * j)) := funext fun j => by
      rw [rho_hi _ (by omega) (by omega), show 248 + 24 * j - 248 = 24 * j by omega]
    rw [← e6]
    rfl
  show [wF D cs f rm st b ro si xs ln 4, wF D cs f rm st b ro si xs ln 5, wF D cs f rm st b ro si xs ln 6] = _
  rw [e5]
  rfl
set_option maxRecDepth 100000 in
theorem w_5 : LL5.map (wF D cs f rm st b ro si xs ln) = wWire cs (f 0 1) (f 5) := by
  rfl
set_option maxRecDepth 100000 in
theorem w_6 : LL6.map (wF D cs f rm st b ro si xs ln) = wBins cs ro si (f 0 1) (f 6) := by
  rfl
set_option maxRecDepth 100000 in
theorem w_7 : LL7.map (wF D cs f rm st b ro si xs ln) = wAnalytic cs (f 0 1) (f 5 0) (f 6 0) (f 7) := by
  rfl
set_option maxRecDepth 100000 in
theorem w_9 : LL9.map (wF D cs f rm st b ro si xs ln) = wPasses cs (f 5 0) (f 4 0) (f 9) := by
  rfl
set_option maxRecDepth 100000 in
theorem w_m : LLm.map (wF D cs f rm st b ro si xs ln) = wModel cs ro si rm := by
  rfl
theorem rho_pk (j : Nat) : rho f rm st b (if j < 21 then 36 + j else 537 + 24 * j) = f 8 (7 + j) := by
  by_cases h : j < 21
  · rw [if_pos h]
    unfold rho
    rw [if_neg (by omega), if_neg (by omega), if_neg (by omega), if_neg (by omega), if_neg (by omega), if_neg (by omega), if_pos (by omega), show 36 + j - 29 = 7 + j by omega]
  · rw [if_neg h]
    unfold rho
    rw [if_neg (by omega), if_neg (by omega), if_neg (by omega), if_neg (by omega), if_neg (by omega), if_neg (by omega), if_neg (by omega), if_neg (by omega), if_neg (by omega), if_neg (by omega), if_neg (by omega), if_neg (by omega), if_neg (by omega), if_pos (by omega), show (537 + 24 * j - 537) / 24 = j by omega]
set_option maxRecDepth 100000 in
theorem w_8 : LL8.map (wF D cs f rm st b ro si xs ln) = wPacking cs ro si (f 0 1) (f 4 0) (fun j => some (f 8 (7 + j))) (f 8) := by
  have e5 : wF D cs f rm st b ro si xs ln 35 = (f 8 6, aQ (cs 16) 21 (fun j => some (f 8 (7 + j)))) := by
    have e6 : (fun j => some (rho f rm st b (if j < 21 then 36 + j else 537 + 24 * j))) = fun j => some (f 8 (7 + j)) := funext fun j => by
      rw [rho_pk]
    rw [← e6]
    rfl
  unfold LL8 wPacking
  simp only [List.map_append, List.map_cons, List.map_nil, e5]
  rfl
theorem wsh_is : wsh (GG D cs f rm st b) (XX (ro * si).toNat (bnB ro si).toNat ln) (HH ro si xs) = wRows cs ro si f ++ wModel cs ro si rm := by
  show LL.map (wF D cs f rm st b ro si xs ln) = _
  unfold LL wRows
  rw [List.map_append, List.map_append, List.map_append, List.map_append, List.map_append, List.map_append, List.map_append, List.map_append, List.map_append, List.map_append, w_0, w_1, w_2, w_3, w_4, w_5, w_6, w_7, w_8, w_9, w_m]
end WIS
