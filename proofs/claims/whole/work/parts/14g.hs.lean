/-! THE CONSTRUCTORS, V: what is kept -/
abbrev rmHistory : Room := { frames := 3, cells := 290, slots := 5124, locals := 70 }
def wHistory (cs : Nat → ClassId) (ro si : Int) (r : Nat → Nat) : va_W := [(r 0, .inr (5, [.int 0, .int 0, .ref (r 1), .ref (r 2)])), (r 1, aQ (cs 15) 12 (fun j => some (r (3 + 24 * j)))), (r 2, aI cs 12)] ++ (List.range 12).flatMap (fun p => wPlan cs ro si (fun k => r (3 + 24 * p + k)))
def hsW (cs : Nat → ClassId) (ro si : Int) (a qk qa : Nat) (f : Nat → Option Nat) (rr : Nat → Nat → Nat) (i : Nat) : va_W := [(a, .inr (5, [.int 0, .int 0, .ref qk, .ref qa])), (qk, aQ (cs 15) 12 f), (qa, aI cs 12)] ++ (List.range i).flatMap (fun p => wPlan cs ro si (rr p))
def hsF (rr : Nat → Nat → Nat) (i : Nat) : Nat → Option Nat := fun j => if j < i then some (rr j 0) else none
theorem fm_c {α β : Type} {f g : α → List β} : ∀ (L : List α), (∀ x ∈ L, f x = g x) → L.flatMap f = L.flatMap g
  | [], _ => rfl
  | x :: L, h => by
    rw [List.flatMap_cons, List.flatMap_cons, h x List.mem_cons_self, fm_c L (fun y hy => h y (List.mem_cons_of_mem _ hy))]
theorem plan_c {cs : Nat → ClassId} {ro si : Int} {r r2 : Nat → Nat} (h : ∀ k, k < 24 → r k = r2 k) : wPlan cs ro si r = wPlan cs ro si r2 := by
  unfold wPlan
  rw [h 0 (by decide), h 1 (by decide), h 2 (by decide), h 3 (by decide), h 4 (by decide), h 5 (by decide), h 6 (by decide), h 7 (by decide), h 8 (by decide), h 9 (by decide), h 10 (by decide), h 11 (by decide), h 12 (by decide), h 13 (by decide), h 14 (by decide), h 15 (by decide), h 16 (by decide), h 17 (by decide), h 18 (by decide), h 19 (by decide), h 20 (by decide), h 21 (by decide), h 22 (by decide), h 23 (by decide)]
theorem hs_next {cs : Nat → ClassId} {ro si : Int} {a qk qa i : Nat} {rr : Nat → Nat → Nat} {r : Nat → Nat} : (hsW cs ro si a qk qa (hsF rr i) rr i ++ wPlan cs ro si r).set 1 (qk, aQ (cs 15) 12 (va_up (hsF rr i) i (some (r 0)))) = hsW cs ro si a qk qa (hsF (va_up rr i r) (i + 1)) (va_up rr i r) (i + 1) := by
  have e1 : va_up (hsF rr i) i (some (r 0)) = hsF (va_up rr i r) (i + 1) := by
    funext j
    unfold hsF va_up
    by_cases h : j = i
    · rw [if_pos h, if_pos (by omega), if_pos h]
    · rw [if_neg h, if_neg h]
      show (if j < i then some (rr j 0) else none) = if j < i + 1 then some (rr j 0) else none
      by_cases h2 : j < i
      · rw [if_pos h2, if_pos (by omega)]
      · rw [if_neg h2, if_neg (by omega)]
  have e2 : (List.range (i + 1)).flatMap (fun p => wPlan cs ro si (va_up rr i r p)) = (List.range i).flatMap (fun p => wPlan cs ro si (rr p)) ++ wPlan cs ro si r := by
    rw [List.range_succ, List.flatMap_append, fm_c (g := fun p => wPlan cs ro si (rr p)) (List.range i) (fun x hx => by rw [va_up_ne _ _ (by have := List.mem_range.mp hx; omega)]), List.flatMap_cons, List.flatMap_nil, List.append_nil, va_up_self]
  rw [e1]
  show _ = _ ++ (List.range (i + 1)).flatMap (fun p => wPlan cs ro si (va_up rr i r p))
  rw [e2, ← List.append_assoc]
  rfl
section HSL
variable {p : Program} {l : Launch} {e : Env} {s : State} {m : MethodId} {args : Array Value} {below : List Frame} {meth : Method} {c : Code} {Q : State → Prop} {D : va_G} {cs : Nat → ClassId} {A : Nat → Prop} {ro si : Int} {a qk qa : Nat}
set_option maxHeartbeats 4000000 in
theorem hs_loop (C : mkC p s m args c prog_7_method_1_code "CellRows$History" 4) (hm : meth.name = "<init>")
    (fin : ∀ H locs rr ls, mkW D cs A s (hsW cs ro si a qk qa (hsF rr 12) rr 12) H locs → W p l e rmHistory s m args below meth c H locs 290 5124 Q (F0 m 50 ls [])) :
    ∀ (n i : Nat) (rr : Nat → Nat → Nat) (H : Heap) (locs : List Loc) (ls : Array Slot), i + n = 12 → mkW D cs A s (hsW cs ro si a qk qa (hsF rr i) rr i) H locs → lv_has ls 4 [(3, .int (Int32.ofInt i)), (0, .ref a), (1, .int (Int32.ofInt ro)), (2, .int (Int32.ofInt si))] → W p l e rmHistory s m args below meth c H locs (2 + 24 * i) (24 + 425 * i) Q (F0 m 23 ls []) := by
  have hx := C.1
  have hb := C.2.1
  intro n
  induction n with
  | zero =>
    intro i rr H locs ls hi Wl hl
    have hi2 : i = 12 := by omega
    subst hi2
    refine lv_iload_n hx hb (k := 3) (i := 3) (by decide +kernel) rfl (lv_at hl 0 rfl) ?_
    refine lv_bipush hx hb (n := 12) (v := Int32.ofInt 12) (by decide +kernel) (by decide +kernel) ?_
    refine lv_icmp_ge hx hb (off := 24) (tgt := 50) (by decide +kernel) (by decide) (fun _ => ?_) (fun h => ?_)
    · exact fin H locs rr ls Wl
    · exact absurd ((i32_le (by omega) (by omega)).mpr (by omega)) h
  | succ n ih =>
    intro i rr H locs ls hi Wl hl
    have hj : (Int32.ofInt (i : Int)).toNatClampNeg = i := by rw [i32_nat (by omega)]; omega
    refine lv_iload_n hx hb (k := 3) (i := 3) (by decide +kernel) rfl (lv_at hl 0 rfl) ?_
    refine lv_bipush hx hb (n := 12) (v := Int32.ofInt 12) (by decide +kernel) (by decide +kernel) ?_
    refine lv_icmp_ge hx hb (off := 24) (tgt := 50) (by decide +kernel) (by decide) (fun h => ?_) (fun _ => ?_)
    · rw [i32_le (by omega) (by omega)] at h
      omega
    refine lv_aload_n hx hb (k := 0) (i := 0) (by decide +kernel) rfl (lv_at hl 1 rfl) ?_
    refine mk_get (p1 := 2311) (idx := 11) C Wl (ci := 5) (by decide) 0 rfl 2 (by decide) (by decide +kernel) rfl (by decide +kernel) ?_
    refine lv_iload_n hx hb (k := 3) (i := 3) (by decide +kernel) rfl (lv_at hl 0 rfl) ?_
    refine mk_new (nam := "CellRows$Plan") (N := 6) (p1 := 2305) (p2 := 2088) (p3 := 2051) (idx := 9) (c2 := 2 + 24 * i + 1) (s2 := 24 + 425 * i + 6) C Wl 9 (by decide) rfl rfl (by decide +kernel) (by decide +kernel) (by decide +kernel) (Nat.le_refl _) (by show _ ≤ 290; omega) (Nat.le_refl _) (by show _ ≤ 5124; omega) (by decide +kernel) (fun q1 H1 Wl => ?_)
    refine lv_dup hx hb (by decide +kernel) rfl ?_
    refine lv_iload_n hx hb (k := 1) (i := 1) (by decide +kernel) rfl (lv_at hl 2 rfl) ?_
    refine lv_iload_n hx hb (k := 2) (i := 2) (by decide +kernel) rfl (lv_at hl 3 rfl) ?_
    refine mk_call (rest := [.ref q1, .int (Int32.ofInt i), .ref qk]) (a := q1) (wr := hsW cs ro si a qk qa (hsF rr i) rr i) (p0 := 2091) (p1 := 2307) (p2 := 2090) (p3 := 2051) (idx := 21) (c2 := 2 + 24 * (i + 1)) (s2 := 24 + 425 * (i + 1)) C (k_Plan (ro := ro) (si := si)) Wl (fun _ _ _ _ h9 => h9) (fun _ _ _ => trivial) ⟨Nat.le_of_ble_eq_true rfl, Nat.le_of_ble_eq_true rfl⟩ rfl ⟨by decide +kernel, by decide +kernel, by show _ = some 2; decide +kernel⟩ (by decide +kernel) (by decide +kernel) (by decide +kernel) (by decide +kernel) hl.1 (Nat.le_of_ble_eq_true rfl) (by decide +kernel) (by show _ + 23 ≤ _; omega) (by show _ ≤ 290; omega) (by show _ + 419 ≤ _; omega) (by show _ ≤ 5124; omega) (fun r H1 locs1 hr Wn => ?_)
    subst hr
    refine mk_aas C Wn 1 _ rfl (app_R (k := 0) (q := ((r 0, .inr (9, [.int (Int32.ofInt ro), .int (Int32.ofInt si), .ref (r 1), .ref (r 6), .ref (r 11), .ref (r 19)])) : Nat × va_E)) rfl) hj (i32_vin (by omega) (by omega) (by omega)) (by decide +kernel) (fun H1 locs1 Wl => ?_)
    rw [hs_next] at Wl
    refine lv_iinc hx hb (i := 3) (n := 1) (k := 0) (v := Int32.ofInt ((i + 1 : Nat) : Int)) (lv' := [(3, .int (Int32.ofInt ((i + 1 : Nat) : Int))), (0, .ref a), (1, .int (Int32.ofInt ro)), (2, .int (Int32.ofInt si))]) (by decide +kernel) hl rfl (Int32.ofInt_add _ _).symm (by decide) rfl (fun ls hl => ?_)
    refine lv_goto hx hb (off := -24) (tgt := 23) (by decide +kernel) (by decide) ?_
    exact ih (i + 1) _ _ _ ls (by omega) Wl hl
end HSL
def rHs (a qk qa : Nat) (rr : Nat → Nat → Nat) : Nat → Nat := fun k => if k < 3 then [a, qk, qa].getD k 0 else rr ((k - 3) / 24) ((k - 3) % 24)
theorem rHs_hi {a qk qa : Nat} {rr : Nat → Nat → Nat} {p k : Nat} (h : k < 24) : rHs a qk qa rr (3 + 24 * p + k) = rr p k := by
  unfold rHs
  rw [if_neg (by omega), show (3 + 24 * p + k - 3) / 24 = p by omega, show (3 + 24 * p + k - 3) % 24 = k by omega]
set_option maxHeartbeats 4000000 in
theorem k_History {l : Launch} {D : va_G} {cs : Nat → ClassId} {ro si : Int} : Ctor l D cs ⟨"CellRows$History", "<init>", "(II)V"⟩ prog_7_method_1_code 4 rmHistory [.int (Int32.ofInt ro), .int (Int32.ofInt si)] (fun a => [(a, nO 5)]) (wHistory cs ro si) (fun _ _ => True) := by
  refine mk_met (by decide +kernel) rfl (Nat.le_of_ble_eq_true rfl) ?_
  intro p e s m args below meth c a A ls Q C hm Wl hX hA9 hl fin
  have hx := C.1
  have hb := C.2.1
  replace Wl : mkW D cs A s ([(a, .inr (5, [.int 0, .int 0, .null, .null]))]) _ _ := Wl
  refine lv_aload_n hx hb (k := 0) (i := 0) (by decide +kernel) rfl (lv_at hl 0 rfl) ?_
  refine mk_obj (p1 := 2304) (idx := 3) C (by decide +kernel) hl.1 (Nat.le_of_ble_eq_true rfl) (Nat.le_of_ble_eq_true rfl) (by decide +kernel) ?_
  refine lv_aload_n hx hb (k := 0) (i := 0) (by decide +kernel) rfl (lv_at hl 0 rfl) ?_
  refine lv_bipush hx hb (n := 12) (v := Int32.ofInt 12) (by decide +kernel) (by decide +kernel) ?_
  refine mk_nwq (N := 12) (p1 := 2305) (idx := 9) (c2 := 1) (s2 := 12) C Wl (by decide +kernel) (nn_ok (z := 12) (by decide) (by decide)) (Nat.le_of_ble_eq_true rfl) (Nat.le_of_ble_eq_true rfl) (Nat.le_of_ble_eq_true rfl) (Nat.le_of_ble_eq_true rfl) (Nat.le_of_ble_eq_true rfl) (by decide +kernel) (fun qk H1 Wl => ?_)
  replace Wl : mkW D cs A s ([(a, .inr (5, [.int 0, .int 0, .null, .null])), (qk, aQ (cs 15) 12 (fun _ => none))]) _ _ := Wl
  refine mk_put (p1 := 2311) (idx := 11) (ty := .array (.object "CellRows$Plan")) (v := .ref qk) C hm Wl (ci := 5) (by decide) rfl 0 rfl 2 (by decide) (by decide +kernel) rfl (by decide +kernel) rfl rfl (Nat.le_of_ble_eq_true rfl) (by decide +kernel) (fun H1 locs1 Wl => ?_)
  replace Wl : mkW D cs A s ([(a, .inr (5, [.int 0, .int 0, .ref qk, .null])), (qk, aQ (cs 15) 12 (fun _ => none))]) _ _ := Wl
  refine lv_aload_n hx hb (k := 0) (i := 0) (by decide +kernel) rfl (lv_at hl 0 rfl) ?_
  refine lv_bipush hx hb (n := 12) (v := Int32.ofInt 12) (by decide +kernel) (by decide +kernel) ?_
  refine mk_arr (N := 12) (nm := 12) (c2 := 2) (s2 := 24) C Wl (nn_ok (z := 12) (by decide) (by decide)).1 (nn_ok (z := 12) (by decide) (by decide)).2 (Nat.le_of_ble_eq_true rfl) (Nat.le_of_ble_eq_true rfl) (Nat.le_of_ble_eq_true rfl) (Nat.le_of_ble_eq_true rfl) (Nat.le_of_ble_eq_true rfl) (Nat.le_of_ble_eq_true rfl) (by decide +kernel) (fun q0 H1 Wl => ?_)
  replace Wl : mkW D cs A s ([(a, .inr (5, [.int 0, .int 0, .ref qk, .null])), (qk, aQ (cs 15) 12 (fun _ => none)), (q0, aI cs 12)]) _ _ := Wl
  refine mk_put (p1 := 2312) (idx := 17) (ty := .array .int) (v := .ref q0) C hm Wl (ci := 5) (by decide) rfl 0 rfl 3 (by decide) (by decide +kernel) rfl (by decide +kernel) rfl rfl (Nat.le_of_ble_eq_true rfl) (by decide +kernel) (fun H1 locs1 Wl => ?_)
  replace Wl : mkW D cs A s ([(a, .inr (5, [.int 0, .int 0, .ref qk, .ref q0])), (qk, aQ (cs 15) 12 (fun _ => none)), (q0, aI cs 12)]) _ _ := Wl
  refine lv_iconst hx hb (n := 0) (v := Int32.ofInt 0) (by decide +kernel) rfl ?_
  refine lv_istore_n hx hb (k := 3) (i := 3) (by decide +kernel) rfl hl (by decide) (lv' := [(3, .int (Int32.ofInt 0)), (0, .ref a), (1, .int (Int32.ofInt ro)), (2, .int (Int32.ofInt si))]) rfl (fun ls hl => ?_)
  have e0 : hsF (fun _ _ => 0) 0 = fun _ => none := funext fun j => if_neg (Nat.not_lt_zero j)
  refine hs_loop (ro := ro) (si := si) (a := a) (qk := qk) (qa := q0) C hm (fun H locs rr ls Wl => ?_) 12 0 (fun _ _ => 0) _ _ ls rfl (by rw [e0]; exact Wl) hl
  refine fin _ _ (rHs a qk q0 rr) _ _ ?_ rfl (by decide +kernel)
  have ef : (List.range 12).flatMap (fun p => wPlan cs ro si (fun k => rHs a qk q0 rr (3 + 24 * p + k))) = (List.range 12).flatMap (fun p => wPlan cs ro si (rr p)) :=
    fm_c _ (fun p _ => plan_c (fun k hk => rHs_hi hk))
  show mkW D cs A s ([(a, .inr (5, [.int 0, .int 0, .ref qk, .ref q0]))] ++ (qk, aQ (cs 15) 12 (fun j => some (rHs a qk q0 rr (3 + 24 * j)))) :: ([(q0, aI cs 12)] ++ (List.range 12).flatMap (fun p => wPlan cs ro si (fun k => rHs a qk q0 rr (3 + 24 * p + k))))) _ _
  rw [ef]
  refine mkW.sq (f := hsF rr 12) Wl (fun j hj => ?_)
  unfold hsF
  rw [if_pos hj]
  exact congrArg some (rHs_hi (k := 0) (by decide)).symm
