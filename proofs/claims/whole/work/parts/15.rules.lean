/-! RULES OF THE INTERPRETER, an instruction each -/
def Cl (X : xL) (k : Nat) (as : List xV) (h : xH) (Q : Option xV → xH → Prop) : Prop := Ev X k 0 (ent k as) [] h Q
section RUL
variable {X : xL} {k ip : Nat} {ls : List (Option xV)} {st : List xV} {h : xH} {Q : Option xV → xH → Prop} {op a b : Nat} {z : Int} {js : List Nat}
theorem R_of {i : xI} (hi : ins k ip = i) (hc : isC i.1 = false) {P : Prop} (hP : (∃ q, stp X i ip ls st h = some q ∧ Ev X k q.1 q.2.1 q.2.2.1 q.2.2.2 Q) ↔ P) : Ev X k ip ls st h Q ↔ P := (E_stp hi hc).trans hP
theorem ex_s {q : xS} {P : xS → Prop} : (∃ q2, some q = some q2 ∧ P q2) ↔ P q := ⟨fun ⟨_, e, p⟩ => (by cases e; exact p), fun p => ⟨q, rfl, p⟩⟩
theorem ex_n {P : xS → Prop} : (∃ q2, (none : Option xS) = some q2 ∧ P q2) ↔ False := ⟨fun ⟨_, e, _⟩ => (by cases e), fun p => p.elim⟩
theorem ex_if {c : Prop} [Decidable c] {q : xS} {P : xS → Prop} : (∃ q2, (if c then some q else none) = some q2 ∧ P q2) ↔ (c ∧ P q) := by
  by_cases hc : c
  · rw [if_pos hc, ex_s]; exact ⟨fun p => ⟨hc, p⟩, fun p => p.2⟩
  · rw [if_neg hc, ex_n]; exact ⟨fun p => p.elim, fun p => hc p.1⟩
def onI (o : Option xV) (P : Int → Prop) : Prop := match o with
  | some (.inl z) => P z
  | _ => False
def onR (o : Option xV) (P : Nat → Prop) : Prop := match o with
  | some (.inr (.inl a)) => P a
  | _ => False
def onL (o : Option xV) (P : Int → Prop) : Prop := match o with
  | some (.inr (.inr a)) => P a
  | _ => False
theorem onI_s {z : Int} {P : Int → Prop} : onI (some (vi z)) P ↔ P z := Iff.rfl
theorem onR_s {z : Nat} {P : Nat → Prop} : onR (some (vr z)) P ↔ P z := Iff.rfl
theorem onL_s {z : Int} {P : Int → Prop} : onL (some (vl z)) P ↔ P z := Iff.rfl
theorem gl_0 {v : xV} {t : List (Option xV)} : gl (some v :: t) 0 = some v := rfl
theorem gl_s {o : Option xV} {t : List (Option xV)} {n : Nat} : gl (o :: t) (n + 1) = gl t n := rfl
theorem R_il (hi : ins k ip = (op, a, b, z, js)) (ho : op = 0 ∨ op = 1) : Ev X k ip ls st h Q ↔ onI (gl ls a) (fun z => Ev X k (ip + 1) ls (vi z :: st) h Q) := by
  refine R_of hi (by rcases ho with rfl | rfl <;> rfl) ?_
  have e : stp X (op, a, b, z, js) ip ls st h = (match gl ls a with | some (.inl z) => some (ip + 1, ls, vi z :: st, h) | _ => none) := by
    rcases ho with rfl | rfl <;> rfl
  rw [e]
  generalize gl ls a = o
  rcases o with _ | z | r | w
  · exact ex_n
  · exact ex_s
  · exact ex_n
  · exact ex_n
theorem R_al (hi : ins k ip = (op, a, b, z, js)) (ho : op = 2 ∨ op = 3) : Ev X k ip ls st h Q ↔ onR (gl ls a) (fun z => Ev X k (ip + 1) ls (vr z :: st) h Q) := by
  refine R_of hi (by rcases ho with rfl | rfl <;> rfl) ?_
  have e : stp X (op, a, b, z, js) ip ls st h = (match gl ls a with | some (.inr (.inl z)) => some (ip + 1, ls, vr z :: st, h) | _ => none) := by
    rcases ho with rfl | rfl <;> rfl
  rw [e]
  generalize gl ls a = o
  rcases o with _ | z | r | w
  · exact ex_n
  · exact ex_n
  · exact ex_s
  · exact ex_n
theorem R_ll (hi : ins k ip = (op, a, b, z, js)) (ho : op = 4 ∨ op = 5) : Ev X k ip ls st h Q ↔ onL (gl ls a) (fun z => Ev X k (ip + 1) ls (vl z :: st) h Q) := by
  refine R_of hi (by rcases ho with rfl | rfl <;> rfl) ?_
  have e : stp X (op, a, b, z, js) ip ls st h = (match gl ls a with | some (.inr (.inr z)) => some (ip + 1, ls, vl z :: st, h) | _ => none) := by
    rcases ho with rfl | rfl <;> rfl
  rw [e]
  generalize gl ls a = o
  rcases o with _ | z | r | w
  · exact ex_n
  · exact ex_n
  · exact ex_n
  · exact ex_s
theorem R_is {x : Int} (hi : ins k ip = (op, a, b, z, js)) (ho : op = 6 ∨ op = 7) : Ev X k ip ls (vi x :: st) h Q ↔ (stOK ls a = true ∧ Ev X k (ip + 1) (ls.set a (some (vi x))) st h Q) := by
  refine R_of hi (by rcases ho with rfl | rfl <;> rfl) ?_
  have e : stp X (op, a, b, z, js) ip ls (vi x :: st) h = (if stOK ls a = true then some (ip + 1, ls.set a (some (vi x)), st, h) else none) := by
    rcases ho with rfl | rfl <;> rfl
  rw [e]
  exact ex_if
theorem R_as {x : Nat} (hi : ins k ip = (op, a, b, z, js)) (ho : op = 8 ∨ op = 9) : Ev X k ip ls (vr x :: st) h Q ↔ (stOK ls a = true ∧ Ev X k (ip + 1) (ls.set a (some (vr x))) st h Q) := by
  refine R_of hi (by rcases ho with rfl | rfl <;> rfl) ?_
  have e : stp X (op, a, b, z, js) ip ls (vr x :: st) h = (if stOK ls a = true then some (ip + 1, ls.set a (some (vr x)), st, h) else none) := by
    rcases ho with rfl | rfl <;> rfl
  rw [e]
  exact ex_if
theorem R_kc (hi : ins k ip = (op, a, b, z, js)) (ho : (op = 11 ∨ op = 14 ∨ op = 15) ∧ inR z ∨ op = 12 ∧ (-128 ≤ z ∧ z ≤ 127) ∨ op = 13 ∧ (-32768 ≤ z ∧ z ≤ 32767)) : Ev X k ip ls st h Q ↔ Ev X k (ip + 1) ls (vi z :: st) h Q := by
  have e : stp X (op, a, b, z, js) ip ls st h = some (ip + 1, ls, vi z :: st, h) := by
    rcases ho with ⟨rfl | rfl | rfl, hz⟩ | ⟨rfl, hz⟩ | ⟨rfl, hz⟩
    · exact if_pos hz
    · exact if_pos hz
    · exact if_pos hz
    · exact if_pos hz
    · exact if_pos hz
  refine R_of hi (by rcases ho with ⟨rfl | rfl | rfl, hz⟩ | ⟨rfl, hz⟩ | ⟨rfl, hz⟩ <;> rfl) ?_
  rw [e]
  exact ex_s
theorem R_lc (hi : ins k ip = (op, a, b, z, js)) (ho : (op = 16 ∨ op = 17) ∧ inL z) : Ev X k ip ls st h Q ↔ Ev X k (ip + 1) ls (vl z :: st) h Q := by
  have e : stp X (op, a, b, z, js) ip ls st h = some (ip + 1, ls, vl z :: st, h) := by
    rcases ho with ⟨rfl | rfl, hz⟩
    · exact if_pos hz
    · exact if_pos hz
  refine R_of hi (by rcases ho with ⟨rfl | rfl, hz⟩ <;> rfl) ?_
  rw [e]
  exact ex_s
theorem R_addw {x y : Int} (hi : ins k ip = (18, 1, b, z, js)) : Ev X k ip ls (vi y :: vi x :: st) h Q ↔ Ev X k (ip + 1) ls (vi (Int32.ofInt (x + y)).toInt :: st) h Q := R_of hi rfl ex_s
theorem R_add {x y : Int} (hi : ins k ip = (18, 0, b, z, js)) : Ev X k ip ls (vi y :: vi x :: st) h Q ↔ ((inR (x + y)) ∧ Ev X k (ip + 1) ls (vi (x + y) :: st) h Q) := R_of hi rfl ex_if
theorem R_sub {x y : Int} (hi : ins k ip = (19, a, b, z, js)) : Ev X k ip ls (vi y :: vi x :: st) h Q ↔ ((inR (x - y)) ∧ Ev X k (ip + 1) ls (vi (x - y) :: st) h Q) := R_of hi rfl ex_if
theorem R_mul {x y : Int} (hi : ins k ip = (20, a, b, z, js)) : Ev X k ip ls (vi y :: vi x :: st) h Q ↔ ((inR (x * y)) ∧ Ev X k (ip + 1) ls (vi (x * y) :: st) h Q) := R_of hi rfl ex_if
theorem R_div {x y : Int} (hi : ins k ip = (21, a, b, z, js)) : Ev X k ip ls (vi y :: vi x :: st) h Q ↔ ((y ≠ 0 ∧ inR (x.tdiv y)) ∧ Ev X k (ip + 1) ls (vi (x.tdiv y) :: st) h Q) := R_of hi rfl ex_if
theorem R_rem {x y : Int} (hi : ins k ip = (22, a, b, z, js)) : Ev X k ip ls (vi y :: vi x :: st) h Q ↔ ((y ≠ 0 ∧ inR (x.tdiv y)) ∧ Ev X k (ip + 1) ls (vi (x.tmod y) :: st) h Q) := R_of hi rfl ex_if
theorem R_and {x y : Int} (hi : ins k ip = (24, a, b, z, js)) : Ev X k ip ls (vi y :: vi x :: st) h Q ↔ Ev X k (ip + 1) ls (vi ((Int32.ofInt x &&& Int32.ofInt y).toInt) :: st) h Q := R_of hi rfl ex_s
theorem R_shr {x y : Int} (hi : ins k ip = (25, a, b, z, js)) : Ev X k ip ls (vi y :: vi x :: st) h Q ↔ Ev X k (ip + 1) ls (vi ((Int32.ofInt x >>> (Int32.ofInt y &&& 31)).toInt) :: st) h Q := R_of hi rfl ex_s
theorem R_ushr {x y : Int} (hi : ins k ip = (26, a, b, z, js)) : Ev X k ip ls (vi y :: vi x :: st) h Q ↔ Ev X k (ip + 1) ls (vi (((Int32.ofInt x).toUInt32 >>> ((Int32.ofInt y).toUInt32 &&& Int32.toUInt32 31)).toInt32.toInt) :: st) h Q := R_of hi rfl ex_s
theorem R_xor {x y : Int} (hi : ins k ip = (27, a, b, z, js)) : Ev X k ip ls (vi y :: vi x :: st) h Q ↔ Ev X k (ip + 1) ls (vi ((Int32.ofInt x ^^^ Int32.ofInt y).toInt) :: st) h Q := R_of hi rfl ex_s
theorem R_neg {x : Int} (hi : ins k ip = (23, a, b, z, js)) : Ev X k ip ls (vi x :: st) h Q ↔ (inR (-x) ∧ Ev X k (ip + 1) ls (vi (-x) :: st) h Q) := R_of hi rfl ex_if
theorem R_i2l {x : Int} (hi : ins k ip = (28, a, b, z, js)) : Ev X k ip ls (vi x :: st) h Q ↔ Ev X k (ip + 1) ls (vl x :: st) h Q := R_of hi rfl ex_s
theorem R_l2i {x : Int} (hi : ins k ip = (29, a, b, z, js)) : Ev X k ip ls (vl x :: st) h Q ↔ (inR x ∧ Ev X k (ip + 1) ls (vi x :: st) h Q) := R_of hi rfl ex_if
theorem R_ladd {x y : Int} (hi : ins k ip = (30, a, b, z, js)) : Ev X k ip ls (vl y :: vl x :: st) h Q ↔ ((inL (x + y)) ∧ Ev X k (ip + 1) ls (vl (x + y) :: st) h Q) := R_of hi rfl ex_if
theorem R_lsub {x y : Int} (hi : ins k ip = (31, a, b, z, js)) : Ev X k ip ls (vl y :: vl x :: st) h Q ↔ ((inL (x - y)) ∧ Ev X k (ip + 1) ls (vl (x - y) :: st) h Q) := R_of hi rfl ex_if
theorem R_lmul {x y : Int} (hi : ins k ip = (32, a, b, z, js)) : Ev X k ip ls (vl y :: vl x :: st) h Q ↔ ((inL (x * y)) ∧ Ev X k (ip + 1) ls (vl (x * y) :: st) h Q) := R_of hi rfl ex_if
theorem R_lrem {x y : Int} (hi : ins k ip = (33, a, b, z, js)) : Ev X k ip ls (vl y :: vl x :: st) h Q ↔ ((y ≠ 0 ∧ inL (x.tdiv y)) ∧ Ev X k (ip + 1) ls (vl (x.tmod y) :: st) h Q) := R_of hi rfl ex_if
theorem R_lcmp {x y : Int} (hi : ins k ip = (34, a, b, z, js)) : Ev X k ip ls (vl y :: vl x :: st) h Q ↔ Ev X k (ip + 1) ls (vi (if y < x then 1 else if x = y then 0 else -1) :: st) h Q := R_of hi rfl ex_s
theorem R_dup {v : xV} (hi : ins k ip = (35, a, b, z, js)) : Ev X k ip ls (v :: st) h Q ↔ (ct1 v = true ∧ Ev X k (ip + 1) ls (v :: v :: st) h Q) := R_of hi rfl ex_if
theorem R_dup2 {v w : xV} (hi : ins k ip = (36, a, b, z, js)) : Ev X k ip ls (v :: w :: st) h Q ↔ ((ct1 v = true ∧ ct1 w = true) ∧ Ev X k (ip + 1) ls (v :: w :: v :: w :: st) h Q) := R_of hi rfl ex_if
theorem R_pop {v : xV} (hi : ins k ip = (37, a, b, z, js)) : Ev X k ip ls (v :: st) h Q ↔ (ct1 v = true ∧ Ev X k (ip + 1) ls st h Q) := R_of hi rfl ex_if
theorem R_inc (hi : ins k ip = (38, a, b, z, js)) : Ev X k ip ls st h Q ↔ onI (gl ls a) (fun x => (stOK ls a = true ∧ inR (x + z)) ∧ Ev X k (ip + 1) (ls.set a (some (vi (x + z)))) st h Q) := by
  refine R_of hi rfl ?_
  have e : stp X (38, a, b, z, js) ip ls st h = (match gl ls a with | some (.inl x) => if stOK ls a = true ∧ inR (x + z) then some (ip + 1, ls.set a (some (vi (x + z))), st, h) else none | _ => none) := rfl
  rw [e]
  generalize gl ls a = o
  rcases o with _ | z | r | w
  · exact ex_n
  · exact ex_if
  · exact ex_n
  · exact ex_n
theorem R_go (hi : ins k ip = (39, a, b, z, js)) : Ev X k ip ls st h Q ↔ Ev X k b ls st h Q := R_of hi rfl ex_s
theorem ev_if {c : Prop} [Decidable c] {t f : Nat} : Ev X k (if c then t else f) ls st h Q ↔ (if c then Ev X k t ls st h Q else Ev X k f ls st h Q) := by
  by_cases hc : c
  · rw [if_pos hc, if_pos hc]
  · rw [if_neg hc, if_neg hc]
theorem R_ifeq {x : Int} (hi : ins k ip = (40, 0, b, z, js)) : Ev X k ip ls (vi x :: st) h Q ↔ (if x = 0 then Ev X k b ls st h Q else Ev X k (ip + 1) ls st h Q) := by
  refine R_of hi rfl (ex_s.trans ?_)
  show Ev X k (if decide (x = 0) = true then b else ip + 1) ls st h Q ↔ _
  rw [ev_if]
  simp only [decide_eq_true_eq]
theorem R_iceq {x y : Int} (hi : ins k ip = (41, 0, b, z, js)) : Ev X k ip ls (vi y :: vi x :: st) h Q ↔ (if x = y then Ev X k b ls st h Q else Ev X k (ip + 1) ls st h Q) := by
  refine R_of hi rfl (ex_s.trans ?_)
  show Ev X k (if decide (x = y) = true then b else ip + 1) ls st h Q ↔ _
  rw [ev_if]
  simp only [decide_eq_true_eq]
theorem R_ifne {x : Int} (hi : ins k ip = (40, 1, b, z, js)) : Ev X k ip ls (vi x :: st) h Q ↔ (if ¬ x = 0 then Ev X k b ls st h Q else Ev X k (ip + 1) ls st h Q) := by
  refine R_of hi rfl (ex_s.trans ?_)
  show Ev X k (if decide (¬ x = 0) = true then b else ip + 1) ls st h Q ↔ _
  rw [ev_if]
  simp only [decide_eq_true_eq]
theorem R_icne {x y : Int} (hi : ins k ip = (41, 1, b, z, js)) : Ev X k ip ls (vi y :: vi x :: st) h Q ↔ (if ¬ x = y then Ev X k b ls st h Q else Ev X k (ip + 1) ls st h Q) := by
  refine R_of hi rfl (ex_s.trans ?_)
  show Ev X k (if decide (¬ x = y) = true then b else ip + 1) ls st h Q ↔ _
  rw [ev_if]
  simp only [decide_eq_true_eq]
theorem R_iflt {x : Int} (hi : ins k ip = (40, 2, b, z, js)) : Ev X k ip ls (vi x :: st) h Q ↔ (if x < 0 then Ev X k b ls st h Q else Ev X k (ip + 1) ls st h Q) := by
  refine R_of hi rfl (ex_s.trans ?_)
  show Ev X k (if decide (x < 0) = true then b else ip + 1) ls st h Q ↔ _
  rw [ev_if]
  simp only [decide_eq_true_eq]
theorem R_iclt {x y : Int} (hi : ins k ip = (41, 2, b, z, js)) : Ev X k ip ls (vi y :: vi x :: st) h Q ↔ (if x < y then Ev X k b ls st h Q else Ev X k (ip + 1) ls st h Q) := by
  refine R_of hi rfl (ex_s.trans ?_)
  show Ev X k (if decide (x < y) = true then b else ip + 1) ls st h Q ↔ _
  rw [ev_if]
  simp only [decide_eq_true_eq]
theorem R_ifge {x : Int} (hi : ins k ip = (40, 3, b, z, js)) : Ev X k ip ls (vi x :: st) h Q ↔ (if 0 ≤ x then Ev X k b ls st h Q else Ev X k (ip + 1) ls st h Q) := by
  refine R_of hi rfl (ex_s.trans ?_)
  show Ev X k (if decide (0 ≤ x) = true then b else ip + 1) ls st h Q ↔ _
  rw [ev_if]
  simp only [decide_eq_true_eq]
theorem R_icge {x y : Int} (hi : ins k ip = (41, 3, b, z, js)) : Ev X k ip ls (vi y :: vi x :: st) h Q ↔ (if y ≤ x then Ev X k b ls st h Q else Ev X k (ip + 1) ls st h Q) := by
  refine R_of hi rfl (ex_s.trans ?_)
  show Ev X k (if decide (y ≤ x) = true then b else ip + 1) ls st h Q ↔ _
  rw [ev_if]
  simp only [decide_eq_true_eq]
theorem R_ifgt {x : Int} (hi : ins k ip = (40, 4, b, z, js)) : Ev X k ip ls (vi x :: st) h Q ↔ (if 0 < x then Ev X k b ls st h Q else Ev X k (ip + 1) ls st h Q) := by
  refine R_of hi rfl (ex_s.trans ?_)
  show Ev X k (if decide (0 < x) = true then b else ip + 1) ls st h Q ↔ _
  rw [ev_if]
  simp only [decide_eq_true_eq]
theorem R_icgt {x y : Int} (hi : ins k ip = (41, 4, b, z, js)) : Ev X k ip ls (vi y :: vi x :: st) h Q ↔ (if y < x then Ev X k b ls st h Q else Ev X k (ip + 1) ls st h Q) := by
  refine R_of hi rfl (ex_s.trans ?_)
  show Ev X k (if decide (y < x) = true then b else ip + 1) ls st h Q ↔ _
  rw [ev_if]
  simp only [decide_eq_true_eq]
theorem R_ifle {x : Int} (hi : ins k ip = (40, 5, b, z, js)) : Ev X k ip ls (vi x :: st) h Q ↔ (if x ≤ 0 then Ev X k b ls st h Q else Ev X k (ip + 1) ls st h Q) := by
  refine R_of hi rfl (ex_s.trans ?_)
  show Ev X k (if decide (x ≤ 0) = true then b else ip + 1) ls st h Q ↔ _
  rw [ev_if]
  simp only [decide_eq_true_eq]
theorem R_icle {x y : Int} (hi : ins k ip = (41, 5, b, z, js)) : Ev X k ip ls (vi y :: vi x :: st) h Q ↔ (if x ≤ y then Ev X k b ls st h Q else Ev X k (ip + 1) ls st h Q) := by
  refine R_of hi rfl (ex_s.trans ?_)
  show Ev X k (if decide (x ≤ y) = true then b else ip + 1) ls st h Q ↔ _
  rw [ev_if]
  simp only [decide_eq_true_eq]
theorem R_sw {x : Int} (hi : ins k ip = (42, a, b, z, js)) : Ev X k ip ls (vi x :: st) h Q ↔ Ev X k (swt z js x) ls st h Q := R_of hi rfl ex_s
theorem R_gi {x : Nat} (hi : ins k ip = (50, a, b, z, js)) : Ev X k ip ls (vr x :: st) h Q ↔ (X.1 x = a ∧ Ev X k (ip + 1) ls (vi (h.2 x b) :: st) h Q) := R_of hi rfl ex_if
theorem R_gr {x : Nat} (hi : ins k ip = (51, a, b, z, js)) : Ev X k ip ls (vr x :: st) h Q ↔ (X.1 x = a ∧ Ev X k (ip + 1) ls (vr (X.2.2.1 x b) :: st) h Q) := R_of hi rfl ex_if
theorem R_gl {x : Nat} (hi : ins k ip = (52, a, b, z, js)) : Ev X k ip ls (vr x :: st) h Q ↔ (X.1 x = a ∧ Ev X k (ip + 1) ls (vl (h.2 x b) :: st) h Q) := R_of hi rfl ex_if
theorem R_pi {x : Nat} {v : Int} (hi : ins k ip = (53, a, b, z, js)) : Ev X k ip ls (vi v :: vr x :: st) h Q ↔ (X.1 x = a ∧ Ev X k (ip + 1) ls st (h.1, up2 h.2 x b v) Q) := R_of hi rfl ex_if
theorem R_pl {x : Nat} {v : Int} (hi : ins k ip = (54, a, b, z, js)) : Ev X k ip ls (vl v :: vr x :: st) h Q ↔ (X.1 x = a ∧ Ev X k (ip + 1) ls st (h.1, up2 h.2 x b v) Q) := R_of hi rfl ex_if
theorem R_ia {x : Nat} {j : Int} (hi : ins k ip = (55, a, b, z, js)) : Ev X k ip ls (vi j :: vr x :: st) h Q ↔ (((X.1 x = 13 ∨ X.1 x = 20) ∧ 0 ≤ j ∧ j < X.2.1 x) ∧ Ev X k (ip + 1) ls (vi (h.1 x j.toNat) :: st) h Q) := R_of hi rfl ex_if
theorem R_ba {x : Nat} {j : Int} (hi : ins k ip = (57, a, b, z, js)) : Ev X k ip ls (vi j :: vr x :: st) h Q ↔ ((X.1 x = 14 ∧ 0 ≤ j ∧ j < X.2.1 x) ∧ Ev X k (ip + 1) ls (vi (h.1 x j.toNat) :: st) h Q) := R_of hi rfl ex_if
theorem R_ias {x : Nat} {j v : Int} (hi : ins k ip = (56, a, b, z, js)) : Ev X k ip ls (vi v :: vi j :: vr x :: st) h Q ↔ ((X.1 x = 13 ∧ 0 ≤ j ∧ j < X.2.1 x) ∧ Ev X k (ip + 1) ls st (up2 h.1 x j.toNat v, h.2) Q) := R_of hi rfl ex_if
theorem R_bas {x : Nat} {j v : Int} (hi : ins k ip = (58, a, b, z, js)) : Ev X k ip ls (vi v :: vi j :: vr x :: st) h Q ↔ ((X.1 x = 14 ∧ (v = 0 ∨ v = 1) ∧ 0 ≤ j ∧ j < X.2.1 x) ∧ Ev X k (ip + 1) ls st (up2 h.1 x j.toNat v, h.2) Q) := R_of hi rfl ex_if
theorem R_len {x : Nat} (hi : ins k ip = (59, a, b, z, js)) : Ev X k ip ls (vr x :: st) h Q ↔ ((X.1 x = 13 ∨ X.1 x = 20) ∧ Ev X k (ip + 1) ls (vi (X.2.1 x) :: st) h Q) := R_of hi rfl ex_if
theorem R_aa {x : Nat} {j : Int} (hi : ins k ip = (60, a, b, z, js)) : Ev X k ip ls (vi j :: vr x :: st) h Q ↔ ((X.1 x = 15 ∧ 0 ≤ j ∧ j < X.2.1 x) ∧ Ev X k (ip + 1) ls (vr (X.2.2.1 x j.toNat) :: st) h Q) := R_of hi rfl ex_if
theorem R_aa2 {x : Nat} {j : Int} (hi : ins k ip = (66, a, b, z, js)) : Ev X k ip ls (vi j :: vr x :: st) h Q ↔ ((X.1 x = 16 ∧ 0 ≤ j ∧ j < X.2.1 x) ∧ Ev X k (ip + 1) ls (vr (X.2.2.1 x j.toNat) :: st) h Q) := R_of hi rfl ex_if
theorem R_gs (hi : ins k ip = (61, a, b, z, js)) : Ev X k ip ls st h Q ↔ Ev X k (ip + 1) ls (vr (X.2.2.2 a) :: st) h Q := R_of hi rfl ex_s
theorem R_cp {x d : Nat} {sp dp n : Int} (hi : ins k ip = (62, a, b, z, js)) : Ev X k ip ls [vi n, vi dp, vr d, vi sp, vr x] h Q ↔ ((((X.1 x = 13 ∧ X.1 d = 13) ∨ (X.1 x = 14 ∧ X.1 d = 14)) ∧ 0 ≤ sp ∧ 0 ≤ dp ∧ 0 ≤ n ∧ sp + n ≤ X.2.1 x ∧ dp + n ≤ X.2.1 d) ∧ Ev X k (ip + 1) ls [] (up1 h.1 d (va_cpy (h.1 x) (h.1 d) sp.toNat dp.toNat n.toNat), h.2) Q) := R_of hi rfl ex_if
theorem take_rv (as rest : List xV) : ((as.reverse ++ rest).take as.length).reverse = as := by
  rw [List.take_append_of_le_length (by rw [List.length_reverse]; exact Nat.le_refl _), List.take_of_length_le (by rw [List.length_reverse]; exact Nat.le_refl _), List.reverse_reverse]
theorem drop_rv (as rest : List xV) : (as.reverse ++ rest).drop as.length = rest := by
  rw [List.drop_append_of_le_length (by rw [List.length_reverse]; exact Nat.le_refl _), List.drop_of_length_le (by rw [List.length_reverse]; exact Nat.le_refl _), List.nil_append]
theorem R_cs {as rest : List xV} {k2 : Nat} (hi : ins k ip = (74, k2, b, z, js)) (ha : as.length = b) (hf : (fla as).length ≤ mxl k2) : Ev X k ip ls (as.reverse ++ rest) h Q ↔ (wd rest ≤ 8 ∧ Cl X k2 as h (fun r h2 => Ev X k (ip + 1) ls (r.toList ++ rest) h2 Q)) := by
  rw [E_call hi (Or.inr rfl)]
  have hx : xna (74, k2, b, z, js) = as.length := ha.symm
  rw [hx, take_rv, drop_rv]
  have hc : clOK X (74, k2, b, z, js).1 (74, k2, b, z, js).2.1 as.length (as.reverse ++ rest) = true ↔ wd rest ≤ 8 := by
    unfold clOK
    rw [take_rv, drop_rv]
    simp [hf]
  rw [hc]
  exact Iff.rfl
theorem R_cv {x : Nat} {as rest : List xV} {k2 : Nat} (hi : ins k ip = (73, k2, b, z, js)) (ha : as.length = b) (hf : (fla (vr x :: as)).length ≤ mxl k2) : Ev X k ip ls ((vr x :: as).reverse ++ rest) h Q ↔ ((X.1 x = cnm k2 ∧ wd rest ≤ 8) ∧ Cl X k2 (vr x :: as) h (fun r h2 => Ev X k (ip + 1) ls (r.toList ++ rest) h2 Q)) := by
  rw [E_call hi (Or.inl rfl)]
  have hx : xna (73, k2, b, z, js) = (vr x :: as).length := by
    rw [List.length_cons, ha]
    rfl
  rw [hx, take_rv, drop_rv]
  have hc : clOK X (73, k2, b, z, js).1 (73, k2, b, z, js).2.1 (vr x :: as).length ((vr x :: as).reverse ++ rest) = true ↔ (X.1 x = cnm k2 ∧ wd rest ≤ 8) := by
    unfold clOK
    rw [take_rv, drop_rv]
    simp [hf]
    exact And.comm
  rw [hc]
  exact Iff.rfl
theorem R_ir {z0 : Int} (hi : ins k ip = (70, a, b, z, js)) : Ev X k ip ls [vi z0] h Q ↔ Q (some (vi z0)) h := E_ret (by rw [hi])
theorem R_zr {z0 : Int} (hi : ins k ip = (75, a, b, z, js)) : Ev X k ip ls [vi z0] h Q ↔ ((z0 = 0 ∨ z0 = 1) ∧ Q (some (vi z0)) h) := E_zret (by rw [hi])
theorem R_vr (hi : ins k ip = (71, a, b, z, js)) : Ev X k ip ls [] h Q ↔ Q none h := E_vret (by rw [hi])
end RUL
