/-! what a heap says, seen from the class (cS) and from the reference (mS): plan, terms, tape, its length, refusals, status, what is kept -/
def hC (h : xH) : Nat × (Nat → Nat → Nat → Int) × (Nat → Int) := ((h.2 4 0).toNat, (fun j => if j < (h.2 4 0).toNat then cv h (248 + 24 * (((h.2 4 1).toNat + 12 - (h.2 4 0).toNat + j) % 12)) else fun _ _ => 0), fun j => if j < (h.2 4 0).toNat then h.1 6 (((h.2 4 1).toNat + 12 - (h.2 4 0).toNat + j) % 12) else 0)
def uS (h : xH) (j : Nat) : Nat → Int := fun i => h.1 74 (400 * j + i)
def hM (h : xH) : Nat × (Nat → Nat → Nat → Int) × (Nat → Int) := ((h.2 70 9).toNat, (fun j => if j < (h.2 70 9).toNat then rv (uS h j) (h.2 70 2) (h.2 70 3) else fun _ _ => 0), fun j => if j < (h.2 70 9).toNat then h.1 75 j else 0)
abbrev AS := (Nat → Nat → Int) × (Nat → Int) × (Nat → Int) × Int × (Nat → Int) × Int × Nat × (Nat → Nat → Nat → Int) × (Nat → Int)
def cS (h : xH) : AS := (cv h 200, h.1 1, h.1 2, h.2 0 2, h.1 3, h.2 0 4, hC h)
def mS (h : xH) : AS := (vm h, h.1 72, h.1 78, h.2 70 13, h.1 71, h.2 70 1, hM h)
def up (f : Nat → Int) (j : Nat) (x : Int) : Nat → Int := fun k => if k = j then x else f k
def refS (s : AS) (k : Int) : Int × AS := (k, s.1, s.2.1, s.2.2.1, s.2.2.2.1, up s.2.2.2.2.1 (-k).toNat (s.2.2.2.2.1 (-k).toNat + 1), k, s.2.2.2.2.2.2)
def kpH (H : Nat × (Nat → Nat → Nat → Int) × (Nat → Int)) (v : Nat → Nat → Int) (k : Int) : Nat × (Nat → Nat → Nat → Int) × (Nat → Int) :=
  if H.1 = 12 then (12, (fun j => if j < 11 then H.2.1 (j + 1) else if j = 11 then v else fun _ _ => 0), fun j => if j < 11 then H.2.2 (j + 1) else if j = 11 then k else 0)
  else (H.1 + 1, (fun j => if j = H.1 then v else H.2.1 j), fun j => if j = H.1 then k else H.2.2 j)
def keepS (s : AS) (k : Int) : AS := (s.1, s.2.1, s.2.2.1, s.2.2.2.1, s.2.2.2.2.1, 0, kpH s.2.2.2.2.2.2 s.1 k)
/-- an answer v, the plan p now, kept for the act k -/
def actS (s : AS) (k v : Int) (p : Nat → Nat → Int) : Int × AS := (v, p, (keepS s k).2)
/-! raw blocks in any row -/
def RBr (R : Nat → Int) : Prop := ∀ k, k < 4 → (0 ≤ R (6 + 5 * k) ∧ R (6 + 5 * k) ≤ 31) ∧ (0 ≤ R (7 + 5 * k) ∧ R (7 + 5 * k) ≤ 31) ∧ (0 ≤ R (8 + 5 * k) ∧ R (8 + 5 * k) ≤ 4)
theorem RBr_m {h : xH} : RBr (h.1 73) = RBm h := rfl
def tlo (w : Nat) : Int := if w = 1 then 10 else if w = 2 then 0 else 1
def thi (w : Nat) : Int := if w = 1 then 100 else if w = 2 ∨ w = 5 then 99 else if w = 4 then 8 else 64
def trX (k : Nat) : Int := if k = 1 then -1 else if k = 2 then 1 else 0
def trY (k : Nat) : Int := if k = 3 then -1 else if k = 4 then 1 else 0
def OkS (h : xH) : Prop := (∀ w, w < 6 → h.1 97 w = tlo w ∧ h.1 98 w = thi w) ∧ (∀ k, k < 5 → h.1 99 k = trX k ∧ h.1 100 k = trY k)
def OkJ (h : xH) : Prop := ∀ p, p < 14 → JK h (200 + 24 * p) 200
def OkC (X : xL) (h : xH) : Prop := (0 ≤ h.2 4 0 ∧ h.2 4 0 ≤ 12) ∧ (0 ≤ h.2 4 1 ∧ h.2 4 1 ≤ 11) ∧ (h.2 7 0 = h.2 200 0 ∧ h.2 7 1 = h.2 200 1) ∧ (h.2 22 1 = (h.2 200 1 + 7).tdiv 8 ∧ h.2 22 0 = (h.2 200 1 + 7).tdiv 8 * (h.2 200 0 + 1).tdiv 2) ∧ OkJ h
def OkM (h : xH) : Prop := (0 ≤ h.2 70 9 ∧ h.2 70 9 ≤ 12) ∧ RBr (h.1 73) ∧ ∀ j, j < (h.2 70 9).toNat → RBr (uS h j)
/-- the layout: all that the heap never changes -/
def LO (X : xL) (h : xH) : Prop := (∃ nb ln, CT X (h.2 200 0 * h.2 200 1).toNat nb ln ∧ (nb : Int) = h.2 22 0) ∧ ∀ p, p < 14 → PL X (200 + 24 * p)
def Ok (X : xL) (h : xH) : Prop := NZ X h ∧ OkS h ∧ OkC X h ∧ OkM h ∧ LO X h
def FrC (h h2 : xH) : Prop := ∀ a, 70 ≤ a → a < 200 → h2.1 a = h.1 a ∧ h2.2 a = h.2 a
def FrM (h h2 : xH) : Prop := ∀ a, ¬ (70 ≤ a ∧ a < 96) → h2.1 a = h.1 a ∧ h2.2 a = h.2 a
/-- a step of the class, a step of the reference -/
def Cst (X : xL) (h h2 : xH) : Prop := NZ X h2 ∧ FrC h h2 ∧ ((0 ≤ h2.2 4 0 ∧ h2.2 4 0 ≤ 12) ∧ (0 ≤ h2.2 4 1 ∧ h2.2 4 1 ≤ 11)) ∧ (h2.2 7 0 = h.2 7 0 ∧ h2.2 7 1 = h.2 7 1 ∧ h2.2 22 0 = h.2 22 0 ∧ h2.2 22 1 = h.2 22 1) ∧ ∀ p, p < 14 → (∀ i, h2.2 (200 + 24 * p) i = h.2 (200 + 24 * p) i) ∧ ∀ j, j = 1 ∨ j = 6 ∨ j = 11 ∨ j = 19 → ∀ i, i ≠ 0 → h2.2 (200 + 24 * p + j) i = h.2 (200 + 24 * p + j) i
def Mst (X : xL) (h h2 : xH) : Prop := NZ X h2 ∧ FrM h h2 ∧ (h2.2 70 2 = h.2 70 2 ∧ h2.2 70 3 = h.2 70 3) ∧ OkM h2
section STP
variable {X : xL} {h h2 h3 : xH}
theorem ifc {α : Sort _} {c : Prop} [Decidable c] {a b d e : α} (h1 : c → a = b) (h2 : ¬ c → d = e) : (if c then a else d) = if c then b else e := by
  by_cases q : c
  · rw [if_pos q, if_pos q, h1 q]
  · rw [if_neg q, if_neg q, h2 q]
theorem rv_congr {R R2 : Nat → Int} {ro si : Int} (e : ∀ i, i < 400 → R i = R2 i) : rv R ro si = rv R2 ro si := by
  funext j i
  unfold rv
  repeat' (refine ifc (fun _ => ?_) (fun _ => ?_))
  all_goals first | rfl | (exact e _ (by omega)) | (rw [e (6 + 5 * i) (by omega), e (8 + 5 * i) (by omega)]) | (rw [e (7 + 5 * i) (by omega), e (8 + 5 * i) (by omega)])
theorem cv_congr {b : Nat} (e : ∀ a, b ≤ a → a < b + 24 → h2.1 a = h.1 a ∧ h2.2 a = h.2 a) : cv h2 b = cv h b := by
  funext j i
  unfold cv
  by_cases e1 : j = 0 ∨ j = 1 ∨ j = 6 ∨ j = 11 ∨ j = 19
  · rw [if_pos e1, if_pos e1, (e (b + j) (by omega) (by omega)).2]
  · rw [if_neg e1, if_neg e1]
    by_cases e2 : j < 24
    · rw [if_pos e2, if_pos e2, (e (b + j) (by omega) (by omega)).1]
    · rw [if_neg e2, if_neg e2]
theorem mS_fr (f : FrC h h2) : mS h2 = mS h := by
  have a := fun k (q : 70 ≤ k ∧ k < 200) => f k q.1 q.2
  unfold mS hM vm uS
  rw [(a 70 (by omega)).2, (a 72 (by omega)).1, (a 78 (by omega)).1, (a 71 (by omega)).1, (a 73 (by omega)).1, (a 74 (by omega)).1, (a 75 (by omega)).1]
theorem hC_congr (e4 : h2.2 4 = h.2 4) (e6 : h2.1 6 = h.1 6) (e : ∀ a, 248 ≤ a → a < 536 → h2.1 a = h.1 a ∧ h2.2 a = h.2 a) : hC h2 = hC h := by
  unfold hC
  rw [e4, e6]
  refine Prod.ext rfl (Prod.ext ?_ rfl)
  funext j
  dsimp only
  by_cases q : j < (h.2 4 0).toNat
  · rw [if_pos q, if_pos q]
    exact cv_congr (fun a h1 h2 => e a (by omega) (by omega))
  · rw [if_neg q, if_neg q]
theorem cS_fr (f : FrM h h2) : cS h2 = cS h := by
  have a := fun k (q : ¬ (70 ≤ k ∧ k < 96)) => f k q
  unfold cS
  rw [(a 1 (by omega)).1, (a 2 (by omega)).1, (a 0 (by omega)).2, (a 3 (by omega)).1, hC_congr (a 4 (by omega)).2 (a 6 (by omega)).1 (fun k q1 q2 => a k (by omega)), cv_congr (fun k q1 q2 => a k (by omega))]
theorem Cst.ok (k : Ok X h) (c : Cst X h h2) : Ok X h2 := by
  obtain ⟨k1, k2, ⟨k3, k4, k5, k6, k7⟩, k8, ⟨nb, ln, k9, k10⟩, k11⟩ := k
  obtain ⟨c1, c2, c3, c4, c5⟩ := c
  have a := fun k (q : 70 ≤ k ∧ k < 200) => c2 k q.1 q.2
  have r := c5 0 (by decide)
  have r0 := r.1 0
  have r1 := r.1 1
  rw [Nat.mul_zero, Nat.add_zero] at r0 r1
  refine ⟨c1, ?_, ⟨c3.1, c3.2, ?_, ?_, ?_⟩, ?_, ⟨⟨nb, ln, ?_, ?_⟩, k11⟩⟩
  · unfold OkS
    rw [(a 97 (by omega)).1, (a 98 (by omega)).1, (a 99 (by omega)).1, (a 100 (by omega)).1]
    exact k2
  · rw [c4.1, c4.2.1, r0, r1]; exact k5
  · rw [c4.2.2.1, c4.2.2.2, r0, r1]; exact k6
  · intro p hp
    have q := k7 p hp
    have q2 := c5 p hp
    have q3 := r
    rw [Nat.mul_zero, Nat.add_zero] at q3
    refine ⟨fun i => ?_, fun j hj i hi => ?_⟩
    · rw [q2.1, q3.1]; exact q.1 i
    · rw [q2.2 j hj i hi, q3.2 j hj i hi]; exact q.2 j hj i hi
  · unfold OkM uS
    rw [(a 70 (by omega)).2, (a 73 (by omega)).1, (a 74 (by omega)).1]
    exact k8
  · rw [r0, r1]; exact k9
  · rw [c4.2.2.1]; exact k10
theorem Mst.ok (k : Ok X h) (c : Mst X h h2) : Ok X h2 := by
  obtain ⟨k1, k2, ⟨k3, k4, k5, k6, k7⟩, k8, ⟨nb, ln, k9, k10⟩, k11⟩ := k
  obtain ⟨c1, c2, c3, c4⟩ := c
  have a := fun k (q : ¬ (70 ≤ k ∧ k < 96)) => c2 k q
  refine ⟨c1, ?_, ?_, c4, ⟨nb, ln, ?_, ?_⟩, k11⟩
  · unfold OkS
    rw [(a 97 (by omega)).1, (a 98 (by omega)).1, (a 99 (by omega)).1, (a 100 (by omega)).1]
    exact k2
  · unfold OkC
    rw [(a 4 (by omega)).2, (a 7 (by omega)).2, (a 200 (by omega)).2, (a 22 (by omega)).2]
    refine ⟨k3, k4, k5, k6, fun p hp => ?_⟩
    have q := k7 p hp
    unfold JK
    rw [(a (200 + 24 * p) (by omega)).2, (a 200 (by omega)).2]
    refine ⟨q.1, fun j hj i hi => ?_⟩
    rw [(a (200 + 24 * p + j) (by omega)).2, (a (200 + j) (by omega)).2]
    exact q.2 j hj i hi
  · rw [(a 200 (by omega)).2]; exact k9
  · rw [(a 22 (by omega)).2]; exact k10
end STP
