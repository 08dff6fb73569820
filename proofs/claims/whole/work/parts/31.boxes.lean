/-! small things that the executions need -/
theorem inR_t {z : Int} (h : inR z) : inR z ↔ True := ⟨fun _ => trivial, fun _ => h⟩
theorem bd_t {j : Int} {n : Nat} (h : 0 ≤ j ∧ j < (n : Int)) : (0 ≤ j ∧ j < (n : Int)) ↔ True := ⟨fun _ => trivial, fun _ => h⟩
theorem if_true_x {α : Sort _} {a b : α} : (if True then a else b) = a := if_pos trivial
theorem if_false_x {α : Sort _} {a b : α} : (if False then a else b) = b := if_neg (fun h => h)
theorem natL {n : Nat} : ((OfNat.ofNat n : Nat) : Int) = OfNat.ofNat n := rfl
theorem cast_s {i : Nat} : (i : Int) + 1 = ((i + 1 : Nat) : Int) := rfl
def bI (b : Bool) : Int := if b = true then 1 else 0
theorem bI_0 {b : Bool} : (bI b = 0) ↔ b = false := by cases b <;> decide
theorem bI_n0 {b : Bool} : (¬ bI b = 0) ↔ b = true := by cases b <;> decide
theorem bI_in {b : Bool} : (bI b = 0 ∨ bI b = 1) ↔ True := by cases b <;> decide
theorem bI_1 {b : Bool} : (bI b = 1) ↔ b = true := by cases b <;> decide
theorem bI_ft {b : Bool} : (b = false ∨ b = true) ↔ True := by cases b <;> simp
theorem bI_t : bI true = 1 := rfl
theorem bI_f : bI false = 0 := rfl
theorem bI_p {c : Prop} [Decidable c] {P : Int → Prop} : (if c then P 1 else P 0) ↔ P (bI (decide c)) := by
  by_cases h : c
  · rw [if_pos h, decide_eq_true h]; rfl
  · rw [if_neg h, decide_eq_false h]; rfl
/-- does one of m from i on have it -/
def srch (p : Nat → Bool) : Nat → Nat → Bool
  | 0, _ => false
  | m + 1, i => if p i = true then true else srch p m (i + 1)
def anyB (p : Nat → Bool) (n : Nat) : Bool := srch p n 0
theorem srch_iff {p : Nat → Bool} : ∀ (m i : Nat), srch p m i = true ↔ ∃ j, i ≤ j ∧ j < i + m ∧ p j = true
  | 0, i => ⟨fun h => (by cases h), fun ⟨j, h1, h2, _⟩ => (by omega)⟩
  | m + 1, i => by
    rw [srch]
    by_cases h : p i = true
    · rw [if_pos h]
      exact ⟨fun _ => ⟨i, by omega, by omega, h⟩, fun _ => rfl⟩
    · rw [if_neg h, srch_iff m (i + 1)]
      constructor
      · rintro ⟨j, h1, h2, h3⟩
        exact ⟨j, by omega, by omega, h3⟩
      · rintro ⟨j, h1, h2, h3⟩
        refine ⟨j, ?_, by omega, h3⟩
        rcases Nat.lt_or_ge i j with q | q
        · omega
        · have : j = i := by omega
          subst this
          exact absurd h3 h
theorem anyB_iff {p : Nat → Bool} {n : Nat} : anyB p n = true ↔ ∃ j, j < n ∧ p j = true := by
  unfold anyB
  rw [srch_iff]
  exact ⟨fun ⟨j, _, h2, h3⟩ => ⟨j, by omega, h3⟩, fun ⟨j, h2, h3⟩ => ⟨j, by omega, by omega, h3⟩⟩
theorem bIf {e : Bool} {h : xH} {Q : Option xV → xH → Prop} (he : ¬ e = true) : Q (some (vi 0)) h ↔ Q (some (vi (bI e))) h := by
  cases e
  · exact Iff.rfl
  · exact absurd rfl he
theorem bIt {e : Bool} {h : xH} {Q : Option xV → xH → Prop} (he : e = true) : Q (some (vi 1)) h ↔ Q (some (vi (bI e))) h := by
  rw [he]
  exact Iff.rfl
theorem srch_t {p : Nat → Bool} {m i : Nat} (h : p i = true) : srch p (m + 1) i = true := by rw [srch, if_pos h]
theorem srch_f {p : Nat → Bool} {m i : Nat} (h : ¬ p i = true) : srch p (m + 1) i = srch p m (i + 1) := by rw [srch, if_neg h]
theorem bIs {p : Nat → Bool} {m i : Nat} {h : xH} {Q : Option xV → xH → Prop} (he : ¬ p i = true) : Q (some (vi (bI (srch p m (i + 1))))) h ↔ Q (some (vi (bI (srch p (m + 1) i)))) h := by
  rw [srch_f he]
/-- boxes of four rows behind their object -/
def BX (X : xL) (o cap : Nat) : Prop := X.1 o = 2 ∧ (∀ k, 1 ≤ k → k ≤ 4 → X.2.2.1 o k = o + k ∧ X.1 (o + k) = 13 ∧ X.2.1 (o + k) = cap)
def ovP (h : xH) (o : Nat) (lo hi f l : Int) (j : Nat) : Bool := decide (h.1 (o + 1) j ≤ hi) && decide (lo ≤ h.1 (o + 2) j) && decide (h.1 (o + 3) j ≤ l) && decide (f ≤ h.1 (o + 4) j)
section BOX
variable {X : xL} {o cap n : Nat} {h : xH} {Q : Option xV → xH → Prop}
theorem BX.r1 (hb : BX X o cap) : X.2.2.1 o 1 = o + 1 := (hb.2 1 (by decide) (by decide)).1
theorem BX.r2 (hb : BX X o cap) : X.2.2.1 o 2 = o + 2 := (hb.2 2 (by decide) (by decide)).1
theorem BX.r3 (hb : BX X o cap) : X.2.2.1 o 3 = o + 3 := (hb.2 3 (by decide) (by decide)).1
theorem BX.r4 (hb : BX X o cap) : X.2.2.1 o 4 = o + 4 := (hb.2 4 (by decide) (by decide)).1
theorem BX.t1 (hb : BX X o cap) : X.1 (o + 1) = 13 := (hb.2 1 (by decide) (by decide)).2.1
theorem BX.t2 (hb : BX X o cap) : X.1 (o + 2) = 13 := (hb.2 2 (by decide) (by decide)).2.1
theorem BX.t3 (hb : BX X o cap) : X.1 (o + 3) = 13 := (hb.2 3 (by decide) (by decide)).2.1
theorem BX.t4 (hb : BX X o cap) : X.1 (o + 4) = 13 := (hb.2 4 (by decide) (by decide)).2.1
theorem BX.z1 (hb : BX X o cap) : X.2.1 (o + 1) = cap := (hb.2 1 (by decide) (by decide)).2.2
theorem BX.z2 (hb : BX X o cap) : X.2.1 (o + 2) = cap := (hb.2 2 (by decide) (by decide)).2.2
theorem BX.z3 (hb : BX X o cap) : X.2.1 (o + 3) = cap := (hb.2 3 (by decide) (by decide)).2.2
theorem BX.z4 (hb : BX X o cap) : X.2.1 (o + 4) = cap := (hb.2 4 (by decide) (by decide)).2.2
set_option maxHeartbeats 1000000 in
theorem m_17 (hb : BX X o cap) {j : Int} {r f l : Int} (h0 : 0 ≤ j) (h1 : j < cap) : Cl X 17 [vr o, vi j, vi r, vi f, vi l] h Q ↔ Q (some (vi (bI (ovP h o r r l f j.toNat)))) h := by
  rw [c_17]
  simp (disch := first | assumption | omega) only [e_17_0, e_17_1, e_17_2, e_17_3, e_17_4, e_17_5, e_17_6, e_17_7, e_17_8, e_17_9, e_17_10, e_17_11, e_17_12, e_17_13, e_17_14, e_17_15, e_17_16, e_17_17, e_17_18, e_17_19, e_17_20, e_17_21, e_17_22, e_17_23, e_17_24, e_17_25, e_17_26, e_17_27, onI_s, onR_s, onL_s, gl_0, gl_n, gl_1, gl_2, gl_3, gl_4, gl_5, gl_6, gl_7, gl_8, gl_9, gl_10, gl_11, gl_12, gl_13, gl_14, gl_15, gl_16, gl_17, sk0i, sk0r, sk0n, sk1i, sk1r, sk1n, sk_2, sk_3, sk_4, sk_5, sk_6, sk_7, sk_8, sk_9, sk_10, sk_11, sk_12, sk_13, sk_14, sk_15, sk_16, sk_17, ls_0, ls_1, ls_2, ls_3, ls_4, ls_5, ls_6, ls_7, ls_8, ls_9, ls_10, ls_11, ls_12, ls_13, ls_14, ls_15, ls_16, ls_17, ct1_i, ct1_r, wd8_0, wd8_i1, wd8_r1, wd8_i2, wd8_r2, wd8_i3, wd8_r3, wd8_i4, wd8_r4, wd8_i5, wd8_r5, wd8_i6, wd8_r6, wd8_i7, wd8_r7, wd8_i8, wd8_r8, wd8_l2, wd8_l3, wd8_l4, wd8_l5, wd8_l6, wd8_l7, wd8_l8, tl_s, tl_n, inR_t, bd_t, true_and, and_true, true_or, or_true, if_pos, if_neg, Int.toNat_natCast, natL, bI_0, bI_1, bI_ft, eq_self, b_tf, b_ft, hb.1, hb.r1, hb.r2, hb.r3, hb.r4, hb.t1, hb.t2, hb.t3, hb.t4, hb.z1, hb.z2, hb.z3, hb.z4]
  ((repeat' split); all_goals first | exact Iff.rfl | (refine bIf (fun hx => ?_); ((try simp only [ovP, Bool.and_eq_true, Bool.or_eq_true, Bool.not_eq_true, Bool.not_eq_true', decide_eq_true_eq, decide_eq_false_iff_not] at hx); (try simp only [cv_0, cv_1, cv_2, cv_3, cv_4, cv_5, cv_6, cv_7, cv_8, cv_9, cv_10, cv_11, cv_12, cv_13, cv_14, cv_15, cv_16, cv_17, cv_18, cv_19, cv_20, cv_21, cv_22, cv_23] at hx); first | omega | (simp_all; done) | (simp_all; omega))) | (refine bIt (srch_t ?_); ((try simp only [ovP, Bool.and_eq_true, Bool.or_eq_true, Bool.not_eq_true, Bool.not_eq_true', decide_eq_true_eq, decide_eq_false_iff_not]); (try simp only [cv_0, cv_1, cv_2, cv_3, cv_4, cv_5, cv_6, cv_7, cv_8, cv_9, cv_10, cv_11, cv_12, cv_13, cv_14, cv_15, cv_16, cv_17, cv_18, cv_19, cv_20, cv_21, cv_22, cv_23]); first | omega | (simp_all; done) | (simp_all; omega))) | (refine bIs (fun hx => ?_); ((try simp only [ovP, Bool.and_eq_true, Bool.or_eq_true, Bool.not_eq_true, Bool.not_eq_true', decide_eq_true_eq, decide_eq_false_iff_not] at hx); (try simp only [cv_0, cv_1, cv_2, cv_3, cv_4, cv_5, cv_6, cv_7, cv_8, cv_9, cv_10, cv_11, cv_12, cv_13, cv_14, cv_15, cv_16, cv_17, cv_18, cv_19, cv_20, cv_21, cv_22, cv_23] at hx); first | omega | (simp_all; done) | (simp_all; omega))) | (refine bIt ?_; ((try simp only [ovP, Bool.and_eq_true, Bool.or_eq_true, Bool.not_eq_true, Bool.not_eq_true', decide_eq_true_eq, decide_eq_false_iff_not]); (try simp only [cv_0, cv_1, cv_2, cv_3, cv_4, cv_5, cv_6, cv_7, cv_8, cv_9, cv_10, cv_11, cv_12, cv_13, cv_14, cv_15, cv_16, cv_17, cv_18, cv_19, cv_20, cv_21, cv_22, cv_23]); first | omega | (simp_all; done) | (simp_all; omega))) | (exfalso; omega) | (simp_all; done))
set_option maxHeartbeats 1000000 in
theorem l_16 (hb : BX X o cap) (hs : h.2 o 0 = n) (hn : n ≤ cap) (hc : cap ≤ 4) {lo hi f l : Int} : ∀ (m i : Nat), i + m = n → (Ev X 16 2 [some (vr o), some (vi lo), some (vi hi), some (vi f), some (vi l), some (vi i)] [] h Q ↔ Q (some (vi (bI (srch (ovP h o lo hi f l) m i)))) h) := by
  intro m
  induction m with
  | zero =>
    intro i hi
    rw [e_16_2]
    simp (disch := first | assumption | omega) only [e_16_3, e_16_4, e_16_5, e_16_34, e_16_35, onI_s, onR_s, onL_s, gl_0, gl_n, gl_1, gl_2, gl_3, gl_4, gl_5, gl_6, gl_7, gl_8, gl_9, gl_10, gl_11, gl_12, gl_13, gl_14, gl_15, gl_16, gl_17, sk0i, sk0r, sk0n, sk1i, sk1r, sk1n, sk_2, sk_3, sk_4, sk_5, sk_6, sk_7, sk_8, sk_9, sk_10, sk_11, sk_12, sk_13, sk_14, sk_15, sk_16, sk_17, ls_0, ls_1, ls_2, ls_3, ls_4, ls_5, ls_6, ls_7, ls_8, ls_9, ls_10, ls_11, ls_12, ls_13, ls_14, ls_15, ls_16, ls_17, ct1_i, ct1_r, wd8_0, wd8_i1, wd8_r1, wd8_i2, wd8_r2, wd8_i3, wd8_r3, wd8_i4, wd8_r4, wd8_i5, wd8_r5, wd8_i6, wd8_r6, wd8_i7, wd8_r7, wd8_i8, wd8_r8, wd8_l2, wd8_l3, wd8_l4, wd8_l5, wd8_l6, wd8_l7, wd8_l8, tl_s, tl_n, inR_t, bd_t, true_and, and_true, true_or, or_true, if_pos, if_neg, Int.toNat_natCast, natL, bI_0, bI_1, bI_ft, eq_self, b_tf, b_ft, hb.1, hs]
    exact Iff.rfl
  | succ m ih =>
    intro i hi
    rw [e_16_2]
    simp (disch := first | assumption | omega) only [e_16_3, e_16_4, e_16_5, e_16_6, e_16_7, e_16_8, e_16_9, e_16_10, e_16_11, e_16_12, e_16_13, e_16_14, e_16_15, e_16_16, e_16_17, e_16_18, e_16_19, e_16_20, e_16_21, e_16_22, e_16_23, e_16_24, e_16_25, e_16_26, e_16_27, e_16_28, e_16_29, e_16_30, e_16_31, e_16_32, e_16_33, onI_s, onR_s, onL_s, gl_0, gl_n, gl_1, gl_2, gl_3, gl_4, gl_5, gl_6, gl_7, gl_8, gl_9, gl_10, gl_11, gl_12, gl_13, gl_14, gl_15, gl_16, gl_17, sk0i, sk0r, sk0n, sk1i, sk1r, sk1n, sk_2, sk_3, sk_4, sk_5, sk_6, sk_7, sk_8, sk_9, sk_10, sk_11, sk_12, sk_13, sk_14, sk_15, sk_16, sk_17, ls_0, ls_1, ls_2, ls_3, ls_4, ls_5, ls_6, ls_7, ls_8, ls_9, ls_10, ls_11, ls_12, ls_13, ls_14, ls_15, ls_16, ls_17, ct1_i, ct1_r, wd8_0, wd8_i1, wd8_r1, wd8_i2, wd8_r2, wd8_i3, wd8_r3, wd8_i4, wd8_r4, wd8_i5, wd8_r5, wd8_i6, wd8_r6, wd8_i7, wd8_r7, wd8_i8, wd8_r8, wd8_l2, wd8_l3, wd8_l4, wd8_l5, wd8_l6, wd8_l7, wd8_l8, tl_s, tl_n, inR_t, bd_t, true_and, and_true, true_or, or_true, if_pos, if_neg, Int.toNat_natCast, natL, bI_0, bI_1, bI_ft, eq_self, b_tf, b_ft, hb.1, hs, hb.r1, hb.r2, hb.r3, hb.r4, hb.t1, hb.t2, hb.t3, hb.t4, hb.z1, hb.z2, hb.z3, hb.z4]
    simp only [cast_s, ih (i + 1) (by omega)]
    ((repeat' split); all_goals first | exact Iff.rfl | (refine bIf (fun hx => ?_); ((try simp only [ovP, Bool.and_eq_true, Bool.or_eq_true, Bool.not_eq_true, Bool.not_eq_true', decide_eq_true_eq, decide_eq_false_iff_not] at hx); (try simp only [cv_0, cv_1, cv_2, cv_3, cv_4, cv_5, cv_6, cv_7, cv_8, cv_9, cv_10, cv_11, cv_12, cv_13, cv_14, cv_15, cv_16, cv_17, cv_18, cv_19, cv_20, cv_21, cv_22, cv_23] at hx); first | omega | (simp_all; done) | (simp_all; omega))) | (refine bIt (srch_t ?_); ((try simp only [ovP, Bool.and_eq_true, Bool.or_eq_true, Bool.not_eq_true, Bool.not_eq_true', decide_eq_true_eq, decide_eq_false_iff_not]); (try simp only [cv_0, cv_1, cv_2, cv_3, cv_4, cv_5, cv_6, cv_7, cv_8, cv_9, cv_10, cv_11, cv_12, cv_13, cv_14, cv_15, cv_16, cv_17, cv_18, cv_19, cv_20, cv_21, cv_22, cv_23]); first | omega | (simp_all; done) | (simp_all; omega))) | (refine bIs (fun hx => ?_); ((try simp only [ovP, Bool.and_eq_true, Bool.or_eq_true, Bool.not_eq_true, Bool.not_eq_true', decide_eq_true_eq, decide_eq_false_iff_not] at hx); (try simp only [cv_0, cv_1, cv_2, cv_3, cv_4, cv_5, cv_6, cv_7, cv_8, cv_9, cv_10, cv_11, cv_12, cv_13, cv_14, cv_15, cv_16, cv_17, cv_18, cv_19, cv_20, cv_21, cv_22, cv_23] at hx); first | omega | (simp_all; done) | (simp_all; omega))) | (refine bIt ?_; ((try simp only [ovP, Bool.and_eq_true, Bool.or_eq_true, Bool.not_eq_true, Bool.not_eq_true', decide_eq_true_eq, decide_eq_false_iff_not]); (try simp only [cv_0, cv_1, cv_2, cv_3, cv_4, cv_5, cv_6, cv_7, cv_8, cv_9, cv_10, cv_11, cv_12, cv_13, cv_14, cv_15, cv_16, cv_17, cv_18, cv_19, cv_20, cv_21, cv_22, cv_23]); first | omega | (simp_all; done) | (simp_all; omega))) | (exfalso; omega) | (simp_all; done))
end BOX
