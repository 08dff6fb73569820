/-! RUNS: where those of one row and fence stand among all -/
def fnL (r : Nat) (f : Int) (i : Int) : List Rn → Nat → Int → Int → Int
  | [], _, _, its => its
  | x :: L, k, n, its => if x.1 = r ∧ x.2.1 = f then fnL r f i L (k + 1) (n + 1) (if n = i then (k : Int) else its) else fnL r f i L (k + 1) n its
theorem fnL_no {r : Nat} {f i : Int} {B : List Rn} : ∀ (A : List Rn) (k : Nat) (n its : Int), (∀ x, x ∈ A → ¬ (x.1 = r ∧ x.2.1 = f)) → fnL r f i (A ++ B) k n its = fnL r f i B (k + A.length) n its
  | [], k, n, its, _ => rfl
  | x :: A, k, n, its, h => by
    rw [List.cons_append, fnL, if_neg (h x (by simp)), fnL_no A (k + 1) n its (fun y hy => h y (by simp [hy])), List.length_cons, show k + 1 + A.length = k + (A.length + 1) by omega]
theorem fnL_al {r : Nat} {f i : Int} {B : List Rn} : ∀ (A : List (Nat × Nat)) (k : Nat) (n its : Int), fnL r f i (A.map (tgR r f) ++ B) k n its = fnL r f i B (k + A.length) (n + A.length) (if n ≤ i ∧ i < n + A.length then k + (i - n) else its)
  | [], k, n, its => by
    rw [if_neg (by simp)]
    simp
  | x :: A, k, n, its => by
    rw [List.map_cons, List.cons_append, fnL, if_pos ⟨rfl, rfl⟩, fnL_al A (k + 1) (n + 1), List.length_cons, show k + 1 + A.length = k + (A.length + 1) by omega, show n + 1 + (A.length : Int) = n + ((A.length + 1 : Nat) : Int) by omega]
    congr 1
    by_cases c : n = i
    · rw [if_pos c, if_neg (by omega), if_pos (by omega)]
      omega
    · rw [if_neg c]
      by_cases d : n + 1 ≤ i ∧ i < n + ((A.length + 1 : Nat) : Int)
      · rw [if_pos d, if_pos (by omega)]
        omega
      · rw [if_neg d, if_neg (by omega)]
theorem rnF_dec {v : Nat → Nat → Int} {r j : Nat} : ∀ n : Nat, j < n → ∃ P, rnF v r n = rnF v r j ++ (rnR v r ((j : Int) - 1)).map (tgR r ((j : Int) - 1)) ++ P ∧ ∀ x, x ∈ P → x.1 = r ∧ (j : Int) - 1 < x.2.1
  | 0, h => by omega
  | n + 1, h => by
    by_cases c : j = n
    · subst c
      exact ⟨[], by rw [rnF, List.append_nil], fun x hx => by simp at hx⟩
    · obtain ⟨P, e, hp⟩ := rnF_dec (v := v) (r := r) (j := j) n (by omega)
      refine ⟨P ++ (rnR v r ((n : Int) - 1)).map (tgR r ((n : Int) - 1)), by rw [rnF, e, List.append_assoc], fun x hx => ?_⟩
      rcases List.mem_append.mp hx with q | q
      · exact hp x q
      · obtain ⟨y, _, rfl⟩ := List.mem_map.mp q
        refine ⟨rfl, ?_⟩
        show (j : Int) - 1 < (n : Int) - 1
        omega
theorem rnF_in {v : Nat → Nat → Int} {r : Nat} : ∀ n : Nat, ∀ x, x ∈ rnF v r n → x.1 = r ∧ x.2.1 < (n : Int) - 1 ∧ -1 ≤ x.2.1 ∧ (x.2.2.1, x.2.2.2) ∈ rnR v r x.2.1
  | 0, x, h => by simp [rnF] at h
  | n + 1, x, h => by
    rw [rnF] at h
    rcases List.mem_append.mp h with q | q
    · have := rnF_in n x q
      refine ⟨this.1, by omega, this.2.2⟩
    · obtain ⟨y, hy, rfl⟩ := List.mem_map.mp q
      refine ⟨rfl, ?_, ?_, hy⟩
      · show (n : Int) - 1 < _
        omega
      · show -1 ≤ (n : Int) - 1
        omega
theorem rnA_in {v : Nat → Nat → Int} : ∀ n : Nat, ∀ x, x ∈ rnA v n → x.1 < n ∧ x ∈ rnF v x.1 ((v 6 0).toNat + 1)
  | 0, x, h => by simp [rnA] at h
  | n + 1, x, h => by
    rw [rnA] at h
    rcases List.mem_append.mp h with q | q
    · have := rnA_in n x q
      exact ⟨by omega, this.2⟩
    · have := rnF_in _ x q
      rw [this.1]
      exact ⟨by omega, q⟩
theorem rnA_dec {v : Nat → Nat → Int} {r : Nat} : ∀ n : Nat, r < n → ∃ P, rnA v n = rnA v r ++ rnF v r ((v 6 0).toNat + 1) ++ P ∧ ∀ x, x ∈ P → r < x.1
  | 0, h => by omega
  | n + 1, h => by
    by_cases c : r = n
    · subst c
      exact ⟨[], by rw [rnA, List.append_nil], fun x hx => by simp at hx⟩
    · obtain ⟨P, e, hp⟩ := rnA_dec (v := v) (r := r) n (by omega)
      refine ⟨P ++ rnF v n ((v 6 0).toNat + 1), by rw [rnA, e, List.append_assoc], fun x hx => ?_⟩
      rcases List.mem_append.mp hx with q | q
      · exact hp x q
      · have := rnF_in _ x q
        omega
/-- among all runs, those of one row and fence are one stretch -/
theorem rn_dec {v : Nat → Nat → Int} {r : Nat} {f : Int} (k : rkB v r f = true) : ∃ A P : List Rn, rnL v = A ++ ((rnR v r f).map (tgR r f) ++ P) ∧ (∀ x, x ∈ A → ¬ (x.1 = r ∧ x.2.1 = f)) ∧ (∀ x, x ∈ P → ¬ (x.1 = r ∧ x.2.1 = f)) := by
  have q := of_decide_eq_true k
  obtain ⟨P1, e1, h1⟩ := rnA_dec (v := v) (r := r) (v 0 0).toNat (by omega)
  obtain ⟨j, hj⟩ : ∃ j : Nat, (j : Int) - 1 = f := ⟨(f + 1).toNat, by omega⟩
  obtain ⟨P2, e2, h2⟩ := rnF_dec (v := v) (r := r) (j := j) ((v 6 0).toNat + 1) (by omega)
  rw [hj] at e2 h2
  refine ⟨rnA v r ++ rnF v r j, P2 ++ P1, ?_, ?_, ?_⟩
  · unfold rnL
    rw [e1, e2]
    simp only [List.append_assoc]
  · intro x hx
    rcases List.mem_append.mp hx with y | y
    · have := (rnA_in _ x y).1
      omega
    · have := rnF_in _ x y
      omega
  · intro x hx
    rcases List.mem_append.mp hx with y | y
    · have := h2 x y
      omega
    · have := h1 x y
      omega
theorem fnL_rn {v : Nat → Nat → Int} {r : Nat} {f i : Int} {A P : List Rn} (e : rnL v = A ++ ((rnR v r f).map (tgR r f) ++ P)) (hA : ∀ x, x ∈ A → ¬ (x.1 = r ∧ x.2.1 = f)) (hP : ∀ x, x ∈ P → ¬ (x.1 = r ∧ x.2.1 = f)) : fnL r f i (rnL v) 0 0 (-1) = if 0 ≤ i ∧ i < (rnR v r f).length then (A.length : Int) + i else -1 := by
  have := fnL_no (i := i) (B := []) P (0 + A.length + (rnR v r f).length) (0 + (rnR v r f).length) (if 0 ≤ i ∧ i < 0 + ((rnR v r f).length : Int) then ((0 + A.length : Nat) : Int) + (i - 0) else -1) hP
  rw [List.append_nil, fnL] at this
  rw [e, fnL_no A 0 0 (-1) hA, fnL_al, this]
  simp
section FRM
variable {X : xL} {Q : Option xV → xH → Prop} {ns nb ln : Nat} {h : xH}
set_option maxHeartbeats 4000000 in
theorem m_232 (hc : CT X ns nb ln) {r : Nat} {f i : Int} {L : List Rn} (hn : h.2 70 18 = L.length) (l256 : L.length ≤ 256) (ro : RO (h.1 79) (h.1 80) (h.1 81) (h.1 82) L) : Cl X 232 [vr 70, vi r, vi f, vi i] h Q ↔ Q (some (vi (fnL r f i L 0 0 (-1)))) h := by
  have lp : ∀ (M : List Rn) (k : Nat) (n its : Int), L.drop k = M → k + M.length = L.length → 0 ≤ n → n ≤ k → (Ev X 232 6 [some (vr 70), some (vi r), some (vi f), some (vi i), some (vi n), some (vi its), some (vi k)] [] h Q ↔ Q (some (vi (fnL r f i M k n its))) h) := by
    intro M
    induction M with
    | nil =>
      intro k n its hd hk n0 n1
      simp at hk
      rw [e_232_6]
      simp (disch := first | assumption | omega) only [e_232_7, e_232_8, e_232_9, e_232_32, e_232_33, onI_s, onR_s, onL_s, gl_0, gl_n, gl_1, gl_2, gl_3, gl_4, gl_5, gl_6, gl_7, gl_8, gl_9, gl_10, gl_11, gl_12, gl_13, gl_14, gl_15, gl_16, gl_17, sk0i, sk0r, sk0n, sk1i, sk1r, sk1n, sk_2, sk_3, sk_4, sk_5, sk_6, sk_7, sk_8, sk_9, sk_10, sk_11, sk_12, sk_13, sk_14, sk_15, sk_16, sk_17, ls_0, ls_1, ls_2, ls_3, ls_4, ls_5, ls_6, ls_7, ls_8, ls_9, ls_10, ls_11, ls_12, ls_13, ls_14, ls_15, ls_16, ls_17, ct1_i, ct1_r, wd8_0, wd8_i1, wd8_r1, wd8_i2, wd8_r2, wd8_i3, wd8_r3, wd8_i4, wd8_r4, wd8_i5, wd8_r5, wd8_i6, wd8_r6, wd8_i7, wd8_r7, wd8_i8, wd8_r8, wd8_l2, wd8_l3, wd8_l4, wd8_l5, wd8_l6, wd8_l7, wd8_l8, tl_s, tl_n, inR_t, bd_t, true_and, and_true, true_or, or_true, if_true_x, if_false_x, if_pos, if_neg, Int.toNat_natCast, natL, bI_0, bI_1, bI_ft, eq_self, b_tf, b_ft, not_true_eq_false, not_false_eq_true, hn, hc.t70, hc.r70_4, hc.r70_5, hc.r70_6, hc.r70_7, hc.r70_8, hc.r70_10, hc.r70_11, hc.r70_12, hc.r70_14, hc.r70_15, hc.r70_16, hc.r70_17, hc.r70_19, hc.r70_21, hc.r70_23, hc.r70_24, hc.r70_26, hc.r70_27, hc.r70_28, hc.r70_29, hc.r70_30, hc.r70_31, hc.r70_32, hc.r70_33, hc.r70_36]
      rfl
    | cons x M ih =>
      intro k n its hd hk n0 n1
      rw [List.length_cons] at hk
      have kl : k < L.length := by omega
      have hx : L[k]? = some x := by
        have := List.getElem?_drop (xs := L) (i := k) (j := 0)
        rw [hd] at this
        simpa using this.symm
      have hd2 : L.drop (k + 1) = M := by
        rw [← List.drop_drop, hd]
        rfl
      obtain ⟨r1, r2, _, _⟩ := ro k x hx
      rw [e_232_6, fnL]
      by_cases c1 : x.1 = r
      · by_cases c2 : x.2.1 = f
        · rw [if_pos ⟨c1, c2⟩]
          by_cases c3 : n = i
          · rw [if_pos c3, ← ih (k + 1) (n + 1) k hd2 (by omega) (by omega) (by omega)]
            simp (disch := first | assumption | omega) only [e_232_7, e_232_8, e_232_9, e_232_10, e_232_11, e_232_12, e_232_13, e_232_14, e_232_15, e_232_16, e_232_17, e_232_18, e_232_19, e_232_20, e_232_21, e_232_22, e_232_23, e_232_24, e_232_25, e_232_26, e_232_28, e_232_29, e_232_30, e_232_31, onI_s, onR_s, onL_s, gl_0, gl_n, gl_1, gl_2, gl_3, gl_4, gl_5, gl_6, gl_7, gl_8, gl_9, gl_10, gl_11, gl_12, gl_13, gl_14, gl_15, gl_16, gl_17, sk0i, sk0r, sk0n, sk1i, sk1r, sk1n, sk_2, sk_3, sk_4, sk_5, sk_6, sk_7, sk_8, sk_9, sk_10, sk_11, sk_12, sk_13, sk_14, sk_15, sk_16, sk_17, ls_0, ls_1, ls_2, ls_3, ls_4, ls_5, ls_6, ls_7, ls_8, ls_9, ls_10, ls_11, ls_12, ls_13, ls_14, ls_15, ls_16, ls_17, ct1_i, ct1_r, wd8_0, wd8_i1, wd8_r1, wd8_i2, wd8_r2, wd8_i3, wd8_r3, wd8_i4, wd8_r4, wd8_i5, wd8_r5, wd8_i6, wd8_r6, wd8_i7, wd8_r7, wd8_i8, wd8_r8, wd8_l2, wd8_l3, wd8_l4, wd8_l5, wd8_l6, wd8_l7, wd8_l8, tl_s, tl_n, inR_t, bd_t, true_and, and_true, true_or, or_true, if_true_x, if_false_x, if_pos, if_neg, Int.toNat_natCast, natL, bI_0, bI_1, bI_ft, eq_self, b_tf, b_ft, not_true_eq_false, not_false_eq_true, hn, r1, r2, c1, c2, c3, Int.toNat_natCast, cast_s, hc.t70, hc.r70_4, hc.r70_5, hc.r70_6, hc.r70_7, hc.r70_8, hc.r70_10, hc.r70_11, hc.r70_12, hc.r70_14, hc.r70_15, hc.r70_16, hc.r70_17, hc.r70_19, hc.r70_21, hc.r70_23, hc.r70_24, hc.r70_26, hc.r70_27, hc.r70_28, hc.r70_29, hc.r70_30, hc.r70_31, hc.r70_32, hc.r70_33, hc.r70_36, hc.t79, hc.z79, hc.t80, hc.z80]
          · rw [if_neg c3, ← ih (k + 1) (n + 1) its hd2 (by omega) (by omega) (by omega)]
            simp (disch := first | assumption | omega) only [e_232_7, e_232_8, e_232_9, e_232_10, e_232_11, e_232_12, e_232_13, e_232_14, e_232_15, e_232_16, e_232_17, e_232_18, e_232_19, e_232_20, e_232_21, e_232_22, e_232_23, e_232_24, e_232_27, e_232_28, e_232_29, e_232_30, e_232_31, onI_s, onR_s, onL_s, gl_0, gl_n, gl_1, gl_2, gl_3, gl_4, gl_5, gl_6, gl_7, gl_8, gl_9, gl_10, gl_11, gl_12, gl_13, gl_14, gl_15, gl_16, gl_17, sk0i, sk0r, sk0n, sk1i, sk1r, sk1n, sk_2, sk_3, sk_4, sk_5, sk_6, sk_7, sk_8, sk_9, sk_10, sk_11, sk_12, sk_13, sk_14, sk_15, sk_16, sk_17, ls_0, ls_1, ls_2, ls_3, ls_4, ls_5, ls_6, ls_7, ls_8, ls_9, ls_10, ls_11, ls_12, ls_13, ls_14, ls_15, ls_16, ls_17, ct1_i, ct1_r, wd8_0, wd8_i1, wd8_r1, wd8_i2, wd8_r2, wd8_i3, wd8_r3, wd8_i4, wd8_r4, wd8_i5, wd8_r5, wd8_i6, wd8_r6, wd8_i7, wd8_r7, wd8_i8, wd8_r8, wd8_l2, wd8_l3, wd8_l4, wd8_l5, wd8_l6, wd8_l7, wd8_l8, tl_s, tl_n, inR_t, bd_t, true_and, and_true, true_or, or_true, if_true_x, if_false_x, if_pos, if_neg, Int.toNat_natCast, natL, bI_0, bI_1, bI_ft, eq_self, b_tf, b_ft, not_true_eq_false, not_false_eq_true, hn, r1, r2, c1, c2, c3, Int.toNat_natCast, cast_s, hc.t70, hc.r70_4, hc.r70_5, hc.r70_6, hc.r70_7, hc.r70_8, hc.r70_10, hc.r70_11, hc.r70_12, hc.r70_14, hc.r70_15, hc.r70_16, hc.r70_17, hc.r70_19, hc.r70_21, hc.r70_23, hc.r70_24, hc.r70_26, hc.r70_27, hc.r70_28, hc.r70_29, hc.r70_30, hc.r70_31, hc.r70_32, hc.r70_33, hc.r70_36, hc.t79, hc.z79, hc.t80, hc.z80]
        · rw [if_neg (fun q => c2 q.2), ← ih (k + 1) n its hd2 (by omega) (by omega) (by omega)]
          simp (disch := first | assumption | omega) only [e_232_7, e_232_8, e_232_9, e_232_10, e_232_11, e_232_12, e_232_13, e_232_14, e_232_15, e_232_16, e_232_17, e_232_18, e_232_19, e_232_20, e_232_21, e_232_30, e_232_31, onI_s, onR_s, onL_s, gl_0, gl_n, gl_1, gl_2, gl_3, gl_4, gl_5, gl_6, gl_7, gl_8, gl_9, gl_10, gl_11, gl_12, gl_13, gl_14, gl_15, gl_16, gl_17, sk0i, sk0r, sk0n, sk1i, sk1r, sk1n, sk_2, sk_3, sk_4, sk_5, sk_6, sk_7, sk_8, sk_9, sk_10, sk_11, sk_12, sk_13, sk_14, sk_15, sk_16, sk_17, ls_0, ls_1, ls_2, ls_3, ls_4, ls_5, ls_6, ls_7, ls_8, ls_9, ls_10, ls_11, ls_12, ls_13, ls_14, ls_15, ls_16, ls_17, ct1_i, ct1_r, wd8_0, wd8_i1, wd8_r1, wd8_i2, wd8_r2, wd8_i3, wd8_r3, wd8_i4, wd8_r4, wd8_i5, wd8_r5, wd8_i6, wd8_r6, wd8_i7, wd8_r7, wd8_i8, wd8_r8, wd8_l2, wd8_l3, wd8_l4, wd8_l5, wd8_l6, wd8_l7, wd8_l8, tl_s, tl_n, inR_t, bd_t, true_and, and_true, true_or, or_true, if_true_x, if_false_x, if_pos, if_neg, Int.toNat_natCast, natL, bI_0, bI_1, bI_ft, eq_self, b_tf, b_ft, not_true_eq_false, not_false_eq_true, hn, r1, r2, c1, c2, Int.toNat_natCast, cast_s, hc.t70, hc.r70_4, hc.r70_5, hc.r70_6, hc.r70_7, hc.r70_8, hc.r70_10, hc.r70_11, hc.r70_12, hc.r70_14, hc.r70_15, hc.r70_16, hc.r70_17, hc.r70_19, hc.r70_21, hc.r70_23, hc.r70_24, hc.r70_26, hc.r70_27, hc.r70_28, hc.r70_29, hc.r70_30, hc.r70_31, hc.r70_32, hc.r70_33, hc.r70_36, hc.t79, hc.z79, hc.t80, hc.z80]
      · have c1' : ¬ ((x.1 : Nat) : Int) = r := by omega
        rw [if_neg (fun q => c1 q.1), ← ih (k + 1) n its hd2 (by omega) (by omega) (by omega)]
        simp (disch := first | assumption | omega) only [e_232_7, e_232_8, e_232_9, e_232_10, e_232_11, e_232_12, e_232_13, e_232_14, e_232_15, e_232_30, e_232_31, onI_s, onR_s, onL_s, gl_0, gl_n, gl_1, gl_2, gl_3, gl_4, gl_5, gl_6, gl_7, gl_8, gl_9, gl_10, gl_11, gl_12, gl_13, gl_14, gl_15, gl_16, gl_17, sk0i, sk0r, sk0n, sk1i, sk1r, sk1n, sk_2, sk_3, sk_4, sk_5, sk_6, sk_7, sk_8, sk_9, sk_10, sk_11, sk_12, sk_13, sk_14, sk_15, sk_16, sk_17, ls_0, ls_1, ls_2, ls_3, ls_4, ls_5, ls_6, ls_7, ls_8, ls_9, ls_10, ls_11, ls_12, ls_13, ls_14, ls_15, ls_16, ls_17, ct1_i, ct1_r, wd8_0, wd8_i1, wd8_r1, wd8_i2, wd8_r2, wd8_i3, wd8_r3, wd8_i4, wd8_r4, wd8_i5, wd8_r5, wd8_i6, wd8_r6, wd8_i7, wd8_r7, wd8_i8, wd8_r8, wd8_l2, wd8_l3, wd8_l4, wd8_l5, wd8_l6, wd8_l7, wd8_l8, tl_s, tl_n, inR_t, bd_t, true_and, and_true, true_or, or_true, if_true_x, if_false_x, if_pos, if_neg, Int.toNat_natCast, natL, bI_0, bI_1, bI_ft, eq_self, b_tf, b_ft, not_true_eq_false, not_false_eq_true, hn, r1, r2, c1', Int.toNat_natCast, cast_s, hc.t70, hc.r70_4, hc.r70_5, hc.r70_6, hc.r70_7, hc.r70_8, hc.r70_10, hc.r70_11, hc.r70_12, hc.r70_14, hc.r70_15, hc.r70_16, hc.r70_17, hc.r70_19, hc.r70_21, hc.r70_23, hc.r70_24, hc.r70_26, hc.r70_27, hc.r70_28, hc.r70_29, hc.r70_30, hc.r70_31, hc.r70_32, hc.r70_33, hc.r70_36, hc.t79, hc.z79, hc.t80, hc.z80]
  rw [c_232]
  simp (disch := first | assumption | omega) only [e_232_0, e_232_1, e_232_2, e_232_3, e_232_4, e_232_5, onI_s, onR_s, onL_s, gl_0, gl_n, gl_1, gl_2, gl_3, gl_4, gl_5, gl_6, gl_7, gl_8, gl_9, gl_10, gl_11, gl_12, gl_13, gl_14, gl_15, gl_16, gl_17, sk0i, sk0r, sk0n, sk1i, sk1r, sk1n, sk_2, sk_3, sk_4, sk_5, sk_6, sk_7, sk_8, sk_9, sk_10, sk_11, sk_12, sk_13, sk_14, sk_15, sk_16, sk_17, ls_0, ls_1, ls_2, ls_3, ls_4, ls_5, ls_6, ls_7, ls_8, ls_9, ls_10, ls_11, ls_12, ls_13, ls_14, ls_15, ls_16, ls_17, ct1_i, ct1_r, wd8_0, wd8_i1, wd8_r1, wd8_i2, wd8_r2, wd8_i3, wd8_r3, wd8_i4, wd8_r4, wd8_i5, wd8_r5, wd8_i6, wd8_r6, wd8_i7, wd8_r7, wd8_i8, wd8_r8, wd8_l2, wd8_l3, wd8_l4, wd8_l5, wd8_l6, wd8_l7, wd8_l8, tl_s, tl_n, inR_t, bd_t, true_and, and_true, true_or, or_true, if_true_x, if_false_x, if_pos, if_neg, Int.toNat_natCast, natL, bI_0, bI_1, bI_ft, eq_self, b_tf, b_ft, not_true_eq_false, not_false_eq_true]
  exact lp L 0 0 (-1) (by simp) (by omega) (by omega) (by omega)
end FRM
