/-! the widths of some cells -/
section SWS
variable {X : xL} {Q : Option xV → xH → Prop} {ns nb ln b : Nat} {h : xH}
theorem sW_le {v : Nat → Nat → Int} (w : RGv v) : ∀ L : List Nat, sW v L ≤ 6 * L.length
  | [] => by rw [sW]; simp
  | c :: L => by
    have := sW_le w L
    have := w.wid c
    rw [sW, List.length_cons]
    omega
set_option maxHeartbeats 4000000 in
theorem m_31 (hp : PL X b) (w : RGv (cv h b)) {lr lz : Nat} (ht : X.1 lr = 13) (hz : X.2.1 lr = lz) {L : List Nat} (hL : R1 (h.1 lr) L) (L20 : L.length ≤ 20) (Lz : L.length ≤ lz) (cL : ∀ c, c ∈ L → c < 20) : Cl X 31 [vr (b + 11), vr lr, vi L.length] h Q ↔ Q (some (vi (sW (cv h b) L))) h := by
  have lp : ∀ (M : List Nat) (k : Nat) (a : Int), L.drop k = M → k + M.length = L.length → 0 ≤ a → a ≤ 6 * k → (Ev X 31 4 [some (vr (b + 11)), some (vr lr), some (vi L.length), some (vi a), some (vi k)] [] h Q ↔ Q (some (vi (a + sW (cv h b) M))) h) := by
    intro M
    induction M with
    | nil =>
      intro k a hd hk a0 a1
      simp at hk
      rw [e_31_4]
      simp (disch := first | assumption | omega) only [e_31_5, e_31_6, e_31_18, e_31_19, onI_s, onR_s, onL_s, gl_0, gl_n, gl_1, gl_2, gl_3, gl_4, gl_5, gl_6, gl_7, gl_8, gl_9, gl_10, gl_11, gl_12, gl_13, gl_14, gl_15, gl_16, gl_17, sk0i, sk0r, sk0n, sk1i, sk1r, sk1n, sk_2, sk_3, sk_4, sk_5, sk_6, sk_7, sk_8, sk_9, sk_10, sk_11, sk_12, sk_13, sk_14, sk_15, sk_16, sk_17, ls_0, ls_1, ls_2, ls_3, ls_4, ls_5, ls_6, ls_7, ls_8, ls_9, ls_10, ls_11, ls_12, ls_13, ls_14, ls_15, ls_16, ls_17, ct1_i, ct1_r, wd8_0, wd8_i1, wd8_r1, wd8_i2, wd8_r2, wd8_i3, wd8_r3, wd8_i4, wd8_r4, wd8_i5, wd8_r5, wd8_i6, wd8_r6, wd8_i7, wd8_r7, wd8_i8, wd8_r8, wd8_l2, wd8_l3, wd8_l4, wd8_l5, wd8_l6, wd8_l7, wd8_l8, tl_s, tl_n, inR_t, bd_t, true_and, and_true, true_or, or_true, if_true_x, if_false_x, if_pos, if_neg, Int.toNat_natCast, natL, bI_0, bI_1, bI_ft, eq_self, b_tf, b_ft, not_true_eq_false, not_false_eq_true]
      rw [sW, Int.add_zero]
    | cons c M ih =>
      intro k a hd hk a0 a1
      rw [List.length_cons] at hk
      have hx : L[k]? = some c := by
        have := List.getElem?_drop (xs := L) (i := k) (j := 0)
        rw [hd] at this
        simpa using this.symm
      have hd2 : L.drop (k + 1) = M := by
        rw [← List.drop_drop, hd]
        rfl
      have c20 := cL c (List.mem_of_getElem? hx)
      have ec := hL k c hx
      have wc := w.wid c
      have ew : h.1 (b + 12) c = cv h b 12 c := rfl
      rw [e_31_4, sW, ← Int.add_assoc, ← ih (k + 1) (a + cv h b 12 c) hd2 (by omega) (by omega) (by omega)]
      simp (disch := first | assumption | omega) only [e_31_5, e_31_6, e_31_7, e_31_8, e_31_9, e_31_10, e_31_11, e_31_12, e_31_13, e_31_14, e_31_15, e_31_16, e_31_17, onI_s, onR_s, onL_s, gl_0, gl_n, gl_1, gl_2, gl_3, gl_4, gl_5, gl_6, gl_7, gl_8, gl_9, gl_10, gl_11, gl_12, gl_13, gl_14, gl_15, gl_16, gl_17, sk0i, sk0r, sk0n, sk1i, sk1r, sk1n, sk_2, sk_3, sk_4, sk_5, sk_6, sk_7, sk_8, sk_9, sk_10, sk_11, sk_12, sk_13, sk_14, sk_15, sk_16, sk_17, ls_0, ls_1, ls_2, ls_3, ls_4, ls_5, ls_6, ls_7, ls_8, ls_9, ls_10, ls_11, ls_12, ls_13, ls_14, ls_15, ls_16, ls_17, ct1_i, ct1_r, wd8_0, wd8_i1, wd8_r1, wd8_i2, wd8_r2, wd8_i3, wd8_r3, wd8_i4, wd8_r4, wd8_i5, wd8_r5, wd8_i6, wd8_r6, wd8_i7, wd8_r7, wd8_i8, wd8_r8, wd8_l2, wd8_l3, wd8_l4, wd8_l5, wd8_l6, wd8_l7, wd8_l8, tl_s, tl_n, inR_t, bd_t, true_and, and_true, true_or, or_true, if_true_x, if_false_x, if_pos, if_neg, Int.toNat_natCast, natL, bI_0, bI_1, bI_ft, eq_self, b_tf, b_ft, not_true_eq_false, not_false_eq_true, ht, hz, ec, ew, Int.toNat_natCast, cast_s, hp.t0, hp.t1, hp.t2, hp.t3, hp.t4, hp.t5, hp.t6, hp.t7, hp.t8, hp.t9, hp.t10, hp.t11, hp.t12, hp.t13, hp.t14, hp.t15, hp.t16, hp.t17, hp.t18, hp.t19, hp.t20, hp.t21, hp.t22, hp.t23, hp.z2, hp.z3, hp.z4, hp.z5, hp.z7, hp.z8, hp.z9, hp.z10, hp.z12, hp.z13, hp.z14, hp.z15, hp.z16, hp.z17, hp.z18, hp.z20, hp.z21, hp.z22, hp.z23, hp.r0_2, hp.r0_3, hp.r0_4, hp.r0_5, hp.r1_1, hp.r1_2, hp.r1_3, hp.r1_4, hp.r6_1, hp.r6_2, hp.r6_3, hp.r6_4, hp.r11_1, hp.r11_2, hp.r11_3, hp.r11_4, hp.r11_5, hp.r11_6, hp.r11_7, hp.r19_1, hp.r19_2, hp.r19_3, hp.r19_4]
  rw [c_31]
  simp (disch := first | assumption | omega) only [e_31_0, e_31_1, e_31_2, e_31_3, onI_s, onR_s, onL_s, gl_0, gl_n, gl_1, gl_2, gl_3, gl_4, gl_5, gl_6, gl_7, gl_8, gl_9, gl_10, gl_11, gl_12, gl_13, gl_14, gl_15, gl_16, gl_17, sk0i, sk0r, sk0n, sk1i, sk1r, sk1n, sk_2, sk_3, sk_4, sk_5, sk_6, sk_7, sk_8, sk_9, sk_10, sk_11, sk_12, sk_13, sk_14, sk_15, sk_16, sk_17, ls_0, ls_1, ls_2, ls_3, ls_4, ls_5, ls_6, ls_7, ls_8, ls_9, ls_10, ls_11, ls_12, ls_13, ls_14, ls_15, ls_16, ls_17, ct1_i, ct1_r, wd8_0, wd8_i1, wd8_r1, wd8_i2, wd8_r2, wd8_i3, wd8_r3, wd8_i4, wd8_r4, wd8_i5, wd8_r5, wd8_i6, wd8_r6, wd8_i7, wd8_r7, wd8_i8, wd8_r8, wd8_l2, wd8_l3, wd8_l4, wd8_l5, wd8_l6, wd8_l7, wd8_l8, tl_s, tl_n, inR_t, bd_t, true_and, and_true, true_or, or_true, if_true_x, if_false_x, if_pos, if_neg, Int.toNat_natCast, natL, bI_0, bI_1, bI_ft, eq_self, b_tf, b_ft, not_true_eq_false, not_false_eq_true]
  have := lp L 0 0 (by simp) (by omega) (by omega) (by omega)
  rw [Int.zero_add] at this
  exact this
set_option maxHeartbeats 4000000 in
theorem m_237 (hc : CT X ns nb ln) (w : RGv (vm h)) {L : List Nat} (hM : h.2 70 25 = L.length) (hL : R1 (h.1 86) L) (L20 : L.length ≤ 21) (cL : ∀ c, c ∈ L → c < 20) : Cl X 237 [vr 70] h Q ↔ Q (some (vi (sW (vm h) L))) h := by
  have lp : ∀ (M : List Nat) (k : Nat) (a : Int), L.drop k = M → k + M.length = L.length → 0 ≤ a → a ≤ 6 * k → (Ev X 237 4 [some (vr 70), some (vi a), some (vi k)] [] h Q ↔ Q (some (vi (a + sW (vm h) M))) h) := by
    intro M
    induction M with
    | nil =>
      intro k a hd hk a0 a1
      simp at hk
      rw [e_237_4]
      simp (disch := first | assumption | omega) only [e_237_5, e_237_6, e_237_7, e_237_19, e_237_20, onI_s, onR_s, onL_s, gl_0, gl_n, gl_1, gl_2, gl_3, gl_4, gl_5, gl_6, gl_7, gl_8, gl_9, gl_10, gl_11, gl_12, gl_13, gl_14, gl_15, gl_16, gl_17, sk0i, sk0r, sk0n, sk1i, sk1r, sk1n, sk_2, sk_3, sk_4, sk_5, sk_6, sk_7, sk_8, sk_9, sk_10, sk_11, sk_12, sk_13, sk_14, sk_15, sk_16, sk_17, ls_0, ls_1, ls_2, ls_3, ls_4, ls_5, ls_6, ls_7, ls_8, ls_9, ls_10, ls_11, ls_12, ls_13, ls_14, ls_15, ls_16, ls_17, ct1_i, ct1_r, wd8_0, wd8_i1, wd8_r1, wd8_i2, wd8_r2, wd8_i3, wd8_r3, wd8_i4, wd8_r4, wd8_i5, wd8_r5, wd8_i6, wd8_r6, wd8_i7, wd8_r7, wd8_i8, wd8_r8, wd8_l2, wd8_l3, wd8_l4, wd8_l5, wd8_l6, wd8_l7, wd8_l8, tl_s, tl_n, inR_t, bd_t, true_and, and_true, true_or, or_true, if_true_x, if_false_x, if_pos, if_neg, Int.toNat_natCast, natL, bI_0, bI_1, bI_ft, eq_self, b_tf, b_ft, not_true_eq_false, not_false_eq_true, hM, hc.t70, hc.r70_4, hc.r70_5, hc.r70_6, hc.r70_7, hc.r70_8, hc.r70_10, hc.r70_11, hc.r70_12, hc.r70_14, hc.r70_15, hc.r70_16, hc.r70_17, hc.r70_19, hc.r70_21, hc.r70_23, hc.r70_24, hc.r70_26, hc.r70_27, hc.r70_28, hc.r70_29, hc.r70_30, hc.r70_31, hc.r70_32, hc.r70_33, hc.r70_36]
      rw [sW, Int.add_zero]
    | cons c M ih =>
      intro k a hd hk a0 a1
      rw [List.length_cons] at hk
      have hx : L[k]? = some c := by
        have := List.getElem?_drop (xs := L) (i := k) (j := 0)
        rw [hd] at this
        simpa using this.symm
      have hd2 : L.drop (k + 1) = M := by
        rw [← List.drop_drop, hd]
        rfl
      have c20 := cL c (List.mem_of_getElem? hx)
      have ec := hL k c hx
      have wc := w.wid c
      rw [e_237_4, sW, ← Int.add_assoc, ← ih (k + 1) (a + vm h 12 c) hd2 (by omega) (by omega) (by omega)]
      simp (disch := first | assumption | omega) only [e_237_5, e_237_6, e_237_7, e_237_8, e_237_9, e_237_10, e_237_11, e_237_12, e_237_13, e_237_14, e_237_15, e_237_16, e_237_17, e_237_18, onI_s, onR_s, onL_s, gl_0, gl_n, gl_1, gl_2, gl_3, gl_4, gl_5, gl_6, gl_7, gl_8, gl_9, gl_10, gl_11, gl_12, gl_13, gl_14, gl_15, gl_16, gl_17, sk0i, sk0r, sk0n, sk1i, sk1r, sk1n, sk_2, sk_3, sk_4, sk_5, sk_6, sk_7, sk_8, sk_9, sk_10, sk_11, sk_12, sk_13, sk_14, sk_15, sk_16, sk_17, ls_0, ls_1, ls_2, ls_3, ls_4, ls_5, ls_6, ls_7, ls_8, ls_9, ls_10, ls_11, ls_12, ls_13, ls_14, ls_15, ls_16, ls_17, ct1_i, ct1_r, wd8_0, wd8_i1, wd8_r1, wd8_i2, wd8_r2, wd8_i3, wd8_r3, wd8_i4, wd8_r4, wd8_i5, wd8_r5, wd8_i6, wd8_r6, wd8_i7, wd8_r7, wd8_i8, wd8_r8, wd8_l2, wd8_l3, wd8_l4, wd8_l5, wd8_l6, wd8_l7, wd8_l8, tl_s, tl_n, inR_t, bd_t, true_and, and_true, true_or, or_true, if_true_x, if_false_x, if_pos, if_neg, Int.toNat_natCast, natL, bI_0, bI_1, bI_ft, eq_self, b_tf, b_ft, not_true_eq_false, not_false_eq_true, hM, m_160 hc, ec, Int.toNat_natCast, cast_s, hc.t70, hc.r70_4, hc.r70_5, hc.r70_6, hc.r70_7, hc.r70_8, hc.r70_10, hc.r70_11, hc.r70_12, hc.r70_14, hc.r70_15, hc.r70_16, hc.r70_17, hc.r70_19, hc.r70_21, hc.r70_23, hc.r70_24, hc.r70_26, hc.r70_27, hc.r70_28, hc.r70_29, hc.r70_30, hc.r70_31, hc.r70_32, hc.r70_33, hc.r70_36, hc.t86, hc.z86]
  rw [c_237]
  simp (disch := first | assumption | omega) only [e_237_0, e_237_1, e_237_2, e_237_3, onI_s, onR_s, onL_s, gl_0, gl_n, gl_1, gl_2, gl_3, gl_4, gl_5, gl_6, gl_7, gl_8, gl_9, gl_10, gl_11, gl_12, gl_13, gl_14, gl_15, gl_16, gl_17, sk0i, sk0r, sk0n, sk1i, sk1r, sk1n, sk_2, sk_3, sk_4, sk_5, sk_6, sk_7, sk_8, sk_9, sk_10, sk_11, sk_12, sk_13, sk_14, sk_15, sk_16, sk_17, ls_0, ls_1, ls_2, ls_3, ls_4, ls_5, ls_6, ls_7, ls_8, ls_9, ls_10, ls_11, ls_12, ls_13, ls_14, ls_15, ls_16, ls_17, ct1_i, ct1_r, wd8_0, wd8_i1, wd8_r1, wd8_i2, wd8_r2, wd8_i3, wd8_r3, wd8_i4, wd8_r4, wd8_i5, wd8_r5, wd8_i6, wd8_r6, wd8_i7, wd8_r7, wd8_i8, wd8_r8, wd8_l2, wd8_l3, wd8_l4, wd8_l5, wd8_l6, wd8_l7, wd8_l8, tl_s, tl_n, inR_t, bd_t, true_and, and_true, true_or, or_true, if_true_x, if_false_x, if_pos, if_neg, Int.toNat_natCast, natL, bI_0, bI_1, bI_ft, eq_self, b_tf, b_ft, not_true_eq_false, not_false_eq_true]
  have := lp L 0 0 (by simp) (by omega) (by omega) (by omega)
  rw [Int.zero_add] at this
  exact this
end SWS
/-- what lies in a run fits into it -/
theorem fit_l {v : Nat → Nat → Int} {hi : Int} : ∀ (L : List Nat) (lo : Int), L.Pairwise (fun x y => v 18 x + v 12 x ≤ v 18 y) → (∀ x, x ∈ L → lo ≤ v 18 x ∧ v 18 x + v 12 x ≤ hi) → lo ≤ hi → lo + sW v L ≤ hi
  | [], lo, _, _, h => by rw [sW]; omega
  | x :: L, lo, hp, hx, h => by
    have p := List.pairwise_cons.mp hp
    have x1 := hx x (by simp)
    have ih := fit_l L (v 18 x + v 12 x) p.2 (fun y hy => ⟨p.1 y hy, (hx y (by simp [hy])).2⟩) (by omega)
    rw [sW]
    omega
theorem ly_fit {v : Nat → Nat → Int} (g : GEO v) (w : RGv v) {r a n : Nat} {f : Int} (f1 : -1 ≤ f) (hr : gdR (fun s => decide (own v r s = f)) (v 0 1).toNat (a, n)) : sW v (lyL v r n a) ≤ n := by
  have p : (lyL v r n a).Pairwise (fun x y => v 18 x + v 12 x ≤ v 18 y) := by
    refine List.Pairwise.imp_of_mem (fun {x y} hx hy q => ?_) (ly_srt g n a)
    have m1 := (ly_mem g n a).mp hx
    have m2 := (ly_mem g n a).mp hy
    have := g.dis (c := x) (d := y) m1.1 m2.1 (fun e => by rw [e] at q; omega) (by omega) (by omega)
    have := (g.cel m2.1).1
    omega
  have := fit_l (v := v) (hi := (a : Int) + n) (lyL v r n a) a p (fun x hx => by
    have m1 := (ly_mem g n a).mp hx
    have q := in_run2 g f1 w hr m1.1 m1.2.1 m1.2.2.1 m1.2.2.2
    have := in_run g w hr m1.1 q.1 q.2
    omega) (by omega)
  omega
theorem ly_len {v : Nat → Nat → Int} (g : GEO v) (w : RGv v) {r a n : Nat} {f : Int} (f1 : -1 ≤ f) (hr : gdR (fun s => decide (own v r s = f)) (v 0 1).toNat (a, n)) : (lyL v r n a).length ≤ 20 := by
  have nC := w.nC
  rw [← ly_eq g w f1 hr]
  have := lyI_len (v := v) (r := r) (f := a) (l := (a : Int) + n - 1) (v 11 0).toNat
  omega
