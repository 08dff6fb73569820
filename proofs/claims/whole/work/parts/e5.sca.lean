/-! SORTS in the class: the group, the first order, the price -/
theorem grp_full {v : Nat → Nat → Int} {f w : Int} {n : Nat} (h : 5 ≤ (grp v f w n).length) : ∀ k, grp v f w (n + k) = grp v f w n
  | 0 => rfl
  | k + 1 => by
    have ih := grp_full h k
    rw [show n + (k + 1) = n + k + 1 by omega, grp, ih, if_neg (by omega)]
section SCA
variable {X : xL} {Q : Option xV → xH → Prop} {ns nb ln : Nat} {h : xH}
set_option maxHeartbeats 4000000 in
theorem m_68 (hp : PL X 200) (hc : CT X ns nb ln) (hw : RGv (cv h 200)) {c : Nat} {G : List Nat} (g5 : G.length ≤ 5) (r : R1 (h.1 60) G) : Cl X 68 [vr 57, vr (200 + 19), vi c, vi (G.length : Int)] h Q ↔ Q (some (vi (bI (shG (cv h 200) c G)))) h := by
  have lp : ∀ (M : List Nat) (i : Nat), G.drop i = M → i + M.length = G.length → (Ev X 68 2 [some (vr 57), some (vr (200 + 19)), some (vi c), some (vi (G.length : Int)), some (vi i)] [] h Q ↔ Q (some (vi (bI (shG (cv h 200) c M)))) h) := by
    intro M
    induction M with
    | nil =>
      intro i hd hk
      simp at hk
      rw [e_68_2, shG]
      simp (disch := first | assumption | omega) only [e_68_3, e_68_4, e_68_17, e_68_18, onI_s, onR_s, onL_s, gl_0, gl_n, gl_1, gl_2, gl_3, gl_4, gl_5, gl_6, gl_7, gl_8, gl_9, gl_10, gl_11, gl_12, gl_13, gl_14, gl_15, gl_16, gl_17, sk0i, sk0r, sk0n, sk1i, sk1r, sk1n, sk_2, sk_3, sk_4, sk_5, sk_6, sk_7, sk_8, sk_9, sk_10, sk_11, sk_12, sk_13, sk_14, sk_15, sk_16, sk_17, ls_0, ls_1, ls_2, ls_3, ls_4, ls_5, ls_6, ls_7, ls_8, ls_9, ls_10, ls_11, ls_12, ls_13, ls_14, ls_15, ls_16, ls_17, ct1_i, ct1_r, wd8_0, wd8_i1, wd8_r1, wd8_i2, wd8_r2, wd8_i3, wd8_r3, wd8_i4, wd8_r4, wd8_i5, wd8_r5, wd8_i6, wd8_r6, wd8_i7, wd8_r7, wd8_i8, wd8_r8, wd8_l2, wd8_l3, wd8_l4, wd8_l5, wd8_l6, wd8_l7, wd8_l8, tl_s, tl_n, inR_t, bd_t, true_and, and_true, true_or, or_true, if_true_x, if_false_x, if_pos, if_neg, Int.toNat_natCast, natL, bI_0, bI_1, bI_ft, eq_self, b_tf, b_ft, not_true_eq_false, not_false_eq_true]
      rfl
    | cons d M ih =>
      intro i hd hk
      rw [List.length_cons] at hk
      have hx : G[i]? = some d := by
        have := List.getElem?_drop (xs := G) (i := i) (j := 0)
        rw [hd] at this
        simpa using this.symm
      have hd2 : G.drop (i + 1) = M := by
        rw [← List.drop_drop, hd]
        rfl
      have ed := r i d hx
      rw [e_68_2, shG]
      by_cases e : shP (cv h 200) c d = true
      · have e' : anyB (shB (cv h 200) c d) (cv h 200 19 0).toNat = true := e
        rw [e, Bool.true_or]
        simp (disch := first | assumption | omega) only [e_68_3, e_68_4, e_68_5, e_68_6, e_68_7, e_68_8, e_68_9, e_68_10, e_68_11, e_68_12, e_68_13, e_68_14, onI_s, onR_s, onL_s, gl_0, gl_n, gl_1, gl_2, gl_3, gl_4, gl_5, gl_6, gl_7, gl_8, gl_9, gl_10, gl_11, gl_12, gl_13, gl_14, gl_15, gl_16, gl_17, sk0i, sk0r, sk0n, sk1i, sk1r, sk1n, sk_2, sk_3, sk_4, sk_5, sk_6, sk_7, sk_8, sk_9, sk_10, sk_11, sk_12, sk_13, sk_14, sk_15, sk_16, sk_17, ls_0, ls_1, ls_2, ls_3, ls_4, ls_5, ls_6, ls_7, ls_8, ls_9, ls_10, ls_11, ls_12, ls_13, ls_14, ls_15, ls_16, ls_17, ct1_i, ct1_r, wd8_0, wd8_i1, wd8_r1, wd8_i2, wd8_r2, wd8_i3, wd8_r3, wd8_i4, wd8_r4, wd8_i5, wd8_r5, wd8_i6, wd8_r6, wd8_i7, wd8_r7, wd8_i8, wd8_r8, wd8_l2, wd8_l3, wd8_l4, wd8_l5, wd8_l6, wd8_l7, wd8_l8, tl_s, tl_n, inR_t, bd_t, true_and, and_true, true_or, or_true, if_true_x, if_false_x, if_pos, if_neg, Int.toNat_natCast, natL, bI_0, bI_1, bI_ft, eq_self, b_tf, b_ft, not_true_eq_false, not_false_eq_true, ed, m_47 hp hw, e', hp.t19, hc.t57, hc.r57_0, hc.r57_1, hc.r57_2, hc.r57_3, hc.r57_4, hc.r57_5, hc.r57_6, hc.r57_7, hc.r57_8, hc.r57_9, hc.r57_10, hc.t60, hc.z60]
        rfl
      · have e2 : shP (cv h 200) c d = false := by simpa using e
        have e' : anyB (shB (cv h 200) c d) (cv h 200 19 0).toNat = false := e2
        rw [e2, Bool.false_or, ← ih (i + 1) hd2 (by omega)]
        simp (disch := first | assumption | omega) only [e_68_3, e_68_4, e_68_5, e_68_6, e_68_7, e_68_8, e_68_9, e_68_10, e_68_11, e_68_12, e_68_15, e_68_16, onI_s, onR_s, onL_s, gl_0, gl_n, gl_1, gl_2, gl_3, gl_4, gl_5, gl_6, gl_7, gl_8, gl_9, gl_10, gl_11, gl_12, gl_13, gl_14, gl_15, gl_16, gl_17, sk0i, sk0r, sk0n, sk1i, sk1r, sk1n, sk_2, sk_3, sk_4, sk_5, sk_6, sk_7, sk_8, sk_9, sk_10, sk_11, sk_12, sk_13, sk_14, sk_15, sk_16, sk_17, ls_0, ls_1, ls_2, ls_3, ls_4, ls_5, ls_6, ls_7, ls_8, ls_9, ls_10, ls_11, ls_12, ls_13, ls_14, ls_15, ls_16, ls_17, ct1_i, ct1_r, wd8_0, wd8_i1, wd8_r1, wd8_i2, wd8_r2, wd8_i3, wd8_r3, wd8_i4, wd8_r4, wd8_i5, wd8_r5, wd8_i6, wd8_r6, wd8_i7, wd8_r7, wd8_i8, wd8_r8, wd8_l2, wd8_l3, wd8_l4, wd8_l5, wd8_l6, wd8_l7, wd8_l8, tl_s, tl_n, inR_t, bd_t, true_and, and_true, true_or, or_true, if_true_x, if_false_x, if_pos, if_neg, Int.toNat_natCast, natL, bI_0, bI_1, bI_ft, eq_self, b_tf, b_ft, not_true_eq_false, not_false_eq_true, ed, m_47 hp hw, e', cast_s, hp.t19, hc.t57, hc.r57_0, hc.r57_1, hc.r57_2, hc.r57_3, hc.r57_4, hc.r57_5, hc.r57_6, hc.r57_7, hc.r57_8, hc.r57_9, hc.r57_10, hc.t60, hc.z60]
  rw [c_68]
  simp (disch := first | assumption | omega) only [e_68_0, e_68_1, onI_s, onR_s, onL_s, gl_0, gl_n, gl_1, gl_2, gl_3, gl_4, gl_5, gl_6, gl_7, gl_8, gl_9, gl_10, gl_11, gl_12, gl_13, gl_14, gl_15, gl_16, gl_17, sk0i, sk0r, sk0n, sk1i, sk1r, sk1n, sk_2, sk_3, sk_4, sk_5, sk_6, sk_7, sk_8, sk_9, sk_10, sk_11, sk_12, sk_13, sk_14, sk_15, sk_16, sk_17, ls_0, ls_1, ls_2, ls_3, ls_4, ls_5, ls_6, ls_7, ls_8, ls_9, ls_10, ls_11, ls_12, ls_13, ls_14, ls_15, ls_16, ls_17, ct1_i, ct1_r, wd8_0, wd8_i1, wd8_r1, wd8_i2, wd8_r2, wd8_i3, wd8_r3, wd8_i4, wd8_r4, wd8_i5, wd8_r5, wd8_i6, wd8_r6, wd8_i7, wd8_r7, wd8_i8, wd8_r8, wd8_l2, wd8_l3, wd8_l4, wd8_l5, wd8_l6, wd8_l7, wd8_l8, tl_s, tl_n, inR_t, bd_t, true_and, and_true, true_or, or_true, if_true_x, if_false_x, if_pos, if_neg, Int.toNat_natCast, natL, bI_0, bI_1, bI_ft, eq_self, b_tf, b_ft, not_true_eq_false, not_false_eq_true]
  exact lp G 0 (by simp) (by omega)
set_option maxHeartbeats 8000000 in
theorem m_67 (hp : PL X 200) (hc : CT X ns nb ln) {h0 : xH} {v : Nat → Nat → Int} (ev : cv h0 200 = v) (w : RGv v) (z : NZ X h0) {f ww : Int} (hq : ∀ h2, NZ X h2 → G1 60 h0 h2 → R1 (h2.1 60) (gpA v f ww) → Q (some (vi ((gpA v f ww).length : Int))) h2) : Cl X 67 [vr 57, vr 200, vi f, vi ww] h0 Q := by
  have nC := w.nC
  obtain ⟨N, hN⟩ : ∃ N : Nat, v 11 0 = N := ⟨(v 11 0).toNat, by omega⟩
  unfold gpA at hq
  rw [hN, Int.toNat_natCast] at hq
  have lp : ∀ (m c : Nat) (h : xH), c + m = N → NZ X h → G1 60 h0 h → R1 (h.1 60) (grp v f ww c) → Ev X 67 7 [some (vr 57), some (vr 200), some (vi f), some (vi ww), some (vr (200 + 11)), some (vi ((grp v f ww c).length : Int)), some (vi c)] [] h Q := by
    intro m
    induction m with
    | zero =>
      intro c h hm z g r
      have cvh : cv h 200 = v := (g.cv (by omega) (by omega)).trans ev
      have eN : h.2 (200 + 11) 0 = N := by rw [← hN, ← cvh]; rfl
      rw [e_67_7]
      simp (disch := first | assumption | omega) only [e_67_8, e_67_9, e_67_10, e_67_45, e_67_46, onI_s, onR_s, onL_s, gl_0, gl_n, gl_1, gl_2, gl_3, gl_4, gl_5, gl_6, gl_7, gl_8, gl_9, gl_10, gl_11, gl_12, gl_13, gl_14, gl_15, gl_16, gl_17, sk0i, sk0r, sk0n, sk1i, sk1r, sk1n, sk_2, sk_3, sk_4, sk_5, sk_6, sk_7, sk_8, sk_9, sk_10, sk_11, sk_12, sk_13, sk_14, sk_15, sk_16, sk_17, ls_0, ls_1, ls_2, ls_3, ls_4, ls_5, ls_6, ls_7, ls_8, ls_9, ls_10, ls_11, ls_12, ls_13, ls_14, ls_15, ls_16, ls_17, ct1_i, ct1_r, wd8_0, wd8_i1, wd8_r1, wd8_i2, wd8_r2, wd8_i3, wd8_r3, wd8_i4, wd8_r4, wd8_i5, wd8_r5, wd8_i6, wd8_r6, wd8_i7, wd8_r7, wd8_i8, wd8_r8, wd8_l2, wd8_l3, wd8_l4, wd8_l5, wd8_l6, wd8_l7, wd8_l8, tl_s, tl_n, inR_t, bd_t, true_and, and_true, true_or, or_true, if_true_x, if_false_x, if_pos, if_neg, Int.toNat_natCast, natL, bI_0, bI_1, bI_ft, eq_self, b_tf, b_ft, not_true_eq_false, not_false_eq_true, eN, hp.t0, hp.t1, hp.t2, hp.t3, hp.t4, hp.t5, hp.t6, hp.t7, hp.t8, hp.t9, hp.t10, hp.t11, hp.t12, hp.t13, hp.t14, hp.t15, hp.t16, hp.t17, hp.t18, hp.t19, hp.t20, hp.t21, hp.t22, hp.t23, hp.z2, hp.z3, hp.z4, hp.z5, hp.z7, hp.z8, hp.z9, hp.z10, hp.z12, hp.z13, hp.z14, hp.z15, hp.z16, hp.z17, hp.z18, hp.z20, hp.z21, hp.z22, hp.z23, hp.r0_2, hp.r0_3, hp.r0_4, hp.r0_5, hp.r1_1, hp.r1_2, hp.r1_3, hp.r1_4, hp.r6_1, hp.r6_2, hp.r6_3, hp.r6_4, hp.r11_1, hp.r11_2, hp.r11_3, hp.r11_4, hp.r11_5, hp.r11_6, hp.r11_7, hp.r19_1, hp.r19_2, hp.r19_3, hp.r19_4]
      rw [show N = c by omega] at hq
      exact hq h z g r
    | succ m ih =>
      intro c h hm z g r
      have cvh : cv h 200 = v := (g.cv (by omega) (by omega)).trans ev
      have wh : RGv (cv h 200) := by rw [cvh]; exact w
      have eN : h.2 (200 + 11) 0 = N := by rw [← hN, ← cvh]; rfl
      have c20 : c < 20 := by omega
      have e13 : h.1 (200 + 13) c = v 13 c := by rw [← cvh]; rfl
      have e12 : h.1 (200 + 12) c = v 12 c := by rw [← cvh]; rfl
      have gl := grp_len (v := v) (f := f) (w := ww) c
      rw [e_67_7]
      by_cases l5 : (grp v f ww c).length < 5
      · have skip : grp v f ww (c + 1) = grp v f ww c → Ev X 67 7 [some (vr 57), some (vr 200), some (vi f), some (vi ww), some (vr (200 + 11)), some (vi ((grp v f ww c).length : Int)), some (vi ((c + 1 : Nat) : Int))] [] h Q := fun e => by
          have := ih (c + 1) h (by omega) z g (by rw [e]; exact r)
          rw [e] at this
          exact this
        by_cases c1 : lpB v c = true
        · by_cases c2 : v 13 c = f
          · by_cases c3 : v 12 c = ww
            · by_cases c4 : shG v c (grp v f ww c) = true
              · have e : grp v f ww (c + 1) = grp v f ww c := by rw [grp, if_neg (fun q => by rw [q.2.2] at c4; cases c4)]
                simp (disch := first | assumption | omega) only [e_67_8, e_67_9, e_67_10, e_67_11, e_67_12, e_67_13, e_67_14, e_67_15, e_67_16, e_67_17, e_67_18, e_67_19, e_67_20, e_67_21, e_67_22, e_67_23, e_67_24, e_67_25, e_67_26, e_67_27, e_67_28, e_67_29, e_67_30, e_67_31, e_67_32, e_67_33, e_67_34, e_67_35, e_67_36, e_67_43, e_67_44, onI_s, onR_s, onL_s, gl_0, gl_n, gl_1, gl_2, gl_3, gl_4, gl_5, gl_6, gl_7, gl_8, gl_9, gl_10, gl_11, gl_12, gl_13, gl_14, gl_15, gl_16, gl_17, sk0i, sk0r, sk0n, sk1i, sk1r, sk1n, sk_2, sk_3, sk_4, sk_5, sk_6, sk_7, sk_8, sk_9, sk_10, sk_11, sk_12, sk_13, sk_14, sk_15, sk_16, sk_17, ls_0, ls_1, ls_2, ls_3, ls_4, ls_5, ls_6, ls_7, ls_8, ls_9, ls_10, ls_11, ls_12, ls_13, ls_14, ls_15, ls_16, ls_17, ct1_i, ct1_r, wd8_0, wd8_i1, wd8_r1, wd8_i2, wd8_r2, wd8_i3, wd8_r3, wd8_i4, wd8_r4, wd8_i5, wd8_r5, wd8_i6, wd8_r6, wd8_i7, wd8_r7, wd8_i8, wd8_r8, wd8_l2, wd8_l3, wd8_l4, wd8_l5, wd8_l6, wd8_l7, wd8_l8, tl_s, tl_n, inR_t, bd_t, true_and, and_true, true_or, or_true, if_true_x, if_false_x, if_pos, if_neg, Int.toNat_natCast, natL, bI_0, bI_1, bI_ft, eq_self, b_tf, b_ft, not_true_eq_false, not_false_eq_true, eN, m_23 hp, cvh, c1, e13, c2, e12, c3, m_68 hp hc wh gl r, c4, Int.toNat_natCast, cast_s, hc.t57, hc.r57_0, hc.r57_1, hc.r57_2, hc.r57_3, hc.r57_4, hc.r57_5, hc.r57_6, hc.r57_7, hc.r57_8, hc.r57_9, hc.r57_10, hp.t0, hp.t1, hp.t2, hp.t3, hp.t4, hp.t5, hp.t6, hp.t7, hp.t8, hp.t9, hp.t10, hp.t11, hp.t12, hp.t13, hp.t14, hp.t15, hp.t16, hp.t17, hp.t18, hp.t19, hp.t20, hp.t21, hp.t22, hp.t23, hp.z2, hp.z3, hp.z4, hp.z5, hp.z7, hp.z8, hp.z9, hp.z10, hp.z12, hp.z13, hp.z14, hp.z15, hp.z16, hp.z17, hp.z18, hp.z20, hp.z21, hp.z22, hp.z23, hp.r0_2, hp.r0_3, hp.r0_4, hp.r0_5, hp.r1_1, hp.r1_2, hp.r1_3, hp.r1_4, hp.r6_1, hp.r6_2, hp.r6_3, hp.r6_4, hp.r11_1, hp.r11_2, hp.r11_3, hp.r11_4, hp.r11_5, hp.r11_6, hp.r11_7, hp.r19_1, hp.r19_2, hp.r19_3, hp.r19_4]
                exact skip e
              · have c4' : shG v c (grp v f ww c) = false := by simpa using c4
                have e : grp v f ww (c + 1) = grp v f ww c ++ [c] := by
                  rw [grp, if_pos ⟨by unfold gpC; rw [c1, decide_eq_true c2, decide_eq_true c3]; rfl, l5, c4'⟩]
                simp (disch := first | assumption | omega) only [e_67_8, e_67_9, e_67_10, e_67_11, e_67_12, e_67_13, e_67_14, e_67_15, e_67_16, e_67_17, e_67_18, e_67_19, e_67_20, e_67_21, e_67_22, e_67_23, e_67_24, e_67_25, e_67_26, e_67_27, e_67_28, e_67_29, e_67_30, e_67_31, e_67_32, e_67_33, e_67_34, e_67_35, e_67_36, e_67_37, e_67_38, e_67_39, e_67_40, e_67_41, e_67_42, e_67_43, e_67_44, onI_s, onR_s, onL_s, gl_0, gl_n, gl_1, gl_2, gl_3, gl_4, gl_5, gl_6, gl_7, gl_8, gl_9, gl_10, gl_11, gl_12, gl_13, gl_14, gl_15, gl_16, gl_17, sk0i, sk0r, sk0n, sk1i, sk1r, sk1n, sk_2, sk_3, sk_4, sk_5, sk_6, sk_7, sk_8, sk_9, sk_10, sk_11, sk_12, sk_13, sk_14, sk_15, sk_16, sk_17, ls_0, ls_1, ls_2, ls_3, ls_4, ls_5, ls_6, ls_7, ls_8, ls_9, ls_10, ls_11, ls_12, ls_13, ls_14, ls_15, ls_16, ls_17, ct1_i, ct1_r, wd8_0, wd8_i1, wd8_r1, wd8_i2, wd8_r2, wd8_i3, wd8_r3, wd8_i4, wd8_r4, wd8_i5, wd8_r5, wd8_i6, wd8_r6, wd8_i7, wd8_r7, wd8_i8, wd8_r8, wd8_l2, wd8_l3, wd8_l4, wd8_l5, wd8_l6, wd8_l7, wd8_l8, tl_s, tl_n, inR_t, bd_t, true_and, and_true, true_or, or_true, if_true_x, if_false_x, if_pos, if_neg, Int.toNat_natCast, natL, bI_0, bI_1, bI_ft, eq_self, b_tf, b_ft, not_true_eq_false, not_false_eq_true, eN, m_23 hp, cvh, c1, e13, c2, e12, c3, m_68 hp hc wh gl r, c4', Int.toNat_natCast, cast_s, hc.t57, hc.r57_0, hc.r57_1, hc.r57_2, hc.r57_3, hc.r57_4, hc.r57_5, hc.r57_6, hc.r57_7, hc.r57_8, hc.r57_9, hc.r57_10, hc.t60, hc.z60, hp.t0, hp.t1, hp.t2, hp.t3, hp.t4, hp.t5, hp.t6, hp.t7, hp.t8, hp.t9, hp.t10, hp.t11, hp.t12, hp.t13, hp.t14, hp.t15, hp.t16, hp.t17, hp.t18, hp.t19, hp.t20, hp.t21, hp.t22, hp.t23, hp.z2, hp.z3, hp.z4, hp.z5, hp.z7, hp.z8, hp.z9, hp.z10, hp.z12, hp.z13, hp.z14, hp.z15, hp.z16, hp.z17, hp.z18, hp.z20, hp.z21, hp.z22, hp.z23, hp.r0_2, hp.r0_3, hp.r0_4, hp.r0_5, hp.r1_1, hp.r1_2, hp.r1_3, hp.r1_4, hp.r6_1, hp.r6_2, hp.r6_3, hp.r6_4, hp.r11_1, hp.r11_2, hp.r11_3, hp.r11_4, hp.r11_5, hp.r11_6, hp.r11_7, hp.r19_1, hp.r19_2, hp.r19_3, hp.r19_4]
                have := ih (c + 1) (up2 h.1 60 (grp v f ww c).length c, h.2) (by omega) (NZ.up (I := h.1) (F := h.2) z (by rw [hc.z60]; omega)) (G1.tr g ⟨fun a q => up2_of q, rfl⟩) (by rw [e]; exact R1.snoc r (fun k => by dsimp only; rw [up2_same]))
                rw [e, List.length_append, List.length_singleton] at this
                exact this
            · have e : grp v f ww (c + 1) = grp v f ww c := by rw [grp, if_neg (fun q => by have := q.1; unfold gpC at this; rw [decide_eq_false c3, Bool.and_false] at this; cases this)]
              simp (disch := first | assumption | omega) only [e_67_8, e_67_9, e_67_10, e_67_11, e_67_12, e_67_13, e_67_14, e_67_15, e_67_16, e_67_17, e_67_18, e_67_19, e_67_20, e_67_21, e_67_22, e_67_23, e_67_24, e_67_25, e_67_26, e_67_27, e_67_28, e_67_29, e_67_43, e_67_44, onI_s, onR_s, onL_s, gl_0, gl_n, gl_1, gl_2, gl_3, gl_4, gl_5, gl_6, gl_7, gl_8, gl_9, gl_10, gl_11, gl_12, gl_13, gl_14, gl_15, gl_16, gl_17, sk0i, sk0r, sk0n, sk1i, sk1r, sk1n, sk_2, sk_3, sk_4, sk_5, sk_6, sk_7, sk_8, sk_9, sk_10, sk_11, sk_12, sk_13, sk_14, sk_15, sk_16, sk_17, ls_0, ls_1, ls_2, ls_3, ls_4, ls_5, ls_6, ls_7, ls_8, ls_9, ls_10, ls_11, ls_12, ls_13, ls_14, ls_15, ls_16, ls_17, ct1_i, ct1_r, wd8_0, wd8_i1, wd8_r1, wd8_i2, wd8_r2, wd8_i3, wd8_r3, wd8_i4, wd8_r4, wd8_i5, wd8_r5, wd8_i6, wd8_r6, wd8_i7, wd8_r7, wd8_i8, wd8_r8, wd8_l2, wd8_l3, wd8_l4, wd8_l5, wd8_l6, wd8_l7, wd8_l8, tl_s, tl_n, inR_t, bd_t, true_and, and_true, true_or, or_true, if_true_x, if_false_x, if_pos, if_neg, Int.toNat_natCast, natL, bI_0, bI_1, bI_ft, eq_self, b_tf, b_ft, not_true_eq_false, not_false_eq_true, eN, m_23 hp, cvh, c1, e13, c2, e12, c3, Int.toNat_natCast, cast_s, hc.t57, hc.r57_0, hc.r57_1, hc.r57_2, hc.r57_3, hc.r57_4, hc.r57_5, hc.r57_6, hc.r57_7, hc.r57_8, hc.r57_9, hc.r57_10, hp.t0, hp.t1, hp.t2, hp.t3, hp.t4, hp.t5, hp.t6, hp.t7, hp.t8, hp.t9, hp.t10, hp.t11, hp.t12, hp.t13, hp.t14, hp.t15, hp.t16, hp.t17, hp.t18, hp.t19, hp.t20, hp.t21, hp.t22, hp.t23, hp.z2, hp.z3, hp.z4, hp.z5, hp.z7, hp.z8, hp.z9, hp.z10, hp.z12, hp.z13, hp.z14, hp.z15, hp.z16, hp.z17, hp.z18, hp.z20, hp.z21, hp.z22, hp.z23, hp.r0_2, hp.r0_3, hp.r0_4, hp.r0_5, hp.r1_1, hp.r1_2, hp.r1_3, hp.r1_4, hp.r6_1, hp.r6_2, hp.r6_3, hp.r6_4, hp.r11_1, hp.r11_2, hp.r11_3, hp.r11_4, hp.r11_5, hp.r11_6, hp.r11_7, hp.r19_1, hp.r19_2, hp.r19_3, hp.r19_4]
              exact skip e
          · have e : grp v f ww (c + 1) = grp v f ww c := by rw [grp, if_neg (fun q => by have := q.1; unfold gpC at this; rw [decide_eq_false c2, Bool.and_false, Bool.false_and] at this; cases this)]
            simp (disch := first | assumption | omega) only [e_67_8, e_67_9, e_67_10, e_67_11, e_67_12, e_67_13, e_67_14, e_67_15, e_67_16, e_67_17, e_67_18, e_67_19, e_67_20, e_67_21, e_67_22, e_67_23, e_67_43, e_67_44, onI_s, onR_s, onL_s, gl_0, gl_n, gl_1, gl_2, gl_3, gl_4, gl_5, gl_6, gl_7, gl_8, gl_9, gl_10, gl_11, gl_12, gl_13, gl_14, gl_15, gl_16, gl_17, sk0i, sk0r, sk0n, sk1i, sk1r, sk1n, sk_2, sk_3, sk_4, sk_5, sk_6, sk_7, sk_8, sk_9, sk_10, sk_11, sk_12, sk_13, sk_14, sk_15, sk_16, sk_17, ls_0, ls_1, ls_2, ls_3, ls_4, ls_5, ls_6, ls_7, ls_8, ls_9, ls_10, ls_11, ls_12, ls_13, ls_14, ls_15, ls_16, ls_17, ct1_i, ct1_r, wd8_0, wd8_i1, wd8_r1, wd8_i2, wd8_r2, wd8_i3, wd8_r3, wd8_i4, wd8_r4, wd8_i5, wd8_r5, wd8_i6, wd8_r6, wd8_i7, wd8_r7, wd8_i8, wd8_r8, wd8_l2, wd8_l3, wd8_l4, wd8_l5, wd8_l6, wd8_l7, wd8_l8, tl_s, tl_n, inR_t, bd_t, true_and, and_true, true_or, or_true, if_true_x, if_false_x, if_pos, if_neg, Int.toNat_natCast, natL, bI_0, bI_1, bI_ft, eq_self, b_tf, b_ft, not_true_eq_false, not_false_eq_true, eN, m_23 hp, cvh, c1, e13, c2, Int.toNat_natCast, cast_s, hc.t57, hc.r57_0, hc.r57_1, hc.r57_2, hc.r57_3, hc.r57_4, hc.r57_5, hc.r57_6, hc.r57_7, hc.r57_8, hc.r57_9, hc.r57_10, hp.t0, hp.t1, hp.t2, hp.t3, hp.t4, hp.t5, hp.t6, hp.t7, hp.t8, hp.t9, hp.t10, hp.t11, hp.t12, hp.t13, hp.t14, hp.t15, hp.t16, hp.t17, hp.t18, hp.t19, hp.t20, hp.t21, hp.t22, hp.t23, hp.z2, hp.z3, hp.z4, hp.z5, hp.z7, hp.z8, hp.z9, hp.z10, hp.z12, hp.z13, hp.z14, hp.z15, hp.z16, hp.z17, hp.z18, hp.z20, hp.z21, hp.z22, hp.z23, hp.r0_2, hp.r0_3, hp.r0_4, hp.r0_5, hp.r1_1, hp.r1_2, hp.r1_3, hp.r1_4, hp.r6_1, hp.r6_2, hp.r6_3, hp.r6_4, hp.r11_1, hp.r11_2, hp.r11_3, hp.r11_4, hp.r11_5, hp.r11_6, hp.r11_7, hp.r19_1, hp.r19_2, hp.r19_3, hp.r19_4]
            exact skip e
        · have c1' : lpB v c = false := by simpa using c1
          have e : grp v f ww (c + 1) = grp v f ww c := by rw [grp, if_neg (fun q => by have := q.1; unfold gpC at this; rw [c1', Bool.false_and, Bool.false_and] at this; cases this)]
          simp (disch := first | assumption | omega) only [e_67_8, e_67_9, e_67_10, e_67_11, e_67_12, e_67_13, e_67_14, e_67_15, e_67_16, e_67_17, e_67_43, e_67_44, onI_s, onR_s, onL_s, gl_0, gl_n, gl_1, gl_2, gl_3, gl_4, gl_5, gl_6, gl_7, gl_8, gl_9, gl_10, gl_11, gl_12, gl_13, gl_14, gl_15, gl_16, gl_17, sk0i, sk0r, sk0n, sk1i, sk1r, sk1n, sk_2, sk_3, sk_4, sk_5, sk_6, sk_7, sk_8, sk_9, sk_10, sk_11, sk_12, sk_13, sk_14, sk_15, sk_16, sk_17, ls_0, ls_1, ls_2, ls_3, ls_4, ls_5, ls_6, ls_7, ls_8, ls_9, ls_10, ls_11, ls_12, ls_13, ls_14, ls_15, ls_16, ls_17, ct1_i, ct1_r, wd8_0, wd8_i1, wd8_r1, wd8_i2, wd8_r2, wd8_i3, wd8_r3, wd8_i4, wd8_r4, wd8_i5, wd8_r5, wd8_i6, wd8_r6, wd8_i7, wd8_r7, wd8_i8, wd8_r8, wd8_l2, wd8_l3, wd8_l4, wd8_l5, wd8_l6, wd8_l7, wd8_l8, tl_s, tl_n, inR_t, bd_t, true_and, and_true, true_or, or_true, if_true_x, if_false_x, if_pos, if_neg, Int.toNat_natCast, natL, bI_0, bI_1, bI_ft, eq_self, b_tf, b_ft, not_true_eq_false, not_false_eq_true, eN, m_23 hp, cvh, c1', Int.toNat_natCast, cast_s, hc.t57, hc.r57_0, hc.r57_1, hc.r57_2, hc.r57_3, hc.r57_4, hc.r57_5, hc.r57_6, hc.r57_7, hc.r57_8, hc.r57_9, hc.r57_10, hp.t0, hp.t1, hp.t2, hp.t3, hp.t4, hp.t5, hp.t6, hp.t7, hp.t8, hp.t9, hp.t10, hp.t11, hp.t12, hp.t13, hp.t14, hp.t15, hp.t16, hp.t17, hp.t18, hp.t19, hp.t20, hp.t21, hp.t22, hp.t23, hp.z2, hp.z3, hp.z4, hp.z5, hp.z7, hp.z8, hp.z9, hp.z10, hp.z12, hp.z13, hp.z14, hp.z15, hp.z16, hp.z17, hp.z18, hp.z20, hp.z21, hp.z22, hp.z23, hp.r0_2, hp.r0_3, hp.r0_4, hp.r0_5, hp.r1_1, hp.r1_2, hp.r1_3, hp.r1_4, hp.r6_1, hp.r6_2, hp.r6_3, hp.r6_4, hp.r11_1, hp.r11_2, hp.r11_3, hp.r11_4, hp.r11_5, hp.r11_6, hp.r11_7, hp.r19_1, hp.r19_2, hp.r19_3, hp.r19_4]
          exact skip e
      · have gf := grp_full (v := v) (f := f) (w := ww) (n := c) (by omega) (m + 1)
        rw [show c + (m + 1) = N by omega] at gf
        rw [gf] at hq
        simp (disch := first | assumption | omega) only [e_67_8, e_67_9, e_67_10, e_67_11, e_67_12, e_67_13, e_67_45, e_67_46, onI_s, onR_s, onL_s, gl_0, gl_n, gl_1, gl_2, gl_3, gl_4, gl_5, gl_6, gl_7, gl_8, gl_9, gl_10, gl_11, gl_12, gl_13, gl_14, gl_15, gl_16, gl_17, sk0i, sk0r, sk0n, sk1i, sk1r, sk1n, sk_2, sk_3, sk_4, sk_5, sk_6, sk_7, sk_8, sk_9, sk_10, sk_11, sk_12, sk_13, sk_14, sk_15, sk_16, sk_17, ls_0, ls_1, ls_2, ls_3, ls_4, ls_5, ls_6, ls_7, ls_8, ls_9, ls_10, ls_11, ls_12, ls_13, ls_14, ls_15, ls_16, ls_17, ct1_i, ct1_r, wd8_0, wd8_i1, wd8_r1, wd8_i2, wd8_r2, wd8_i3, wd8_r3, wd8_i4, wd8_r4, wd8_i5, wd8_r5, wd8_i6, wd8_r6, wd8_i7, wd8_r7, wd8_i8, wd8_r8, wd8_l2, wd8_l3, wd8_l4, wd8_l5, wd8_l6, wd8_l7, wd8_l8, tl_s, tl_n, inR_t, bd_t, true_and, and_true, true_or, or_true, if_true_x, if_false_x, if_pos, if_neg, Int.toNat_natCast, natL, bI_0, bI_1, bI_ft, eq_self, b_tf, b_ft, not_true_eq_false, not_false_eq_true, eN, hp.t0, hp.t1, hp.t2, hp.t3, hp.t4, hp.t5, hp.t6, hp.t7, hp.t8, hp.t9, hp.t10, hp.t11, hp.t12, hp.t13, hp.t14, hp.t15, hp.t16, hp.t17, hp.t18, hp.t19, hp.t20, hp.t21, hp.t22, hp.t23, hp.z2, hp.z3, hp.z4, hp.z5, hp.z7, hp.z8, hp.z9, hp.z10, hp.z12, hp.z13, hp.z14, hp.z15, hp.z16, hp.z17, hp.z18, hp.z20, hp.z21, hp.z22, hp.z23, hp.r0_2, hp.r0_3, hp.r0_4, hp.r0_5, hp.r1_1, hp.r1_2, hp.r1_3, hp.r1_4, hp.r6_1, hp.r6_2, hp.r6_3, hp.r6_4, hp.r11_1, hp.r11_2, hp.r11_3, hp.r11_4, hp.r11_5, hp.r11_6, hp.r11_7, hp.r19_1, hp.r19_2, hp.r19_3, hp.r19_4]
        exact hq h z g r
  rw [c_67]
  simp (disch := first | assumption | omega) only [e_67_0, e_67_1, e_67_2, e_67_3, e_67_4, e_67_5, e_67_6, onI_s, onR_s, onL_s, gl_0, gl_n, gl_1, gl_2, gl_3, gl_4, gl_5, gl_6, gl_7, gl_8, gl_9, gl_10, gl_11, gl_12, gl_13, gl_14, gl_15, gl_16, gl_17, sk0i, sk0r, sk0n, sk1i, sk1r, sk1n, sk_2, sk_3, sk_4, sk_5, sk_6, sk_7, sk_8, sk_9, sk_10, sk_11, sk_12, sk_13, sk_14, sk_15, sk_16, sk_17, ls_0, ls_1, ls_2, ls_3, ls_4, ls_5, ls_6, ls_7, ls_8, ls_9, ls_10, ls_11, ls_12, ls_13, ls_14, ls_15, ls_16, ls_17, ct1_i, ct1_r, wd8_0, wd8_i1, wd8_r1, wd8_i2, wd8_r2, wd8_i3, wd8_r3, wd8_i4, wd8_r4, wd8_i5, wd8_r5, wd8_i6, wd8_r6, wd8_i7, wd8_r7, wd8_i8, wd8_r8, wd8_l2, wd8_l3, wd8_l4, wd8_l5, wd8_l6, wd8_l7, wd8_l8, tl_s, tl_n, inR_t, bd_t, true_and, and_true, true_or, or_true, if_true_x, if_false_x, if_pos, if_neg, Int.toNat_natCast, natL, bI_0, bI_1, bI_ft, eq_self, b_tf, b_ft, not_true_eq_false, not_false_eq_true, hp.t0, hp.t1, hp.t2, hp.t3, hp.t4, hp.t5, hp.t6, hp.t7, hp.t8, hp.t9, hp.t10, hp.t11, hp.t12, hp.t13, hp.t14, hp.t15, hp.t16, hp.t17, hp.t18, hp.t19, hp.t20, hp.t21, hp.t22, hp.t23, hp.z2, hp.z3, hp.z4, hp.z5, hp.z7, hp.z8, hp.z9, hp.z10, hp.z12, hp.z13, hp.z14, hp.z15, hp.z16, hp.z17, hp.z18, hp.z20, hp.z21, hp.z22, hp.z23, hp.r0_2, hp.r0_3, hp.r0_4, hp.r0_5, hp.r1_1, hp.r1_2, hp.r1_3, hp.r1_4, hp.r6_1, hp.r6_2, hp.r6_3, hp.r6_4, hp.r11_1, hp.r11_2, hp.r11_3, hp.r11_4, hp.r11_5, hp.r11_6, hp.r11_7, hp.r19_1, hp.r19_2, hp.r19_3, hp.r19_4]
  exact lp N 0 h0 (by omega) z G1.refl R1.nil
set_option maxHeartbeats 4000000 in
theorem m_55 (hc : CT X ns nb ln) {h0 : xH} {n : Nat} (n5 : n ≤ 5) (z : NZ X h0) (hq : ∀ h2, NZ X h2 → (∀ a, a ≠ 58 → a ≠ 59 → h2.1 a = h0.1 a) → h2.2 = h0.2 → R1 (h2.1 58) (List.range n) → R1 (h2.1 59) (List.range n) → Q none h2) : Cl X 55 [vr 57, vi n] h0 Q := by
  have lp : ∀ (m i : Nat) (h : xH), i + m = n → NZ X h → (∀ a, a ≠ 58 → a ≠ 59 → h.1 a = h0.1 a) → h.2 = h0.2 → R1 (h.1 58) (List.range i) → R1 (h.1 59) (List.range i) → Ev X 55 2 [some (vr 57), some (vi n), some (vi i)] [] h Q := by
    intro m
    induction m with
    | zero =>
      intro i h hm z g1 g2 r1 r2
      rw [e_55_2]
      simp (disch := first | assumption | omega) only [e_55_3, e_55_4, e_55_17, onI_s, onR_s, onL_s, gl_0, gl_n, gl_1, gl_2, gl_3, gl_4, gl_5, gl_6, gl_7, gl_8, gl_9, gl_10, gl_11, gl_12, gl_13, gl_14, gl_15, gl_16, gl_17, sk0i, sk0r, sk0n, sk1i, sk1r, sk1n, sk_2, sk_3, sk_4, sk_5, sk_6, sk_7, sk_8, sk_9, sk_10, sk_11, sk_12, sk_13, sk_14, sk_15, sk_16, sk_17, ls_0, ls_1, ls_2, ls_3, ls_4, ls_5, ls_6, ls_7, ls_8, ls_9, ls_10, ls_11, ls_12, ls_13, ls_14, ls_15, ls_16, ls_17, ct1_i, ct1_r, wd8_0, wd8_i1, wd8_r1, wd8_i2, wd8_r2, wd8_i3, wd8_r3, wd8_i4, wd8_r4, wd8_i5, wd8_r5, wd8_i6, wd8_r6, wd8_i7, wd8_r7, wd8_i8, wd8_r8, wd8_l2, wd8_l3, wd8_l4, wd8_l5, wd8_l6, wd8_l7, wd8_l8, tl_s, tl_n, inR_t, bd_t, true_and, and_true, true_or, or_true, if_true_x, if_false_x, if_pos, if_neg, Int.toNat_natCast, natL, bI_0, bI_1, bI_ft, eq_self, b_tf, b_ft, not_true_eq_false, not_false_eq_true]
      rw [show i = n by omega] at r1 r2
      exact hq h z g1 g2 r1 r2
    | succ m ih =>
      intro i h hm z g1 g2 r1 r2
      rw [e_55_2]
      simp (disch := first | assumption | omega) only [e_55_3, e_55_4, e_55_5, e_55_6, e_55_7, e_55_8, e_55_9, e_55_10, e_55_11, e_55_12, e_55_13, e_55_14, e_55_15, e_55_16, onI_s, onR_s, onL_s, gl_0, gl_n, gl_1, gl_2, gl_3, gl_4, gl_5, gl_6, gl_7, gl_8, gl_9, gl_10, gl_11, gl_12, gl_13, gl_14, gl_15, gl_16, gl_17, sk0i, sk0r, sk0n, sk1i, sk1r, sk1n, sk_2, sk_3, sk_4, sk_5, sk_6, sk_7, sk_8, sk_9, sk_10, sk_11, sk_12, sk_13, sk_14, sk_15, sk_16, sk_17, ls_0, ls_1, ls_2, ls_3, ls_4, ls_5, ls_6, ls_7, ls_8, ls_9, ls_10, ls_11, ls_12, ls_13, ls_14, ls_15, ls_16, ls_17, ct1_i, ct1_r, wd8_0, wd8_i1, wd8_r1, wd8_i2, wd8_r2, wd8_i3, wd8_r3, wd8_i4, wd8_r4, wd8_i5, wd8_r5, wd8_i6, wd8_r6, wd8_i7, wd8_r7, wd8_i8, wd8_r8, wd8_l2, wd8_l3, wd8_l4, wd8_l5, wd8_l6, wd8_l7, wd8_l8, tl_s, tl_n, inR_t, bd_t, true_and, and_true, true_or, or_true, if_true_x, if_false_x, if_pos, if_neg, Int.toNat_natCast, natL, bI_0, bI_1, bI_ft, eq_self, b_tf, b_ft, not_true_eq_false, not_false_eq_true, cast_s, hc.t57, hc.r57_0, hc.r57_1, hc.r57_2, hc.r57_3, hc.r57_4, hc.r57_5, hc.r57_6, hc.r57_7, hc.r57_8, hc.r57_9, hc.r57_10, hc.t58, hc.z58, hc.t59, hc.z59]
      refine ih (i + 1) (up2 (up2 h.1 58 i i) 59 i i, h.2) (by omega) (NZ.up (F := h.2) (NZ.up (I := h.1) (F := h.2) z (by rw [hc.z58]; omega)) (by rw [hc.z59]; omega)) (fun a q1 q2 => by dsimp only; rw [up2_of q2, up2_of q1]; exact g1 a q1 q2) g2 ?_ ?_
      · rw [List.range_succ]
        exact R1.snoc r1 (fun k => by dsimp only; rw [up2_of (by omega), up2_same, List.length_range])
      · rw [List.range_succ]
        exact R1.snoc r2 (fun k => by dsimp only; rw [up2_same, up2_of (by omega), List.length_range])
  rw [c_55]
  simp (disch := first | assumption | omega) only [e_55_0, e_55_1, onI_s, onR_s, onL_s, gl_0, gl_n, gl_1, gl_2, gl_3, gl_4, gl_5, gl_6, gl_7, gl_8, gl_9, gl_10, gl_11, gl_12, gl_13, gl_14, gl_15, gl_16, gl_17, sk0i, sk0r, sk0n, sk1i, sk1r, sk1n, sk_2, sk_3, sk_4, sk_5, sk_6, sk_7, sk_8, sk_9, sk_10, sk_11, sk_12, sk_13, sk_14, sk_15, sk_16, sk_17, ls_0, ls_1, ls_2, ls_3, ls_4, ls_5, ls_6, ls_7, ls_8, ls_9, ls_10, ls_11, ls_12, ls_13, ls_14, ls_15, ls_16, ls_17, ct1_i, ct1_r, wd8_0, wd8_i1, wd8_r1, wd8_i2, wd8_r2, wd8_i3, wd8_r3, wd8_i4, wd8_r4, wd8_i5, wd8_r5, wd8_i6, wd8_r6, wd8_i7, wd8_r7, wd8_i8, wd8_r8, wd8_l2, wd8_l3, wd8_l4, wd8_l5, wd8_l6, wd8_l7, wd8_l8, tl_s, tl_n, inR_t, bd_t, true_and, and_true, true_or, or_true, if_true_x, if_false_x, if_pos, if_neg, Int.toNat_natCast, natL, bI_0, bI_1, bI_ft, eq_self, b_tf, b_ft, not_true_eq_false, not_false_eq_true]
  exact lp n 0 h0 (by omega) z (fun _ _ _ => rfl) rfl R1.nil R1.nil
def PTb (h : xH) (v : Nat → Nat → Int) (t : Int) (G : List Nat) : Prop := ∀ i j, i < G.length → j < G.length → h.1 64 (i * 5 + j) = wat v t (G.getD i 0) (16 * v 18 (G.getD j 0)) (16 * v 17 (G.getD j 0))
theorem pcG_bd {v : Nat → Nat → Int} {t : Int} {G : List Nat} (g : WG v) (t0 : 0 ≤ t) (t1 : t ≤ 8) (hs : ∀ o, o < G.length → rgS (v 17 (G.getD o 0)) (v 18 (G.getD o 0))) : ∀ (Gs Os : List Nat), (∀ o, o ∈ Os → o < G.length) → 0 ≤ pcG v t G Gs Os ∧ pcG v t G Gs Os ≤ 313344 * Gs.length
  | c :: Gs, o :: Os, ho => by
    have ih := pcG_bd g t0 t1 hs Gs Os (fun p hp => ho p (by simp [hp]))
    obtain ⟨a, b⟩ := hs o (ho o (by simp))
    have := wat_bd (c := c) (x := 16 * v 18 (G.getD o 0)) (y := 16 * v 17 (G.getD o 0)) g t0 t1 (by omega) (by omega) (by omega) (by omega)
    rw [pcG, List.length_cons]
    omega
  | [], [], _ => by rw [pcG]; simp; all_goals simp
  | [], _ :: _, _ => by rw [pcG]; simp; all_goals simp
  | _ :: _, [], _ => by rw [pcG]; simp; omega; all_goals simp
set_option maxHeartbeats 4000000 in
theorem m_70 (hc : CT X ns nb ln) {v : Nat → Nat → Int} {t : Int} {G O : List Nat} (g : WG v) (t0 : 0 ≤ t) (t1 : t ≤ 8) (hs : ∀ o, o < G.length → rgS (v 17 (G.getD o 0)) (v 18 (G.getD o 0))) (g5 : G.length ≤ 5) (hl : O.length = G.length) (ho : ∀ o, o ∈ O → o < G.length) (r : R1 (h.1 58) O) (pt : PTb h v t G) : Cl X 70 [vr 57, vi (G.length : Int)] h Q ↔ Q (some (vi (pcG v t G G O))) h := by
  have lp : ∀ (Gs Os : List Nat) (i : Nat) (a : Int), G.drop i = Gs → O.drop i = Os → i + Gs.length = G.length → i + Os.length = G.length → 0 ≤ a → a ≤ 313344 * i → (Ev X 70 4 [some (vr 57), some (vi (G.length : Int)), some (vi a), some (vi i)] [] h Q ↔ Q (some (vi (a + pcG v t G Gs Os))) h) := by
    intro Gs
    induction Gs with
    | nil =>
      intro Os i a hd hd2 hk hk2 a0 a1
      have : Os = [] := by
        cases Os with
        | nil => rfl
        | cons x y => simp at hk hk2; omega
      simp at hk
      rw [this, e_70_4, pcG]
      · simp (disch := first | assumption | omega) only [e_70_5, e_70_6, e_70_23, e_70_24, onI_s, onR_s, onL_s, gl_0, gl_n, gl_1, gl_2, gl_3, gl_4, gl_5, gl_6, gl_7, gl_8, gl_9, gl_10, gl_11, gl_12, gl_13, gl_14, gl_15, gl_16, gl_17, sk0i, sk0r, sk0n, sk1i, sk1r, sk1n, sk_2, sk_3, sk_4, sk_5, sk_6, sk_7, sk_8, sk_9, sk_10, sk_11, sk_12, sk_13, sk_14, sk_15, sk_16, sk_17, ls_0, ls_1, ls_2, ls_3, ls_4, ls_5, ls_6, ls_7, ls_8, ls_9, ls_10, ls_11, ls_12, ls_13, ls_14, ls_15, ls_16, ls_17, ct1_i, ct1_r, wd8_0, wd8_i1, wd8_r1, wd8_i2, wd8_r2, wd8_i3, wd8_r3, wd8_i4, wd8_r4, wd8_i5, wd8_r5, wd8_i6, wd8_r6, wd8_i7, wd8_r7, wd8_i8, wd8_r8, wd8_l2, wd8_l3, wd8_l4, wd8_l5, wd8_l6, wd8_l7, wd8_l8, tl_s, tl_n, inR_t, bd_t, true_and, and_true, true_or, or_true, if_true_x, if_false_x, if_pos, if_neg, Int.toNat_natCast, natL, bI_0, bI_1, bI_ft, eq_self, b_tf, b_ft, not_true_eq_false, not_false_eq_true]
        rw [Int.add_zero]
      all_goals simp
    | cons c Gs ih =>
      intro Os i a hd hd2 hk hk2 a0 a1
      cases Os with
      | nil => simp at hk hk2; omega
      | cons o Os =>
        rw [List.length_cons] at hk hk2
        have hx : G[i]? = some c := by
          have := List.getElem?_drop (xs := G) (i := i) (j := 0)
          rw [hd] at this
          simpa using this.symm
        have hx2 : O[i]? = some o := by
          have := List.getElem?_drop (xs := O) (i := i) (j := 0)
          rw [hd2] at this
          simpa using this.symm
        have hdn : G.drop (i + 1) = Gs := by rw [← List.drop_drop, hd]; rfl
        have hdn2 : O.drop (i + 1) = Os := by rw [← List.drop_drop, hd2]; rfl
        have eo := r i o hx2
        have ol := ho o (List.mem_of_getElem? hx2)
        have gi : G.getD i 0 = c := by rw [List.getD_eq_getElem?_getD, hx]; rfl
        have pv := pt i o (by omega) ol
        rw [gi] at pv
        obtain ⟨s1, s2⟩ := hs o ol
        have wb := wat_bd (c := c) (x := 16 * v 18 (G.getD o 0)) (y := 16 * v 17 (G.getD o 0)) g t0 t1 (by omega) (by omega) (by omega) (by omega)
        have ti : ((i : Int) * 5 + (o : Int)).toNat = i * 5 + o := by omega
        rw [e_70_4, pcG, ← Int.add_assoc, ← ih Os (i + 1) (a + wat v t c (16 * v 18 (G.getD o 0)) (16 * v 17 (G.getD o 0))) hdn hdn2 (by omega) (by omega) (by omega) (by omega)]
        simp (disch := first | assumption | omega) only [e_70_5, e_70_6, e_70_7, e_70_8, e_70_9, e_70_10, e_70_11, e_70_12, e_70_13, e_70_14, e_70_15, e_70_16, e_70_17, e_70_18, e_70_19, e_70_20, e_70_21, e_70_22, onI_s, onR_s, onL_s, gl_0, gl_n, gl_1, gl_2, gl_3, gl_4, gl_5, gl_6, gl_7, gl_8, gl_9, gl_10, gl_11, gl_12, gl_13, gl_14, gl_15, gl_16, gl_17, sk0i, sk0r, sk0n, sk1i, sk1r, sk1n, sk_2, sk_3, sk_4, sk_5, sk_6, sk_7, sk_8, sk_9, sk_10, sk_11, sk_12, sk_13, sk_14, sk_15, sk_16, sk_17, ls_0, ls_1, ls_2, ls_3, ls_4, ls_5, ls_6, ls_7, ls_8, ls_9, ls_10, ls_11, ls_12, ls_13, ls_14, ls_15, ls_16, ls_17, ct1_i, ct1_r, wd8_0, wd8_i1, wd8_r1, wd8_i2, wd8_r2, wd8_i3, wd8_r3, wd8_i4, wd8_r4, wd8_i5, wd8_r5, wd8_i6, wd8_r6, wd8_i7, wd8_r7, wd8_i8, wd8_r8, wd8_l2, wd8_l3, wd8_l4, wd8_l5, wd8_l6, wd8_l7, wd8_l8, tl_s, tl_n, inR_t, bd_t, true_and, and_true, true_or, or_true, if_true_x, if_false_x, if_pos, if_neg, Int.toNat_natCast, natL, bI_0, bI_1, bI_ft, eq_self, b_tf, b_ft, not_true_eq_false, not_false_eq_true, eo, ti, pv, cast_s, hc.t57, hc.r57_0, hc.r57_1, hc.r57_2, hc.r57_3, hc.r57_4, hc.r57_5, hc.r57_6, hc.r57_7, hc.r57_8, hc.r57_9, hc.r57_10, hc.t58, hc.z58, hc.t64, hc.z64]
  rw [c_70]
  simp (disch := first | assumption | omega) only [e_70_0, e_70_1, e_70_2, e_70_3, onI_s, onR_s, onL_s, gl_0, gl_n, gl_1, gl_2, gl_3, gl_4, gl_5, gl_6, gl_7, gl_8, gl_9, gl_10, gl_11, gl_12, gl_13, gl_14, gl_15, gl_16, gl_17, sk0i, sk0r, sk0n, sk1i, sk1r, sk1n, sk_2, sk_3, sk_4, sk_5, sk_6, sk_7, sk_8, sk_9, sk_10, sk_11, sk_12, sk_13, sk_14, sk_15, sk_16, sk_17, ls_0, ls_1, ls_2, ls_3, ls_4, ls_5, ls_6, ls_7, ls_8, ls_9, ls_10, ls_11, ls_12, ls_13, ls_14, ls_15, ls_16, ls_17, ct1_i, ct1_r, wd8_0, wd8_i1, wd8_r1, wd8_i2, wd8_r2, wd8_i3, wd8_r3, wd8_i4, wd8_r4, wd8_i5, wd8_r5, wd8_i6, wd8_r6, wd8_i7, wd8_r7, wd8_i8, wd8_r8, wd8_l2, wd8_l3, wd8_l4, wd8_l5, wd8_l6, wd8_l7, wd8_l8, tl_s, tl_n, inR_t, bd_t, true_and, and_true, true_or, or_true, if_true_x, if_false_x, if_pos, if_neg, Int.toNat_natCast, natL, bI_0, bI_1, bI_ft, eq_self, b_tf, b_ft, not_true_eq_false, not_false_eq_true]
  have := lp G O 0 0 (by simp) (by simp) (by omega) (by omega) (by omega) (by omega)
  rw [Int.zero_add] at this
  exact this
end SCA
