theorem w32_t {z : Int} (h : inR z) : (Int32.ofInt z).toInt = z := i32_in h
theorem add_c {s : Int} {i : Nat} : s + (i : Int) + 1 = s + ((i + 1 : Nat) : Int) := by omega
theorem up1_o {I : Nat → Nat → Int} {a b : Nat} {f : Nat → Int} (h : b ≠ a) : up1 I a f b = I b := by unfold up1; rw [if_neg h]
theorem u21 {I : Nat → Nat → Int} {a j : Nat} {f g : Nat → Int} {v : Int} (hg : ∀ k, g k = if k = j then v else f k) : up2 (up1 I a f) a j v = up1 I a g := by
  funext b k
  rw [up2_eq]
  unfold up1
  by_cases e : b = a
  · rw [if_pos e, if_pos e, hg]
    by_cases e2 : k = j
    · rw [if_pos ⟨e, e2⟩, if_pos e2]
    · rw [if_neg (fun z => e2 z.2), if_neg e2]
  · rw [if_neg e, if_neg e, if_neg (fun z => e z.1)]
theorem u2_1 {I : Nat → Nat → Int} {a j : Nat} {v : Int} : up2 I a j v = up1 I a (fun k => if k = j then v else I a k) := by
  funext b k
  rw [up2_eq]
  unfold up1
  by_cases e : b = a
  · rw [if_pos e]
    by_cases e2 : k = j
    · rw [if_pos ⟨e, e2⟩, if_pos e2]
    · rw [if_neg (fun z => e2 z.2), if_neg e2, e]
  · rw [if_neg e, if_neg (fun z => e z.1)]
theorem up1_id {I : Nat → Nat → Int} {a : Nat} {f : Nat → Int} (h : ∀ k, f k = I a k) : up1 I a f = I := by
  funext b k
  unfold up1
  by_cases e : b = a
  · rw [if_pos e, h, e]
  · rw [if_neg e]
theorem up1_up1 {I : Nat → Nat → Int} {a : Nat} {f g : Nat → Int} : up1 (up1 I a f) a g = up1 I a g := by
  funext b k
  unfold up1
  by_cases e : b = a
  · rw [if_pos e, if_pos e]
  · rw [if_neg e, if_neg e, if_neg e]
/-- a piece of n copied -/
def cpS (f g : Nat → Int) (sp dp n : Nat) : Nat → Int := fun j => if dp ≤ j ∧ j < dp + n then f (sp + (j - dp)) else g j
def shS (U : Nat → Int) (d i : Nat) : Nat → Int := fun j => if j < i then U (j + d) else U j
def rmU (U R : Nat → Int) (n : Nat) : Nat → Int := if n = 12 then cpS R (shS U 400 4400) 0 4400 400 else cpS R U 0 (400 * n) 400
def rmS (S : Nat → Int) (n : Nat) (k : Int) : Nat → Int := if n = 12 then (fun j => if j = 11 then k else shS S 1 11 j) else (fun j => if j = n then k else S j)
section MOD
variable {X : xL} {ns nb ln : Nat} {h : xH} {I F : Nat → Nat → Int} {Q : Option xV → xH → Prop}
set_option maxHeartbeats 4000000 in
theorem l_176 {r s fa : Int} {c : Nat} (hc : CT X ns nb ln) (hw : RGv (vm h)) (hb : RBm h) (hcc : c < 20) (s0 : 0 ≤ s) {w : Nat} (hwc : vm h 12 c = w) (hsw : s + w ≤ vm h 0 1) : ∀ (m i : Nat) (a : Bool), i + m = w → (Ev X 176 19 [some (vr 70), some (vi c), some (vi r), some (vi s), some (vi fa), some (vi (bI a)), some (vi (s + i))] [] h Q ↔ Q (some (vi (bI (a && !srch (fun j => !stB1 (vm h) c r fa (s + (j : Int))) m i)))) h) := by
  have w0 := hw.sites
  intro m
  induction m with
  | zero =>
    intro i a hm
    rw [e_176_19]
    simp (disch := first | assumption | omega) only [e_176_20, e_176_21, e_176_22, e_176_23, e_176_24, e_176_25, e_176_55, e_176_56, onI_s, onR_s, onL_s, gl_0, gl_n, gl_1, gl_2, gl_3, gl_4, gl_5, gl_6, gl_7, gl_8, gl_9, gl_10, gl_11, gl_12, gl_13, gl_14, gl_15, gl_16, gl_17, sk0i, sk0r, sk0n, sk1i, sk1r, sk1n, sk_2, sk_3, sk_4, sk_5, sk_6, sk_7, sk_8, sk_9, sk_10, sk_11, sk_12, sk_13, sk_14, sk_15, sk_16, sk_17, ls_0, ls_1, ls_2, ls_3, ls_4, ls_5, ls_6, ls_7, ls_8, ls_9, ls_10, ls_11, ls_12, ls_13, ls_14, ls_15, ls_16, ls_17, ct1_i, ct1_r, wd8_0, wd8_i1, wd8_r1, wd8_i2, wd8_r2, wd8_i3, wd8_r3, wd8_i4, wd8_r4, wd8_i5, wd8_r5, wd8_i6, wd8_r6, wd8_i7, wd8_r7, wd8_i8, wd8_r8, wd8_l2, wd8_l3, wd8_l4, wd8_l5, wd8_l6, wd8_l7, wd8_l8, tl_s, tl_n, inR_t, bd_t, true_and, and_true, true_or, or_true, if_true_x, if_false_x, if_pos, if_neg, Int.toNat_natCast, natL, bI_0, bI_1, bI_ft, eq_self, b_tf, b_ft, m_160 hc, hwc, w32_t, hc.t70, hc.r70_4, hc.r70_5, hc.r70_6, hc.r70_7, hc.r70_8, hc.r70_10, hc.r70_11, hc.r70_12, hc.r70_14, hc.r70_15, hc.r70_16, hc.r70_17, hc.r70_19, hc.r70_21, hc.r70_23, hc.r70_24, hc.r70_26, hc.r70_27, hc.r70_28, hc.r70_29, hc.r70_30, hc.r70_31, hc.r70_32, hc.r70_33, hc.r70_36]
    simp [srch]
  | succ m ih =>
    intro i a hm
    rw [e_176_19]
    cases a
    · simp (disch := first | assumption | omega) only [e_176_20, e_176_21, e_176_22, e_176_23, e_176_24, e_176_25, e_176_26, e_176_27, e_176_55, e_176_56, onI_s, onR_s, onL_s, gl_0, gl_n, gl_1, gl_2, gl_3, gl_4, gl_5, gl_6, gl_7, gl_8, gl_9, gl_10, gl_11, gl_12, gl_13, gl_14, gl_15, gl_16, gl_17, sk0i, sk0r, sk0n, sk1i, sk1r, sk1n, sk_2, sk_3, sk_4, sk_5, sk_6, sk_7, sk_8, sk_9, sk_10, sk_11, sk_12, sk_13, sk_14, sk_15, sk_16, sk_17, ls_0, ls_1, ls_2, ls_3, ls_4, ls_5, ls_6, ls_7, ls_8, ls_9, ls_10, ls_11, ls_12, ls_13, ls_14, ls_15, ls_16, ls_17, ct1_i, ct1_r, wd8_0, wd8_i1, wd8_r1, wd8_i2, wd8_r2, wd8_i3, wd8_r3, wd8_i4, wd8_r4, wd8_i5, wd8_r5, wd8_i6, wd8_r6, wd8_i7, wd8_r7, wd8_i8, wd8_r8, wd8_l2, wd8_l3, wd8_l4, wd8_l5, wd8_l6, wd8_l7, wd8_l8, tl_s, tl_n, inR_t, bd_t, true_and, and_true, true_or, or_true, if_true_x, if_false_x, if_pos, if_neg, Int.toNat_natCast, natL, bI_0, bI_1, bI_ft, eq_self, b_tf, b_ft, m_160 hc, hwc, w32_t, bI_f, hc.t70, hc.r70_4, hc.r70_5, hc.r70_6, hc.r70_7, hc.r70_8, hc.r70_10, hc.r70_11, hc.r70_12, hc.r70_14, hc.r70_15, hc.r70_16, hc.r70_17, hc.r70_19, hc.r70_21, hc.r70_23, hc.r70_24, hc.r70_26, hc.r70_27, hc.r70_28, hc.r70_29, hc.r70_30, hc.r70_31, hc.r70_32, hc.r70_33, hc.r70_36]
      simp [bI]
    · have ht := ih (i + 1) true (by omega)
      have hf := ih (i + 1) false (by omega)
      rw [bI_t] at ht
      rw [bI_f] at hf
      cases e1 : anyB (ovV (vm h) 2 r r (s + i) (s + i)) (vm h 1 0).toNat
      · by_cases e2 : lst (ovV (vm h) 7 r r (s + i) (s + i)) (vm h 6 0).toNat 0 (-1) = vm h 13 c
        · by_cases e3 : lst (ctB (vm h) r (s + i) c fa) (vm h 11 0).toNat 0 (-1) = -1
          · simp (disch := first | assumption | omega) only [e_176_20, e_176_21, e_176_22, e_176_23, e_176_24, e_176_25, e_176_26, e_176_27, e_176_28, e_176_29, e_176_30, e_176_31, e_176_32, e_176_33, e_176_34, e_176_35, e_176_36, e_176_37, e_176_38, e_176_39, e_176_40, e_176_41, e_176_42, e_176_43, e_176_44, e_176_45, e_176_46, e_176_47, e_176_48, e_176_49, e_176_50, e_176_51, e_176_52, e_176_53, e_176_54, onI_s, onR_s, onL_s, gl_0, gl_n, gl_1, gl_2, gl_3, gl_4, gl_5, gl_6, gl_7, gl_8, gl_9, gl_10, gl_11, gl_12, gl_13, gl_14, gl_15, gl_16, gl_17, sk0i, sk0r, sk0n, sk1i, sk1r, sk1n, sk_2, sk_3, sk_4, sk_5, sk_6, sk_7, sk_8, sk_9, sk_10, sk_11, sk_12, sk_13, sk_14, sk_15, sk_16, sk_17, ls_0, ls_1, ls_2, ls_3, ls_4, ls_5, ls_6, ls_7, ls_8, ls_9, ls_10, ls_11, ls_12, ls_13, ls_14, ls_15, ls_16, ls_17, ct1_i, ct1_r, wd8_0, wd8_i1, wd8_r1, wd8_i2, wd8_r2, wd8_i3, wd8_r3, wd8_i4, wd8_r4, wd8_i5, wd8_r5, wd8_i6, wd8_r6, wd8_i7, wd8_r7, wd8_i8, wd8_r8, wd8_l2, wd8_l3, wd8_l4, wd8_l5, wd8_l6, wd8_l7, wd8_l8, tl_s, tl_n, inR_t, bd_t, true_and, and_true, true_or, or_true, if_true_x, if_false_x, if_pos, if_neg, Int.toNat_natCast, natL, bI_0, bI_1, bI_ft, eq_self, b_tf, b_ft, m_160 hc, m_161 hc, m_171 hc hw hb, m_173 hc hw, m_175 hc hw, hwc, e1, e2, e3, w32_t, bI_t, add_c, ht, hc.t70, hc.r70_4, hc.r70_5, hc.r70_6, hc.r70_7, hc.r70_8, hc.r70_10, hc.r70_11, hc.r70_12, hc.r70_14, hc.r70_15, hc.r70_16, hc.r70_17, hc.r70_19, hc.r70_21, hc.r70_23, hc.r70_24, hc.r70_26, hc.r70_27, hc.r70_28, hc.r70_29, hc.r70_30, hc.r70_31, hc.r70_32, hc.r70_33, hc.r70_36]
            simp [srch, stB1, e1, e2, e3]
          · simp (disch := first | assumption | omega) only [e_176_20, e_176_21, e_176_22, e_176_23, e_176_24, e_176_25, e_176_26, e_176_27, e_176_28, e_176_29, e_176_30, e_176_31, e_176_32, e_176_33, e_176_34, e_176_35, e_176_36, e_176_37, e_176_38, e_176_39, e_176_40, e_176_41, e_176_42, e_176_43, e_176_44, e_176_45, e_176_46, e_176_47, e_176_48, e_176_49, e_176_50, e_176_51, e_176_52, e_176_53, e_176_54, onI_s, onR_s, onL_s, gl_0, gl_n, gl_1, gl_2, gl_3, gl_4, gl_5, gl_6, gl_7, gl_8, gl_9, gl_10, gl_11, gl_12, gl_13, gl_14, gl_15, gl_16, gl_17, sk0i, sk0r, sk0n, sk1i, sk1r, sk1n, sk_2, sk_3, sk_4, sk_5, sk_6, sk_7, sk_8, sk_9, sk_10, sk_11, sk_12, sk_13, sk_14, sk_15, sk_16, sk_17, ls_0, ls_1, ls_2, ls_3, ls_4, ls_5, ls_6, ls_7, ls_8, ls_9, ls_10, ls_11, ls_12, ls_13, ls_14, ls_15, ls_16, ls_17, ct1_i, ct1_r, wd8_0, wd8_i1, wd8_r1, wd8_i2, wd8_r2, wd8_i3, wd8_r3, wd8_i4, wd8_r4, wd8_i5, wd8_r5, wd8_i6, wd8_r6, wd8_i7, wd8_r7, wd8_i8, wd8_r8, wd8_l2, wd8_l3, wd8_l4, wd8_l5, wd8_l6, wd8_l7, wd8_l8, tl_s, tl_n, inR_t, bd_t, true_and, and_true, true_or, or_true, if_true_x, if_false_x, if_pos, if_neg, Int.toNat_natCast, natL, bI_0, bI_1, bI_ft, eq_self, b_tf, b_ft, m_160 hc, m_161 hc, m_171 hc hw hb, m_173 hc hw, m_175 hc hw, hwc, e1, e2, e3, w32_t, bI_t, add_c, hf, hc.t70, hc.r70_4, hc.r70_5, hc.r70_6, hc.r70_7, hc.r70_8, hc.r70_10, hc.r70_11, hc.r70_12, hc.r70_14, hc.r70_15, hc.r70_16, hc.r70_17, hc.r70_19, hc.r70_21, hc.r70_23, hc.r70_24, hc.r70_26, hc.r70_27, hc.r70_28, hc.r70_29, hc.r70_30, hc.r70_31, hc.r70_32, hc.r70_33, hc.r70_36]
            simp [srch, stB1, e3]
        · simp (disch := first | assumption | omega) only [e_176_20, e_176_21, e_176_22, e_176_23, e_176_24, e_176_25, e_176_26, e_176_27, e_176_28, e_176_29, e_176_30, e_176_31, e_176_32, e_176_33, e_176_34, e_176_35, e_176_36, e_176_37, e_176_38, e_176_39, e_176_40, e_176_41, e_176_42, e_176_43, e_176_44, e_176_45, e_176_46, e_176_47, e_176_48, e_176_49, e_176_50, e_176_51, e_176_52, e_176_53, e_176_54, onI_s, onR_s, onL_s, gl_0, gl_n, gl_1, gl_2, gl_3, gl_4, gl_5, gl_6, gl_7, gl_8, gl_9, gl_10, gl_11, gl_12, gl_13, gl_14, gl_15, gl_16, gl_17, sk0i, sk0r, sk0n, sk1i, sk1r, sk1n, sk_2, sk_3, sk_4, sk_5, sk_6, sk_7, sk_8, sk_9, sk_10, sk_11, sk_12, sk_13, sk_14, sk_15, sk_16, sk_17, ls_0, ls_1, ls_2, ls_3, ls_4, ls_5, ls_6, ls_7, ls_8, ls_9, ls_10, ls_11, ls_12, ls_13, ls_14, ls_15, ls_16, ls_17, ct1_i, ct1_r, wd8_0, wd8_i1, wd8_r1, wd8_i2, wd8_r2, wd8_i3, wd8_r3, wd8_i4, wd8_r4, wd8_i5, wd8_r5, wd8_i6, wd8_r6, wd8_i7, wd8_r7, wd8_i8, wd8_r8, wd8_l2, wd8_l3, wd8_l4, wd8_l5, wd8_l6, wd8_l7, wd8_l8, tl_s, tl_n, inR_t, bd_t, true_and, and_true, true_or, or_true, if_true_x, if_false_x, if_pos, if_neg, Int.toNat_natCast, natL, bI_0, bI_1, bI_ft, eq_self, b_tf, b_ft, m_160 hc, m_161 hc, m_171 hc hw hb, m_173 hc hw, m_175 hc hw, hwc, e1, e2, w32_t, bI_t, add_c, hf, hc.t70, hc.r70_4, hc.r70_5, hc.r70_6, hc.r70_7, hc.r70_8, hc.r70_10, hc.r70_11, hc.r70_12, hc.r70_14, hc.r70_15, hc.r70_16, hc.r70_17, hc.r70_19, hc.r70_21, hc.r70_23, hc.r70_24, hc.r70_26, hc.r70_27, hc.r70_28, hc.r70_29, hc.r70_30, hc.r70_31, hc.r70_32, hc.r70_33, hc.r70_36]
          simp [srch, stB1, e2]
      · simp (disch := first | assumption | omega) only [e_176_20, e_176_21, e_176_22, e_176_23, e_176_24, e_176_25, e_176_26, e_176_27, e_176_28, e_176_29, e_176_30, e_176_31, e_176_32, e_176_33, e_176_34, e_176_35, e_176_36, e_176_37, e_176_38, e_176_39, e_176_40, e_176_41, e_176_42, e_176_43, e_176_44, e_176_45, e_176_46, e_176_47, e_176_48, e_176_49, e_176_50, e_176_51, e_176_52, e_176_53, e_176_54, onI_s, onR_s, onL_s, gl_0, gl_n, gl_1, gl_2, gl_3, gl_4, gl_5, gl_6, gl_7, gl_8, gl_9, gl_10, gl_11, gl_12, gl_13, gl_14, gl_15, gl_16, gl_17, sk0i, sk0r, sk0n, sk1i, sk1r, sk1n, sk_2, sk_3, sk_4, sk_5, sk_6, sk_7, sk_8, sk_9, sk_10, sk_11, sk_12, sk_13, sk_14, sk_15, sk_16, sk_17, ls_0, ls_1, ls_2, ls_3, ls_4, ls_5, ls_6, ls_7, ls_8, ls_9, ls_10, ls_11, ls_12, ls_13, ls_14, ls_15, ls_16, ls_17, ct1_i, ct1_r, wd8_0, wd8_i1, wd8_r1, wd8_i2, wd8_r2, wd8_i3, wd8_r3, wd8_i4, wd8_r4, wd8_i5, wd8_r5, wd8_i6, wd8_r6, wd8_i7, wd8_r7, wd8_i8, wd8_r8, wd8_l2, wd8_l3, wd8_l4, wd8_l5, wd8_l6, wd8_l7, wd8_l8, tl_s, tl_n, inR_t, bd_t, true_and, and_true, true_or, or_true, if_true_x, if_false_x, if_pos, if_neg, Int.toNat_natCast, natL, bI_0, bI_1, bI_ft, eq_self, b_tf, b_ft, m_160 hc, m_161 hc, m_171 hc hw hb, m_173 hc hw, m_175 hc hw, hwc, e1, w32_t, bI_t, add_c, hf, hc.t70, hc.r70_4, hc.r70_5, hc.r70_6, hc.r70_7, hc.r70_8, hc.r70_10, hc.r70_11, hc.r70_12, hc.r70_14, hc.r70_15, hc.r70_16, hc.r70_17, hc.r70_19, hc.r70_21, hc.r70_23, hc.r70_24, hc.r70_26, hc.r70_27, hc.r70_28, hc.r70_29, hc.r70_30, hc.r70_31, hc.r70_32, hc.r70_33, hc.r70_36]
        simp [srch, stB1, e1]
set_option maxHeartbeats 4000000 in
theorem m_176 {r s fa : Int} {c : Nat} (hc : CT X ns nb ln) (hw : RGv (vm h)) (hb : RBm h) (hcc : c < 20) : Cl X 176 [vr 70, vi c, vi r, vi s, vi fa] h Q ↔ Q (some (vi (bI (lwM (vm h) c r s fa)))) h := by
  have w0 := hw.sites
  have w1 := hw.wid c
  rw [c_176]
  cases e1 : (decide (0 ≤ r) && decide (r < vm h 0 0) && decide (0 ≤ s) && decide (s < vm h 0 1))
  · simp (disch := first | assumption | omega) only [e_176_0, e_176_1, e_176_2, e_176_3, e_176_4, e_176_15, e_176_16, e_176_17, e_176_18, e_176_19, onI_s, onR_s, onL_s, gl_0, gl_n, gl_1, gl_2, gl_3, gl_4, gl_5, gl_6, gl_7, gl_8, gl_9, gl_10, gl_11, gl_12, gl_13, gl_14, gl_15, gl_16, gl_17, sk0i, sk0r, sk0n, sk1i, sk1r, sk1n, sk_2, sk_3, sk_4, sk_5, sk_6, sk_7, sk_8, sk_9, sk_10, sk_11, sk_12, sk_13, sk_14, sk_15, sk_16, sk_17, ls_0, ls_1, ls_2, ls_3, ls_4, ls_5, ls_6, ls_7, ls_8, ls_9, ls_10, ls_11, ls_12, ls_13, ls_14, ls_15, ls_16, ls_17, ct1_i, ct1_r, wd8_0, wd8_i1, wd8_r1, wd8_i2, wd8_r2, wd8_i3, wd8_r3, wd8_i4, wd8_r4, wd8_i5, wd8_r5, wd8_i6, wd8_r6, wd8_i7, wd8_r7, wd8_i8, wd8_r8, wd8_l2, wd8_l3, wd8_l4, wd8_l5, wd8_l6, wd8_l7, wd8_l8, tl_s, tl_n, inR_t, bd_t, true_and, and_true, true_or, or_true, if_true_x, if_false_x, if_pos, if_neg, Int.toNat_natCast, natL, bI_0, bI_1, bI_ft, eq_self, b_tf, b_ft, m_170 hc hw, e1, hc.t70, hc.r70_4, hc.r70_5, hc.r70_6, hc.r70_7, hc.r70_8, hc.r70_10, hc.r70_11, hc.r70_12, hc.r70_14, hc.r70_15, hc.r70_16, hc.r70_17, hc.r70_19, hc.r70_21, hc.r70_23, hc.r70_24, hc.r70_26, hc.r70_27, hc.r70_28, hc.r70_29, hc.r70_30, hc.r70_31, hc.r70_32, hc.r70_33, hc.r70_36]
    (repeat' (first | (simp (disch := first | assumption | omega) only [e_176_20, e_176_21, e_176_22, e_176_23, e_176_24, e_176_25, e_176_26, e_176_27, e_176_55, e_176_56, onI_s, onR_s, onL_s, gl_0, gl_n, gl_1, gl_2, gl_3, gl_4, gl_5, gl_6, gl_7, gl_8, gl_9, gl_10, gl_11, gl_12, gl_13, gl_14, gl_15, gl_16, gl_17, sk0i, sk0r, sk0n, sk1i, sk1r, sk1n, sk_2, sk_3, sk_4, sk_5, sk_6, sk_7, sk_8, sk_9, sk_10, sk_11, sk_12, sk_13, sk_14, sk_15, sk_16, sk_17, ls_0, ls_1, ls_2, ls_3, ls_4, ls_5, ls_6, ls_7, ls_8, ls_9, ls_10, ls_11, ls_12, ls_13, ls_14, ls_15, ls_16, ls_17, ct1_i, ct1_r, wd8_0, wd8_i1, wd8_r1, wd8_i2, wd8_r2, wd8_i3, wd8_r3, wd8_i4, wd8_r4, wd8_i5, wd8_r5, wd8_i6, wd8_r6, wd8_i7, wd8_r7, wd8_i8, wd8_r8, wd8_l2, wd8_l3, wd8_l4, wd8_l5, wd8_l6, wd8_l7, wd8_l8, tl_s, tl_n, inR_t, bd_t, true_and, and_true, true_or, or_true, if_true_x, if_false_x, if_pos, if_neg, Int.toNat_natCast, natL, bI_0, bI_1, bI_ft, eq_self, b_tf, b_ft, m_160 hc, hc.t70, hc.r70_4, hc.r70_5, hc.r70_6, hc.r70_7, hc.r70_8, hc.r70_10, hc.r70_11, hc.r70_12, hc.r70_14, hc.r70_15, hc.r70_16, hc.r70_17, hc.r70_19, hc.r70_21, hc.r70_23, hc.r70_24, hc.r70_26, hc.r70_27, hc.r70_28, hc.r70_29, hc.r70_30, hc.r70_31, hc.r70_32, hc.r70_33, hc.r70_36]) | split))
    all_goals simp [lwM, e1, bI]
  · have e2 := e1
    simp only [Bool.and_eq_true, decide_eq_true_eq] at e2
    by_cases e3 : s + vm h 12 c ≤ vm h 0 1
    · simp (disch := first | assumption | omega) only [e_176_0, e_176_1, e_176_2, e_176_3, e_176_4, e_176_5, e_176_6, e_176_7, e_176_8, e_176_9, e_176_10, e_176_11, e_176_12, e_176_13, e_176_14, e_176_15, e_176_16, e_176_17, e_176_18, onI_s, onR_s, onL_s, gl_0, gl_n, gl_1, gl_2, gl_3, gl_4, gl_5, gl_6, gl_7, gl_8, gl_9, gl_10, gl_11, gl_12, gl_13, gl_14, gl_15, gl_16, gl_17, sk0i, sk0r, sk0n, sk1i, sk1r, sk1n, sk_2, sk_3, sk_4, sk_5, sk_6, sk_7, sk_8, sk_9, sk_10, sk_11, sk_12, sk_13, sk_14, sk_15, sk_16, sk_17, ls_0, ls_1, ls_2, ls_3, ls_4, ls_5, ls_6, ls_7, ls_8, ls_9, ls_10, ls_11, ls_12, ls_13, ls_14, ls_15, ls_16, ls_17, ct1_i, ct1_r, wd8_0, wd8_i1, wd8_r1, wd8_i2, wd8_r2, wd8_i3, wd8_r3, wd8_i4, wd8_r4, wd8_i5, wd8_r5, wd8_i6, wd8_r6, wd8_i7, wd8_r7, wd8_i8, wd8_r8, wd8_l2, wd8_l3, wd8_l4, wd8_l5, wd8_l6, wd8_l7, wd8_l8, tl_s, tl_n, inR_t, bd_t, true_and, and_true, true_or, or_true, if_true_x, if_false_x, if_pos, if_neg, Int.toNat_natCast, natL, bI_0, bI_1, bI_ft, eq_self, b_tf, b_ft, m_170 hc hw, m_160 hc, e1, hc.t70, hc.r70_4, hc.r70_5, hc.r70_6, hc.r70_7, hc.r70_8, hc.r70_10, hc.r70_11, hc.r70_12, hc.r70_14, hc.r70_15, hc.r70_16, hc.r70_17, hc.r70_19, hc.r70_21, hc.r70_23, hc.r70_24, hc.r70_26, hc.r70_27, hc.r70_28, hc.r70_29, hc.r70_30, hc.r70_31, hc.r70_32, hc.r70_33, hc.r70_36]
      rw [if_neg (by rw [← vm_si]; omega)]
      have := l_176 (Q := Q) (r := r) (fa := fa) hc hw hb hcc e2.1.2 (w := (vm h 12 c).toNat) (by omega) (by omega) (vm h 12 c).toNat 0 true (by omega)
      rw [bI_t, show s + ((0 : Nat) : Int) = s by omega] at this
      rw [this]
      simp only [lwM, e1, e3, decide_true, Bool.and_true]
    · simp (disch := first | assumption | omega) only [e_176_0, e_176_1, e_176_2, e_176_3, e_176_4, e_176_5, e_176_6, e_176_7, e_176_8, e_176_9, e_176_10, e_176_11, e_176_12, onI_s, onR_s, onL_s, gl_0, gl_n, gl_1, gl_2, gl_3, gl_4, gl_5, gl_6, gl_7, gl_8, gl_9, gl_10, gl_11, gl_12, gl_13, gl_14, gl_15, gl_16, gl_17, sk0i, sk0r, sk0n, sk1i, sk1r, sk1n, sk_2, sk_3, sk_4, sk_5, sk_6, sk_7, sk_8, sk_9, sk_10, sk_11, sk_12, sk_13, sk_14, sk_15, sk_16, sk_17, ls_0, ls_1, ls_2, ls_3, ls_4, ls_5, ls_6, ls_7, ls_8, ls_9, ls_10, ls_11, ls_12, ls_13, ls_14, ls_15, ls_16, ls_17, ct1_i, ct1_r, wd8_0, wd8_i1, wd8_r1, wd8_i2, wd8_r2, wd8_i3, wd8_r3, wd8_i4, wd8_r4, wd8_i5, wd8_r5, wd8_i6, wd8_r6, wd8_i7, wd8_r7, wd8_i8, wd8_r8, wd8_l2, wd8_l3, wd8_l4, wd8_l5, wd8_l6, wd8_l7, wd8_l8, tl_s, tl_n, inR_t, bd_t, true_and, and_true, true_or, or_true, if_true_x, if_false_x, if_pos, if_neg, Int.toNat_natCast, natL, bI_0, bI_1, bI_ft, eq_self, b_tf, b_ft, m_170 hc hw, m_160 hc, e1, hc.t70, hc.r70_4, hc.r70_5, hc.r70_6, hc.r70_7, hc.r70_8, hc.r70_10, hc.r70_11, hc.r70_12, hc.r70_14, hc.r70_15, hc.r70_16, hc.r70_17, hc.r70_19, hc.r70_21, hc.r70_23, hc.r70_24, hc.r70_26, hc.r70_27, hc.r70_28, hc.r70_29, hc.r70_30, hc.r70_31, hc.r70_32, hc.r70_33, hc.r70_36]
      rw [if_pos (by rw [← vm_si]; omega)]
      (repeat' (first | (simp (disch := first | assumption | omega) only [e_176_15, e_176_16, e_176_17, e_176_18, e_176_19, e_176_20, e_176_21, e_176_22, e_176_23, e_176_24, e_176_25, e_176_26, e_176_27, e_176_55, e_176_56, onI_s, onR_s, onL_s, gl_0, gl_n, gl_1, gl_2, gl_3, gl_4, gl_5, gl_6, gl_7, gl_8, gl_9, gl_10, gl_11, gl_12, gl_13, gl_14, gl_15, gl_16, gl_17, sk0i, sk0r, sk0n, sk1i, sk1r, sk1n, sk_2, sk_3, sk_4, sk_5, sk_6, sk_7, sk_8, sk_9, sk_10, sk_11, sk_12, sk_13, sk_14, sk_15, sk_16, sk_17, ls_0, ls_1, ls_2, ls_3, ls_4, ls_5, ls_6, ls_7, ls_8, ls_9, ls_10, ls_11, ls_12, ls_13, ls_14, ls_15, ls_16, ls_17, ct1_i, ct1_r, wd8_0, wd8_i1, wd8_r1, wd8_i2, wd8_r2, wd8_i3, wd8_r3, wd8_i4, wd8_r4, wd8_i5, wd8_r5, wd8_i6, wd8_r6, wd8_i7, wd8_r7, wd8_i8, wd8_r8, wd8_l2, wd8_l3, wd8_l4, wd8_l5, wd8_l6, wd8_l7, wd8_l8, tl_s, tl_n, inR_t, bd_t, true_and, and_true, true_or, or_true, if_true_x, if_false_x, if_pos, if_neg, Int.toNat_natCast, natL, bI_0, bI_1, bI_ft, eq_self, b_tf, b_ft, m_160 hc, hc.t70, hc.r70_4, hc.r70_5, hc.r70_6, hc.r70_7, hc.r70_8, hc.r70_10, hc.r70_11, hc.r70_12, hc.r70_14, hc.r70_15, hc.r70_16, hc.r70_17, hc.r70_19, hc.r70_21, hc.r70_23, hc.r70_24, hc.r70_26, hc.r70_27, hc.r70_28, hc.r70_29, hc.r70_30, hc.r70_31, hc.r70_32, hc.r70_33, hc.r70_36]) | split))
      all_goals simp [lwM, e3, bI]
set_option maxHeartbeats 2000000 in
theorem l_155 {x d p q : Nat} (ht : X.1 x = 13) (ht2 : X.1 d = 13) (hx : x ≠ d) (h1 : p + 400 ≤ X.2.1 x) (h2 : q + 400 ≤ X.2.1 d) (h3 : p ≤ 10000) (h4 : q ≤ 10000) : ∀ (m i : Nat), i + m = 400 → (Ev X 155 2 [some (vr x), some (vi p), some (vr d), some (vi q), some (vi i)] [] (up1 I d (cpS (I x) (I d) p q i), F) Q ↔ Q none (up1 I d (cpS (I x) (I d) p q 400), F)) := by
  intro m
  induction m with
  | zero =>
    intro i hm
    rw [e_155_2, show i = 400 by omega]
    simp (disch := first | assumption | omega) only [e_155_3, e_155_4, e_155_17, onI_s, onR_s, onL_s, gl_0, gl_n, gl_1, gl_2, gl_3, gl_4, gl_5, gl_6, gl_7, gl_8, gl_9, gl_10, gl_11, gl_12, gl_13, gl_14, gl_15, gl_16, gl_17, sk0i, sk0r, sk0n, sk1i, sk1r, sk1n, sk_2, sk_3, sk_4, sk_5, sk_6, sk_7, sk_8, sk_9, sk_10, sk_11, sk_12, sk_13, sk_14, sk_15, sk_16, sk_17, ls_0, ls_1, ls_2, ls_3, ls_4, ls_5, ls_6, ls_7, ls_8, ls_9, ls_10, ls_11, ls_12, ls_13, ls_14, ls_15, ls_16, ls_17, ct1_i, ct1_r, wd8_0, wd8_i1, wd8_r1, wd8_i2, wd8_r2, wd8_i3, wd8_r3, wd8_i4, wd8_r4, wd8_i5, wd8_r5, wd8_i6, wd8_r6, wd8_i7, wd8_r7, wd8_i8, wd8_r8, wd8_l2, wd8_l3, wd8_l4, wd8_l5, wd8_l6, wd8_l7, wd8_l8, tl_s, tl_n, inR_t, bd_t, true_and, and_true, true_or, or_true, if_true_x, if_false_x, if_pos, if_neg, Int.toNat_natCast, natL, bI_0, bI_1, bI_ft, eq_self, b_tf, b_ft]
  | succ m ih =>
    intro i hm
    rw [e_155_2]
    simp (disch := first | assumption | omega) only [e_155_3, e_155_4, e_155_5, e_155_6, e_155_7, e_155_8, e_155_9, e_155_10, e_155_11, e_155_12, e_155_13, e_155_14, e_155_15, e_155_16, onI_s, onR_s, onL_s, gl_0, gl_n, gl_1, gl_2, gl_3, gl_4, gl_5, gl_6, gl_7, gl_8, gl_9, gl_10, gl_11, gl_12, gl_13, gl_14, gl_15, gl_16, gl_17, sk0i, sk0r, sk0n, sk1i, sk1r, sk1n, sk_2, sk_3, sk_4, sk_5, sk_6, sk_7, sk_8, sk_9, sk_10, sk_11, sk_12, sk_13, sk_14, sk_15, sk_16, sk_17, ls_0, ls_1, ls_2, ls_3, ls_4, ls_5, ls_6, ls_7, ls_8, ls_9, ls_10, ls_11, ls_12, ls_13, ls_14, ls_15, ls_16, ls_17, ct1_i, ct1_r, wd8_0, wd8_i1, wd8_r1, wd8_i2, wd8_r2, wd8_i3, wd8_r3, wd8_i4, wd8_r4, wd8_i5, wd8_r5, wd8_i6, wd8_r6, wd8_i7, wd8_r7, wd8_i8, wd8_r8, wd8_l2, wd8_l3, wd8_l4, wd8_l5, wd8_l6, wd8_l7, wd8_l8, tl_s, tl_n, inR_t, bd_t, true_and, and_true, true_or, or_true, if_true_x, if_false_x, if_pos, if_neg, Int.toNat_natCast, natL, bI_0, bI_1, bI_ft, eq_self, b_tf, b_ft, ht, ht2, up1_o, cast_s]
    rw [show ((p : Int) + i).toNat = p + i by omega, show ((q : Int) + i).toNat = q + i by omega, u21 (g := cpS (I x) (I d) p q (i + 1)) ?_, ih (i + 1) (by omega)]
    intro k
    unfold cpS
    by_cases e : k = q + i
    · rw [if_pos e, if_pos (by omega), show p + (k - q) = p + i by omega]
    · rw [if_neg e]
      by_cases e2 : q ≤ k ∧ k < q + i
      · rw [if_pos e2, if_pos (by omega)]
      · rw [if_neg e2, if_neg (by omega)]
set_option maxHeartbeats 2000000 in
theorem m_155 {x d : Nat} {p q : Int} (p0 : 0 ≤ p) (q0 : 0 ≤ q) (ht : X.1 x = 13) (ht2 : X.1 d = 13) (hx : x ≠ d) (h1 : p + 400 ≤ X.2.1 x) (h2 : q + 400 ≤ X.2.1 d) (h3 : p ≤ 10000) (h4 : q ≤ 10000) : Cl X 155 [vr x, vi p, vr d, vi q] h Q ↔ Q none (up1 h.1 d (cpS (h.1 x) (h.1 d) p.toNat q.toNat 400), h.2) := by
  rw [c_155]
  simp (disch := first | assumption | omega) only [e_155_0, e_155_1, onI_s, onR_s, onL_s, gl_0, gl_n, gl_1, gl_2, gl_3, gl_4, gl_5, gl_6, gl_7, gl_8, gl_9, gl_10, gl_11, gl_12, gl_13, gl_14, gl_15, gl_16, gl_17, sk0i, sk0r, sk0n, sk1i, sk1r, sk1n, sk_2, sk_3, sk_4, sk_5, sk_6, sk_7, sk_8, sk_9, sk_10, sk_11, sk_12, sk_13, sk_14, sk_15, sk_16, sk_17, ls_0, ls_1, ls_2, ls_3, ls_4, ls_5, ls_6, ls_7, ls_8, ls_9, ls_10, ls_11, ls_12, ls_13, ls_14, ls_15, ls_16, ls_17, ct1_i, ct1_r, wd8_0, wd8_i1, wd8_r1, wd8_i2, wd8_r2, wd8_i3, wd8_r3, wd8_i4, wd8_r4, wd8_i5, wd8_r5, wd8_i6, wd8_r6, wd8_i7, wd8_r7, wd8_i8, wd8_r8, wd8_l2, wd8_l3, wd8_l4, wd8_l5, wd8_l6, wd8_l7, wd8_l8, tl_s, tl_n, inR_t, bd_t, true_and, and_true, true_or, or_true, if_true_x, if_false_x, if_pos, if_neg, Int.toNat_natCast, natL, bI_0, bI_1, bI_ft, eq_self, b_tf, b_ft]
  have := l_155 (Q := Q) (I := h.1) (F := h.2) (p := p.toNat) (q := q.toNat) ht ht2 hx (by omega) (by omega) (by omega) (by omega) 400 0 (by omega)
  rw [up1_id (by intro k; unfold cpS; rw [if_neg (by omega)])] at this
  rw [show ((p.toNat : Nat) : Int) = p by omega, show ((q.toNat : Nat) : Int) = q by omega] at this
  exact this
set_option maxHeartbeats 2000000 in
theorem l_156a {k : Int} (hc : CT X ns nb ln) : ∀ (m i : Nat), i + m = 4400 → (Ev X 156 6 [some (vr 70), some (vi k), some (vi i)] [] (up1 I 74 (shS (I 74) 400 i), F) Q ↔ Ev X 156 21 [some (vr 70), some (vi k), some (vi 4400)] [] (up1 I 74 (shS (I 74) 400 4400), F) Q) := by
  intro m
  induction m with
  | zero =>
    intro i hm
    rw [e_156_6, show i = 4400 by omega]
    simp (disch := first | assumption | omega) only [e_156_7, e_156_8, onI_s, onR_s, onL_s, gl_0, gl_n, gl_1, gl_2, gl_3, gl_4, gl_5, gl_6, gl_7, gl_8, gl_9, gl_10, gl_11, gl_12, gl_13, gl_14, gl_15, gl_16, gl_17, sk0i, sk0r, sk0n, sk1i, sk1r, sk1n, sk_2, sk_3, sk_4, sk_5, sk_6, sk_7, sk_8, sk_9, sk_10, sk_11, sk_12, sk_13, sk_14, sk_15, sk_16, sk_17, ls_0, ls_1, ls_2, ls_3, ls_4, ls_5, ls_6, ls_7, ls_8, ls_9, ls_10, ls_11, ls_12, ls_13, ls_14, ls_15, ls_16, ls_17, ct1_i, ct1_r, wd8_0, wd8_i1, wd8_r1, wd8_i2, wd8_r2, wd8_i3, wd8_r3, wd8_i4, wd8_r4, wd8_i5, wd8_r5, wd8_i6, wd8_r6, wd8_i7, wd8_r7, wd8_i8, wd8_r8, wd8_l2, wd8_l3, wd8_l4, wd8_l5, wd8_l6, wd8_l7, wd8_l8, tl_s, tl_n, inR_t, bd_t, true_and, and_true, true_or, or_true, if_true_x, if_false_x, if_pos, if_neg, Int.toNat_natCast, natL, bI_0, bI_1, bI_ft, eq_self, b_tf, b_ft]
    exact Iff.rfl
  | succ m ih =>
    intro i hm
    rw [e_156_6]
    simp (disch := first | assumption | omega) only [e_156_7, e_156_8, e_156_9, e_156_10, e_156_11, e_156_12, e_156_13, e_156_14, e_156_15, e_156_16, e_156_17, e_156_18, e_156_19, e_156_20, onI_s, onR_s, onL_s, gl_0, gl_n, gl_1, gl_2, gl_3, gl_4, gl_5, gl_6, gl_7, gl_8, gl_9, gl_10, gl_11, gl_12, gl_13, gl_14, gl_15, gl_16, gl_17, sk0i, sk0r, sk0n, sk1i, sk1r, sk1n, sk_2, sk_3, sk_4, sk_5, sk_6, sk_7, sk_8, sk_9, sk_10, sk_11, sk_12, sk_13, sk_14, sk_15, sk_16, sk_17, ls_0, ls_1, ls_2, ls_3, ls_4, ls_5, ls_6, ls_7, ls_8, ls_9, ls_10, ls_11, ls_12, ls_13, ls_14, ls_15, ls_16, ls_17, ct1_i, ct1_r, wd8_0, wd8_i1, wd8_r1, wd8_i2, wd8_r2, wd8_i3, wd8_r3, wd8_i4, wd8_r4, wd8_i5, wd8_r5, wd8_i6, wd8_r6, wd8_i7, wd8_r7, wd8_i8, wd8_r8, wd8_l2, wd8_l3, wd8_l4, wd8_l5, wd8_l6, wd8_l7, wd8_l8, tl_s, tl_n, inR_t, bd_t, true_and, and_true, true_or, or_true, if_true_x, if_false_x, if_pos, if_neg, Int.toNat_natCast, natL, bI_0, bI_1, bI_ft, eq_self, b_tf, b_ft, up1_self, cast_s, hc.t70, hc.r70_4, hc.r70_5, hc.r70_6, hc.r70_7, hc.r70_8, hc.r70_10, hc.r70_11, hc.r70_12, hc.r70_14, hc.r70_15, hc.r70_16, hc.r70_17, hc.r70_19, hc.r70_21, hc.r70_23, hc.r70_24, hc.r70_26, hc.r70_27, hc.r70_28, hc.r70_29, hc.r70_30, hc.r70_31, hc.r70_32, hc.r70_33, hc.r70_36, hc.t74, hc.z74]
    rw [show (((i : Int) + 400).toNat) = i + 400 by omega, u21 (g := shS (I 74) 400 (i + 1)) ?_, ih (i + 1) (by omega)]
    intro j
    unfold shS
    by_cases e : j = i
    · rw [if_pos e, if_pos (by omega), if_neg (by omega), e]
    · rw [if_neg e]
      by_cases e2 : j < i
      · rw [if_pos e2, if_pos (by omega)]
      · rw [if_neg e2, if_neg (by omega)]
set_option maxHeartbeats 2000000 in
theorem l_156b {k : Int} (hc : CT X ns nb ln) : ∀ (m i : Nat), i + m = 11 → (Ev X 156 23 [some (vr 70), some (vi k), some (vi i)] [] (up1 I 75 (shS (I 75) 1 i), F) Q ↔ Ev X 156 38 [some (vr 70), some (vi k), some (vi 11)] [] (up1 I 75 (shS (I 75) 1 11), F) Q) := by
  intro m
  induction m with
  | zero =>
    intro i hm
    rw [e_156_23, show i = 11 by omega]
    simp (disch := first | assumption | omega) only [e_156_24, e_156_25, onI_s, onR_s, onL_s, gl_0, gl_n, gl_1, gl_2, gl_3, gl_4, gl_5, gl_6, gl_7, gl_8, gl_9, gl_10, gl_11, gl_12, gl_13, gl_14, gl_15, gl_16, gl_17, sk0i, sk0r, sk0n, sk1i, sk1r, sk1n, sk_2, sk_3, sk_4, sk_5, sk_6, sk_7, sk_8, sk_9, sk_10, sk_11, sk_12, sk_13, sk_14, sk_15, sk_16, sk_17, ls_0, ls_1, ls_2, ls_3, ls_4, ls_5, ls_6, ls_7, ls_8, ls_9, ls_10, ls_11, ls_12, ls_13, ls_14, ls_15, ls_16, ls_17, ct1_i, ct1_r, wd8_0, wd8_i1, wd8_r1, wd8_i2, wd8_r2, wd8_i3, wd8_r3, wd8_i4, wd8_r4, wd8_i5, wd8_r5, wd8_i6, wd8_r6, wd8_i7, wd8_r7, wd8_i8, wd8_r8, wd8_l2, wd8_l3, wd8_l4, wd8_l5, wd8_l6, wd8_l7, wd8_l8, tl_s, tl_n, inR_t, bd_t, true_and, and_true, true_or, or_true, if_true_x, if_false_x, if_pos, if_neg, Int.toNat_natCast, natL, bI_0, bI_1, bI_ft, eq_self, b_tf, b_ft]
    exact Iff.rfl
  | succ m ih =>
    intro i hm
    rw [e_156_23]
    simp (disch := first | assumption | omega) only [e_156_24, e_156_25, e_156_26, e_156_27, e_156_28, e_156_29, e_156_30, e_156_31, e_156_32, e_156_33, e_156_34, e_156_35, e_156_36, e_156_37, onI_s, onR_s, onL_s, gl_0, gl_n, gl_1, gl_2, gl_3, gl_4, gl_5, gl_6, gl_7, gl_8, gl_9, gl_10, gl_11, gl_12, gl_13, gl_14, gl_15, gl_16, gl_17, sk0i, sk0r, sk0n, sk1i, sk1r, sk1n, sk_2, sk_3, sk_4, sk_5, sk_6, sk_7, sk_8, sk_9, sk_10, sk_11, sk_12, sk_13, sk_14, sk_15, sk_16, sk_17, ls_0, ls_1, ls_2, ls_3, ls_4, ls_5, ls_6, ls_7, ls_8, ls_9, ls_10, ls_11, ls_12, ls_13, ls_14, ls_15, ls_16, ls_17, ct1_i, ct1_r, wd8_0, wd8_i1, wd8_r1, wd8_i2, wd8_r2, wd8_i3, wd8_r3, wd8_i4, wd8_r4, wd8_i5, wd8_r5, wd8_i6, wd8_r6, wd8_i7, wd8_r7, wd8_i8, wd8_r8, wd8_l2, wd8_l3, wd8_l4, wd8_l5, wd8_l6, wd8_l7, wd8_l8, tl_s, tl_n, inR_t, bd_t, true_and, and_true, true_or, or_true, if_true_x, if_false_x, if_pos, if_neg, Int.toNat_natCast, natL, bI_0, bI_1, bI_ft, eq_self, b_tf, b_ft, up1_self, cast_s, hc.t70, hc.r70_4, hc.r70_5, hc.r70_6, hc.r70_7, hc.r70_8, hc.r70_10, hc.r70_11, hc.r70_12, hc.r70_14, hc.r70_15, hc.r70_16, hc.r70_17, hc.r70_19, hc.r70_21, hc.r70_23, hc.r70_24, hc.r70_26, hc.r70_27, hc.r70_28, hc.r70_29, hc.r70_30, hc.r70_31, hc.r70_32, hc.r70_33, hc.r70_36, hc.t75, hc.z75]
    rw [u21 (g := shS (I 75) 1 (i + 1)) ?_, ih (i + 1) (by omega)]
    intro j
    unfold shS
    by_cases e : j = i
    · rw [if_pos e, if_pos (by omega), if_neg (by omega), e]
    · rw [if_neg e]
      by_cases e2 : j < i
      · rw [if_pos e2, if_pos (by omega)]
      · rw [if_neg e2, if_neg (by omega)]
theorem m_155_73_74 {p q : Int} (hc : CT X ns nb ln) (p0 : 0 ≤ p) (q0 : 0 ≤ q) (h1 : p + 400 ≤ 400) (h2 : q + 400 ≤ 4800) : Cl X 155 [vr 73, vi p, vr 74, vi q] h Q ↔ Q none (up1 h.1 74 (cpS (h.1 73) (h.1 74) p.toNat q.toNat 400), h.2) := m_155 p0 q0 hc.t73 hc.t74 (by decide) (by rw [hc.z73]; omega) (by rw [hc.z74]; omega) (by omega) (by omega)
theorem m_155_74_73 {p q : Int} (hc : CT X ns nb ln) (p0 : 0 ≤ p) (q0 : 0 ≤ q) (h1 : p + 400 ≤ 4800) (h2 : q + 400 ≤ 400) : Cl X 155 [vr 74, vi p, vr 73, vi q] h Q ↔ Q none (up1 h.1 73 (cpS (h.1 74) (h.1 73) p.toNat q.toNat 400), h.2) := m_155 p0 q0 hc.t74 hc.t73 (by decide) (by rw [hc.z74]; omega) (by rw [hc.z73]; omega) (by omega) (by omega)
theorem m_155_73_76 {p q : Int} (hc : CT X ns nb ln) (p0 : 0 ≤ p) (q0 : 0 ≤ q) (h1 : p + 400 ≤ 400) (h2 : q + 400 ≤ 400) : Cl X 155 [vr 73, vi p, vr 76, vi q] h Q ↔ Q none (up1 h.1 76 (cpS (h.1 73) (h.1 76) p.toNat q.toNat 400), h.2) := m_155 p0 q0 hc.t73 hc.t76 (by decide) (by rw [hc.z73]; omega) (by rw [hc.z76]; omega) (by omega) (by omega)
theorem m_155_76_73 {p q : Int} (hc : CT X ns nb ln) (p0 : 0 ≤ p) (q0 : 0 ≤ q) (h1 : p + 400 ≤ 400) (h2 : q + 400 ≤ 400) : Cl X 155 [vr 76, vi p, vr 73, vi q] h Q ↔ Q none (up1 h.1 73 (cpS (h.1 76) (h.1 73) p.toNat q.toNat 400), h.2) := m_155 p0 q0 hc.t76 hc.t73 (by decide) (by rw [hc.z76]; omega) (by rw [hc.z73]; omega) (by omega) (by omega)
theorem m_155_73_77 {p q : Int} (hc : CT X ns nb ln) (p0 : 0 ≤ p) (q0 : 0 ≤ q) (h1 : p + 400 ≤ 400) (h2 : q + 400 ≤ 400) : Cl X 155 [vr 73, vi p, vr 77, vi q] h Q ↔ Q none (up1 h.1 77 (cpS (h.1 73) (h.1 77) p.toNat q.toNat 400), h.2) := m_155 p0 q0 hc.t73 hc.t77 (by decide) (by rw [hc.z73]; omega) (by rw [hc.z77]; omega) (by omega) (by omega)
theorem m_155_77_73 {p q : Int} (hc : CT X ns nb ln) (p0 : 0 ≤ p) (q0 : 0 ≤ q) (h1 : p + 400 ≤ 400) (h2 : q + 400 ≤ 400) : Cl X 155 [vr 77, vi p, vr 73, vi q] h Q ↔ Q none (up1 h.1 73 (cpS (h.1 77) (h.1 73) p.toNat q.toNat 400), h.2) := m_155 p0 q0 hc.t77 hc.t73 (by decide) (by rw [hc.z77]; omega) (by rw [hc.z73]; omega) (by omega) (by omega)
set_option maxHeartbeats 4000000 in
theorem m_156 {k : Int} (hc : CT X ns nb ln) {n : Nat} (hn : h.2 70 9 = n) (n1 : n ≤ 12) : Cl X 156 [vr 70, vi k] h Q ↔ Q none (up1 (up1 h.1 74 (rmU (h.1 74) (h.1 73) n)) 75 (rmS (h.1 75) n k), up2 h.2 70 9 (if n = 12 then 12 else (n : Int) + 1)) := by
  obtain ⟨I, F⟩ := h
  dsimp only at hn ⊢
  rw [c_156]
  by_cases e : n = 12
  · have hn2 : F 70 9 = 12 := by omega
    simp (disch := first | assumption | omega) only [e_156_0, e_156_1, e_156_2, e_156_3, e_156_4, e_156_5, onI_s, onR_s, onL_s, gl_0, gl_n, gl_1, gl_2, gl_3, gl_4, gl_5, gl_6, gl_7, gl_8, gl_9, gl_10, gl_11, gl_12, gl_13, gl_14, gl_15, gl_16, gl_17, sk0i, sk0r, sk0n, sk1i, sk1r, sk1n, sk_2, sk_3, sk_4, sk_5, sk_6, sk_7, sk_8, sk_9, sk_10, sk_11, sk_12, sk_13, sk_14, sk_15, sk_16, sk_17, ls_0, ls_1, ls_2, ls_3, ls_4, ls_5, ls_6, ls_7, ls_8, ls_9, ls_10, ls_11, ls_12, ls_13, ls_14, ls_15, ls_16, ls_17, ct1_i, ct1_r, wd8_0, wd8_i1, wd8_r1, wd8_i2, wd8_r2, wd8_i3, wd8_r3, wd8_i4, wd8_r4, wd8_i5, wd8_r5, wd8_i6, wd8_r6, wd8_i7, wd8_r7, wd8_i8, wd8_r8, wd8_l2, wd8_l3, wd8_l4, wd8_l5, wd8_l6, wd8_l7, wd8_l8, tl_s, tl_n, inR_t, bd_t, true_and, and_true, true_or, or_true, if_true_x, if_false_x, if_pos, if_neg, Int.toNat_natCast, natL, bI_0, bI_1, bI_ft, eq_self, b_tf, b_ft, hn2, hc.t70, hc.r70_4, hc.r70_5, hc.r70_6, hc.r70_7, hc.r70_8, hc.r70_10, hc.r70_11, hc.r70_12, hc.r70_14, hc.r70_15, hc.r70_16, hc.r70_17, hc.r70_19, hc.r70_21, hc.r70_23, hc.r70_24, hc.r70_26, hc.r70_27, hc.r70_28, hc.r70_29, hc.r70_30, hc.r70_31, hc.r70_32, hc.r70_33, hc.r70_36]
    have a := l_156a (I := I) (F := F) (Q := Q) (k := k) hc 4400 0 (by omega)
    rw [up1_id (by intro j; unfold shS; rw [if_neg (by omega)])] at a
    refine a.trans ?_
    rw [e_156_21]
    simp (disch := first | assumption | omega) only [e_156_22, onI_s, onR_s, onL_s, gl_0, gl_n, gl_1, gl_2, gl_3, gl_4, gl_5, gl_6, gl_7, gl_8, gl_9, gl_10, gl_11, gl_12, gl_13, gl_14, gl_15, gl_16, gl_17, sk0i, sk0r, sk0n, sk1i, sk1r, sk1n, sk_2, sk_3, sk_4, sk_5, sk_6, sk_7, sk_8, sk_9, sk_10, sk_11, sk_12, sk_13, sk_14, sk_15, sk_16, sk_17, ls_0, ls_1, ls_2, ls_3, ls_4, ls_5, ls_6, ls_7, ls_8, ls_9, ls_10, ls_11, ls_12, ls_13, ls_14, ls_15, ls_16, ls_17, ct1_i, ct1_r, wd8_0, wd8_i1, wd8_r1, wd8_i2, wd8_r2, wd8_i3, wd8_r3, wd8_i4, wd8_r4, wd8_i5, wd8_r5, wd8_i6, wd8_r6, wd8_i7, wd8_r7, wd8_i8, wd8_r8, wd8_l2, wd8_l3, wd8_l4, wd8_l5, wd8_l6, wd8_l7, wd8_l8, tl_s, tl_n, inR_t, bd_t, true_and, and_true, true_or, or_true, if_true_x, if_false_x, if_pos, if_neg, Int.toNat_natCast, natL, bI_0, bI_1, bI_ft, eq_self, b_tf, b_ft]
    have b := l_156b (I := up1 I 74 (shS (I 74) 400 4400)) (F := F) (Q := Q) (k := k) hc 11 0 (by omega)
    rw [up1_id (by intro j; unfold shS; rw [if_neg (by omega)])] at b
    refine b.trans ?_
    rw [e_156_38]
    simp (disch := first | assumption | omega) only [e_156_39, e_156_40, e_156_41, e_156_42, e_156_43, e_156_44, e_156_45, e_156_46, e_156_47, e_156_48, e_156_49, e_156_50, e_156_51, e_156_52, e_156_53, e_156_54, e_156_55, e_156_56, e_156_57, e_156_58, e_156_59, e_156_60, e_156_61, e_156_62, e_156_63, e_156_64, e_156_65, e_156_66, onI_s, onR_s, onL_s, gl_0, gl_n, gl_1, gl_2, gl_3, gl_4, gl_5, gl_6, gl_7, gl_8, gl_9, gl_10, gl_11, gl_12, gl_13, gl_14, gl_15, gl_16, gl_17, sk0i, sk0r, sk0n, sk1i, sk1r, sk1n, sk_2, sk_3, sk_4, sk_5, sk_6, sk_7, sk_8, sk_9, sk_10, sk_11, sk_12, sk_13, sk_14, sk_15, sk_16, sk_17, ls_0, ls_1, ls_2, ls_3, ls_4, ls_5, ls_6, ls_7, ls_8, ls_9, ls_10, ls_11, ls_12, ls_13, ls_14, ls_15, ls_16, ls_17, ct1_i, ct1_r, wd8_0, wd8_i1, wd8_r1, wd8_i2, wd8_r2, wd8_i3, wd8_r3, wd8_i4, wd8_r4, wd8_i5, wd8_r5, wd8_i6, wd8_r6, wd8_i7, wd8_r7, wd8_i8, wd8_r8, wd8_l2, wd8_l3, wd8_l4, wd8_l5, wd8_l6, wd8_l7, wd8_l8, tl_s, tl_n, inR_t, bd_t, true_and, and_true, true_or, or_true, if_true_x, if_false_x, if_pos, if_neg, Int.toNat_natCast, natL, bI_0, bI_1, bI_ft, eq_self, b_tf, b_ft, m_155_73_74 hc, hn2, up1_self, up1_o, up2_self, up2_oth, tn_0, hc.t70, hc.r70_4, hc.r70_5, hc.r70_6, hc.r70_7, hc.r70_8, hc.r70_10, hc.r70_11, hc.r70_12, hc.r70_14, hc.r70_15, hc.r70_16, hc.r70_17, hc.r70_19, hc.r70_21, hc.r70_23, hc.r70_24, hc.r70_26, hc.r70_27, hc.r70_28, hc.r70_29, hc.r70_30, hc.r70_31, hc.r70_32, hc.r70_33, hc.r70_36, hc.t71, hc.z71, hc.t72, hc.z72, hc.t73, hc.z73, hc.t74, hc.z74, hc.t75, hc.z75]
    refine iff_of_eq (congrArg (Q none) (Prod.ext ?_ ?_))
    · funext a j
      simp only [up2_eq, up1, cpS, rmU, rmS, shS, e, if_true_x, Int.reduceSub, Int.reduceMul, Int.reduceToNat]
      repeat' split
      all_goals first | rfl | (exfalso; omega) | (simp_all; done) | (simp_all [shS]; done) | (simp_all; omega)
    · funext a j
      simp only [up2_eq, e, if_true_x]
      repeat' split
      all_goals first | rfl | (exfalso; omega) | (simp_all; done)
  · have hn3 : ¬ F 70 9 = 12 := by omega
    simp (disch := first | assumption | omega) only [e_156_0, e_156_1, e_156_2, e_156_3, e_156_44, e_156_45, e_156_46, e_156_47, e_156_48, e_156_49, e_156_50, e_156_51, e_156_52, e_156_53, e_156_54, e_156_55, e_156_56, e_156_57, e_156_58, e_156_59, e_156_60, e_156_61, e_156_62, e_156_63, e_156_64, e_156_65, e_156_66, onI_s, onR_s, onL_s, gl_0, gl_n, gl_1, gl_2, gl_3, gl_4, gl_5, gl_6, gl_7, gl_8, gl_9, gl_10, gl_11, gl_12, gl_13, gl_14, gl_15, gl_16, gl_17, sk0i, sk0r, sk0n, sk1i, sk1r, sk1n, sk_2, sk_3, sk_4, sk_5, sk_6, sk_7, sk_8, sk_9, sk_10, sk_11, sk_12, sk_13, sk_14, sk_15, sk_16, sk_17, ls_0, ls_1, ls_2, ls_3, ls_4, ls_5, ls_6, ls_7, ls_8, ls_9, ls_10, ls_11, ls_12, ls_13, ls_14, ls_15, ls_16, ls_17, ct1_i, ct1_r, wd8_0, wd8_i1, wd8_r1, wd8_i2, wd8_r2, wd8_i3, wd8_r3, wd8_i4, wd8_r4, wd8_i5, wd8_r5, wd8_i6, wd8_r6, wd8_i7, wd8_r7, wd8_i8, wd8_r8, wd8_l2, wd8_l3, wd8_l4, wd8_l5, wd8_l6, wd8_l7, wd8_l8, tl_s, tl_n, inR_t, bd_t, true_and, and_true, true_or, or_true, if_true_x, if_false_x, if_pos, if_neg, Int.toNat_natCast, natL, bI_0, bI_1, bI_ft, eq_self, b_tf, b_ft, m_155_73_74 hc, hn3, up1_self, up1_o, up2_self, up2_oth, tn_0, hc.t70, hc.r70_4, hc.r70_5, hc.r70_6, hc.r70_7, hc.r70_8, hc.r70_10, hc.r70_11, hc.r70_12, hc.r70_14, hc.r70_15, hc.r70_16, hc.r70_17, hc.r70_19, hc.r70_21, hc.r70_23, hc.r70_24, hc.r70_26, hc.r70_27, hc.r70_28, hc.r70_29, hc.r70_30, hc.r70_31, hc.r70_32, hc.r70_33, hc.r70_36, hc.t71, hc.z71, hc.t72, hc.z72, hc.t73, hc.z73, hc.t74, hc.z74, hc.t75, hc.z75]
    refine iff_of_eq (congrArg (Q none) (Prod.ext ?_ ?_))
    · funext a j
      simp only [up2_eq, up1, cpS, rmU, rmS, shS, e, if_false_x, hn]
      repeat' split
      all_goals first | rfl | (exfalso; omega) | (simp_all; done) | (simp_all [shS]; done) | (simp_all; omega)
    · funext a j
      simp only [up2_eq, e, if_false_x, hn]
end MOD
