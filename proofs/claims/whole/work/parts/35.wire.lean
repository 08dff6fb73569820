/-! WIRE -/
/-- the box that is kept, over all other numbers in fields -/
def sb (F : Nat → Nat → Int) (l r lo hi : Int) : Nat → Nat → Int := fun a k => if a = 14 ∧ k = 1 then l else if a = 14 ∧ k = 2 then r else if a = 14 ∧ k = 3 then lo else if a = 14 ∧ k = 4 then hi else F a k
section SB
variable {F : Nat → Nat → Int} {l r lo hi x l2 r2 lo2 hi2 : Int}
theorem sb_1 : sb F l r lo hi 14 1 = l := rfl
theorem sb_2 : sb F l r lo hi 14 2 = r := rfl
theorem sb_3 : sb F l r lo hi 14 3 = lo := rfl
theorem sb_4 : sb F l r lo hi 14 4 = hi := rfl
theorem sb_o {a k : Nat} (h : a ≠ 14) : sb F l r lo hi a k = F a k := by
  unfold sb
  rw [if_neg (fun z => h z.1), if_neg (fun z => h z.1), if_neg (fun z => h z.1), if_neg (fun z => h z.1)]
theorem sb_6 : sb F l r lo hi 14 6 = F 14 6 := rfl
theorem sb_e {G : Nat → Nat → Int} (h1 : G 14 1 = l) (h2 : G 14 2 = r) (h3 : G 14 3 = lo) (h4 : G 14 4 = hi) (h5 : ∀ a k, ¬ (a = 14 ∧ (k = 1 ∨ k = 2 ∨ k = 3 ∨ k = 4)) → G a k = F a k) : G = sb F l r lo hi := by
  funext a k
  unfold sb
  by_cases e1 : a = 14 ∧ k = 1
  · rw [if_pos e1, e1.1, e1.2, h1]
  · rw [if_neg e1]
    by_cases e2 : a = 14 ∧ k = 2
    · rw [if_pos e2, e2.1, e2.2, h2]
    · rw [if_neg e2]
      by_cases e3 : a = 14 ∧ k = 3
      · rw [if_pos e3, e3.1, e3.2, h3]
      · rw [if_neg e3]
        by_cases e4 : a = 14 ∧ k = 4
        · rw [if_pos e4, e4.1, e4.2, h4]
        · rw [if_neg e4]
          exact h5 a k (fun z => by omega)
theorem sb_u1 : up2 (sb F l r lo hi) 14 1 x = sb F x r lo hi := sb_e rfl rfl rfl rfl (fun a k h => by
  unfold up2 sb
  rw [if_neg (fun z => h ⟨z.1, by omega⟩), if_neg (fun z => h ⟨z.1, by omega⟩), if_neg (fun z => h ⟨z.1, by omega⟩), if_neg (fun z => h ⟨z.1, by omega⟩), if_neg (fun z => h ⟨z.1, by omega⟩)])
theorem sb_u2 : up2 (sb F l r lo hi) 14 2 x = sb F l x lo hi := sb_e rfl rfl rfl rfl (fun a k h => by
  unfold up2 sb
  rw [if_neg (fun z => h ⟨z.1, by omega⟩), if_neg (fun z => h ⟨z.1, by omega⟩), if_neg (fun z => h ⟨z.1, by omega⟩), if_neg (fun z => h ⟨z.1, by omega⟩), if_neg (fun z => h ⟨z.1, by omega⟩)])
theorem sb_u3 : up2 (sb F l r lo hi) 14 3 x = sb F l r x hi := sb_e rfl rfl rfl rfl (fun a k h => by
  unfold up2 sb
  rw [if_neg (fun z => h ⟨z.1, by omega⟩), if_neg (fun z => h ⟨z.1, by omega⟩), if_neg (fun z => h ⟨z.1, by omega⟩), if_neg (fun z => h ⟨z.1, by omega⟩), if_neg (fun z => h ⟨z.1, by omega⟩)])
theorem sb_u4 : up2 (sb F l r lo hi) 14 4 x = sb F l r lo x := sb_e rfl rfl rfl rfl (fun a k h => by
  unfold up2 sb
  rw [if_neg (fun z => h ⟨z.1, by omega⟩), if_neg (fun z => h ⟨z.1, by omega⟩), if_neg (fun z => h ⟨z.1, by omega⟩), if_neg (fun z => h ⟨z.1, by omega⟩), if_neg (fun z => h ⟨z.1, by omega⟩)])
theorem sb_sb : sb (sb F l r lo hi) l2 r2 lo2 hi2 = sb F l2 r2 lo2 hi2 := sb_e rfl rfl rfl rfl (fun a k h => by
  unfold sb
  rw [if_neg (fun z => h ⟨z.1, by omega⟩), if_neg (fun z => h ⟨z.1, by omega⟩), if_neg (fun z => h ⟨z.1, by omega⟩), if_neg (fun z => h ⟨z.1, by omega⟩), if_neg (fun z => h ⟨z.1, by omega⟩), if_neg (fun z => h ⟨z.1, by omega⟩), if_neg (fun z => h ⟨z.1, by omega⟩), if_neg (fun z => h ⟨z.1, by omega⟩)])
theorem sb_id : sb F (F 14 1) (F 14 2) (F 14 3) (F 14 4) = F := (sb_e rfl rfl rfl rfl (fun _ _ _ => rfl)).symm
end SB
theorem sbQ {I F : Nat → Nat → Int} {Q : Option xV → xH → Prop} {l r lo hi l2 r2 lo2 hi2 : Int} (h1 : l = l2) (h2 : r = r2) (h3 : lo = lo2) (h4 : hi = hi2) : Q none (I, sb F l r lo hi) ↔ Q none (I, sb F l2 r2 lo2 hi2) := by rw [h1, h2, h3, h4]
section WIR
variable {X : xL} {b ns nb ln : Nat} {I F : Nat → Nat → Int} {l r lo hi : Int} {h : xH} {Q : Option xV → xH → Prop}
/-- the box is no plan's -/
theorem cv_sb (hp : PL X b) (hc : CT X ns nb ln) : cv (I, sb F l r lo hi) b = cv (I, F) b := by
  have n0 : b ≠ 14 := fun e => by have := hp.t0; rw [e, hc.t14] at this; cases this
  have n1 : b + 1 ≠ 14 := fun e => by have := hp.t1; rw [e, hc.t14] at this; cases this
  have n6 : b + 6 ≠ 14 := fun e => by have := hp.t6; rw [e, hc.t14] at this; cases this
  have n11 : b + 11 ≠ 14 := fun e => by have := hp.t11; rw [e, hc.t14] at this; cases this
  have n19 : b + 19 ≠ 14 := fun e => by have := hp.t19; rw [e, hc.t14] at this; cases this
  funext j i
  unfold cv
  by_cases e : j = 0 ∨ j = 1 ∨ j = 6 ∨ j = 11 ∨ j = 19
  · rw [if_pos e, if_pos e]
    refine sb_o ?_
    rcases e with rfl | rfl | rfl | rfl | rfl
    · exact n0
    · exact n1
    · exact n6
    · exact n11
    · exact n19
  · rw [if_neg e, if_neg e]
set_option maxHeartbeats 1000000 in
theorem m_90 {x y : Int} (hc : CT X ns nb ln) : Cl X 90 [vr 14, vi x, vi y] (I, sb F l r lo hi) Q ↔ Q none (I, sb F (min l x) (max r x) (min lo y) (max hi y)) := by
  rw [c_90]
  simp (disch := first | assumption | omega) only [e_90_0, e_90_1, e_90_2, e_90_3, e_90_4, e_90_5, e_90_6, e_90_7, e_90_8, e_90_9, e_90_10, e_90_11, e_90_12, e_90_13, e_90_14, e_90_15, e_90_16, e_90_17, e_90_18, e_90_19, e_90_20, e_90_21, e_90_22, e_90_23, e_90_24, e_90_25, e_90_26, e_90_27, e_90_28, onI_s, onR_s, onL_s, gl_0, gl_n, gl_1, gl_2, gl_3, gl_4, gl_5, gl_6, gl_7, gl_8, gl_9, gl_10, gl_11, gl_12, gl_13, gl_14, gl_15, gl_16, gl_17, sk0i, sk0r, sk0n, sk1i, sk1r, sk1n, sk_2, sk_3, sk_4, sk_5, sk_6, sk_7, sk_8, sk_9, sk_10, sk_11, sk_12, sk_13, sk_14, sk_15, sk_16, sk_17, ls_0, ls_1, ls_2, ls_3, ls_4, ls_5, ls_6, ls_7, ls_8, ls_9, ls_10, ls_11, ls_12, ls_13, ls_14, ls_15, ls_16, ls_17, ct1_i, ct1_r, wd8_0, wd8_i1, wd8_r1, wd8_i2, wd8_r2, wd8_i3, wd8_r3, wd8_i4, wd8_r4, wd8_i5, wd8_r5, wd8_i6, wd8_r6, wd8_i7, wd8_r7, wd8_i8, wd8_r8, wd8_l2, wd8_l3, wd8_l4, wd8_l5, wd8_l6, wd8_l7, wd8_l8, tl_s, tl_n, inR_t, bd_t, true_and, and_true, true_or, or_true, if_true_x, if_false_x, if_pos, if_neg, Int.toNat_natCast, natL, bI_0, bI_1, bI_ft, eq_self, b_tf, b_ft, hc.t14, hc.r14_0, hc.r14_5, hc.r14_7, hc.r14_8, hc.r14_9, hc.r14_10, hc.r14_11, hc.r14_12, sb_1, sb_2, sb_3, sb_4, sb_u1, sb_u2, sb_u3, sb_u4]
  by_cases e1 : l ≤ x <;> by_cases e2 : x ≤ r <;> by_cases e3 : lo ≤ y <;> by_cases e4 : y ≤ hi <;> simp only [e1, e2, e3, e4, if_true_x, if_false_x] <;> refine sbQ ?_ ?_ ?_ ?_ <;> omega
/-- where a pin is, its cell at its spot or want -/
def pnX (v : Nat → Nat → Int) (n k : Nat) : Int := if 200 ≤ v 22 (n * 6 + k) then 16 * v 23 (n * 6 + k) + 8 else coX v (v 22 (n * 6 + k)).toNat + (16 * v 23 (n * 6 + k) + 8)
def pnY (v : Nat → Nat → Int) (n k : Nat) : Int := if 200 ≤ v 22 (n * 6 + k) then 16 * (v 22 (n * 6 + k) - 200) + 8 else coY v (v 22 (n * 6 + k)).toNat + 8
/-- a box that grows by pins, one left aside -/
def bx4 (px py : Nat → Int) (sk : Int) : Nat → Nat → Int × Int × Int × Int → Int × Int × Int × Int
  | 0, _, q => q
  | m + 1, i, q => bx4 px py sk m (i + 1) (if (i : Int) = sk then q else (min q.1 (px i), max q.2.1 (px i), min q.2.2.1 (py i), max q.2.2.2 (py i)))
/-- a net's pins are cells or pads -/
def NWv (v : Nat → Nat → Int) : Prop := ∀ n k : Nat, (n : Int) < v 19 0 → (k : Int) < v 21 n → v 22 (n * 6 + k) < v 11 0 ∨ 200 ≤ v 22 (n * 6 + k)
theorem coX_bd {v : Nat → Nat → Int} (w : RGv v) (c : Nat) : -16 ≤ coX v c ∧ coX v c ≤ 512 := by
  have h1 := w.wx c
  have h2 := w.sit c
  unfold coX
  split <;> omega
theorem coY_bd {v : Nat → Nat → Int} (w : RGv v) (c : Nat) : -16 ≤ coY v c ∧ coY v c ≤ 128 := by
  have h1 := w.wy c
  have h2 := w.row c
  unfold coY
  split <;> omega
theorem pnX_bd {v : Nat → Nat → Int} (w : RGv v) (n k : Nat) : -8 ≤ pnX v n k ∧ pnX v n k ≤ 1016 := by
  have h1 := coX_bd w (v 22 (n * 6 + k)).toNat
  have h2 := w.tai (n * 6 + k)
  unfold pnX
  split <;> omega
theorem pnY_bd {v : Nat → Nat → Int} (w : RGv v) (n k : Nat) : -8 ≤ pnY v n k ∧ pnY v n k ≤ 136 := by
  have h1 := coY_bd w (v 22 (n * 6 + k)).toNat
  have h2 := w.hed (n * 6 + k)
  unfold pnY
  split <;> omega
set_option maxHeartbeats 4000000 in
theorem l_89 {n : Nat} {sk : Int} (hp : PL X b) (hc : CT X ns nb ln) (hw : RGv (cv (I, F) b)) (hnw : NWv (cv (I, F) b)) (hn : n < 16) (hnn : (n : Int) < F (b + 19) 0) {pp : Nat} (hs : I (b + 21) n = pp) (hpp : pp ≤ 6) : ∀ (m i : Nat) (l r lo hi : Int) (x7 x8 : Option xV), i + m = pp → (Ev X 89 21 [some (vr 14), some (vr b), some (vi n), some (vi sk), some (vr (b + 19)), some (vi (n * 6)), some (vi i), x7, x8] [] (I, sb F l r lo hi) Q ↔ Q none (I, sb F (bx4 (pnX (cv (I, F) b) n) (pnY (cv (I, F) b) n) sk m i (l, r, lo, hi)).1 (bx4 (pnX (cv (I, F) b) n) (pnY (cv (I, F) b) n) sk m i (l, r, lo, hi)).2.1 (bx4 (pnX (cv (I, F) b) n) (pnY (cv (I, F) b) n) sk m i (l, r, lo, hi)).2.2.1 (bx4 (pnX (cv (I, F) b) n) (pnY (cv (I, F) b) n) sk m i (l, r, lo, hi)).2.2.2)) := by
  have n14 : b + 19 ≠ 14 := fun e => by have := hp.t19; rw [e, hc.t14] at this; cases this
  have hwS : ∀ l r lo hi, RGv (cv (I, sb F l r lo hi) b) := fun l r lo hi => by rw [cv_sb hp hc]; exact hw
  intro m
  induction m with
  | zero =>
    intro i l r lo hi x7 x8 hm
    rw [e_89_21]
    simp (disch := first | assumption | omega) only [e_89_22, e_89_23, e_89_24, e_89_25, e_89_26, e_89_76, onI_s, onR_s, onL_s, gl_0, gl_n, gl_1, gl_2, gl_3, gl_4, gl_5, gl_6, gl_7, gl_8, gl_9, gl_10, gl_11, gl_12, gl_13, gl_14, gl_15, gl_16, gl_17, sk0i, sk0r, sk0n, sk1i, sk1r, sk1n, sk_2, sk_3, sk_4, sk_5, sk_6, sk_7, sk_8, sk_9, sk_10, sk_11, sk_12, sk_13, sk_14, sk_15, sk_16, sk_17, ls_0, ls_1, ls_2, ls_3, ls_4, ls_5, ls_6, ls_7, ls_8, ls_9, ls_10, ls_11, ls_12, ls_13, ls_14, ls_15, ls_16, ls_17, ct1_i, ct1_r, wd8_0, wd8_i1, wd8_r1, wd8_i2, wd8_r2, wd8_i3, wd8_r3, wd8_i4, wd8_r4, wd8_i5, wd8_r5, wd8_i6, wd8_r6, wd8_i7, wd8_r7, wd8_i8, wd8_r8, wd8_l2, wd8_l3, wd8_l4, wd8_l5, wd8_l6, wd8_l7, wd8_l8, tl_s, tl_n, inR_t, bd_t, true_and, and_true, true_or, or_true, if_true_x, if_false_x, if_pos, if_neg, Int.toNat_natCast, natL, bI_0, bI_1, bI_ft, eq_self, b_tf, b_ft, hp.t0, hp.t1, hp.t2, hp.t3, hp.t4, hp.t5, hp.t6, hp.t7, hp.t8, hp.t9, hp.t10, hp.t11, hp.t12, hp.t13, hp.t14, hp.t15, hp.t16, hp.t17, hp.t18, hp.t19, hp.t20, hp.t21, hp.t22, hp.t23, hp.z2, hp.z3, hp.z4, hp.z5, hp.z7, hp.z8, hp.z9, hp.z10, hp.z12, hp.z13, hp.z14, hp.z15, hp.z16, hp.z17, hp.z18, hp.z20, hp.z21, hp.z22, hp.z23, hp.r0_2, hp.r0_3, hp.r0_4, hp.r0_5, hp.r1_1, hp.r1_2, hp.r1_3, hp.r1_4, hp.r6_1, hp.r6_2, hp.r6_3, hp.r6_4, hp.r11_1, hp.r11_2, hp.r11_3, hp.r11_4, hp.r11_5, hp.r11_6, hp.r11_7, hp.r19_1, hp.r19_2, hp.r19_3, hp.r19_4, hs]
    exact Iff.rfl
  | succ m ih =>
    intro i l r lo hi x7 x8 hm
    rw [e_89_21]
    have w1 := hw.hed (n * 6 + i)
    have w2 := hw.tai (n * 6 + i)
    have w3 := coX_bd hw (I (b + 22) (n * 6 + i)).toNat
    have w4 := coY_bd hw (I (b + 22) (n * 6 + i)).toNat
    have w5 := hnw n i (by rw [cv_19]; exact hnn) (by rw [cv_21]; show (i : Int) < I (b + 21) n; omega)
    have w6 := hw.nC
    rw [cv_22] at w1 w5
    rw [cv_23] at w2
    rw [cv_11] at w5 w6
    dsimp only at w1 w2 w5 w6
    by_cases e : (i : Int) = sk
    · simp (disch := first | assumption | omega) only [e_89_22, e_89_23, e_89_24, e_89_25, e_89_26, e_89_27, e_89_28, e_89_29, e_89_74, e_89_75, onI_s, onR_s, onL_s, gl_0, gl_n, gl_1, gl_2, gl_3, gl_4, gl_5, gl_6, gl_7, gl_8, gl_9, gl_10, gl_11, gl_12, gl_13, gl_14, gl_15, gl_16, gl_17, sk0i, sk0r, sk0n, sk1i, sk1r, sk1n, sk_2, sk_3, sk_4, sk_5, sk_6, sk_7, sk_8, sk_9, sk_10, sk_11, sk_12, sk_13, sk_14, sk_15, sk_16, sk_17, ls_0, ls_1, ls_2, ls_3, ls_4, ls_5, ls_6, ls_7, ls_8, ls_9, ls_10, ls_11, ls_12, ls_13, ls_14, ls_15, ls_16, ls_17, ct1_i, ct1_r, wd8_0, wd8_i1, wd8_r1, wd8_i2, wd8_r2, wd8_i3, wd8_r3, wd8_i4, wd8_r4, wd8_i5, wd8_r5, wd8_i6, wd8_r6, wd8_i7, wd8_r7, wd8_i8, wd8_r8, wd8_l2, wd8_l3, wd8_l4, wd8_l5, wd8_l6, wd8_l7, wd8_l8, tl_s, tl_n, inR_t, bd_t, true_and, and_true, true_or, or_true, if_true_x, if_false_x, if_pos, if_neg, Int.toNat_natCast, natL, bI_0, bI_1, bI_ft, eq_self, b_tf, b_ft, hp.t0, hp.t1, hp.t2, hp.t3, hp.t4, hp.t5, hp.t6, hp.t7, hp.t8, hp.t9, hp.t10, hp.t11, hp.t12, hp.t13, hp.t14, hp.t15, hp.t16, hp.t17, hp.t18, hp.t19, hp.t20, hp.t21, hp.t22, hp.t23, hp.z2, hp.z3, hp.z4, hp.z5, hp.z7, hp.z8, hp.z9, hp.z10, hp.z12, hp.z13, hp.z14, hp.z15, hp.z16, hp.z17, hp.z18, hp.z20, hp.z21, hp.z22, hp.z23, hp.r0_2, hp.r0_3, hp.r0_4, hp.r0_5, hp.r1_1, hp.r1_2, hp.r1_3, hp.r1_4, hp.r6_1, hp.r6_2, hp.r6_3, hp.r6_4, hp.r11_1, hp.r11_2, hp.r11_3, hp.r11_4, hp.r11_5, hp.r11_6, hp.r11_7, hp.r19_1, hp.r19_2, hp.r19_3, hp.r19_4, hs]
      simp only [cast_s]
      rw [ih (i + 1) l r lo hi _ _ (by omega), bx4, if_pos e]
    · by_cases e2 : 200 ≤ I (b + 22) (n * 6 + i)
      · have ex : pnX (cv (I, F) b) n i = 16 * I (b + 23) (n * 6 + i) + 8 := by simp [pnX, cv_22, cv_23, e2]
        have ey : pnY (cv (I, F) b) n i = 16 * (I (b + 22) (n * 6 + i) - 200) + 8 := by simp [pnY, cv_22, e2]
        simp (disch := first | assumption | omega) only [e_89_22, e_89_23, e_89_24, e_89_25, e_89_26, e_89_27, e_89_28, e_89_29, e_89_30, e_89_31, e_89_32, e_89_33, e_89_34, e_89_35, e_89_36, e_89_37, e_89_38, e_89_39, e_89_40, e_89_41, e_89_42, e_89_43, e_89_44, e_89_45, e_89_46, e_89_47, e_89_48, e_89_49, e_89_50, e_89_51, e_89_52, e_89_53, e_89_54, e_89_55, e_89_56, e_89_57, e_89_58, e_89_59, e_89_60, e_89_61, e_89_74, e_89_75, onI_s, onR_s, onL_s, gl_0, gl_n, gl_1, gl_2, gl_3, gl_4, gl_5, gl_6, gl_7, gl_8, gl_9, gl_10, gl_11, gl_12, gl_13, gl_14, gl_15, gl_16, gl_17, sk0i, sk0r, sk0n, sk1i, sk1r, sk1n, sk_2, sk_3, sk_4, sk_5, sk_6, sk_7, sk_8, sk_9, sk_10, sk_11, sk_12, sk_13, sk_14, sk_15, sk_16, sk_17, ls_0, ls_1, ls_2, ls_3, ls_4, ls_5, ls_6, ls_7, ls_8, ls_9, ls_10, ls_11, ls_12, ls_13, ls_14, ls_15, ls_16, ls_17, ct1_i, ct1_r, wd8_0, wd8_i1, wd8_r1, wd8_i2, wd8_r2, wd8_i3, wd8_r3, wd8_i4, wd8_r4, wd8_i5, wd8_r5, wd8_i6, wd8_r6, wd8_i7, wd8_r7, wd8_i8, wd8_r8, wd8_l2, wd8_l3, wd8_l4, wd8_l5, wd8_l6, wd8_l7, wd8_l8, tl_s, tl_n, inR_t, bd_t, true_and, and_true, true_or, or_true, if_true_x, if_false_x, if_pos, if_neg, Int.toNat_natCast, natL, bI_0, bI_1, bI_ft, eq_self, b_tf, b_ft, ix6, m_90 hc, hc.t14, hc.r14_0, hc.r14_5, hc.r14_7, hc.r14_8, hc.r14_9, hc.r14_10, hc.r14_11, hc.r14_12, hp.t0, hp.t1, hp.t2, hp.t3, hp.t4, hp.t5, hp.t6, hp.t7, hp.t8, hp.t9, hp.t10, hp.t11, hp.t12, hp.t13, hp.t14, hp.t15, hp.t16, hp.t17, hp.t18, hp.t19, hp.t20, hp.t21, hp.t22, hp.t23, hp.z2, hp.z3, hp.z4, hp.z5, hp.z7, hp.z8, hp.z9, hp.z10, hp.z12, hp.z13, hp.z14, hp.z15, hp.z16, hp.z17, hp.z18, hp.z20, hp.z21, hp.z22, hp.z23, hp.r0_2, hp.r0_3, hp.r0_4, hp.r0_5, hp.r1_1, hp.r1_2, hp.r1_3, hp.r1_4, hp.r6_1, hp.r6_2, hp.r6_3, hp.r6_4, hp.r11_1, hp.r11_2, hp.r11_3, hp.r11_4, hp.r11_5, hp.r11_6, hp.r11_7, hp.r19_1, hp.r19_2, hp.r19_3, hp.r19_4, hs]
        simp only [cast_s]
        rw [ih (i + 1) _ _ _ _ _ _ (by omega), bx4, if_neg e, ex, ey]
      · have ex : pnX (cv (I, F) b) n i = coX (cv (I, F) b) (I (b + 22) (n * 6 + i)).toNat + (16 * I (b + 23) (n * 6 + i) + 8) := by simp [pnX, cv_22, cv_23, e2]
        have ey : pnY (cv (I, F) b) n i = coY (cv (I, F) b) (I (b + 22) (n * 6 + i)).toNat + 8 := by simp [pnY, cv_22, e2]
        simp (disch := first | assumption | omega) only [e_89_22, e_89_23, e_89_24, e_89_25, e_89_26, e_89_27, e_89_28, e_89_29, e_89_30, e_89_31, e_89_32, e_89_33, e_89_34, e_89_35, e_89_36, e_89_37, e_89_38, e_89_39, e_89_40, e_89_41, e_89_42, e_89_43, e_89_44, e_89_45, e_89_46, e_89_47, e_89_48, e_89_49, e_89_50, e_89_62, e_89_63, e_89_64, e_89_65, e_89_66, e_89_67, e_89_68, e_89_69, e_89_70, e_89_71, e_89_72, e_89_73, e_89_74, e_89_75, onI_s, onR_s, onL_s, gl_0, gl_n, gl_1, gl_2, gl_3, gl_4, gl_5, gl_6, gl_7, gl_8, gl_9, gl_10, gl_11, gl_12, gl_13, gl_14, gl_15, gl_16, gl_17, sk0i, sk0r, sk0n, sk1i, sk1r, sk1n, sk_2, sk_3, sk_4, sk_5, sk_6, sk_7, sk_8, sk_9, sk_10, sk_11, sk_12, sk_13, sk_14, sk_15, sk_16, sk_17, ls_0, ls_1, ls_2, ls_3, ls_4, ls_5, ls_6, ls_7, ls_8, ls_9, ls_10, ls_11, ls_12, ls_13, ls_14, ls_15, ls_16, ls_17, ct1_i, ct1_r, wd8_0, wd8_i1, wd8_r1, wd8_i2, wd8_r2, wd8_i3, wd8_r3, wd8_i4, wd8_r4, wd8_i5, wd8_r5, wd8_i6, wd8_r6, wd8_i7, wd8_r7, wd8_i8, wd8_r8, wd8_l2, wd8_l3, wd8_l4, wd8_l5, wd8_l6, wd8_l7, wd8_l8, tl_s, tl_n, inR_t, bd_t, true_and, and_true, true_or, or_true, if_true_x, if_false_x, if_pos, if_neg, Int.toNat_natCast, natL, bI_0, bI_1, bI_ft, eq_self, b_tf, b_ft, ix6, m_90 hc, m_85 hp (hwS _ _ _ _), m_86 hp (hwS _ _ _ _), cv_sb hp hc, hc.t14, hc.r14_0, hc.r14_5, hc.r14_7, hc.r14_8, hc.r14_9, hc.r14_10, hc.r14_11, hc.r14_12, hp.t0, hp.t1, hp.t2, hp.t3, hp.t4, hp.t5, hp.t6, hp.t7, hp.t8, hp.t9, hp.t10, hp.t11, hp.t12, hp.t13, hp.t14, hp.t15, hp.t16, hp.t17, hp.t18, hp.t19, hp.t20, hp.t21, hp.t22, hp.t23, hp.z2, hp.z3, hp.z4, hp.z5, hp.z7, hp.z8, hp.z9, hp.z10, hp.z12, hp.z13, hp.z14, hp.z15, hp.z16, hp.z17, hp.z18, hp.z20, hp.z21, hp.z22, hp.z23, hp.r0_2, hp.r0_3, hp.r0_4, hp.r0_5, hp.r1_1, hp.r1_2, hp.r1_3, hp.r1_4, hp.r6_1, hp.r6_2, hp.r6_3, hp.r6_4, hp.r11_1, hp.r11_2, hp.r11_3, hp.r11_4, hp.r11_5, hp.r11_6, hp.r11_7, hp.r19_1, hp.r19_2, hp.r19_3, hp.r19_4, hs]
        simp only [cast_s]
        rw [ih (i + 1) _ _ _ _ _ _ (by omega), bx4, if_neg e, ex, ey]
end WIR
