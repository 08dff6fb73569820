def owF (v : Nat → Nat → Int) (i : Nat) (r s : Nat) : Int := lst (ovV v 7 r r s s) i 0 (-1)
def owB (v : Nat → Nat → Int) (i : Nat) (r s : Nat) : Int := if anyB (ovV v 2 r r s s) i = true then -2 else owF v (v 6 0).toNat r s
def owC (v : Nat → Nat → Int) (i : Nat) (r s : Nat) : Int := if anyB (fxB v r s) i = true then -2 else owB v (v 1 0).toNat r s
theorem owC_own {v : Nat → Nat → Int} {r s : Nat} : owC v (v 11 0).toNat r s = own v r s := by
  unfold owC owB owF own
  by_cases a : anyB (fxB v r s) (v 11 0).toNat = true
  · rw [if_pos a, if_pos (Or.inr a)]
  · rw [if_neg a]
    by_cases b : anyB (ovV v 2 r r s s) (v 1 0).toNat = true
    · rw [if_pos b, if_pos (Or.inl b)]
    · rw [if_neg b, if_neg (fun q => q.elim b a)]
theorem ifc2 {α : Sort _} {c d : Prop} [Decidable c] [Decidable d] {a b : α} (h : c ↔ d) : (if c then a else b) = if d then a else b := by
  by_cases q : c
  · rw [if_pos q, if_pos (h.mp q)]
  · rw [if_neg q, if_neg (fun z => q (h.mpr z))]
section PN2
variable {X : xL} {Q : Option xV → xH → Prop} {ns nb ln b : Nat}
set_option maxHeartbeats 4000000 in
theorem l_32a (hc : CT X ns nb ln) (n256 : ns ≤ 256) {I F : Nat → Nat → Int} {x3 x4 : Option xV} : ∀ (m i : Nat), i + m = ns → (Ev X 32 2 [some (vr 7), some (vr b), some (vi i), x3, x4] [] (up1 I 8 (fil (fun _ => -1) (I 8) i), F) Q ↔ Ev X 32 14 [some (vr 7), some (vr b), some (vi ns), x3, x4] [] (up1 I 8 (fil (fun _ => -1) (I 8) ns), F) Q) := by
  intro m
  induction m with
  | zero =>
    intro i hm
    rw [e_32_2]
    simp (disch := first | assumption | omega) only [e_32_3, e_32_4, e_32_5, e_32_6, onI_s, onR_s, onL_s, gl_0, gl_n, gl_1, gl_2, gl_3, gl_4, gl_5, gl_6, gl_7, gl_8, gl_9, gl_10, gl_11, gl_12, gl_13, gl_14, gl_15, gl_16, gl_17, sk0i, sk0r, sk0n, sk1i, sk1r, sk1n, sk_2, sk_3, sk_4, sk_5, sk_6, sk_7, sk_8, sk_9, sk_10, sk_11, sk_12, sk_13, sk_14, sk_15, sk_16, sk_17, ls_0, ls_1, ls_2, ls_3, ls_4, ls_5, ls_6, ls_7, ls_8, ls_9, ls_10, ls_11, ls_12, ls_13, ls_14, ls_15, ls_16, ls_17, ct1_i, ct1_r, wd8_0, wd8_i1, wd8_r1, wd8_i2, wd8_r2, wd8_i3, wd8_r3, wd8_i4, wd8_r4, wd8_i5, wd8_r5, wd8_i6, wd8_r6, wd8_i7, wd8_r7, wd8_i8, wd8_r8, wd8_l2, wd8_l3, wd8_l4, wd8_l5, wd8_l6, wd8_l7, wd8_l8, tl_s, tl_n, inR_t, bd_t, true_and, and_true, true_or, or_true, if_true_x, if_false_x, if_pos, if_neg, Int.toNat_natCast, natL, bI_0, bI_1, bI_ft, eq_self, b_tf, b_ft, not_true_eq_false, not_false_eq_true, hc.t7, hc.r7_2, hc.r7_4, hc.r7_5, hc.r7_6, hc.r7_7, hc.r7_8, hc.t8, hc.z8]
    rw [show i = ns by omega]
  | succ m ih =>
    intro i hm
    rw [e_32_2]
    simp (disch := first | assumption | omega) only [e_32_3, e_32_4, e_32_5, e_32_6, e_32_7, e_32_8, e_32_9, e_32_10, e_32_11, e_32_12, e_32_13, onI_s, onR_s, onL_s, gl_0, gl_n, gl_1, gl_2, gl_3, gl_4, gl_5, gl_6, gl_7, gl_8, gl_9, gl_10, gl_11, gl_12, gl_13, gl_14, gl_15, gl_16, gl_17, sk0i, sk0r, sk0n, sk1i, sk1r, sk1n, sk_2, sk_3, sk_4, sk_5, sk_6, sk_7, sk_8, sk_9, sk_10, sk_11, sk_12, sk_13, sk_14, sk_15, sk_16, sk_17, ls_0, ls_1, ls_2, ls_3, ls_4, ls_5, ls_6, ls_7, ls_8, ls_9, ls_10, ls_11, ls_12, ls_13, ls_14, ls_15, ls_16, ls_17, ct1_i, ct1_r, wd8_0, wd8_i1, wd8_r1, wd8_i2, wd8_r2, wd8_i3, wd8_r3, wd8_i4, wd8_r4, wd8_i5, wd8_r5, wd8_i6, wd8_r6, wd8_i7, wd8_r7, wd8_i8, wd8_r8, wd8_l2, wd8_l3, wd8_l4, wd8_l5, wd8_l6, wd8_l7, wd8_l8, tl_s, tl_n, inR_t, bd_t, true_and, and_true, true_or, or_true, if_true_x, if_false_x, if_pos, if_neg, Int.toNat_natCast, natL, bI_0, bI_1, bI_ft, eq_self, b_tf, b_ft, not_true_eq_false, not_false_eq_true, cast_s, hc.t7, hc.r7_2, hc.r7_4, hc.r7_5, hc.r7_6, hc.r7_7, hc.r7_8, hc.t8, hc.z8]
    rw [u21 (g := fil (fun _ => -1) (I 8) (i + 1)) fil_s, ih (i + 1) (by omega)]
set_option maxHeartbeats 8000000 in
theorem m_32 {h : xH} (hp : PL X b) (b200 : 200 ≤ b) (hc : CT X ns nb ln) {R S : Nat} (hR : cv h b 0 0 = R) (hS : cv h b 0 1 = S) (hS7 : h.2 7 1 = S) (hns : ns = R * S) (z : NZ X h) (g : GEO (cv h b)) (w : RGv (cv h b)) (hq : ∀ h2, NZ X h2 → G8 h h2 → PTo (h2.1 8) R S (own (cv h b)) → Q none h2) : Cl X 32 [vr 7, vr b] h Q := by
  have wr := w.rows
  have ws := w.sites
  have nB := w.nB
  have nF := w.nF
  have nC := w.nC
  have R8 : R ≤ 8 := by omega
  have S32 : S ≤ 32 := by omega
  have n256 : ns ≤ 256 := by
    rw [hns]
    exact Nat.mul_le_mul R8 S32
  have cells : ∀ (m i : Nat) (h2 : xH), NZ X h2 → G8 h h2 → PTo (h2.1 8) R S (owC (cv h b) i) → i + m = (cv h b 11 0).toNat → Ev X 32 50 [some (vr 7), some (vr b), some (vr (b + 6)), some (vr (b + 11)), some (vi i)] [] h2 Q := by
    intro m
    induction m with
    | zero =>
      intro i h2 z2 g2 p2 hm
      have hs : h2.2 (b + 11) 0 = i := by rw [g2.2]; show cv h b 11 0 = i; omega
      rw [e_32_50]
      simp (disch := first | assumption | omega) only [e_32_51, e_32_52, e_32_53, e_32_83, onI_s, onR_s, onL_s, gl_0, gl_n, gl_1, gl_2, gl_3, gl_4, gl_5, gl_6, gl_7, gl_8, gl_9, gl_10, gl_11, gl_12, gl_13, gl_14, gl_15, gl_16, gl_17, sk0i, sk0r, sk0n, sk1i, sk1r, sk1n, sk_2, sk_3, sk_4, sk_5, sk_6, sk_7, sk_8, sk_9, sk_10, sk_11, sk_12, sk_13, sk_14, sk_15, sk_16, sk_17, ls_0, ls_1, ls_2, ls_3, ls_4, ls_5, ls_6, ls_7, ls_8, ls_9, ls_10, ls_11, ls_12, ls_13, ls_14, ls_15, ls_16, ls_17, ct1_i, ct1_r, wd8_0, wd8_i1, wd8_r1, wd8_i2, wd8_r2, wd8_i3, wd8_r3, wd8_i4, wd8_r4, wd8_i5, wd8_r5, wd8_i6, wd8_r6, wd8_i7, wd8_r7, wd8_i8, wd8_r8, wd8_l2, wd8_l3, wd8_l4, wd8_l5, wd8_l6, wd8_l7, wd8_l8, tl_s, tl_n, inR_t, bd_t, true_and, and_true, true_or, or_true, if_true_x, if_false_x, if_pos, if_neg, Int.toNat_natCast, natL, bI_0, bI_1, bI_ft, eq_self, b_tf, b_ft, not_true_eq_false, not_false_eq_true, hs, hp.t0, hp.t1, hp.t2, hp.t3, hp.t4, hp.t5, hp.t6, hp.t7, hp.t8, hp.t9, hp.t10, hp.t11, hp.t12, hp.t13, hp.t14, hp.t15, hp.t16, hp.t17, hp.t18, hp.t19, hp.t20, hp.t21, hp.t22, hp.t23, hp.z2, hp.z3, hp.z4, hp.z5, hp.z7, hp.z8, hp.z9, hp.z10, hp.z12, hp.z13, hp.z14, hp.z15, hp.z16, hp.z17, hp.z18, hp.z20, hp.z21, hp.z22, hp.z23, hp.r0_2, hp.r0_3, hp.r0_4, hp.r0_5, hp.r1_1, hp.r1_2, hp.r1_3, hp.r1_4, hp.r6_1, hp.r6_2, hp.r6_3, hp.r6_4, hp.r11_1, hp.r11_2, hp.r11_3, hp.r11_4, hp.r11_5, hp.r11_6, hp.r11_7, hp.r19_1, hp.r19_2, hp.r19_3, hp.r19_4]
      refine hq h2 z2 g2 (p2.cg (fun r s _ _ => ?_))
      rw [show i = (cv h b 11 0).toNat by omega]
      exact owC_own
    | succ m ih =>
      intro i h2 z2 g2 p2 hm
      have hs : h2.2 (b + 11) 0 = cv h b 11 0 := by rw [g2.2]; rfl
      have hi : (i : Int) < cv h b 11 0 := by omega
      have e14 : h2.1 (b + 14) i = cv h b 14 i := by rw [g2.1 _ (by omega)]; rfl
      have e17 : h2.1 (b + 17) i = cv h b 17 i := by rw [g2.1 _ (by omega)]; rfl
      have e18 : h2.1 (b + 18) i = cv h b 18 i := by rw [g2.1 _ (by omega)]; rfl
      have e12 : h2.1 (b + 12) i = cv h b 12 i := by rw [g2.1 _ (by omega)]; rfl
      have fi := w.fix i
      rw [e_32_50]
      by_cases e : cv h b 14 i = 0
      · simp (disch := first | assumption | omega) only [e_32_51, e_32_52, e_32_53, e_32_54, e_32_55, e_32_56, e_32_57, e_32_58, e_32_81, e_32_82, onI_s, onR_s, onL_s, gl_0, gl_n, gl_1, gl_2, gl_3, gl_4, gl_5, gl_6, gl_7, gl_8, gl_9, gl_10, gl_11, gl_12, gl_13, gl_14, gl_15, gl_16, gl_17, sk0i, sk0r, sk0n, sk1i, sk1r, sk1n, sk_2, sk_3, sk_4, sk_5, sk_6, sk_7, sk_8, sk_9, sk_10, sk_11, sk_12, sk_13, sk_14, sk_15, sk_16, sk_17, ls_0, ls_1, ls_2, ls_3, ls_4, ls_5, ls_6, ls_7, ls_8, ls_9, ls_10, ls_11, ls_12, ls_13, ls_14, ls_15, ls_16, ls_17, ct1_i, ct1_r, wd8_0, wd8_i1, wd8_r1, wd8_i2, wd8_r2, wd8_i3, wd8_r3, wd8_i4, wd8_r4, wd8_i5, wd8_r5, wd8_i6, wd8_r6, wd8_i7, wd8_r7, wd8_i8, wd8_r8, wd8_l2, wd8_l3, wd8_l4, wd8_l5, wd8_l6, wd8_l7, wd8_l8, tl_s, tl_n, inR_t, bd_t, true_and, and_true, true_or, or_true, if_true_x, if_false_x, if_pos, if_neg, Int.toNat_natCast, natL, bI_0, bI_1, bI_ft, eq_self, b_tf, b_ft, not_true_eq_false, not_false_eq_true, hs, e14, e, cast_s, hp.t0, hp.t1, hp.t2, hp.t3, hp.t4, hp.t5, hp.t6, hp.t7, hp.t8, hp.t9, hp.t10, hp.t11, hp.t12, hp.t13, hp.t14, hp.t15, hp.t16, hp.t17, hp.t18, hp.t19, hp.t20, hp.t21, hp.t22, hp.t23, hp.z2, hp.z3, hp.z4, hp.z5, hp.z7, hp.z8, hp.z9, hp.z10, hp.z12, hp.z13, hp.z14, hp.z15, hp.z16, hp.z17, hp.z18, hp.z20, hp.z21, hp.z22, hp.z23, hp.r0_2, hp.r0_3, hp.r0_4, hp.r0_5, hp.r1_1, hp.r1_2, hp.r1_3, hp.r1_4, hp.r6_1, hp.r6_2, hp.r6_3, hp.r6_4, hp.r11_1, hp.r11_2, hp.r11_3, hp.r11_4, hp.r11_5, hp.r11_6, hp.r11_7, hp.r19_1, hp.r19_2, hp.r19_3, hp.r19_4]
        refine ih (i + 1) h2 z2 g2 (p2.cg (fun r s _ _ => ?_)) (by omega)
        unfold owC
        have : anyB (fxB (cv h b) r s) (i + 1) = anyB (fxB (cv h b) r s) i := by
          rw [Bool.eq_iff_iff, anyB_sn]
          refine ⟨fun q => q.elim id (fun q => ?_), Or.inl⟩
          unfold fxB at q
          simp [e] at q
        rw [this]
      · have f1 : cv h b 14 i = 1 := by omega
        have fx := g.fxd hi f1
        have gn := (gfB_iff.mp (g.gnd hi fx.1)).1
        have cw := (g.cel hi).1
        have wc := w.wid i
        obtain ⟨r, hr⟩ : ∃ r : Nat, cv h b 17 i = r := ⟨(cv h b 17 i).toNat, by omega⟩
        obtain ⟨f, hf⟩ : ∃ f : Nat, cv h b 18 i = f := ⟨(cv h b 18 i).toNat, by omega⟩
        obtain ⟨l, hl⟩ : ∃ l : Nat, cv h b 18 i + cv h b 12 i - 1 = l := ⟨(cv h b 18 i + cv h b 12 i - 1).toNat, by omega⟩
        simp (disch := first | assumption | omega) only [e_32_51, e_32_52, e_32_53, e_32_54, e_32_55, e_32_56, e_32_57, e_32_58, e_32_59, e_32_60, e_32_61, e_32_62, e_32_63, e_32_64, e_32_65, e_32_66, e_32_67, e_32_68, e_32_69, e_32_70, e_32_71, e_32_72, e_32_73, e_32_74, e_32_75, e_32_76, e_32_77, e_32_78, e_32_79, onI_s, onR_s, onL_s, gl_0, gl_n, gl_1, gl_2, gl_3, gl_4, gl_5, gl_6, gl_7, gl_8, gl_9, gl_10, gl_11, gl_12, gl_13, gl_14, gl_15, gl_16, gl_17, sk0i, sk0r, sk0n, sk1i, sk1r, sk1n, sk_2, sk_3, sk_4, sk_5, sk_6, sk_7, sk_8, sk_9, sk_10, sk_11, sk_12, sk_13, sk_14, sk_15, sk_16, sk_17, ls_0, ls_1, ls_2, ls_3, ls_4, ls_5, ls_6, ls_7, ls_8, ls_9, ls_10, ls_11, ls_12, ls_13, ls_14, ls_15, ls_16, ls_17, ct1_i, ct1_r, wd8_0, wd8_i1, wd8_r1, wd8_i2, wd8_r2, wd8_i3, wd8_r3, wd8_i4, wd8_r4, wd8_i5, wd8_r5, wd8_i6, wd8_r6, wd8_i7, wd8_r7, wd8_i8, wd8_r8, wd8_l2, wd8_l3, wd8_l4, wd8_l5, wd8_l6, wd8_l7, wd8_l8, tl_s, tl_n, inR_t, bd_t, true_and, and_true, true_or, or_true, if_true_x, if_false_x, if_pos, if_neg, Int.toNat_natCast, natL, bI_0, bI_1, bI_ft, eq_self, b_tf, b_ft, not_true_eq_false, not_false_eq_true, hs, e14, e, e17, e18, e12, hp.t0, hp.t1, hp.t2, hp.t3, hp.t4, hp.t5, hp.t6, hp.t7, hp.t8, hp.t9, hp.t10, hp.t11, hp.t12, hp.t13, hp.t14, hp.t15, hp.t16, hp.t17, hp.t18, hp.t19, hp.t20, hp.t21, hp.t22, hp.t23, hp.z2, hp.z3, hp.z4, hp.z5, hp.z7, hp.z8, hp.z9, hp.z10, hp.z12, hp.z13, hp.z14, hp.z15, hp.z16, hp.z17, hp.z18, hp.z20, hp.z21, hp.z22, hp.z23, hp.r0_2, hp.r0_3, hp.r0_4, hp.r0_5, hp.r1_1, hp.r1_2, hp.r1_3, hp.r1_4, hp.r6_1, hp.r6_2, hp.r6_3, hp.r6_4, hp.r11_1, hp.r11_2, hp.r11_3, hp.r11_4, hp.r11_5, hp.r11_6, hp.r11_7, hp.r19_1, hp.r19_2, hp.r19_3, hp.r19_4]
        rw [hl, hr, hf]
        (rw [e_32_80]; refine ⟨⟨hc.t7, by decide⟩, ?_⟩)
        refine m_34 hc hns R8 S32 (show r < R by omega) (show f ≤ l by omega) (show l < S by omega) z2 (by rw [g2.2]; exact hS7) p2 (fun h3 z3 g3 p3 => ?_)
        simp (disch := first | assumption | omega) only [e_32_81, e_32_82, onI_s, onR_s, onL_s, gl_0, gl_n, gl_1, gl_2, gl_3, gl_4, gl_5, gl_6, gl_7, gl_8, gl_9, gl_10, gl_11, gl_12, gl_13, gl_14, gl_15, gl_16, gl_17, sk0i, sk0r, sk0n, sk1i, sk1r, sk1n, sk_2, sk_3, sk_4, sk_5, sk_6, sk_7, sk_8, sk_9, sk_10, sk_11, sk_12, sk_13, sk_14, sk_15, sk_16, sk_17, ls_0, ls_1, ls_2, ls_3, ls_4, ls_5, ls_6, ls_7, ls_8, ls_9, ls_10, ls_11, ls_12, ls_13, ls_14, ls_15, ls_16, ls_17, ct1_i, ct1_r, wd8_0, wd8_i1, wd8_r1, wd8_i2, wd8_r2, wd8_i3, wd8_r3, wd8_i4, wd8_r4, wd8_i5, wd8_r5, wd8_i6, wd8_r6, wd8_i7, wd8_r7, wd8_i8, wd8_r8, wd8_l2, wd8_l3, wd8_l4, wd8_l5, wd8_l6, wd8_l7, wd8_l8, tl_s, tl_n, inR_t, bd_t, true_and, and_true, true_or, or_true, if_true_x, if_false_x, if_pos, if_neg, Int.toNat_natCast, natL, bI_0, bI_1, bI_ft, eq_self, b_tf, b_ft, not_true_eq_false, not_false_eq_true, cast_s]
        refine ih (i + 1) h3 z3 (g2.tr g3) (p3.cg (fun r2 s2 _ _ => ?_)) (by omega)
        unfold owC
        by_cases y : r2 = r ∧ f ≤ s2 ∧ s2 ≤ l
        · rw [if_pos y, if_pos (anyB_sn.mpr (Or.inr (by
            unfold fxB laB
            simp only [Bool.and_eq_true, Bool.not_eq_true', decide_eq_false_iff_not, decide_eq_true_eq]
            refine ⟨e, ⟨?_, ?_⟩, ?_⟩ <;> omega)))]
        · rw [if_neg y]
          have : anyB (fxB (cv h b) r2 s2) (i + 1) = anyB (fxB (cv h b) r2 s2) i := by
            rw [Bool.eq_iff_iff, anyB_sn]
            refine ⟨fun q => q.elim id (fun q => ?_), Or.inl⟩
            unfold fxB laB at q
            simp only [Bool.and_eq_true, Bool.not_eq_true', decide_eq_false_iff_not, decide_eq_true_eq] at q
            exfalso
            exact y (by omega)
          rw [this]
  have blocks : ∀ (m i : Nat) (h2 : xH), NZ X h2 → G8 h h2 → PTo (h2.1 8) R S (owB (cv h b) i) → i + m = (cv h b 1 0).toNat → Ev X 32 32 [some (vr 7), some (vr b), some (vr (b + 6)), some (vi i), none] [] h2 Q := by
    intro m
    induction m with
    | zero =>
      intro i h2 z2 g2 p2 hm
      have hs : h2.2 (b + 1) 0 = i := by rw [g2.2]; show cv h b 1 0 = i; omega
      rw [e_32_32]
      simp (disch := first | assumption | omega) only [e_32_33, e_32_34, e_32_35, e_32_36, e_32_45, e_32_46, e_32_47, e_32_48, e_32_49, onI_s, onR_s, onL_s, gl_0, gl_n, gl_1, gl_2, gl_3, gl_4, gl_5, gl_6, gl_7, gl_8, gl_9, gl_10, gl_11, gl_12, gl_13, gl_14, gl_15, gl_16, gl_17, sk0i, sk0r, sk0n, sk1i, sk1r, sk1n, sk_2, sk_3, sk_4, sk_5, sk_6, sk_7, sk_8, sk_9, sk_10, sk_11, sk_12, sk_13, sk_14, sk_15, sk_16, sk_17, ls_0, ls_1, ls_2, ls_3, ls_4, ls_5, ls_6, ls_7, ls_8, ls_9, ls_10, ls_11, ls_12, ls_13, ls_14, ls_15, ls_16, ls_17, ct1_i, ct1_r, wd8_0, wd8_i1, wd8_r1, wd8_i2, wd8_r2, wd8_i3, wd8_r3, wd8_i4, wd8_r4, wd8_i5, wd8_r5, wd8_i6, wd8_r6, wd8_i7, wd8_r7, wd8_i8, wd8_r8, wd8_l2, wd8_l3, wd8_l4, wd8_l5, wd8_l6, wd8_l7, wd8_l8, tl_s, tl_n, inR_t, bd_t, true_and, and_true, true_or, or_true, if_true_x, if_false_x, if_pos, if_neg, Int.toNat_natCast, natL, bI_0, bI_1, bI_ft, eq_self, b_tf, b_ft, not_true_eq_false, not_false_eq_true, hs, hp.t0, hp.t1, hp.t2, hp.t3, hp.t4, hp.t5, hp.t6, hp.t7, hp.t8, hp.t9, hp.t10, hp.t11, hp.t12, hp.t13, hp.t14, hp.t15, hp.t16, hp.t17, hp.t18, hp.t19, hp.t20, hp.t21, hp.t22, hp.t23, hp.z2, hp.z3, hp.z4, hp.z5, hp.z7, hp.z8, hp.z9, hp.z10, hp.z12, hp.z13, hp.z14, hp.z15, hp.z16, hp.z17, hp.z18, hp.z20, hp.z21, hp.z22, hp.z23, hp.r0_2, hp.r0_3, hp.r0_4, hp.r0_5, hp.r1_1, hp.r1_2, hp.r1_3, hp.r1_4, hp.r6_1, hp.r6_2, hp.r6_3, hp.r6_4, hp.r11_1, hp.r11_2, hp.r11_3, hp.r11_4, hp.r11_5, hp.r11_6, hp.r11_7, hp.r19_1, hp.r19_2, hp.r19_3, hp.r19_4]
      have := cells (cv h b 11 0).toNat 0 h2 z2 g2 (p2.cg (fun r s _ _ => ?_)) (by omega)
      · exact this
      · unfold owC
        rw [if_neg (by rw [anyB_iff]; rintro ⟨j, hj, _⟩; omega), show i = (cv h b 1 0).toNat by omega]
    | succ m ih =>
      intro i h2 z2 g2 p2 hm
      have hs : h2.2 (b + 1) 0 = cv h b 1 0 := by rw [g2.2]; rfl
      have hi : (i : Int) < cv h b 1 0 := by omega
      have gb := g.blk hi
      have w2 := w.box 2 i (by decide)
      have w3 := w.box 3 i (by decide)
      have w4 := w.box 4 i (by decide)
      have w5 := w.box 5 i (by decide)
      obtain ⟨lo, hlo⟩ : ∃ x : Nat, cv h b 2 i = x := ⟨(cv h b 2 i).toNat, by omega⟩
      obtain ⟨hi2, hhi⟩ : ∃ x : Nat, cv h b 3 i = x := ⟨(cv h b 3 i).toNat, by omega⟩
      obtain ⟨f, hf⟩ : ∃ x : Nat, cv h b 4 i = x := ⟨(cv h b 4 i).toNat, by omega⟩
      obtain ⟨l, hl⟩ : ∃ x : Nat, cv h b 5 i = x := ⟨(cv h b 5 i).toNat, by omega⟩
      rw [e_32_32]
      simp (disch := first | assumption | omega) only [e_32_33, e_32_34, e_32_35, e_32_36, e_32_37, e_32_38, e_32_39, e_32_40, e_32_41, onI_s, onR_s, onL_s, gl_0, gl_n, gl_1, gl_2, gl_3, gl_4, gl_5, gl_6, gl_7, gl_8, gl_9, gl_10, gl_11, gl_12, gl_13, gl_14, gl_15, gl_16, gl_17, sk0i, sk0r, sk0n, sk1i, sk1r, sk1n, sk_2, sk_3, sk_4, sk_5, sk_6, sk_7, sk_8, sk_9, sk_10, sk_11, sk_12, sk_13, sk_14, sk_15, sk_16, sk_17, ls_0, ls_1, ls_2, ls_3, ls_4, ls_5, ls_6, ls_7, ls_8, ls_9, ls_10, ls_11, ls_12, ls_13, ls_14, ls_15, ls_16, ls_17, ct1_i, ct1_r, wd8_0, wd8_i1, wd8_r1, wd8_i2, wd8_r2, wd8_i3, wd8_r3, wd8_i4, wd8_r4, wd8_i5, wd8_r5, wd8_i6, wd8_r6, wd8_i7, wd8_r7, wd8_i8, wd8_r8, wd8_l2, wd8_l3, wd8_l4, wd8_l5, wd8_l6, wd8_l7, wd8_l8, tl_s, tl_n, inR_t, bd_t, true_and, and_true, true_or, or_true, if_true_x, if_false_x, if_pos, if_neg, Int.toNat_natCast, natL, bI_0, bI_1, bI_ft, eq_self, b_tf, b_ft, not_true_eq_false, not_false_eq_true, hs, hp.t0, hp.t1, hp.t2, hp.t3, hp.t4, hp.t5, hp.t6, hp.t7, hp.t8, hp.t9, hp.t10, hp.t11, hp.t12, hp.t13, hp.t14, hp.t15, hp.t16, hp.t17, hp.t18, hp.t19, hp.t20, hp.t21, hp.t22, hp.t23, hp.z2, hp.z3, hp.z4, hp.z5, hp.z7, hp.z8, hp.z9, hp.z10, hp.z12, hp.z13, hp.z14, hp.z15, hp.z16, hp.z17, hp.z18, hp.z20, hp.z21, hp.z22, hp.z23, hp.r0_2, hp.r0_3, hp.r0_4, hp.r0_5, hp.r1_1, hp.r1_2, hp.r1_3, hp.r1_4, hp.r6_1, hp.r6_2, hp.r6_3, hp.r6_4, hp.r11_1, hp.r11_2, hp.r11_3, hp.r11_4, hp.r11_5, hp.r11_6, hp.r11_7, hp.r19_1, hp.r19_2, hp.r19_3, hp.r19_4]
      (rw [e_32_42]; refine ⟨⟨hc.t7, by decide⟩, ?_⟩)
      refine m_33 hc (lo := lo) (hi := hi2) (f := f) (l := l) hp.bxB (by omega) (show i < 4 by omega) hns R8 S32 (by omega) (by omega) (by omega) (by omega) z2 (by rw [g2.2]; exact hS7) ⟨by rw [g2.1 _ (by omega)]; exact hlo, by rw [g2.1 _ (by omega)]; exact hhi, by rw [g2.1 _ (by omega)]; exact hf, by rw [g2.1 _ (by omega)]; exact hl⟩ p2 (fun h3 z3 g3 p3 => ?_)
      simp (disch := first | assumption | omega) only [e_32_43, e_32_44, onI_s, onR_s, onL_s, gl_0, gl_n, gl_1, gl_2, gl_3, gl_4, gl_5, gl_6, gl_7, gl_8, gl_9, gl_10, gl_11, gl_12, gl_13, gl_14, gl_15, gl_16, gl_17, sk0i, sk0r, sk0n, sk1i, sk1r, sk1n, sk_2, sk_3, sk_4, sk_5, sk_6, sk_7, sk_8, sk_9, sk_10, sk_11, sk_12, sk_13, sk_14, sk_15, sk_16, sk_17, ls_0, ls_1, ls_2, ls_3, ls_4, ls_5, ls_6, ls_7, ls_8, ls_9, ls_10, ls_11, ls_12, ls_13, ls_14, ls_15, ls_16, ls_17, ct1_i, ct1_r, wd8_0, wd8_i1, wd8_r1, wd8_i2, wd8_r2, wd8_i3, wd8_r3, wd8_i4, wd8_r4, wd8_i5, wd8_r5, wd8_i6, wd8_r6, wd8_i7, wd8_r7, wd8_i8, wd8_r8, wd8_l2, wd8_l3, wd8_l4, wd8_l5, wd8_l6, wd8_l7, wd8_l8, tl_s, tl_n, inR_t, bd_t, true_and, and_true, true_or, or_true, if_true_x, if_false_x, if_pos, if_neg, Int.toNat_natCast, natL, bI_0, bI_1, bI_ft, eq_self, b_tf, b_ft, not_true_eq_false, not_false_eq_true, cast_s]
      refine ih (i + 1) h3 z3 (g2.tr g3) (p3.cg (fun r2 s2 _ _ => ?_)) (by omega)
      unfold owB
      by_cases y : (lo ≤ r2 ∧ r2 ≤ hi2) ∧ f ≤ s2 ∧ s2 ≤ l
      · rw [if_pos y, if_pos (anyB_sn.mpr (Or.inr (by
          unfold ovV
          simp only [Bool.and_eq_true, decide_eq_true_eq, Nat.reduceAdd]
          omega)))]
      · rw [if_neg y]
        have : anyB (ovV (cv h b) 2 r2 r2 s2 s2) (i + 1) = anyB (ovV (cv h b) 2 r2 r2 s2 s2) i := by
          rw [Bool.eq_iff_iff, anyB_sn]
          refine ⟨fun q => q.elim id (fun q => ?_), Or.inl⟩
          unfold ovV at q
          simp only [Bool.and_eq_true, decide_eq_true_eq, Nat.reduceAdd] at q
          exfalso
          exact y (by omega)
        rw [this]
  have fences : ∀ (m i : Nat) (h2 : xH), NZ X h2 → G8 h h2 → PTo (h2.1 8) R S (owF (cv h b) i) → i + m = (cv h b 6 0).toNat → Ev X 32 19 [some (vr 7), some (vr b), some (vr (b + 6)), some (vi i), none] [] h2 Q := by
    intro m
    induction m with
    | zero =>
      intro i h2 z2 g2 p2 hm
      have hs : h2.2 (b + 6) 0 = i := by rw [g2.2]; show cv h b 6 0 = i; omega
      rw [e_32_19]
      simp (disch := first | assumption | omega) only [e_32_20, e_32_21, e_32_22, e_32_30, e_32_31, onI_s, onR_s, onL_s, gl_0, gl_n, gl_1, gl_2, gl_3, gl_4, gl_5, gl_6, gl_7, gl_8, gl_9, gl_10, gl_11, gl_12, gl_13, gl_14, gl_15, gl_16, gl_17, sk0i, sk0r, sk0n, sk1i, sk1r, sk1n, sk_2, sk_3, sk_4, sk_5, sk_6, sk_7, sk_8, sk_9, sk_10, sk_11, sk_12, sk_13, sk_14, sk_15, sk_16, sk_17, ls_0, ls_1, ls_2, ls_3, ls_4, ls_5, ls_6, ls_7, ls_8, ls_9, ls_10, ls_11, ls_12, ls_13, ls_14, ls_15, ls_16, ls_17, ct1_i, ct1_r, wd8_0, wd8_i1, wd8_r1, wd8_i2, wd8_r2, wd8_i3, wd8_r3, wd8_i4, wd8_r4, wd8_i5, wd8_r5, wd8_i6, wd8_r6, wd8_i7, wd8_r7, wd8_i8, wd8_r8, wd8_l2, wd8_l3, wd8_l4, wd8_l5, wd8_l6, wd8_l7, wd8_l8, tl_s, tl_n, inR_t, bd_t, true_and, and_true, true_or, or_true, if_true_x, if_false_x, if_pos, if_neg, Int.toNat_natCast, natL, bI_0, bI_1, bI_ft, eq_self, b_tf, b_ft, not_true_eq_false, not_false_eq_true, hs, hp.t0, hp.t1, hp.t2, hp.t3, hp.t4, hp.t5, hp.t6, hp.t7, hp.t8, hp.t9, hp.t10, hp.t11, hp.t12, hp.t13, hp.t14, hp.t15, hp.t16, hp.t17, hp.t18, hp.t19, hp.t20, hp.t21, hp.t22, hp.t23, hp.z2, hp.z3, hp.z4, hp.z5, hp.z7, hp.z8, hp.z9, hp.z10, hp.z12, hp.z13, hp.z14, hp.z15, hp.z16, hp.z17, hp.z18, hp.z20, hp.z21, hp.z22, hp.z23, hp.r0_2, hp.r0_3, hp.r0_4, hp.r0_5, hp.r1_1, hp.r1_2, hp.r1_3, hp.r1_4, hp.r6_1, hp.r6_2, hp.r6_3, hp.r6_4, hp.r11_1, hp.r11_2, hp.r11_3, hp.r11_4, hp.r11_5, hp.r11_6, hp.r11_7, hp.r19_1, hp.r19_2, hp.r19_3, hp.r19_4]
      have := blocks (cv h b 1 0).toNat 0 h2 z2 g2 (p2.cg (fun r s _ _ => ?_)) (by omega)
      · exact this
      · unfold owB
        rw [if_neg (by rw [anyB_iff]; rintro ⟨j, hj, _⟩; omega), show i = (cv h b 6 0).toNat by omega]
    | succ m ih =>
      intro i h2 z2 g2 p2 hm
      have hs : h2.2 (b + 6) 0 = cv h b 6 0 := by rw [g2.2]; rfl
      have hi : (i : Int) < cv h b 6 0 := by omega
      have gb := g.fen hi
      have w2 := w.box 7 i (by decide)
      have w3 := w.box 8 i (by decide)
      have w4 := w.box 9 i (by decide)
      have w5 := w.box 10 i (by decide)
      obtain ⟨lo, hlo⟩ : ∃ x : Nat, cv h b 7 i = x := ⟨(cv h b 7 i).toNat, by omega⟩
      obtain ⟨hi2, hhi⟩ : ∃ x : Nat, cv h b 8 i = x := ⟨(cv h b 8 i).toNat, by omega⟩
      obtain ⟨f, hf⟩ : ∃ x : Nat, cv h b 9 i = x := ⟨(cv h b 9 i).toNat, by omega⟩
      obtain ⟨l, hl⟩ : ∃ x : Nat, cv h b 10 i = x := ⟨(cv h b 10 i).toNat, by omega⟩
      rw [e_32_19]
      simp (disch := first | assumption | omega) only [e_32_20, e_32_21, e_32_22, e_32_23, e_32_24, e_32_25, e_32_26, onI_s, onR_s, onL_s, gl_0, gl_n, gl_1, gl_2, gl_3, gl_4, gl_5, gl_6, gl_7, gl_8, gl_9, gl_10, gl_11, gl_12, gl_13, gl_14, gl_15, gl_16, gl_17, sk0i, sk0r, sk0n, sk1i, sk1r, sk1n, sk_2, sk_3, sk_4, sk_5, sk_6, sk_7, sk_8, sk_9, sk_10, sk_11, sk_12, sk_13, sk_14, sk_15, sk_16, sk_17, ls_0, ls_1, ls_2, ls_3, ls_4, ls_5, ls_6, ls_7, ls_8, ls_9, ls_10, ls_11, ls_12, ls_13, ls_14, ls_15, ls_16, ls_17, ct1_i, ct1_r, wd8_0, wd8_i1, wd8_r1, wd8_i2, wd8_r2, wd8_i3, wd8_r3, wd8_i4, wd8_r4, wd8_i5, wd8_r5, wd8_i6, wd8_r6, wd8_i7, wd8_r7, wd8_i8, wd8_r8, wd8_l2, wd8_l3, wd8_l4, wd8_l5, wd8_l6, wd8_l7, wd8_l8, tl_s, tl_n, inR_t, bd_t, true_and, and_true, true_or, or_true, if_true_x, if_false_x, if_pos, if_neg, Int.toNat_natCast, natL, bI_0, bI_1, bI_ft, eq_self, b_tf, b_ft, not_true_eq_false, not_false_eq_true, hs, hp.t0, hp.t1, hp.t2, hp.t3, hp.t4, hp.t5, hp.t6, hp.t7, hp.t8, hp.t9, hp.t10, hp.t11, hp.t12, hp.t13, hp.t14, hp.t15, hp.t16, hp.t17, hp.t18, hp.t19, hp.t20, hp.t21, hp.t22, hp.t23, hp.z2, hp.z3, hp.z4, hp.z5, hp.z7, hp.z8, hp.z9, hp.z10, hp.z12, hp.z13, hp.z14, hp.z15, hp.z16, hp.z17, hp.z18, hp.z20, hp.z21, hp.z22, hp.z23, hp.r0_2, hp.r0_3, hp.r0_4, hp.r0_5, hp.r1_1, hp.r1_2, hp.r1_3, hp.r1_4, hp.r6_1, hp.r6_2, hp.r6_3, hp.r6_4, hp.r11_1, hp.r11_2, hp.r11_3, hp.r11_4, hp.r11_5, hp.r11_6, hp.r11_7, hp.r19_1, hp.r19_2, hp.r19_3, hp.r19_4]
      (rw [e_32_27]; refine ⟨⟨hc.t7, by decide⟩, ?_⟩)
      refine m_33 hc (lo := lo) (hi := hi2) (f := f) (l := l) hp.bxF (by omega) (show i < 3 by omega) hns R8 S32 (by omega) (by omega) (by omega) (by omega) z2 (by rw [g2.2]; exact hS7) ⟨by rw [g2.1 _ (by omega)]; exact hlo, by rw [g2.1 _ (by omega)]; exact hhi, by rw [g2.1 _ (by omega)]; exact hf, by rw [g2.1 _ (by omega)]; exact hl⟩ p2 (fun h3 z3 g3 p3 => ?_)
      simp (disch := first | assumption | omega) only [e_32_28, e_32_29, onI_s, onR_s, onL_s, gl_0, gl_n, gl_1, gl_2, gl_3, gl_4, gl_5, gl_6, gl_7, gl_8, gl_9, gl_10, gl_11, gl_12, gl_13, gl_14, gl_15, gl_16, gl_17, sk0i, sk0r, sk0n, sk1i, sk1r, sk1n, sk_2, sk_3, sk_4, sk_5, sk_6, sk_7, sk_8, sk_9, sk_10, sk_11, sk_12, sk_13, sk_14, sk_15, sk_16, sk_17, ls_0, ls_1, ls_2, ls_3, ls_4, ls_5, ls_6, ls_7, ls_8, ls_9, ls_10, ls_11, ls_12, ls_13, ls_14, ls_15, ls_16, ls_17, ct1_i, ct1_r, wd8_0, wd8_i1, wd8_r1, wd8_i2, wd8_r2, wd8_i3, wd8_r3, wd8_i4, wd8_r4, wd8_i5, wd8_r5, wd8_i6, wd8_r6, wd8_i7, wd8_r7, wd8_i8, wd8_r8, wd8_l2, wd8_l3, wd8_l4, wd8_l5, wd8_l6, wd8_l7, wd8_l8, tl_s, tl_n, inR_t, bd_t, true_and, and_true, true_or, or_true, if_true_x, if_false_x, if_pos, if_neg, Int.toNat_natCast, natL, bI_0, bI_1, bI_ft, eq_self, b_tf, b_ft, not_true_eq_false, not_false_eq_true, cast_s]
      refine ih (i + 1) h3 z3 (g2.tr g3) (p3.cg (fun r2 s2 _ _ => ?_)) (by omega)
      unfold owF
      rw [lst_sn, Nat.zero_add]
      refine ifc2 ?_
      unfold ovV
      simp only [Bool.and_eq_true, decide_eq_true_eq, Nat.reduceAdd]
      omega
  rw [c_32]
  simp (disch := first | assumption | omega) only [e_32_0, e_32_1, onI_s, onR_s, onL_s, gl_0, gl_n, gl_1, gl_2, gl_3, gl_4, gl_5, gl_6, gl_7, gl_8, gl_9, gl_10, gl_11, gl_12, gl_13, gl_14, gl_15, gl_16, gl_17, sk0i, sk0r, sk0n, sk1i, sk1r, sk1n, sk_2, sk_3, sk_4, sk_5, sk_6, sk_7, sk_8, sk_9, sk_10, sk_11, sk_12, sk_13, sk_14, sk_15, sk_16, sk_17, ls_0, ls_1, ls_2, ls_3, ls_4, ls_5, ls_6, ls_7, ls_8, ls_9, ls_10, ls_11, ls_12, ls_13, ls_14, ls_15, ls_16, ls_17, ct1_i, ct1_r, wd8_0, wd8_i1, wd8_r1, wd8_i2, wd8_r2, wd8_i3, wd8_r3, wd8_i4, wd8_r4, wd8_i5, wd8_r5, wd8_i6, wd8_r6, wd8_i7, wd8_r7, wd8_i8, wd8_r8, wd8_l2, wd8_l3, wd8_l4, wd8_l5, wd8_l6, wd8_l7, wd8_l8, tl_s, tl_n, inR_t, bd_t, true_and, and_true, true_or, or_true, if_true_x, if_false_x, if_pos, if_neg, Int.toNat_natCast, natL, bI_0, bI_1, bI_ft, eq_self, b_tf, b_ft, not_true_eq_false, not_false_eq_true]
  have la := l_32a (b := b) (I := h.1) (F := h.2) (Q := Q) (x3 := none) (x4 := none) hc n256 ns 0 (by omega)
  rw [fil_0, up1_id (fun _ => rfl)] at la
  refine la.mpr ?_
  rw [e_32_14]
  simp (disch := first | assumption | omega) only [e_32_15, e_32_16, e_32_17, e_32_18, onI_s, onR_s, onL_s, gl_0, gl_n, gl_1, gl_2, gl_3, gl_4, gl_5, gl_6, gl_7, gl_8, gl_9, gl_10, gl_11, gl_12, gl_13, gl_14, gl_15, gl_16, gl_17, sk0i, sk0r, sk0n, sk1i, sk1r, sk1n, sk_2, sk_3, sk_4, sk_5, sk_6, sk_7, sk_8, sk_9, sk_10, sk_11, sk_12, sk_13, sk_14, sk_15, sk_16, sk_17, ls_0, ls_1, ls_2, ls_3, ls_4, ls_5, ls_6, ls_7, ls_8, ls_9, ls_10, ls_11, ls_12, ls_13, ls_14, ls_15, ls_16, ls_17, ct1_i, ct1_r, wd8_0, wd8_i1, wd8_r1, wd8_i2, wd8_r2, wd8_i3, wd8_r3, wd8_i4, wd8_r4, wd8_i5, wd8_r5, wd8_i6, wd8_r6, wd8_i7, wd8_r7, wd8_i8, wd8_r8, wd8_l2, wd8_l3, wd8_l4, wd8_l5, wd8_l6, wd8_l7, wd8_l8, tl_s, tl_n, inR_t, bd_t, true_and, and_true, true_or, or_true, if_true_x, if_false_x, if_pos, if_neg, Int.toNat_natCast, natL, bI_0, bI_1, bI_ft, eq_self, b_tf, b_ft, not_true_eq_false, not_false_eq_true, hp.t0, hp.t1, hp.t2, hp.t3, hp.t4, hp.t5, hp.t6, hp.t7, hp.t8, hp.t9, hp.t10, hp.t11, hp.t12, hp.t13, hp.t14, hp.t15, hp.t16, hp.t17, hp.t18, hp.t19, hp.t20, hp.t21, hp.t22, hp.t23, hp.z2, hp.z3, hp.z4, hp.z5, hp.z7, hp.z8, hp.z9, hp.z10, hp.z12, hp.z13, hp.z14, hp.z15, hp.z16, hp.z17, hp.z18, hp.z20, hp.z21, hp.z22, hp.z23, hp.r0_2, hp.r0_3, hp.r0_4, hp.r0_5, hp.r1_1, hp.r1_2, hp.r1_3, hp.r1_4, hp.r6_1, hp.r6_2, hp.r6_3, hp.r6_4, hp.r11_1, hp.r11_2, hp.r11_3, hp.r11_4, hp.r11_5, hp.r11_6, hp.r11_7, hp.r19_1, hp.r19_2, hp.r19_3, hp.r19_4]
  refine fences (cv h b 6 0).toNat 0 _ (NZ.cg (I := h.1) (F := h.2) z (fun j hj => ?_)) ⟨fun a q => up1_o q, rfl⟩ (fun r s hr hs => ?_) (by omega)
  · rw [hc.z8] at hj
    unfold fil
    rw [if_neg (by omega)]
    exact z 8 j (Or.inl hc.t8) (by rw [hc.z8]; exact hj)
  · dsimp only
    rw [up1_self]
    unfold fil
    rw [if_pos (by rw [hns]; exact ix_in hr hs)]
    rfl
end PN2
