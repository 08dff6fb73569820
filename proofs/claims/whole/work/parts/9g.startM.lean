section STM
variable {X : xL} {Q : Option xV → xH → Prop} {ns nb ln : Nat} {h : xH}
set_option maxHeartbeats 4000000 in
theorem m_152 {x y : Int} (hx : -2000000000 ≤ x) (hx2 : x ≤ 2000000000) (hy : 0 < y) (hy2 : y ≤ 100000) : Cl X 152 [vi x, vi y] h Q ↔ Q (some (vi (x / y))) h := by
  rw [c_152]
  by_cases e : 0 ≤ x
  · have td : x.tdiv y = x / y := td_n e
    simp (disch := first | assumption | omega) only [e_152_0, e_152_1, e_152_2, e_152_3, e_152_4, e_152_5, e_152_14, onI_s, onR_s, onL_s, gl_0, gl_n, gl_1, gl_2, gl_3, gl_4, gl_5, gl_6, gl_7, gl_8, gl_9, gl_10, gl_11, gl_12, gl_13, gl_14, gl_15, gl_16, gl_17, sk0i, sk0r, sk0n, sk1i, sk1r, sk1n, sk_2, sk_3, sk_4, sk_5, sk_6, sk_7, sk_8, sk_9, sk_10, sk_11, sk_12, sk_13, sk_14, sk_15, sk_16, sk_17, ls_0, ls_1, ls_2, ls_3, ls_4, ls_5, ls_6, ls_7, ls_8, ls_9, ls_10, ls_11, ls_12, ls_13, ls_14, ls_15, ls_16, ls_17, ct1_i, ct1_r, wd8_0, wd8_i1, wd8_r1, wd8_i2, wd8_r2, wd8_i3, wd8_r3, wd8_i4, wd8_r4, wd8_i5, wd8_r5, wd8_i6, wd8_r6, wd8_i7, wd8_r7, wd8_i8, wd8_r8, wd8_l2, wd8_l3, wd8_l4, wd8_l5, wd8_l6, wd8_l7, wd8_l8, tl_s, tl_n, inR_t, bd_t, true_and, and_true, true_or, or_true, if_true_x, if_false_x, if_pos, if_neg, Int.toNat_natCast, natL, bI_0, bI_1, bI_ft, eq_self, b_tf, b_ft, not_true_eq_false, not_false_eq_true, dv_t, dvR, dvE, nzp, td]
  · obtain ⟨f, r, ⟨f0, r0, r1, hxx⟩, _, td2, ed⟩ := ed_neg (x := x) (y := y) (by omega) hy
    have td : (y - 1 - x).tdiv y = (y - 1 - x) / y := td_n (by omega)
    have b1 := Int.ediv_nonneg (show 0 ≤ y - 1 - x by omega) (show 0 ≤ y by omega)
    have b2 := Int.ediv_le_self y (show 0 ≤ y - 1 - x by omega)
    rw [ed, ← td2]
    simp (disch := first | assumption | omega) only [e_152_0, e_152_1, e_152_6, e_152_7, e_152_8, e_152_9, e_152_10, e_152_11, e_152_12, e_152_13, e_152_14, onI_s, onR_s, onL_s, gl_0, gl_n, gl_1, gl_2, gl_3, gl_4, gl_5, gl_6, gl_7, gl_8, gl_9, gl_10, gl_11, gl_12, gl_13, gl_14, gl_15, gl_16, gl_17, sk0i, sk0r, sk0n, sk1i, sk1r, sk1n, sk_2, sk_3, sk_4, sk_5, sk_6, sk_7, sk_8, sk_9, sk_10, sk_11, sk_12, sk_13, sk_14, sk_15, sk_16, sk_17, ls_0, ls_1, ls_2, ls_3, ls_4, ls_5, ls_6, ls_7, ls_8, ls_9, ls_10, ls_11, ls_12, ls_13, ls_14, ls_15, ls_16, ls_17, ct1_i, ct1_r, wd8_0, wd8_i1, wd8_r1, wd8_i2, wd8_r2, wd8_i3, wd8_r3, wd8_i4, wd8_r4, wd8_i5, wd8_r5, wd8_i6, wd8_r6, wd8_i7, wd8_r7, wd8_i8, wd8_r8, wd8_l2, wd8_l3, wd8_l4, wd8_l5, wd8_l6, wd8_l7, wd8_l8, tl_s, tl_n, inR_t, bd_t, true_and, and_true, true_or, or_true, if_true_x, if_false_x, if_pos, if_neg, Int.toNat_natCast, natL, bI_0, bI_1, bI_ft, eq_self, b_tf, b_ft, not_true_eq_false, not_false_eq_true, dv_t, dvR, dvE, nzp, td]
set_option maxHeartbeats 4000000 in
theorem m_221 (hc : CT X ns nb ln) (hw : RGv (vm h)) {c : Nat} {x : Int} (hcc : c < 20) (hf : vm h 13 c < vm h 6 0) (hg : ∀ f : Nat, (f : Int) < vm h 6 0 → vm h 9 f ≤ vm h 10 f) : Cl X 221 [vr 70, vi c, vi x] h Q ↔ Q (some (vi (hdX (vm h) c x))) h := by
  have w1 := hw.wid c
  have w2 := hw.sites
  have w5 := hw.fen c
  have nF := hw.nF
  rw [vm_si] at w2
  unfold hdX
  rw [vm_si]
  rw [c_221]
  by_cases e : vm h 13 c = -1
  · rw [if_pos e]
    simp (disch := first | assumption | omega) only [e_221_0, e_221_1, e_221_2, e_221_3, e_221_4, e_221_5, e_221_6, e_221_7, e_221_8, e_221_9, e_221_10, e_221_11, e_221_12, e_221_67, e_221_68, e_221_69, e_221_70, e_221_71, e_221_72, e_221_73, e_221_74, e_221_75, e_221_76, e_221_77, e_221_78, e_221_79, onI_s, onR_s, onL_s, gl_0, gl_n, gl_1, gl_2, gl_3, gl_4, gl_5, gl_6, gl_7, gl_8, gl_9, gl_10, gl_11, gl_12, gl_13, gl_14, gl_15, gl_16, gl_17, sk0i, sk0r, sk0n, sk1i, sk1r, sk1n, sk_2, sk_3, sk_4, sk_5, sk_6, sk_7, sk_8, sk_9, sk_10, sk_11, sk_12, sk_13, sk_14, sk_15, sk_16, sk_17, ls_0, ls_1, ls_2, ls_3, ls_4, ls_5, ls_6, ls_7, ls_8, ls_9, ls_10, ls_11, ls_12, ls_13, ls_14, ls_15, ls_16, ls_17, ct1_i, ct1_r, wd8_0, wd8_i1, wd8_r1, wd8_i2, wd8_r2, wd8_i3, wd8_r3, wd8_i4, wd8_r4, wd8_i5, wd8_r5, wd8_i6, wd8_r6, wd8_i7, wd8_r7, wd8_i8, wd8_r8, wd8_l2, wd8_l3, wd8_l4, wd8_l5, wd8_l6, wd8_l7, wd8_l8, tl_s, tl_n, inR_t, bd_t, true_and, and_true, true_or, or_true, if_true_x, if_false_x, if_pos, if_neg, Int.toNat_natCast, natL, bI_0, bI_1, bI_ft, eq_self, b_tf, b_ft, not_true_eq_false, not_false_eq_true, m_158, m_151, vm_12, vm_13, e, hc.t70, hc.r70_4, hc.r70_5, hc.r70_6, hc.r70_7, hc.r70_8, hc.r70_10, hc.r70_11, hc.r70_12, hc.r70_14, hc.r70_15, hc.r70_16, hc.r70_17, hc.r70_19, hc.r70_21, hc.r70_23, hc.r70_24, hc.r70_26, hc.r70_27, hc.r70_28, hc.r70_29, hc.r70_30, hc.r70_31, hc.r70_32, hc.r70_33, hc.r70_36, hc.t73, hc.z73]
  · rw [if_neg e]
    obtain ⟨f, hff⟩ : ∃ f : Nat, vm h 13 c = f := ⟨(vm h 13 c).toNat, by omega⟩
    have f3 : f < 3 := by omega
    have w6 := hw.box 9 f (by decide)
    have w7 := hw.box 10 f (by decide)
    have e' : ¬ (f : Int) = -1 := by omega
    rw [hff, Int.toNat_natCast]
    by_cases y : vm h 9 f ≤ vm h 10 f - vm h 12 c + 1
    · rw [show max (vm h 9 f) (vm h 10 f + 1 - vm h 12 c) = vm h 10 f - vm h 12 c + 1 by omega]
      simp (disch := first | assumption | omega) only [e_221_0, e_221_1, e_221_2, e_221_3, e_221_4, e_221_5, e_221_6, e_221_7, e_221_8, e_221_9, e_221_10, e_221_11, e_221_12, e_221_13, e_221_14, e_221_15, e_221_16, e_221_17, e_221_18, e_221_19, e_221_20, e_221_21, e_221_22, e_221_23, e_221_24, e_221_25, e_221_26, e_221_27, e_221_28, e_221_29, e_221_30, e_221_31, e_221_32, e_221_33, e_221_34, e_221_35, e_221_36, e_221_37, e_221_38, e_221_39, e_221_40, e_221_41, e_221_42, e_221_43, e_221_44, e_221_45, e_221_46, e_221_47, e_221_48, e_221_49, e_221_50, e_221_51, e_221_52, e_221_53, e_221_54, e_221_55, e_221_63, e_221_64, e_221_65, e_221_66, e_221_67, e_221_68, e_221_69, e_221_70, e_221_71, e_221_72, e_221_73, e_221_74, e_221_75, e_221_76, e_221_77, e_221_78, e_221_79, onI_s, onR_s, onL_s, gl_0, gl_n, gl_1, gl_2, gl_3, gl_4, gl_5, gl_6, gl_7, gl_8, gl_9, gl_10, gl_11, gl_12, gl_13, gl_14, gl_15, gl_16, gl_17, sk0i, sk0r, sk0n, sk1i, sk1r, sk1n, sk_2, sk_3, sk_4, sk_5, sk_6, sk_7, sk_8, sk_9, sk_10, sk_11, sk_12, sk_13, sk_14, sk_15, sk_16, sk_17, ls_0, ls_1, ls_2, ls_3, ls_4, ls_5, ls_6, ls_7, ls_8, ls_9, ls_10, ls_11, ls_12, ls_13, ls_14, ls_15, ls_16, ls_17, ct1_i, ct1_r, wd8_0, wd8_i1, wd8_r1, wd8_i2, wd8_r2, wd8_i3, wd8_r3, wd8_i4, wd8_r4, wd8_i5, wd8_r5, wd8_i6, wd8_r6, wd8_i7, wd8_r7, wd8_i8, wd8_r8, wd8_l2, wd8_l3, wd8_l4, wd8_l5, wd8_l6, wd8_l7, wd8_l8, tl_s, tl_n, inR_t, bd_t, true_and, and_true, true_or, or_true, if_true_x, if_false_x, if_pos, if_neg, Int.toNat_natCast, natL, bI_0, bI_1, bI_ft, eq_self, b_tf, b_ft, not_true_eq_false, not_false_eq_true, m_158, m_151, vm_12, vm_13, vm_f9, vm_f10, hff, e', hc.t70, hc.r70_4, hc.r70_5, hc.r70_6, hc.r70_7, hc.r70_8, hc.r70_10, hc.r70_11, hc.r70_12, hc.r70_14, hc.r70_15, hc.r70_16, hc.r70_17, hc.r70_19, hc.r70_21, hc.r70_23, hc.r70_24, hc.r70_26, hc.r70_27, hc.r70_28, hc.r70_29, hc.r70_30, hc.r70_31, hc.r70_32, hc.r70_33, hc.r70_36, hc.t73, hc.z73]
    · rw [show max (vm h 9 f) (vm h 10 f + 1 - vm h 12 c) = vm h 9 f by omega]
      simp (disch := first | assumption | omega) only [e_221_0, e_221_1, e_221_2, e_221_3, e_221_4, e_221_5, e_221_6, e_221_7, e_221_8, e_221_9, e_221_10, e_221_11, e_221_12, e_221_13, e_221_14, e_221_15, e_221_16, e_221_17, e_221_18, e_221_19, e_221_20, e_221_21, e_221_22, e_221_23, e_221_24, e_221_25, e_221_26, e_221_27, e_221_28, e_221_29, e_221_30, e_221_31, e_221_32, e_221_33, e_221_34, e_221_35, e_221_36, e_221_37, e_221_38, e_221_39, e_221_40, e_221_41, e_221_42, e_221_43, e_221_44, e_221_45, e_221_46, e_221_47, e_221_48, e_221_49, e_221_50, e_221_51, e_221_52, e_221_53, e_221_54, e_221_55, e_221_56, e_221_57, e_221_58, e_221_59, e_221_60, e_221_61, e_221_62, e_221_64, e_221_65, e_221_66, e_221_67, e_221_68, e_221_69, e_221_70, e_221_71, e_221_72, e_221_73, e_221_74, e_221_75, e_221_76, e_221_77, e_221_78, e_221_79, onI_s, onR_s, onL_s, gl_0, gl_n, gl_1, gl_2, gl_3, gl_4, gl_5, gl_6, gl_7, gl_8, gl_9, gl_10, gl_11, gl_12, gl_13, gl_14, gl_15, gl_16, gl_17, sk0i, sk0r, sk0n, sk1i, sk1r, sk1n, sk_2, sk_3, sk_4, sk_5, sk_6, sk_7, sk_8, sk_9, sk_10, sk_11, sk_12, sk_13, sk_14, sk_15, sk_16, sk_17, ls_0, ls_1, ls_2, ls_3, ls_4, ls_5, ls_6, ls_7, ls_8, ls_9, ls_10, ls_11, ls_12, ls_13, ls_14, ls_15, ls_16, ls_17, ct1_i, ct1_r, wd8_0, wd8_i1, wd8_r1, wd8_i2, wd8_r2, wd8_i3, wd8_r3, wd8_i4, wd8_r4, wd8_i5, wd8_r5, wd8_i6, wd8_r6, wd8_i7, wd8_r7, wd8_i8, wd8_r8, wd8_l2, wd8_l3, wd8_l4, wd8_l5, wd8_l6, wd8_l7, wd8_l8, tl_s, tl_n, inR_t, bd_t, true_and, and_true, true_or, or_true, if_true_x, if_false_x, if_pos, if_neg, Int.toNat_natCast, natL, bI_0, bI_1, bI_ft, eq_self, b_tf, b_ft, not_true_eq_false, not_false_eq_true, m_158, m_151, vm_12, vm_13, vm_f9, vm_f10, hff, e', hc.t70, hc.r70_4, hc.r70_5, hc.r70_6, hc.r70_7, hc.r70_8, hc.r70_10, hc.r70_11, hc.r70_12, hc.r70_14, hc.r70_15, hc.r70_16, hc.r70_17, hc.r70_19, hc.r70_21, hc.r70_23, hc.r70_24, hc.r70_26, hc.r70_27, hc.r70_28, hc.r70_29, hc.r70_30, hc.r70_31, hc.r70_32, hc.r70_33, hc.r70_36, hc.t73, hc.z73]
set_option maxHeartbeats 4000000 in
theorem m_222 (hc : CT X ns nb ln) (hw : RGv (vm h)) {c : Nat} {x : Int} (hcc : c < 20) (hf : vm h 13 c < vm h 6 0) (hg : ∀ f : Nat, (f : Int) < vm h 6 0 → vm h 7 f ≤ vm h 8 f) : Cl X 222 [vr 70, vi c, vi x] h Q ↔ Q (some (vi (hdY (vm h) c x))) h := by
  have w2 := hw.rows
  have w5 := hw.fen c
  have nF := hw.nF
  rw [vm_ro] at w2
  unfold hdY
  rw [vm_ro]
  rw [c_222]
  by_cases e : vm h 13 c = -1
  · rw [if_pos e]
    simp (disch := first | assumption | omega) only [e_222_0, e_222_1, e_222_2, e_222_3, e_222_4, e_222_5, e_222_6, e_222_7, e_222_8, e_222_9, e_222_10, e_222_11, e_222_12, e_222_41, e_222_42, e_222_43, e_222_44, e_222_45, e_222_46, e_222_47, e_222_48, e_222_49, e_222_50, onI_s, onR_s, onL_s, gl_0, gl_n, gl_1, gl_2, gl_3, gl_4, gl_5, gl_6, gl_7, gl_8, gl_9, gl_10, gl_11, gl_12, gl_13, gl_14, gl_15, gl_16, gl_17, sk0i, sk0r, sk0n, sk1i, sk1r, sk1n, sk_2, sk_3, sk_4, sk_5, sk_6, sk_7, sk_8, sk_9, sk_10, sk_11, sk_12, sk_13, sk_14, sk_15, sk_16, sk_17, ls_0, ls_1, ls_2, ls_3, ls_4, ls_5, ls_6, ls_7, ls_8, ls_9, ls_10, ls_11, ls_12, ls_13, ls_14, ls_15, ls_16, ls_17, ct1_i, ct1_r, wd8_0, wd8_i1, wd8_r1, wd8_i2, wd8_r2, wd8_i3, wd8_r3, wd8_i4, wd8_r4, wd8_i5, wd8_r5, wd8_i6, wd8_r6, wd8_i7, wd8_r7, wd8_i8, wd8_r8, wd8_l2, wd8_l3, wd8_l4, wd8_l5, wd8_l6, wd8_l7, wd8_l8, tl_s, tl_n, inR_t, bd_t, true_and, and_true, true_or, or_true, if_true_x, if_false_x, if_pos, if_neg, Int.toNat_natCast, natL, bI_0, bI_1, bI_ft, eq_self, b_tf, b_ft, not_true_eq_false, not_false_eq_true, m_158, m_151, vm_13, e, hc.t70, hc.r70_4, hc.r70_5, hc.r70_6, hc.r70_7, hc.r70_8, hc.r70_10, hc.r70_11, hc.r70_12, hc.r70_14, hc.r70_15, hc.r70_16, hc.r70_17, hc.r70_19, hc.r70_21, hc.r70_23, hc.r70_24, hc.r70_26, hc.r70_27, hc.r70_28, hc.r70_29, hc.r70_30, hc.r70_31, hc.r70_32, hc.r70_33, hc.r70_36, hc.t73, hc.z73]
  · rw [if_neg e]
    obtain ⟨f, hff⟩ : ∃ f : Nat, vm h 13 c = f := ⟨(vm h 13 c).toNat, by omega⟩
    have f3 : f < 3 := by omega
    have w6 := hw.box 7 f (by decide)
    have w7 := hw.box 8 f (by decide)
    have hgf := hg f (by omega)
    have e' : ¬ (f : Int) = -1 := by omega
    rw [hff, Int.toNat_natCast]
    simp (disch := first | assumption | omega) only [e_222_0, e_222_1, e_222_2, e_222_3, e_222_4, e_222_5, e_222_6, e_222_7, e_222_8, e_222_9, e_222_10, e_222_11, e_222_12, e_222_13, e_222_14, e_222_15, e_222_16, e_222_17, e_222_18, e_222_19, e_222_20, e_222_21, e_222_22, e_222_23, e_222_24, e_222_25, e_222_26, e_222_27, e_222_28, e_222_29, e_222_30, e_222_31, e_222_32, e_222_33, e_222_34, e_222_35, e_222_36, e_222_37, e_222_38, e_222_39, e_222_40, e_222_41, e_222_42, e_222_43, e_222_44, e_222_45, e_222_46, e_222_47, e_222_48, e_222_49, e_222_50, onI_s, onR_s, onL_s, gl_0, gl_n, gl_1, gl_2, gl_3, gl_4, gl_5, gl_6, gl_7, gl_8, gl_9, gl_10, gl_11, gl_12, gl_13, gl_14, gl_15, gl_16, gl_17, sk0i, sk0r, sk0n, sk1i, sk1r, sk1n, sk_2, sk_3, sk_4, sk_5, sk_6, sk_7, sk_8, sk_9, sk_10, sk_11, sk_12, sk_13, sk_14, sk_15, sk_16, sk_17, ls_0, ls_1, ls_2, ls_3, ls_4, ls_5, ls_6, ls_7, ls_8, ls_9, ls_10, ls_11, ls_12, ls_13, ls_14, ls_15, ls_16, ls_17, ct1_i, ct1_r, wd8_0, wd8_i1, wd8_r1, wd8_i2, wd8_r2, wd8_i3, wd8_r3, wd8_i4, wd8_r4, wd8_i5, wd8_r5, wd8_i6, wd8_r6, wd8_i7, wd8_r7, wd8_i8, wd8_r8, wd8_l2, wd8_l3, wd8_l4, wd8_l5, wd8_l6, wd8_l7, wd8_l8, tl_s, tl_n, inR_t, bd_t, true_and, and_true, true_or, or_true, if_true_x, if_false_x, if_pos, if_neg, Int.toNat_natCast, natL, bI_0, bI_1, bI_ft, eq_self, b_tf, b_ft, not_true_eq_false, not_false_eq_true, m_158, m_151, vm_13, vm_f7, vm_f8, hff, e', hc.t70, hc.r70_4, hc.r70_5, hc.r70_6, hc.r70_7, hc.r70_8, hc.r70_10, hc.r70_11, hc.r70_12, hc.r70_14, hc.r70_15, hc.r70_16, hc.r70_17, hc.r70_19, hc.r70_21, hc.r70_23, hc.r70_24, hc.r70_26, hc.r70_27, hc.r70_28, hc.r70_29, hc.r70_30, hc.r70_31, hc.r70_32, hc.r70_33, hc.r70_36, hc.t73, hc.z73]
set_option maxHeartbeats 8000000 in
theorem l_224i (hc : CT X ns nb ln) {c n p P : Nat} (g : WG (vm h)) (hn : (n : Int) < vm h 19 0) (hpp : vm h 21 n = P) (hpP : p < P) (hcc : c < 20) : ∀ (m k : Nat) (q : Int × Int × Int), k + m = P → qB q (n * 6 + k) → (Ev X 224 81 [some (vr 70), some (vi c), some (vi (stI (vm h) n p m k q).2.1), some (vi (stI (vm h) n p m k q).2.2), some (vi (stI (vm h) n p m k q).1), some (vi n), some (vi p), some (vi P)] [] h Q) → Ev X 224 21 [some (vr 70), some (vi c), some (vi q.2.1), some (vi q.2.2), some (vi q.1), some (vi n), some (vi p), some (vi k)] [] h Q := by
  have nN := g.1.nN
  have p6 := g.1.pin n
  have n16 : n < 16 := by omega
  have pn : ¬ (p : Int) = -1 := by omega
  have pp6 : p < 6 := by omega
  intro m
  induction m with
  | zero =>
    intro k q hm hb hq
    rw [e_224_21]
    simp (disch := first | assumption | omega) only [e_224_22, e_224_23, e_224_24, e_224_25, onI_s, onR_s, onL_s, gl_0, gl_n, gl_1, gl_2, gl_3, gl_4, gl_5, gl_6, gl_7, gl_8, gl_9, gl_10, gl_11, gl_12, gl_13, gl_14, gl_15, gl_16, gl_17, sk0i, sk0r, sk0n, sk1i, sk1r, sk1n, sk_2, sk_3, sk_4, sk_5, sk_6, sk_7, sk_8, sk_9, sk_10, sk_11, sk_12, sk_13, sk_14, sk_15, sk_16, sk_17, ls_0, ls_1, ls_2, ls_3, ls_4, ls_5, ls_6, ls_7, ls_8, ls_9, ls_10, ls_11, ls_12, ls_13, ls_14, ls_15, ls_16, ls_17, ct1_i, ct1_r, wd8_0, wd8_i1, wd8_r1, wd8_i2, wd8_r2, wd8_i3, wd8_r3, wd8_i4, wd8_r4, wd8_i5, wd8_r5, wd8_i6, wd8_r6, wd8_i7, wd8_r7, wd8_i8, wd8_r8, wd8_l2, wd8_l3, wd8_l4, wd8_l5, wd8_l6, wd8_l7, wd8_l8, tl_s, tl_n, inR_t, bd_t, true_and, and_true, true_or, or_true, if_true_x, if_false_x, if_pos, if_neg, Int.toNat_natCast, natL, bI_0, bI_1, bI_ft, eq_self, b_tf, b_ft, not_true_eq_false, not_false_eq_true, m_197 hc, hpp, hc.t70, hc.r70_4, hc.r70_5, hc.r70_6, hc.r70_7, hc.r70_8, hc.r70_10, hc.r70_11, hc.r70_12, hc.r70_14, hc.r70_15, hc.r70_16, hc.r70_17, hc.r70_19, hc.r70_21, hc.r70_23, hc.r70_24, hc.r70_26, hc.r70_27, hc.r70_28, hc.r70_29, hc.r70_30, hc.r70_31, hc.r70_32, hc.r70_33, hc.r70_36]
    rw [show k = P by omega]
    exact hq
  | succ m ih =>
    intro k q hm hb hq
    rw [stI] at hq
    rw [e_224_21]
    by_cases e : k = p
    · have e' : (k : Int) = p := by omega
      rw [if_pos e] at hq
      simp (disch := first | assumption | omega) only [e_224_22, e_224_23, e_224_24, e_224_25, e_224_26, e_224_27, e_224_28, e_224_29, e_224_30, e_224_31, e_224_79, e_224_80, onI_s, onR_s, onL_s, gl_0, gl_n, gl_1, gl_2, gl_3, gl_4, gl_5, gl_6, gl_7, gl_8, gl_9, gl_10, gl_11, gl_12, gl_13, gl_14, gl_15, gl_16, gl_17, sk0i, sk0r, sk0n, sk1i, sk1r, sk1n, sk_2, sk_3, sk_4, sk_5, sk_6, sk_7, sk_8, sk_9, sk_10, sk_11, sk_12, sk_13, sk_14, sk_15, sk_16, sk_17, ls_0, ls_1, ls_2, ls_3, ls_4, ls_5, ls_6, ls_7, ls_8, ls_9, ls_10, ls_11, ls_12, ls_13, ls_14, ls_15, ls_16, ls_17, ct1_i, ct1_r, wd8_0, wd8_i1, wd8_r1, wd8_i2, wd8_r2, wd8_i3, wd8_r3, wd8_i4, wd8_r4, wd8_i5, wd8_r5, wd8_i6, wd8_r6, wd8_i7, wd8_r7, wd8_i8, wd8_r8, wd8_l2, wd8_l3, wd8_l4, wd8_l5, wd8_l6, wd8_l7, wd8_l8, tl_s, tl_n, inR_t, bd_t, true_and, and_true, true_or, or_true, if_true_x, if_false_x, if_pos, if_neg, Int.toNat_natCast, natL, bI_0, bI_1, bI_ft, eq_self, b_tf, b_ft, not_true_eq_false, not_false_eq_true, m_197 hc, hpp, cast_s, hc.t70, hc.r70_4, hc.r70_5, hc.r70_6, hc.r70_7, hc.r70_8, hc.r70_10, hc.r70_11, hc.r70_12, hc.r70_14, hc.r70_15, hc.r70_16, hc.r70_17, hc.r70_19, hc.r70_21, hc.r70_23, hc.r70_24, hc.r70_26, hc.r70_27, hc.r70_28, hc.r70_29, hc.r70_30, hc.r70_31, hc.r70_32, hc.r70_33, hc.r70_36]
      exact ih (k + 1) q (by omega) (qB_m hb (by omega)) hq
    · have e' : ¬ (k : Int) = p := by omega
      rw [if_neg e] at hq
      have st := stI_1 (n := n) (p := p) g.1 (k := k) hb
      have w3 := g.1.tai (n * 6 + p)
      have wg := g.1.wgt n
      have a := pwX_bd g.1 n k
      have b := pwY_bd g.1 n k
      have hk : (k : Int) < vm h 21 n := by omega
      have m200 : ∀ {Q2 : Option xV → xH → Prop}, Cl X 200 [vr 70, vi (n : Int), vi (k : Int), vi 0] h Q2 ↔ Q2 (some (vi (pwX (vm h) n k))) h := by
        intro Q2
        rw [m_200 hc g.1 g.2.1 n16 hn hk, if_pos rfl]
      have m201 : ∀ {Q2 : Option xV → xH → Prop}, Cl X 201 [vr 70, vi (n : Int), vi (k : Int), vi 0] h Q2 ↔ Q2 (some (vi (pwY (vm h) n k))) h := by
        intro Q2
        rw [m_201 hc g.1 g.2.1 n16 hn hk, if_pos rfl]
      have es : pwX (vm h) n k - 16 * vm h 23 (n * 6 + p) - 8 = pwX (vm h) n k - (16 * vm h 23 (n * 6 + p) + 8) := by omega
      obtain ⟨q1, q2, q3⟩ := hb
      simp (disch := first | assumption | omega) only [e_224_22, e_224_23, e_224_24, e_224_25, e_224_26, e_224_27, e_224_28, e_224_29, e_224_30, e_224_31, e_224_32, e_224_33, e_224_34, e_224_35, e_224_36, e_224_37, e_224_38, e_224_39, e_224_40, e_224_41, e_224_42, e_224_43, e_224_44, e_224_45, e_224_46, e_224_47, e_224_48, e_224_49, e_224_50, e_224_51, e_224_52, e_224_53, e_224_54, e_224_55, e_224_56, e_224_57, e_224_58, e_224_59, e_224_60, e_224_61, e_224_62, e_224_63, e_224_64, e_224_65, e_224_66, e_224_67, e_224_68, e_224_69, e_224_70, e_224_71, e_224_72, e_224_73, e_224_74, e_224_75, e_224_76, e_224_77, e_224_78, e_224_79, e_224_80, onI_s, onR_s, onL_s, gl_0, gl_n, gl_1, gl_2, gl_3, gl_4, gl_5, gl_6, gl_7, gl_8, gl_9, gl_10, gl_11, gl_12, gl_13, gl_14, gl_15, gl_16, gl_17, sk0i, sk0r, sk0n, sk1i, sk1r, sk1n, sk_2, sk_3, sk_4, sk_5, sk_6, sk_7, sk_8, sk_9, sk_10, sk_11, sk_12, sk_13, sk_14, sk_15, sk_16, sk_17, ls_0, ls_1, ls_2, ls_3, ls_4, ls_5, ls_6, ls_7, ls_8, ls_9, ls_10, ls_11, ls_12, ls_13, ls_14, ls_15, ls_16, ls_17, ct1_i, ct1_r, wd8_0, wd8_i1, wd8_r1, wd8_i2, wd8_r2, wd8_i3, wd8_r3, wd8_i4, wd8_r4, wd8_i5, wd8_r5, wd8_i6, wd8_r6, wd8_i7, wd8_r7, wd8_i8, wd8_r8, wd8_l2, wd8_l3, wd8_l4, wd8_l5, wd8_l6, wd8_l7, wd8_l8, tl_s, tl_n, inR_t, bd_t, true_and, and_true, true_or, or_true, if_true_x, if_false_x, if_pos, if_neg, Int.toNat_natCast, natL, bI_0, bI_1, bI_ft, eq_self, b_tf, b_ft, not_true_eq_false, not_false_eq_true, m_197 hc, hpp, m_159, vm_20, m200, m201, m_199 hc, es, cast_s, hc.t70, hc.r70_4, hc.r70_5, hc.r70_6, hc.r70_7, hc.r70_8, hc.r70_10, hc.r70_11, hc.r70_12, hc.r70_14, hc.r70_15, hc.r70_16, hc.r70_17, hc.r70_19, hc.r70_21, hc.r70_23, hc.r70_24, hc.r70_26, hc.r70_27, hc.r70_28, hc.r70_29, hc.r70_30, hc.r70_31, hc.r70_32, hc.r70_33, hc.r70_36, hc.t73, hc.z73]
      exact ih (k + 1) (_, _, _) (by omega) (qB_m st.2.2 (by omega)) hq
set_option maxHeartbeats 8000000 in
theorem l_224 (hc : CT X ns nb ln) {c N : Nat} (g : WG (vm h)) (nd : NDv (vm h)) (hN : vm h 19 0 = N) (hcc : c < 20) : ∀ (m n : Nat) (q : Int × Int × Int) (x6 x7 : Option xV), n + m = N → qB q (n * 6) → (∀ x6 x7, qB (stO (vm h) c m n q) (N * 6) → Ev X 224 83 [some (vr 70), some (vi c), some (vi (stO (vm h) c m n q).2.1), some (vi (stO (vm h) c m n q).2.2), some (vi (stO (vm h) c m n q).1), some (vi N), x6, x7] [] h Q) → Ev X 224 8 [some (vr 70), some (vi c), some (vi q.2.1), some (vi q.2.2), some (vi q.1), some (vi n), x6, x7] [] h Q := by
  have nN := g.1.nN
  intro m
  induction m with
  | zero =>
    intro n q x6 x7 hm hb hq
    rw [e_224_8]
    simp (disch := first | assumption | omega) only [e_224_9, e_224_10, e_224_11, e_224_12, e_224_13, onI_s, onR_s, onL_s, gl_0, gl_n, gl_1, gl_2, gl_3, gl_4, gl_5, gl_6, gl_7, gl_8, gl_9, gl_10, gl_11, gl_12, gl_13, gl_14, gl_15, gl_16, gl_17, sk0i, sk0r, sk0n, sk1i, sk1r, sk1n, sk_2, sk_3, sk_4, sk_5, sk_6, sk_7, sk_8, sk_9, sk_10, sk_11, sk_12, sk_13, sk_14, sk_15, sk_16, sk_17, ls_0, ls_1, ls_2, ls_3, ls_4, ls_5, ls_6, ls_7, ls_8, ls_9, ls_10, ls_11, ls_12, ls_13, ls_14, ls_15, ls_16, ls_17, ct1_i, ct1_r, wd8_0, wd8_i1, wd8_r1, wd8_i2, wd8_r2, wd8_i3, wd8_r3, wd8_i4, wd8_r4, wd8_i5, wd8_r5, wd8_i6, wd8_r6, wd8_i7, wd8_r7, wd8_i8, wd8_r8, wd8_l2, wd8_l3, wd8_l4, wd8_l5, wd8_l6, wd8_l7, wd8_l8, tl_s, tl_n, inR_t, bd_t, true_and, and_true, true_or, or_true, if_true_x, if_false_x, if_pos, if_neg, Int.toNat_natCast, natL, bI_0, bI_1, bI_ft, eq_self, b_tf, b_ft, not_true_eq_false, not_false_eq_true, tn_3, vm_nN, hN, hc.t70, hc.r70_4, hc.r70_5, hc.r70_6, hc.r70_7, hc.r70_8, hc.r70_10, hc.r70_11, hc.r70_12, hc.r70_14, hc.r70_15, hc.r70_16, hc.r70_17, hc.r70_19, hc.r70_21, hc.r70_23, hc.r70_24, hc.r70_26, hc.r70_27, hc.r70_28, hc.r70_29, hc.r70_30, hc.r70_31, hc.r70_32, hc.r70_33, hc.r70_36, hc.t73, hc.z73]
    rw [show n = N by omega] at hb ⊢
    exact hq _ _ hb
  | succ m ih =>
    intro n q x6 x7 hm hb hq
    have n16 : n < 16 := by omega
    have hn : (n : Int) < vm h 19 0 := by omega
    have p6 := g.1.pin n
    have p2 := g.2.2 n hn
    have c2 : c < 200 := by omega
    rw [stO] at hq
    rw [e_224_8]
    rcases pnO_rg (v := vm h) (c := c) n with e | ⟨p, hp6, e, hh⟩
    · rw [if_pos e] at hq
      simp (disch := first | assumption | omega) only [e_224_9, e_224_10, e_224_11, e_224_12, e_224_13, e_224_14, e_224_15, e_224_16, e_224_17, e_224_18, e_224_19, e_224_20, onI_s, onR_s, onL_s, gl_0, gl_n, gl_1, gl_2, gl_3, gl_4, gl_5, gl_6, gl_7, gl_8, gl_9, gl_10, gl_11, gl_12, gl_13, gl_14, gl_15, gl_16, gl_17, sk0i, sk0r, sk0n, sk1i, sk1r, sk1n, sk_2, sk_3, sk_4, sk_5, sk_6, sk_7, sk_8, sk_9, sk_10, sk_11, sk_12, sk_13, sk_14, sk_15, sk_16, sk_17, ls_0, ls_1, ls_2, ls_3, ls_4, ls_5, ls_6, ls_7, ls_8, ls_9, ls_10, ls_11, ls_12, ls_13, ls_14, ls_15, ls_16, ls_17, ct1_i, ct1_r, wd8_0, wd8_i1, wd8_r1, wd8_i2, wd8_r2, wd8_i3, wd8_r3, wd8_i4, wd8_r4, wd8_i5, wd8_r5, wd8_i6, wd8_r6, wd8_i7, wd8_r7, wd8_i8, wd8_r8, wd8_l2, wd8_l3, wd8_l4, wd8_l5, wd8_l6, wd8_l7, wd8_l8, tl_s, tl_n, inR_t, bd_t, true_and, and_true, true_or, or_true, if_true_x, if_false_x, if_pos, if_neg, Int.toNat_natCast, natL, bI_0, bI_1, bI_ft, eq_self, b_tf, b_ft, not_true_eq_false, not_false_eq_true, tn_3, vm_nN, hN, m_223 hc g.1 nd hn c2, e, hc.t70, hc.r70_4, hc.r70_5, hc.r70_6, hc.r70_7, hc.r70_8, hc.r70_10, hc.r70_11, hc.r70_12, hc.r70_14, hc.r70_15, hc.r70_16, hc.r70_17, hc.r70_19, hc.r70_21, hc.r70_23, hc.r70_24, hc.r70_26, hc.r70_27, hc.r70_28, hc.r70_29, hc.r70_30, hc.r70_31, hc.r70_32, hc.r70_33, hc.r70_36, hc.t73, hc.z73]
      rw [e_224_21]
      simp (disch := first | assumption | omega) only [e_224_22, e_224_23, e_224_24, e_224_25, e_224_26, e_224_27, e_224_28, e_224_81, e_224_82, onI_s, onR_s, onL_s, gl_0, gl_n, gl_1, gl_2, gl_3, gl_4, gl_5, gl_6, gl_7, gl_8, gl_9, gl_10, gl_11, gl_12, gl_13, gl_14, gl_15, gl_16, gl_17, sk0i, sk0r, sk0n, sk1i, sk1r, sk1n, sk_2, sk_3, sk_4, sk_5, sk_6, sk_7, sk_8, sk_9, sk_10, sk_11, sk_12, sk_13, sk_14, sk_15, sk_16, sk_17, ls_0, ls_1, ls_2, ls_3, ls_4, ls_5, ls_6, ls_7, ls_8, ls_9, ls_10, ls_11, ls_12, ls_13, ls_14, ls_15, ls_16, ls_17, ct1_i, ct1_r, wd8_0, wd8_i1, wd8_r1, wd8_i2, wd8_r2, wd8_i3, wd8_r3, wd8_i4, wd8_r4, wd8_i5, wd8_r5, wd8_i6, wd8_r6, wd8_i7, wd8_r7, wd8_i8, wd8_r8, wd8_l2, wd8_l3, wd8_l4, wd8_l5, wd8_l6, wd8_l7, wd8_l8, tl_s, tl_n, inR_t, bd_t, true_and, and_true, true_or, or_true, if_true_x, if_false_x, if_pos, if_neg, Int.toNat_natCast, natL, bI_0, bI_1, bI_ft, eq_self, b_tf, b_ft, not_true_eq_false, not_false_eq_true, m_197 hc, cast_s, hc.t70, hc.r70_4, hc.r70_5, hc.r70_6, hc.r70_7, hc.r70_8, hc.r70_10, hc.r70_11, hc.r70_12, hc.r70_14, hc.r70_15, hc.r70_16, hc.r70_17, hc.r70_19, hc.r70_21, hc.r70_23, hc.r70_24, hc.r70_26, hc.r70_27, hc.r70_28, hc.r70_29, hc.r70_30, hc.r70_31, hc.r70_32, hc.r70_33, hc.r70_36]
      exact ih (n + 1) q _ _ (by omega) (qB_m hb (by omega)) hq
    · rw [e, if_neg (by omega), Int.toNat_natCast] at hq
      simp (disch := first | assumption | omega) only [e_224_9, e_224_10, e_224_11, e_224_12, e_224_13, e_224_14, e_224_15, e_224_16, e_224_17, e_224_18, e_224_19, e_224_20, onI_s, onR_s, onL_s, gl_0, gl_n, gl_1, gl_2, gl_3, gl_4, gl_5, gl_6, gl_7, gl_8, gl_9, gl_10, gl_11, gl_12, gl_13, gl_14, gl_15, gl_16, gl_17, sk0i, sk0r, sk0n, sk1i, sk1r, sk1n, sk_2, sk_3, sk_4, sk_5, sk_6, sk_7, sk_8, sk_9, sk_10, sk_11, sk_12, sk_13, sk_14, sk_15, sk_16, sk_17, ls_0, ls_1, ls_2, ls_3, ls_4, ls_5, ls_6, ls_7, ls_8, ls_9, ls_10, ls_11, ls_12, ls_13, ls_14, ls_15, ls_16, ls_17, ct1_i, ct1_r, wd8_0, wd8_i1, wd8_r1, wd8_i2, wd8_r2, wd8_i3, wd8_r3, wd8_i4, wd8_r4, wd8_i5, wd8_r5, wd8_i6, wd8_r6, wd8_i7, wd8_r7, wd8_i8, wd8_r8, wd8_l2, wd8_l3, wd8_l4, wd8_l5, wd8_l6, wd8_l7, wd8_l8, tl_s, tl_n, inR_t, bd_t, true_and, and_true, true_or, or_true, if_true_x, if_false_x, if_pos, if_neg, Int.toNat_natCast, natL, bI_0, bI_1, bI_ft, eq_self, b_tf, b_ft, not_true_eq_false, not_false_eq_true, tn_3, vm_nN, hN, m_223 hc g.1 nd hn c2, e, hc.t70, hc.r70_4, hc.r70_5, hc.r70_6, hc.r70_7, hc.r70_8, hc.r70_10, hc.r70_11, hc.r70_12, hc.r70_14, hc.r70_15, hc.r70_16, hc.r70_17, hc.r70_19, hc.r70_21, hc.r70_23, hc.r70_24, hc.r70_26, hc.r70_27, hc.r70_28, hc.r70_29, hc.r70_30, hc.r70_31, hc.r70_32, hc.r70_33, hc.r70_36, hc.t73, hc.z73]
      refine l_224i hc (c := c) (n := n) (p := p) (P := (vm h 21 n).toNat) g hn (by omega) (by omega) hcc (vm h 21 n).toNat 0 q (by omega) (qB_m hb (by omega)) ?_
      rw [e_224_81]
      simp (disch := first | assumption | omega) only [e_224_82, onI_s, onR_s, onL_s, gl_0, gl_n, gl_1, gl_2, gl_3, gl_4, gl_5, gl_6, gl_7, gl_8, gl_9, gl_10, gl_11, gl_12, gl_13, gl_14, gl_15, gl_16, gl_17, sk0i, sk0r, sk0n, sk1i, sk1r, sk1n, sk_2, sk_3, sk_4, sk_5, sk_6, sk_7, sk_8, sk_9, sk_10, sk_11, sk_12, sk_13, sk_14, sk_15, sk_16, sk_17, ls_0, ls_1, ls_2, ls_3, ls_4, ls_5, ls_6, ls_7, ls_8, ls_9, ls_10, ls_11, ls_12, ls_13, ls_14, ls_15, ls_16, ls_17, ct1_i, ct1_r, wd8_0, wd8_i1, wd8_r1, wd8_i2, wd8_r2, wd8_i3, wd8_r3, wd8_i4, wd8_r4, wd8_i5, wd8_r5, wd8_i6, wd8_r6, wd8_i7, wd8_r7, wd8_i8, wd8_r8, wd8_l2, wd8_l3, wd8_l4, wd8_l5, wd8_l6, wd8_l7, wd8_l8, tl_s, tl_n, inR_t, bd_t, true_and, and_true, true_or, or_true, if_true_x, if_false_x, if_pos, if_neg, Int.toNat_natCast, natL, bI_0, bI_1, bI_ft, eq_self, b_tf, b_ft, not_true_eq_false, not_false_eq_true, cast_s]
      refine ih (n + 1) _ _ _ (by omega) ?_ hq
      exact qB_m (stI_b g.1 (vm h 21 n).toNat 0 q (n * 6) hb) (by omega)
set_option maxHeartbeats 8000000 in
theorem m_224 (hc : CT X ns nb ln) (ok : Ok X h) {c : Nat} (g : Gd (vm h)) (hn : (c : Int) < vm h 11 0) (hq : ∀ h2, Fm X h h2 → M73 h h2 → vm h2 = sttC (vm h) c → Q none h2) : Cl X 224 [vr 70, vi c] h Q := by
  have nN := g.rg.nN
  have nC := g.rg.nC
  have hcc : c < 20 := by omega
  have cl := g.geo.cel hn
  rw [c_224]
  simp (disch := first | assumption | omega) only [e_224_0, e_224_1, e_224_2, e_224_3, e_224_4, e_224_5, e_224_6, e_224_7, onI_s, onR_s, onL_s, gl_0, gl_n, gl_1, gl_2, gl_3, gl_4, gl_5, gl_6, gl_7, gl_8, gl_9, gl_10, gl_11, gl_12, gl_13, gl_14, gl_15, gl_16, gl_17, sk0i, sk0r, sk0n, sk1i, sk1r, sk1n, sk_2, sk_3, sk_4, sk_5, sk_6, sk_7, sk_8, sk_9, sk_10, sk_11, sk_12, sk_13, sk_14, sk_15, sk_16, sk_17, ls_0, ls_1, ls_2, ls_3, ls_4, ls_5, ls_6, ls_7, ls_8, ls_9, ls_10, ls_11, ls_12, ls_13, ls_14, ls_15, ls_16, ls_17, ct1_i, ct1_r, wd8_0, wd8_i1, wd8_r1, wd8_i2, wd8_r2, wd8_i3, wd8_r3, wd8_i4, wd8_r4, wd8_i5, wd8_r5, wd8_i6, wd8_r6, wd8_i7, wd8_r7, wd8_i8, wd8_r8, wd8_l2, wd8_l3, wd8_l4, wd8_l5, wd8_l6, wd8_l7, wd8_l8, tl_s, tl_n, inR_t, bd_t, true_and, and_true, true_or, or_true, if_true_x, if_false_x, if_pos, if_neg, Int.toNat_natCast, natL, bI_0, bI_1, bI_ft, eq_self, b_tf, b_ft, not_true_eq_false, not_false_eq_true]
  refine l_224 hc (c := c) (N := (vm h 19 0).toNat) g.wg g.nd (by omega) hcc (vm h 19 0).toNat 0 (0, 0, 0) none none (by omega) (by unfold qB; dsimp only; omega) (fun x6 x7 qb => ?_)
  rw [show stO (vm h) c (vm h 19 0).toNat 0 (0, 0, 0) = stQ (vm h) c from rfl] at qb ⊢
  obtain ⟨q1, q2, q3⟩ := qb
  unfold sttC at hq
  rw [e_224_83]
  by_cases e : 0 < (stQ (vm h) c).1
  · rw [if_pos e] at hq
    have ev : vm (up2 h.1 73 (36 + 7 * (c : Int) + 3).toNat (hdX (vm h) c ((stQ (vm h) c).2.1 / (stQ (vm h) c).1)), h.2) = up2 (vm h) 15 c (hdX (vm h) c ((stQ (vm h) c).2.1 / (stQ (vm h) c).1)) := vm_uc (by omega) hcc (by omega)
    have hb := hdX_bd (c := c) g.rg ((stQ (vm h) c).2.1 / (stQ (vm h) c).1)
    have hw2 : RGv (vm (up2 h.1 73 (36 + 7 * (c : Int) + 3).toNat (hdX (vm h) c ((stQ (vm h) c).2.1 / (stQ (vm h) c).1)), h.2)) := by rw [ev]; exact g.rg.u (by unfold rgP; omega)
    have ey : ∀ x, hdY (vm (up2 h.1 73 (36 + 7 * (c : Int) + 3).toNat (hdX (vm h) c ((stQ (vm h) c).2.1 / (stQ (vm h) c).1)), h.2)) c x = hdY (vm h) c x := by
      intro x
      rw [ev]
      unfold hdY
      rw [up2_of (show 0 ≠ 15 by omega), up2_of (show 13 ≠ 15 by omega), up2_of (show 7 ≠ 15 by omega), up2_of (show 8 ≠ 15 by omega)]
    have m222 := fun (Q2 : Option xV → xH → Prop) (x : Int) => m_222 (Q := Q2) (x := x) hc hw2 hcc (by rw [ev, up2_of (show 13 ≠ 15 by omega), up2_of (show 6 ≠ 15 by omega)]; exact cl.2.1) (fun f hf => by rw [ev, up2_of (show 6 ≠ 15 by omega)] at hf; rw [ev, up2_of (show 7 ≠ 15 by omega), up2_of (show 8 ≠ 15 by omega)]; exact (g.geo.fen hf).1)
    simp (disch := first | assumption | omega) only [e_224_84, e_224_85, e_224_86, e_224_87, e_224_88, e_224_89, e_224_90, e_224_91, e_224_92, e_224_93, e_224_94, e_224_95, e_224_96, e_224_97, e_224_98, e_224_99, e_224_100, e_224_101, e_224_102, e_224_103, e_224_104, e_224_105, e_224_106, e_224_107, e_224_108, e_224_109, e_224_110, e_224_111, onI_s, onR_s, onL_s, gl_0, gl_n, gl_1, gl_2, gl_3, gl_4, gl_5, gl_6, gl_7, gl_8, gl_9, gl_10, gl_11, gl_12, gl_13, gl_14, gl_15, gl_16, gl_17, sk0i, sk0r, sk0n, sk1i, sk1r, sk1n, sk_2, sk_3, sk_4, sk_5, sk_6, sk_7, sk_8, sk_9, sk_10, sk_11, sk_12, sk_13, sk_14, sk_15, sk_16, sk_17, ls_0, ls_1, ls_2, ls_3, ls_4, ls_5, ls_6, ls_7, ls_8, ls_9, ls_10, ls_11, ls_12, ls_13, ls_14, ls_15, ls_16, ls_17, ct1_i, ct1_r, wd8_0, wd8_i1, wd8_r1, wd8_i2, wd8_r2, wd8_i3, wd8_r3, wd8_i4, wd8_r4, wd8_i5, wd8_r5, wd8_i6, wd8_r6, wd8_i7, wd8_r7, wd8_i8, wd8_r8, wd8_l2, wd8_l3, wd8_l4, wd8_l5, wd8_l6, wd8_l7, wd8_l8, tl_s, tl_n, inR_t, bd_t, true_and, and_true, true_or, or_true, if_true_x, if_false_x, if_pos, if_neg, Int.toNat_natCast, natL, bI_0, bI_1, bI_ft, eq_self, b_tf, b_ft, not_true_eq_false, not_false_eq_true, m_158, m_152, m_221 hc g.rg hcc cl.2.1 (fun f hf => (g.geo.fen hf).2.2.1), m222, ey, hc.t70, hc.r70_4, hc.r70_5, hc.r70_6, hc.r70_7, hc.r70_8, hc.r70_10, hc.r70_11, hc.r70_12, hc.r70_14, hc.r70_15, hc.r70_16, hc.r70_17, hc.r70_19, hc.r70_21, hc.r70_23, hc.r70_24, hc.r70_26, hc.r70_27, hc.r70_28, hc.r70_29, hc.r70_30, hc.r70_31, hc.r70_32, hc.r70_33, hc.r70_36, hc.t73, hc.z73]
    have f1 := Fm.I73 (X := X) (h := h) (I := h.1) (F := h.2) (x := hdX (vm h) c ((stQ (vm h) c).2.1 / (stQ (vm h) c).1)) (j := (36 + 7 * (c : Int) + 3).toNat) (Fm.refl ok) (by omega) (by rw [hc.z73]; omega)
    have f2 := Fm.I73 (x := hdY (vm h) c ((stQ (vm h) c).2.2 / (stQ (vm h) c).1)) (j := (36 + 7 * (c : Int) + 4).toNat) f1 (by omega) (by rw [hc.z73]; omega)
    refine hq _ f2 (((M73.refl (h := h)).u (I := h.1) (F := h.2)).u) ?_
    rw [vm_uc (j := 16) (c := c) (by omega) hcc (by omega), ev]
  · rw [if_neg e] at hq
    simp (disch := first | assumption | omega) only [e_224_84, e_224_111, onI_s, onR_s, onL_s, gl_0, gl_n, gl_1, gl_2, gl_3, gl_4, gl_5, gl_6, gl_7, gl_8, gl_9, gl_10, gl_11, gl_12, gl_13, gl_14, gl_15, gl_16, gl_17, sk0i, sk0r, sk0n, sk1i, sk1r, sk1n, sk_2, sk_3, sk_4, sk_5, sk_6, sk_7, sk_8, sk_9, sk_10, sk_11, sk_12, sk_13, sk_14, sk_15, sk_16, sk_17, ls_0, ls_1, ls_2, ls_3, ls_4, ls_5, ls_6, ls_7, ls_8, ls_9, ls_10, ls_11, ls_12, ls_13, ls_14, ls_15, ls_16, ls_17, ct1_i, ct1_r, wd8_0, wd8_i1, wd8_r1, wd8_i2, wd8_r2, wd8_i3, wd8_r3, wd8_i4, wd8_r4, wd8_i5, wd8_r5, wd8_i6, wd8_r6, wd8_i7, wd8_r7, wd8_i8, wd8_r8, wd8_l2, wd8_l3, wd8_l4, wd8_l5, wd8_l6, wd8_l7, wd8_l8, tl_s, tl_n, inR_t, bd_t, true_and, and_true, true_or, or_true, if_true_x, if_false_x, if_pos, if_neg, Int.toNat_natCast, natL, bI_0, bI_1, bI_ft, eq_self, b_tf, b_ft, not_true_eq_false, not_false_eq_true]
    exact hq h (Fm.refl ok) M73.refl rfl
end STM
