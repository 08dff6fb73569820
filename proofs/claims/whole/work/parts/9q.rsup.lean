/-! BINS of the reference: supply, need -/
theorem sumF_z {f : Nat → Int} : ∀ (m i : Nat), (∀ k, i ≤ k → k < i + m → f k = 0) → sumF f m i = 0
  | 0, _, _ => rfl
  | m + 1, i, h => by rw [sumF, h i (by omega) (by omega), sumF_z m (i + 1) (fun k a b => h k (by omega) (by omega)), Int.add_zero]
theorem sumF_spl {f : Nat → Int} : ∀ (a b i : Nat), sumF f (a + b) i = sumF f a i + sumF f b (i + a)
  | 0, b, i => by rw [Nat.zero_add, sumF, Int.zero_add, Nat.add_zero]
  | a + 1, b, i => by rw [show a + 1 + b = (a + b) + 1 by omega, sumF, sumF_spl a b (i + 1), sumF, Int.add_assoc, show i + 1 + a = i + (a + 1) by omega]
/-- a sum that lives in a window -/
theorem sumF_win {f : Nat → Int} {R W a : Nat} (hz : ∀ r, r < R → ¬ (a ≤ r ∧ r < a + W) → f r = 0) : sumF f R 0 = sumF (fun r => if r < R then f r else 0) W a := by
  have e1 := sumF_spl (f := fun r => if r < R then f r else 0) R (a + W) 0
  have e2 := sumF_spl (f := fun r => if r < R then f r else 0) a (W + R) 0
  have e3 := sumF_spl (f := fun r => if r < R then f r else 0) W R (0 + a)
  rw [sumF_z (f := fun r => if r < R then f r else 0) (a + W) (0 + R) (fun k h1 h2 => if_neg (by omega)), sumF_cg (g := f) R 0 (fun k h1 h2 => if_pos (by omega)), Int.add_zero] at e1
  rw [sumF_z (f := fun r => if r < R then f r else 0) a 0 (fun k h1 h2 => by
    by_cases q : k < R
    · rw [if_pos q]; exact hz k q (by omega)
    · rw [if_neg q]), e3, sumF_z (f := fun r => if r < R then f r else 0) R (0 + a + W) (fun k h1 h2 => by
    by_cases q : k < R
    · rw [if_pos q]; exact hz k q (by omega)
    · rw [if_neg q])] at e2
  rw [show a + (W + R) = R + (a + W) by omega, e1] at e2
  rw [e2]
  simp
def sR (v : Nat → Nat → Int) (r s : Nat) : Int := if (r : Int) < v 0 0 ∧ (s : Int) < v 0 1 ∧ ¬ own v r s = -2 then 256 else 0
theorem sup_win {v : Nat → Nat → Int} (w : RGv v) (br bc : Nat) : sup v br bc = sumF (fun r => sumF (sR v r) 8 (8 * bc)) 2 (2 * br) := by
  have ws := w.sites
  have wr := w.rows
  unfold sup
  rw [sumF_win (f := fun r => sumF (sT v br bc r) (v 0 1).toNat 0) (R := (v 0 0).toNat) (W := 2) (a := 2 * br) (fun r _ h2 => sumF_z _ _ (fun k _ _ => by unfold sT; rw [if_neg (by omega)]))]
  refine sumF_cg 2 (2 * br) (fun r h1 h2 => ?_)
  by_cases e : r < (v 0 0).toNat
  · rw [if_pos e, sumF_win (f := sT v br bc r) (W := 8) (a := 8 * bc) (fun s _ h3 => by unfold sT; rw [if_neg (by omega)])]
    refine sumF_cg 8 (8 * bc) (fun s h3 h4 => ?_)
    unfold sT sR
    by_cases e2 : s < (v 0 1).toNat
    · rw [if_pos e2]
      exact ifc2 (by omega)
    · rw [if_neg e2, if_neg (by omega)]
  · rw [if_neg e]
    exact (sumF_z 8 (8 * bc) (fun k _ _ => by unfold sR; rw [if_neg (by omega)])).symm
theorem own_x {v : Nat → Nat → Int} (w : RGv v) {r s : Nat} : own v r s = -2 ↔ anyB (ovV v 2 r r s s) (v 1 0).toNat = true ∨ ¬ lst (ctB v r s (-1) 1) (v 11 0).toNat 0 (-1) = -1 := by
  have k : anyB (fxB v r s) (v 11 0).toNat = true ↔ ¬ lst (ctB v r s (-1) 1) (v 11 0).toNat 0 (-1) = -1 := by
    rw [lst_no, anyB_iff]
    have q : ∀ j : Nat, ctB v r s (-1) 1 j = fxB v r s j := fun j => by
      unfold ctB fxB
      have h1 : ¬ (j : Int) = -1 := by omega
      rcases w.fix j with e | e <;> simp [h1, e]
    constructor
    · rintro ⟨j, h1, h2⟩ hn
      have := hn j h1
      rw [q j, h2] at this
      cases this
    · intro hn
      refine Classical.byContradiction (fun hx => hn (fun j hj => ?_))
      rw [q j]
      cases e : fxB v r s j
      · rfl
      · exact absurd ⟨j, hj, e⟩ hx
  unfold own
  by_cases c : anyB (ovV v 2 r r s s) (v 1 0).toNat = true ∨ anyB (fxB v r s) (v 11 0).toNat = true
  · rw [if_pos c]
    rw [k] at c
    exact ⟨fun _ => c, fun _ => rfl⟩
  · rw [if_neg c]
    rw [k] at c
    refine ⟨fun h => ?_, fun h => absurd h c⟩
    rcases lst_spec (p := ovV v 7 r r s s) (v 6 0).toNat 0 (-1) with ⟨h1, _⟩ | ⟨j, _, _, _, h4, _⟩
    · omega
    · omega
theorem nd_div {b C : Nat} : ((b / C : Nat) : Int) = (b : Int) / (C : Int) := Int.natCast_ediv b C
section SUR
variable {X : xL} {Q : Option xV → xH → Prop} {ns nb ln : Nat} {h : xH}
theorem td_nn {b C : Nat} : (b : Int).tdiv (C : Int) = ((b / C : Nat) : Int) := by rw [td_n (by omega)]; rfl
theorem tm_nn {b C : Nat} : (b : Int).tmod (C : Int) = ((b % C : Nat) : Int) := by rw [tm_n (by omega)]; rfl
theorem m_211n (hc : CT X ns nb ln) (hw : RGv (vm h)) : Cl X 211 [vr 70] h Q ↔ Q (some (vi (nbC (vm h) : Nat))) h := by
  have ws := hw.sites
  rw [m_211 hc ⟨hw.rows, hw.sites⟩, td_n (by rw [vm_si] at ws; omega)]
  rw [show ((nbC (vm h) : Nat) : Int) = (h.2 70 3 + 7) / 8 by unfold nbC; rw [vm_si] at ws ⊢; omega]
theorem m_212n (hc : CT X ns nb ln) (hw : RGv (vm h)) : Cl X 212 [vr 70] h Q ↔ Q (some (vi (nbn (vm h) : Nat))) h := by
  have ws := hw.sites
  have wr := hw.rows
  rw [vm_si] at ws
  rw [vm_ro] at wr
  rw [m_212 hc ⟨hw.rows, hw.sites⟩, td_n (by omega), td_n (by omega)]
  rw [show ((nbn (vm h) : Nat) : Int) = (h.2 70 3 + 7) / 8 * ((h.2 70 2 + 1) / 2) by
    unfold nbn
    rw [Int.natCast_mul, Int.mul_comm, show ((nbC (vm h) : Nat) : Int) = (h.2 70 3 + 7) / 8 by unfold nbC; rw [vm_si]; omega, show ((nbT (vm h) : Nat) : Int) = (h.2 70 2 + 1) / 2 by unfold nbT; rw [vm_ro]; omega]]
set_option maxHeartbeats 4000000 in
theorem l_213i (hc : CT X ns nb ln) (hw : RGv (vm h)) (hb : RBm h) {b r : Nat} (b16 : b < 16) (r16 : r < 100) (C0 : (0 : Int) < (nbC (vm h) : Nat)) : ∀ (m s : Nat) (a : Int), s + m = 8 * (b % nbC (vm h)) + 8 → s < 500 → 0 ≤ a → a ≤ 8192 - 256 * m → (Ev X 213 26 [some (vr 70), some (vi b), some (vi a), some (vi r), some (vi s)] [] h Q ↔ Ev X 213 62 [some (vr 70), some (vi b), some (vi (a + sumF (sR (vm h) r) m s)), some (vi r), some (vi ((s + m : Nat) : Int))] [] h Q) := by
  have bc := Nat.mod_le b (nbC (vm h))
  intro m
  induction m with
  | zero =>
    intro s a hm s5 a0 a1
    rw [e_213_26]
    simp (disch := first | assumption | omega) only [e_213_27, e_213_28, e_213_29, e_213_30, e_213_31, e_213_32, e_213_33, e_213_34, e_213_35, onI_s, onR_s, onL_s, gl_0, gl_n, gl_1, gl_2, gl_3, gl_4, gl_5, gl_6, gl_7, gl_8, gl_9, gl_10, gl_11, gl_12, gl_13, gl_14, gl_15, gl_16, gl_17, sk0i, sk0r, sk0n, sk1i, sk1r, sk1n, sk_2, sk_3, sk_4, sk_5, sk_6, sk_7, sk_8, sk_9, sk_10, sk_11, sk_12, sk_13, sk_14, sk_15, sk_16, sk_17, ls_0, ls_1, ls_2, ls_3, ls_4, ls_5, ls_6, ls_7, ls_8, ls_9, ls_10, ls_11, ls_12, ls_13, ls_14, ls_15, ls_16, ls_17, ct1_i, ct1_r, wd8_0, wd8_i1, wd8_r1, wd8_i2, wd8_r2, wd8_i3, wd8_r3, wd8_i4, wd8_r4, wd8_i5, wd8_r5, wd8_i6, wd8_r6, wd8_i7, wd8_r7, wd8_i8, wd8_r8, wd8_l2, wd8_l3, wd8_l4, wd8_l5, wd8_l6, wd8_l7, wd8_l8, tl_s, tl_n, inR_t, bd_t, true_and, and_true, true_or, or_true, if_true_x, if_false_x, if_pos, if_neg, Int.toNat_natCast, natL, bI_0, bI_1, bI_ft, eq_self, b_tf, b_ft, not_true_eq_false, not_false_eq_true, m_211n hc hw, nzp C0, dvR, tm_nn, hc.t70, hc.r70_4, hc.r70_5, hc.r70_6, hc.r70_7, hc.r70_8, hc.r70_10, hc.r70_11, hc.r70_12, hc.r70_14, hc.r70_15, hc.r70_16, hc.r70_17, hc.r70_19, hc.r70_21, hc.r70_23, hc.r70_24, hc.r70_26, hc.r70_27, hc.r70_28, hc.r70_29, hc.r70_30, hc.r70_31, hc.r70_32, hc.r70_33, hc.r70_36]
    rw [sumF, Int.add_zero, Nat.add_zero]
  | succ m ih =>
    intro s a hm s5 a0 a1
    rw [e_213_26, sumF, show s + (m + 1) = s + 1 + m by omega, ← Int.add_assoc]
    by_cases i : (r : Int) < vm h 0 0 ∧ (s : Int) < vm h 0 1
    · have d : (decide (0 ≤ (r : Int)) && decide ((r : Int) < vm h 0 0) && decide (0 ≤ (s : Int)) && decide ((s : Int) < vm h 0 1)) = true := by simp [i.1, i.2]
      have ox := own_x hw (r := r) (s := s)
      by_cases e1 : anyB (ovV (vm h) 2 r r s s) (vm h 1 0).toNat = true
      · rw [show sR (vm h) r s = 0 by unfold sR; rw [if_neg (fun q => q.2.2 (ox.mpr (Or.inl e1)))], Int.add_zero, ← ih (s + 1) a (by omega) (by omega) a0 (by omega)]
        simp (disch := first | assumption | omega) only [e_213_27, e_213_28, e_213_29, e_213_30, e_213_31, e_213_32, e_213_33, e_213_34, e_213_35, e_213_36, e_213_37, e_213_38, e_213_39, e_213_40, e_213_41, e_213_42, e_213_43, e_213_44, e_213_45, e_213_46, e_213_57, e_213_58, e_213_59, e_213_60, e_213_61, onI_s, onR_s, onL_s, gl_0, gl_n, gl_1, gl_2, gl_3, gl_4, gl_5, gl_6, gl_7, gl_8, gl_9, gl_10, gl_11, gl_12, gl_13, gl_14, gl_15, gl_16, gl_17, sk0i, sk0r, sk0n, sk1i, sk1r, sk1n, sk_2, sk_3, sk_4, sk_5, sk_6, sk_7, sk_8, sk_9, sk_10, sk_11, sk_12, sk_13, sk_14, sk_15, sk_16, sk_17, ls_0, ls_1, ls_2, ls_3, ls_4, ls_5, ls_6, ls_7, ls_8, ls_9, ls_10, ls_11, ls_12, ls_13, ls_14, ls_15, ls_16, ls_17, ct1_i, ct1_r, wd8_0, wd8_i1, wd8_r1, wd8_i2, wd8_r2, wd8_i3, wd8_r3, wd8_i4, wd8_r4, wd8_i5, wd8_r5, wd8_i6, wd8_r6, wd8_i7, wd8_r7, wd8_i8, wd8_r8, wd8_l2, wd8_l3, wd8_l4, wd8_l5, wd8_l6, wd8_l7, wd8_l8, tl_s, tl_n, inR_t, bd_t, true_and, and_true, true_or, or_true, if_true_x, if_false_x, if_pos, if_neg, Int.toNat_natCast, natL, bI_0, bI_1, bI_ft, eq_self, b_tf, b_ft, not_true_eq_false, not_false_eq_true, m_211n hc hw, m_170 hc hw, m_171 hc hw hb (by omega) i.2, d, e1, nzp C0, dvR, tm_nn, Int.add_zero, cast_s, hc.t70, hc.r70_4, hc.r70_5, hc.r70_6, hc.r70_7, hc.r70_8, hc.r70_10, hc.r70_11, hc.r70_12, hc.r70_14, hc.r70_15, hc.r70_16, hc.r70_17, hc.r70_19, hc.r70_21, hc.r70_23, hc.r70_24, hc.r70_26, hc.r70_27, hc.r70_28, hc.r70_29, hc.r70_30, hc.r70_31, hc.r70_32, hc.r70_33, hc.r70_36]
      · have e1' : anyB (ovV (vm h) 2 r r s s) (vm h 1 0).toNat = false := by simpa using e1
        by_cases e2 : lst (ctB (vm h) r s (-1) 1) (vm h 11 0).toNat 0 (-1) = -1
        · rw [show sR (vm h) r s = 256 by unfold sR; rw [if_pos ⟨i.1, i.2, fun q => (ox.mp q).elim e1 (fun z => z e2)⟩], ← ih (s + 1) (a + 256) (by omega) (by omega) (by omega) (by omega)]
          simp (disch := first | assumption | omega) only [e_213_27, e_213_28, e_213_29, e_213_30, e_213_31, e_213_32, e_213_33, e_213_34, e_213_35, e_213_36, e_213_37, e_213_38, e_213_39, e_213_40, e_213_41, e_213_42, e_213_43, e_213_44, e_213_45, e_213_46, e_213_47, e_213_48, e_213_49, e_213_50, e_213_51, e_213_52, e_213_53, e_213_54, e_213_55, e_213_56, e_213_58, e_213_59, e_213_60, e_213_61, onI_s, onR_s, onL_s, gl_0, gl_n, gl_1, gl_2, gl_3, gl_4, gl_5, gl_6, gl_7, gl_8, gl_9, gl_10, gl_11, gl_12, gl_13, gl_14, gl_15, gl_16, gl_17, sk0i, sk0r, sk0n, sk1i, sk1r, sk1n, sk_2, sk_3, sk_4, sk_5, sk_6, sk_7, sk_8, sk_9, sk_10, sk_11, sk_12, sk_13, sk_14, sk_15, sk_16, sk_17, ls_0, ls_1, ls_2, ls_3, ls_4, ls_5, ls_6, ls_7, ls_8, ls_9, ls_10, ls_11, ls_12, ls_13, ls_14, ls_15, ls_16, ls_17, ct1_i, ct1_r, wd8_0, wd8_i1, wd8_r1, wd8_i2, wd8_r2, wd8_i3, wd8_r3, wd8_i4, wd8_r4, wd8_i5, wd8_r5, wd8_i6, wd8_r6, wd8_i7, wd8_r7, wd8_i8, wd8_r8, wd8_l2, wd8_l3, wd8_l4, wd8_l5, wd8_l6, wd8_l7, wd8_l8, tl_s, tl_n, inR_t, bd_t, true_and, and_true, true_or, or_true, if_true_x, if_false_x, if_pos, if_neg, Int.toNat_natCast, natL, bI_0, bI_1, bI_ft, eq_self, b_tf, b_ft, not_true_eq_false, not_false_eq_true, m_211n hc hw, m_170 hc hw, m_171 hc hw hb (by omega) i.2, m_175 hc hw, d, e1', e2, nzp C0, dvR, tm_nn, cast_s, hc.t70, hc.r70_4, hc.r70_5, hc.r70_6, hc.r70_7, hc.r70_8, hc.r70_10, hc.r70_11, hc.r70_12, hc.r70_14, hc.r70_15, hc.r70_16, hc.r70_17, hc.r70_19, hc.r70_21, hc.r70_23, hc.r70_24, hc.r70_26, hc.r70_27, hc.r70_28, hc.r70_29, hc.r70_30, hc.r70_31, hc.r70_32, hc.r70_33, hc.r70_36]
        · rw [show sR (vm h) r s = 0 by unfold sR; rw [if_neg (fun q => q.2.2 (ox.mpr (Or.inr e2)))], Int.add_zero, ← ih (s + 1) a (by omega) (by omega) a0 (by omega)]
          simp (disch := first | assumption | omega) only [e_213_27, e_213_28, e_213_29, e_213_30, e_213_31, e_213_32, e_213_33, e_213_34, e_213_35, e_213_36, e_213_37, e_213_38, e_213_39, e_213_40, e_213_41, e_213_42, e_213_43, e_213_44, e_213_45, e_213_46, e_213_47, e_213_48, e_213_49, e_213_50, e_213_51, e_213_52, e_213_53, e_213_54, e_213_57, e_213_58, e_213_59, e_213_60, e_213_61, onI_s, onR_s, onL_s, gl_0, gl_n, gl_1, gl_2, gl_3, gl_4, gl_5, gl_6, gl_7, gl_8, gl_9, gl_10, gl_11, gl_12, gl_13, gl_14, gl_15, gl_16, gl_17, sk0i, sk0r, sk0n, sk1i, sk1r, sk1n, sk_2, sk_3, sk_4, sk_5, sk_6, sk_7, sk_8, sk_9, sk_10, sk_11, sk_12, sk_13, sk_14, sk_15, sk_16, sk_17, ls_0, ls_1, ls_2, ls_3, ls_4, ls_5, ls_6, ls_7, ls_8, ls_9, ls_10, ls_11, ls_12, ls_13, ls_14, ls_15, ls_16, ls_17, ct1_i, ct1_r, wd8_0, wd8_i1, wd8_r1, wd8_i2, wd8_r2, wd8_i3, wd8_r3, wd8_i4, wd8_r4, wd8_i5, wd8_r5, wd8_i6, wd8_r6, wd8_i7, wd8_r7, wd8_i8, wd8_r8, wd8_l2, wd8_l3, wd8_l4, wd8_l5, wd8_l6, wd8_l7, wd8_l8, tl_s, tl_n, inR_t, bd_t, true_and, and_true, true_or, or_true, if_true_x, if_false_x, if_pos, if_neg, Int.toNat_natCast, natL, bI_0, bI_1, bI_ft, eq_self, b_tf, b_ft, not_true_eq_false, not_false_eq_true, m_211n hc hw, m_170 hc hw, m_171 hc hw hb (by omega) i.2, m_175 hc hw, d, e1', e2, nzp C0, dvR, tm_nn, Int.add_zero, cast_s, hc.t70, hc.r70_4, hc.r70_5, hc.r70_6, hc.r70_7, hc.r70_8, hc.r70_10, hc.r70_11, hc.r70_12, hc.r70_14, hc.r70_15, hc.r70_16, hc.r70_17, hc.r70_19, hc.r70_21, hc.r70_23, hc.r70_24, hc.r70_26, hc.r70_27, hc.r70_28, hc.r70_29, hc.r70_30, hc.r70_31, hc.r70_32, hc.r70_33, hc.r70_36]
    · have d : (decide (0 ≤ (r : Int)) && decide ((r : Int) < vm h 0 0) && decide (0 ≤ (s : Int)) && decide ((s : Int) < vm h 0 1)) = false := by
        rw [Bool.eq_false_iff]
        intro q
        simp at q
        exact i ⟨q.1, q.2⟩
      rw [show sR (vm h) r s = 0 by unfold sR; rw [if_neg (by omega)], Int.add_zero, ← ih (s + 1) a (by omega) (by omega) a0 (by omega)]
      simp (disch := first | assumption | omega) only [e_213_27, e_213_28, e_213_29, e_213_30, e_213_31, e_213_32, e_213_33, e_213_34, e_213_35, e_213_36, e_213_37, e_213_38, e_213_39, e_213_40, e_213_41, e_213_57, e_213_58, e_213_59, e_213_60, e_213_61, onI_s, onR_s, onL_s, gl_0, gl_n, gl_1, gl_2, gl_3, gl_4, gl_5, gl_6, gl_7, gl_8, gl_9, gl_10, gl_11, gl_12, gl_13, gl_14, gl_15, gl_16, gl_17, sk0i, sk0r, sk0n, sk1i, sk1r, sk1n, sk_2, sk_3, sk_4, sk_5, sk_6, sk_7, sk_8, sk_9, sk_10, sk_11, sk_12, sk_13, sk_14, sk_15, sk_16, sk_17, ls_0, ls_1, ls_2, ls_3, ls_4, ls_5, ls_6, ls_7, ls_8, ls_9, ls_10, ls_11, ls_12, ls_13, ls_14, ls_15, ls_16, ls_17, ct1_i, ct1_r, wd8_0, wd8_i1, wd8_r1, wd8_i2, wd8_r2, wd8_i3, wd8_r3, wd8_i4, wd8_r4, wd8_i5, wd8_r5, wd8_i6, wd8_r6, wd8_i7, wd8_r7, wd8_i8, wd8_r8, wd8_l2, wd8_l3, wd8_l4, wd8_l5, wd8_l6, wd8_l7, wd8_l8, tl_s, tl_n, inR_t, bd_t, true_and, and_true, true_or, or_true, if_true_x, if_false_x, if_pos, if_neg, Int.toNat_natCast, natL, bI_0, bI_1, bI_ft, eq_self, b_tf, b_ft, not_true_eq_false, not_false_eq_true, m_211n hc hw, m_170 hc hw, d, nzp C0, dvR, tm_nn, Int.add_zero, cast_s, hc.t70, hc.r70_4, hc.r70_5, hc.r70_6, hc.r70_7, hc.r70_8, hc.r70_10, hc.r70_11, hc.r70_12, hc.r70_14, hc.r70_15, hc.r70_16, hc.r70_17, hc.r70_19, hc.r70_21, hc.r70_23, hc.r70_24, hc.r70_26, hc.r70_27, hc.r70_28, hc.r70_29, hc.r70_30, hc.r70_31, hc.r70_32, hc.r70_33, hc.r70_36]
theorem sR_bd {v : Nat → Nat → Int} (r m s : Nat) : 0 ≤ sumF (sR v r) m s ∧ sumF (sR v r) m s ≤ m * 256 := sumF_bd (by decide) m s (fun j _ _ => by unfold sR; split <;> omega)
set_option maxHeartbeats 4000000 in
theorem m_213 (hc : CT X ns nb ln) (hw : RGv (vm h)) (hb : RBm h) {b : Nat} (b16 : b < 16) : Cl X 213 [vr 70, vi b] h Q ↔ Q (some (vi (sup (vm h) (b / nbC (vm h)) (b % nbC (vm h))))) h := by
  have nb := nb_b hw
  have C0 : (0 : Int) < (nbC (vm h) : Nat) := by omega
  have bc := Nat.mod_le b (nbC (vm h))
  have bd := Nat.div_le_self b (nbC (vm h))
  have s1 := sR_bd (v := vm h) (2 * (b / nbC (vm h))) 8 (8 * (b % nbC (vm h)))
  have s2 := sR_bd (v := vm h) (2 * (b / nbC (vm h)) + 1) 8 (8 * (b % nbC (vm h)))
  have c1 : ((b / nbC (vm h) : Nat) : Int) * 2 = ((2 * (b / nbC (vm h)) : Nat) : Int) := by omega
  have c2 : ((b % nbC (vm h) : Nat) : Int) * 8 = ((8 * (b % nbC (vm h)) : Nat) : Int) := by omega
  have es : sup (vm h) (b / nbC (vm h)) (b % nbC (vm h)) = sumF (sR (vm h) (2 * (b / nbC (vm h)))) 8 (8 * (b % nbC (vm h))) + sumF (sR (vm h) (2 * (b / nbC (vm h)) + 1)) 8 (8 * (b % nbC (vm h))) := by
    rw [sup_win hw]
    show _ + (_ + 0) = _
    rw [Int.add_zero]
  rw [es, c_213]
  simp (disch := first | assumption | omega) only [e_213_0, e_213_1, e_213_2, e_213_3, e_213_4, e_213_5, e_213_6, e_213_7, e_213_8, onI_s, onR_s, onL_s, gl_0, gl_n, gl_1, gl_2, gl_3, gl_4, gl_5, gl_6, gl_7, gl_8, gl_9, gl_10, gl_11, gl_12, gl_13, gl_14, gl_15, gl_16, gl_17, sk0i, sk0r, sk0n, sk1i, sk1r, sk1n, sk_2, sk_3, sk_4, sk_5, sk_6, sk_7, sk_8, sk_9, sk_10, sk_11, sk_12, sk_13, sk_14, sk_15, sk_16, sk_17, ls_0, ls_1, ls_2, ls_3, ls_4, ls_5, ls_6, ls_7, ls_8, ls_9, ls_10, ls_11, ls_12, ls_13, ls_14, ls_15, ls_16, ls_17, ct1_i, ct1_r, wd8_0, wd8_i1, wd8_r1, wd8_i2, wd8_r2, wd8_i3, wd8_r3, wd8_i4, wd8_r4, wd8_i5, wd8_r5, wd8_i6, wd8_r6, wd8_i7, wd8_r7, wd8_i8, wd8_r8, wd8_l2, wd8_l3, wd8_l4, wd8_l5, wd8_l6, wd8_l7, wd8_l8, tl_s, tl_n, inR_t, bd_t, true_and, and_true, true_or, or_true, if_true_x, if_false_x, if_pos, if_neg, Int.toNat_natCast, natL, bI_0, bI_1, bI_ft, eq_self, b_tf, b_ft, not_true_eq_false, not_false_eq_true, m_211n hc hw, nzp C0, dvR, td_nn, c1, hc.t70, hc.r70_4, hc.r70_5, hc.r70_6, hc.r70_7, hc.r70_8, hc.r70_10, hc.r70_11, hc.r70_12, hc.r70_14, hc.r70_15, hc.r70_16, hc.r70_17, hc.r70_19, hc.r70_21, hc.r70_23, hc.r70_24, hc.r70_26, hc.r70_27, hc.r70_28, hc.r70_29, hc.r70_30, hc.r70_31, hc.r70_32, hc.r70_33, hc.r70_36]
  rw [e_213_9]
  simp (disch := first | assumption | omega) only [e_213_10, e_213_11, e_213_12, e_213_13, e_213_14, e_213_15, e_213_16, e_213_17, e_213_18, e_213_19, e_213_20, e_213_21, e_213_22, e_213_23, e_213_24, e_213_25, onI_s, onR_s, onL_s, gl_0, gl_n, gl_1, gl_2, gl_3, gl_4, gl_5, gl_6, gl_7, gl_8, gl_9, gl_10, gl_11, gl_12, gl_13, gl_14, gl_15, gl_16, gl_17, sk0i, sk0r, sk0n, sk1i, sk1r, sk1n, sk_2, sk_3, sk_4, sk_5, sk_6, sk_7, sk_8, sk_9, sk_10, sk_11, sk_12, sk_13, sk_14, sk_15, sk_16, sk_17, ls_0, ls_1, ls_2, ls_3, ls_4, ls_5, ls_6, ls_7, ls_8, ls_9, ls_10, ls_11, ls_12, ls_13, ls_14, ls_15, ls_16, ls_17, ct1_i, ct1_r, wd8_0, wd8_i1, wd8_r1, wd8_i2, wd8_r2, wd8_i3, wd8_r3, wd8_i4, wd8_r4, wd8_i5, wd8_r5, wd8_i6, wd8_r6, wd8_i7, wd8_r7, wd8_i8, wd8_r8, wd8_l2, wd8_l3, wd8_l4, wd8_l5, wd8_l6, wd8_l7, wd8_l8, tl_s, tl_n, inR_t, bd_t, true_and, and_true, true_or, or_true, if_true_x, if_false_x, if_pos, if_neg, Int.toNat_natCast, natL, bI_0, bI_1, bI_ft, eq_self, b_tf, b_ft, not_true_eq_false, not_false_eq_true, m_211n hc hw, nzp C0, dvR, td_nn, tm_nn, c1, c2, hc.t70, hc.r70_4, hc.r70_5, hc.r70_6, hc.r70_7, hc.r70_8, hc.r70_10, hc.r70_11, hc.r70_12, hc.r70_14, hc.r70_15, hc.r70_16, hc.r70_17, hc.r70_19, hc.r70_21, hc.r70_23, hc.r70_24, hc.r70_26, hc.r70_27, hc.r70_28, hc.r70_29, hc.r70_30, hc.r70_31, hc.r70_32, hc.r70_33, hc.r70_36]
  rw [l_213i hc hw hb b16 (by omega) C0 8 (8 * (b % nbC (vm h))) 0 (by omega) (by omega) (by omega) (by omega), e_213_62, Int.zero_add]
  simp (disch := first | assumption | omega) only [e_213_63, onI_s, onR_s, onL_s, gl_0, gl_n, gl_1, gl_2, gl_3, gl_4, gl_5, gl_6, gl_7, gl_8, gl_9, gl_10, gl_11, gl_12, gl_13, gl_14, gl_15, gl_16, gl_17, sk0i, sk0r, sk0n, sk1i, sk1r, sk1n, sk_2, sk_3, sk_4, sk_5, sk_6, sk_7, sk_8, sk_9, sk_10, sk_11, sk_12, sk_13, sk_14, sk_15, sk_16, sk_17, ls_0, ls_1, ls_2, ls_3, ls_4, ls_5, ls_6, ls_7, ls_8, ls_9, ls_10, ls_11, ls_12, ls_13, ls_14, ls_15, ls_16, ls_17, ct1_i, ct1_r, wd8_0, wd8_i1, wd8_r1, wd8_i2, wd8_r2, wd8_i3, wd8_r3, wd8_i4, wd8_r4, wd8_i5, wd8_r5, wd8_i6, wd8_r6, wd8_i7, wd8_r7, wd8_i8, wd8_r8, wd8_l2, wd8_l3, wd8_l4, wd8_l5, wd8_l6, wd8_l7, wd8_l8, tl_s, tl_n, inR_t, bd_t, true_and, and_true, true_or, or_true, if_true_x, if_false_x, if_pos, if_neg, Int.toNat_natCast, natL, bI_0, bI_1, bI_ft, eq_self, b_tf, b_ft, not_true_eq_false, not_false_eq_true, cast_s]
  rw [e_213_9]
  simp (disch := first | assumption | omega) only [e_213_10, e_213_11, e_213_12, e_213_13, e_213_14, e_213_15, e_213_16, e_213_17, e_213_18, e_213_19, e_213_20, e_213_21, e_213_22, e_213_23, e_213_24, e_213_25, onI_s, onR_s, onL_s, gl_0, gl_n, gl_1, gl_2, gl_3, gl_4, gl_5, gl_6, gl_7, gl_8, gl_9, gl_10, gl_11, gl_12, gl_13, gl_14, gl_15, gl_16, gl_17, sk0i, sk0r, sk0n, sk1i, sk1r, sk1n, sk_2, sk_3, sk_4, sk_5, sk_6, sk_7, sk_8, sk_9, sk_10, sk_11, sk_12, sk_13, sk_14, sk_15, sk_16, sk_17, ls_0, ls_1, ls_2, ls_3, ls_4, ls_5, ls_6, ls_7, ls_8, ls_9, ls_10, ls_11, ls_12, ls_13, ls_14, ls_15, ls_16, ls_17, ct1_i, ct1_r, wd8_0, wd8_i1, wd8_r1, wd8_i2, wd8_r2, wd8_i3, wd8_r3, wd8_i4, wd8_r4, wd8_i5, wd8_r5, wd8_i6, wd8_r6, wd8_i7, wd8_r7, wd8_i8, wd8_r8, wd8_l2, wd8_l3, wd8_l4, wd8_l5, wd8_l6, wd8_l7, wd8_l8, tl_s, tl_n, inR_t, bd_t, true_and, and_true, true_or, or_true, if_true_x, if_false_x, if_pos, if_neg, Int.toNat_natCast, natL, bI_0, bI_1, bI_ft, eq_self, b_tf, b_ft, not_true_eq_false, not_false_eq_true, m_211n hc hw, nzp C0, dvR, td_nn, tm_nn, c1, c2, hc.t70, hc.r70_4, hc.r70_5, hc.r70_6, hc.r70_7, hc.r70_8, hc.r70_10, hc.r70_11, hc.r70_12, hc.r70_14, hc.r70_15, hc.r70_16, hc.r70_17, hc.r70_19, hc.r70_21, hc.r70_23, hc.r70_24, hc.r70_26, hc.r70_27, hc.r70_28, hc.r70_29, hc.r70_30, hc.r70_31, hc.r70_32, hc.r70_33, hc.r70_36]
  rw [l_213i hc hw hb b16 (by omega) C0 8 (8 * (b % nbC (vm h))) _ (by omega) (by omega) (by omega) (by omega), e_213_62]
  simp (disch := first | assumption | omega) only [e_213_63, onI_s, onR_s, onL_s, gl_0, gl_n, gl_1, gl_2, gl_3, gl_4, gl_5, gl_6, gl_7, gl_8, gl_9, gl_10, gl_11, gl_12, gl_13, gl_14, gl_15, gl_16, gl_17, sk0i, sk0r, sk0n, sk1i, sk1r, sk1n, sk_2, sk_3, sk_4, sk_5, sk_6, sk_7, sk_8, sk_9, sk_10, sk_11, sk_12, sk_13, sk_14, sk_15, sk_16, sk_17, ls_0, ls_1, ls_2, ls_3, ls_4, ls_5, ls_6, ls_7, ls_8, ls_9, ls_10, ls_11, ls_12, ls_13, ls_14, ls_15, ls_16, ls_17, ct1_i, ct1_r, wd8_0, wd8_i1, wd8_r1, wd8_i2, wd8_r2, wd8_i3, wd8_r3, wd8_i4, wd8_r4, wd8_i5, wd8_r5, wd8_i6, wd8_r6, wd8_i7, wd8_r7, wd8_i8, wd8_r8, wd8_l2, wd8_l3, wd8_l4, wd8_l5, wd8_l6, wd8_l7, wd8_l8, tl_s, tl_n, inR_t, bd_t, true_and, and_true, true_or, or_true, if_true_x, if_false_x, if_pos, if_neg, Int.toNat_natCast, natL, bI_0, bI_1, bI_ft, eq_self, b_tf, b_ft, not_true_eq_false, not_false_eq_true, cast_s]
  rw [e_213_9]
  simp (disch := first | assumption | omega) only [e_213_10, e_213_11, e_213_12, e_213_13, e_213_14, e_213_15, e_213_16, e_213_17, e_213_18, e_213_64, e_213_65, onI_s, onR_s, onL_s, gl_0, gl_n, gl_1, gl_2, gl_3, gl_4, gl_5, gl_6, gl_7, gl_8, gl_9, gl_10, gl_11, gl_12, gl_13, gl_14, gl_15, gl_16, gl_17, sk0i, sk0r, sk0n, sk1i, sk1r, sk1n, sk_2, sk_3, sk_4, sk_5, sk_6, sk_7, sk_8, sk_9, sk_10, sk_11, sk_12, sk_13, sk_14, sk_15, sk_16, sk_17, ls_0, ls_1, ls_2, ls_3, ls_4, ls_5, ls_6, ls_7, ls_8, ls_9, ls_10, ls_11, ls_12, ls_13, ls_14, ls_15, ls_16, ls_17, ct1_i, ct1_r, wd8_0, wd8_i1, wd8_r1, wd8_i2, wd8_r2, wd8_i3, wd8_r3, wd8_i4, wd8_r4, wd8_i5, wd8_r5, wd8_i6, wd8_r6, wd8_i7, wd8_r7, wd8_i8, wd8_r8, wd8_l2, wd8_l3, wd8_l4, wd8_l5, wd8_l6, wd8_l7, wd8_l8, tl_s, tl_n, inR_t, bd_t, true_and, and_true, true_or, or_true, if_true_x, if_false_x, if_pos, if_neg, Int.toNat_natCast, natL, bI_0, bI_1, bI_ft, eq_self, b_tf, b_ft, not_true_eq_false, not_false_eq_true, m_211n hc hw, nzp C0, dvR, td_nn, tm_nn, c1, c2, hc.t70, hc.r70_4, hc.r70_5, hc.r70_6, hc.r70_7, hc.r70_8, hc.r70_10, hc.r70_11, hc.r70_12, hc.r70_14, hc.r70_15, hc.r70_16, hc.r70_17, hc.r70_19, hc.r70_21, hc.r70_23, hc.r70_24, hc.r70_26, hc.r70_27, hc.r70_28, hc.r70_29, hc.r70_30, hc.r70_31, hc.r70_32, hc.r70_33, hc.r70_36]
end SUR
