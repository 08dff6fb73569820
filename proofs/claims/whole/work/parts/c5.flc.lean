/-! FILLERS of the class -/
theorem fgL_ge {v : Nat → Nat → Int} {w : Int} {e : Nat} : ∀ (L : List Nat) (fr : Nat), 0 ≤ fgL v w e L fr
  | [], fr => by rw [fgL]; exact fG_bd.1
  | c :: L, fr => by
    have := fgL_ge (v := v) (w := w) (e := e) L (v 18 c + v 12 c).toNat
    have := (fG_bd (w := w) (gap := (v 18 c).toNat - fr)).1
    rw [fgL]
    omega
theorem ly_pw {v : Nat → Nat → Int} (g : GEO v) {r a n : Nat} : (lyL v r n a).Pairwise (fun x y => v 18 x + v 12 x ≤ v 18 y) := by
  refine List.Pairwise.imp_of_mem (fun {x y} hx hy q => ?_) (ly_srt g n a)
  have m1 := (ly_mem g n a).mp hx
  have m2 := (ly_mem g n a).mp hy
  have := g.dis (c := x) (d := y) m1.1 m2.1 (fun e => by rw [e] at q; omega) (by omega) (by omega)
  have := (g.cel m2.1).1
  omega
theorem ly_in {v : Nat → Nat → Int} (g : GEO v) (w : RGv v) {r a n : Nat} {f : Int} (f1 : -1 ≤ f) (hr : gdR (fun s => decide (own v r s = f)) (v 0 1).toNat (a, n)) : ∀ x, x ∈ lyL v r n a → (a : Int) ≤ v 18 x ∧ v 18 x + v 12 x ≤ ((a + n : Nat) : Int) := fun x hx => by
  have m1 := (ly_mem g n a).mp hx
  have q := in_run2 g f1 w hr m1.1 m1.2.1 m1.2.2.1 m1.2.2.2
  have := in_run g w hr m1.1 q.1 q.2
  omega
section FLC
variable {X : xL} {Q : Option xV → xH → Prop} {ns nb ln : Nat} {h : xH}
set_option maxHeartbeats 2000000 in
theorem m_148 {w : Int} {gap : Nat} (g1 : gap ≤ 1000) : Cl X 148 [vi gap, vi w] h Q ↔ Q (some (vi (fG w gap))) h := by
  have d1 : (gap : Int).tdiv 4 = ((gap / 4 : Nat) : Int) := by rw [td_n (by omega)]; omega
  have d2 : (gap : Int).tmod 4 = ((gap % 4 : Nat) : Int) := by rw [tm_n (by omega)]; omega
  have d3 : (gap : Int).tmod 2 = ((gap % 2 : Nat) : Int) := by rw [tm_n (by omega)]; omega
  have d4 : ((gap % 4 : Nat) : Int).tdiv 2 = ((gap % 4 / 2 : Nat) : Int) := by rw [td_n (by omega)]; omega
  have d5 : (gap : Int).tdiv 2 = ((gap / 2 : Nat) : Int) := by rw [td_n (by omega)]; omega
  unfold fG
  rw [c_148]
  by_cases e1 : w = 4
  · rw [if_pos e1]
    simp (disch := first | assumption | omega) only [e_148_0, e_148_1, e_148_2, e_148_3, e_148_4, e_148_5, e_148_6, onI_s, onR_s, onL_s, gl_0, gl_n, gl_1, gl_2, gl_3, gl_4, gl_5, gl_6, gl_7, gl_8, gl_9, gl_10, gl_11, gl_12, gl_13, gl_14, gl_15, gl_16, gl_17, sk0i, sk0r, sk0n, sk1i, sk1r, sk1n, sk_2, sk_3, sk_4, sk_5, sk_6, sk_7, sk_8, sk_9, sk_10, sk_11, sk_12, sk_13, sk_14, sk_15, sk_16, sk_17, ls_0, ls_1, ls_2, ls_3, ls_4, ls_5, ls_6, ls_7, ls_8, ls_9, ls_10, ls_11, ls_12, ls_13, ls_14, ls_15, ls_16, ls_17, ct1_i, ct1_r, wd8_0, wd8_i1, wd8_r1, wd8_i2, wd8_r2, wd8_i3, wd8_r3, wd8_i4, wd8_r4, wd8_i5, wd8_r5, wd8_i6, wd8_r6, wd8_i7, wd8_r7, wd8_i8, wd8_r8, wd8_l2, wd8_l3, wd8_l4, wd8_l5, wd8_l6, wd8_l7, wd8_l8, tl_s, tl_n, inR_t, bd_t, true_and, and_true, true_or, or_true, if_true_x, if_false_x, if_pos, if_neg, Int.toNat_natCast, natL, bI_0, bI_1, bI_ft, eq_self, b_tf, b_ft, not_true_eq_false, not_false_eq_true, e1, dv_t, dvR, nz_4, d1]
  · rw [if_neg e1]
    by_cases e2 : w = 2
    · rw [if_pos e2]
      subst e2
      simp (disch := first | assumption | omega) only [e_148_0, e_148_1, e_148_2, e_148_7, e_148_8, e_148_9, e_148_10, e_148_11, e_148_12, e_148_13, e_148_14, e_148_15, e_148_19, onI_s, onR_s, onL_s, gl_0, gl_n, gl_1, gl_2, gl_3, gl_4, gl_5, gl_6, gl_7, gl_8, gl_9, gl_10, gl_11, gl_12, gl_13, gl_14, gl_15, gl_16, gl_17, sk0i, sk0r, sk0n, sk1i, sk1r, sk1n, sk_2, sk_3, sk_4, sk_5, sk_6, sk_7, sk_8, sk_9, sk_10, sk_11, sk_12, sk_13, sk_14, sk_15, sk_16, sk_17, ls_0, ls_1, ls_2, ls_3, ls_4, ls_5, ls_6, ls_7, ls_8, ls_9, ls_10, ls_11, ls_12, ls_13, ls_14, ls_15, ls_16, ls_17, ct1_i, ct1_r, wd8_0, wd8_i1, wd8_r1, wd8_i2, wd8_r2, wd8_i3, wd8_r3, wd8_i4, wd8_r4, wd8_i5, wd8_r5, wd8_i6, wd8_r6, wd8_i7, wd8_r7, wd8_i8, wd8_r8, wd8_l2, wd8_l3, wd8_l4, wd8_l5, wd8_l6, wd8_l7, wd8_l8, tl_s, tl_n, inR_t, bd_t, true_and, and_true, true_or, or_true, if_true_x, if_false_x, if_pos, if_neg, Int.toNat_natCast, natL, bI_0, bI_1, bI_ft, eq_self, b_tf, b_ft, not_true_eq_false, not_false_eq_true, e1, dv_t, dvR, nz_4, nz_2, d1, d2, d4, show ¬ (2 : Int) = 4 by decide]
    · rw [if_neg e2]
      simp (disch := first | assumption | omega) only [e_148_0, e_148_1, e_148_2, e_148_7, e_148_8, e_148_9, e_148_16, e_148_17, e_148_18, e_148_19, onI_s, onR_s, onL_s, gl_0, gl_n, gl_1, gl_2, gl_3, gl_4, gl_5, gl_6, gl_7, gl_8, gl_9, gl_10, gl_11, gl_12, gl_13, gl_14, gl_15, gl_16, gl_17, sk0i, sk0r, sk0n, sk1i, sk1r, sk1n, sk_2, sk_3, sk_4, sk_5, sk_6, sk_7, sk_8, sk_9, sk_10, sk_11, sk_12, sk_13, sk_14, sk_15, sk_16, sk_17, ls_0, ls_1, ls_2, ls_3, ls_4, ls_5, ls_6, ls_7, ls_8, ls_9, ls_10, ls_11, ls_12, ls_13, ls_14, ls_15, ls_16, ls_17, ct1_i, ct1_r, wd8_0, wd8_i1, wd8_r1, wd8_i2, wd8_r2, wd8_i3, wd8_r3, wd8_i4, wd8_r4, wd8_i5, wd8_r5, wd8_i6, wd8_r6, wd8_i7, wd8_r7, wd8_i8, wd8_r8, wd8_l2, wd8_l3, wd8_l4, wd8_l5, wd8_l6, wd8_l7, wd8_l8, tl_s, tl_n, inR_t, bd_t, true_and, and_true, true_or, or_true, if_true_x, if_false_x, if_pos, if_neg, Int.toNat_natCast, natL, bI_0, bI_1, bI_ft, eq_self, b_tf, b_ft, not_true_eq_false, not_false_eq_true, e1, e2, dv_t, dvR, nz_2, d3, d5]
set_option maxHeartbeats 8000000 in
theorem l_135i (hp : PL X 200) (hc : CT X ns nb ln) {v : Nat → Nat → Int} (ev : cv h 200 = v) (w : RGv v) {ww : Int} {e run : Nat} {L : List Nat} (L20 : L.length ≤ 20) (hL : R1 (h.1 13) L) (cL : ∀ c, c ∈ L → c < 20) (e32 : e ≤ 32) : ∀ (M : List Nat) (k fr : Nat) (fl : Int) (x7 : Option xV), L.drop k = M → k + M.length = L.length → M.Pairwise (fun x y => v 18 x + v 12 x ≤ v 18 y) → (∀ x, x ∈ M → (fr : Int) ≤ v 18 x ∧ v 18 x + v 12 x ≤ e) → fr ≤ e → 0 ≤ fl → fl + fgL v ww e M fr ≤ 100000 → (∀ (fl2 : Int) (fr2 : Nat) x6 x7, 0 ≤ fl2 → fr2 ≤ e → fl2 + fG ww (e - fr2) = fl + fgL v ww e M fr → Ev X 135 86 [some (vr 0), some (vi ww), some (vi fl2), some (vi run), some (vi L.length), some (vi fr2), x6, x7] [] h Q) → Ev X 135 48 [some (vr 0), some (vi ww), some (vi fl), some (vi run), some (vi L.length), some (vi fr), some (vi k), x7] [] h Q := by
  intro M
  induction M with
  | nil =>
    intro k fr fl x7 hd hk hpw hin hfr hf0 hft hq
    simp at hk
    rw [e_135_48]
    simp (disch := first | assumption | omega) only [e_135_49, e_135_50, onI_s, onR_s, onL_s, gl_0, gl_n, gl_1, gl_2, gl_3, gl_4, gl_5, gl_6, gl_7, gl_8, gl_9, gl_10, gl_11, gl_12, gl_13, gl_14, gl_15, gl_16, gl_17, sk0i, sk0r, sk0n, sk1i, sk1r, sk1n, sk_2, sk_3, sk_4, sk_5, sk_6, sk_7, sk_8, sk_9, sk_10, sk_11, sk_12, sk_13, sk_14, sk_15, sk_16, sk_17, ls_0, ls_1, ls_2, ls_3, ls_4, ls_5, ls_6, ls_7, ls_8, ls_9, ls_10, ls_11, ls_12, ls_13, ls_14, ls_15, ls_16, ls_17, ct1_i, ct1_r, wd8_0, wd8_i1, wd8_r1, wd8_i2, wd8_r2, wd8_i3, wd8_r3, wd8_i4, wd8_r4, wd8_i5, wd8_r5, wd8_i6, wd8_r6, wd8_i7, wd8_r7, wd8_i8, wd8_r8, wd8_l2, wd8_l3, wd8_l4, wd8_l5, wd8_l6, wd8_l7, wd8_l8, tl_s, tl_n, inR_t, bd_t, true_and, and_true, true_or, or_true, if_true_x, if_false_x, if_pos, if_neg, Int.toNat_natCast, natL, bI_0, bI_1, bI_ft, eq_self, b_tf, b_ft, not_true_eq_false, not_false_eq_true]
    exact hq fl fr _ _ hf0 hfr (by rw [fgL])
  | cons c M ih =>
    intro k fr fl x7 hd hk hpw hin hfr hf0 hft hq
    rw [List.length_cons] at hk
    have hx : L[k]? = some c := by
      have := List.getElem?_drop (xs := L) (i := k) (j := 0)
      rw [hd] at this
      simpa using this.symm
    have hd2 : L.drop (k + 1) = M := by
      rw [← List.drop_drop, hd]
      rfl
    have c20 := cL c (List.mem_of_getElem? hx)
    have ec := hL k c hx
    have p := List.pairwise_cons.mp hpw
    have i1 := hin c (by simp)
    have wc := w.wid c
    have e18 : h.1 (200 + 18) c = v 18 c := by rw [← ev]; rfl
    have e12 : h.1 (200 + 12) c = v 12 c := by rw [← ev]; rfl
    rw [fgL] at hft hq
    have gb := fG_bd (w := ww) (gap := (v 18 c).toNat - fr)
    have gr := fgL_ge (v := v) (w := ww) (e := e) M (v 18 c + v 12 c).toNat
    have eg : v 18 c - (fr : Int) = (((v 18 c).toNat - fr : Nat) : Int) := by omega
    have en : v 18 c + v 12 c = (((v 18 c + v 12 c).toNat : Nat) : Int) := by omega
    rw [e_135_48]
    simp (disch := first | assumption | omega) only [e_135_49, e_135_50, e_135_51, e_135_52, e_135_53, e_135_54, e_135_55, e_135_56, e_135_57, e_135_58, e_135_59, e_135_60, e_135_61, e_135_62, e_135_63, e_135_64, e_135_65, e_135_66, onI_s, onR_s, onL_s, gl_0, gl_n, gl_1, gl_2, gl_3, gl_4, gl_5, gl_6, gl_7, gl_8, gl_9, gl_10, gl_11, gl_12, gl_13, gl_14, gl_15, gl_16, gl_17, sk0i, sk0r, sk0n, sk1i, sk1r, sk1n, sk_2, sk_3, sk_4, sk_5, sk_6, sk_7, sk_8, sk_9, sk_10, sk_11, sk_12, sk_13, sk_14, sk_15, sk_16, sk_17, ls_0, ls_1, ls_2, ls_3, ls_4, ls_5, ls_6, ls_7, ls_8, ls_9, ls_10, ls_11, ls_12, ls_13, ls_14, ls_15, ls_16, ls_17, ct1_i, ct1_r, wd8_0, wd8_i1, wd8_r1, wd8_i2, wd8_r2, wd8_i3, wd8_r3, wd8_i4, wd8_r4, wd8_i5, wd8_r5, wd8_i6, wd8_r6, wd8_i7, wd8_r7, wd8_i8, wd8_r8, wd8_l2, wd8_l3, wd8_l4, wd8_l5, wd8_l6, wd8_l7, wd8_l8, tl_s, tl_n, inR_t, bd_t, true_and, and_true, true_or, or_true, if_true_x, if_false_x, if_pos, if_neg, Int.toNat_natCast, natL, bI_0, bI_1, bI_ft, eq_self, b_tf, b_ft, not_true_eq_false, not_false_eq_true, ec, e18, eg, hc.t0, hc.r0_0, hc.r0_1, hc.r0_3, hc.r0_5, hc.r0_6, hc.r0_7, hc.r0_8, hc.r0_9, hc.r0_10, hc.r0_11, hc.r0_12, hc.r0_13, hc.t7, hc.r7_2, hc.r7_4, hc.r7_5, hc.r7_6, hc.r7_7, hc.r7_8, hc.t13, hc.z13, hp.t0, hp.t1, hp.t2, hp.t3, hp.t4, hp.t5, hp.t6, hp.t7, hp.t8, hp.t9, hp.t10, hp.t11, hp.t12, hp.t13, hp.t14, hp.t15, hp.t16, hp.t17, hp.t18, hp.t19, hp.t20, hp.t21, hp.t22, hp.t23, hp.z2, hp.z3, hp.z4, hp.z5, hp.z7, hp.z8, hp.z9, hp.z10, hp.z12, hp.z13, hp.z14, hp.z15, hp.z16, hp.z17, hp.z18, hp.z20, hp.z21, hp.z22, hp.z23, hp.r0_2, hp.r0_3, hp.r0_4, hp.r0_5, hp.r1_1, hp.r1_2, hp.r1_3, hp.r1_4, hp.r6_1, hp.r6_2, hp.r6_3, hp.r6_4, hp.r11_1, hp.r11_2, hp.r11_3, hp.r11_4, hp.r11_5, hp.r11_6, hp.r11_7, hp.r19_1, hp.r19_2, hp.r19_3, hp.r19_4]
    (rw [e_135_67]; refine ⟨by simp [wd_i, wd_r, wd_l, wd_0], ?_⟩)
    rw [m_148 (by omega)]
    simp (disch := first | assumption | omega) only [e_135_68, e_135_69, e_135_70, e_135_71, e_135_72, e_135_73, e_135_74, e_135_75, e_135_76, e_135_77, e_135_78, e_135_79, e_135_80, e_135_81, e_135_82, e_135_83, e_135_84, e_135_85, onI_s, onR_s, onL_s, gl_0, gl_n, gl_1, gl_2, gl_3, gl_4, gl_5, gl_6, gl_7, gl_8, gl_9, gl_10, gl_11, gl_12, gl_13, gl_14, gl_15, gl_16, gl_17, sk0i, sk0r, sk0n, sk1i, sk1r, sk1n, sk_2, sk_3, sk_4, sk_5, sk_6, sk_7, sk_8, sk_9, sk_10, sk_11, sk_12, sk_13, sk_14, sk_15, sk_16, sk_17, ls_0, ls_1, ls_2, ls_3, ls_4, ls_5, ls_6, ls_7, ls_8, ls_9, ls_10, ls_11, ls_12, ls_13, ls_14, ls_15, ls_16, ls_17, ct1_i, ct1_r, wd8_0, wd8_i1, wd8_r1, wd8_i2, wd8_r2, wd8_i3, wd8_r3, wd8_i4, wd8_r4, wd8_i5, wd8_r5, wd8_i6, wd8_r6, wd8_i7, wd8_r7, wd8_i8, wd8_r8, wd8_l2, wd8_l3, wd8_l4, wd8_l5, wd8_l6, wd8_l7, wd8_l8, tl_s, tl_n, inR_t, bd_t, true_and, and_true, true_or, or_true, if_true_x, if_false_x, if_pos, if_neg, Int.toNat_natCast, natL, bI_0, bI_1, bI_ft, eq_self, b_tf, b_ft, not_true_eq_false, not_false_eq_true, e18, e12, cast_s, hc.t0, hc.r0_0, hc.r0_1, hc.r0_3, hc.r0_5, hc.r0_6, hc.r0_7, hc.r0_8, hc.r0_9, hc.r0_10, hc.r0_11, hc.r0_12, hc.r0_13, hc.t7, hc.r7_2, hc.r7_4, hc.r7_5, hc.r7_6, hc.r7_7, hc.r7_8, hc.t13, hc.z13, hp.t0, hp.t1, hp.t2, hp.t3, hp.t4, hp.t5, hp.t6, hp.t7, hp.t8, hp.t9, hp.t10, hp.t11, hp.t12, hp.t13, hp.t14, hp.t15, hp.t16, hp.t17, hp.t18, hp.t19, hp.t20, hp.t21, hp.t22, hp.t23, hp.z2, hp.z3, hp.z4, hp.z5, hp.z7, hp.z8, hp.z9, hp.z10, hp.z12, hp.z13, hp.z14, hp.z15, hp.z16, hp.z17, hp.z18, hp.z20, hp.z21, hp.z22, hp.z23, hp.r0_2, hp.r0_3, hp.r0_4, hp.r0_5, hp.r1_1, hp.r1_2, hp.r1_3, hp.r1_4, hp.r6_1, hp.r6_2, hp.r6_3, hp.r6_4, hp.r11_1, hp.r11_2, hp.r11_3, hp.r11_4, hp.r11_5, hp.r11_6, hp.r11_7, hp.r19_1, hp.r19_2, hp.r19_3, hp.r19_4]
    rw [en]
    exact ih (k + 1) (v 18 c + v 12 c).toNat (fl + fG ww ((v 18 c).toNat - fr)) _ hd2 (by omega) p.2 (fun x hx => ⟨by have := p.1 x hx; omega, (hin x (by simp [hx])).2⟩) (by omega) (by omega) (by omega) (fun fl2 fr2 x6 x7 h1 h2 h3 => hq fl2 fr2 x6 x7 h1 h2 (by omega))
set_option maxHeartbeats 8000000 in
theorem l_135 (hp : PL X 200) (hc : CT X ns nb ln) {v : Nat → Nat → Int} (g : GEO v) (w : RGv v) {ww : Int} (ns256 : ns ≤ 256) (lns : (rnL v).length ≤ ns) {h0 : xH} (ev : cv h0 200 = v) (hn : h0.2 7 3 = (rnL v).length) (ro : RO (h0.1 9) (h0.1 10) (h0.1 11) (h0.1 12) (rnL v)) : ∀ (M : List Rn) (run : Nat) (fl : Int) (h : xH) (x4 x5 x6 x7 : Option xV), (rnL v).drop run = M → run + M.length = (rnL v).length → NZ X h → G1 13 h0 h → 0 ≤ fl → fl + fgR v ww M ≤ 10000 → (∀ h2, NZ X h2 → G1 13 h0 h2 → Q (some (vi (fl + fgR v ww M))) h2) → Ev X 135 27 [some (vr 0), some (vi ww), some (vi fl), some (vi run), x4, x5, x6, x7] [] h Q := by
  intro M
  induction M with
  | nil =>
    intro run fl h x4 x5 x6 x7 hd hk z gh f0 ft hq
    simp at hk
    have e3 : h.2 7 3 = (rnL v).length := by rw [gh.2]; exact hn
    rw [e_135_27]
    simp (disch := first | assumption | omega) only [e_135_28, e_135_29, e_135_30, e_135_31, e_135_106, e_135_107, onI_s, onR_s, onL_s, gl_0, gl_n, gl_1, gl_2, gl_3, gl_4, gl_5, gl_6, gl_7, gl_8, gl_9, gl_10, gl_11, gl_12, gl_13, gl_14, gl_15, gl_16, gl_17, sk0i, sk0r, sk0n, sk1i, sk1r, sk1n, sk_2, sk_3, sk_4, sk_5, sk_6, sk_7, sk_8, sk_9, sk_10, sk_11, sk_12, sk_13, sk_14, sk_15, sk_16, sk_17, ls_0, ls_1, ls_2, ls_3, ls_4, ls_5, ls_6, ls_7, ls_8, ls_9, ls_10, ls_11, ls_12, ls_13, ls_14, ls_15, ls_16, ls_17, ct1_i, ct1_r, wd8_0, wd8_i1, wd8_r1, wd8_i2, wd8_r2, wd8_i3, wd8_r3, wd8_i4, wd8_r4, wd8_i5, wd8_r5, wd8_i6, wd8_r6, wd8_i7, wd8_r7, wd8_i8, wd8_r8, wd8_l2, wd8_l3, wd8_l4, wd8_l5, wd8_l6, wd8_l7, wd8_l8, tl_s, tl_n, inR_t, bd_t, true_and, and_true, true_or, or_true, if_true_x, if_false_x, if_pos, if_neg, Int.toNat_natCast, natL, bI_0, bI_1, bI_ft, eq_self, b_tf, b_ft, not_true_eq_false, not_false_eq_true, e3, hc.t0, hc.r0_0, hc.r0_1, hc.r0_3, hc.r0_5, hc.r0_6, hc.r0_7, hc.r0_8, hc.r0_9, hc.r0_10, hc.r0_11, hc.r0_12, hc.r0_13, hc.t7, hc.r7_2, hc.r7_4, hc.r7_5, hc.r7_6, hc.r7_7, hc.r7_8]
    have := hq h z gh
    rw [fgR, Int.add_zero] at this
    exact this
  | cons x M ih =>
    intro run fl h x4 x5 x6 x7 hd hk z gh f0 ft hq
    rw [List.length_cons] at hk
    have hx : (rnL v)[run]? = some x := by
      have := List.getElem?_drop (xs := rnL v) (i := run) (j := 0)
      rw [hd] at this
      simpa using this.symm
    have hd2 : (rnL v).drop (run + 1) = M := by
      rw [← List.drop_drop, hd]
      rfl
    have e3 : h.2 7 3 = (rnL v).length := by rw [gh.2]; exact hn
    have xg := rnL_gd (List.mem_of_getElem? hx)
    obtain ⟨r, f, a, n⟩ := x
    obtain ⟨x1, f1, x3, xg⟩ := xg
    dsimp only at x1 f1 x3 xg
    have ws := w.sites
    have an : a + n ≤ 32 := by have := xg.2.1; dsimp only at this; omega
    obtain ⟨y1, y2, y3, y4⟩ := ro run _ hx
    dsimp only at y1 y2 y3 y4
    have z1 : h.1 9 run = r := by rw [gh.1 9 (by omega)]; exact y1
    have z3 : h.1 11 run = a := by rw [gh.1 11 (by omega)]; exact y3
    have z4 : h.1 12 run = n := by rw [gh.1 12 (by omega)]; exact y4
    have cvh : cv h 200 = v := (gh.cv (by omega) (by omega)).trans ev
    have rl : run < ns := by omega
    have le := ly_eq g w f1 xg
    have l20 := ly_len g w f1 xg
    have lc := ly_c20 g w (r := r) (a := a) (n := n)
    have fe := fg_eq g w (ww := ww) f1 xg
    have fb := fgS_bd (v := v) (r := r) (w := ww) n a 0
    have fm := (fgR_bd (v := v) (w := ww) M (fun y hy => by
      have := rnL_gd (v := v) (x := y) (by rw [← hd2] at hy; exact List.mem_of_mem_drop hy)
      have := this.2.2.2.2.1
      dsimp only at this
      omega)).1
    rw [fgR] at ft hq
    dsimp only at ft hq
    rw [e_135_27]
    simp (disch := first | assumption | omega) only [e_135_28, e_135_29, e_135_30, e_135_31, e_135_32, e_135_33, e_135_34, e_135_35, e_135_36, e_135_37, onI_s, onR_s, onL_s, gl_0, gl_n, gl_1, gl_2, gl_3, gl_4, gl_5, gl_6, gl_7, gl_8, gl_9, gl_10, gl_11, gl_12, gl_13, gl_14, gl_15, gl_16, gl_17, sk0i, sk0r, sk0n, sk1i, sk1r, sk1n, sk_2, sk_3, sk_4, sk_5, sk_6, sk_7, sk_8, sk_9, sk_10, sk_11, sk_12, sk_13, sk_14, sk_15, sk_16, sk_17, ls_0, ls_1, ls_2, ls_3, ls_4, ls_5, ls_6, ls_7, ls_8, ls_9, ls_10, ls_11, ls_12, ls_13, ls_14, ls_15, ls_16, ls_17, ct1_i, ct1_r, wd8_0, wd8_i1, wd8_r1, wd8_i2, wd8_r2, wd8_i3, wd8_r3, wd8_i4, wd8_r4, wd8_i5, wd8_r5, wd8_i6, wd8_r6, wd8_i7, wd8_r7, wd8_i8, wd8_r8, wd8_l2, wd8_l3, wd8_l4, wd8_l5, wd8_l6, wd8_l7, wd8_l8, tl_s, tl_n, inR_t, bd_t, true_and, and_true, true_or, or_true, if_true_x, if_false_x, if_pos, if_neg, Int.toNat_natCast, natL, bI_0, bI_1, bI_ft, eq_self, b_tf, b_ft, not_true_eq_false, not_false_eq_true, e3, hc.t0, hc.r0_0, hc.r0_1, hc.r0_3, hc.r0_5, hc.r0_6, hc.r0_7, hc.r0_8, hc.r0_9, hc.r0_10, hc.r0_11, hc.r0_12, hc.r0_13, hc.t7, hc.r7_2, hc.r7_4, hc.r7_5, hc.r7_6, hc.r7_7, hc.r7_8, hp.t0, hp.t1, hp.t2, hp.t3, hp.t4, hp.t5, hp.t6, hp.t7, hp.t8, hp.t9, hp.t10, hp.t11, hp.t12, hp.t13, hp.t14, hp.t15, hp.t16, hp.t17, hp.t18, hp.t19, hp.t20, hp.t21, hp.t22, hp.t23, hp.z2, hp.z3, hp.z4, hp.z5, hp.z7, hp.z8, hp.z9, hp.z10, hp.z12, hp.z13, hp.z14, hp.z15, hp.z16, hp.z17, hp.z18, hp.z20, hp.z21, hp.z22, hp.z23, hp.r0_2, hp.r0_3, hp.r0_4, hp.r0_5, hp.r1_1, hp.r1_2, hp.r1_3, hp.r1_4, hp.r6_1, hp.r6_2, hp.r6_3, hp.r6_4, hp.r11_1, hp.r11_2, hp.r11_3, hp.r11_4, hp.r11_5, hp.r11_6, hp.r11_7, hp.r19_1, hp.r19_2, hp.r19_3, hp.r19_4]
    (rw [e_135_38]; refine ⟨⟨hc.t7, by simp [wd_i, wd_r, wd_l, wd_0]⟩, ?_⟩)
    refine m_39 hp (by omega) hc cvh w z rl ns256 z1 z3 z4 an (fun h3 l3 => ?_)
    rw [le] at l3 ⊢
    have g3 := l3.2.1
    have cv3 : cv h3 200 = v := (g3.cv (by omega) (by omega)).trans cvh
    have w3 : h3.1 11 run = a := by rw [g3.1 11 (by omega)]; exact z3
    have w4 : h3.1 12 run = n := by rw [g3.1 12 (by omega)]; exact z4
    simp (disch := first | assumption | omega) only [e_135_39, e_135_40, e_135_41, e_135_42, e_135_43, e_135_44, e_135_45, e_135_46, e_135_47, onI_s, onR_s, onL_s, gl_0, gl_n, gl_1, gl_2, gl_3, gl_4, gl_5, gl_6, gl_7, gl_8, gl_9, gl_10, gl_11, gl_12, gl_13, gl_14, gl_15, gl_16, gl_17, sk0i, sk0r, sk0n, sk1i, sk1r, sk1n, sk_2, sk_3, sk_4, sk_5, sk_6, sk_7, sk_8, sk_9, sk_10, sk_11, sk_12, sk_13, sk_14, sk_15, sk_16, sk_17, ls_0, ls_1, ls_2, ls_3, ls_4, ls_5, ls_6, ls_7, ls_8, ls_9, ls_10, ls_11, ls_12, ls_13, ls_14, ls_15, ls_16, ls_17, ct1_i, ct1_r, wd8_0, wd8_i1, wd8_r1, wd8_i2, wd8_r2, wd8_i3, wd8_r3, wd8_i4, wd8_r4, wd8_i5, wd8_r5, wd8_i6, wd8_r6, wd8_i7, wd8_r7, wd8_i8, wd8_r8, wd8_l2, wd8_l3, wd8_l4, wd8_l5, wd8_l6, wd8_l7, wd8_l8, tl_s, tl_n, inR_t, bd_t, true_and, and_true, true_or, or_true, if_true_x, if_false_x, if_pos, if_neg, Int.toNat_natCast, natL, bI_0, bI_1, bI_ft, eq_self, b_tf, b_ft, not_true_eq_false, not_false_eq_true, w3, hc.t0, hc.r0_0, hc.r0_1, hc.r0_3, hc.r0_5, hc.r0_6, hc.r0_7, hc.r0_8, hc.r0_9, hc.r0_10, hc.r0_11, hc.r0_12, hc.r0_13, hc.t7, hc.r7_2, hc.r7_4, hc.r7_5, hc.r7_6, hc.r7_7, hc.r7_8, hc.t11, hc.z11]
    refine l_135i hp hc cv3 w l20 l3.2.2 lc an (lyL v r n a) 0 a fl _ (by simp) (by omega) (ly_pw g) (ly_in g w f1 xg) (by omega) f0 (by rw [← fe]; omega) (fun fl2 fr2 x6 x7 q1 q2 q3 => ?_)
    rw [← fe] at q3
    have gb := fG_bd (w := ww) (gap := a + n - fr2)
    have eg : (a : Int) + (n : Int) - (fr2 : Int) = ((a + n - fr2 : Nat) : Int) := by omega
    rw [e_135_86]
    simp (disch := first | assumption | omega) only [e_135_87, e_135_88, e_135_89, e_135_90, e_135_91, e_135_92, e_135_93, e_135_94, e_135_95, e_135_96, e_135_97, e_135_98, e_135_99, e_135_100, onI_s, onR_s, onL_s, gl_0, gl_n, gl_1, gl_2, gl_3, gl_4, gl_5, gl_6, gl_7, gl_8, gl_9, gl_10, gl_11, gl_12, gl_13, gl_14, gl_15, gl_16, gl_17, sk0i, sk0r, sk0n, sk1i, sk1r, sk1n, sk_2, sk_3, sk_4, sk_5, sk_6, sk_7, sk_8, sk_9, sk_10, sk_11, sk_12, sk_13, sk_14, sk_15, sk_16, sk_17, ls_0, ls_1, ls_2, ls_3, ls_4, ls_5, ls_6, ls_7, ls_8, ls_9, ls_10, ls_11, ls_12, ls_13, ls_14, ls_15, ls_16, ls_17, ct1_i, ct1_r, wd8_0, wd8_i1, wd8_r1, wd8_i2, wd8_r2, wd8_i3, wd8_r3, wd8_i4, wd8_r4, wd8_i5, wd8_r5, wd8_i6, wd8_r6, wd8_i7, wd8_r7, wd8_i8, wd8_r8, wd8_l2, wd8_l3, wd8_l4, wd8_l5, wd8_l6, wd8_l7, wd8_l8, tl_s, tl_n, inR_t, bd_t, true_and, and_true, true_or, or_true, if_true_x, if_false_x, if_pos, if_neg, Int.toNat_natCast, natL, bI_0, bI_1, bI_ft, eq_self, b_tf, b_ft, not_true_eq_false, not_false_eq_true, w3, w4, eg, hc.t0, hc.r0_0, hc.r0_1, hc.r0_3, hc.r0_5, hc.r0_6, hc.r0_7, hc.r0_8, hc.r0_9, hc.r0_10, hc.r0_11, hc.r0_12, hc.r0_13, hc.t7, hc.r7_2, hc.r7_4, hc.r7_5, hc.r7_6, hc.r7_7, hc.r7_8, hc.t11, hc.z11, hc.t12, hc.z12]
    (rw [e_135_101]; refine ⟨by simp [wd_i, wd_r, wd_l, wd_0], ?_⟩)
    rw [m_148 (by omega)]
    simp (disch := first | assumption | omega) only [e_135_102, e_135_103, e_135_104, e_135_105, onI_s, onR_s, onL_s, gl_0, gl_n, gl_1, gl_2, gl_3, gl_4, gl_5, gl_6, gl_7, gl_8, gl_9, gl_10, gl_11, gl_12, gl_13, gl_14, gl_15, gl_16, gl_17, sk0i, sk0r, sk0n, sk1i, sk1r, sk1n, sk_2, sk_3, sk_4, sk_5, sk_6, sk_7, sk_8, sk_9, sk_10, sk_11, sk_12, sk_13, sk_14, sk_15, sk_16, sk_17, ls_0, ls_1, ls_2, ls_3, ls_4, ls_5, ls_6, ls_7, ls_8, ls_9, ls_10, ls_11, ls_12, ls_13, ls_14, ls_15, ls_16, ls_17, ct1_i, ct1_r, wd8_0, wd8_i1, wd8_r1, wd8_i2, wd8_r2, wd8_i3, wd8_r3, wd8_i4, wd8_r4, wd8_i5, wd8_r5, wd8_i6, wd8_r6, wd8_i7, wd8_r7, wd8_i8, wd8_r8, wd8_l2, wd8_l3, wd8_l4, wd8_l5, wd8_l6, wd8_l7, wd8_l8, tl_s, tl_n, inR_t, bd_t, true_and, and_true, true_or, or_true, if_true_x, if_false_x, if_pos, if_neg, Int.toNat_natCast, natL, bI_0, bI_1, bI_ft, eq_self, b_tf, b_ft, not_true_eq_false, not_false_eq_true, q3, cast_s]
    have := ih (run + 1) (fl + fgS v r ww n a 0) h3 (some (vi ((lyL v r n a).length : Int))) (some (vi fr2)) x6 x7 hd2 (by omega) l3.1 (gh.tr g3) (by omega) (by omega) (fun h2 z2 g2 => by
      have := hq h2 z2 g2
      rw [← Int.add_assoc] at this
      exact this)
    exact this
set_option maxHeartbeats 4000000 in
theorem p_135 {w : Int} (ok : Ok X h) (g : Gd (cv h 200)) (hq : ∀ h2, Cst X h h2 → cS h2 = cS h → Q (some (vi (spFill (cS h) w))) h2) : Cl X 135 [vr 0, vi w] h Q := by
  have ok0 := ok
  obtain ⟨z, os, ⟨_, _, o7, _⟩, om, ⟨nb, ln, hc, hnb⟩, lp⟩ := ok
  have hp : PL X 200 := lp 0 (by decide)
  have hw := g.rg
  have ws := hw.sites
  have wr := hw.rows
  have nF := hw.nF
  have fin4 : ∀ h3, NZ X h3 → GZ h h3 → Cst X h h3 ∧ cS h3 = cS h := fun h3 z3 g3 => ⟨(g3.fz z3).cst ok0, by rw [(g3.fz z3).cs, g3.cv (by omega)]; rfl⟩
  have e0 : h.2 200 0 = cv h 200 0 0 := rfl
  have e1 : h.2 200 1 = cv h 200 0 1 := rfl
  obtain ⟨R, hR⟩ : ∃ R : Nat, cv h 200 0 0 = R := ⟨(cv h 200 0 0).toNat, by omega⟩
  obtain ⟨S, hS⟩ : ∃ S : Nat, cv h 200 0 1 = S := ⟨(cv h 200 0 1).toNat, by omega⟩
  obtain ⟨N, hN⟩ : ∃ N : Nat, cv h 200 6 0 = N := ⟨(cv h 200 6 0).toNat, by omega⟩
  have hns : (h.2 200 0 * h.2 200 1).toNat = R * S := by
    rw [e0, e1, hR, hS, ← Int.natCast_mul, Int.toNat_natCast]
  have ns256 : (h.2 200 0 * h.2 200 1).toNat ≤ 256 := by rw [hns]; exact Nat.mul_le_mul (by omega : R ≤ 8) (by omega : S ≤ 32)
  have h70 : h.2 7 0 = R := by rw [o7.1, e0, hR]
  have h71 : h.2 7 1 = S := by rw [o7.2, e1, hS]
  unfold spFill at hq
  rw [show (cS h).1 = cv h 200 from rfl] at hq
  rw [c_135]
  by_cases c : w = 1 ∨ w = 2 ∨ w = 4
  · rw [if_pos c] at hq
    have st : Ev X 135 11 [some (vr 0), some (vi w), none, none, none, none, none, none] [] h Q := by
      simp (disch := first | assumption | omega) only [e_135_11, e_135_12, e_135_13, e_135_14, onI_s, onR_s, onL_s, gl_0, gl_n, gl_1, gl_2, gl_3, gl_4, gl_5, gl_6, gl_7, gl_8, gl_9, gl_10, gl_11, gl_12, gl_13, gl_14, gl_15, gl_16, gl_17, sk0i, sk0r, sk0n, sk1i, sk1r, sk1n, sk_2, sk_3, sk_4, sk_5, sk_6, sk_7, sk_8, sk_9, sk_10, sk_11, sk_12, sk_13, sk_14, sk_15, sk_16, sk_17, ls_0, ls_1, ls_2, ls_3, ls_4, ls_5, ls_6, ls_7, ls_8, ls_9, ls_10, ls_11, ls_12, ls_13, ls_14, ls_15, ls_16, ls_17, ct1_i, ct1_r, wd8_0, wd8_i1, wd8_r1, wd8_i2, wd8_r2, wd8_i3, wd8_r3, wd8_i4, wd8_r4, wd8_i5, wd8_r5, wd8_i6, wd8_r6, wd8_i7, wd8_r7, wd8_i8, wd8_r8, wd8_l2, wd8_l3, wd8_l4, wd8_l5, wd8_l6, wd8_l7, wd8_l8, tl_s, tl_n, inR_t, bd_t, true_and, and_true, true_or, or_true, if_true_x, if_false_x, if_pos, if_neg, Int.toNat_natCast, natL, bI_0, bI_1, bI_ft, eq_self, b_tf, b_ft, not_true_eq_false, not_false_eq_true, hc.t0, hc.r0_0, hc.r0_1, hc.r0_3, hc.r0_5, hc.r0_6, hc.r0_7, hc.r0_8, hc.r0_9, hc.r0_10, hc.r0_11, hc.r0_12, hc.r0_13]
      (rw [e_135_15]; refine ⟨⟨hc.t7, by simp [wd_i, wd_r, wd_l, wd_0]⟩, ?_⟩)
      refine m_32 hp (by omega) hc hR hS h71 hns z g.2.2.2.2 hw (fun h2 z2 g2 p2 => ?_)
      have e6 : h2.2 (200 + 6) 0 = N := by rw [g2.2]; exact hN
      simp (disch := first | assumption | omega) only [e_135_16, e_135_17, e_135_18, e_135_19, e_135_20, e_135_21, onI_s, onR_s, onL_s, gl_0, gl_n, gl_1, gl_2, gl_3, gl_4, gl_5, gl_6, gl_7, gl_8, gl_9, gl_10, gl_11, gl_12, gl_13, gl_14, gl_15, gl_16, gl_17, sk0i, sk0r, sk0n, sk1i, sk1r, sk1n, sk_2, sk_3, sk_4, sk_5, sk_6, sk_7, sk_8, sk_9, sk_10, sk_11, sk_12, sk_13, sk_14, sk_15, sk_16, sk_17, ls_0, ls_1, ls_2, ls_3, ls_4, ls_5, ls_6, ls_7, ls_8, ls_9, ls_10, ls_11, ls_12, ls_13, ls_14, ls_15, ls_16, ls_17, ct1_i, ct1_r, wd8_0, wd8_i1, wd8_r1, wd8_i2, wd8_r2, wd8_i3, wd8_r3, wd8_i4, wd8_r4, wd8_i5, wd8_r5, wd8_i6, wd8_r6, wd8_i7, wd8_r7, wd8_i8, wd8_r8, wd8_l2, wd8_l3, wd8_l4, wd8_l5, wd8_l6, wd8_l7, wd8_l8, tl_s, tl_n, inR_t, bd_t, true_and, and_true, true_or, or_true, if_true_x, if_false_x, if_pos, if_neg, Int.toNat_natCast, natL, bI_0, bI_1, bI_ft, eq_self, b_tf, b_ft, not_true_eq_false, not_false_eq_true, e6, hc.t0, hc.r0_0, hc.r0_1, hc.r0_3, hc.r0_5, hc.r0_6, hc.r0_7, hc.r0_8, hc.r0_9, hc.r0_10, hc.r0_11, hc.r0_12, hc.r0_13, hp.t0, hp.t1, hp.t2, hp.t3, hp.t4, hp.t5, hp.t6, hp.t7, hp.t8, hp.t9, hp.t10, hp.t11, hp.t12, hp.t13, hp.t14, hp.t15, hp.t16, hp.t17, hp.t18, hp.t19, hp.t20, hp.t21, hp.t22, hp.t23, hp.z2, hp.z3, hp.z4, hp.z5, hp.z7, hp.z8, hp.z9, hp.z10, hp.z12, hp.z13, hp.z14, hp.z15, hp.z16, hp.z17, hp.z18, hp.z20, hp.z21, hp.z22, hp.z23, hp.r0_2, hp.r0_3, hp.r0_4, hp.r0_5, hp.r1_1, hp.r1_2, hp.r1_3, hp.r1_4, hp.r6_1, hp.r6_2, hp.r6_3, hp.r6_4, hp.r11_1, hp.r11_2, hp.r11_3, hp.r11_4, hp.r11_5, hp.r11_6, hp.r11_7, hp.r19_1, hp.r19_2, hp.r19_3, hp.r19_4]
      (rw [e_135_22]; refine ⟨⟨hc.t7, by simp [wd_i, wd_r, wd_l, wd_0]⟩, ?_⟩)
      refine m_37 (v := cv h 200) hc hns (by omega) (by omega) (by omega) (by rw [g2.2]; exact h71) (by rw [g2.2]; exact h70) hR hS hN p2 z2 (fun h3 s3 => ?_)
      have s4 := s3.sa g2
      have cv3 : cv h3 200 = cv h 200 := s4.2.1.cv (by omega)
      have ll : (rnL (cv h 200)).length ≤ (h.2 200 0 * h.2 200 1).toNat := by
        rw [hns]
        have := rnA_len (v := cv h 200) hS R
        unfold rnL
        rw [hR, Int.toNat_natCast]
        exact this
      have fb := (fgR_bd (v := cv h 200) (w := w) (rnL (cv h 200)) (fun y hy => by
        have := (rnL_gd hy).2.2.2.2.1
        dsimp only at this
        omega)).2
      simp (disch := first | assumption | omega) only [e_135_23, e_135_24, e_135_25, e_135_26, onI_s, onR_s, onL_s, gl_0, gl_n, gl_1, gl_2, gl_3, gl_4, gl_5, gl_6, gl_7, gl_8, gl_9, gl_10, gl_11, gl_12, gl_13, gl_14, gl_15, gl_16, gl_17, sk0i, sk0r, sk0n, sk1i, sk1r, sk1n, sk_2, sk_3, sk_4, sk_5, sk_6, sk_7, sk_8, sk_9, sk_10, sk_11, sk_12, sk_13, sk_14, sk_15, sk_16, sk_17, ls_0, ls_1, ls_2, ls_3, ls_4, ls_5, ls_6, ls_7, ls_8, ls_9, ls_10, ls_11, ls_12, ls_13, ls_14, ls_15, ls_16, ls_17, ct1_i, ct1_r, wd8_0, wd8_i1, wd8_r1, wd8_i2, wd8_r2, wd8_i3, wd8_r3, wd8_i4, wd8_r4, wd8_i5, wd8_r5, wd8_i6, wd8_r6, wd8_i7, wd8_r7, wd8_i8, wd8_r8, wd8_l2, wd8_l3, wd8_l4, wd8_l5, wd8_l6, wd8_l7, wd8_l8, tl_s, tl_n, inR_t, bd_t, true_and, and_true, true_or, or_true, if_true_x, if_false_x, if_pos, if_neg, Int.toNat_natCast, natL, bI_0, bI_1, bI_ft, eq_self, b_tf, b_ft, not_true_eq_false, not_false_eq_true]
      refine l_135 hp hc g.geo hw ns256 ll cv3 s4.2.2.1 s4.2.2.2 (rnL (cv h 200)) 0 0 h3 _ _ _ _ (by simp) (by omega) s4.1 G1.refl (by omega) (by omega) (fun h4 z4 g4 => ?_)
      have q := fin4 h4 z4 (s4.2.1.gz.tr g4.gz)
      rw [Int.zero_add]
      exact hq h4 q.1 q.2
    rcases c with rfl | rfl | rfl
    · simp (disch := first | assumption | omega) only [e_135_0, e_135_1, e_135_2, onI_s, onR_s, onL_s, gl_0, gl_n, gl_1, gl_2, gl_3, gl_4, gl_5, gl_6, gl_7, gl_8, gl_9, gl_10, gl_11, gl_12, gl_13, gl_14, gl_15, gl_16, gl_17, sk0i, sk0r, sk0n, sk1i, sk1r, sk1n, sk_2, sk_3, sk_4, sk_5, sk_6, sk_7, sk_8, sk_9, sk_10, sk_11, sk_12, sk_13, sk_14, sk_15, sk_16, sk_17, ls_0, ls_1, ls_2, ls_3, ls_4, ls_5, ls_6, ls_7, ls_8, ls_9, ls_10, ls_11, ls_12, ls_13, ls_14, ls_15, ls_16, ls_17, ct1_i, ct1_r, wd8_0, wd8_i1, wd8_r1, wd8_i2, wd8_r2, wd8_i3, wd8_r3, wd8_i4, wd8_r4, wd8_i5, wd8_r5, wd8_i6, wd8_r6, wd8_i7, wd8_r7, wd8_i8, wd8_r8, wd8_l2, wd8_l3, wd8_l4, wd8_l5, wd8_l6, wd8_l7, wd8_l8, tl_s, tl_n, inR_t, bd_t, true_and, and_true, true_or, or_true, if_true_x, if_false_x, if_pos, if_neg, Int.toNat_natCast, natL, bI_0, bI_1, bI_ft, eq_self, b_tf, b_ft, not_true_eq_false, not_false_eq_true]
      exact st
    · simp (disch := first | assumption | omega) only [e_135_0, e_135_1, e_135_2, e_135_3, e_135_4, e_135_5, onI_s, onR_s, onL_s, gl_0, gl_n, gl_1, gl_2, gl_3, gl_4, gl_5, gl_6, gl_7, gl_8, gl_9, gl_10, gl_11, gl_12, gl_13, gl_14, gl_15, gl_16, gl_17, sk0i, sk0r, sk0n, sk1i, sk1r, sk1n, sk_2, sk_3, sk_4, sk_5, sk_6, sk_7, sk_8, sk_9, sk_10, sk_11, sk_12, sk_13, sk_14, sk_15, sk_16, sk_17, ls_0, ls_1, ls_2, ls_3, ls_4, ls_5, ls_6, ls_7, ls_8, ls_9, ls_10, ls_11, ls_12, ls_13, ls_14, ls_15, ls_16, ls_17, ct1_i, ct1_r, wd8_0, wd8_i1, wd8_r1, wd8_i2, wd8_r2, wd8_i3, wd8_r3, wd8_i4, wd8_r4, wd8_i5, wd8_r5, wd8_i6, wd8_r6, wd8_i7, wd8_r7, wd8_i8, wd8_r8, wd8_l2, wd8_l3, wd8_l4, wd8_l5, wd8_l6, wd8_l7, wd8_l8, tl_s, tl_n, inR_t, bd_t, true_and, and_true, true_or, or_true, if_true_x, if_false_x, if_pos, if_neg, Int.toNat_natCast, natL, bI_0, bI_1, bI_ft, eq_self, b_tf, b_ft, not_true_eq_false, not_false_eq_true, show ¬ (2 : Int) = 1 by decide]
      exact st
    · simp (disch := first | assumption | omega) only [e_135_0, e_135_1, e_135_2, e_135_3, e_135_4, e_135_5, e_135_6, e_135_7, e_135_8, onI_s, onR_s, onL_s, gl_0, gl_n, gl_1, gl_2, gl_3, gl_4, gl_5, gl_6, gl_7, gl_8, gl_9, gl_10, gl_11, gl_12, gl_13, gl_14, gl_15, gl_16, gl_17, sk0i, sk0r, sk0n, sk1i, sk1r, sk1n, sk_2, sk_3, sk_4, sk_5, sk_6, sk_7, sk_8, sk_9, sk_10, sk_11, sk_12, sk_13, sk_14, sk_15, sk_16, sk_17, ls_0, ls_1, ls_2, ls_3, ls_4, ls_5, ls_6, ls_7, ls_8, ls_9, ls_10, ls_11, ls_12, ls_13, ls_14, ls_15, ls_16, ls_17, ct1_i, ct1_r, wd8_0, wd8_i1, wd8_r1, wd8_i2, wd8_r2, wd8_i3, wd8_r3, wd8_i4, wd8_r4, wd8_i5, wd8_r5, wd8_i6, wd8_r6, wd8_i7, wd8_r7, wd8_i8, wd8_r8, wd8_l2, wd8_l3, wd8_l4, wd8_l5, wd8_l6, wd8_l7, wd8_l8, tl_s, tl_n, inR_t, bd_t, true_and, and_true, true_or, or_true, if_true_x, if_false_x, if_pos, if_neg, Int.toNat_natCast, natL, bI_0, bI_1, bI_ft, eq_self, b_tf, b_ft, not_true_eq_false, not_false_eq_true, show ¬ (4 : Int) = 1 by decide, show ¬ (4 : Int) = 2 by decide]
      exact st
  · rw [if_neg c] at hq
    have c1 : ¬ w = 1 := fun q => c (Or.inl q)
    have c2 : ¬ w = 2 := fun q => c (Or.inr (Or.inl q))
    have c4 : ¬ w = 4 := fun q => c (Or.inr (Or.inr q))
    simp (disch := first | assumption | omega) only [e_135_0, e_135_1, e_135_2, e_135_3, e_135_4, e_135_5, e_135_6, e_135_7, e_135_8, e_135_9, e_135_10, onI_s, onR_s, onL_s, gl_0, gl_n, gl_1, gl_2, gl_3, gl_4, gl_5, gl_6, gl_7, gl_8, gl_9, gl_10, gl_11, gl_12, gl_13, gl_14, gl_15, gl_16, gl_17, sk0i, sk0r, sk0n, sk1i, sk1r, sk1n, sk_2, sk_3, sk_4, sk_5, sk_6, sk_7, sk_8, sk_9, sk_10, sk_11, sk_12, sk_13, sk_14, sk_15, sk_16, sk_17, ls_0, ls_1, ls_2, ls_3, ls_4, ls_5, ls_6, ls_7, ls_8, ls_9, ls_10, ls_11, ls_12, ls_13, ls_14, ls_15, ls_16, ls_17, ct1_i, ct1_r, wd8_0, wd8_i1, wd8_r1, wd8_i2, wd8_r2, wd8_i3, wd8_r3, wd8_i4, wd8_r4, wd8_i5, wd8_r5, wd8_i6, wd8_r6, wd8_i7, wd8_r7, wd8_i8, wd8_r8, wd8_l2, wd8_l3, wd8_l4, wd8_l5, wd8_l6, wd8_l7, wd8_l8, tl_s, tl_n, inR_t, bd_t, true_and, and_true, true_or, or_true, if_true_x, if_false_x, if_pos, if_neg, Int.toNat_natCast, natL, bI_0, bI_1, bI_ft, eq_self, b_tf, b_ft, not_true_eq_false, not_false_eq_true, c1, c2, c4]
    have q := fin4 h z GZ.refl
    exact hq h q.1 q.2
end FLC
