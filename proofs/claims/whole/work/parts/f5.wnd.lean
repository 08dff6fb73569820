/-! WINDOWS in the class: a window, the call -/
def GC7 (h h2 : xH) : Prop := (∀ a, a ≠ 13 → ¬ (58 ≤ a ∧ a ≤ 61) → a ≠ 218 → h2.1 a = h.1 a) ∧ (∀ a, a ≠ 14 → h2.2 a = h.2 a)
section WND
variable {X : xL} {Q : Option xV → xH → Prop} {ns nb ln : Nat} {h h2 h3 : xH}
theorem GC7.refl : GC7 h h := ⟨fun _ _ _ _ => rfl, fun _ _ => rfl⟩
theorem GC7.tr (g : GC7 h h2) (k : GC7 h2 h3) : GC7 h h3 := ⟨fun a q r s => (k.1 a q r s).trans (g.1 a q r s), fun a q => (k.2 a q).trans (g.2 a q)⟩
theorem G1.gc7 {k : Nat} (g : G1 k h h2) (hk : k = 13 ∨ (58 ≤ k ∧ k ≤ 61)) : GC7 h h2 := ⟨fun a q r _ => g.1 a (by omega), fun a _ => by rw [g.2]⟩
theorem GC7.fz (f : GC7 h h2) (z : NZ X h2) : Fz X h h2 := ⟨z, fun a q => ⟨f.1 a (by omega) (by omega) (by omega), f.2 a (by omega)⟩, ⟨by rw [f.2 7 (by omega)], by rw [f.2 7 (by omega)], by rw [f.2 22 (by omega)], by rw [f.2 22 (by omega)]⟩, fun p hp => ⟨fun i => by rw [f.2 _ (by omega)], fun j hj i hi => by rw [f.2 _ (by omega)]⟩⟩
set_option maxHeartbeats 8000000 in
theorem m_60 (hp : PL X 200) (hc : CT X ns nb ln) {h0 : xH} {u v : Nat → Nat → Int} {t : Int} (gd : Gd v) {f : Int} {rn a n : Nat} {A G C : List Nat} (wi : WI u v rn f a n (A ++ (G ++ C))) (an : a + n ≤ 32) (r8 : rn < 8) (g1' : 1 ≤ G.length) (g4 : G.length ≤ 4) (l20 : (A ++ (G ++ C)).length ≤ 20) (tm : TMb (h0.1 1)) (et : h0.1 1 4 = t) (ev : cv h0 200 = u) (z : NZ X h0) (r13 : R1 (h0.1 13) (A ++ (G ++ C))) (hq : ∀ h2, NZ X h2 → GC7 h0 h2 → cv h2 200 = wnP u G rn (wnO u t G rn) → R1 (h2.1 13) (A ++ ((wnO u t G rn).map (fun o => G.getD o 0) ++ C)) → Q none h2) : Cl X 60 [vr 57, vr 200, vi (A.length : Int), vi (G.length : Int)] h0 Q := by
  have nC := wi.2.1.nC
  have mg : ∀ x, x ∈ G → (x : Int) < u 11 0 ∧ u 17 x = rn := fun x hx => ⟨(wi.2.2.2.2.1 x (by simp [hx])).1, (wi.2.2.2.2.1 x (by simp [hx])).2.1⟩
  have gc : ∀ c, c ∈ G → c < 20 := fun c hc => by have := (mg c hc).1; omega
  have lA : A.length + G.length ≤ 20 := by
    rw [List.length_append, List.length_append] at l20
    omega
  obtain ⟨wo, wp⟩ := wnO_ok (u := u) (t := t) (r := (rn : Int)) g4
  have oa := ord_all (n := G.length) (by omega)
  have op := ord_pm (n := G.length) (by omega)
  have og := okO_rg (n := G.length) (by omega)
  have sit := wi.2.1.sit (G.getD 0 0)
  have wgu : WG u := wi.2.2.1.wg wi.2.1 gd
  have c0 : G.getD 0 0 < 20 := gc _ (by rw [List.getD_eq_getElem?_getD, List.getElem?_eq_getElem (by omega)]; exact List.getElem_mem _)
  rw [c_60]
  simp (disch := first | assumption | omega) only [e_60_0, e_60_1, e_60_2, e_60_3, e_60_4, onI_s, onR_s, onL_s, gl_0, gl_n, gl_1, gl_2, gl_3, gl_4, gl_5, gl_6, gl_7, gl_8, gl_9, gl_10, gl_11, gl_12, gl_13, gl_14, gl_15, gl_16, gl_17, sk0i, sk0r, sk0n, sk1i, sk1r, sk1n, sk_2, sk_3, sk_4, sk_5, sk_6, sk_7, sk_8, sk_9, sk_10, sk_11, sk_12, sk_13, sk_14, sk_15, sk_16, sk_17, ls_0, ls_1, ls_2, ls_3, ls_4, ls_5, ls_6, ls_7, ls_8, ls_9, ls_10, ls_11, ls_12, ls_13, ls_14, ls_15, ls_16, ls_17, ct1_i, ct1_r, wd8_0, wd8_i1, wd8_r1, wd8_i2, wd8_r2, wd8_i3, wd8_r3, wd8_i4, wd8_r4, wd8_i5, wd8_r5, wd8_i6, wd8_r6, wd8_i7, wd8_r7, wd8_i8, wd8_r8, wd8_l2, wd8_l3, wd8_l4, wd8_l5, wd8_l6, wd8_l7, wd8_l8, tl_s, tl_n, inR_t, bd_t, true_and, and_true, true_or, or_true, if_true_x, if_false_x, if_pos, if_neg, Int.toNat_natCast, natL, bI_0, bI_1, bI_ft, eq_self, b_tf, b_ft, not_true_eq_false, not_false_eq_true, hp.t0, hp.t1, hp.t2, hp.t3, hp.t4, hp.t5, hp.t6, hp.t7, hp.t8, hp.t9, hp.t10, hp.t11, hp.t12, hp.t13, hp.t14, hp.t15, hp.t16, hp.t17, hp.t18, hp.t19, hp.t20, hp.t21, hp.t22, hp.t23, hp.z2, hp.z3, hp.z4, hp.z5, hp.z7, hp.z8, hp.z9, hp.z10, hp.z12, hp.z13, hp.z14, hp.z15, hp.z16, hp.z17, hp.z18, hp.z20, hp.z21, hp.z22, hp.z23, hp.r0_2, hp.r0_3, hp.r0_4, hp.r0_5, hp.r1_1, hp.r1_2, hp.r1_3, hp.r1_4, hp.r6_1, hp.r6_2, hp.r6_3, hp.r6_4, hp.r11_1, hp.r11_2, hp.r11_3, hp.r11_4, hp.r11_5, hp.r11_6, hp.r11_7, hp.r19_1, hp.r19_2, hp.r19_3, hp.r19_4]
  refine l_60a hc g4 l20 r13 G.length 0 h0 (by omega) z G1.refl (by rw [List.take_zero]; exact R1.nil) (fun h1 x5 z1 g1 r60 => ?_)
  have ev1 : cv h1 200 = u := (g1.cv (by omega) (by omega)).trans ev
  rw [e_60_21]
  simp (disch := first | assumption | omega) only [e_60_22, onI_s, onR_s, onL_s, gl_0, gl_n, gl_1, gl_2, gl_3, gl_4, gl_5, gl_6, gl_7, gl_8, gl_9, gl_10, gl_11, gl_12, gl_13, gl_14, gl_15, gl_16, gl_17, sk0i, sk0r, sk0n, sk1i, sk1r, sk1n, sk_2, sk_3, sk_4, sk_5, sk_6, sk_7, sk_8, sk_9, sk_10, sk_11, sk_12, sk_13, sk_14, sk_15, sk_16, sk_17, ls_0, ls_1, ls_2, ls_3, ls_4, ls_5, ls_6, ls_7, ls_8, ls_9, ls_10, ls_11, ls_12, ls_13, ls_14, ls_15, ls_16, ls_17, ct1_i, ct1_r, wd8_0, wd8_i1, wd8_r1, wd8_i2, wd8_r2, wd8_i3, wd8_r3, wd8_i4, wd8_r4, wd8_i5, wd8_r5, wd8_i6, wd8_r6, wd8_i7, wd8_r7, wd8_i8, wd8_r8, wd8_l2, wd8_l3, wd8_l4, wd8_l5, wd8_l6, wd8_l7, wd8_l8, tl_s, tl_n, inR_t, bd_t, true_and, and_true, true_or, or_true, if_true_x, if_false_x, if_pos, if_neg, Int.toNat_natCast, natL, bI_0, bI_1, bI_ft, eq_self, b_tf, b_ft, not_true_eq_false, not_false_eq_true]
  refine l_60b hp hc wi.2.1 ev1 g4 gc r60 (G.length - 1) 0 h1 (by omega) z1 G1.refl (fun j hj => by omega) (fun h2 x5 z2 g2 gp => ?_)
  have ev2 : cv h2 200 = u := (g2.cv (by omega) (by omega)).trans ev1
  have r602 : R1 (h2.1 60) G := by rw [g2.1 60 (by omega)]; exact r60
  have e60 : h2.1 60 0 = ((G.getD 0 0 : Nat) : Int) := R1.at r602 (by omega)
  have e18 : h2.1 (200 + 18) (G.getD 0 0) = u 18 (G.getD 0 0) := by rw [← ev2]; rfl
  rw [e_60_59]
  simp (disch := first | assumption | omega) only [e_60_60, e_60_61, e_60_62, e_60_63, e_60_64, e_60_65, e_60_66, e_60_67, e_60_68, onI_s, onR_s, onL_s, gl_0, gl_n, gl_1, gl_2, gl_3, gl_4, gl_5, gl_6, gl_7, gl_8, gl_9, gl_10, gl_11, gl_12, gl_13, gl_14, gl_15, gl_16, gl_17, sk0i, sk0r, sk0n, sk1i, sk1r, sk1n, sk_2, sk_3, sk_4, sk_5, sk_6, sk_7, sk_8, sk_9, sk_10, sk_11, sk_12, sk_13, sk_14, sk_15, sk_16, sk_17, ls_0, ls_1, ls_2, ls_3, ls_4, ls_5, ls_6, ls_7, ls_8, ls_9, ls_10, ls_11, ls_12, ls_13, ls_14, ls_15, ls_16, ls_17, ct1_i, ct1_r, wd8_0, wd8_i1, wd8_r1, wd8_i2, wd8_r2, wd8_i3, wd8_r3, wd8_i4, wd8_r4, wd8_i5, wd8_r5, wd8_i6, wd8_r6, wd8_i7, wd8_r7, wd8_i8, wd8_r8, wd8_l2, wd8_l3, wd8_l4, wd8_l5, wd8_l6, wd8_l7, wd8_l8, tl_s, tl_n, inR_t, bd_t, true_and, and_true, true_or, or_true, if_true_x, if_false_x, if_pos, if_neg, Int.toNat_natCast, natL, bI_0, bI_1, bI_ft, eq_self, b_tf, b_ft, not_true_eq_false, not_false_eq_true, tn_0, e60, e18, hc.t57, hc.r57_0, hc.r57_1, hc.r57_2, hc.r57_3, hc.r57_4, hc.r57_5, hc.r57_6, hc.r57_7, hc.r57_8, hc.r57_9, hc.r57_10, hc.t60, hc.z60, hp.t0, hp.t1, hp.t2, hp.t3, hp.t4, hp.t5, hp.t6, hp.t7, hp.t8, hp.t9, hp.t10, hp.t11, hp.t12, hp.t13, hp.t14, hp.t15, hp.t16, hp.t17, hp.t18, hp.t19, hp.t20, hp.t21, hp.t22, hp.t23, hp.z2, hp.z3, hp.z4, hp.z5, hp.z7, hp.z8, hp.z9, hp.z10, hp.z12, hp.z13, hp.z14, hp.z15, hp.z16, hp.z17, hp.z18, hp.z20, hp.z21, hp.z22, hp.z23, hp.r0_2, hp.r0_3, hp.r0_4, hp.r0_5, hp.r1_1, hp.r1_2, hp.r1_3, hp.r1_4, hp.r6_1, hp.r6_2, hp.r6_3, hp.r6_4, hp.r11_1, hp.r11_2, hp.r11_3, hp.r11_4, hp.r11_5, hp.r11_6, hp.r11_7, hp.r19_1, hp.r19_2, hp.r19_3, hp.r19_4]
  (rw [e_60_69]; refine ⟨⟨hc.t57, by simp [wd_i, wd_r, wd_l, wd_0]⟩, ?_⟩)
  refine m_55 hc (by omega) z2 (fun h3 z3 o3 f3 r13' r23 => ?_)
  have ev3 : cv h3 200 = u := (cv_congr (fun a q1 q2 => ⟨o3 a (by omega) (by omega), by rw [f3]⟩)).trans ev2
  have t3 : h3.1 1 = h0.1 1 := by rw [o3 1 (by omega) (by omega), g2.1 1 (by omega), g1.1 1 (by omega)]
  simp (disch := first | assumption | omega) only [e_60_70, e_60_71, e_60_72, onI_s, onR_s, onL_s, gl_0, gl_n, gl_1, gl_2, gl_3, gl_4, gl_5, gl_6, gl_7, gl_8, gl_9, gl_10, gl_11, gl_12, gl_13, gl_14, gl_15, gl_16, gl_17, sk0i, sk0r, sk0n, sk1i, sk1r, sk1n, sk_2, sk_3, sk_4, sk_5, sk_6, sk_7, sk_8, sk_9, sk_10, sk_11, sk_12, sk_13, sk_14, sk_15, sk_16, sk_17, ls_0, ls_1, ls_2, ls_3, ls_4, ls_5, ls_6, ls_7, ls_8, ls_9, ls_10, ls_11, ls_12, ls_13, ls_14, ls_15, ls_16, ls_17, ct1_i, ct1_r, wd8_0, wd8_i1, wd8_r1, wd8_i2, wd8_r2, wd8_i3, wd8_r3, wd8_i4, wd8_r4, wd8_i5, wd8_r5, wd8_i6, wd8_r6, wd8_i7, wd8_r7, wd8_i8, wd8_r8, wd8_l2, wd8_l3, wd8_l4, wd8_l5, wd8_l6, wd8_l7, wd8_l8, tl_s, tl_n, inR_t, bd_t, true_and, and_true, true_or, or_true, if_true_x, if_false_x, if_pos, if_neg, Int.toNat_natCast, natL, bI_0, bI_1, bI_ft, eq_self, b_tf, b_ft, not_true_eq_false, not_false_eq_true, hc.t57, hc.r57_0, hc.r57_1, hc.r57_2, hc.r57_3, hc.r57_4, hc.r57_5, hc.r57_6, hc.r57_7, hc.r57_8, hc.r57_9, hc.r57_10]
  (rw [e_60_73]; refine ⟨⟨hc.t14, by simp [wd_i, wd_r, wd_l, wd_0]⟩, ?_⟩)
  refine wirC hp hc (by rw [ev3]; exact wgu) (by rw [t3]; exact tm) (fun h4 q4 => ?_)
  rw [ev3, t3, et]
  have z4 : NZ X h4 := (q4.fz z3).1
  have ev4 : cv h4 200 = u := (q4.cv (b := 200) (by omega)).trans ev3
  have t4 : h4.1 1 = h0.1 1 := by rw [q4.1]; exact t3
  have idv : u = wnP u G rn (List.range G.length) := by
    unfold wnP
    rw [List.range_eq_range', wn_id (fun c hc => (mg c hc).2) G 0 (by simp)]
  simp (disch := first | assumption | omega) only [e_60_74, e_60_75, e_60_76, onI_s, onR_s, onL_s, gl_0, gl_n, gl_1, gl_2, gl_3, gl_4, gl_5, gl_6, gl_7, gl_8, gl_9, gl_10, gl_11, gl_12, gl_13, gl_14, gl_15, gl_16, gl_17, sk0i, sk0r, sk0n, sk1i, sk1r, sk1n, sk_2, sk_3, sk_4, sk_5, sk_6, sk_7, sk_8, sk_9, sk_10, sk_11, sk_12, sk_13, sk_14, sk_15, sk_16, sk_17, ls_0, ls_1, ls_2, ls_3, ls_4, ls_5, ls_6, ls_7, ls_8, ls_9, ls_10, ls_11, ls_12, ls_13, ls_14, ls_15, ls_16, ls_17, ct1_i, ct1_r, wd8_0, wd8_i1, wd8_r1, wd8_i2, wd8_r2, wd8_i3, wd8_r3, wd8_i4, wd8_r4, wd8_i5, wd8_r5, wd8_i6, wd8_r6, wd8_i7, wd8_r7, wd8_i8, wd8_r8, wd8_l2, wd8_l3, wd8_l4, wd8_l5, wd8_l6, wd8_l7, wd8_l8, tl_s, tl_n, inR_t, bd_t, true_and, and_true, true_or, or_true, if_true_x, if_false_x, if_pos, if_neg, Int.toNat_natCast, natL, bI_0, bI_1, bI_ft, eq_self, b_tf, b_ft, not_true_eq_false, not_false_eq_true]
  refine l_60s hp hc (t := t) (h0 := h4) gd wi an r8 g1' (by rw [t4]; exact tm) (by rw [t4]; exact et) g4 gc (by rw [q4.1, o3 60 (by omega) (by omega)]; exact r602) (fun j hj => by rw [q4.1, o3 61 (by omega) (by omega)]; exact gp j hj) (ords G.length) (List.range G.length) (List.range G.length) (List.range G.length) _ 1 h4 _ oa.1 (by have := oa.2.1; omega) og.1 og.1 (List.Perm.refl _) (fun O hO => ⟨oa.2.2 O hO, op O hO⟩) z4 (fun _ _ _ _ => rfl) (fun _ _ => rfl) (by rw [q4.1]; exact r13') (by rw [q4.1]; exact r23) (ev4.trans idv) (fun h5 L3 x6 x7 x8 z5 o5 f5 r5 p3 ev5 => ?_)
  change R1 (h5.1 59) (wnO u t G rn) at r5
  have s3 : SJ (wnP u G rn L3) u := mvL_sj _ u SJ.refl
  have kk := (WI_win wi an r8 g1' p3).2.2.2.2.2.2
  have ur3 : ∀ c, c ∈ G → wnP u G rn L3 17 c = rn := fun c hc => by
    obtain ⟨y, hy, e⟩ := List.mem_map.mp (kk.1.mem_iff.mpr hc)
    rw [← e]
    exact (mvL_at _ u hy (kk.1.nodup_iff.mpr kk.2)).1
  have r605 : R1 (h5.1 60) G := by rw [o5 60 (by omega) (by omega) (by omega), q4.1, o3 60 (by omega) (by omega)]; exact r602
  rw [e_60_106]
  simp (disch := first | assumption | omega) only [e_60_107, e_60_108, e_60_109, e_60_110, e_60_111, onI_s, onR_s, onL_s, gl_0, gl_n, gl_1, gl_2, gl_3, gl_4, gl_5, gl_6, gl_7, gl_8, gl_9, gl_10, gl_11, gl_12, gl_13, gl_14, gl_15, gl_16, gl_17, sk0i, sk0r, sk0n, sk1i, sk1r, sk1n, sk_2, sk_3, sk_4, sk_5, sk_6, sk_7, sk_8, sk_9, sk_10, sk_11, sk_12, sk_13, sk_14, sk_15, sk_16, sk_17, ls_0, ls_1, ls_2, ls_3, ls_4, ls_5, ls_6, ls_7, ls_8, ls_9, ls_10, ls_11, ls_12, ls_13, ls_14, ls_15, ls_16, ls_17, ct1_i, ct1_r, wd8_0, wd8_i1, wd8_r1, wd8_i2, wd8_r2, wd8_i3, wd8_r3, wd8_i4, wd8_r4, wd8_i5, wd8_r5, wd8_i6, wd8_r6, wd8_i7, wd8_r7, wd8_i8, wd8_r8, wd8_l2, wd8_l3, wd8_l4, wd8_l5, wd8_l6, wd8_l7, wd8_l8, tl_s, tl_n, inR_t, bd_t, true_and, and_true, true_or, or_true, if_true_x, if_false_x, if_pos, if_neg, Int.toNat_natCast, natL, bI_0, bI_1, bI_ft, eq_self, b_tf, b_ft, not_true_eq_false, not_false_eq_true, hc.t57, hc.r57_0, hc.r57_1, hc.r57_2, hc.r57_3, hc.r57_4, hc.r57_5, hc.r57_6, hc.r57_7, hc.r57_8, hc.r57_9, hc.r57_10]
  (rw [e_60_112]; refine ⟨⟨hc.t57, by simp [wd_i, wd_r, wd_l, wd_0]⟩, ?_⟩)
  refine m_61 hp hc wi.2.1 s3 (ra := 59) (by omega) hc.t59 hc.z59 g4 gc wo.1 wo.2.1 r605 (fun j hj => by rw [o5 61 (by omega) (by omega) (by omega), q4.1, o3 61 (by omega) (by omega)]; exact gp j hj) r5 z5 ev5 ur3 (by omega) (fun h6 vs => ?_)
  have ag : mvL rn (posW u G 0 (wnO u t G rn) (u 18 (G.getD 0 0))) (wnP u G rn L3) = wnP u G rn (wnO u t G rn) := by
    unfold wnP
    refine mvL_again (fun x hx => ?_)
    have k1 := (WI_win wi an r8 g1' wp).2.2.2.2.2.2.1
    have : x.1 ∈ (posW u G 0 (wnO u t G rn) (u 18 (G.getD 0 0))).map (fun x => x.1) := k1.mem_iff.mpr (kk.1.mem_iff.mp (List.mem_map.mpr ⟨x, hx, rfl⟩))
    obtain ⟨y, hy, e⟩ := List.mem_map.mp this
    exact ⟨y, hy, e⟩
  rw [ag] at vs
  have gc6 : GC7 h0 h6 := ⟨fun a q1 q2 q3 => by rw [vs.2.1 a q3, o5 a (by omega) (by omega) q3, q4.1, o3 a (by omega) (by omega), g2.1 a (by omega), g1.1 a (by omega)], fun a q => by rw [vs.2.2.1, f5 a q, q4.2 a q, f3, g2.2, g1.2]⟩
  have r136 : h6.1 13 = h0.1 13 := by rw [vs.2.1 13 (by omega), o5 13 (by omega) (by omega) (by omega), q4.1, o3 13 (by omega) (by omega), g2.1 13 (by omega), g1.1 13 (by omega)]
  simp (disch := first | assumption | omega) only [e_60_113, e_60_114, onI_s, onR_s, onL_s, gl_0, gl_n, gl_1, gl_2, gl_3, gl_4, gl_5, gl_6, gl_7, gl_8, gl_9, gl_10, gl_11, gl_12, gl_13, gl_14, gl_15, gl_16, gl_17, sk0i, sk0r, sk0n, sk1i, sk1r, sk1n, sk_2, sk_3, sk_4, sk_5, sk_6, sk_7, sk_8, sk_9, sk_10, sk_11, sk_12, sk_13, sk_14, sk_15, sk_16, sk_17, ls_0, ls_1, ls_2, ls_3, ls_4, ls_5, ls_6, ls_7, ls_8, ls_9, ls_10, ls_11, ls_12, ls_13, ls_14, ls_15, ls_16, ls_17, ct1_i, ct1_r, wd8_0, wd8_i1, wd8_r1, wd8_i2, wd8_r2, wd8_i3, wd8_r3, wd8_i4, wd8_r4, wd8_i5, wd8_r5, wd8_i6, wd8_r6, wd8_i7, wd8_r7, wd8_i8, wd8_r8, wd8_l2, wd8_l3, wd8_l4, wd8_l5, wd8_l6, wd8_l7, wd8_l8, tl_s, tl_n, inR_t, bd_t, true_and, and_true, true_or, or_true, if_true_x, if_false_x, if_pos, if_neg, Int.toNat_natCast, natL, bI_0, bI_1, bI_ft, eq_self, b_tf, b_ft, not_true_eq_false, not_false_eq_true]
  refine l_60e hc (h0 := h6) (C := C) g4 l20 wo.1 wo.2.1 (by rw [vs.2.1 60 (by omega)]; exact r605) (by rw [vs.2.1 59 (by omega)]; exact r5) G.length 0 h6 (by omega) vs.1 G1.refl (fun k => by rw [if_neg (by omega)]) (fun h7 z7 g7 p7 => ?_)
  refine hq h7 z7 (gc6.tr (g7.gc7 (by omega))) ((g7.cv (by omega) (by omega)).trans vs.2.2.2) (mid_R1 (R := h6.1 13) (by rw [r136]; exact r13) (by rw [List.length_map]; exact wo.1) p7)
set_option maxHeartbeats 8000000 in
theorem l_59j (hp : PL X 200) (hc : CT X ns nb ln) {h0 : xH} {v : Nat → Nat → Int} {t : Int} (gd : Gd v) {f : Int} {rn a n i k ly : Nat} (k2 : 2 ≤ k ∧ k ≤ 4) (an : a + n ≤ 32) (hr : gdR (fun s => decide (own v rn s = f)) (v 0 1).toNat (a, n)) (rR : (rn : Int) < v 0 0) (tm : TMb (h0.1 1)) (et : h0.1 1 4 = t) : ∀ (m j : Nat) (Ly : List Nat) (u : Nat → Nat → Int) (h : xH), m = Ly.length + 1 - k - j → j ≤ 21 → Ly.length = ly → ly ≤ 20 → WI u v rn f a n Ly → NZ X h → GC7 h0 h → cv h 200 = u → R1 (h.1 13) Ly → (∀ h2 Ly2 x5, NZ X h2 → GC7 h0 h2 → cv h2 200 = wnJ t rn k m j Ly u → WI (wnJ t rn k m j Ly u) v rn f a n Ly2 → Ev X 59 38 [some (vr 57), some (vr 200), some (vi k), some (vi i), some (vi ly), x5] [] h2 Q) → Ev X 59 26 [some (vr 57), some (vr 200), some (vi k), some (vi i), some (vi ly), some (vi j)] [] h Q := by
  have r8 : rn < 8 := by
    have := gd.rg.rows
    omega
  intro m
  induction m with
  | zero =>
    intro j Ly u h hm j21 el l20 wi z g ev r13 hq
    rw [wnJ] at hq
    rw [e_59_26]
    simp (disch := first | assumption | omega) only [e_59_27, e_59_28, e_59_29, e_59_30, onI_s, onR_s, onL_s, gl_0, gl_n, gl_1, gl_2, gl_3, gl_4, gl_5, gl_6, gl_7, gl_8, gl_9, gl_10, gl_11, gl_12, gl_13, gl_14, gl_15, gl_16, gl_17, sk0i, sk0r, sk0n, sk1i, sk1r, sk1n, sk_2, sk_3, sk_4, sk_5, sk_6, sk_7, sk_8, sk_9, sk_10, sk_11, sk_12, sk_13, sk_14, sk_15, sk_16, sk_17, ls_0, ls_1, ls_2, ls_3, ls_4, ls_5, ls_6, ls_7, ls_8, ls_9, ls_10, ls_11, ls_12, ls_13, ls_14, ls_15, ls_16, ls_17, ct1_i, ct1_r, wd8_0, wd8_i1, wd8_r1, wd8_i2, wd8_r2, wd8_i3, wd8_r3, wd8_i4, wd8_r4, wd8_i5, wd8_r5, wd8_i6, wd8_r6, wd8_i7, wd8_r7, wd8_i8, wd8_r8, wd8_l2, wd8_l3, wd8_l4, wd8_l5, wd8_l6, wd8_l7, wd8_l8, tl_s, tl_n, inR_t, bd_t, true_and, and_true, true_or, or_true, if_true_x, if_false_x, if_pos, if_neg, Int.toNat_natCast, natL, bI_0, bI_1, bI_ft, eq_self, b_tf, b_ft, not_true_eq_false, not_false_eq_true]
    exact hq h Ly _ z g ev wi
  | succ m ih =>
    intro j Ly u h hm j21 el l20 wi z g ev r13 hq
    have jk : j + k ≤ Ly.length := by omega
    have ct := cut3 (Ly := Ly) j k
    rw [wnJ] at hq
    obtain ⟨A, hA⟩ : ∃ A, A = Ly.take j := ⟨_, rfl⟩
    obtain ⟨G, hG⟩ : ∃ G, G = (Ly.drop j).take k := ⟨_, rfl⟩
    obtain ⟨C, hC⟩ : ∃ C, C = Ly.drop (j + k) := ⟨_, rfl⟩
    rw [← hA, ← hG, ← hC] at ct hq
    have lA : A.length = j := by rw [hA, List.length_take]; omega
    have lG : G.length = k := by rw [hG, List.length_take, List.length_drop]; omega
    rw [ct] at wi r13
    have t1 : h.1 1 = h0.1 1 := g.1 1 (by omega) (by omega) (by omega)
    obtain ⟨wo, wp⟩ := wnO_ok (u := u) (t := t) (r := (rn : Int)) (G := G) (by omega)
    have ll : (A ++ ((wnO u t G rn).map (fun o => G.getD o 0) ++ C)).length = Ly.length := by
      rw [ct]
      simp only [List.length_append, List.length_map]
      rw [wo.1]
    rw [e_59_26]
    simp (disch := first | assumption | omega) only [e_59_27, e_59_28, e_59_29, e_59_30, e_59_31, e_59_32, e_59_33, e_59_34, onI_s, onR_s, onL_s, gl_0, gl_n, gl_1, gl_2, gl_3, gl_4, gl_5, gl_6, gl_7, gl_8, gl_9, gl_10, gl_11, gl_12, gl_13, gl_14, gl_15, gl_16, gl_17, sk0i, sk0r, sk0n, sk1i, sk1r, sk1n, sk_2, sk_3, sk_4, sk_5, sk_6, sk_7, sk_8, sk_9, sk_10, sk_11, sk_12, sk_13, sk_14, sk_15, sk_16, sk_17, ls_0, ls_1, ls_2, ls_3, ls_4, ls_5, ls_6, ls_7, ls_8, ls_9, ls_10, ls_11, ls_12, ls_13, ls_14, ls_15, ls_16, ls_17, ct1_i, ct1_r, wd8_0, wd8_i1, wd8_r1, wd8_i2, wd8_r2, wd8_i3, wd8_r3, wd8_i4, wd8_r4, wd8_i5, wd8_r5, wd8_i6, wd8_r6, wd8_i7, wd8_r7, wd8_i8, wd8_r8, wd8_l2, wd8_l3, wd8_l4, wd8_l5, wd8_l6, wd8_l7, wd8_l8, tl_s, tl_n, inR_t, bd_t, true_and, and_true, true_or, or_true, if_true_x, if_false_x, if_pos, if_neg, Int.toNat_natCast, natL, bI_0, bI_1, bI_ft, eq_self, b_tf, b_ft, not_true_eq_false, not_false_eq_true]
    (rw [e_59_35]; refine ⟨⟨hc.t57, by simp [wd_i, wd_r, wd_l, wd_0]⟩, ?_⟩)
    have key := m_60 (Q := fun r h2 => Ev X 59 36 [some (vr 57), some (vr 200), some (vi k), some (vi i), some (vi ly), some (vi j)] (r.toList ++ []) h2 Q) (t := t) hp hc gd wi an r8 (by omega) (by omega) (by rw [← ct]; omega) (by rw [t1]; exact tm) (by rw [t1]; exact et) ev z r13 (fun h2 z2 g2 ev2 r2 => by
      simp (disch := first | assumption | omega) only [e_59_36, e_59_37, onI_s, onR_s, onL_s, gl_0, gl_n, gl_1, gl_2, gl_3, gl_4, gl_5, gl_6, gl_7, gl_8, gl_9, gl_10, gl_11, gl_12, gl_13, gl_14, gl_15, gl_16, gl_17, sk0i, sk0r, sk0n, sk1i, sk1r, sk1n, sk_2, sk_3, sk_4, sk_5, sk_6, sk_7, sk_8, sk_9, sk_10, sk_11, sk_12, sk_13, sk_14, sk_15, sk_16, sk_17, ls_0, ls_1, ls_2, ls_3, ls_4, ls_5, ls_6, ls_7, ls_8, ls_9, ls_10, ls_11, ls_12, ls_13, ls_14, ls_15, ls_16, ls_17, ct1_i, ct1_r, wd8_0, wd8_i1, wd8_r1, wd8_i2, wd8_r2, wd8_i3, wd8_r3, wd8_i4, wd8_r4, wd8_i5, wd8_r5, wd8_i6, wd8_r6, wd8_i7, wd8_r7, wd8_i8, wd8_r8, wd8_l2, wd8_l3, wd8_l4, wd8_l5, wd8_l6, wd8_l7, wd8_l8, tl_s, tl_n, inR_t, bd_t, true_and, and_true, true_or, or_true, if_true_x, if_false_x, if_pos, if_neg, Int.toNat_natCast, natL, bI_0, bI_1, bI_ft, eq_self, b_tf, b_ft, not_true_eq_false, not_false_eq_true, cast_s]
      exact ih (j + 1) _ _ h2 (by rw [ll]; omega) (by omega) (by rw [ll]; exact el) l20 (WI_step wi an hr rR (by omega) wp) z2 (g.tr g2) ev2 r2 hq)
    rw [lA, lG] at key
    exact key
set_option maxHeartbeats 8000000 in
theorem l_59 (hp : PL X 200) (hc : CT X ns nb ln) {h0 : xH} {v : Nat → Nat → Int} {t : Int} (gd : Gd v) {k : Nat} (k2 : 2 ≤ k ∧ k ≤ 4) (ns256 : ns ≤ 256) (lns : (rnL v).length ≤ ns) (tm : TMb (h0.1 1)) (et : h0.1 1 4 = t) (hn : h0.2 7 3 = (rnL v).length) (ro : RO (h0.1 9) (h0.1 10) (h0.1 11) (h0.1 12) (rnL v)) : ∀ (M : List Rn) (i : Nat) (u : Nat → Nat → Int) (h : xH) (x4 x5 : Option xV), (rnL v).drop i = M → i + M.length = (rnL v).length → GEO u → RGv u → SJ u v → FXs u v → NZ X h → GC7 h0 h → cv h 200 = u → (∀ h2, NZ X h2 → GC7 h0 h2 → cv h2 200 = wnR t k M u → RGv (wnR t k M u) → SJ (wnR t k M u) v → Q none h2) → Ev X 59 12 [some (vr 57), some (vr 200), some (vi k), some (vi i), x4, x5] [] h Q := by
  have ws := gd.rg.sites
  intro M
  induction M with
  | nil =>
    intro i u h x4 x5 hd hk g w s fx z gw ev hq
    simp at hk
    have e18 : h.2 7 3 = (rnL v).length := by rw [gw.2 7 (by omega)]; exact hn
    rw [wnR] at hq
    rw [e_59_12]
    simp (disch := first | assumption | omega) only [e_59_13, e_59_14, e_59_15, e_59_16, e_59_40, onI_s, onR_s, onL_s, gl_0, gl_n, gl_1, gl_2, gl_3, gl_4, gl_5, gl_6, gl_7, gl_8, gl_9, gl_10, gl_11, gl_12, gl_13, gl_14, gl_15, gl_16, gl_17, sk0i, sk0r, sk0n, sk1i, sk1r, sk1n, sk_2, sk_3, sk_4, sk_5, sk_6, sk_7, sk_8, sk_9, sk_10, sk_11, sk_12, sk_13, sk_14, sk_15, sk_16, sk_17, ls_0, ls_1, ls_2, ls_3, ls_4, ls_5, ls_6, ls_7, ls_8, ls_9, ls_10, ls_11, ls_12, ls_13, ls_14, ls_15, ls_16, ls_17, ct1_i, ct1_r, wd8_0, wd8_i1, wd8_r1, wd8_i2, wd8_r2, wd8_i3, wd8_r3, wd8_i4, wd8_r4, wd8_i5, wd8_r5, wd8_i6, wd8_r6, wd8_i7, wd8_r7, wd8_i8, wd8_r8, wd8_l2, wd8_l3, wd8_l4, wd8_l5, wd8_l6, wd8_l7, wd8_l8, tl_s, tl_n, inR_t, bd_t, true_and, and_true, true_or, or_true, if_true_x, if_false_x, if_pos, if_neg, Int.toNat_natCast, natL, bI_0, bI_1, bI_ft, eq_self, b_tf, b_ft, not_true_eq_false, not_false_eq_true, e18, hc.t57, hc.r57_0, hc.r57_1, hc.r57_2, hc.r57_3, hc.r57_4, hc.r57_5, hc.r57_6, hc.r57_7, hc.r57_8, hc.r57_9, hc.r57_10, hc.t7, hc.r7_2, hc.r7_4, hc.r7_5, hc.r7_6, hc.r7_7, hc.r7_8]
    exact hq h z gw ev w s
  | cons x M ih =>
    intro i u h x4 x5 hd hk g w s fx z gw ev hq
    rw [List.length_cons] at hk
    have hx : (rnL v)[i]? = some x := by
      have := List.getElem?_drop (xs := rnL v) (i := i) (j := 0)
      rw [hd] at this
      simpa using this.symm
    have hd2 : (rnL v).drop (i + 1) = M := by
      rw [← List.drop_drop, hd]
      rfl
    have xg := rnL_gd (List.mem_of_getElem? hx)
    obtain ⟨r, f, a, n⟩ := x
    obtain ⟨x1, f1, x3, xg⟩ := xg
    dsimp only at x1 f1 x3 xg
    have an : a + n ≤ 32 := by have := xg.2.1; dsimp only at this; omega
    obtain ⟨y1, y2, y3, y4⟩ := ro i _ hx
    dsimp only at y1 y2 y3 y4
    have e18 : h.2 7 3 = (rnL v).length := by rw [gw.2 7 (by omega)]; exact hn
    have z1 : h.1 9 i = r := by rw [gw.1 9 (by omega) (by omega) (by omega)]; exact y1
    have z3 : h.1 11 i = a := by rw [gw.1 11 (by omega) (by omega) (by omega)]; exact y3
    have z4 : h.1 12 i = n := by rw [gw.1 12 (by omega) (by omega) (by omega)]; exact y4
    have ins' : i < ns := by omega
    have xgu : gdR (fun s => decide (own u r s = f)) (u 0 1).toNat (a, n) := by
      rw [show (fun s => decide (own u r s = f)) = (fun s => decide (own v r s = f)) from funext fun st => by rw [own_fx s fx], s 0 (by decide) (by decide)]
      exact xg
    have l20 := ly_len g w f1 xgu
    have le := ly_eq g w f1 xgu
    have wi := WI_start g w s fx f1 xg
    rw [wnR] at hq
    dsimp only at hq
    rw [e_59_12]
    simp (disch := first | assumption | omega) only [e_59_13, e_59_14, e_59_15, e_59_16, e_59_17, e_59_18, e_59_19, e_59_20, e_59_21, onI_s, onR_s, onL_s, gl_0, gl_n, gl_1, gl_2, gl_3, gl_4, gl_5, gl_6, gl_7, gl_8, gl_9, gl_10, gl_11, gl_12, gl_13, gl_14, gl_15, gl_16, gl_17, sk0i, sk0r, sk0n, sk1i, sk1r, sk1n, sk_2, sk_3, sk_4, sk_5, sk_6, sk_7, sk_8, sk_9, sk_10, sk_11, sk_12, sk_13, sk_14, sk_15, sk_16, sk_17, ls_0, ls_1, ls_2, ls_3, ls_4, ls_5, ls_6, ls_7, ls_8, ls_9, ls_10, ls_11, ls_12, ls_13, ls_14, ls_15, ls_16, ls_17, ct1_i, ct1_r, wd8_0, wd8_i1, wd8_r1, wd8_i2, wd8_r2, wd8_i3, wd8_r3, wd8_i4, wd8_r4, wd8_i5, wd8_r5, wd8_i6, wd8_r6, wd8_i7, wd8_r7, wd8_i8, wd8_r8, wd8_l2, wd8_l3, wd8_l4, wd8_l5, wd8_l6, wd8_l7, wd8_l8, tl_s, tl_n, inR_t, bd_t, true_and, and_true, true_or, or_true, if_true_x, if_false_x, if_pos, if_neg, Int.toNat_natCast, natL, bI_0, bI_1, bI_ft, eq_self, b_tf, b_ft, not_true_eq_false, not_false_eq_true, e18, hc.t57, hc.r57_0, hc.r57_1, hc.r57_2, hc.r57_3, hc.r57_4, hc.r57_5, hc.r57_6, hc.r57_7, hc.r57_8, hc.r57_9, hc.r57_10, hc.t7, hc.r7_2, hc.r7_4, hc.r7_5, hc.r7_6, hc.r7_7, hc.r7_8, hp.t0, hp.t1, hp.t2, hp.t3, hp.t4, hp.t5, hp.t6, hp.t7, hp.t8, hp.t9, hp.t10, hp.t11, hp.t12, hp.t13, hp.t14, hp.t15, hp.t16, hp.t17, hp.t18, hp.t19, hp.t20, hp.t21, hp.t22, hp.t23, hp.z2, hp.z3, hp.z4, hp.z5, hp.z7, hp.z8, hp.z9, hp.z10, hp.z12, hp.z13, hp.z14, hp.z15, hp.z16, hp.z17, hp.z18, hp.z20, hp.z21, hp.z22, hp.z23, hp.r0_2, hp.r0_3, hp.r0_4, hp.r0_5, hp.r1_1, hp.r1_2, hp.r1_3, hp.r1_4, hp.r6_1, hp.r6_2, hp.r6_3, hp.r6_4, hp.r11_1, hp.r11_2, hp.r11_3, hp.r11_4, hp.r11_5, hp.r11_6, hp.r11_7, hp.r19_1, hp.r19_2, hp.r19_3, hp.r19_4]
    (rw [e_59_22]; refine ⟨⟨hc.t7, by simp [wd_i, wd_r, wd_l, wd_0]⟩, ?_⟩)
    refine m_39 hp (by omega) hc ev w z ins' ns256 z1 z3 z4 an (fun h1 l1 => ?_)
    rw [le] at l1 ⊢
    have g1 : GC7 h0 h1 := gw.tr (l1.2.1.gc7 (by omega))
    have t1 : h1.1 1 = h0.1 1 := g1.1 1 (by omega) (by omega) (by omega)
    simp (disch := first | assumption | omega) only [e_59_23, e_59_24, e_59_25, onI_s, onR_s, onL_s, gl_0, gl_n, gl_1, gl_2, gl_3, gl_4, gl_5, gl_6, gl_7, gl_8, gl_9, gl_10, gl_11, gl_12, gl_13, gl_14, gl_15, gl_16, gl_17, sk0i, sk0r, sk0n, sk1i, sk1r, sk1n, sk_2, sk_3, sk_4, sk_5, sk_6, sk_7, sk_8, sk_9, sk_10, sk_11, sk_12, sk_13, sk_14, sk_15, sk_16, sk_17, ls_0, ls_1, ls_2, ls_3, ls_4, ls_5, ls_6, ls_7, ls_8, ls_9, ls_10, ls_11, ls_12, ls_13, ls_14, ls_15, ls_16, ls_17, ct1_i, ct1_r, wd8_0, wd8_i1, wd8_r1, wd8_i2, wd8_r2, wd8_i3, wd8_r3, wd8_i4, wd8_r4, wd8_i5, wd8_r5, wd8_i6, wd8_r6, wd8_i7, wd8_r7, wd8_i8, wd8_r8, wd8_l2, wd8_l3, wd8_l4, wd8_l5, wd8_l6, wd8_l7, wd8_l8, tl_s, tl_n, inR_t, bd_t, true_and, and_true, true_or, or_true, if_true_x, if_false_x, if_pos, if_neg, Int.toNat_natCast, natL, bI_0, bI_1, bI_ft, eq_self, b_tf, b_ft, not_true_eq_false, not_false_eq_true]
    refine l_59j hp hc (t := t) (h0 := h1) gd k2 an xg (by omega) (by rw [t1]; exact tm) (by rw [t1]; exact et) ((lyL u r n a).length + 1 - k) 0 (lyL u r n a) u h1 (by omega) (by omega) rfl l20 wi l1.1 GC7.refl ((l1.2.1.cv (by omega) (by omega)).trans ev) l1.2.2 (fun h2 Ly2 x5 z2 g2 ev2 wi2 => ?_)
    rw [e_59_38]
    simp (disch := first | assumption | omega) only [e_59_39, onI_s, onR_s, onL_s, gl_0, gl_n, gl_1, gl_2, gl_3, gl_4, gl_5, gl_6, gl_7, gl_8, gl_9, gl_10, gl_11, gl_12, gl_13, gl_14, gl_15, gl_16, gl_17, sk0i, sk0r, sk0n, sk1i, sk1r, sk1n, sk_2, sk_3, sk_4, sk_5, sk_6, sk_7, sk_8, sk_9, sk_10, sk_11, sk_12, sk_13, sk_14, sk_15, sk_16, sk_17, ls_0, ls_1, ls_2, ls_3, ls_4, ls_5, ls_6, ls_7, ls_8, ls_9, ls_10, ls_11, ls_12, ls_13, ls_14, ls_15, ls_16, ls_17, ct1_i, ct1_r, wd8_0, wd8_i1, wd8_r1, wd8_i2, wd8_r2, wd8_i3, wd8_r3, wd8_i4, wd8_r4, wd8_i5, wd8_r5, wd8_i6, wd8_r6, wd8_i7, wd8_r7, wd8_i8, wd8_r8, wd8_l2, wd8_l3, wd8_l4, wd8_l5, wd8_l6, wd8_l7, wd8_l8, tl_s, tl_n, inR_t, bd_t, true_and, and_true, true_or, or_true, if_true_x, if_false_x, if_pos, if_neg, Int.toNat_natCast, natL, bI_0, bI_1, bI_ft, eq_self, b_tf, b_ft, not_true_eq_false, not_false_eq_true, cast_s]
    exact ih (i + 1) _ h2 _ _ hd2 (by omega) wi2.1 wi2.2.1 wi2.2.2.1 wi2.2.2.2.1 z2 (g1.tr g2) ev2 hq
set_option maxHeartbeats 8000000 in
theorem p_119 {k : Int} (ok : Ok X h) (g : Gd (cv h 200)) (tm : TMb (h.1 1)) (rf : RFb (h.1 3)) (hq : ∀ h2, Cst X h h2 → cS h2 = (spWin (cS h) k).2 → Q (some (vi (spWin (cS h) k).1)) h2) : Cl X 119 [vr 0, vi k] h Q := by
  have ok0 := ok
  obtain ⟨z, os, oc, om, ⟨nb, ln, hc, hnb⟩, lp⟩ := ok
  have hp : PL X 200 := lp 0 (by decide)
  have hw := g.rg
  have ws := hw.sites
  have wr := hw.rows
  have nF := hw.nF
  have tt := tm.tall
  have wb := wir_bd g.wg tt.1 tt.2
  unfold spWin at hq
  rw [show (cS h).1 = cv h 200 from rfl, show (cS h).2.1 = h.1 1 from rfl] at hq
  rw [c_119]
  by_cases c : 2 ≤ k ∧ k ≤ 4
  · rw [if_neg (fun q => q c)] at hq
    obtain ⟨kk, rfl⟩ : ∃ kk : Nat, k = kk := ⟨k.toNat, by omega⟩
    rw [Int.toNat_natCast] at hq
    obtain ⟨R, hR⟩ : ∃ R : Nat, cv h 200 0 0 = R := ⟨(cv h 200 0 0).toNat, by omega⟩
    obtain ⟨S, hS⟩ : ∃ S : Nat, cv h 200 0 1 = S := ⟨(cv h 200 0 1).toNat, by omega⟩
    obtain ⟨N, hN⟩ : ∃ N : Nat, cv h 200 6 0 = N := ⟨(cv h 200 6 0).toNat, by omega⟩
    have e0 : h.2 200 0 = cv h 200 0 0 := rfl
    have e1 : h.2 200 1 = cv h 200 0 1 := rfl
    have hns : (h.2 200 0 * h.2 200 1).toNat = R * S := by
      rw [e0, e1, hR, hS, ← Int.natCast_mul, Int.toNat_natCast]
    have ns256 : (h.2 200 0 * h.2 200 1).toNat ≤ 256 := by rw [hns]; exact Nat.mul_le_mul (by omega : R ≤ 8) (by omega : S ≤ 32)
    have ll : (rnL (cv h 200)).length ≤ (h.2 200 0 * h.2 200 1).toNat := by
      rw [hns]
      have := rnA_len (v := cv h 200) hS R
      unfold rnL
      rw [hR, Int.toNat_natCast]
      exact this
    simp (disch := first | assumption | omega) only [e_119_0, e_119_1, e_119_2, e_119_3, e_119_4, e_119_5, e_119_10, e_119_11, onI_s, onR_s, onL_s, gl_0, gl_n, gl_1, gl_2, gl_3, gl_4, gl_5, gl_6, gl_7, gl_8, gl_9, gl_10, gl_11, gl_12, gl_13, gl_14, gl_15, gl_16, gl_17, sk0i, sk0r, sk0n, sk1i, sk1r, sk1n, sk_2, sk_3, sk_4, sk_5, sk_6, sk_7, sk_8, sk_9, sk_10, sk_11, sk_12, sk_13, sk_14, sk_15, sk_16, sk_17, ls_0, ls_1, ls_2, ls_3, ls_4, ls_5, ls_6, ls_7, ls_8, ls_9, ls_10, ls_11, ls_12, ls_13, ls_14, ls_15, ls_16, ls_17, ct1_i, ct1_r, wd8_0, wd8_i1, wd8_r1, wd8_i2, wd8_r2, wd8_i3, wd8_r3, wd8_i4, wd8_r4, wd8_i5, wd8_r5, wd8_i6, wd8_r6, wd8_i7, wd8_r7, wd8_i8, wd8_r8, wd8_l2, wd8_l3, wd8_l4, wd8_l5, wd8_l6, wd8_l7, wd8_l8, tl_s, tl_n, inR_t, bd_t, true_and, and_true, true_or, or_true, if_true_x, if_false_x, if_pos, if_neg, Int.toNat_natCast, natL, bI_0, bI_1, bI_ft, eq_self, b_tf, b_ft, not_true_eq_false, not_false_eq_true]
    (rw [e_119_12]; refine ⟨⟨hc.t0, by simp [wd_i, wd_r, wd_l, wd_0]⟩, ?_⟩)
    refine kpC ok0 g (fun h2 kp => ?_)
    have o72 := kp.1.2.2.1.2.2.1
    have k200 := kp.2.2.2 200 (by omega) (by omega) (by omega) (by omega)
    simp (disch := first | assumption | omega) only [e_119_13, e_119_14, e_119_15, e_119_16, onI_s, onR_s, onL_s, gl_0, gl_n, gl_1, gl_2, gl_3, gl_4, gl_5, gl_6, gl_7, gl_8, gl_9, gl_10, gl_11, gl_12, gl_13, gl_14, gl_15, gl_16, gl_17, sk0i, sk0r, sk0n, sk1i, sk1r, sk1n, sk_2, sk_3, sk_4, sk_5, sk_6, sk_7, sk_8, sk_9, sk_10, sk_11, sk_12, sk_13, sk_14, sk_15, sk_16, sk_17, ls_0, ls_1, ls_2, ls_3, ls_4, ls_5, ls_6, ls_7, ls_8, ls_9, ls_10, ls_11, ls_12, ls_13, ls_14, ls_15, ls_16, ls_17, ct1_i, ct1_r, wd8_0, wd8_i1, wd8_r1, wd8_i2, wd8_r2, wd8_i3, wd8_r3, wd8_i4, wd8_r4, wd8_i5, wd8_r5, wd8_i6, wd8_r6, wd8_i7, wd8_r7, wd8_i8, wd8_r8, wd8_l2, wd8_l3, wd8_l4, wd8_l5, wd8_l6, wd8_l7, wd8_l8, tl_s, tl_n, inR_t, bd_t, true_and, and_true, true_or, or_true, if_true_x, if_false_x, if_pos, if_neg, Int.toNat_natCast, natL, bI_0, bI_1, bI_ft, eq_self, b_tf, b_ft, not_true_eq_false, not_false_eq_true, hc.t0, hc.r0_0, hc.r0_1, hc.r0_3, hc.r0_5, hc.r0_6, hc.r0_7, hc.r0_8, hc.r0_9, hc.r0_10, hc.r0_11, hc.r0_12, hc.r0_13]
    (rw [e_119_17]; refine ⟨⟨hc.t14, by simp [wd_i, wd_r, wd_l, wd_0]⟩, ?_⟩)
    refine wirC hp hc (by rw [kp.pv]; exact g.wg) (by rw [kp.t]; exact tm) (fun h3 q3 => ?_)
    rw [kp.pv, kp.t]
    have e3 := (q3.cv (b := 200) (by omega)).trans kp.pv
    have f3 := q3.fz kp.1.1
    have t3 : h3.1 1 = h.1 1 := by rw [q3.1]; exact kp.t
    have h71 : h3.2 7 1 = S := by rw [q3.2 7 (by omega), o72.2, k200.2, e1, hS]
    have h70 : h3.2 7 0 = R := by rw [q3.2 7 (by omega), o72.1, k200.2, e0, hR]
    simp (disch := first | assumption | omega) only [e_119_18, e_119_19, e_119_20, e_119_21, e_119_22, e_119_23, onI_s, onR_s, onL_s, gl_0, gl_n, gl_1, gl_2, gl_3, gl_4, gl_5, gl_6, gl_7, gl_8, gl_9, gl_10, gl_11, gl_12, gl_13, gl_14, gl_15, gl_16, gl_17, sk0i, sk0r, sk0n, sk1i, sk1r, sk1n, sk_2, sk_3, sk_4, sk_5, sk_6, sk_7, sk_8, sk_9, sk_10, sk_11, sk_12, sk_13, sk_14, sk_15, sk_16, sk_17, ls_0, ls_1, ls_2, ls_3, ls_4, ls_5, ls_6, ls_7, ls_8, ls_9, ls_10, ls_11, ls_12, ls_13, ls_14, ls_15, ls_16, ls_17, ct1_i, ct1_r, wd8_0, wd8_i1, wd8_r1, wd8_i2, wd8_r2, wd8_i3, wd8_r3, wd8_i4, wd8_r4, wd8_i5, wd8_r5, wd8_i6, wd8_r6, wd8_i7, wd8_r7, wd8_i8, wd8_r8, wd8_l2, wd8_l3, wd8_l4, wd8_l5, wd8_l6, wd8_l7, wd8_l8, tl_s, tl_n, inR_t, bd_t, true_and, and_true, true_or, or_true, if_true_x, if_false_x, if_pos, if_neg, Int.toNat_natCast, natL, bI_0, bI_1, bI_ft, eq_self, b_tf, b_ft, not_true_eq_false, not_false_eq_true, hc.t0, hc.r0_0, hc.r0_1, hc.r0_3, hc.r0_5, hc.r0_6, hc.r0_7, hc.r0_8, hc.r0_9, hc.r0_10, hc.r0_11, hc.r0_12, hc.r0_13]
    (rw [e_119_24]; refine ⟨⟨hc.t57, by simp [wd_i, wd_r, wd_l, wd_0]⟩, ?_⟩)
    rw [c_59]
    simp (disch := first | assumption | omega) only [e_59_0, e_59_1, e_59_2, onI_s, onR_s, onL_s, gl_0, gl_n, gl_1, gl_2, gl_3, gl_4, gl_5, gl_6, gl_7, gl_8, gl_9, gl_10, gl_11, gl_12, gl_13, gl_14, gl_15, gl_16, gl_17, sk0i, sk0r, sk0n, sk1i, sk1r, sk1n, sk_2, sk_3, sk_4, sk_5, sk_6, sk_7, sk_8, sk_9, sk_10, sk_11, sk_12, sk_13, sk_14, sk_15, sk_16, sk_17, ls_0, ls_1, ls_2, ls_3, ls_4, ls_5, ls_6, ls_7, ls_8, ls_9, ls_10, ls_11, ls_12, ls_13, ls_14, ls_15, ls_16, ls_17, ct1_i, ct1_r, wd8_0, wd8_i1, wd8_r1, wd8_i2, wd8_r2, wd8_i3, wd8_r3, wd8_i4, wd8_r4, wd8_i5, wd8_r5, wd8_i6, wd8_r6, wd8_i7, wd8_r7, wd8_i8, wd8_r8, wd8_l2, wd8_l3, wd8_l4, wd8_l5, wd8_l6, wd8_l7, wd8_l8, tl_s, tl_n, inR_t, bd_t, true_and, and_true, true_or, or_true, if_true_x, if_false_x, if_pos, if_neg, Int.toNat_natCast, natL, bI_0, bI_1, bI_ft, eq_self, b_tf, b_ft, not_true_eq_false, not_false_eq_true, hc.t57, hc.r57_0, hc.r57_1, hc.r57_2, hc.r57_3, hc.r57_4, hc.r57_5, hc.r57_6, hc.r57_7, hc.r57_8, hc.r57_9, hc.r57_10]
    (rw [e_59_3]; refine ⟨⟨hc.t7, by simp [wd_i, wd_r, wd_l, wd_0]⟩, ?_⟩)
    refine m_32 hp (by omega) hc (R := R) (S := S) (by rw [e3]; exact hR) (by rw [e3]; exact hS) h71 hns f3.1 (by rw [e3]; exact g.geo) (by rw [e3]; exact hw) (fun h4 z4 g4 p4 => ?_)
    rw [e3] at p4
    have e6 : h4.2 (200 + 6) 0 = N := by rw [g4.2, ← hN, ← e3]; rfl
    simp (disch := first | assumption | omega) only [e_59_4, e_59_5, e_59_6, e_59_7, e_59_8, onI_s, onR_s, onL_s, gl_0, gl_n, gl_1, gl_2, gl_3, gl_4, gl_5, gl_6, gl_7, gl_8, gl_9, gl_10, gl_11, gl_12, gl_13, gl_14, gl_15, gl_16, gl_17, sk0i, sk0r, sk0n, sk1i, sk1r, sk1n, sk_2, sk_3, sk_4, sk_5, sk_6, sk_7, sk_8, sk_9, sk_10, sk_11, sk_12, sk_13, sk_14, sk_15, sk_16, sk_17, ls_0, ls_1, ls_2, ls_3, ls_4, ls_5, ls_6, ls_7, ls_8, ls_9, ls_10, ls_11, ls_12, ls_13, ls_14, ls_15, ls_16, ls_17, ct1_i, ct1_r, wd8_0, wd8_i1, wd8_r1, wd8_i2, wd8_r2, wd8_i3, wd8_r3, wd8_i4, wd8_r4, wd8_i5, wd8_r5, wd8_i6, wd8_r6, wd8_i7, wd8_r7, wd8_i8, wd8_r8, wd8_l2, wd8_l3, wd8_l4, wd8_l5, wd8_l6, wd8_l7, wd8_l8, tl_s, tl_n, inR_t, bd_t, true_and, and_true, true_or, or_true, if_true_x, if_false_x, if_pos, if_neg, Int.toNat_natCast, natL, bI_0, bI_1, bI_ft, eq_self, b_tf, b_ft, not_true_eq_false, not_false_eq_true, e6, hc.t57, hc.r57_0, hc.r57_1, hc.r57_2, hc.r57_3, hc.r57_4, hc.r57_5, hc.r57_6, hc.r57_7, hc.r57_8, hc.r57_9, hc.r57_10, hp.t0, hp.t1, hp.t2, hp.t3, hp.t4, hp.t5, hp.t6, hp.t7, hp.t8, hp.t9, hp.t10, hp.t11, hp.t12, hp.t13, hp.t14, hp.t15, hp.t16, hp.t17, hp.t18, hp.t19, hp.t20, hp.t21, hp.t22, hp.t23, hp.z2, hp.z3, hp.z4, hp.z5, hp.z7, hp.z8, hp.z9, hp.z10, hp.z12, hp.z13, hp.z14, hp.z15, hp.z16, hp.z17, hp.z18, hp.z20, hp.z21, hp.z22, hp.z23, hp.r0_2, hp.r0_3, hp.r0_4, hp.r0_5, hp.r1_1, hp.r1_2, hp.r1_3, hp.r1_4, hp.r6_1, hp.r6_2, hp.r6_3, hp.r6_4, hp.r11_1, hp.r11_2, hp.r11_3, hp.r11_4, hp.r11_5, hp.r11_6, hp.r11_7, hp.r19_1, hp.r19_2, hp.r19_3, hp.r19_4]
    (rw [e_59_9]; refine ⟨⟨hc.t7, by simp [wd_i, wd_r, wd_l, wd_0]⟩, ?_⟩)
    refine m_37 (v := cv h 200) hc hns (by omega) (by omega) (by omega) (by rw [g4.2]; exact h71) (by rw [g4.2]; exact h70) hR hS hN p4 z4 (fun h5 s5 => ?_)
    have s6 := s5.sa g4
    have cv5 : cv h5 200 = cv h 200 := (s6.2.1.cv (by omega)).trans e3
    have t5 : h5.1 1 = h.1 1 := by rw [s6.2.1.1 1 (by omega)]; exact t3
    simp (disch := first | assumption | omega) only [e_59_10, e_59_11, onI_s, onR_s, onL_s, gl_0, gl_n, gl_1, gl_2, gl_3, gl_4, gl_5, gl_6, gl_7, gl_8, gl_9, gl_10, gl_11, gl_12, gl_13, gl_14, gl_15, gl_16, gl_17, sk0i, sk0r, sk0n, sk1i, sk1r, sk1n, sk_2, sk_3, sk_4, sk_5, sk_6, sk_7, sk_8, sk_9, sk_10, sk_11, sk_12, sk_13, sk_14, sk_15, sk_16, sk_17, ls_0, ls_1, ls_2, ls_3, ls_4, ls_5, ls_6, ls_7, ls_8, ls_9, ls_10, ls_11, ls_12, ls_13, ls_14, ls_15, ls_16, ls_17, ct1_i, ct1_r, wd8_0, wd8_i1, wd8_r1, wd8_i2, wd8_r2, wd8_i3, wd8_r3, wd8_i4, wd8_r4, wd8_i5, wd8_r5, wd8_i6, wd8_r6, wd8_i7, wd8_r7, wd8_i8, wd8_r8, wd8_l2, wd8_l3, wd8_l4, wd8_l5, wd8_l6, wd8_l7, wd8_l8, tl_s, tl_n, inR_t, bd_t, true_and, and_true, true_or, or_true, if_true_x, if_false_x, if_pos, if_neg, Int.toNat_natCast, natL, bI_0, bI_1, bI_ft, eq_self, b_tf, b_ft, not_true_eq_false, not_false_eq_true]
    refine l_59 hp hc (t := h.1 1 4) (h0 := h5) g (by omega) ns256 ll (by rw [t5]; exact tm) (by rw [t5]) s6.2.2.1 s6.2.2.2 (rnL (cv h 200)) 0 (cv h 200) h5 _ _ (by simp) (by omega) g.geo hw SJ.refl (fun _ _ _ => ⟨rfl, rfl⟩) s6.1 GC7.refl cv5 (fun h7 z7 g7 ev7 w7 sj7 => ?_)
    have f7 : Fz X h2 h7 := f3.tr ((s6.2.1.fz s6.1).tr (g7.fz z7))
    have t7 : h7.1 1 = h.1 1 := by rw [(f7.2.1 1 (by omega)).1]; exact kp.t
    have wgu : WG (wnR (h.1 1 4) kk (rnL (cv h 200)) (cv h 200)) := sj7.wg w7 g
    have wb2 := wir_bd wgu tt.1 tt.2
    simp (disch := first | assumption | omega) only [e_119_25, e_119_26, e_119_27, e_119_28, e_119_29, onI_s, onR_s, onL_s, gl_0, gl_n, gl_1, gl_2, gl_3, gl_4, gl_5, gl_6, gl_7, gl_8, gl_9, gl_10, gl_11, gl_12, gl_13, gl_14, gl_15, gl_16, gl_17, sk0i, sk0r, sk0n, sk1i, sk1r, sk1n, sk_2, sk_3, sk_4, sk_5, sk_6, sk_7, sk_8, sk_9, sk_10, sk_11, sk_12, sk_13, sk_14, sk_15, sk_16, sk_17, ls_0, ls_1, ls_2, ls_3, ls_4, ls_5, ls_6, ls_7, ls_8, ls_9, ls_10, ls_11, ls_12, ls_13, ls_14, ls_15, ls_16, ls_17, ct1_i, ct1_r, wd8_0, wd8_i1, wd8_r1, wd8_i2, wd8_r2, wd8_i3, wd8_r3, wd8_i4, wd8_r4, wd8_i5, wd8_r5, wd8_i6, wd8_r6, wd8_i7, wd8_r7, wd8_i8, wd8_r8, wd8_l2, wd8_l3, wd8_l4, wd8_l5, wd8_l6, wd8_l7, wd8_l8, tl_s, tl_n, inR_t, bd_t, true_and, and_true, true_or, or_true, if_true_x, if_false_x, if_pos, if_neg, Int.toNat_natCast, natL, bI_0, bI_1, bI_ft, eq_self, b_tf, b_ft, not_true_eq_false, not_false_eq_true, hc.t0, hc.r0_0, hc.r0_1, hc.r0_3, hc.r0_5, hc.r0_6, hc.r0_7, hc.r0_8, hc.r0_9, hc.r0_10, hc.r0_11, hc.r0_12, hc.r0_13]
    (rw [e_119_30]; refine ⟨⟨hc.t14, by simp [wd_i, wd_r, wd_l, wd_0]⟩, ?_⟩)
    refine wirC hp hc (by rw [ev7]; exact wgu) (by rw [t7]; exact tm) (fun h8 q8 => ?_)
    rw [ev7, t7]
    have e8 := (q8.cv (b := 200) (by omega)).trans ev7
    have f8 := q8.fz (X := X) f7.1
    simp (disch := first | assumption | omega) only [e_119_31, e_119_32, onI_s, onR_s, onL_s, gl_0, gl_n, gl_1, gl_2, gl_3, gl_4, gl_5, gl_6, gl_7, gl_8, gl_9, gl_10, gl_11, gl_12, gl_13, gl_14, gl_15, gl_16, gl_17, sk0i, sk0r, sk0n, sk1i, sk1r, sk1n, sk_2, sk_3, sk_4, sk_5, sk_6, sk_7, sk_8, sk_9, sk_10, sk_11, sk_12, sk_13, sk_14, sk_15, sk_16, sk_17, ls_0, ls_1, ls_2, ls_3, ls_4, ls_5, ls_6, ls_7, ls_8, ls_9, ls_10, ls_11, ls_12, ls_13, ls_14, ls_15, ls_16, ls_17, ct1_i, ct1_r, wd8_0, wd8_i1, wd8_r1, wd8_i2, wd8_r2, wd8_i3, wd8_r3, wd8_i4, wd8_r4, wd8_i5, wd8_r5, wd8_i6, wd8_r6, wd8_i7, wd8_r7, wd8_i8, wd8_r8, wd8_l2, wd8_l3, wd8_l4, wd8_l5, wd8_l6, wd8_l7, wd8_l8, tl_s, tl_n, inR_t, bd_t, true_and, and_true, true_or, or_true, if_true_x, if_false_x, if_pos, if_neg, Int.toNat_natCast, natL, bI_0, bI_1, bI_ft, eq_self, b_tf, b_ft, not_true_eq_false, not_false_eq_true]
    have ac := act_c (r := wir (cv h 200) (h.1 1 4) - wir (wnR (h.1 1 4) kk (rnL (cv h 200)) (cv h 200)) (h.1 1 4)) kp (f7.tr f8) e8
    exact hq h8 ac.1 ac.2
  · rw [if_pos c] at hq
    by_cases c0 : k < 2
    · simp (disch := first | assumption | omega) only [e_119_0, e_119_1, e_119_2, e_119_6, e_119_7, e_119_8, e_119_9, onI_s, onR_s, onL_s, gl_0, gl_n, gl_1, gl_2, gl_3, gl_4, gl_5, gl_6, gl_7, gl_8, gl_9, gl_10, gl_11, gl_12, gl_13, gl_14, gl_15, gl_16, gl_17, sk0i, sk0r, sk0n, sk1i, sk1r, sk1n, sk_2, sk_3, sk_4, sk_5, sk_6, sk_7, sk_8, sk_9, sk_10, sk_11, sk_12, sk_13, sk_14, sk_15, sk_16, sk_17, ls_0, ls_1, ls_2, ls_3, ls_4, ls_5, ls_6, ls_7, ls_8, ls_9, ls_10, ls_11, ls_12, ls_13, ls_14, ls_15, ls_16, ls_17, ct1_i, ct1_r, wd8_0, wd8_i1, wd8_r1, wd8_i2, wd8_r2, wd8_i3, wd8_r3, wd8_i4, wd8_r4, wd8_i5, wd8_r5, wd8_i6, wd8_r6, wd8_i7, wd8_r7, wd8_i8, wd8_r8, wd8_l2, wd8_l3, wd8_l4, wd8_l5, wd8_l6, wd8_l7, wd8_l8, tl_s, tl_n, inR_t, bd_t, true_and, and_true, true_or, or_true, if_true_x, if_false_x, if_pos, if_neg, Int.toNat_natCast, natL, bI_0, bI_1, bI_ft, eq_self, b_tf, b_ft, not_true_eq_false, not_false_eq_true, c0, rfC ok0 rf, hc.t0, hc.r0_0, hc.r0_1, hc.r0_3, hc.r0_5, hc.r0_6, hc.r0_7, hc.r0_8, hc.r0_9, hc.r0_10, hc.r0_11, hc.r0_12, hc.r0_13]
      exact hq _ (rH_st ok0 rf (by omega) (by omega)).1 (rH_st ok0 rf (by omega) (by omega)).2
    · have c1 : ¬ k ≤ 4 := by omega
      simp (disch := first | assumption | omega) only [e_119_0, e_119_1, e_119_2, e_119_3, e_119_4, e_119_5, e_119_6, e_119_7, e_119_8, e_119_9, onI_s, onR_s, onL_s, gl_0, gl_n, gl_1, gl_2, gl_3, gl_4, gl_5, gl_6, gl_7, gl_8, gl_9, gl_10, gl_11, gl_12, gl_13, gl_14, gl_15, gl_16, gl_17, sk0i, sk0r, sk0n, sk1i, sk1r, sk1n, sk_2, sk_3, sk_4, sk_5, sk_6, sk_7, sk_8, sk_9, sk_10, sk_11, sk_12, sk_13, sk_14, sk_15, sk_16, sk_17, ls_0, ls_1, ls_2, ls_3, ls_4, ls_5, ls_6, ls_7, ls_8, ls_9, ls_10, ls_11, ls_12, ls_13, ls_14, ls_15, ls_16, ls_17, ct1_i, ct1_r, wd8_0, wd8_i1, wd8_r1, wd8_i2, wd8_r2, wd8_i3, wd8_r3, wd8_i4, wd8_r4, wd8_i5, wd8_r5, wd8_i6, wd8_r6, wd8_i7, wd8_r7, wd8_i8, wd8_r8, wd8_l2, wd8_l3, wd8_l4, wd8_l5, wd8_l6, wd8_l7, wd8_l8, tl_s, tl_n, inR_t, bd_t, true_and, and_true, true_or, or_true, if_true_x, if_false_x, if_pos, if_neg, Int.toNat_natCast, natL, bI_0, bI_1, bI_ft, eq_self, b_tf, b_ft, not_true_eq_false, not_false_eq_true, c0, c1, rfC ok0 rf, hc.t0, hc.r0_0, hc.r0_1, hc.r0_3, hc.r0_5, hc.r0_6, hc.r0_7, hc.r0_8, hc.r0_9, hc.r0_10, hc.r0_11, hc.r0_12, hc.r0_13]
      exact hq _ (rH_st ok0 rf (by omega) (by omega)).1 (rH_st ok0 rf (by omega) (by omega)).2
end WND
