/-! PACKING in the class: the cheapest run -/
def GP (h h2 : xH) : Prop := (∀ a, a ≠ 34 → a < 36 ∨ 56 < a → h2.1 a = h.1 a) ∧ h2.2 = h.2
theorem GP.refl {h : xH} : GP h h := ⟨fun _ _ _ => rfl, rfl⟩
theorem GP.tr {h h2 h3 : xH} (g : GP h h2) (k : GP h2 h3) : GP h h3 := ⟨fun a q r => (k.1 a q r).trans (g.1 a q r), k.2.trans g.2⟩
theorem GP.cv {h h2 : xH} {b : Nat} (g : GP h h2) (hb : 200 ≤ b) : cv h2 b = cv h b := cv_congr (fun j q1 q2 => ⟨g.1 j (by omega) (by omega), by rw [g.2]⟩)
theorem GP.gz {h h2 : xH} (g : GP h h2) : GZ h h2 := ⟨fun a q => g.1 a (by omega) (by omega), fun a k q => by rw [g.2]⟩
theorem G1.gp {h h2 : xH} (g : G1 34 h h2) : GP h h2 := ⟨fun a q _ => g.1 a q, g.2⟩
theorem GT.gp {h h2 : xH} (g : GT h h2) : GP h h2 := ⟨fun a _ q => g.1 a q, g.2⟩
/-- how far the packing has come: those that have their run -/
def PS (h : xH) (v : Nat → Nat → Int) (go : List (Nat × Nat)) : Prop := h.2 7 3 = (rnL v).length ∧ RO (h.1 9) (h.1 10) (h.1 11) (h.1 12) (rnL v) ∧ GW (h.1 30) (h.1 31) go ∧ ∀ (k : Nat) (x : Rn), (rnL v)[k]? = some x → h.1 33 k = sW v (smK go k) ∧ h.1 32 k = tb v x.2.2.1 x.2.2.2 fRp (smK go k) 0
theorem PS.gp {h h2 : xH} {v : Nat → Nat → Int} {go : List (Nat × Nat)} (p : PS h v go) (g : GP h h2) : PS h2 v go := by
  unfold PS
  rw [g.1 9 (by omega) (by omega), g.1 10 (by omega) (by omega), g.1 11 (by omega) (by omega), g.1 12 (by omega) (by omega), g.1 30 (by omega) (by omega), g.1 31 (by omega) (by omega), g.1 32 (by omega) (by omega), g.1 33 (by omega) (by omega), g.2]
  exact p
section PKD
variable {X : xL} {Q : Option xV → xH → Prop} {ns nb ln b : Nat} {h : xH}
theorem smK_20 {A B : Nat → Int} {go : List (Nat × Nat)} (gw : GW A B go) {k : Nat} : ∀ c, c ∈ smK go k → c < 20 := fun c hc => by
  obtain ⟨i, hi⟩ := List.mem_iff_getElem?.mp (smK_mem hc)
  exact (gw i _ hi).2.2
set_option maxHeartbeats 16000000 in
theorem l_53 (hp : PL X b) (b200 : 200 ≤ b) (hc : CT X ns nb ln) {v : Nat → Nat → Int} (w : RGv v) {tl : Int} (t0 : 0 ≤ tl) (t1 : tl ≤ 8) (ns256 : ns ≤ 256) (lns : (rnL v).length ≤ ns) {go : List (Nat × Nat)} (g20 : go.length < 20) (ft : FT v go) {c : Nat} (c20 : c < 20) {h0 : xH} (ev : cv h0 b = v) (ps : PS h0 v go) (et : h0.1 1 4 = tl) : ∀ (M : List Rn) (k : Nat) (its lea : Int) (h : xH) (x8 x9 x10 : Option xV), (rnL v).drop k = M → k + M.length = (rnL v).length → NZ X h → GP h0 h → (∀ h2, NZ X h2 → GP h0 h2 → Q (some (vi (chS v tl go c M k its lea))) h2) → Ev X 53 16 [some (vr 29), some (vr (b + 11)), some (vi (go.length : Int)), some (vi c), some (vi (v 12 c)), some (vi its), some (vi lea), some (vi k), x8, x9, x10] [] h Q := by
  have wc := w.wid c
  have wy := w.wy c
  intro M
  induction M with
  | nil =>
    intro k its lea h x8 x9 x10 hd hk z g hq
    simp at hk
    have p := ps.gp g
    rw [e_53_16]
    simp (disch := first | assumption | omega) only [e_53_17, e_53_18, e_53_19, e_53_20, e_53_100, e_53_101, onI_s, onR_s, onL_s, gl_0, gl_n, gl_1, gl_2, gl_3, gl_4, gl_5, gl_6, gl_7, gl_8, gl_9, gl_10, gl_11, gl_12, gl_13, gl_14, gl_15, gl_16, gl_17, sk0i, sk0r, sk0n, sk1i, sk1r, sk1n, sk_2, sk_3, sk_4, sk_5, sk_6, sk_7, sk_8, sk_9, sk_10, sk_11, sk_12, sk_13, sk_14, sk_15, sk_16, sk_17, ls_0, ls_1, ls_2, ls_3, ls_4, ls_5, ls_6, ls_7, ls_8, ls_9, ls_10, ls_11, ls_12, ls_13, ls_14, ls_15, ls_16, ls_17, ct1_i, ct1_r, wd8_0, wd8_i1, wd8_r1, wd8_i2, wd8_r2, wd8_i3, wd8_r3, wd8_i4, wd8_r4, wd8_i5, wd8_r5, wd8_i6, wd8_r6, wd8_i7, wd8_r7, wd8_i8, wd8_r8, wd8_l2, wd8_l3, wd8_l4, wd8_l5, wd8_l6, wd8_l7, wd8_l8, tl_s, tl_n, inR_t, bd_t, true_and, and_true, true_or, or_true, if_true_x, if_false_x, if_pos, if_neg, Int.toNat_natCast, natL, bI_0, bI_1, bI_ft, eq_self, b_tf, b_ft, not_true_eq_false, not_false_eq_true, p.1, hc.t29, hc.r29_0, hc.r29_1, hc.r29_2, hc.r29_4, hc.r29_5, hc.r29_6, hc.r29_7, hc.r29_8, hc.t7, hc.r7_2, hc.r7_4, hc.r7_5, hc.r7_6, hc.r7_7, hc.r7_8]
    exact hq h z g
  | cons x M ih =>
    intro k its lea h x8 x9 x10 hd hk z g hq
    rw [List.length_cons] at hk
    have hx : (rnL v)[k]? = some x := by
      have := List.getElem?_drop (xs := rnL v) (i := k) (j := 0)
      rw [hd] at this
      simpa using this.symm
    have hd2 : (rnL v).drop (k + 1) = M := by
      rw [← List.drop_drop, hd]
      rfl
    have p := ps.gp g
    have n3 := p.1
    obtain ⟨y1, y2, y3, y4⟩ := p.2.1 k x hx
    obtain ⟨u1, u2⟩ := p.2.2.2 k x hx
    have cvh : cv h b = v := (g.cv b200).trans ev
    have wh : RGv (cv h b) := by rw [cvh]; exact w
    have e12 : h.1 (b + 12) c = v 12 c := by rw [← cvh]; rfl
    have e13 : h.1 (b + 13) c = v 13 c := by rw [← cvh]; rfl
    have e16 : h.1 (b + 16) c = v 16 c := by rw [← cvh]; rfl
    have kns : k < ns := by omega
    obtain ⟨r8, an⟩ := rnL_ok w x (List.mem_of_getElem? hx)
    have fx := ft k x hx
    have sg := sW_ge w (smK go k)
    have sl := smK_len (go := go) (k := k)
    rw [chS] at hq
    rw [e_53_16]
    by_cases c1 : x.2.1 = v 13 c
    · by_cases c2 : sW v (smK go k) + v 12 c ≤ x.2.2.2
      · have ce : chE v (smK go k) c x = true := decide_eq_true ⟨c1, c2⟩
        have pb := prc_bd w t0 t1 (x := x) (M := smK go k) (c := c) r8 an (by omega) c2
        simp (disch := first | assumption | omega) only [e_53_17, e_53_18, e_53_19, e_53_20, e_53_21, e_53_22, e_53_23, e_53_24, e_53_25, e_53_26, e_53_27, e_53_28, e_53_29, e_53_30, e_53_31, e_53_32, e_53_33, e_53_34, e_53_35, e_53_36, e_53_37, e_53_38, e_53_39, e_53_40, e_53_41, e_53_42, e_53_43, e_53_44, e_53_45, onI_s, onR_s, onL_s, gl_0, gl_n, gl_1, gl_2, gl_3, gl_4, gl_5, gl_6, gl_7, gl_8, gl_9, gl_10, gl_11, gl_12, gl_13, gl_14, gl_15, gl_16, gl_17, sk0i, sk0r, sk0n, sk1i, sk1r, sk1n, sk_2, sk_3, sk_4, sk_5, sk_6, sk_7, sk_8, sk_9, sk_10, sk_11, sk_12, sk_13, sk_14, sk_15, sk_16, sk_17, ls_0, ls_1, ls_2, ls_3, ls_4, ls_5, ls_6, ls_7, ls_8, ls_9, ls_10, ls_11, ls_12, ls_13, ls_14, ls_15, ls_16, ls_17, ct1_i, ct1_r, wd8_0, wd8_i1, wd8_r1, wd8_i2, wd8_r2, wd8_i3, wd8_r3, wd8_i4, wd8_r4, wd8_i5, wd8_r5, wd8_i6, wd8_r6, wd8_i7, wd8_r7, wd8_i8, wd8_r8, wd8_l2, wd8_l3, wd8_l4, wd8_l5, wd8_l6, wd8_l7, wd8_l8, tl_s, tl_n, inR_t, bd_t, true_and, and_true, true_or, or_true, if_true_x, if_false_x, if_pos, if_neg, Int.toNat_natCast, natL, bI_0, bI_1, bI_ft, eq_self, b_tf, b_ft, not_true_eq_false, not_false_eq_true, n3, y2, e13, c1, u1, y4, c2, hc.t29, hc.r29_0, hc.r29_1, hc.r29_2, hc.r29_4, hc.r29_5, hc.r29_6, hc.r29_7, hc.r29_8, hc.t7, hc.r7_2, hc.r7_4, hc.r7_5, hc.r7_6, hc.r7_7, hc.r7_8, hc.t9, hc.z9, hc.t10, hc.z10, hc.t11, hc.z11, hc.t12, hc.z12, hc.t33, hc.z33, hp.t0, hp.t1, hp.t2, hp.t3, hp.t4, hp.t5, hp.t6, hp.t7, hp.t8, hp.t9, hp.t10, hp.t11, hp.t12, hp.t13, hp.t14, hp.t15, hp.t16, hp.t17, hp.t18, hp.t19, hp.t20, hp.t21, hp.t22, hp.t23, hp.z2, hp.z3, hp.z4, hp.z5, hp.z7, hp.z8, hp.z9, hp.z10, hp.z12, hp.z13, hp.z14, hp.z15, hp.z16, hp.z17, hp.z18, hp.z20, hp.z21, hp.z22, hp.z23, hp.r0_2, hp.r0_3, hp.r0_4, hp.r0_5, hp.r1_1, hp.r1_2, hp.r1_3, hp.r1_4, hp.r6_1, hp.r6_2, hp.r6_3, hp.r6_4, hp.r11_1, hp.r11_2, hp.r11_3, hp.r11_4, hp.r11_5, hp.r11_6, hp.r11_7, hp.r19_1, hp.r19_2, hp.r19_3, hp.r19_4]
        (rw [e_53_46]; refine ⟨⟨hc.t29, by simp [wd_i, wd_r, wd_l, wd_0]⟩, ?_⟩)
        refine m_52 hc (by omega) p.2.2.1 z (fun h1 z1 g1 r1 => ?_)
        have q1 : h1.1 9 k = x.1 := by rw [g1.1 9 (by omega)]; exact y1
        have q16 : h1.1 (b + 16) c = v 16 c := by rw [g1.1 (b + 16) (by omega)]; exact e16
        have ir : inR (-(16 * (x.1 : Int) - v 16 c)) := by unfold inR; omega
        simp (disch := first | assumption | omega) only [e_53_47, e_53_48, e_53_49, e_53_50, e_53_51, e_53_52, onI_s, onR_s, onL_s, gl_0, gl_n, gl_1, gl_2, gl_3, gl_4, gl_5, gl_6, gl_7, gl_8, gl_9, gl_10, gl_11, gl_12, gl_13, gl_14, gl_15, gl_16, gl_17, sk0i, sk0r, sk0n, sk1i, sk1r, sk1n, sk_2, sk_3, sk_4, sk_5, sk_6, sk_7, sk_8, sk_9, sk_10, sk_11, sk_12, sk_13, sk_14, sk_15, sk_16, sk_17, ls_0, ls_1, ls_2, ls_3, ls_4, ls_5, ls_6, ls_7, ls_8, ls_9, ls_10, ls_11, ls_12, ls_13, ls_14, ls_15, ls_16, ls_17, ct1_i, ct1_r, wd8_0, wd8_i1, wd8_r1, wd8_i2, wd8_r2, wd8_i3, wd8_r3, wd8_i4, wd8_r4, wd8_i5, wd8_r5, wd8_i6, wd8_r6, wd8_i7, wd8_r7, wd8_i8, wd8_r8, wd8_l2, wd8_l3, wd8_l4, wd8_l5, wd8_l6, wd8_l7, wd8_l8, tl_s, tl_n, inR_t, bd_t, true_and, and_true, true_or, or_true, if_true_x, if_false_x, if_pos, if_neg, Int.toNat_natCast, natL, bI_0, bI_1, bI_ft, eq_self, b_tf, b_ft, not_true_eq_false, not_false_eq_true, hc.t29, hc.r29_0, hc.r29_1, hc.r29_2, hc.r29_4, hc.r29_5, hc.r29_6, hc.r29_7, hc.r29_8, hc.t7, hc.r7_2, hc.r7_4, hc.r7_5, hc.r7_6, hc.r7_7, hc.r7_8, hc.t9, hc.z9, hc.t34, hc.z34, hp.t0, hp.t1, hp.t2, hp.t3, hp.t4, hp.t5, hp.t6, hp.t7, hp.t8, hp.t9, hp.t10, hp.t11, hp.t12, hp.t13, hp.t14, hp.t15, hp.t16, hp.t17, hp.t18, hp.t19, hp.t20, hp.t21, hp.t22, hp.t23, hp.z2, hp.z3, hp.z4, hp.z5, hp.z7, hp.z8, hp.z9, hp.z10, hp.z12, hp.z13, hp.z14, hp.z15, hp.z16, hp.z17, hp.z18, hp.z20, hp.z21, hp.z22, hp.z23, hp.r0_2, hp.r0_3, hp.r0_4, hp.r0_5, hp.r1_1, hp.r1_2, hp.r1_3, hp.r1_4, hp.r6_1, hp.r6_2, hp.r6_3, hp.r6_4, hp.r11_1, hp.r11_2, hp.r11_3, hp.r11_4, hp.r11_5, hp.r11_6, hp.r11_7, hp.r19_1, hp.r19_2, hp.r19_3, hp.r19_4]
        obtain ⟨h2, e2⟩ : ∃ h2 : xH, h2 = (up2 h1.1 34 (smK go k).length c, h1.2) := ⟨_, rfl⟩
        rw [← e2]
        have z2 : NZ X h2 := by rw [e2]; exact NZ.up (I := h1.1) (F := h1.2) z1 (by rw [hc.z34]; omega)
        have g2 : G1 34 h1 h2 := by rw [e2]; exact ⟨fun a q => up2_of q, rfl⟩
        have r2 : R1 (h2.1 34) (smK go k ++ [c]) := by rw [e2]; exact R1.snoc r1 (fun k => by dsimp only; rw [up2_same])
        have g02 : GP h h2 := (g1.tr g2).gp
        have cv2 : cv h2 b = v := (g02.cv b200).trans cvh
        have lL : (smK go k ++ [c]).length = (smK go k).length + 1 := by simp
        have w3 : h2.1 11 k = x.2.2.1 := by rw [g02.1 11 (by omega) (by omega)]; exact y3
        have w4 : h2.1 12 k = x.2.2.2 := by rw [g02.1 12 (by omega) (by omega)]; exact y4
        have p1 : h2.1 9 k = x.1 := by rw [g2.1 9 (by omega)]; exact q1
        have p16 : h2.1 (b + 16) c = v 16 c := by rw [g2.1 (b + 16) (by omega)]; exact q16
        simp (disch := first | assumption | omega) only [e_53_53, e_53_54, e_53_55, e_53_56, e_53_57, e_53_58, e_53_59, e_53_60, e_53_61, e_53_62, e_53_63, e_53_64, e_53_65, e_53_66, e_53_67, e_53_68, e_53_69, e_53_70, e_53_71, e_53_72, e_53_73, e_53_74, onI_s, onR_s, onL_s, gl_0, gl_n, gl_1, gl_2, gl_3, gl_4, gl_5, gl_6, gl_7, gl_8, gl_9, gl_10, gl_11, gl_12, gl_13, gl_14, gl_15, gl_16, gl_17, sk0i, sk0r, sk0n, sk1i, sk1r, sk1n, sk_2, sk_3, sk_4, sk_5, sk_6, sk_7, sk_8, sk_9, sk_10, sk_11, sk_12, sk_13, sk_14, sk_15, sk_16, sk_17, ls_0, ls_1, ls_2, ls_3, ls_4, ls_5, ls_6, ls_7, ls_8, ls_9, ls_10, ls_11, ls_12, ls_13, ls_14, ls_15, ls_16, ls_17, ct1_i, ct1_r, wd8_0, wd8_i1, wd8_r1, wd8_i2, wd8_r2, wd8_i3, wd8_r3, wd8_i4, wd8_r4, wd8_i5, wd8_r5, wd8_i6, wd8_r6, wd8_i7, wd8_r7, wd8_i8, wd8_r8, wd8_l2, wd8_l3, wd8_l4, wd8_l5, wd8_l6, wd8_l7, wd8_l8, tl_s, tl_n, inR_t, bd_t, true_and, and_true, true_or, or_true, if_true_x, if_false_x, if_pos, if_neg, Int.toNat_natCast, natL, bI_0, bI_1, bI_ft, eq_self, b_tf, b_ft, not_true_eq_false, not_false_eq_true, p1, p16, m_283 ir, cast_s, hc.t29, hc.r29_0, hc.r29_1, hc.r29_2, hc.r29_4, hc.r29_5, hc.r29_6, hc.r29_7, hc.r29_8, hc.t7, hc.r7_2, hc.r7_4, hc.r7_5, hc.r7_6, hc.r7_7, hc.r7_8, hc.t9, hc.z9, hp.t0, hp.t1, hp.t2, hp.t3, hp.t4, hp.t5, hp.t6, hp.t7, hp.t8, hp.t9, hp.t10, hp.t11, hp.t12, hp.t13, hp.t14, hp.t15, hp.t16, hp.t17, hp.t18, hp.t19, hp.t20, hp.t21, hp.t22, hp.t23, hp.z2, hp.z3, hp.z4, hp.z5, hp.z7, hp.z8, hp.z9, hp.z10, hp.z12, hp.z13, hp.z14, hp.z15, hp.z16, hp.z17, hp.z18, hp.z20, hp.z21, hp.z22, hp.z23, hp.r0_2, hp.r0_3, hp.r0_4, hp.r0_5, hp.r1_1, hp.r1_2, hp.r1_3, hp.r1_4, hp.r6_1, hp.r6_2, hp.r6_3, hp.r6_4, hp.r11_1, hp.r11_2, hp.r11_3, hp.r11_4, hp.r11_5, hp.r11_6, hp.r11_7, hp.r19_1, hp.r19_2, hp.r19_3, hp.r19_4]
        rw [← lL]
        (rw [e_53_75]; refine ⟨⟨hc.t29, by simp [wd_i, wd_r, wd_l, wd_0]⟩, ?_⟩)
        refine m_48 hp b200 hc cv2 w z2 hc.t34 hc.z34 (by omega) r2 (by omega) (by omega) (fun d hd => by
          rcases List.mem_append.mp hd with q | q
          · exact smK_20 p.2.2.1 d q
          · simp at q; omega) kns ns256 w3 w4 an (fun h4 z4 g4 tr => ?_)
        have g04 : GP h h4 := g02.tr g4.gp
        have s1 := tb_same (F := fC) (G := fRp) w an (by decide) (by decide) (L := smK go k ++ [c]) (s := 0) (by omega) (by rw [sW_app]; show _ + (_ + (v 12 c + 0)) ≤ _; omega)
        rw [s1]
        have u4 : h4.1 32 k = tb v x.2.2.1 x.2.2.2 fRp (smK go k) 0 := by rw [g04.1 32 (by omega) (by omega)]; exact u2
        have t4 : h4.1 1 4 = tl := by rw [g04.1 1 (by omega) (by omega), g.1 1 (by omega) (by omega)]; exact et
        have ep : tb v x.2.2.1 x.2.2.2 fRp (smK go k ++ [c]) 0 - tb v x.2.2.1 x.2.2.2 fRp (smK go k) 0 + v 12 c * tl * ((16 * (x.1 : Int) - v 16 c).natAbs : Int) = prc v tl x (smK go k) c := rfl
        have yb := pY_bd w t0 t1 (c := c) r8
        have yb1 : 0 ≤ v 12 c * tl * ((16 * (x.1 : Int) - v 16 c).natAbs : Int) ∧ v 12 c * tl * ((16 * (x.1 : Int) - v 16 c).natAbs : Int) ≤ 6144 := ⟨yb.1, yb.2.1⟩
        have tb1 := tb_ge (F := fRp) w an (by decide) (smK go k) 0
        have tb2 := tb_le (v := v) (a := x.2.2.1) (n := x.2.2.2) (F := fRp) (smK go k) 0 (by decide)
        have tb3 := tb_ge (F := fRp) w an (by decide) (smK go k ++ [c]) 0
        have tb4 := tb_le (v := v) (a := x.2.2.1) (n := x.2.2.2) (F := fRp) (smK go k ++ [c]) 0 (by decide)
        rw [show fRp = 100000000 from rfl] at tb2 tb4
        by_cases c3 : prc v tl x (smK go k) c < lea
        · rw [if_pos ⟨ce, c3⟩] at hq
          simp (disch := first | assumption | omega) only [e_53_76, e_53_77, e_53_78, e_53_79, e_53_80, e_53_81, e_53_82, e_53_83, e_53_84, e_53_85, e_53_86, e_53_87, e_53_88, e_53_89, e_53_90, e_53_91, e_53_92, e_53_93, e_53_94, e_53_95, e_53_96, e_53_97, e_53_98, e_53_99, onI_s, onR_s, onL_s, gl_0, gl_n, gl_1, gl_2, gl_3, gl_4, gl_5, gl_6, gl_7, gl_8, gl_9, gl_10, gl_11, gl_12, gl_13, gl_14, gl_15, gl_16, gl_17, sk0i, sk0r, sk0n, sk1i, sk1r, sk1n, sk_2, sk_3, sk_4, sk_5, sk_6, sk_7, sk_8, sk_9, sk_10, sk_11, sk_12, sk_13, sk_14, sk_15, sk_16, sk_17, ls_0, ls_1, ls_2, ls_3, ls_4, ls_5, ls_6, ls_7, ls_8, ls_9, ls_10, ls_11, ls_12, ls_13, ls_14, ls_15, ls_16, ls_17, ct1_i, ct1_r, wd8_0, wd8_i1, wd8_r1, wd8_i2, wd8_r2, wd8_i3, wd8_r3, wd8_i4, wd8_r4, wd8_i5, wd8_r5, wd8_i6, wd8_r6, wd8_i7, wd8_r7, wd8_i8, wd8_r8, wd8_l2, wd8_l3, wd8_l4, wd8_l5, wd8_l6, wd8_l7, wd8_l8, tl_s, tl_n, inR_t, bd_t, true_and, and_true, true_or, or_true, if_true_x, if_false_x, if_pos, if_neg, Int.toNat_natCast, natL, bI_0, bI_1, bI_ft, eq_self, b_tf, b_ft, not_true_eq_false, not_false_eq_true, u4, t4, ep, c3, tn_4, cast_s, hc.t29, hc.r29_0, hc.r29_1, hc.r29_2, hc.r29_4, hc.r29_5, hc.r29_6, hc.r29_7, hc.r29_8, hc.t1, hc.z1, hc.t32, hc.z32]
          exact ih (k + 1) k (prc v tl x (smK go k) c) h4 _ _ _ hd2 (by omega) z4 (g.tr g04) hq
        · rw [if_neg (fun q => c3 q.2)] at hq
          simp (disch := first | assumption | omega) only [e_53_76, e_53_77, e_53_78, e_53_79, e_53_80, e_53_81, e_53_82, e_53_83, e_53_84, e_53_85, e_53_86, e_53_87, e_53_88, e_53_89, e_53_90, e_53_91, e_53_92, e_53_93, e_53_98, e_53_99, onI_s, onR_s, onL_s, gl_0, gl_n, gl_1, gl_2, gl_3, gl_4, gl_5, gl_6, gl_7, gl_8, gl_9, gl_10, gl_11, gl_12, gl_13, gl_14, gl_15, gl_16, gl_17, sk0i, sk0r, sk0n, sk1i, sk1r, sk1n, sk_2, sk_3, sk_4, sk_5, sk_6, sk_7, sk_8, sk_9, sk_10, sk_11, sk_12, sk_13, sk_14, sk_15, sk_16, sk_17, ls_0, ls_1, ls_2, ls_3, ls_4, ls_5, ls_6, ls_7, ls_8, ls_9, ls_10, ls_11, ls_12, ls_13, ls_14, ls_15, ls_16, ls_17, ct1_i, ct1_r, wd8_0, wd8_i1, wd8_r1, wd8_i2, wd8_r2, wd8_i3, wd8_r3, wd8_i4, wd8_r4, wd8_i5, wd8_r5, wd8_i6, wd8_r6, wd8_i7, wd8_r7, wd8_i8, wd8_r8, wd8_l2, wd8_l3, wd8_l4, wd8_l5, wd8_l6, wd8_l7, wd8_l8, tl_s, tl_n, inR_t, bd_t, true_and, and_true, true_or, or_true, if_true_x, if_false_x, if_pos, if_neg, Int.toNat_natCast, natL, bI_0, bI_1, bI_ft, eq_self, b_tf, b_ft, not_true_eq_false, not_false_eq_true, u4, t4, ep, c3, tn_4, cast_s, hc.t29, hc.r29_0, hc.r29_1, hc.r29_2, hc.r29_4, hc.r29_5, hc.r29_6, hc.r29_7, hc.r29_8, hc.t1, hc.z1, hc.t32, hc.z32]
          exact ih (k + 1) its lea h4 _ _ _ hd2 (by omega) z4 (g.tr g04) hq
      · have ce : ¬ chE v (smK go k) c x = true := fun q => c2 (of_decide_eq_true q).2
        rw [if_neg (fun q => ce q.1)] at hq
        have c2' : ¬ sW v (smK go k) + v 12 c ≤ (x.2.2.2 : Int) := c2
        simp (disch := first | assumption | omega) only [e_53_17, e_53_18, e_53_19, e_53_20, e_53_21, e_53_22, e_53_23, e_53_24, e_53_25, e_53_26, e_53_27, e_53_28, e_53_29, e_53_30, e_53_31, e_53_32, e_53_33, e_53_34, e_53_35, e_53_36, e_53_37, e_53_38, e_53_39, e_53_40, e_53_41, e_53_42, e_53_98, e_53_99, onI_s, onR_s, onL_s, gl_0, gl_n, gl_1, gl_2, gl_3, gl_4, gl_5, gl_6, gl_7, gl_8, gl_9, gl_10, gl_11, gl_12, gl_13, gl_14, gl_15, gl_16, gl_17, sk0i, sk0r, sk0n, sk1i, sk1r, sk1n, sk_2, sk_3, sk_4, sk_5, sk_6, sk_7, sk_8, sk_9, sk_10, sk_11, sk_12, sk_13, sk_14, sk_15, sk_16, sk_17, ls_0, ls_1, ls_2, ls_3, ls_4, ls_5, ls_6, ls_7, ls_8, ls_9, ls_10, ls_11, ls_12, ls_13, ls_14, ls_15, ls_16, ls_17, ct1_i, ct1_r, wd8_0, wd8_i1, wd8_r1, wd8_i2, wd8_r2, wd8_i3, wd8_r3, wd8_i4, wd8_r4, wd8_i5, wd8_r5, wd8_i6, wd8_r6, wd8_i7, wd8_r7, wd8_i8, wd8_r8, wd8_l2, wd8_l3, wd8_l4, wd8_l5, wd8_l6, wd8_l7, wd8_l8, tl_s, tl_n, inR_t, bd_t, true_and, and_true, true_or, or_true, if_true_x, if_false_x, if_pos, if_neg, Int.toNat_natCast, natL, bI_0, bI_1, bI_ft, eq_self, b_tf, b_ft, not_true_eq_false, not_false_eq_true, n3, y2, e13, c1, u1, y4, c2', cast_s, hc.t29, hc.r29_0, hc.r29_1, hc.r29_2, hc.r29_4, hc.r29_5, hc.r29_6, hc.r29_7, hc.r29_8, hc.t7, hc.r7_2, hc.r7_4, hc.r7_5, hc.r7_6, hc.r7_7, hc.r7_8, hc.t9, hc.z9, hc.t10, hc.z10, hc.t11, hc.z11, hc.t12, hc.z12, hc.t33, hc.z33, hp.t0, hp.t1, hp.t2, hp.t3, hp.t4, hp.t5, hp.t6, hp.t7, hp.t8, hp.t9, hp.t10, hp.t11, hp.t12, hp.t13, hp.t14, hp.t15, hp.t16, hp.t17, hp.t18, hp.t19, hp.t20, hp.t21, hp.t22, hp.t23, hp.z2, hp.z3, hp.z4, hp.z5, hp.z7, hp.z8, hp.z9, hp.z10, hp.z12, hp.z13, hp.z14, hp.z15, hp.z16, hp.z17, hp.z18, hp.z20, hp.z21, hp.z22, hp.z23, hp.r0_2, hp.r0_3, hp.r0_4, hp.r0_5, hp.r1_1, hp.r1_2, hp.r1_3, hp.r1_4, hp.r6_1, hp.r6_2, hp.r6_3, hp.r6_4, hp.r11_1, hp.r11_2, hp.r11_3, hp.r11_4, hp.r11_5, hp.r11_6, hp.r11_7, hp.r19_1, hp.r19_2, hp.r19_3, hp.r19_4]
        exact ih (k + 1) its lea h _ _ _ hd2 (by omega) z g hq
    · have ce : ¬ chE v (smK go k) c x = true := fun q => c1 (of_decide_eq_true q).1
      rw [if_neg (fun q => ce q.1)] at hq
      simp (disch := first | assumption | omega) only [e_53_17, e_53_18, e_53_19, e_53_20, e_53_21, e_53_22, e_53_23, e_53_24, e_53_25, e_53_26, e_53_27, e_53_28, e_53_29, e_53_30, e_53_98, e_53_99, onI_s, onR_s, onL_s, gl_0, gl_n, gl_1, gl_2, gl_3, gl_4, gl_5, gl_6, gl_7, gl_8, gl_9, gl_10, gl_11, gl_12, gl_13, gl_14, gl_15, gl_16, gl_17, sk0i, sk0r, sk0n, sk1i, sk1r, sk1n, sk_2, sk_3, sk_4, sk_5, sk_6, sk_7, sk_8, sk_9, sk_10, sk_11, sk_12, sk_13, sk_14, sk_15, sk_16, sk_17, ls_0, ls_1, ls_2, ls_3, ls_4, ls_5, ls_6, ls_7, ls_8, ls_9, ls_10, ls_11, ls_12, ls_13, ls_14, ls_15, ls_16, ls_17, ct1_i, ct1_r, wd8_0, wd8_i1, wd8_r1, wd8_i2, wd8_r2, wd8_i3, wd8_r3, wd8_i4, wd8_r4, wd8_i5, wd8_r5, wd8_i6, wd8_r6, wd8_i7, wd8_r7, wd8_i8, wd8_r8, wd8_l2, wd8_l3, wd8_l4, wd8_l5, wd8_l6, wd8_l7, wd8_l8, tl_s, tl_n, inR_t, bd_t, true_and, and_true, true_or, or_true, if_true_x, if_false_x, if_pos, if_neg, Int.toNat_natCast, natL, bI_0, bI_1, bI_ft, eq_self, b_tf, b_ft, not_true_eq_false, not_false_eq_true, n3, y2, e13, c1, cast_s, hc.t29, hc.r29_0, hc.r29_1, hc.r29_2, hc.r29_4, hc.r29_5, hc.r29_6, hc.r29_7, hc.r29_8, hc.t7, hc.r7_2, hc.r7_4, hc.r7_5, hc.r7_6, hc.r7_7, hc.r7_8, hc.t9, hc.z9, hc.t10, hc.z10, hc.t11, hc.z11, hc.t12, hc.z12, hp.t0, hp.t1, hp.t2, hp.t3, hp.t4, hp.t5, hp.t6, hp.t7, hp.t8, hp.t9, hp.t10, hp.t11, hp.t12, hp.t13, hp.t14, hp.t15, hp.t16, hp.t17, hp.t18, hp.t19, hp.t20, hp.t21, hp.t22, hp.t23, hp.z2, hp.z3, hp.z4, hp.z5, hp.z7, hp.z8, hp.z9, hp.z10, hp.z12, hp.z13, hp.z14, hp.z15, hp.z16, hp.z17, hp.z18, hp.z20, hp.z21, hp.z22, hp.z23, hp.r0_2, hp.r0_3, hp.r0_4, hp.r0_5, hp.r1_1, hp.r1_2, hp.r1_3, hp.r1_4, hp.r6_1, hp.r6_2, hp.r6_3, hp.r6_4, hp.r11_1, hp.r11_2, hp.r11_3, hp.r11_4, hp.r11_5, hp.r11_6, hp.r11_7, hp.r19_1, hp.r19_2, hp.r19_3, hp.r19_4]
      exact ih (k + 1) its lea h _ _ _ hd2 (by omega) z g hq
set_option maxHeartbeats 4000000 in
theorem m_53 (hp : PL X b) (b200 : 200 ≤ b) (hc : CT X ns nb ln) {v : Nat → Nat → Int} (w : RGv v) {tl : Int} (t0 : 0 ≤ tl) (t1 : tl ≤ 8) (ns256 : ns ≤ 256) (lns : (rnL v).length ≤ ns) {go : List (Nat × Nat)} (g20 : go.length < 20) (ft : FT v go) {c : Nat} (c20 : c < 20) {h0 : xH} (ev : cv h0 b = v) (ps : PS h0 v go) (et : h0.1 1 4 = tl) (z : NZ X h0) (eo : h0.1 30 go.length = c) (hq : ∀ h2, NZ X h2 → GP h0 h2 → Q (some (vi (chR v tl go c))) h2) : Cl X 53 [vr 29, vr (b + 11), vi (go.length : Int)] h0 Q := by
  have e12 : h0.1 (b + 12) c = v 12 c := by rw [← ev]; rfl
  have cf := chS_far w t0 t1 (c := c) (its := -1) (F := fC) (G := fRp) (go := go) (by omega) (by decide) (by decide) (rnL v) 0 (rnL_ok w)
  rw [c_53]
  simp (disch := first | assumption | omega) only [e_53_0, e_53_1, e_53_2, e_53_3, e_53_4, e_53_5, e_53_6, e_53_7, e_53_8, e_53_9, e_53_10, e_53_11, e_53_12, e_53_13, e_53_14, e_53_15, onI_s, onR_s, onL_s, gl_0, gl_n, gl_1, gl_2, gl_3, gl_4, gl_5, gl_6, gl_7, gl_8, gl_9, gl_10, gl_11, gl_12, gl_13, gl_14, gl_15, gl_16, gl_17, sk0i, sk0r, sk0n, sk1i, sk1r, sk1n, sk_2, sk_3, sk_4, sk_5, sk_6, sk_7, sk_8, sk_9, sk_10, sk_11, sk_12, sk_13, sk_14, sk_15, sk_16, sk_17, ls_0, ls_1, ls_2, ls_3, ls_4, ls_5, ls_6, ls_7, ls_8, ls_9, ls_10, ls_11, ls_12, ls_13, ls_14, ls_15, ls_16, ls_17, ct1_i, ct1_r, wd8_0, wd8_i1, wd8_r1, wd8_i2, wd8_r2, wd8_i3, wd8_r3, wd8_i4, wd8_r4, wd8_i5, wd8_r5, wd8_i6, wd8_r6, wd8_i7, wd8_r7, wd8_i8, wd8_r8, wd8_l2, wd8_l3, wd8_l4, wd8_l5, wd8_l6, wd8_l7, wd8_l8, tl_s, tl_n, inR_t, bd_t, true_and, and_true, true_or, or_true, if_true_x, if_false_x, if_pos, if_neg, Int.toNat_natCast, natL, bI_0, bI_1, bI_ft, eq_self, b_tf, b_ft, not_true_eq_false, not_false_eq_true, eo, e12, hc.t29, hc.r29_0, hc.r29_1, hc.r29_2, hc.r29_4, hc.r29_5, hc.r29_6, hc.r29_7, hc.r29_8, hc.t30, hc.z30, hp.t0, hp.t1, hp.t2, hp.t3, hp.t4, hp.t5, hp.t6, hp.t7, hp.t8, hp.t9, hp.t10, hp.t11, hp.t12, hp.t13, hp.t14, hp.t15, hp.t16, hp.t17, hp.t18, hp.t19, hp.t20, hp.t21, hp.t22, hp.t23, hp.z2, hp.z3, hp.z4, hp.z5, hp.z7, hp.z8, hp.z9, hp.z10, hp.z12, hp.z13, hp.z14, hp.z15, hp.z16, hp.z17, hp.z18, hp.z20, hp.z21, hp.z22, hp.z23, hp.r0_2, hp.r0_3, hp.r0_4, hp.r0_5, hp.r1_1, hp.r1_2, hp.r1_3, hp.r1_4, hp.r6_1, hp.r6_2, hp.r6_3, hp.r6_4, hp.r11_1, hp.r11_2, hp.r11_3, hp.r11_4, hp.r11_5, hp.r11_6, hp.r11_7, hp.r19_1, hp.r19_2, hp.r19_3, hp.r19_4]
  refine l_53 hp b200 hc w t0 t1 ns256 lns g20 ft c20 ev ps et (rnL v) 0 (-1) 268435456 h0 _ _ _ (by simp) (by omega) z GP.refl (fun h2 z2 g2 => ?_)
  have := hq h2 z2 g2
  unfold chR at this
  rw [← cf] at this
  exact this
end PKD
