/-! PACKING in the reference: the cheapest run; a run is laid out -/
def GN (h h2 : xH) : Prop := (∀ a, a ≠ 86 → a ≠ 87 → h2.1 a = h.1 a) ∧ (∀ a k, ¬ (a = 70 ∧ k = 25) → h2.2 a k = h.2 a k)
theorem GN.refl {h : xH} : GN h h := ⟨fun _ _ _ => rfl, fun _ _ _ => rfl⟩
theorem GN.tr {h h2 h3 : xH} (g : GN h h2) (k : GN h2 h3) : GN h h3 := ⟨fun a q r => (k.1 a q r).trans (g.1 a q r), fun a j q => (k.2 a j q).trans (g.2 a j q)⟩
theorem GN.gy {h h2 : xH} (g : GN h h2) : GY h h2 := ⟨fun a q => g.1 a (by omega) (by omega), fun a k q => g.2 a k (by omega)⟩
theorem GU.gn {h h2 : xH} (g : GU h h2) : GN h h2 := ⟨fun a q _ => g.1 a q, g.2⟩
theorem G1.gn {h h2 : xH} (g : G1 87 h h2) : GN h h2 := ⟨fun a _ q => g.1 a q, fun a k _ => by rw [g.2]⟩
def PM (h : xH) (v : Nat → Nat → Int) (go : List (Nat × Nat)) : Prop := h.2 70 18 = (rnL v).length ∧ RO (h.1 79) (h.1 80) (h.1 81) (h.1 82) (rnL v) ∧ GW (h.1 84) (h.1 85) go
theorem PM.gn {h h2 : xH} {v : Nat → Nat → Int} {go : List (Nat × Nat)} (p : PM h v go) (g : GN h h2) : PM h2 v go := by
  unfold PM
  rw [g.1 79 (by omega) (by omega), g.1 80 (by omega) (by omega), g.1 81 (by omega) (by omega), g.1 82 (by omega) (by omega), g.1 84 (by omega) (by omega), g.1 85 (by omega) (by omega), g.2 70 18 (by omega)]
  exact p
theorem sW_cg {u v : Nat → Nat → Int} (e : u 12 = v 12) : ∀ L : List Nat, sW u L = sW v L
  | [] => rfl
  | c :: L => by rw [sW, sW, sW_cg e L, e]
section PKS
variable {X : xL} {Q : Option xV → xH → Prop} {ns nb ln : Nat} {h : xH}
set_option maxHeartbeats 16000000 in
theorem l_240 (hc : CT X ns nb ln) {u v : Nat → Nat → Int} (w : RGv v) (wu : RGv u) (sj : SJ u v) {tl : Int} (t0 : 0 ≤ tl) (t1 : tl ≤ 8) {go : List (Nat × Nat)} (g20 : go.length < 20) (ft : FT v go) {c : Nat} (c20 : c < 20) {h0 : xH} (ev : vm h0 = u) (pm : PM h0 v go) (et : h0.1 72 4 = tl) : ∀ (M : List Rn) (k : Nat) (its lea : Int) (h : xH) (x6 : Option xV), (rnL v).drop k = M → k + M.length = (rnL v).length → NZ X h → GN h0 h → (∀ h2, NZ X h2 → GN h0 h2 → Q (some (vi (chS v tl go c M k its lea))) h2) → Ev X 240 6 [some (vr 70), some (vi c), some (vi (go.length : Int)), some (vi its), some (vi lea), some (vi k), x6] [] h Q := by
  have l256 := rnL_len w
  have s12 := sj 12 (by decide) (by decide)
  have s13 := sj 13 (by decide) (by decide)
  have s15 := sj 15 (by decide) (by decide)
  have s16 := sj 16 (by decide) (by decide)
  have wc := w.wid c
  have wy := w.wy c
  intro M
  induction M with
  | nil =>
    intro k its lea h x6 hd hk z g hq
    simp at hk
    have n7 := (pm.gn g).1
    rw [e_240_6]
    simp (disch := first | assumption | omega) only [e_240_7, e_240_8, e_240_9, e_240_85, e_240_86, onI_s, onR_s, onL_s, gl_0, gl_n, gl_1, gl_2, gl_3, gl_4, gl_5, gl_6, gl_7, gl_8, gl_9, gl_10, gl_11, gl_12, gl_13, gl_14, gl_15, gl_16, gl_17, sk0i, sk0r, sk0n, sk1i, sk1r, sk1n, sk_2, sk_3, sk_4, sk_5, sk_6, sk_7, sk_8, sk_9, sk_10, sk_11, sk_12, sk_13, sk_14, sk_15, sk_16, sk_17, ls_0, ls_1, ls_2, ls_3, ls_4, ls_5, ls_6, ls_7, ls_8, ls_9, ls_10, ls_11, ls_12, ls_13, ls_14, ls_15, ls_16, ls_17, ct1_i, ct1_r, wd8_0, wd8_i1, wd8_r1, wd8_i2, wd8_r2, wd8_i3, wd8_r3, wd8_i4, wd8_r4, wd8_i5, wd8_r5, wd8_i6, wd8_r6, wd8_i7, wd8_r7, wd8_i8, wd8_r8, wd8_l2, wd8_l3, wd8_l4, wd8_l5, wd8_l6, wd8_l7, wd8_l8, tl_s, tl_n, inR_t, bd_t, true_and, and_true, true_or, or_true, if_true_x, if_false_x, if_pos, if_neg, Int.toNat_natCast, natL, bI_0, bI_1, bI_ft, eq_self, b_tf, b_ft, not_true_eq_false, not_false_eq_true, n7, hc.t70, hc.r70_4, hc.r70_5, hc.r70_6, hc.r70_7, hc.r70_8, hc.r70_10, hc.r70_11, hc.r70_12, hc.r70_14, hc.r70_15, hc.r70_16, hc.r70_17, hc.r70_19, hc.r70_21, hc.r70_23, hc.r70_24, hc.r70_26, hc.r70_27, hc.r70_28, hc.r70_29, hc.r70_30, hc.r70_31, hc.r70_32, hc.r70_33, hc.r70_36]
    exact hq h z g
  | cons x M ih =>
    intro k its lea h x6 hd hk z g hq
    rw [List.length_cons] at hk
    have hx : (rnL v)[k]? = some x := by
      have := List.getElem?_drop (xs := rnL v) (i := k) (j := 0)
      rw [hd] at this
      simpa using this.symm
    have hd2 : (rnL v).drop (k + 1) = M := by
      rw [← List.drop_drop, hd]
      rfl
    have p := pm.gn g
    have n7 := p.1
    obtain ⟨y1, y2, y3, y4⟩ := p.2.1 k x hx
    have evh : vm h = u := g.gy.vm.trans ev
    have k256 : k < 256 := by omega
    obtain ⟨r8, an⟩ := rnL_ok w x (List.mem_of_getElem? hx)
    have fx := ft k x hx
    have sg := sW_ge w (smK go k)
    have sl := smK_len (go := go) (k := k)
    have s20 := smK_20 (k := k) p.2.2
    have s20' : ∀ d, d ∈ smK go k ++ [c] → d < 20 := fun d hd => by
      rcases List.mem_append.mp hd with q | q
      · exact s20 d q
      · simp at q; omega
    rw [chS] at hq
    rw [e_240_6]
    by_cases c1 : x.2.1 = v 13 c
    · simp (disch := first | assumption | omega) only [e_240_7, e_240_8, e_240_9, e_240_10, e_240_11, e_240_12, e_240_13, e_240_14, e_240_15, e_240_16, e_240_17, e_240_18, e_240_19, e_240_20, e_240_21, onI_s, onR_s, onL_s, gl_0, gl_n, gl_1, gl_2, gl_3, gl_4, gl_5, gl_6, gl_7, gl_8, gl_9, gl_10, gl_11, gl_12, gl_13, gl_14, gl_15, gl_16, gl_17, sk0i, sk0r, sk0n, sk1i, sk1r, sk1n, sk_2, sk_3, sk_4, sk_5, sk_6, sk_7, sk_8, sk_9, sk_10, sk_11, sk_12, sk_13, sk_14, sk_15, sk_16, sk_17, ls_0, ls_1, ls_2, ls_3, ls_4, ls_5, ls_6, ls_7, ls_8, ls_9, ls_10, ls_11, ls_12, ls_13, ls_14, ls_15, ls_16, ls_17, ct1_i, ct1_r, wd8_0, wd8_i1, wd8_r1, wd8_i2, wd8_r2, wd8_i3, wd8_r3, wd8_i4, wd8_r4, wd8_i5, wd8_r5, wd8_i6, wd8_r6, wd8_i7, wd8_r7, wd8_i8, wd8_r8, wd8_l2, wd8_l3, wd8_l4, wd8_l5, wd8_l6, wd8_l7, wd8_l8, tl_s, tl_n, inR_t, bd_t, true_and, and_true, true_or, or_true, if_true_x, if_false_x, if_pos, if_neg, Int.toNat_natCast, natL, bI_0, bI_1, bI_ft, eq_self, b_tf, b_ft, not_true_eq_false, not_false_eq_true, n7, y2, m_161 hc, evh, s13, Int.toNat_natCast, c1, hc.t70, hc.r70_4, hc.r70_5, hc.r70_6, hc.r70_7, hc.r70_8, hc.r70_10, hc.r70_11, hc.r70_12, hc.r70_14, hc.r70_15, hc.r70_16, hc.r70_17, hc.r70_19, hc.r70_21, hc.r70_23, hc.r70_24, hc.r70_26, hc.r70_27, hc.r70_28, hc.r70_29, hc.r70_30, hc.r70_31, hc.r70_32, hc.r70_33, hc.r70_36, hc.t80, hc.z80]
      (rw [e_240_22]; refine ⟨⟨hc.t70, by simp [wd_i, wd_r, wd_l, wd_0]⟩, ?_⟩)
      refine m_236 hc (by omega) p.2.2 z (more := c) (E := [c]) (Or.inr ⟨c, rfl, rfl⟩) (fun h1 u1 => ?_)
      have g1 : GN h h1 := u1.2.1.gn
      have ev1 : vm h1 = u := g1.gy.vm.trans evh
      have wu1 : RGv (vm h1) := by rw [ev1]; exact wu
      have q82 : h1.1 82 k = x.2.2.2 := by rw [g1.1 82 (by omega) (by omega)]; exact y4
      have q81 : h1.1 81 k = x.2.2.1 := by rw [g1.1 81 (by omega) (by omega)]; exact y3
      have sw1 : sW u (smK go k ++ [c]) = sW v (smK go k) + v 12 c := by
        rw [sW_cg s12, sW_app]
        show _ + (v 12 c + 0) = _
        omega
      have lL : (smK go k ++ [c]).length = (smK go k).length + 1 := by simp
      by_cases c2 : sW v (smK go k) + v 12 c ≤ x.2.2.2
      · have ce : chE v (smK go k) c x = true := decide_eq_true ⟨c1, c2⟩
        have pb := prc_bd w t0 t1 (x := x) (M := smK go k) (c := c) r8 an (by omega) c2
        simp (disch := first | assumption | omega) only [e_240_23, e_240_24, e_240_25, e_240_26, e_240_27, e_240_28, e_240_29, e_240_30, e_240_31, onI_s, onR_s, onL_s, gl_0, gl_n, gl_1, gl_2, gl_3, gl_4, gl_5, gl_6, gl_7, gl_8, gl_9, gl_10, gl_11, gl_12, gl_13, gl_14, gl_15, gl_16, gl_17, sk0i, sk0r, sk0n, sk1i, sk1r, sk1n, sk_2, sk_3, sk_4, sk_5, sk_6, sk_7, sk_8, sk_9, sk_10, sk_11, sk_12, sk_13, sk_14, sk_15, sk_16, sk_17, ls_0, ls_1, ls_2, ls_3, ls_4, ls_5, ls_6, ls_7, ls_8, ls_9, ls_10, ls_11, ls_12, ls_13, ls_14, ls_15, ls_16, ls_17, ct1_i, ct1_r, wd8_0, wd8_i1, wd8_r1, wd8_i2, wd8_r2, wd8_i3, wd8_r3, wd8_i4, wd8_r4, wd8_i5, wd8_r5, wd8_i6, wd8_r6, wd8_i7, wd8_r7, wd8_i8, wd8_r8, wd8_l2, wd8_l3, wd8_l4, wd8_l5, wd8_l6, wd8_l7, wd8_l8, tl_s, tl_n, inR_t, bd_t, true_and, and_true, true_or, or_true, if_true_x, if_false_x, if_pos, if_neg, Int.toNat_natCast, natL, bI_0, bI_1, bI_ft, eq_self, b_tf, b_ft, not_true_eq_false, not_false_eq_true, m_237 hc wu1 u1.2.2.1 u1.2.2.2 (by omega) s20', ev1, sw1, q82, c2, hc.t70, hc.r70_4, hc.r70_5, hc.r70_6, hc.r70_7, hc.r70_8, hc.r70_10, hc.r70_11, hc.r70_12, hc.r70_14, hc.r70_15, hc.r70_16, hc.r70_17, hc.r70_19, hc.r70_21, hc.r70_23, hc.r70_24, hc.r70_26, hc.r70_27, hc.r70_28, hc.r70_29, hc.r70_30, hc.r70_31, hc.r70_32, hc.r70_33, hc.r70_36, hc.t82, hc.z82]
        (rw [e_240_32]; refine ⟨⟨hc.t70, by simp [wd_i, wd_r, wd_l, wd_0]⟩, ?_⟩)
        refine m_235 hc ev1 wu u1.1 u1.2.2.1 u1.2.2.2 (by omega) s20' k256 q81 q82 an (fun h2 z2 g2 tm2 => ?_)
        rw [tb_cg s12 s15]
        have g02 : GN h h2 := g1.tr g2.gn
        have ev2 : vm h2 = u := g02.gy.vm.trans evh
        have q79 : h2.1 79 k = x.1 := by rw [g02.1 79 (by omega) (by omega)]; exact y1
        have t4 : h2.1 72 4 = tl := by rw [g02.1 72 (by omega) (by omega), g.1 72 (by omega) (by omega)]; exact et
        have yb := pY_bd w t0 t1 (c := c) r8
        have yb1 : 0 ≤ v 12 c * tl * ((16 * (x.1 : Int) - v 16 c).natAbs : Int) ∧ v 12 c * tl * ((16 * (x.1 : Int) - v 16 c).natAbs : Int) ≤ 6144 := ⟨yb.1, yb.2.1⟩
        have tb1 := tb_ge (F := fRp) w an (by decide) (smK go k) 0
        have tb2 := tb_le (v := v) (a := x.2.2.1) (n := x.2.2.2) (F := fRp) (smK go k) 0 (by decide)
        have tb3 := tb_ge (F := fRp) w an (by decide) (smK go k ++ [c]) 0
        have tb4 := tb_le (v := v) (a := x.2.2.1) (n := x.2.2.2) (F := fRp) (smK go k ++ [c]) 0 (by decide)
        rw [show fRp = 100000000 from rfl] at tb1 tb2 tb3 tb4
        have ep : tb v x.2.2.1 x.2.2.2 fRp (smK go k ++ [c]) 0 + v 12 c * tl * ((16 * (x.1 : Int) - v 16 c).natAbs : Int) - tb v x.2.2.1 x.2.2.2 fRp (smK go k) 0 = prc v tl x (smK go k) c := by
          unfold prc pY
          omega
        rw [show fRp = 100000000 from rfl] at ep ⊢
        simp (disch := first | assumption | omega) only [e_240_33, e_240_34, e_240_35, e_240_36, e_240_37, e_240_38, e_240_39, e_240_40, e_240_41, e_240_42, e_240_43, e_240_44, e_240_45, e_240_46, e_240_47, e_240_48, e_240_49, e_240_50, e_240_51, e_240_52, e_240_53, e_240_54, e_240_55, e_240_56, e_240_57, e_240_58, e_240_59, e_240_60, e_240_61, onI_s, onR_s, onL_s, gl_0, gl_n, gl_1, gl_2, gl_3, gl_4, gl_5, gl_6, gl_7, gl_8, gl_9, gl_10, gl_11, gl_12, gl_13, gl_14, gl_15, gl_16, gl_17, sk0i, sk0r, sk0n, sk1i, sk1r, sk1n, sk_2, sk_3, sk_4, sk_5, sk_6, sk_7, sk_8, sk_9, sk_10, sk_11, sk_12, sk_13, sk_14, sk_15, sk_16, sk_17, ls_0, ls_1, ls_2, ls_3, ls_4, ls_5, ls_6, ls_7, ls_8, ls_9, ls_10, ls_11, ls_12, ls_13, ls_14, ls_15, ls_16, ls_17, ct1_i, ct1_r, wd8_0, wd8_i1, wd8_r1, wd8_i2, wd8_r2, wd8_i3, wd8_r3, wd8_i4, wd8_r4, wd8_i5, wd8_r5, wd8_i6, wd8_r6, wd8_i7, wd8_r7, wd8_i8, wd8_r8, wd8_l2, wd8_l3, wd8_l4, wd8_l5, wd8_l6, wd8_l7, wd8_l8, tl_s, tl_n, inR_t, bd_t, true_and, and_true, true_or, or_true, if_true_x, if_false_x, if_pos, if_neg, Int.toNat_natCast, natL, bI_0, bI_1, bI_ft, eq_self, b_tf, b_ft, not_true_eq_false, not_false_eq_true, m_160 hc, m_158, m_150, vm_16, ev2, s12, s16, t4, q79, tn_4, Int.toNat_natCast, hc.t70, hc.r70_4, hc.r70_5, hc.r70_6, hc.r70_7, hc.r70_8, hc.r70_10, hc.r70_11, hc.r70_12, hc.r70_14, hc.r70_15, hc.r70_16, hc.r70_17, hc.r70_19, hc.r70_21, hc.r70_23, hc.r70_24, hc.r70_26, hc.r70_27, hc.r70_28, hc.r70_29, hc.r70_30, hc.r70_31, hc.r70_32, hc.r70_33, hc.r70_36, hc.t72, hc.z72, hc.t73, hc.z73, hc.t79, hc.z79]
        (rw [e_240_62]; refine ⟨⟨hc.t70, by simp [wd_i, wd_r, wd_l, wd_0]⟩, ?_⟩)
        refine m_236 hc (by omega) (p.gn g02).2.2 z2 (more := -1) (E := []) (Or.inl ⟨rfl, rfl⟩) (fun h3 u3 => ?_)
        rw [List.append_nil] at u3
        have g03 : GN h h3 := g02.tr u3.2.1.gn
        have ev3 : vm h3 = u := g03.gy.vm.trans evh
        simp (disch := first | assumption | omega) only [e_240_63, e_240_64, e_240_65, onI_s, onR_s, onL_s, gl_0, gl_n, gl_1, gl_2, gl_3, gl_4, gl_5, gl_6, gl_7, gl_8, gl_9, gl_10, gl_11, gl_12, gl_13, gl_14, gl_15, gl_16, gl_17, sk0i, sk0r, sk0n, sk1i, sk1r, sk1n, sk_2, sk_3, sk_4, sk_5, sk_6, sk_7, sk_8, sk_9, sk_10, sk_11, sk_12, sk_13, sk_14, sk_15, sk_16, sk_17, ls_0, ls_1, ls_2, ls_3, ls_4, ls_5, ls_6, ls_7, ls_8, ls_9, ls_10, ls_11, ls_12, ls_13, ls_14, ls_15, ls_16, ls_17, ct1_i, ct1_r, wd8_0, wd8_i1, wd8_r1, wd8_i2, wd8_r2, wd8_i3, wd8_r3, wd8_i4, wd8_r4, wd8_i5, wd8_r5, wd8_i6, wd8_r6, wd8_i7, wd8_r7, wd8_i8, wd8_r8, wd8_l2, wd8_l3, wd8_l4, wd8_l5, wd8_l6, wd8_l7, wd8_l8, tl_s, tl_n, inR_t, bd_t, true_and, and_true, true_or, or_true, if_true_x, if_false_x, if_pos, if_neg, Int.toNat_natCast, natL, bI_0, bI_1, bI_ft, eq_self, b_tf, b_ft, not_true_eq_false, not_false_eq_true]
        (rw [e_240_66]; refine ⟨⟨hc.t70, by simp [wd_i, wd_r, wd_l, wd_0]⟩, ?_⟩)
        refine m_235 hc ev3 wu u3.1 u3.2.2.1 u3.2.2.2 (by omega) s20 k256 (by rw [g03.1 81 (by omega) (by omega)]; exact y3) (by rw [g03.1 82 (by omega) (by omega)]; exact y4) an (fun h4 z4 g4 tm4 => ?_)
        rw [tb_cg s12 s15]
        have g04 : GN h h4 := g03.tr g4.gn
        rw [show fRp = 100000000 from rfl]
        by_cases c3 : prc v tl x (smK go k) c < lea
        · rw [if_pos ⟨ce, c3⟩] at hq
          simp (disch := first | assumption | omega) only [e_240_67, e_240_68, e_240_69, e_240_70, e_240_71, e_240_72, e_240_73, e_240_75, e_240_76, e_240_77, e_240_78, e_240_79, e_240_80, e_240_82, e_240_83, e_240_84, onI_s, onR_s, onL_s, gl_0, gl_n, gl_1, gl_2, gl_3, gl_4, gl_5, gl_6, gl_7, gl_8, gl_9, gl_10, gl_11, gl_12, gl_13, gl_14, gl_15, gl_16, gl_17, sk0i, sk0r, sk0n, sk1i, sk1r, sk1n, sk_2, sk_3, sk_4, sk_5, sk_6, sk_7, sk_8, sk_9, sk_10, sk_11, sk_12, sk_13, sk_14, sk_15, sk_16, sk_17, ls_0, ls_1, ls_2, ls_3, ls_4, ls_5, ls_6, ls_7, ls_8, ls_9, ls_10, ls_11, ls_12, ls_13, ls_14, ls_15, ls_16, ls_17, ct1_i, ct1_r, wd8_0, wd8_i1, wd8_r1, wd8_i2, wd8_r2, wd8_i3, wd8_r3, wd8_i4, wd8_r4, wd8_i5, wd8_r5, wd8_i6, wd8_r6, wd8_i7, wd8_r7, wd8_i8, wd8_r8, wd8_l2, wd8_l3, wd8_l4, wd8_l5, wd8_l6, wd8_l7, wd8_l8, tl_s, tl_n, inR_t, bd_t, true_and, and_true, true_or, or_true, if_true_x, if_false_x, if_pos, if_neg, Int.toNat_natCast, natL, bI_0, bI_1, bI_ft, eq_self, b_tf, b_ft, not_true_eq_false, not_false_eq_true, ep, c3, cast_s]
          exact ih (k + 1) k (prc v tl x (smK go k) c) h4 _ hd2 (by omega) z4 (g.tr g04) hq
        · rw [if_neg (fun q => c3 q.2)] at hq
          simp (disch := first | assumption | omega) only [e_240_67, e_240_68, e_240_69, e_240_70, e_240_71, e_240_74, e_240_75, e_240_76, e_240_77, e_240_78, e_240_81, e_240_82, e_240_83, e_240_84, onI_s, onR_s, onL_s, gl_0, gl_n, gl_1, gl_2, gl_3, gl_4, gl_5, gl_6, gl_7, gl_8, gl_9, gl_10, gl_11, gl_12, gl_13, gl_14, gl_15, gl_16, gl_17, sk0i, sk0r, sk0n, sk1i, sk1r, sk1n, sk_2, sk_3, sk_4, sk_5, sk_6, sk_7, sk_8, sk_9, sk_10, sk_11, sk_12, sk_13, sk_14, sk_15, sk_16, sk_17, ls_0, ls_1, ls_2, ls_3, ls_4, ls_5, ls_6, ls_7, ls_8, ls_9, ls_10, ls_11, ls_12, ls_13, ls_14, ls_15, ls_16, ls_17, ct1_i, ct1_r, wd8_0, wd8_i1, wd8_r1, wd8_i2, wd8_r2, wd8_i3, wd8_r3, wd8_i4, wd8_r4, wd8_i5, wd8_r5, wd8_i6, wd8_r6, wd8_i7, wd8_r7, wd8_i8, wd8_r8, wd8_l2, wd8_l3, wd8_l4, wd8_l5, wd8_l6, wd8_l7, wd8_l8, tl_s, tl_n, inR_t, bd_t, true_and, and_true, true_or, or_true, if_true_x, if_false_x, if_pos, if_neg, Int.toNat_natCast, natL, bI_0, bI_1, bI_ft, eq_self, b_tf, b_ft, not_true_eq_false, not_false_eq_true, ep, c3, cast_s]
          exact ih (k + 1) its lea h4 _ hd2 (by omega) z4 (g.tr g04) hq
      · have ce : ¬ chE v (smK go k) c x = true := fun q => c2 (of_decide_eq_true q).2
        rw [if_neg (fun q => ce q.1)] at hq
        have c2' : ¬ sW v (smK go k) + v 12 c ≤ (x.2.2.2 : Int) := c2
        simp (disch := first | assumption | omega) only [e_240_23, e_240_24, e_240_25, e_240_26, e_240_27, e_240_28, e_240_29, e_240_83, e_240_84, onI_s, onR_s, onL_s, gl_0, gl_n, gl_1, gl_2, gl_3, gl_4, gl_5, gl_6, gl_7, gl_8, gl_9, gl_10, gl_11, gl_12, gl_13, gl_14, gl_15, gl_16, gl_17, sk0i, sk0r, sk0n, sk1i, sk1r, sk1n, sk_2, sk_3, sk_4, sk_5, sk_6, sk_7, sk_8, sk_9, sk_10, sk_11, sk_12, sk_13, sk_14, sk_15, sk_16, sk_17, ls_0, ls_1, ls_2, ls_3, ls_4, ls_5, ls_6, ls_7, ls_8, ls_9, ls_10, ls_11, ls_12, ls_13, ls_14, ls_15, ls_16, ls_17, ct1_i, ct1_r, wd8_0, wd8_i1, wd8_r1, wd8_i2, wd8_r2, wd8_i3, wd8_r3, wd8_i4, wd8_r4, wd8_i5, wd8_r5, wd8_i6, wd8_r6, wd8_i7, wd8_r7, wd8_i8, wd8_r8, wd8_l2, wd8_l3, wd8_l4, wd8_l5, wd8_l6, wd8_l7, wd8_l8, tl_s, tl_n, inR_t, bd_t, true_and, and_true, true_or, or_true, if_true_x, if_false_x, if_pos, if_neg, Int.toNat_natCast, natL, bI_0, bI_1, bI_ft, eq_self, b_tf, b_ft, not_true_eq_false, not_false_eq_true, m_237 hc wu1 u1.2.2.1 u1.2.2.2 (by omega) s20', ev1, sw1, q82, c2', cast_s, hc.t70, hc.r70_4, hc.r70_5, hc.r70_6, hc.r70_7, hc.r70_8, hc.r70_10, hc.r70_11, hc.r70_12, hc.r70_14, hc.r70_15, hc.r70_16, hc.r70_17, hc.r70_19, hc.r70_21, hc.r70_23, hc.r70_24, hc.r70_26, hc.r70_27, hc.r70_28, hc.r70_29, hc.r70_30, hc.r70_31, hc.r70_32, hc.r70_33, hc.r70_36, hc.t82, hc.z82]
        exact ih (k + 1) its lea h1 _ hd2 (by omega) u1.1 (g.tr g1) hq
    · have ce : ¬ chE v (smK go k) c x = true := fun q => c1 (of_decide_eq_true q).1
      rw [if_neg (fun q => ce q.1)] at hq
      simp (disch := first | assumption | omega) only [e_240_7, e_240_8, e_240_9, e_240_10, e_240_11, e_240_12, e_240_13, e_240_14, e_240_15, e_240_16, e_240_17, e_240_83, e_240_84, onI_s, onR_s, onL_s, gl_0, gl_n, gl_1, gl_2, gl_3, gl_4, gl_5, gl_6, gl_7, gl_8, gl_9, gl_10, gl_11, gl_12, gl_13, gl_14, gl_15, gl_16, gl_17, sk0i, sk0r, sk0n, sk1i, sk1r, sk1n, sk_2, sk_3, sk_4, sk_5, sk_6, sk_7, sk_8, sk_9, sk_10, sk_11, sk_12, sk_13, sk_14, sk_15, sk_16, sk_17, ls_0, ls_1, ls_2, ls_3, ls_4, ls_5, ls_6, ls_7, ls_8, ls_9, ls_10, ls_11, ls_12, ls_13, ls_14, ls_15, ls_16, ls_17, ct1_i, ct1_r, wd8_0, wd8_i1, wd8_r1, wd8_i2, wd8_r2, wd8_i3, wd8_r3, wd8_i4, wd8_r4, wd8_i5, wd8_r5, wd8_i6, wd8_r6, wd8_i7, wd8_r7, wd8_i8, wd8_r8, wd8_l2, wd8_l3, wd8_l4, wd8_l5, wd8_l6, wd8_l7, wd8_l8, tl_s, tl_n, inR_t, bd_t, true_and, and_true, true_or, or_true, if_true_x, if_false_x, if_pos, if_neg, Int.toNat_natCast, natL, bI_0, bI_1, bI_ft, eq_self, b_tf, b_ft, not_true_eq_false, not_false_eq_true, n7, y2, m_161 hc, evh, s13, Int.toNat_natCast, c1, cast_s, hc.t70, hc.r70_4, hc.r70_5, hc.r70_6, hc.r70_7, hc.r70_8, hc.r70_10, hc.r70_11, hc.r70_12, hc.r70_14, hc.r70_15, hc.r70_16, hc.r70_17, hc.r70_19, hc.r70_21, hc.r70_23, hc.r70_24, hc.r70_26, hc.r70_27, hc.r70_28, hc.r70_29, hc.r70_30, hc.r70_31, hc.r70_32, hc.r70_33, hc.r70_36, hc.t80, hc.z80]
      exact ih (k + 1) its lea h _ hd2 (by omega) z g hq
set_option maxHeartbeats 4000000 in
theorem m_240 (hc : CT X ns nb ln) {u v : Nat → Nat → Int} (w : RGv v) (wu : RGv u) (sj : SJ u v) {tl : Int} (t0 : 0 ≤ tl) (t1 : tl ≤ 8) {go : List (Nat × Nat)} (g20 : go.length < 20) (ft : FT v go) {c : Nat} (c20 : c < 20) {h0 : xH} (ev : vm h0 = u) (pm : PM h0 v go) (et : h0.1 72 4 = tl) (z : NZ X h0) (hq : ∀ h2, NZ X h2 → GN h0 h2 → Q (some (vi (chR v tl go c))) h2) : Cl X 240 [vr 70, vi c, vi (go.length : Int)] h0 Q := by
  rw [c_240]
  simp (disch := first | assumption | omega) only [e_240_0, e_240_1, e_240_2, e_240_3, e_240_4, e_240_5, onI_s, onR_s, onL_s, gl_0, gl_n, gl_1, gl_2, gl_3, gl_4, gl_5, gl_6, gl_7, gl_8, gl_9, gl_10, gl_11, gl_12, gl_13, gl_14, gl_15, gl_16, gl_17, sk0i, sk0r, sk0n, sk1i, sk1r, sk1n, sk_2, sk_3, sk_4, sk_5, sk_6, sk_7, sk_8, sk_9, sk_10, sk_11, sk_12, sk_13, sk_14, sk_15, sk_16, sk_17, ls_0, ls_1, ls_2, ls_3, ls_4, ls_5, ls_6, ls_7, ls_8, ls_9, ls_10, ls_11, ls_12, ls_13, ls_14, ls_15, ls_16, ls_17, ct1_i, ct1_r, wd8_0, wd8_i1, wd8_r1, wd8_i2, wd8_r2, wd8_i3, wd8_r3, wd8_i4, wd8_r4, wd8_i5, wd8_r5, wd8_i6, wd8_r6, wd8_i7, wd8_r7, wd8_i8, wd8_r8, wd8_l2, wd8_l3, wd8_l4, wd8_l5, wd8_l6, wd8_l7, wd8_l8, tl_s, tl_n, inR_t, bd_t, true_and, and_true, true_or, or_true, if_true_x, if_false_x, if_pos, if_neg, Int.toNat_natCast, natL, bI_0, bI_1, bI_ft, eq_self, b_tf, b_ft, not_true_eq_false, not_false_eq_true]
  exact l_240 hc w wu sj t0 t1 g20 ft c20 ev pm et (rnL v) 0 (-1) 100000000 h0 _ (by simp) (by omega) z GN.refl hq
end PKS
