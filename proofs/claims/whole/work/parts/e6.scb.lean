/-! SORTS in the class: one group -/
section SCB0
variable {v : Nat → Nat → Int} {t f ww : Int}
theorem gp_ok (w : RGv v) : (∀ c, c ∈ gpA v f ww → c < 20 ∧ gpC v f ww c = true) ∧ (∀ o, o < (gpA v f ww).length → rgS (v 17 ((gpA v f ww).getD o 0)) (v 18 ((gpA v f ww).getD o 0)) ∨ v 18 ((gpA v f ww).getD o 0) = -1) := by
  have nC := w.nC
  have a : ∀ c, c ∈ gpA v f ww → c < 20 ∧ gpC v f ww c = true := fun c hc => by
    have := grp_in _ c hc
    exact ⟨by omega, this.2⟩
  refine ⟨a, fun o ho => ?_⟩
  have m : (gpA v f ww).getD o 0 ∈ gpA v f ww := by
    rw [List.getD_eq_getElem?_getD, List.getElem?_eq_getElem ho]
    exact List.getElem_mem ho
  have q := (a _ m).2
  have r := w.row ((gpA v f ww).getD o 0)
  have s := w.sit ((gpA v f ww).getD o 0)
  unfold gpC lpB at q
  simp only [Bool.and_eq_true, Bool.not_eq_true', decide_eq_true_eq, decide_eq_false_iff_not] at q
  unfold rgS
  omega
/-- placed cells have a site -/
def PLc (v : Nat → Nat → Int) : Prop := ∀ c : Nat, (c : Int) < v 11 0 → v 17 c ≠ -1 → 0 ≤ v 18 c
theorem gp_rg (w : RGv v) (p : PLc v) : ∀ o, o < (gpA v f ww).length → rgS (v 17 ((gpA v f ww).getD o 0)) (v 18 ((gpA v f ww).getD o 0)) := by
  intro o ho
  have nC := w.nC
  have m : (gpA v f ww).getD o 0 ∈ gpA v f ww := by
    rw [List.getD_eq_getElem?_getD, List.getElem?_eq_getElem ho]
    exact List.getElem_mem ho
  have q := grp_in _ _ m
  have q2 := q.2
  have r := w.row ((gpA v f ww).getD o 0)
  have s := w.sit ((gpA v f ww).getD o 0)
  unfold gpC lpB at q2
  simp only [Bool.and_eq_true, Bool.not_eq_true', decide_eq_true_eq, decide_eq_false_iff_not] at q2
  have := p _ (by omega : (((gpA v f ww).getD o 0 : Nat) : Int) < v 11 0) q2.1.1.2
  unfold rgS
  omega
theorem srO_c (g : WG v) (nd : NDv v) (p : PLc v) : srO v t (gpA v f ww) = bsO (pcG v t (gpA v f ww) (gpA v f ww)) (ords (gpA v f ww).length) (List.range (gpA v f ww).length) (pcG v t (gpA v f ww) (gpA v f ww) (List.range (gpA v f ww).length)) := by
  have g5 := grp_len (v := v) (f := f) (w := ww) (v 11 0).toNat
  have oa := ord_all (n := (gpA v f ww).length) g5
  have nC := g.1.nC
  have key : ∀ O, OKO (gpA v f ww).length O → wir (ptG v (gpA v f ww) (gpA v f ww) O v) t = wir v t - asG v t (gpA v f ww) + pcG v t (gpA v f ww) (gpA v f ww) O := fun O ok => wir_pt nd (gp_rg g.1 p) _ O v ok.1.symm ok.2.1 (fun c hc => by have := (grp_in _ c hc).1; omega) (grp_pw _) SJ.refl g.1 (fun c hc => ⟨fun _ _ => rfl, rfl, rfl⟩)
  have k0 := key (List.range (gpA v f ww).length) (okO_rg g5)
  rw [List.range_eq_range', ptG_id _ 0 (by simp)] at k0
  unfold srO
  refine bsO_sh (K := wir v t - asG v t (gpA v f ww)) _ _ _ _ (fun O hO => key O (oa.2.2 O hO)) ?_
  rw [List.range_eq_range']
  exact k0
theorem srO_ok : OKO (gpA v f ww).length (srO v t (gpA v f ww)) := by
  have g5 := grp_len (v := v) (f := f) (w := ww) (v 11 0).toNat
  have oa := ord_all (n := (gpA v f ww).length) g5
  rcases bsO_in (cst := fun O => wir (ptG v (gpA v f ww) (gpA v f ww) O v) t) (ords (gpA v f ww).length) (List.range (gpA v f ww).length) (wir v t) with q | q
  · unfold srO
    rw [q]
    exact okO_rg g5
  · exact oa.2.2 _ q
end SCB0
def GE (h h2 : xH) : Prop := (∀ a, ¬ (16 ≤ a ∧ a ≤ 21) → ¬ (58 ≤ a ∧ a ≤ 64) → h2.1 a = h.1 a) ∧ (∀ a, a ≠ 14 → h2.2 a = h.2 a)
section SCB
variable {X : xL} {Q : Option xV → xH → Prop} {ns nb ln : Nat} {h h2 h3 : xH}
theorem GE.refl : GE h h := ⟨fun _ _ _ => rfl, fun _ _ => rfl⟩
theorem GE.tr (a : GE h h2) (b : GE h2 h3) : GE h h3 := ⟨fun k q r => (b.1 k q r).trans (a.1 k q r), fun k q => (b.2 k q).trans (a.2 k q)⟩
theorem GE.cv (f : GE h h2) : cv h2 200 = cv h 200 := cv_congr (fun a q1 q2 => ⟨f.1 a (by omega) (by omega), f.2 a (by omega)⟩)
theorem GE.fz (f : GE h h2) (z : NZ X h2) : Fz X h h2 := ⟨z, fun a q => ⟨f.1 a (by omega) (by omega), f.2 a (by omega)⟩, ⟨by rw [f.2 7 (by omega)], by rw [f.2 7 (by omega)], by rw [f.2 22 (by omega)], by rw [f.2 22 (by omega)]⟩, fun p hp => ⟨fun i => by rw [f.2 _ (by omega)], fun j hj i hi => by rw [f.2 _ (by omega)]⟩⟩
theorem F93.ge (f : F93 h h2) : GE h h2 := ⟨fun a q _ => f.1 a q, f.2⟩
theorem G1.ge {k : Nat} (f : G1 k h h2) (hk : 58 ≤ k ∧ k ≤ 64) : GE h h2 := ⟨fun a _ q => f.1 a (by omega), fun a _ => by rw [f.2]⟩
def GSp (h : xH) (v : Nat → Nat → Int) (G : List Nat) (n : Nat) : Prop := ∀ j, j < n → h.1 62 j = v 17 (G.getD j 0) ∧ h.1 63 j = v 18 (G.getD j 0)
set_option maxHeartbeats 4000000 in
theorem l_69a (hp : PL X 200) (hc : CT X ns nb ln) {h0 : xH} {v : Nat → Nat → Int} (ev : cv h0 200 = v) {G : List Nat} (g5 : G.length ≤ 5) (gc : ∀ c, c ∈ G → c < 20) (r60 : R1 (h0.1 60) G) : ∀ (m i : Nat) (h : xH), i + m = G.length → NZ X h → (∀ a, a ≠ 62 → a ≠ 63 → h.1 a = h0.1 a) → h.2 = h0.2 → GSp h v G i → (∀ h2 x4, NZ X h2 → (∀ a, a ≠ 62 → a ≠ 63 → h2.1 a = h0.1 a) → h2.2 = h0.2 → GSp h2 v G G.length → Ev X 69 32 [some (vr 57), some (vr 200), some (vi (G.length : Int)), some (vr (200 + 11)), x4, none, none] [] h2 Q) → Ev X 69 5 [some (vr 57), some (vr 200), some (vi (G.length : Int)), some (vr (200 + 11)), some (vi i), none, none] [] h Q := by
  intro m
  induction m with
  | zero =>
    intro i h hm z g1 g2 p hq
    rw [e_69_5]
    simp (disch := first | assumption | omega) only [e_69_6, e_69_7, onI_s, onR_s, onL_s, gl_0, gl_n, gl_1, gl_2, gl_3, gl_4, gl_5, gl_6, gl_7, gl_8, gl_9, gl_10, gl_11, gl_12, gl_13, gl_14, gl_15, gl_16, gl_17, sk0i, sk0r, sk0n, sk1i, sk1r, sk1n, sk_2, sk_3, sk_4, sk_5, sk_6, sk_7, sk_8, sk_9, sk_10, sk_11, sk_12, sk_13, sk_14, sk_15, sk_16, sk_17, ls_0, ls_1, ls_2, ls_3, ls_4, ls_5, ls_6, ls_7, ls_8, ls_9, ls_10, ls_11, ls_12, ls_13, ls_14, ls_15, ls_16, ls_17, ct1_i, ct1_r, wd8_0, wd8_i1, wd8_r1, wd8_i2, wd8_r2, wd8_i3, wd8_r3, wd8_i4, wd8_r4, wd8_i5, wd8_r5, wd8_i6, wd8_r6, wd8_i7, wd8_r7, wd8_i8, wd8_r8, wd8_l2, wd8_l3, wd8_l4, wd8_l5, wd8_l6, wd8_l7, wd8_l8, tl_s, tl_n, inR_t, bd_t, true_and, and_true, true_or, or_true, if_true_x, if_false_x, if_pos, if_neg, Int.toNat_natCast, natL, bI_0, bI_1, bI_ft, eq_self, b_tf, b_ft, not_true_eq_false, not_false_eq_true]
    rw [show i = G.length by omega] at p
    exact hq h _ z g1 g2 p
  | succ m ih =>
    intro i h hm z g1 g2 p hq
    have il : i < G.length := by omega
    have m20 : G.getD i 0 ∈ G := by
      rw [List.getD_eq_getElem?_getD, List.getElem?_eq_getElem il]
      exact List.getElem_mem il
    have c20 := gc _ m20
    obtain ⟨c, hcd⟩ : ∃ c, c = G.getD i 0 := ⟨_, rfl⟩
    have e60 : h.1 60 i = c := by rw [g1 60 (by omega) (by omega), hcd]; exact R1.at r60 il
    have cvh : cv h 200 = v := (cv_congr (fun a q1 q2 => ⟨g1 a (by omega) (by omega), by rw [g2]⟩)).trans ev
    have e17 : h.1 (200 + 17) c = v 17 c := by rw [← cvh]; rfl
    have e18 : h.1 (200 + 18) c = v 18 c := by rw [← cvh]; rfl
    rw [← hcd] at c20
    rw [e_69_5]
    simp (disch := first | assumption | omega) only [e_69_6, e_69_7, e_69_8, e_69_9, e_69_10, e_69_11, e_69_12, e_69_13, e_69_14, e_69_15, e_69_16, e_69_17, e_69_18, onI_s, onR_s, onL_s, gl_0, gl_n, gl_1, gl_2, gl_3, gl_4, gl_5, gl_6, gl_7, gl_8, gl_9, gl_10, gl_11, gl_12, gl_13, gl_14, gl_15, gl_16, gl_17, sk0i, sk0r, sk0n, sk1i, sk1r, sk1n, sk_2, sk_3, sk_4, sk_5, sk_6, sk_7, sk_8, sk_9, sk_10, sk_11, sk_12, sk_13, sk_14, sk_15, sk_16, sk_17, ls_0, ls_1, ls_2, ls_3, ls_4, ls_5, ls_6, ls_7, ls_8, ls_9, ls_10, ls_11, ls_12, ls_13, ls_14, ls_15, ls_16, ls_17, ct1_i, ct1_r, wd8_0, wd8_i1, wd8_r1, wd8_i2, wd8_r2, wd8_i3, wd8_r3, wd8_i4, wd8_r4, wd8_i5, wd8_r5, wd8_i6, wd8_r6, wd8_i7, wd8_r7, wd8_i8, wd8_r8, wd8_l2, wd8_l3, wd8_l4, wd8_l5, wd8_l6, wd8_l7, wd8_l8, tl_s, tl_n, inR_t, bd_t, true_and, and_true, true_or, or_true, if_true_x, if_false_x, if_pos, if_neg, Int.toNat_natCast, natL, bI_0, bI_1, bI_ft, eq_self, b_tf, b_ft, not_true_eq_false, not_false_eq_true, e60, e17, hc.t57, hc.r57_0, hc.r57_1, hc.r57_2, hc.r57_3, hc.r57_4, hc.r57_5, hc.r57_6, hc.r57_7, hc.r57_8, hc.r57_9, hc.r57_10, hc.t60, hc.z60, hc.t62, hc.z62, hp.t0, hp.t1, hp.t2, hp.t3, hp.t4, hp.t5, hp.t6, hp.t7, hp.t8, hp.t9, hp.t10, hp.t11, hp.t12, hp.t13, hp.t14, hp.t15, hp.t16, hp.t17, hp.t18, hp.t19, hp.t20, hp.t21, hp.t22, hp.t23, hp.z2, hp.z3, hp.z4, hp.z5, hp.z7, hp.z8, hp.z9, hp.z10, hp.z12, hp.z13, hp.z14, hp.z15, hp.z16, hp.z17, hp.z18, hp.z20, hp.z21, hp.z22, hp.z23, hp.r0_2, hp.r0_3, hp.r0_4, hp.r0_5, hp.r1_1, hp.r1_2, hp.r1_3, hp.r1_4, hp.r6_1, hp.r6_2, hp.r6_3, hp.r6_4, hp.r11_1, hp.r11_2, hp.r11_3, hp.r11_4, hp.r11_5, hp.r11_6, hp.r11_7, hp.r19_1, hp.r19_2, hp.r19_3, hp.r19_4]
    obtain ⟨h1, e1⟩ : ∃ h1 : xH, h1 = (up2 h.1 62 i (v 17 c), h.2) := ⟨_, rfl⟩
    rw [← e1]
    have z1 : NZ X h1 := by rw [e1]; exact NZ.up (I := h.1) (F := h.2) z (by rw [hc.z62]; omega)
    have o1 : ∀ a, a ≠ 62 → h1.1 a = h.1 a := fun a q => by rw [e1]; exact up2_of q
    have a60 : h1.1 60 i = c := by rw [o1 60 (by omega)]; exact e60
    have a18 : h1.1 (200 + 18) c = v 18 c := by rw [o1 (200 + 18) (by omega)]; exact e18
    simp (disch := first | assumption | omega) only [e_69_19, e_69_20, e_69_21, e_69_22, e_69_23, e_69_24, e_69_25, e_69_26, e_69_27, e_69_28, e_69_29, e_69_30, e_69_31, onI_s, onR_s, onL_s, gl_0, gl_n, gl_1, gl_2, gl_3, gl_4, gl_5, gl_6, gl_7, gl_8, gl_9, gl_10, gl_11, gl_12, gl_13, gl_14, gl_15, gl_16, gl_17, sk0i, sk0r, sk0n, sk1i, sk1r, sk1n, sk_2, sk_3, sk_4, sk_5, sk_6, sk_7, sk_8, sk_9, sk_10, sk_11, sk_12, sk_13, sk_14, sk_15, sk_16, sk_17, ls_0, ls_1, ls_2, ls_3, ls_4, ls_5, ls_6, ls_7, ls_8, ls_9, ls_10, ls_11, ls_12, ls_13, ls_14, ls_15, ls_16, ls_17, ct1_i, ct1_r, wd8_0, wd8_i1, wd8_r1, wd8_i2, wd8_r2, wd8_i3, wd8_r3, wd8_i4, wd8_r4, wd8_i5, wd8_r5, wd8_i6, wd8_r6, wd8_i7, wd8_r7, wd8_i8, wd8_r8, wd8_l2, wd8_l3, wd8_l4, wd8_l5, wd8_l6, wd8_l7, wd8_l8, tl_s, tl_n, inR_t, bd_t, true_and, and_true, true_or, or_true, if_true_x, if_false_x, if_pos, if_neg, Int.toNat_natCast, natL, bI_0, bI_1, bI_ft, eq_self, b_tf, b_ft, not_true_eq_false, not_false_eq_true, a60, a18, cast_s, hc.t57, hc.r57_0, hc.r57_1, hc.r57_2, hc.r57_3, hc.r57_4, hc.r57_5, hc.r57_6, hc.r57_7, hc.r57_8, hc.r57_9, hc.r57_10, hc.t60, hc.z60, hc.t63, hc.z63, hp.t0, hp.t1, hp.t2, hp.t3, hp.t4, hp.t5, hp.t6, hp.t7, hp.t8, hp.t9, hp.t10, hp.t11, hp.t12, hp.t13, hp.t14, hp.t15, hp.t16, hp.t17, hp.t18, hp.t19, hp.t20, hp.t21, hp.t22, hp.t23, hp.z2, hp.z3, hp.z4, hp.z5, hp.z7, hp.z8, hp.z9, hp.z10, hp.z12, hp.z13, hp.z14, hp.z15, hp.z16, hp.z17, hp.z18, hp.z20, hp.z21, hp.z22, hp.z23, hp.r0_2, hp.r0_3, hp.r0_4, hp.r0_5, hp.r1_1, hp.r1_2, hp.r1_3, hp.r1_4, hp.r6_1, hp.r6_2, hp.r6_3, hp.r6_4, hp.r11_1, hp.r11_2, hp.r11_3, hp.r11_4, hp.r11_5, hp.r11_6, hp.r11_7, hp.r19_1, hp.r19_2, hp.r19_3, hp.r19_4]
    refine ih (i + 1) (up2 h1.1 63 i (v 18 c), h1.2) (by omega) (NZ.up (I := h1.1) (F := h1.2) z1 (by rw [hc.z63]; omega)) (fun a q1 q2 => by dsimp only; rw [up2_of q2, o1 a q1]; exact g1 a q1 q2) (by rw [e1]; exact g2) (fun j hj => ?_) hq
    dsimp only
    rw [up2_of (by omega), up2_same, e1]
    dsimp only
    rw [up2_same, up2_of (by omega)]
    by_cases e : j = i
    · rw [if_pos e, if_pos e, e, hcd]
      exact ⟨rfl, rfl⟩
    · rw [if_neg e, if_neg e]
      exact p j (by omega)
theorem LA.g1 {k c n : Nat} {v : Nat → Nat → Int} (la : LA h v c n) (g : G1 k h h2) (hk : 58 ≤ k) : LA h2 v c n := by
  unfold LA BDr at la ⊢
  rw [g.1 16 (by omega), g.1 17 (by omega), g.1 18 (by omega), g.1 19 (by omega), g.1 20 (by omega), g.1 21 (by omega), g.2]
  exact la
def PTi (h : xH) (v : Nat → Nat → Int) (t : Int) (G : List Nat) (i j : Nat) : Prop := ∀ a b, a < G.length → b < G.length → (a < i ∨ (a = i ∧ b < j)) → h.1 64 (a * 5 + b) = wat v t (G.getD a 0) (16 * v 18 (G.getD b 0)) (16 * v 17 (G.getD b 0))
set_option maxHeartbeats 4000000 in
theorem l_69j (hc : CT X ns nb ln) {h0 : xH} {v : Nat → Nat → Int} {t : Int} (wg : WG v) (t0 : 0 ≤ t) (t1 : t ≤ 8) (et : h0.1 1 4 = t) {G : List Nat} (g5 : G.length ≤ 5) (hs : ∀ o, o < G.length → rgS (v 17 (G.getD o 0)) (v 18 (G.getD o 0))) {i : Nat} (il : i < G.length) (la : LA h0 v (G.getD i 0) (v 19 0).toNat) (gs : GSp h0 v G G.length) : ∀ (m j : Nat) (h : xH), j + m = G.length → NZ X h → G1 64 h0 h → PTi h v t G i j → (∀ h2 x5, NZ X h2 → G1 64 h0 h2 → PTi h2 v t G (i + 1) 0 → Ev X 69 75 [some (vr 57), some (vr 200), some (vi (G.length : Int)), some (vr (200 + 11)), some (vi i), x5, none] [] h2 Q) → Ev X 69 47 [some (vr 57), some (vr 200), some (vi (G.length : Int)), some (vr (200 + 11)), some (vi i), some (vi j), none] [] h Q := by
  have nN := wg.1.nN
  intro m
  induction m with
  | zero =>
    intro j h hm z g p hq
    rw [e_69_47]
    simp (disch := first | assumption | omega) only [e_69_48, e_69_49, onI_s, onR_s, onL_s, gl_0, gl_n, gl_1, gl_2, gl_3, gl_4, gl_5, gl_6, gl_7, gl_8, gl_9, gl_10, gl_11, gl_12, gl_13, gl_14, gl_15, gl_16, gl_17, sk0i, sk0r, sk0n, sk1i, sk1r, sk1n, sk_2, sk_3, sk_4, sk_5, sk_6, sk_7, sk_8, sk_9, sk_10, sk_11, sk_12, sk_13, sk_14, sk_15, sk_16, sk_17, ls_0, ls_1, ls_2, ls_3, ls_4, ls_5, ls_6, ls_7, ls_8, ls_9, ls_10, ls_11, ls_12, ls_13, ls_14, ls_15, ls_16, ls_17, ct1_i, ct1_r, wd8_0, wd8_i1, wd8_r1, wd8_i2, wd8_r2, wd8_i3, wd8_r3, wd8_i4, wd8_r4, wd8_i5, wd8_r5, wd8_i6, wd8_r6, wd8_i7, wd8_r7, wd8_i8, wd8_r8, wd8_l2, wd8_l3, wd8_l4, wd8_l5, wd8_l6, wd8_l7, wd8_l8, tl_s, tl_n, inR_t, bd_t, true_and, and_true, true_or, or_true, if_true_x, if_false_x, if_pos, if_neg, Int.toNat_natCast, natL, bI_0, bI_1, bI_ft, eq_self, b_tf, b_ft, not_true_eq_false, not_false_eq_true]
    exact hq h _ z g (fun a b ha hb q => p a b ha hb (by omega))
  | succ m ih =>
    intro j h hm z g p hq
    have jl : j < G.length := by omega
    have lah := la.g1 g (by omega)
    obtain ⟨s1, s2⟩ := hs j jl
    have e62 : h.1 62 j = v 17 (G.getD j 0) := by rw [g.1 62 (by omega)]; exact (gs j jl).1
    have e63 : h.1 63 j = v 18 (G.getD j 0) := by rw [g.1 63 (by omega)]; exact (gs j jl).2
    have eth : h.1 1 4 = t := by rw [g.1 1 (by omega)]; exact et
    have ti : ((i : Int) * 5 + (j : Int)).toNat = i * 5 + j := by omega
    have we : sumF (waT v t (G.getD i 0) (16 * v 18 (G.getD j 0)) (16 * v 17 (G.getD j 0))) (v 19 0).toNat 0 = wat v t (G.getD i 0) (16 * v 18 (G.getD j 0)) (16 * v 17 (G.getD j 0)) := rfl
    rw [e_69_47]
    simp (disch := first | assumption | omega) only [e_69_48, e_69_49, e_69_50, e_69_51, e_69_52, e_69_53, e_69_54, e_69_55, e_69_56, e_69_57, e_69_58, e_69_59, e_69_60, e_69_61, e_69_62, e_69_63, e_69_64, e_69_65, e_69_66, e_69_67, e_69_68, e_69_69, e_69_70, onI_s, onR_s, onL_s, gl_0, gl_n, gl_1, gl_2, gl_3, gl_4, gl_5, gl_6, gl_7, gl_8, gl_9, gl_10, gl_11, gl_12, gl_13, gl_14, gl_15, gl_16, gl_17, sk0i, sk0r, sk0n, sk1i, sk1r, sk1n, sk_2, sk_3, sk_4, sk_5, sk_6, sk_7, sk_8, sk_9, sk_10, sk_11, sk_12, sk_13, sk_14, sk_15, sk_16, sk_17, ls_0, ls_1, ls_2, ls_3, ls_4, ls_5, ls_6, ls_7, ls_8, ls_9, ls_10, ls_11, ls_12, ls_13, ls_14, ls_15, ls_16, ls_17, ct1_i, ct1_r, wd8_0, wd8_i1, wd8_r1, wd8_i2, wd8_r2, wd8_i3, wd8_r3, wd8_i4, wd8_r4, wd8_i5, wd8_r5, wd8_i6, wd8_r6, wd8_i7, wd8_r7, wd8_i8, wd8_r8, wd8_l2, wd8_l3, wd8_l4, wd8_l5, wd8_l6, wd8_l7, wd8_l8, tl_s, tl_n, inR_t, bd_t, true_and, and_true, true_or, or_true, if_true_x, if_false_x, if_pos, if_neg, Int.toNat_natCast, natL, bI_0, bI_1, bI_ft, eq_self, b_tf, b_ft, not_true_eq_false, not_false_eq_true, e62, e63, hc.t57, hc.r57_0, hc.r57_1, hc.r57_2, hc.r57_3, hc.r57_4, hc.r57_5, hc.r57_6, hc.r57_7, hc.r57_8, hc.r57_9, hc.r57_10, hc.t62, hc.z62, hc.t63, hc.z63]
    (rw [e_69_71]; refine ⟨⟨hc.t14, by simp [wd_i, wd_r, wd_l, wd_0]⟩, ?_⟩)
    rw [m_94 hc lah (by omega) (by rw [eth]; exact t0) (by rw [eth]; exact t1) (by omega) (by omega) (by omega) (by omega), eth, we]
    simp (disch := first | assumption | omega) only [e_69_72, e_69_73, e_69_74, onI_s, onR_s, onL_s, gl_0, gl_n, gl_1, gl_2, gl_3, gl_4, gl_5, gl_6, gl_7, gl_8, gl_9, gl_10, gl_11, gl_12, gl_13, gl_14, gl_15, gl_16, gl_17, sk0i, sk0r, sk0n, sk1i, sk1r, sk1n, sk_2, sk_3, sk_4, sk_5, sk_6, sk_7, sk_8, sk_9, sk_10, sk_11, sk_12, sk_13, sk_14, sk_15, sk_16, sk_17, ls_0, ls_1, ls_2, ls_3, ls_4, ls_5, ls_6, ls_7, ls_8, ls_9, ls_10, ls_11, ls_12, ls_13, ls_14, ls_15, ls_16, ls_17, ct1_i, ct1_r, wd8_0, wd8_i1, wd8_r1, wd8_i2, wd8_r2, wd8_i3, wd8_r3, wd8_i4, wd8_r4, wd8_i5, wd8_r5, wd8_i6, wd8_r6, wd8_i7, wd8_r7, wd8_i8, wd8_r8, wd8_l2, wd8_l3, wd8_l4, wd8_l5, wd8_l6, wd8_l7, wd8_l8, tl_s, tl_n, inR_t, bd_t, true_and, and_true, true_or, or_true, if_true_x, if_false_x, if_pos, if_neg, Int.toNat_natCast, natL, bI_0, bI_1, bI_ft, eq_self, b_tf, b_ft, not_true_eq_false, not_false_eq_true, ti, cast_s, hc.t64, hc.z64]
    refine ih (j + 1) (up2 h.1 64 (i * 5 + j) (wat v t (G.getD i 0) (16 * v 18 (G.getD j 0)) (16 * v 17 (G.getD j 0))), h.2) (by omega) (NZ.up (I := h.1) (F := h.2) z (by rw [hc.z64]; omega)) (G1.tr g ⟨fun a q => up2_of q, rfl⟩) (fun a b ha hb q => ?_) hq
    dsimp only
    rw [up2_same]
    by_cases e : a * 5 + b = i * 5 + j
    · have ea : a = i := by omega
      have eb : b = j := by omega
      rw [if_pos e, ea, eb]
    · rw [if_neg e]
      exact p a b ha hb (by omega)
set_option maxHeartbeats 4000000 in
theorem l_69i (hp : PL X 200) (hc : CT X ns nb ln) {h0 : xH} {v : Nat → Nat → Int} {t : Int} (ev : cv h0 200 = v) (wg : WG v) (t0 : 0 ≤ t) (t1 : t ≤ 8) (et : h0.1 1 4 = t) {G : List Nat} (g5 : G.length ≤ 5) (gc : ∀ c, c ∈ G → c < 20) (r60 : R1 (h0.1 60) G) (hs : ∀ o, o < G.length → rgS (v 17 (G.getD o 0)) (v 18 (G.getD o 0))) (gs : GSp h0 v G G.length) : ∀ (m i : Nat) (h : xH) (x5 : Option xV), i + m = G.length → NZ X h → (∀ a, ¬ (16 ≤ a ∧ a ≤ 21) → a ≠ 64 → h.1 a = h0.1 a) → (∀ a, a ≠ 14 → h.2 a = h0.2 a) → PTi h v t G i 0 → (∀ h2 x4 x5, NZ X h2 → (∀ a, ¬ (16 ≤ a ∧ a ≤ 21) → a ≠ 64 → h2.1 a = h0.1 a) → (∀ a, a ≠ 14 → h2.2 a = h0.2 a) → PTb h2 v t G → Ev X 69 77 [some (vr 57), some (vr 200), some (vi (G.length : Int)), some (vr (200 + 11)), x4, x5, none] [] h2 Q) → Ev X 69 34 [some (vr 57), some (vr 200), some (vi (G.length : Int)), some (vr (200 + 11)), some (vi i), x5, none] [] h Q := by
  intro m
  induction m with
  | zero =>
    intro i h x5 hm z g1 g2 p hq
    rw [e_69_34]
    simp (disch := first | assumption | omega) only [e_69_35, e_69_36, onI_s, onR_s, onL_s, gl_0, gl_n, gl_1, gl_2, gl_3, gl_4, gl_5, gl_6, gl_7, gl_8, gl_9, gl_10, gl_11, gl_12, gl_13, gl_14, gl_15, gl_16, gl_17, sk0i, sk0r, sk0n, sk1i, sk1r, sk1n, sk_2, sk_3, sk_4, sk_5, sk_6, sk_7, sk_8, sk_9, sk_10, sk_11, sk_12, sk_13, sk_14, sk_15, sk_16, sk_17, ls_0, ls_1, ls_2, ls_3, ls_4, ls_5, ls_6, ls_7, ls_8, ls_9, ls_10, ls_11, ls_12, ls_13, ls_14, ls_15, ls_16, ls_17, ct1_i, ct1_r, wd8_0, wd8_i1, wd8_r1, wd8_i2, wd8_r2, wd8_i3, wd8_r3, wd8_i4, wd8_r4, wd8_i5, wd8_r5, wd8_i6, wd8_r6, wd8_i7, wd8_r7, wd8_i8, wd8_r8, wd8_l2, wd8_l3, wd8_l4, wd8_l5, wd8_l6, wd8_l7, wd8_l8, tl_s, tl_n, inR_t, bd_t, true_and, and_true, true_or, or_true, if_true_x, if_false_x, if_pos, if_neg, Int.toNat_natCast, natL, bI_0, bI_1, bI_ft, eq_self, b_tf, b_ft, not_true_eq_false, not_false_eq_true]
    exact hq h _ _ z g1 g2 (fun a b ha hb => p a b ha hb (by omega))
  | succ m ih =>
    intro i h x5 hm z g1 g2 p hq
    have il : i < G.length := by omega
    have m20 : G.getD i 0 ∈ G := by
      rw [List.getD_eq_getElem?_getD, List.getElem?_eq_getElem il]
      exact List.getElem_mem il
    have e60 : h.1 60 i = ((G.getD i 0 : Nat) : Int) := by rw [g1 60 (by omega) (by omega)]; exact R1.at r60 il
    have cvh : cv h 200 = v := (cv_congr (fun a q1 q2 => ⟨g1 a (by omega) (by omega), by rw [g2 a (by omega)]⟩)).trans ev
    rw [e_69_34]
    simp (disch := first | assumption | omega) only [e_69_35, e_69_36, e_69_37, e_69_38, e_69_39, e_69_40, e_69_41, e_69_42, e_69_43, onI_s, onR_s, onL_s, gl_0, gl_n, gl_1, gl_2, gl_3, gl_4, gl_5, gl_6, gl_7, gl_8, gl_9, gl_10, gl_11, gl_12, gl_13, gl_14, gl_15, gl_16, gl_17, sk0i, sk0r, sk0n, sk1i, sk1r, sk1n, sk_2, sk_3, sk_4, sk_5, sk_6, sk_7, sk_8, sk_9, sk_10, sk_11, sk_12, sk_13, sk_14, sk_15, sk_16, sk_17, ls_0, ls_1, ls_2, ls_3, ls_4, ls_5, ls_6, ls_7, ls_8, ls_9, ls_10, ls_11, ls_12, ls_13, ls_14, ls_15, ls_16, ls_17, ct1_i, ct1_r, wd8_0, wd8_i1, wd8_r1, wd8_i2, wd8_r2, wd8_i3, wd8_r3, wd8_i4, wd8_r4, wd8_i5, wd8_r5, wd8_i6, wd8_r6, wd8_i7, wd8_r7, wd8_i8, wd8_r8, wd8_l2, wd8_l3, wd8_l4, wd8_l5, wd8_l6, wd8_l7, wd8_l8, tl_s, tl_n, inR_t, bd_t, true_and, and_true, true_or, or_true, if_true_x, if_false_x, if_pos, if_neg, Int.toNat_natCast, natL, bI_0, bI_1, bI_ft, eq_self, b_tf, b_ft, not_true_eq_false, not_false_eq_true, e60, hc.t57, hc.r57_0, hc.r57_1, hc.r57_2, hc.r57_3, hc.r57_4, hc.r57_5, hc.r57_6, hc.r57_7, hc.r57_8, hc.r57_9, hc.r57_10, hc.t60, hc.z60]
    (rw [e_69_44]; refine ⟨⟨hc.t14, by simp [wd_i, wd_r, wd_l, wd_0]⟩, ?_⟩)
    refine m_93 hp hc (by rw [cvh]; exact wg) z (fun h1 z1 f1 la => ?_)
    rw [cvh] at la
    simp (disch := first | assumption | omega) only [e_69_45, e_69_46, onI_s, onR_s, onL_s, gl_0, gl_n, gl_1, gl_2, gl_3, gl_4, gl_5, gl_6, gl_7, gl_8, gl_9, gl_10, gl_11, gl_12, gl_13, gl_14, gl_15, gl_16, gl_17, sk0i, sk0r, sk0n, sk1i, sk1r, sk1n, sk_2, sk_3, sk_4, sk_5, sk_6, sk_7, sk_8, sk_9, sk_10, sk_11, sk_12, sk_13, sk_14, sk_15, sk_16, sk_17, ls_0, ls_1, ls_2, ls_3, ls_4, ls_5, ls_6, ls_7, ls_8, ls_9, ls_10, ls_11, ls_12, ls_13, ls_14, ls_15, ls_16, ls_17, ct1_i, ct1_r, wd8_0, wd8_i1, wd8_r1, wd8_i2, wd8_r2, wd8_i3, wd8_r3, wd8_i4, wd8_r4, wd8_i5, wd8_r5, wd8_i6, wd8_r6, wd8_i7, wd8_r7, wd8_i8, wd8_r8, wd8_l2, wd8_l3, wd8_l4, wd8_l5, wd8_l6, wd8_l7, wd8_l8, tl_s, tl_n, inR_t, bd_t, true_and, and_true, true_or, or_true, if_true_x, if_false_x, if_pos, if_neg, Int.toNat_natCast, natL, bI_0, bI_1, bI_ft, eq_self, b_tf, b_ft, not_true_eq_false, not_false_eq_true]
    refine l_69j hc wg t0 t1 (by rw [f1.1 1 (by omega), g1 1 (by omega) (by omega)]; exact et) g5 hs il la (fun j hj => by rw [f1.1 62 (by omega), f1.1 63 (by omega), g1 62 (by omega) (by omega), g1 63 (by omega) (by omega)]; exact gs j hj) G.length 0 h1 (by omega) z1 G1.refl (fun a b ha hb q => by rw [f1.1 64 (by omega)]; exact p a b ha hb q) (fun h2 x5 z2 k2 p2 => ?_)
    rw [e_69_75]
    simp (disch := first | assumption | omega) only [e_69_76, onI_s, onR_s, onL_s, gl_0, gl_n, gl_1, gl_2, gl_3, gl_4, gl_5, gl_6, gl_7, gl_8, gl_9, gl_10, gl_11, gl_12, gl_13, gl_14, gl_15, gl_16, gl_17, sk0i, sk0r, sk0n, sk1i, sk1r, sk1n, sk_2, sk_3, sk_4, sk_5, sk_6, sk_7, sk_8, sk_9, sk_10, sk_11, sk_12, sk_13, sk_14, sk_15, sk_16, sk_17, ls_0, ls_1, ls_2, ls_3, ls_4, ls_5, ls_6, ls_7, ls_8, ls_9, ls_10, ls_11, ls_12, ls_13, ls_14, ls_15, ls_16, ls_17, ct1_i, ct1_r, wd8_0, wd8_i1, wd8_r1, wd8_i2, wd8_r2, wd8_i3, wd8_r3, wd8_i4, wd8_r4, wd8_i5, wd8_r5, wd8_i6, wd8_r6, wd8_i7, wd8_r7, wd8_i8, wd8_r8, wd8_l2, wd8_l3, wd8_l4, wd8_l5, wd8_l6, wd8_l7, wd8_l8, tl_s, tl_n, inR_t, bd_t, true_and, and_true, true_or, or_true, if_true_x, if_false_x, if_pos, if_neg, Int.toNat_natCast, natL, bI_0, bI_1, bI_ft, eq_self, b_tf, b_ft, not_true_eq_false, not_false_eq_true, cast_s]
    exact ih (i + 1) h2 _ (by omega) z2 (fun a q1 q2 => by rw [k2.1 a q2, f1.1 a q1]; exact g1 a q1 q2) (fun a q => by rw [k2.2, f1.2 a q]; exact g2 a q) p2 hq
end SCB
