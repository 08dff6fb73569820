/-! WINDOWS in the class: cells in a line -/
section WNC
variable {X : xL} {Q : Option xV → xH → Prop} {ns nb ln : Nat} {h h2 h3 : xH}
def VC (X : xL) (h0 h : xH) (u : Nat → Nat → Int) : Prop := NZ X h ∧ (∀ a, a ≠ 218 → h.1 a = h0.1 a) ∧ h.2 = h0.2 ∧ cv h 200 = u
theorem i32_w {x y : Int} (h : -1000000 ≤ x + y ∧ x + y ≤ 1000000) : (Int32.ofInt (x + y)).toInt = x + y := i32_in (by omega)
set_option maxHeartbeats 8000000 in
theorem m_61 (hp : PL X 200) (hc : CT X ns nb ln) {h0 : xH} {u v : Nat → Nat → Int} (wv : RGv v) (sj : SJ u v) {G O : List Nat} {ra : Nat} {r s0 : Int} (hra : ra = 58 ∨ ra = 59) (ht : X.1 ra = 13) (hz : X.2.1 ra = 5) (g4 : G.length ≤ 4) (gc : ∀ c, c ∈ G → c < 20) (hO : O.length = G.length) (ho : ∀ o, o ∈ O → o < G.length) (r60 : R1 (h0.1 60) G) (gp : GpB h0 61 v G (G.length - 1)) (rO : R1 (h0.1 ra) O) (z : NZ X h0) (ev : cv h0 200 = u) (ur : ∀ c, c ∈ G → u 17 c = r) (s1 : -100 ≤ s0 ∧ s0 ≤ 100) (hq : ∀ h2, VC X h0 h2 (mvL r (posW v G 0 O s0) u) → Q none h2) : Cl X 61 [vr 57, vr (200 + 11), vr ra, vi s0, vi (G.length : Int)] h0 Q := by
  have lp : ∀ (Os : List Nat) (i : Nat) (s x5 : Int) (u : Nat → Nat → Int) (h : xH) (x7 : Option xV), O.drop i = Os → i + Os.length = G.length → -100 * (i + 1) ≤ s → s ≤ 100 * (i + 1) → (Os ≠ [] → x5 = s) → SJ u v → (∀ c, c ∈ G → u 17 c = r) → VC X h0 h u → (∀ h2, VC X h0 h2 (mvL r (posW v G i Os s) u) → Q none h2) → Ev X 61 4 [some (vr 57), some (vr (200 + 11)), some (vr ra), some (vi s0), some (vi (G.length : Int)), some (vi x5), some (vi i), x7] [] h Q := by
    intro Os
    induction Os with
    | nil =>
      intro i s x5 u h x7 hd hk b1 b2 e5 sj ur vs hq
      simp at hk
      rw [posW, mvL] at hq
      rw [e_61_4]
      simp (disch := first | assumption | omega) only [e_61_5, e_61_6, e_61_33, onI_s, onR_s, onL_s, gl_0, gl_n, gl_1, gl_2, gl_3, gl_4, gl_5, gl_6, gl_7, gl_8, gl_9, gl_10, gl_11, gl_12, gl_13, gl_14, gl_15, gl_16, gl_17, sk0i, sk0r, sk0n, sk1i, sk1r, sk1n, sk_2, sk_3, sk_4, sk_5, sk_6, sk_7, sk_8, sk_9, sk_10, sk_11, sk_12, sk_13, sk_14, sk_15, sk_16, sk_17, ls_0, ls_1, ls_2, ls_3, ls_4, ls_5, ls_6, ls_7, ls_8, ls_9, ls_10, ls_11, ls_12, ls_13, ls_14, ls_15, ls_16, ls_17, ct1_i, ct1_r, wd8_0, wd8_i1, wd8_r1, wd8_i2, wd8_r2, wd8_i3, wd8_r3, wd8_i4, wd8_r4, wd8_i5, wd8_r5, wd8_i6, wd8_r6, wd8_i7, wd8_r7, wd8_i8, wd8_r8, wd8_l2, wd8_l3, wd8_l4, wd8_l5, wd8_l6, wd8_l7, wd8_l8, tl_s, tl_n, inR_t, bd_t, true_and, and_true, true_or, or_true, if_true_x, if_false_x, if_pos, if_neg, Int.toNat_natCast, natL, bI_0, bI_1, bI_ft, eq_self, b_tf, b_ft, not_true_eq_false, not_false_eq_true]
      exact hq h vs
    | cons o Os ih =>
      intro i s x5 u h x7 hd hk b1 b2 e5 sj ur vs hq
      obtain ⟨h1, h2, h3⟩ := getD_drop hd
      rw [List.length_cons] at hk
      rw [e5 (by simp)]
      have om : o ∈ O := by rw [← h1, List.getD_eq_getElem?_getD, List.getElem?_eq_getElem h3]; exact List.getElem_mem h3
      have ol := ho o om
      have eO : h.1 ra i = o := by rw [vs.2.1 ra (by omega), R1.at rO h3, h1]
      obtain ⟨c, hcd⟩ : ∃ c, c = G.getD o 0 := ⟨_, rfl⟩
      have cm : c ∈ G := by rw [hcd, List.getD_eq_getElem?_getD, List.getElem?_eq_getElem ol]; exact List.getElem_mem ol
      have c20 := gc c cm
      have e60 : h.1 60 o = c := by rw [vs.2.1 60 (by omega), R1.at r60 ol, hcd]
      have gb := gpW_bd wv G i
      have wc := wv.wid c
      rw [posW, mvL, ← hcd] at hq
      dsimp only at hq
      rw [e_61_4]
      simp (disch := first | assumption | omega) only [e_61_5, e_61_6, e_61_7, e_61_8, e_61_9, e_61_10, e_61_11, e_61_12, e_61_13, e_61_14, e_61_15, e_61_16, e_61_17, e_61_18, onI_s, onR_s, onL_s, gl_0, gl_n, gl_1, gl_2, gl_3, gl_4, gl_5, gl_6, gl_7, gl_8, gl_9, gl_10, gl_11, gl_12, gl_13, gl_14, gl_15, gl_16, gl_17, sk0i, sk0r, sk0n, sk1i, sk1r, sk1n, sk_2, sk_3, sk_4, sk_5, sk_6, sk_7, sk_8, sk_9, sk_10, sk_11, sk_12, sk_13, sk_14, sk_15, sk_16, sk_17, ls_0, ls_1, ls_2, ls_3, ls_4, ls_5, ls_6, ls_7, ls_8, ls_9, ls_10, ls_11, ls_12, ls_13, ls_14, ls_15, ls_16, ls_17, ct1_i, ct1_r, wd8_0, wd8_i1, wd8_r1, wd8_i2, wd8_r2, wd8_i3, wd8_r3, wd8_i4, wd8_r4, wd8_i5, wd8_r5, wd8_i6, wd8_r6, wd8_i7, wd8_r7, wd8_i8, wd8_r8, wd8_l2, wd8_l3, wd8_l4, wd8_l5, wd8_l6, wd8_l7, wd8_l8, tl_s, tl_n, inR_t, bd_t, true_and, and_true, true_or, or_true, if_true_x, if_false_x, if_pos, if_neg, Int.toNat_natCast, natL, bI_0, bI_1, bI_ft, eq_self, b_tf, b_ft, not_true_eq_false, not_false_eq_true, eO, e60, ht, hz, hc.t57, hc.r57_0, hc.r57_1, hc.r57_2, hc.r57_3, hc.r57_4, hc.r57_5, hc.r57_6, hc.r57_7, hc.r57_8, hc.r57_9, hc.r57_10, hc.t60, hc.z60, hp.t0, hp.t1, hp.t2, hp.t3, hp.t4, hp.t5, hp.t6, hp.t7, hp.t8, hp.t9, hp.t10, hp.t11, hp.t12, hp.t13, hp.t14, hp.t15, hp.t16, hp.t17, hp.t18, hp.t19, hp.t20, hp.t21, hp.t22, hp.t23, hp.z2, hp.z3, hp.z4, hp.z5, hp.z7, hp.z8, hp.z9, hp.z10, hp.z12, hp.z13, hp.z14, hp.z15, hp.z16, hp.z17, hp.z18, hp.z20, hp.z21, hp.z22, hp.z23, hp.r0_2, hp.r0_3, hp.r0_4, hp.r0_5, hp.r1_1, hp.r1_2, hp.r1_3, hp.r1_4, hp.r6_1, hp.r6_2, hp.r6_3, hp.r6_4, hp.r11_1, hp.r11_2, hp.r11_3, hp.r11_4, hp.r11_5, hp.r11_6, hp.r11_7, hp.r19_1, hp.r19_2, hp.r19_3, hp.r19_4]
      obtain ⟨h4, e4⟩ : ∃ h4 : xH, h4 = (up2 h.1 (200 + 18) c s, h.2) := ⟨_, rfl⟩
      rw [← e4]
      have z18 : X.2.1 (200 + 18) = 20 := hp.z18
      have eg : gvP u c r s = up2 u 18 c s := by
        unfold gvP
        rw [← ur c cm, up2_id]
      have vs4 : VC X h0 h4 (gvP u c r s) := by
        rw [e4, eg]
        refine ⟨NZ.up (I := h.1) (F := h.2) vs.1 (by rw [z18]; omega), fun a q => ?_, vs.2.2.1, ?_⟩
        · dsimp only
          rw [up2_of q]
          exact vs.2.1 a q
        · rw [cv_u (by omega) (by omega), ← vs.2.2.2]
      have sj4 : SJ (gvP u c r s) v := sj.gv
      have ur4 : ∀ d, d ∈ G → gvP u c r s 17 d = r := fun d hd => by
        rw [eg, up2_oth (by decide)]
        exact ur d hd
      have w12 : h4.1 (200 + 12) c = v 12 c := by
        have : cv h4 200 12 c = v 12 c := by rw [vs4.2.2.2, sj4 12 (by decide) (by decide)]
        exact this
      have e612 : h4.1 61 i = h0.1 61 i := by rw [vs4.2.1 61 (by omega)]
      simp (disch := first | assumption | omega) only [e_61_19, e_61_20, e_61_21, e_61_22, e_61_23, e_61_24, e_61_25, e_61_26, e_61_27, e_61_28, e_61_29, e_61_30, e_61_31, e_61_32, onI_s, onR_s, onL_s, gl_0, gl_n, gl_1, gl_2, gl_3, gl_4, gl_5, gl_6, gl_7, gl_8, gl_9, gl_10, gl_11, gl_12, gl_13, gl_14, gl_15, gl_16, gl_17, sk0i, sk0r, sk0n, sk1i, sk1r, sk1n, sk_2, sk_3, sk_4, sk_5, sk_6, sk_7, sk_8, sk_9, sk_10, sk_11, sk_12, sk_13, sk_14, sk_15, sk_16, sk_17, ls_0, ls_1, ls_2, ls_3, ls_4, ls_5, ls_6, ls_7, ls_8, ls_9, ls_10, ls_11, ls_12, ls_13, ls_14, ls_15, ls_16, ls_17, ct1_i, ct1_r, wd8_0, wd8_i1, wd8_r1, wd8_i2, wd8_r2, wd8_i3, wd8_r3, wd8_i4, wd8_r4, wd8_i5, wd8_r5, wd8_i6, wd8_r6, wd8_i7, wd8_r7, wd8_i8, wd8_r8, wd8_l2, wd8_l3, wd8_l4, wd8_l5, wd8_l6, wd8_l7, wd8_l8, tl_s, tl_n, inR_t, bd_t, true_and, and_true, true_or, or_true, if_true_x, if_false_x, if_pos, if_neg, Int.toNat_natCast, natL, bI_0, bI_1, bI_ft, eq_self, b_tf, b_ft, not_true_eq_false, not_false_eq_true, w12, e612, cast_s, hc.t57, hc.r57_0, hc.r57_1, hc.r57_2, hc.r57_3, hc.r57_4, hc.r57_5, hc.r57_6, hc.r57_7, hc.r57_8, hc.r57_9, hc.r57_10, hc.t61, hc.z61, hp.t0, hp.t1, hp.t2, hp.t3, hp.t4, hp.t5, hp.t6, hp.t7, hp.t8, hp.t9, hp.t10, hp.t11, hp.t12, hp.t13, hp.t14, hp.t15, hp.t16, hp.t17, hp.t18, hp.t19, hp.t20, hp.t21, hp.t22, hp.t23, hp.z2, hp.z3, hp.z4, hp.z5, hp.z7, hp.z8, hp.z9, hp.z10, hp.z12, hp.z13, hp.z14, hp.z15, hp.z16, hp.z17, hp.z18, hp.z20, hp.z21, hp.z22, hp.z23, hp.r0_2, hp.r0_3, hp.r0_4, hp.r0_5, hp.r1_1, hp.r1_2, hp.r1_3, hp.r1_4, hp.r6_1, hp.r6_2, hp.r6_3, hp.r6_4, hp.r11_1, hp.r11_2, hp.r11_3, hp.r11_4, hp.r11_5, hp.r11_6, hp.r11_7, hp.r19_1, hp.r19_2, hp.r19_3, hp.r19_4]
      refine ih (i + 1) (s + v 12 c + gpW v G i) _ _ h4 _ h2 (by omega) (by omega) (by omega) (fun ne => ?_) sj4 ur4 vs4 hq
      have il : i < G.length - 1 := by
        cases Os with
        | nil => exact absurd rfl ne
        | cons a b => rw [List.length_cons] at hk; omega
      rw [gp i il, i32_w (x := v 12 c) (y := gpW v G i) (by omega), i32_w (by omega)]
      omega
  rw [c_61]
  simp (disch := first | assumption | omega) only [e_61_0, e_61_1, e_61_2, e_61_3, onI_s, onR_s, onL_s, gl_0, gl_n, gl_1, gl_2, gl_3, gl_4, gl_5, gl_6, gl_7, gl_8, gl_9, gl_10, gl_11, gl_12, gl_13, gl_14, gl_15, gl_16, gl_17, sk0i, sk0r, sk0n, sk1i, sk1r, sk1n, sk_2, sk_3, sk_4, sk_5, sk_6, sk_7, sk_8, sk_9, sk_10, sk_11, sk_12, sk_13, sk_14, sk_15, sk_16, sk_17, ls_0, ls_1, ls_2, ls_3, ls_4, ls_5, ls_6, ls_7, ls_8, ls_9, ls_10, ls_11, ls_12, ls_13, ls_14, ls_15, ls_16, ls_17, ct1_i, ct1_r, wd8_0, wd8_i1, wd8_r1, wd8_i2, wd8_r2, wd8_i3, wd8_r3, wd8_i4, wd8_r4, wd8_i5, wd8_r5, wd8_i6, wd8_r6, wd8_i7, wd8_r7, wd8_i8, wd8_r8, wd8_l2, wd8_l3, wd8_l4, wd8_l5, wd8_l6, wd8_l7, wd8_l8, tl_s, tl_n, inR_t, bd_t, true_and, and_true, true_or, or_true, if_true_x, if_false_x, if_pos, if_neg, Int.toNat_natCast, natL, bI_0, bI_1, bI_ft, eq_self, b_tf, b_ft, not_true_eq_false, not_false_eq_true]
  exact lp O 0 s0 s0 u h0 none (by simp) (by omega) (by omega) (by omega) (fun _ => rfl) sj ur ⟨z, fun _ _ => rfl, rfl, ev⟩ hq
set_option maxHeartbeats 8000000 in
theorem l_60a (hc : CT X ns nb ln) {h0 : xH} {A G C : List Nat} {x8 : Option xV} (g4 : G.length ≤ 4) (l20 : (A ++ (G ++ C)).length ≤ 20) (r13 : R1 (h0.1 13) (A ++ (G ++ C))) : ∀ (m i : Nat) (h : xH), i + m = G.length → NZ X h → G1 60 h0 h → R1 (h.1 60) (G.take i) → (∀ h2 x5, NZ X h2 → G1 60 h0 h2 → R1 (h2.1 60) G → Ev X 60 21 [some (vr 57), some (vr 200), some (vi (A.length : Int)), some (vi (G.length : Int)), some (vr (200 + 11)), x5, none, none, x8] [] h2 Q) → Ev X 60 5 [some (vr 57), some (vr 200), some (vi (A.length : Int)), some (vi (G.length : Int)), some (vr (200 + 11)), some (vi i), none, none, x8] [] h Q := by
  have lA : A.length + G.length ≤ 20 := by
    rw [List.length_append, List.length_append] at l20
    omega
  intro m
  induction m with
  | zero =>
    intro i h hm z g r60 hq
    rw [e_60_5]
    simp (disch := first | assumption | omega) only [e_60_6, e_60_7, onI_s, onR_s, onL_s, gl_0, gl_n, gl_1, gl_2, gl_3, gl_4, gl_5, gl_6, gl_7, gl_8, gl_9, gl_10, gl_11, gl_12, gl_13, gl_14, gl_15, gl_16, gl_17, sk0i, sk0r, sk0n, sk1i, sk1r, sk1n, sk_2, sk_3, sk_4, sk_5, sk_6, sk_7, sk_8, sk_9, sk_10, sk_11, sk_12, sk_13, sk_14, sk_15, sk_16, sk_17, ls_0, ls_1, ls_2, ls_3, ls_4, ls_5, ls_6, ls_7, ls_8, ls_9, ls_10, ls_11, ls_12, ls_13, ls_14, ls_15, ls_16, ls_17, ct1_i, ct1_r, wd8_0, wd8_i1, wd8_r1, wd8_i2, wd8_r2, wd8_i3, wd8_r3, wd8_i4, wd8_r4, wd8_i5, wd8_r5, wd8_i6, wd8_r6, wd8_i7, wd8_r7, wd8_i8, wd8_r8, wd8_l2, wd8_l3, wd8_l4, wd8_l5, wd8_l6, wd8_l7, wd8_l8, tl_s, tl_n, inR_t, bd_t, true_and, and_true, true_or, or_true, if_true_x, if_false_x, if_pos, if_neg, Int.toNat_natCast, natL, bI_0, bI_1, bI_ft, eq_self, b_tf, b_ft, not_true_eq_false, not_false_eq_true]
    rw [show i = G.length by omega, List.take_length] at r60
    exact hq h _ z g r60
  | succ m ih =>
    intro i h hm z g r60 hq
    have il : i < G.length := by omega
    have ai : (A.length : Int) + (i : Int) = ((A.length + i : Nat) : Int) := rfl
    have hx : G[i]? = some (G.getD i 0) := by rw [List.getD_eq_getElem?_getD, List.getElem?_eq_getElem il]; rfl
    have e13 : h.1 13 (A.length + i) = ((G.getD i 0 : Nat) : Int) := by rw [g.1 13 (by omega)]; exact r13 _ _ (mid_at il)
    rw [e_60_5]
    simp (disch := first | assumption | omega) only [e_60_6, e_60_7, e_60_8, e_60_9, e_60_10, e_60_11, e_60_12, e_60_13, e_60_14, e_60_15, e_60_16, e_60_17, e_60_18, e_60_19, e_60_20, onI_s, onR_s, onL_s, gl_0, gl_n, gl_1, gl_2, gl_3, gl_4, gl_5, gl_6, gl_7, gl_8, gl_9, gl_10, gl_11, gl_12, gl_13, gl_14, gl_15, gl_16, gl_17, sk0i, sk0r, sk0n, sk1i, sk1r, sk1n, sk_2, sk_3, sk_4, sk_5, sk_6, sk_7, sk_8, sk_9, sk_10, sk_11, sk_12, sk_13, sk_14, sk_15, sk_16, sk_17, ls_0, ls_1, ls_2, ls_3, ls_4, ls_5, ls_6, ls_7, ls_8, ls_9, ls_10, ls_11, ls_12, ls_13, ls_14, ls_15, ls_16, ls_17, ct1_i, ct1_r, wd8_0, wd8_i1, wd8_r1, wd8_i2, wd8_r2, wd8_i3, wd8_r3, wd8_i4, wd8_r4, wd8_i5, wd8_r5, wd8_i6, wd8_r6, wd8_i7, wd8_r7, wd8_i8, wd8_r8, wd8_l2, wd8_l3, wd8_l4, wd8_l5, wd8_l6, wd8_l7, wd8_l8, tl_s, tl_n, inR_t, bd_t, true_and, and_true, true_or, or_true, if_true_x, if_false_x, if_pos, if_neg, Int.toNat_natCast, natL, bI_0, bI_1, bI_ft, eq_self, b_tf, b_ft, not_true_eq_false, not_false_eq_true, ai, e13, cast_s, hc.t57, hc.r57_0, hc.r57_1, hc.r57_2, hc.r57_3, hc.r57_4, hc.r57_5, hc.r57_6, hc.r57_7, hc.r57_8, hc.r57_9, hc.r57_10, hc.t7, hc.r7_2, hc.r7_4, hc.r7_5, hc.r7_6, hc.r7_7, hc.r7_8, hc.t13, hc.z13, hc.t60, hc.z60]
    exact ih (i + 1) (up2 h.1 60 i ((G.getD i 0 : Nat) : Int), h.2) (by omega) (NZ.up (I := h.1) (F := h.2) z (by rw [hc.z60]; omega)) (g.tr ⟨fun a q => up2_of q, rfl⟩) (R1.take_s r60 hx (fun k => by dsimp only; rw [up2_same])) hq
set_option maxHeartbeats 8000000 in
theorem l_60b (hp : PL X 200) (hc : CT X ns nb ln) {h0 : xH} {u : Nat → Nat → Int} (w : RGv u) (ev : cv h0 200 = u) {A G : List Nat} {x8 : Option xV} (g4 : G.length ≤ 4) (gc : ∀ c, c ∈ G → c < 20) (r60 : R1 (h0.1 60) G) : ∀ (m i : Nat) (h : xH), i + m = G.length - 1 → NZ X h → G1 61 h0 h → GpB h 61 u G i → (∀ h2 x5, NZ X h2 → G1 61 h0 h2 → GpB h2 61 u G (G.length - 1) → Ev X 60 59 [some (vr 57), some (vr 200), some (vi (A.length : Int)), some (vi (G.length : Int)), some (vr (200 + 11)), x5, none, none, x8] [] h2 Q) → Ev X 60 23 [some (vr 57), some (vr 200), some (vi (A.length : Int)), some (vi (G.length : Int)), some (vr (200 + 11)), some (vi i), none, none, x8] [] h Q := by
  intro m
  induction m with
  | zero =>
    intro i h hm z g gp hq
    rw [e_60_23]
    simp (disch := first | assumption | omega) only [e_60_24, e_60_25, e_60_26, e_60_27, onI_s, onR_s, onL_s, gl_0, gl_n, gl_1, gl_2, gl_3, gl_4, gl_5, gl_6, gl_7, gl_8, gl_9, gl_10, gl_11, gl_12, gl_13, gl_14, gl_15, gl_16, gl_17, sk0i, sk0r, sk0n, sk1i, sk1r, sk1n, sk_2, sk_3, sk_4, sk_5, sk_6, sk_7, sk_8, sk_9, sk_10, sk_11, sk_12, sk_13, sk_14, sk_15, sk_16, sk_17, ls_0, ls_1, ls_2, ls_3, ls_4, ls_5, ls_6, ls_7, ls_8, ls_9, ls_10, ls_11, ls_12, ls_13, ls_14, ls_15, ls_16, ls_17, ct1_i, ct1_r, wd8_0, wd8_i1, wd8_r1, wd8_i2, wd8_r2, wd8_i3, wd8_r3, wd8_i4, wd8_r4, wd8_i5, wd8_r5, wd8_i6, wd8_r6, wd8_i7, wd8_r7, wd8_i8, wd8_r8, wd8_l2, wd8_l3, wd8_l4, wd8_l5, wd8_l6, wd8_l7, wd8_l8, tl_s, tl_n, inR_t, bd_t, true_and, and_true, true_or, or_true, if_true_x, if_false_x, if_pos, if_neg, Int.toNat_natCast, natL, bI_0, bI_1, bI_ft, eq_self, b_tf, b_ft, not_true_eq_false, not_false_eq_true]
    rw [show i = G.length - 1 by omega] at gp
    exact hq h _ z g gp
  | succ m ih =>
    intro i h hm z g gp hq
    have il : i < G.length := by omega
    have il1 : i + 1 < G.length := by omega
    obtain ⟨c, hcd⟩ : ∃ c, c = G.getD i 0 := ⟨_, rfl⟩
    obtain ⟨d, hdd⟩ : ∃ d, d = G.getD (i + 1) 0 := ⟨_, rfl⟩
    have c20 : c < 20 := gc c (by rw [hcd, List.getD_eq_getElem?_getD, List.getElem?_eq_getElem il]; exact List.getElem_mem il)
    have d20 : d < 20 := gc d (by rw [hdd, List.getD_eq_getElem?_getD, List.getElem?_eq_getElem il1]; exact List.getElem_mem il1)
    have e60 : h.1 60 i = c := by rw [g.1 60 (by omega), R1.at r60 il, hcd]
    have e61 : h.1 60 (i + 1) = d := by rw [g.1 60 (by omega), R1.at r60 il1, hdd]
    have cvh : cv h 200 = u := (g.cv (by omega) (by omega)).trans ev
    have c18 : h.1 (200 + 18) c = u 18 c := by rw [← cvh]; rfl
    have d18 : h.1 (200 + 18) d = u 18 d := by rw [← cvh]; rfl
    have c12 : h.1 (200 + 12) c = u 12 c := by rw [← cvh]; rfl
    have wd := w.sit d
    have wc := w.sit c
    have ww := w.wid c
    have i1 : (i : Int) + 1 = ((i + 1 : Nat) : Int) := rfl
    rw [e_60_23]
    simp (disch := first | assumption | omega) only [e_60_24, e_60_25, e_60_26, e_60_27, e_60_28, e_60_29, e_60_30, e_60_31, e_60_32, e_60_33, e_60_34, e_60_35, e_60_36, e_60_37, e_60_38, e_60_39, e_60_40, e_60_41, e_60_42, e_60_43, e_60_44, e_60_45, e_60_46, e_60_47, e_60_48, e_60_49, e_60_50, e_60_51, e_60_52, e_60_53, e_60_54, e_60_55, e_60_56, e_60_57, e_60_58, onI_s, onR_s, onL_s, gl_0, gl_n, gl_1, gl_2, gl_3, gl_4, gl_5, gl_6, gl_7, gl_8, gl_9, gl_10, gl_11, gl_12, gl_13, gl_14, gl_15, gl_16, gl_17, sk0i, sk0r, sk0n, sk1i, sk1r, sk1n, sk_2, sk_3, sk_4, sk_5, sk_6, sk_7, sk_8, sk_9, sk_10, sk_11, sk_12, sk_13, sk_14, sk_15, sk_16, sk_17, ls_0, ls_1, ls_2, ls_3, ls_4, ls_5, ls_6, ls_7, ls_8, ls_9, ls_10, ls_11, ls_12, ls_13, ls_14, ls_15, ls_16, ls_17, ct1_i, ct1_r, wd8_0, wd8_i1, wd8_r1, wd8_i2, wd8_r2, wd8_i3, wd8_r3, wd8_i4, wd8_r4, wd8_i5, wd8_r5, wd8_i6, wd8_r6, wd8_i7, wd8_r7, wd8_i8, wd8_r8, wd8_l2, wd8_l3, wd8_l4, wd8_l5, wd8_l6, wd8_l7, wd8_l8, tl_s, tl_n, inR_t, bd_t, true_and, and_true, true_or, or_true, if_true_x, if_false_x, if_pos, if_neg, Int.toNat_natCast, natL, bI_0, bI_1, bI_ft, eq_self, b_tf, b_ft, not_true_eq_false, not_false_eq_true, i1, e60, e61, c18, d18, c12, hc.t57, hc.r57_0, hc.r57_1, hc.r57_2, hc.r57_3, hc.r57_4, hc.r57_5, hc.r57_6, hc.r57_7, hc.r57_8, hc.r57_9, hc.r57_10, hc.t60, hc.z60, hc.t61, hc.z61, hp.t0, hp.t1, hp.t2, hp.t3, hp.t4, hp.t5, hp.t6, hp.t7, hp.t8, hp.t9, hp.t10, hp.t11, hp.t12, hp.t13, hp.t14, hp.t15, hp.t16, hp.t17, hp.t18, hp.t19, hp.t20, hp.t21, hp.t22, hp.t23, hp.z2, hp.z3, hp.z4, hp.z5, hp.z7, hp.z8, hp.z9, hp.z10, hp.z12, hp.z13, hp.z14, hp.z15, hp.z16, hp.z17, hp.z18, hp.z20, hp.z21, hp.z22, hp.z23, hp.r0_2, hp.r0_3, hp.r0_4, hp.r0_5, hp.r1_1, hp.r1_2, hp.r1_3, hp.r1_4, hp.r6_1, hp.r6_2, hp.r6_3, hp.r6_4, hp.r11_1, hp.r11_2, hp.r11_3, hp.r11_4, hp.r11_5, hp.r11_6, hp.r11_7, hp.r19_1, hp.r19_2, hp.r19_3, hp.r19_4]
    refine ih (i + 1) (up2 h.1 61 i (u 18 d - u 18 c - u 12 c), h.2) (by omega) (NZ.up (I := h.1) (F := h.2) z (by rw [hc.z61]; omega)) (g.tr ⟨fun a q => up2_of q, rfl⟩) (fun j hj => ?_) hq
    dsimp only
    rw [up2_same]
    by_cases e : j = i
    · rw [if_pos e, e, gpW, if_pos il1, ← hcd, ← hdd]
    · rw [if_neg e]
      exact gp j (by omega)
set_option maxHeartbeats 8000000 in
theorem l_60s (hp : PL X 200) (hc : CT X ns nb ln) {h0 : xH} {u v : Nat → Nat → Int} {t : Int} (gd : Gd v) {f : Int} {rn a n : Nat} {A G C : List Nat} (wi : WI u v rn f a n (A ++ (G ++ C))) (an : a + n ≤ 32) (r8 : rn < 8) (g1' : 1 ≤ G.length) (tm : TMb (h0.1 1)) (et : h0.1 1 4 = t) (g4 : G.length ≤ 4) (gc : ∀ c, c ∈ G → c < 20) (r60 : R1 (h0.1 60) G) (gp : GpB h0 61 u G (G.length - 1)) : ∀ (Os : List (List Nat)) (L L2 B : List Nat) (le : Int) (tr : Nat) (h : xH) (x8 : Option xV), chB L Os = true → tr + Os.length ≤ 120 → L.length = G.length → B.length = G.length → L2.Perm (List.range G.length) → (∀ O, O ∈ Os → OKO G.length O ∧ O.Perm (List.range G.length)) → NZ X h → (∀ a, a ≠ 58 → a ≠ 59 → a ≠ 218 → h.1 a = h0.1 a) → (∀ a, a ≠ 14 → h.2 a = h0.2 a) → R1 (h.1 58) L → R1 (h.1 59) B → cv h 200 = wnP u G rn L2 → (∀ h2 L3 (x6 : Int) x7 x8, NZ X h2 → (∀ a, a ≠ 58 → a ≠ 59 → a ≠ 218 → h2.1 a = h0.1 a) → (∀ a, a ≠ 14 → h2.2 a = h0.2 a) → R1 (h2.1 59) (bsO (fun O => wir (wnP u G rn O) t) Os B le) → L3.Perm (List.range G.length) → cv h2 200 = wnP u G rn L3 → Ev X 60 106 [some (vr 57), some (vr 200), some (vi (A.length : Int)), some (vi (G.length : Int)), some (vr (200 + 11)), some (vi (u 18 (G.getD 0 0))), some (vi x6), x7, x8] [] h2 Q) → Ev X 60 77 [some (vr 57), some (vr 200), some (vi (A.length : Int)), some (vi (G.length : Int)), some (vr (200 + 11)), some (vi (u 18 (G.getD 0 0))), some (vi le), some (vi tr), x8] [] h Q := by
  have sit := wi.2.1.sit (G.getD 0 0)
  have again : ∀ (O L2 : List Nat), O.Perm (List.range G.length) → L2.Perm (List.range G.length) → mvL rn (posW u G 0 O (u 18 (G.getD 0 0))) (wnP u G rn L2) = wnP u G rn O := by
    intro O L2 p1 p2
    unfold wnP
    refine mvL_again (fun x hx => ?_)
    have k1 := (WI_win wi an r8 g1' p1).2.2.2.2.2.2.1
    have k2 := (WI_win wi an r8 g1' p2).2.2.2.2.2.2.1
    have : x.1 ∈ (posW u G 0 O (u 18 (G.getD 0 0))).map (fun x => x.1) := k1.mem_iff.mpr (k2.mem_iff.mp (List.mem_map.mpr ⟨x, hx, rfl⟩))
    obtain ⟨y, hy, e⟩ := List.mem_map.mp this
    exact ⟨y, hy, e⟩
  have good : ∀ (O : List Nat), O.Perm (List.range G.length) → WG (wnP u G rn O) ∧ SJ (wnP u G rn O) u ∧ ∀ c, c ∈ G → wnP u G rn O 17 c = rn := by
    intro O p
    have q := WI_win wi an r8 g1' p
    have w : RGv (wnP u G rn O) := mvL_rg _ u wi.2.1 q.1
    have s : SJ (wnP u G rn O) u := mvL_sj _ u SJ.refl
    refine ⟨SJ.wg (fun j h1 h2 => (s j h1 h2).trans (wi.2.2.1 j h1 h2)) w gd, s, fun c hc => ?_⟩
    have k := q.2.2.2.2.2.2
    obtain ⟨y, hy, e⟩ := List.mem_map.mp (k.1.mem_iff.mpr hc)
    rw [← e]
    exact (mvL_at _ u hy (k.1.nodup_iff.mpr k.2)).1
  intro Os
  induction Os with
  | nil =>
    intro L L2 B le tr h x8 ch ht lL lB pL2 ok z g1 g2 r1 r2 ev hq
    rw [chB] at ch
    have nn := of_decide_eq_true ch
    rw [e_60_77]
    by_cases e : 120 ≤ tr
    · simp (disch := first | assumption | omega) only [e_60_78, e_60_79, onI_s, onR_s, onL_s, gl_0, gl_n, gl_1, gl_2, gl_3, gl_4, gl_5, gl_6, gl_7, gl_8, gl_9, gl_10, gl_11, gl_12, gl_13, gl_14, gl_15, gl_16, gl_17, sk0i, sk0r, sk0n, sk1i, sk1r, sk1n, sk_2, sk_3, sk_4, sk_5, sk_6, sk_7, sk_8, sk_9, sk_10, sk_11, sk_12, sk_13, sk_14, sk_15, sk_16, sk_17, ls_0, ls_1, ls_2, ls_3, ls_4, ls_5, ls_6, ls_7, ls_8, ls_9, ls_10, ls_11, ls_12, ls_13, ls_14, ls_15, ls_16, ls_17, ct1_i, ct1_r, wd8_0, wd8_i1, wd8_r1, wd8_i2, wd8_r2, wd8_i3, wd8_r3, wd8_i4, wd8_r4, wd8_i5, wd8_r5, wd8_i6, wd8_r6, wd8_i7, wd8_r7, wd8_i8, wd8_r8, wd8_l2, wd8_l3, wd8_l4, wd8_l5, wd8_l6, wd8_l7, wd8_l8, tl_s, tl_n, inR_t, bd_t, true_and, and_true, true_or, or_true, if_true_x, if_false_x, if_pos, if_neg, Int.toNat_natCast, natL, bI_0, bI_1, bI_ft, eq_self, b_tf, b_ft, not_true_eq_false, not_false_eq_true]
      exact hq h L2 _ _ _ z g1 g2 r2 pL2 ev
    · simp (disch := first | assumption | omega) only [e_60_78, e_60_79, e_60_80, e_60_81, onI_s, onR_s, onL_s, gl_0, gl_n, gl_1, gl_2, gl_3, gl_4, gl_5, gl_6, gl_7, gl_8, gl_9, gl_10, gl_11, gl_12, gl_13, gl_14, gl_15, gl_16, gl_17, sk0i, sk0r, sk0n, sk1i, sk1r, sk1n, sk_2, sk_3, sk_4, sk_5, sk_6, sk_7, sk_8, sk_9, sk_10, sk_11, sk_12, sk_13, sk_14, sk_15, sk_16, sk_17, ls_0, ls_1, ls_2, ls_3, ls_4, ls_5, ls_6, ls_7, ls_8, ls_9, ls_10, ls_11, ls_12, ls_13, ls_14, ls_15, ls_16, ls_17, ct1_i, ct1_r, wd8_0, wd8_i1, wd8_r1, wd8_i2, wd8_r2, wd8_i3, wd8_r3, wd8_i4, wd8_r4, wd8_i5, wd8_r5, wd8_i6, wd8_r6, wd8_i7, wd8_r7, wd8_i8, wd8_r8, wd8_l2, wd8_l3, wd8_l4, wd8_l5, wd8_l6, wd8_l7, wd8_l8, tl_s, tl_n, inR_t, bd_t, true_and, and_true, true_or, or_true, if_true_x, if_false_x, if_pos, if_neg, Int.toNat_natCast, natL, bI_0, bI_1, bI_ft, eq_self, b_tf, b_ft, not_true_eq_false, not_false_eq_true]
      rw [← lL]
      (rw [e_60_82]; refine ⟨⟨hc.t57, by simp [wd_i, wd_r, wd_l, wd_0]⟩, ?_⟩)
      refine m_57 hc (by omega) r1 z (fun _ => ?_) (fun M e2 => by rw [nn] at e2; cases e2)
      rw [lL]
      simp (disch := first | assumption | omega) only [e_60_83, onI_s, onR_s, onL_s, gl_0, gl_n, gl_1, gl_2, gl_3, gl_4, gl_5, gl_6, gl_7, gl_8, gl_9, gl_10, gl_11, gl_12, gl_13, gl_14, gl_15, gl_16, gl_17, sk0i, sk0r, sk0n, sk1i, sk1r, sk1n, sk_2, sk_3, sk_4, sk_5, sk_6, sk_7, sk_8, sk_9, sk_10, sk_11, sk_12, sk_13, sk_14, sk_15, sk_16, sk_17, ls_0, ls_1, ls_2, ls_3, ls_4, ls_5, ls_6, ls_7, ls_8, ls_9, ls_10, ls_11, ls_12, ls_13, ls_14, ls_15, ls_16, ls_17, ct1_i, ct1_r, wd8_0, wd8_i1, wd8_r1, wd8_i2, wd8_r2, wd8_i3, wd8_r3, wd8_i4, wd8_r4, wd8_i5, wd8_r5, wd8_i6, wd8_r6, wd8_i7, wd8_r7, wd8_i8, wd8_r8, wd8_l2, wd8_l3, wd8_l4, wd8_l5, wd8_l6, wd8_l7, wd8_l8, tl_s, tl_n, inR_t, bd_t, true_and, and_true, true_or, or_true, if_true_x, if_false_x, if_pos, if_neg, Int.toNat_natCast, natL, bI_0, bI_1, bI_ft, eq_self, b_tf, b_ft, not_true_eq_false, not_false_eq_true]
      exact hq h L2 _ _ _ z g1 g2 r2 pL2 ev
  | cons O Os ih =>
    intro L L2 B le tr h x8 ch ht lL lB pL2 ok z g1 g2 r1 r2 ev hq
    rw [chB, Bool.and_eq_true] at ch
    have nn := of_decide_eq_true ch.1
    obtain ⟨oo, po⟩ := ok O (by simp)
    rw [List.length_cons] at ht
    rw [bsO] at hq
    rw [e_60_77]
    simp (disch := first | assumption | omega) only [e_60_78, e_60_79, e_60_80, e_60_81, onI_s, onR_s, onL_s, gl_0, gl_n, gl_1, gl_2, gl_3, gl_4, gl_5, gl_6, gl_7, gl_8, gl_9, gl_10, gl_11, gl_12, gl_13, gl_14, gl_15, gl_16, gl_17, sk0i, sk0r, sk0n, sk1i, sk1r, sk1n, sk_2, sk_3, sk_4, sk_5, sk_6, sk_7, sk_8, sk_9, sk_10, sk_11, sk_12, sk_13, sk_14, sk_15, sk_16, sk_17, ls_0, ls_1, ls_2, ls_3, ls_4, ls_5, ls_6, ls_7, ls_8, ls_9, ls_10, ls_11, ls_12, ls_13, ls_14, ls_15, ls_16, ls_17, ct1_i, ct1_r, wd8_0, wd8_i1, wd8_r1, wd8_i2, wd8_r2, wd8_i3, wd8_r3, wd8_i4, wd8_r4, wd8_i5, wd8_r5, wd8_i6, wd8_r6, wd8_i7, wd8_r7, wd8_i8, wd8_r8, wd8_l2, wd8_l3, wd8_l4, wd8_l5, wd8_l6, wd8_l7, wd8_l8, tl_s, tl_n, inR_t, bd_t, true_and, and_true, true_or, or_true, if_true_x, if_false_x, if_pos, if_neg, Int.toNat_natCast, natL, bI_0, bI_1, bI_ft, eq_self, b_tf, b_ft, not_true_eq_false, not_false_eq_true]
    rw [← lL]
    (rw [e_60_82]; refine ⟨⟨hc.t57, by simp [wd_i, wd_r, wd_l, wd_0]⟩, ?_⟩)
    refine m_57 hc (by omega) r1 z (fun e2 => by rw [nn] at e2; cases e2) (fun M e2 h2 z2 k2 r12 => ?_)
    have em : M = O := by rw [nn] at e2; exact (Option.some.inj e2).symm
    rw [em] at r12
    rw [lL]
    have ev2 : cv h2 200 = wnP u G rn L2 := (k2.cv (by omega) (by omega)).trans ev
    have o2 : ∀ a, a ≠ 58 → a ≠ 59 → a ≠ 218 → h2.1 a = h0.1 a := fun a q1 q2 q3 => by rw [k2.1 a q1]; exact g1 a q1 q2 q3
    simp (disch := first | assumption | omega) only [e_60_83, e_60_84, e_60_85, e_60_86, e_60_87, e_60_88, e_60_89, onI_s, onR_s, onL_s, gl_0, gl_n, gl_1, gl_2, gl_3, gl_4, gl_5, gl_6, gl_7, gl_8, gl_9, gl_10, gl_11, gl_12, gl_13, gl_14, gl_15, gl_16, gl_17, sk0i, sk0r, sk0n, sk1i, sk1r, sk1n, sk_2, sk_3, sk_4, sk_5, sk_6, sk_7, sk_8, sk_9, sk_10, sk_11, sk_12, sk_13, sk_14, sk_15, sk_16, sk_17, ls_0, ls_1, ls_2, ls_3, ls_4, ls_5, ls_6, ls_7, ls_8, ls_9, ls_10, ls_11, ls_12, ls_13, ls_14, ls_15, ls_16, ls_17, ct1_i, ct1_r, wd8_0, wd8_i1, wd8_r1, wd8_i2, wd8_r2, wd8_i3, wd8_r3, wd8_i4, wd8_r4, wd8_i5, wd8_r5, wd8_i6, wd8_r6, wd8_i7, wd8_r7, wd8_i8, wd8_r8, wd8_l2, wd8_l3, wd8_l4, wd8_l5, wd8_l6, wd8_l7, wd8_l8, tl_s, tl_n, inR_t, bd_t, true_and, and_true, true_or, or_true, if_true_x, if_false_x, if_pos, if_neg, Int.toNat_natCast, natL, bI_0, bI_1, bI_ft, eq_self, b_tf, b_ft, not_true_eq_false, not_false_eq_true, hc.t57, hc.r57_0, hc.r57_1, hc.r57_2, hc.r57_3, hc.r57_4, hc.r57_5, hc.r57_6, hc.r57_7, hc.r57_8, hc.r57_9, hc.r57_10]
    (rw [e_60_90]; refine ⟨⟨hc.t57, by simp [wd_i, wd_r, wd_l, wd_0]⟩, ?_⟩)
    refine m_61 hp hc wi.2.1 (good L2 pL2).2.1 (ra := 58) (by omega) hc.t58 hc.z58 g4 gc oo.1 oo.2.1 (by rw [o2 60 (by omega) (by omega) (by omega)]; exact r60) (fun j hj => by rw [o2 61 (by omega) (by omega) (by omega)]; exact gp j hj) r12 z2 ev2 (good L2 pL2).2.2 (by omega) (fun h3 vs => ?_)
    rw [again O L2 po pL2] at vs
    have ev3 := vs.2.2.2
    have o3 : ∀ a, a ≠ 58 → a ≠ 59 → a ≠ 218 → h3.1 a = h0.1 a := fun a q1 q2 q3 => by rw [vs.2.1 a q3]; exact o2 a q1 q2 q3
    have f3 : ∀ a, a ≠ 14 → h3.2 a = h0.2 a := fun a q => by rw [vs.2.2.1, k2.2]; exact g2 a q
    have t3 : h3.1 1 = h0.1 1 := o3 1 (by omega) (by omega) (by omega)
    have et3 : h3.1 1 4 = t := by rw [t3]; exact et
    simp (disch := first | assumption | omega) only [e_60_91, e_60_92, e_60_93, onI_s, onR_s, onL_s, gl_0, gl_n, gl_1, gl_2, gl_3, gl_4, gl_5, gl_6, gl_7, gl_8, gl_9, gl_10, gl_11, gl_12, gl_13, gl_14, gl_15, gl_16, gl_17, sk0i, sk0r, sk0n, sk1i, sk1r, sk1n, sk_2, sk_3, sk_4, sk_5, sk_6, sk_7, sk_8, sk_9, sk_10, sk_11, sk_12, sk_13, sk_14, sk_15, sk_16, sk_17, ls_0, ls_1, ls_2, ls_3, ls_4, ls_5, ls_6, ls_7, ls_8, ls_9, ls_10, ls_11, ls_12, ls_13, ls_14, ls_15, ls_16, ls_17, ct1_i, ct1_r, wd8_0, wd8_i1, wd8_r1, wd8_i2, wd8_r2, wd8_i3, wd8_r3, wd8_i4, wd8_r4, wd8_i5, wd8_r5, wd8_i6, wd8_r6, wd8_i7, wd8_r7, wd8_i8, wd8_r8, wd8_l2, wd8_l3, wd8_l4, wd8_l5, wd8_l6, wd8_l7, wd8_l8, tl_s, tl_n, inR_t, bd_t, true_and, and_true, true_or, or_true, if_true_x, if_false_x, if_pos, if_neg, Int.toNat_natCast, natL, bI_0, bI_1, bI_ft, eq_self, b_tf, b_ft, not_true_eq_false, not_false_eq_true, hc.t57, hc.r57_0, hc.r57_1, hc.r57_2, hc.r57_3, hc.r57_4, hc.r57_5, hc.r57_6, hc.r57_7, hc.r57_8, hc.r57_9, hc.r57_10]
    (rw [e_60_94]; refine ⟨⟨hc.t14, by simp [wd_i, wd_r, wd_l, wd_0]⟩, ?_⟩)
    refine wirC hp hc (by rw [ev3]; exact (good O po).1) (by rw [t3]; exact tm) (fun h4 q4 => ?_)
    rw [ev3, et3]
    have z4 : NZ X h4 := (q4.fz vs.1).1
    have ev4 : cv h4 200 = wnP u G rn O := (q4.cv (b := 200) (by omega)).trans ev3
    have o4 : ∀ a, a ≠ 58 → a ≠ 59 → a ≠ 218 → h4.1 a = h0.1 a := fun a q1 q2 q3 => by rw [q4.1]; exact o3 a q1 q2 q3
    have f4 : ∀ a, a ≠ 14 → h4.2 a = h0.2 a := fun a q => by rw [q4.2 a q]; exact f3 a q
    have r14 : R1 (h4.1 58) O := by rw [q4.1, vs.2.1 58 (by omega)]; exact r12
    have r24 : R1 (h4.1 59) B := by rw [q4.1, vs.2.1 59 (by omega), k2.1 59 (by omega)]; exact r2
    by_cases e : wir (wnP u G rn O) t < le
    · rw [if_pos e] at hq
      simp (disch := first | assumption | omega) only [e_60_95, e_60_96, e_60_97, e_60_98, e_60_99, e_60_100, e_60_101, e_60_102, onI_s, onR_s, onL_s, gl_0, gl_n, gl_1, gl_2, gl_3, gl_4, gl_5, gl_6, gl_7, gl_8, gl_9, gl_10, gl_11, gl_12, gl_13, gl_14, gl_15, gl_16, gl_17, sk0i, sk0r, sk0n, sk1i, sk1r, sk1n, sk_2, sk_3, sk_4, sk_5, sk_6, sk_7, sk_8, sk_9, sk_10, sk_11, sk_12, sk_13, sk_14, sk_15, sk_16, sk_17, ls_0, ls_1, ls_2, ls_3, ls_4, ls_5, ls_6, ls_7, ls_8, ls_9, ls_10, ls_11, ls_12, ls_13, ls_14, ls_15, ls_16, ls_17, ct1_i, ct1_r, wd8_0, wd8_i1, wd8_r1, wd8_i2, wd8_r2, wd8_i3, wd8_r3, wd8_i4, wd8_r4, wd8_i5, wd8_r5, wd8_i6, wd8_r6, wd8_i7, wd8_r7, wd8_i8, wd8_r8, wd8_l2, wd8_l3, wd8_l4, wd8_l5, wd8_l6, wd8_l7, wd8_l8, tl_s, tl_n, inR_t, bd_t, true_and, and_true, true_or, or_true, if_true_x, if_false_x, if_pos, if_neg, Int.toNat_natCast, natL, bI_0, bI_1, bI_ft, eq_self, b_tf, b_ft, not_true_eq_false, not_false_eq_true, e]
      rw [← oo.1]
      (rw [e_60_103]; refine ⟨⟨hc.t57, by simp [wd_i, wd_r, wd_l, wd_0]⟩, ?_⟩)
      refine m_56 hc (by have := oo.1; omega) r14 z4 (fun h5 z5 g5 r5 => ?_)
      rw [oo.1]
      simp (disch := first | assumption | omega) only [e_60_104, e_60_105, onI_s, onR_s, onL_s, gl_0, gl_n, gl_1, gl_2, gl_3, gl_4, gl_5, gl_6, gl_7, gl_8, gl_9, gl_10, gl_11, gl_12, gl_13, gl_14, gl_15, gl_16, gl_17, sk0i, sk0r, sk0n, sk1i, sk1r, sk1n, sk_2, sk_3, sk_4, sk_5, sk_6, sk_7, sk_8, sk_9, sk_10, sk_11, sk_12, sk_13, sk_14, sk_15, sk_16, sk_17, ls_0, ls_1, ls_2, ls_3, ls_4, ls_5, ls_6, ls_7, ls_8, ls_9, ls_10, ls_11, ls_12, ls_13, ls_14, ls_15, ls_16, ls_17, ct1_i, ct1_r, wd8_0, wd8_i1, wd8_r1, wd8_i2, wd8_r2, wd8_i3, wd8_r3, wd8_i4, wd8_r4, wd8_i5, wd8_r5, wd8_i6, wd8_r6, wd8_i7, wd8_r7, wd8_i8, wd8_r8, wd8_l2, wd8_l3, wd8_l4, wd8_l5, wd8_l6, wd8_l7, wd8_l8, tl_s, tl_n, inR_t, bd_t, true_and, and_true, true_or, or_true, if_true_x, if_false_x, if_pos, if_neg, Int.toNat_natCast, natL, bI_0, bI_1, bI_ft, eq_self, b_tf, b_ft, not_true_eq_false, not_false_eq_true, cast_s]
      exact ih O O O _ (tr + 1) h5 _ ch.2 (by omega) oo.1 oo.1 po (fun P hP => ok P (by simp [hP])) z5 (fun a q1 q2 q3 => by rw [g5.1 a q2]; exact o4 a q1 q2 q3) (fun a q => by rw [g5.2]; exact f4 a q) (by rw [g5.1 58 (by omega)]; exact r14) r5 ((g5.cv (by omega) (by omega)).trans ev4) hq
    · rw [if_neg e] at hq
      simp (disch := first | assumption | omega) only [e_60_95, e_60_96, e_60_97, e_60_98, e_60_104, e_60_105, onI_s, onR_s, onL_s, gl_0, gl_n, gl_1, gl_2, gl_3, gl_4, gl_5, gl_6, gl_7, gl_8, gl_9, gl_10, gl_11, gl_12, gl_13, gl_14, gl_15, gl_16, gl_17, sk0i, sk0r, sk0n, sk1i, sk1r, sk1n, sk_2, sk_3, sk_4, sk_5, sk_6, sk_7, sk_8, sk_9, sk_10, sk_11, sk_12, sk_13, sk_14, sk_15, sk_16, sk_17, ls_0, ls_1, ls_2, ls_3, ls_4, ls_5, ls_6, ls_7, ls_8, ls_9, ls_10, ls_11, ls_12, ls_13, ls_14, ls_15, ls_16, ls_17, ct1_i, ct1_r, wd8_0, wd8_i1, wd8_r1, wd8_i2, wd8_r2, wd8_i3, wd8_r3, wd8_i4, wd8_r4, wd8_i5, wd8_r5, wd8_i6, wd8_r6, wd8_i7, wd8_r7, wd8_i8, wd8_r8, wd8_l2, wd8_l3, wd8_l4, wd8_l5, wd8_l6, wd8_l7, wd8_l8, tl_s, tl_n, inR_t, bd_t, true_and, and_true, true_or, or_true, if_true_x, if_false_x, if_pos, if_neg, Int.toNat_natCast, natL, bI_0, bI_1, bI_ft, eq_self, b_tf, b_ft, not_true_eq_false, not_false_eq_true, e, cast_s]
      exact ih O O B le (tr + 1) h4 _ ch.2 (by omega) oo.1 lB po (fun P hP => ok P (by simp [hP])) z4 o4 f4 r14 r24 ev4 hq
set_option maxHeartbeats 8000000 in
theorem l_60e (hc : CT X ns nb ln) {h0 : xH} {A G C B : List Nat} {x5 x6 : Int} {x8 : Option xV} (g4 : G.length ≤ 4) (l20 : (A ++ (G ++ C)).length ≤ 20) (lB : B.length = G.length) (hB : ∀ o, o ∈ B → o < G.length) (r60 : R1 (h0.1 60) G) (r59 : R1 (h0.1 59) B) : ∀ (m i : Nat) (h : xH), i + m = G.length → NZ X h → G1 13 h0 h → (∀ k, h.1 13 k = if A.length ≤ k ∧ k < A.length + i then (((B.map (fun o => G.getD o 0)).getD (k - A.length) 0 : Nat) : Int) else h0.1 13 k) → (∀ h2, NZ X h2 → G1 13 h0 h2 → (∀ k, h2.1 13 k = if A.length ≤ k ∧ k < A.length + G.length then (((B.map (fun o => G.getD o 0)).getD (k - A.length) 0 : Nat) : Int) else h0.1 13 k) → Q none h2) → Ev X 60 115 [some (vr 57), some (vr 200), some (vi (A.length : Int)), some (vi (G.length : Int)), some (vr (200 + 11)), some (vi x5), some (vi x6), some (vi i), x8] [] h Q := by
  have lA : A.length + G.length ≤ 20 := by
    rw [List.length_append, List.length_append] at l20
    omega
  intro m
  induction m with
  | zero =>
    intro i h hm z g p hq
    rw [e_60_115]
    simp (disch := first | assumption | omega) only [e_60_116, e_60_117, e_60_134, onI_s, onR_s, onL_s, gl_0, gl_n, gl_1, gl_2, gl_3, gl_4, gl_5, gl_6, gl_7, gl_8, gl_9, gl_10, gl_11, gl_12, gl_13, gl_14, gl_15, gl_16, gl_17, sk0i, sk0r, sk0n, sk1i, sk1r, sk1n, sk_2, sk_3, sk_4, sk_5, sk_6, sk_7, sk_8, sk_9, sk_10, sk_11, sk_12, sk_13, sk_14, sk_15, sk_16, sk_17, ls_0, ls_1, ls_2, ls_3, ls_4, ls_5, ls_6, ls_7, ls_8, ls_9, ls_10, ls_11, ls_12, ls_13, ls_14, ls_15, ls_16, ls_17, ct1_i, ct1_r, wd8_0, wd8_i1, wd8_r1, wd8_i2, wd8_r2, wd8_i3, wd8_r3, wd8_i4, wd8_r4, wd8_i5, wd8_r5, wd8_i6, wd8_r6, wd8_i7, wd8_r7, wd8_i8, wd8_r8, wd8_l2, wd8_l3, wd8_l4, wd8_l5, wd8_l6, wd8_l7, wd8_l8, tl_s, tl_n, inR_t, bd_t, true_and, and_true, true_or, or_true, if_true_x, if_false_x, if_pos, if_neg, Int.toNat_natCast, natL, bI_0, bI_1, bI_ft, eq_self, b_tf, b_ft, not_true_eq_false, not_false_eq_true]
    rw [show i = G.length by omega] at p
    exact hq h z g p
  | succ m ih =>
    intro i h hm z g p hq
    have il : i < B.length := by omega
    obtain ⟨o, hod⟩ : ∃ o, o = B.getD i 0 := ⟨_, rfl⟩
    have om : o ∈ B := by rw [hod, List.getD_eq_getElem?_getD, List.getElem?_eq_getElem il]; exact List.getElem_mem il
    have ol := hB o om
    have e59 : h.1 59 i = o := by rw [g.1 59 (by omega), R1.at r59 il, hod]
    have e60 : h.1 60 o = ((G.getD o 0 : Nat) : Int) := by rw [g.1 60 (by omega)]; exact R1.at r60 ol
    have ai : (A.length : Int) + (i : Int) = ((A.length + i : Nat) : Int) := rfl
    have bm : (B.map (fun o => G.getD o 0)).getD i 0 = G.getD o 0 := by
      rw [List.getD_eq_getElem?_getD, List.getElem?_map, List.getElem?_eq_getElem il, hod, List.getD_eq_getElem?_getD (l := B), List.getElem?_eq_getElem il]
      rfl
    rw [e_60_115]
    simp (disch := first | assumption | omega) only [e_60_116, e_60_117, e_60_118, e_60_119, e_60_120, e_60_121, e_60_122, e_60_123, e_60_124, e_60_125, e_60_126, e_60_127, e_60_128, e_60_129, e_60_130, e_60_131, e_60_132, e_60_133, onI_s, onR_s, onL_s, gl_0, gl_n, gl_1, gl_2, gl_3, gl_4, gl_5, gl_6, gl_7, gl_8, gl_9, gl_10, gl_11, gl_12, gl_13, gl_14, gl_15, gl_16, gl_17, sk0i, sk0r, sk0n, sk1i, sk1r, sk1n, sk_2, sk_3, sk_4, sk_5, sk_6, sk_7, sk_8, sk_9, sk_10, sk_11, sk_12, sk_13, sk_14, sk_15, sk_16, sk_17, ls_0, ls_1, ls_2, ls_3, ls_4, ls_5, ls_6, ls_7, ls_8, ls_9, ls_10, ls_11, ls_12, ls_13, ls_14, ls_15, ls_16, ls_17, ct1_i, ct1_r, wd8_0, wd8_i1, wd8_r1, wd8_i2, wd8_r2, wd8_i3, wd8_r3, wd8_i4, wd8_r4, wd8_i5, wd8_r5, wd8_i6, wd8_r6, wd8_i7, wd8_r7, wd8_i8, wd8_r8, wd8_l2, wd8_l3, wd8_l4, wd8_l5, wd8_l6, wd8_l7, wd8_l8, tl_s, tl_n, inR_t, bd_t, true_and, and_true, true_or, or_true, if_true_x, if_false_x, if_pos, if_neg, Int.toNat_natCast, natL, bI_0, bI_1, bI_ft, eq_self, b_tf, b_ft, not_true_eq_false, not_false_eq_true, ai, e59, e60, cast_s, hc.t57, hc.r57_0, hc.r57_1, hc.r57_2, hc.r57_3, hc.r57_4, hc.r57_5, hc.r57_6, hc.r57_7, hc.r57_8, hc.r57_9, hc.r57_10, hc.t7, hc.r7_2, hc.r7_4, hc.r7_5, hc.r7_6, hc.r7_7, hc.r7_8, hc.t13, hc.z13, hc.t59, hc.z59, hc.t60, hc.z60]
    refine ih (i + 1) (up2 h.1 13 (A.length + i) ((G.getD o 0 : Nat) : Int), h.2) (by omega) (NZ.up (I := h.1) (F := h.2) z (by rw [hc.z13]; omega)) (g.tr ⟨fun a q => up2_of q, rfl⟩) (fun k => ?_) hq
    dsimp only
    rw [up2_same]
    by_cases e : k = A.length + i
    · rw [if_pos e, if_pos (by omega), show k - A.length = i by omega, bm]
    · rw [if_neg e, p k]
      by_cases e2 : A.length ≤ k ∧ k < A.length + i
      · rw [if_pos e2, if_pos (by omega)]
      · rw [if_neg e2, if_neg (by omega)]
end WNC
