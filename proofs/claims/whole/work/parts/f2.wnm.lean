/-! WINDOWS in the reference -/
def GpB (h : xH) (ra : Nat) (v : Nat → Nat → Int) (G : List Nat) (i : Nat) : Prop := ∀ j, j < i → h.1 ra j = gpW v G j
theorem gpW_bd {v : Nat → Nat → Int} (w : RGv v) (G : List Nat) (i : Nat) : -50 ≤ gpW v G i ∧ gpW v G i ≤ 50 := by
  have a := w.sit (G.getD (i + 1) 0)
  have b := w.sit (G.getD i 0)
  have c := w.wid (G.getD i 0)
  unfold gpW
  split <;> omega
section WNM
variable {X : xL} {Q : Option xV → xH → Prop} {ns nb ln : Nat} {h h2 h3 : xH}
set_option maxHeartbeats 8000000 in
theorem m_250 (hc : CT X ns nb ln) {h0 : xH} {u v : Nat → Nat → Int} (wv : RGv v) (sj : SJ u v) {G O : List Nat} {ra : Nat} {r s0 : Int} (hra : ra = 88 ∨ ra = 89) (ht : X.1 ra = 13) (hz : X.2.1 ra = 5) (g4 : G.length ≤ 4) (gc : ∀ c, c ∈ G → c < 20) (hO : O.length = G.length) (ho : ∀ o, o ∈ O → o < G.length) (r90 : R1 (h0.1 90) G) (gp : GpB h0 91 v G G.length) (rO : R1 (h0.1 ra) O) (z : NZ X h0) (ev : vm h0 = u) (rb : RBr (h0.1 73)) (s1 : -100 ≤ s0 ∧ s0 ≤ 100) (hq : ∀ h2, VS X h0 h2 (mvL r (posW v G 0 O s0) u) → Q none h2) : Cl X 250 [vr 70, vi r, vi s0, vi (G.length : Int), vr ra] h0 Q := by
  have lp : ∀ (Os : List Nat) (i : Nat) (s : Int) (u : Nat → Nat → Int) (h : xH) (x7 : Option xV), O.drop i = Os → i + Os.length = G.length → -100 * (i + 1) ≤ s → s ≤ 100 * (i + 1) → SJ u v → VS X h0 h u → (∀ h2, VS X h0 h2 (mvL r (posW v G i Os s) u) → Q none h2) → Ev X 250 4 [some (vr 70), some (vi r), some (vi s0), some (vi (G.length : Int)), some (vr ra), some (vi s), some (vi i), x7] [] h Q := by
    intro Os
    induction Os with
    | nil =>
      intro i s u h x7 hd hk b1 b2 sj vs hq
      simp at hk
      rw [posW, mvL] at hq
      rw [e_250_4]
      simp (disch := first | assumption | omega) only [e_250_5, e_250_6, e_250_32, onI_s, onR_s, onL_s, gl_0, gl_n, gl_1, gl_2, gl_3, gl_4, gl_5, gl_6, gl_7, gl_8, gl_9, gl_10, gl_11, gl_12, gl_13, gl_14, gl_15, gl_16, gl_17, sk0i, sk0r, sk0n, sk1i, sk1r, sk1n, sk_2, sk_3, sk_4, sk_5, sk_6, sk_7, sk_8, sk_9, sk_10, sk_11, sk_12, sk_13, sk_14, sk_15, sk_16, sk_17, ls_0, ls_1, ls_2, ls_3, ls_4, ls_5, ls_6, ls_7, ls_8, ls_9, ls_10, ls_11, ls_12, ls_13, ls_14, ls_15, ls_16, ls_17, ct1_i, ct1_r, wd8_0, wd8_i1, wd8_r1, wd8_i2, wd8_r2, wd8_i3, wd8_r3, wd8_i4, wd8_r4, wd8_i5, wd8_r5, wd8_i6, wd8_r6, wd8_i7, wd8_r7, wd8_i8, wd8_r8, wd8_l2, wd8_l3, wd8_l4, wd8_l5, wd8_l6, wd8_l7, wd8_l8, tl_s, tl_n, inR_t, bd_t, true_and, and_true, true_or, or_true, if_true_x, if_false_x, if_pos, if_neg, Int.toNat_natCast, natL, bI_0, bI_1, bI_ft, eq_self, b_tf, b_ft, not_true_eq_false, not_false_eq_true]
      exact hq h vs
    | cons o Os ih =>
      intro i s u h x7 hd hk b1 b2 sj vs hq
      obtain ⟨h1, h2, h3⟩ := getD_drop hd
      rw [List.length_cons] at hk
      have om : o ∈ O := by rw [← h1, List.getD_eq_getElem?_getD, List.getElem?_eq_getElem h3]; exact List.getElem_mem h3
      have ol := ho o om
      have eO : h.1 ra i = o := by rw [vs.2.1.1 ra (by omega), R1.at rO h3, h1]
      obtain ⟨c, hcd⟩ : ∃ c, c = G.getD o 0 := ⟨_, rfl⟩
      have cm : c ∈ G := by rw [hcd, List.getD_eq_getElem?_getD, List.getElem?_eq_getElem ol]; exact List.getElem_mem ol
      have c20 := gc c cm
      have e90 : h.1 90 o = c := by rw [vs.2.1.1 90 (by omega), R1.at r90 ol, hcd]
      have e91 : h.1 91 i = gpW v G i := by rw [vs.2.1.1 91 (by omega)]; exact gp i (by omega)
      have gb := gpW_bd wv G i
      have wc := wv.wid c
      rw [posW, mvL, ← hcd] at hq
      dsimp only at hq
      rw [e_250_4]
      simp (disch := first | assumption | omega) only [e_250_5, e_250_6, e_250_7, e_250_8, e_250_9, e_250_10, e_250_11, e_250_12, e_250_13, e_250_14, e_250_15, e_250_16, e_250_17, e_250_18, onI_s, onR_s, onL_s, gl_0, gl_n, gl_1, gl_2, gl_3, gl_4, gl_5, gl_6, gl_7, gl_8, gl_9, gl_10, gl_11, gl_12, gl_13, gl_14, gl_15, gl_16, gl_17, sk0i, sk0r, sk0n, sk1i, sk1r, sk1n, sk_2, sk_3, sk_4, sk_5, sk_6, sk_7, sk_8, sk_9, sk_10, sk_11, sk_12, sk_13, sk_14, sk_15, sk_16, sk_17, ls_0, ls_1, ls_2, ls_3, ls_4, ls_5, ls_6, ls_7, ls_8, ls_9, ls_10, ls_11, ls_12, ls_13, ls_14, ls_15, ls_16, ls_17, ct1_i, ct1_r, wd8_0, wd8_i1, wd8_r1, wd8_i2, wd8_r2, wd8_i3, wd8_r3, wd8_i4, wd8_r4, wd8_i5, wd8_r5, wd8_i6, wd8_r6, wd8_i7, wd8_r7, wd8_i8, wd8_r8, wd8_l2, wd8_l3, wd8_l4, wd8_l5, wd8_l6, wd8_l7, wd8_l8, tl_s, tl_n, inR_t, bd_t, true_and, and_true, true_or, or_true, if_true_x, if_false_x, if_pos, if_neg, Int.toNat_natCast, natL, bI_0, bI_1, bI_ft, eq_self, b_tf, b_ft, not_true_eq_false, not_false_eq_true, eO, e90, ht, hz, m_166 hc, hc.t70, hc.r70_4, hc.r70_5, hc.r70_6, hc.r70_7, hc.r70_8, hc.r70_10, hc.r70_11, hc.r70_12, hc.r70_14, hc.r70_15, hc.r70_16, hc.r70_17, hc.r70_19, hc.r70_21, hc.r70_23, hc.r70_24, hc.r70_26, hc.r70_27, hc.r70_28, hc.r70_29, hc.r70_30, hc.r70_31, hc.r70_32, hc.r70_33, hc.r70_36, hc.t90, hc.z90]
      obtain ⟨h4, e4⟩ : ∃ h4 : xH, h4 = (up2 (up2 h.1 73 (36 + 7 * (c : Int) + 5).toNat r) 73 (36 + 7 * (c : Int) + 6).toNat s, h.2) := ⟨_, rfl⟩
      rw [← e4]
      have vs4 : VS X h0 h4 (gvP u c r s) := by rw [e4]; exact vs.gv hc c20
      have ev4 := vs4.2.2.1
      have sj4 : SJ (gvP u c r s) v := sj.gv
      have w12 : gvP u c r s 12 c = v 12 c := by rw [sj4 12 (by decide) (by decide)]
      have f91 : h4.1 91 i = gpW v G i := by rw [vs4.2.1.1 91 (by omega)]; exact gp i (by omega)
      have se : s + (v 12 c + gpW v G i) = s + v 12 c + gpW v G i := by omega
      simp (disch := first | assumption | omega) only [e_250_19, e_250_20, e_250_21, e_250_22, e_250_23, e_250_24, e_250_25, e_250_26, e_250_27, e_250_28, e_250_29, e_250_30, e_250_31, onI_s, onR_s, onL_s, gl_0, gl_n, gl_1, gl_2, gl_3, gl_4, gl_5, gl_6, gl_7, gl_8, gl_9, gl_10, gl_11, gl_12, gl_13, gl_14, gl_15, gl_16, gl_17, sk0i, sk0r, sk0n, sk1i, sk1r, sk1n, sk_2, sk_3, sk_4, sk_5, sk_6, sk_7, sk_8, sk_9, sk_10, sk_11, sk_12, sk_13, sk_14, sk_15, sk_16, sk_17, ls_0, ls_1, ls_2, ls_3, ls_4, ls_5, ls_6, ls_7, ls_8, ls_9, ls_10, ls_11, ls_12, ls_13, ls_14, ls_15, ls_16, ls_17, ct1_i, ct1_r, wd8_0, wd8_i1, wd8_r1, wd8_i2, wd8_r2, wd8_i3, wd8_r3, wd8_i4, wd8_r4, wd8_i5, wd8_r5, wd8_i6, wd8_r6, wd8_i7, wd8_r7, wd8_i8, wd8_r8, wd8_l2, wd8_l3, wd8_l4, wd8_l5, wd8_l6, wd8_l7, wd8_l8, tl_s, tl_n, inR_t, bd_t, true_and, and_true, true_or, or_true, if_true_x, if_false_x, if_pos, if_neg, Int.toNat_natCast, natL, bI_0, bI_1, bI_ft, eq_self, b_tf, b_ft, not_true_eq_false, not_false_eq_true, m_160 hc, ev4, w12, f91, se, Int.toNat_natCast, cast_s, hc.t70, hc.r70_4, hc.r70_5, hc.r70_6, hc.r70_7, hc.r70_8, hc.r70_10, hc.r70_11, hc.r70_12, hc.r70_14, hc.r70_15, hc.r70_16, hc.r70_17, hc.r70_19, hc.r70_21, hc.r70_23, hc.r70_24, hc.r70_26, hc.r70_27, hc.r70_28, hc.r70_29, hc.r70_30, hc.r70_31, hc.r70_32, hc.r70_33, hc.r70_36, hc.t91, hc.z91]
      exact ih (i + 1) _ _ h4 _ h2 (by omega) (by omega) (by omega) sj4 vs4 hq
  rw [c_250]
  simp (disch := first | assumption | omega) only [e_250_0, e_250_1, e_250_2, e_250_3, onI_s, onR_s, onL_s, gl_0, gl_n, gl_1, gl_2, gl_3, gl_4, gl_5, gl_6, gl_7, gl_8, gl_9, gl_10, gl_11, gl_12, gl_13, gl_14, gl_15, gl_16, gl_17, sk0i, sk0r, sk0n, sk1i, sk1r, sk1n, sk_2, sk_3, sk_4, sk_5, sk_6, sk_7, sk_8, sk_9, sk_10, sk_11, sk_12, sk_13, sk_14, sk_15, sk_16, sk_17, ls_0, ls_1, ls_2, ls_3, ls_4, ls_5, ls_6, ls_7, ls_8, ls_9, ls_10, ls_11, ls_12, ls_13, ls_14, ls_15, ls_16, ls_17, ct1_i, ct1_r, wd8_0, wd8_i1, wd8_r1, wd8_i2, wd8_r2, wd8_i3, wd8_r3, wd8_i4, wd8_r4, wd8_i5, wd8_r5, wd8_i6, wd8_r6, wd8_i7, wd8_r7, wd8_i8, wd8_r8, wd8_l2, wd8_l3, wd8_l4, wd8_l5, wd8_l6, wd8_l7, wd8_l8, tl_s, tl_n, inR_t, bd_t, true_and, and_true, true_or, or_true, if_true_x, if_false_x, if_pos, if_neg, Int.toNat_natCast, natL, bI_0, bI_1, bI_ft, eq_self, b_tf, b_ft, not_true_eq_false, not_false_eq_true]
  exact lp O 0 s0 u h0 none (by simp) (by omega) (by omega) (by omega) sj ⟨z, M73.refl, ev, rb⟩ hq
def GV7 (h h2 : xH) : Prop := (∀ a, a ≠ 73 → a ≠ 83 → ¬ (88 ≤ a ∧ a ≤ 91) → h2.1 a = h.1 a) ∧ h2.2 = h.2
theorem GV7.refl : GV7 h h := ⟨fun _ _ _ _ => rfl, rfl⟩
theorem GV7.tr (g : GV7 h h2) (k : GV7 h2 h3) : GV7 h h3 := ⟨fun a q r s => (k.1 a q r s).trans (g.1 a q r s), k.2.trans g.2⟩
theorem G1.gv7 {k : Nat} (g : G1 k h h2) (hk : k = 83 ∨ (88 ≤ k ∧ k ≤ 91)) : GV7 h h2 := ⟨fun a _ _ q => g.1 a (by omega), g.2⟩
theorem M73.gv7 (g : M73 h h2) : GV7 h h2 := ⟨fun a q _ _ => g.1 a q, g.2⟩
theorem mid_at {A G C : List Nat} {i : Nat} (h : i < G.length) : (A ++ (G ++ C))[A.length + i]? = some (G.getD i 0) := by
  rw [List.getElem?_append_right (by omega), show A.length + i - A.length = i by omega, List.getElem?_append_left h, List.getElem?_eq_getElem h, List.getD_eq_getElem?_getD, List.getElem?_eq_getElem h]
  rfl
set_option maxHeartbeats 8000000 in
theorem l_251a (hc : CT X ns nb ln) {h0 : xH} {u : Nat → Nat → Int} (w : RGv u) (ev : vm h0 = u) {A G C : List Nat} {r from_ : Int} (g4 : G.length ≤ 4) (l20 : (A ++ (G ++ C)).length ≤ 20) (gc : ∀ c, c ∈ G → c < 20) (r83 : R1 (h0.1 83) (A ++ (G ++ C))) : ∀ (m i : Nat) (h : xH) (x6 : Option xV), i + m = G.length → NZ X h → (∀ a, a ≠ 90 → a ≠ 91 → h.1 a = h0.1 a) → h.2 = h0.2 → R1 (h.1 90) (G.take i) → GpB h 91 u G i → (∀ h2 x5 x6, NZ X h2 → (∀ a, a ≠ 90 → a ≠ 91 → h2.1 a = h0.1 a) → h2.2 = h0.2 → R1 (h2.1 90) G → GpB h2 91 u G G.length → Ev X 251 67 [some (vr 70), some (vi r), some (vi (A.length : Int)), some (vi (G.length : Int)), some (vi from_), x5, x6] [] h2 Q) → Ev X 251 13 [some (vr 70), some (vi r), some (vi (A.length : Int)), some (vi (G.length : Int)), some (vi from_), some (vi i), x6] [] h Q := by
  have lA : A.length + G.length ≤ 20 := by
    rw [List.length_append, List.length_append] at l20
    omega
  intro m
  induction m with
  | zero =>
    intro i h x6 hm z g1 g2 r90 gp hq
    rw [e_251_13]
    simp (disch := first | assumption | omega) only [e_251_14, e_251_15, onI_s, onR_s, onL_s, gl_0, gl_n, gl_1, gl_2, gl_3, gl_4, gl_5, gl_6, gl_7, gl_8, gl_9, gl_10, gl_11, gl_12, gl_13, gl_14, gl_15, gl_16, gl_17, sk0i, sk0r, sk0n, sk1i, sk1r, sk1n, sk_2, sk_3, sk_4, sk_5, sk_6, sk_7, sk_8, sk_9, sk_10, sk_11, sk_12, sk_13, sk_14, sk_15, sk_16, sk_17, ls_0, ls_1, ls_2, ls_3, ls_4, ls_5, ls_6, ls_7, ls_8, ls_9, ls_10, ls_11, ls_12, ls_13, ls_14, ls_15, ls_16, ls_17, ct1_i, ct1_r, wd8_0, wd8_i1, wd8_r1, wd8_i2, wd8_r2, wd8_i3, wd8_r3, wd8_i4, wd8_r4, wd8_i5, wd8_r5, wd8_i6, wd8_r6, wd8_i7, wd8_r7, wd8_i8, wd8_r8, wd8_l2, wd8_l3, wd8_l4, wd8_l5, wd8_l6, wd8_l7, wd8_l8, tl_s, tl_n, inR_t, bd_t, true_and, and_true, true_or, or_true, if_true_x, if_false_x, if_pos, if_neg, Int.toNat_natCast, natL, bI_0, bI_1, bI_ft, eq_self, b_tf, b_ft, not_true_eq_false, not_false_eq_true]
    rw [show i = G.length by omega] at r90 gp
    rw [List.take_length] at r90
    exact hq h _ _ z g1 g2 r90 gp
  | succ m ih =>
    intro i h x6 hm z g1 g2 r90 gp hq
    have il : i < G.length := by omega
    obtain ⟨c, hcd⟩ : ∃ c, c = G.getD i 0 := ⟨_, rfl⟩
    have cm : c ∈ G := by rw [hcd, List.getD_eq_getElem?_getD, List.getElem?_eq_getElem il]; exact List.getElem_mem il
    have c20 := gc c cm
    have hx : G[i]? = some c := by rw [hcd, List.getD_eq_getElem?_getD, List.getElem?_eq_getElem il]; rfl
    have ai : (A.length : Int) + (i : Int) = ((A.length + i : Nat) : Int) := rfl
    have e83 : h.1 83 (A.length + i) = c := by rw [g1 83 (by omega) (by omega), hcd]; exact r83 _ _ (mid_at il)
    have evh : vm h = u := by
      rw [← ev]
      show rv (h.1 73) (h.2 70 2) (h.2 70 3) = rv (h0.1 73) (h0.2 70 2) (h0.2 70 3)
      rw [g1 73 (by omega) (by omega), g2]
    rw [e_251_13]
    simp (disch := first | assumption | omega) only [e_251_14, e_251_15, e_251_16, e_251_17, e_251_18, e_251_19, e_251_20, e_251_21, e_251_22, e_251_23, e_251_24, e_251_25, e_251_26, e_251_27, onI_s, onR_s, onL_s, gl_0, gl_n, gl_1, gl_2, gl_3, gl_4, gl_5, gl_6, gl_7, gl_8, gl_9, gl_10, gl_11, gl_12, gl_13, gl_14, gl_15, gl_16, gl_17, sk0i, sk0r, sk0n, sk1i, sk1r, sk1n, sk_2, sk_3, sk_4, sk_5, sk_6, sk_7, sk_8, sk_9, sk_10, sk_11, sk_12, sk_13, sk_14, sk_15, sk_16, sk_17, ls_0, ls_1, ls_2, ls_3, ls_4, ls_5, ls_6, ls_7, ls_8, ls_9, ls_10, ls_11, ls_12, ls_13, ls_14, ls_15, ls_16, ls_17, ct1_i, ct1_r, wd8_0, wd8_i1, wd8_r1, wd8_i2, wd8_r2, wd8_i3, wd8_r3, wd8_i4, wd8_r4, wd8_i5, wd8_r5, wd8_i6, wd8_r6, wd8_i7, wd8_r7, wd8_i8, wd8_r8, wd8_l2, wd8_l3, wd8_l4, wd8_l5, wd8_l6, wd8_l7, wd8_l8, tl_s, tl_n, inR_t, bd_t, true_and, and_true, true_or, or_true, if_true_x, if_false_x, if_pos, if_neg, Int.toNat_natCast, natL, bI_0, bI_1, bI_ft, eq_self, b_tf, b_ft, not_true_eq_false, not_false_eq_true, ai, e83, hc.t70, hc.r70_4, hc.r70_5, hc.r70_6, hc.r70_7, hc.r70_8, hc.r70_10, hc.r70_11, hc.r70_12, hc.r70_14, hc.r70_15, hc.r70_16, hc.r70_17, hc.r70_19, hc.r70_21, hc.r70_23, hc.r70_24, hc.r70_26, hc.r70_27, hc.r70_28, hc.r70_29, hc.r70_30, hc.r70_31, hc.r70_32, hc.r70_33, hc.r70_36, hc.t83, hc.z83, hc.t90, hc.z90]
    obtain ⟨h1, e1⟩ : ∃ h1 : xH, h1 = (up2 h.1 90 i c, h.2) := ⟨_, rfl⟩
    rw [← e1]
    have z1 : NZ X h1 := by rw [e1]; exact NZ.up (I := h.1) (F := h.2) z (by rw [hc.z90]; omega)
    have o1 : ∀ a, a ≠ 90 → h1.1 a = h.1 a := fun a q => by rw [e1]; exact up2_of q
    have f1 : h1.2 = h.2 := by rw [e1]
    have ev1 : vm h1 = u := by
      rw [← evh]
      show rv (h1.1 73) (h1.2 70 2) (h1.2 70 3) = rv (h.1 73) (h.2 70 2) (h.2 70 3)
      rw [o1 73 (by omega), f1]
    have r1 : R1 (h1.1 90) (G.take (i + 1)) := by rw [e1]; exact R1.take_s r90 hx (fun k => by dsimp only; rw [up2_same])
    have fin : ∀ (val : Int), val = gpW u G i → Ev X 251 13 [some (vr 70), some (vi r), some (vi (A.length : Int)), some (vi (G.length : Int)), some (vi from_), some (vi ((i + 1 : Nat) : Int)), some (vi c)] [] (up2 h1.1 91 i val, h1.2) Q := by
      intro val ev2
      refine ih (i + 1) (up2 h1.1 91 i val, h1.2) _ (by omega) (NZ.up (I := h1.1) (F := h1.2) z1 (by rw [hc.z91]; omega)) (fun a q1 q2 => by dsimp only; rw [up2_of q2, o1 a q1]; exact g1 a q1 q2) (by rw [f1]; exact g2) (by dsimp only; rw [up2_of (by omega)]; exact r1) (fun j hj => ?_) hq
      dsimp only
      rw [up2_same]
      by_cases e : j = i
      · rw [if_pos e, ev2, e]
      · rw [if_neg e, o1 91 (by omega)]
        exact gp j (by omega)
    by_cases e : i + 1 < G.length
    · obtain ⟨d, hdd⟩ : ∃ d, d = G.getD (i + 1) 0 := ⟨_, rfl⟩
      have dm : d ∈ G := by rw [hdd, List.getD_eq_getElem?_getD, List.getElem?_eq_getElem e]; exact List.getElem_mem e
      have d20 := gc d dm
      have a2 : ((A.length + i : Nat) : Int) + 1 = ((A.length + (i + 1) : Nat) : Int) := by omega
      have f83 : h1.1 83 (A.length + (i + 1)) = d := by rw [o1 83 (by omega), g1 83 (by omega) (by omega), hdd]; exact r83 _ _ (mid_at e)
      have ei : (i : Int) + 1 < (G.length : Int) := by omega
      have wd := w.sit d
      have wc := w.sit c
      have ww := w.wid c
      simp (disch := first | assumption | omega) only [e_251_28, e_251_29, e_251_30, e_251_31, e_251_32, e_251_33, e_251_34, e_251_35, e_251_36, e_251_37, e_251_38, e_251_39, e_251_40, e_251_41, e_251_42, e_251_43, e_251_44, e_251_45, e_251_46, e_251_47, e_251_48, e_251_49, e_251_50, e_251_51, e_251_52, e_251_53, e_251_54, e_251_55, e_251_56, e_251_57, e_251_58, e_251_59, e_251_60, e_251_61, e_251_62, e_251_64, onI_s, onR_s, onL_s, gl_0, gl_n, gl_1, gl_2, gl_3, gl_4, gl_5, gl_6, gl_7, gl_8, gl_9, gl_10, gl_11, gl_12, gl_13, gl_14, gl_15, gl_16, gl_17, sk0i, sk0r, sk0n, sk1i, sk1r, sk1n, sk_2, sk_3, sk_4, sk_5, sk_6, sk_7, sk_8, sk_9, sk_10, sk_11, sk_12, sk_13, sk_14, sk_15, sk_16, sk_17, ls_0, ls_1, ls_2, ls_3, ls_4, ls_5, ls_6, ls_7, ls_8, ls_9, ls_10, ls_11, ls_12, ls_13, ls_14, ls_15, ls_16, ls_17, ct1_i, ct1_r, wd8_0, wd8_i1, wd8_r1, wd8_i2, wd8_r2, wd8_i3, wd8_r3, wd8_i4, wd8_r4, wd8_i5, wd8_r5, wd8_i6, wd8_r6, wd8_i7, wd8_r7, wd8_i8, wd8_r8, wd8_l2, wd8_l3, wd8_l4, wd8_l5, wd8_l6, wd8_l7, wd8_l8, tl_s, tl_n, inR_t, bd_t, true_and, and_true, true_or, or_true, if_true_x, if_false_x, if_pos, if_neg, Int.toNat_natCast, natL, bI_0, bI_1, bI_ft, eq_self, b_tf, b_ft, not_true_eq_false, not_false_eq_true, ei, ai, a2, f83, m_158, vm_18, m_160 hc, ev1, Int.toNat_natCast, hc.t70, hc.r70_4, hc.r70_5, hc.r70_6, hc.r70_7, hc.r70_8, hc.r70_10, hc.r70_11, hc.r70_12, hc.r70_14, hc.r70_15, hc.r70_16, hc.r70_17, hc.r70_19, hc.r70_21, hc.r70_23, hc.r70_24, hc.r70_26, hc.r70_27, hc.r70_28, hc.r70_29, hc.r70_30, hc.r70_31, hc.r70_32, hc.r70_33, hc.r70_36, hc.t73, hc.z73, hc.t83, hc.z83, hc.t91, hc.z91]
      rw [e_251_65]
      simp (disch := first | assumption | omega) only [e_251_66, onI_s, onR_s, onL_s, gl_0, gl_n, gl_1, gl_2, gl_3, gl_4, gl_5, gl_6, gl_7, gl_8, gl_9, gl_10, gl_11, gl_12, gl_13, gl_14, gl_15, gl_16, gl_17, sk0i, sk0r, sk0n, sk1i, sk1r, sk1n, sk_2, sk_3, sk_4, sk_5, sk_6, sk_7, sk_8, sk_9, sk_10, sk_11, sk_12, sk_13, sk_14, sk_15, sk_16, sk_17, ls_0, ls_1, ls_2, ls_3, ls_4, ls_5, ls_6, ls_7, ls_8, ls_9, ls_10, ls_11, ls_12, ls_13, ls_14, ls_15, ls_16, ls_17, ct1_i, ct1_r, wd8_0, wd8_i1, wd8_r1, wd8_i2, wd8_r2, wd8_i3, wd8_r3, wd8_i4, wd8_r4, wd8_i5, wd8_r5, wd8_i6, wd8_r6, wd8_i7, wd8_r7, wd8_i8, wd8_r8, wd8_l2, wd8_l3, wd8_l4, wd8_l5, wd8_l6, wd8_l7, wd8_l8, tl_s, tl_n, inR_t, bd_t, true_and, and_true, true_or, or_true, if_true_x, if_false_x, if_pos, if_neg, Int.toNat_natCast, natL, bI_0, bI_1, bI_ft, eq_self, b_tf, b_ft, not_true_eq_false, not_false_eq_true, cast_s]
      exact fin _ (by rw [gpW, if_pos e, ← hcd, ← hdd])
    · have ei : ¬ (i : Int) + 1 < (G.length : Int) := by omega
      simp (disch := first | assumption | omega) only [e_251_28, e_251_29, e_251_30, e_251_31, e_251_32, e_251_33, e_251_34, e_251_35, e_251_63, e_251_64, onI_s, onR_s, onL_s, gl_0, gl_n, gl_1, gl_2, gl_3, gl_4, gl_5, gl_6, gl_7, gl_8, gl_9, gl_10, gl_11, gl_12, gl_13, gl_14, gl_15, gl_16, gl_17, sk0i, sk0r, sk0n, sk1i, sk1r, sk1n, sk_2, sk_3, sk_4, sk_5, sk_6, sk_7, sk_8, sk_9, sk_10, sk_11, sk_12, sk_13, sk_14, sk_15, sk_16, sk_17, ls_0, ls_1, ls_2, ls_3, ls_4, ls_5, ls_6, ls_7, ls_8, ls_9, ls_10, ls_11, ls_12, ls_13, ls_14, ls_15, ls_16, ls_17, ct1_i, ct1_r, wd8_0, wd8_i1, wd8_r1, wd8_i2, wd8_r2, wd8_i3, wd8_r3, wd8_i4, wd8_r4, wd8_i5, wd8_r5, wd8_i6, wd8_r6, wd8_i7, wd8_r7, wd8_i8, wd8_r8, wd8_l2, wd8_l3, wd8_l4, wd8_l5, wd8_l6, wd8_l7, wd8_l8, tl_s, tl_n, inR_t, bd_t, true_and, and_true, true_or, or_true, if_true_x, if_false_x, if_pos, if_neg, Int.toNat_natCast, natL, bI_0, bI_1, bI_ft, eq_self, b_tf, b_ft, not_true_eq_false, not_false_eq_true, ei, hc.t70, hc.r70_4, hc.r70_5, hc.r70_6, hc.r70_7, hc.r70_8, hc.r70_10, hc.r70_11, hc.r70_12, hc.r70_14, hc.r70_15, hc.r70_16, hc.r70_17, hc.r70_19, hc.r70_21, hc.r70_23, hc.r70_24, hc.r70_26, hc.r70_27, hc.r70_28, hc.r70_29, hc.r70_30, hc.r70_31, hc.r70_32, hc.r70_33, hc.r70_36, hc.t91, hc.z91]
      rw [e_251_65]
      simp (disch := first | assumption | omega) only [e_251_66, onI_s, onR_s, onL_s, gl_0, gl_n, gl_1, gl_2, gl_3, gl_4, gl_5, gl_6, gl_7, gl_8, gl_9, gl_10, gl_11, gl_12, gl_13, gl_14, gl_15, gl_16, gl_17, sk0i, sk0r, sk0n, sk1i, sk1r, sk1n, sk_2, sk_3, sk_4, sk_5, sk_6, sk_7, sk_8, sk_9, sk_10, sk_11, sk_12, sk_13, sk_14, sk_15, sk_16, sk_17, ls_0, ls_1, ls_2, ls_3, ls_4, ls_5, ls_6, ls_7, ls_8, ls_9, ls_10, ls_11, ls_12, ls_13, ls_14, ls_15, ls_16, ls_17, ct1_i, ct1_r, wd8_0, wd8_i1, wd8_r1, wd8_i2, wd8_r2, wd8_i3, wd8_r3, wd8_i4, wd8_r4, wd8_i5, wd8_r5, wd8_i6, wd8_r6, wd8_i7, wd8_r7, wd8_i8, wd8_r8, wd8_l2, wd8_l3, wd8_l4, wd8_l5, wd8_l6, wd8_l7, wd8_l8, tl_s, tl_n, inR_t, bd_t, true_and, and_true, true_or, or_true, if_true_x, if_false_x, if_pos, if_neg, Int.toNat_natCast, natL, bI_0, bI_1, bI_ft, eq_self, b_tf, b_ft, not_true_eq_false, not_false_eq_true, cast_s]
      exact fin _ (by rw [gpW, if_neg e])
set_option maxHeartbeats 8000000 in
theorem l_251s (hc : CT X ns nb ln) {h0 : xH} {u v : Nat → Nat → Int} {t : Int} (gd : Gd v) {r f : Int} {rn a n : Nat} (er : r = rn) {A G C : List Nat} (wi : WI u v rn f a n (A ++ (G ++ C))) (an : a + n ≤ 32) (r8 : rn < 8) (g1' : 1 ≤ G.length) (tm : TMb (h0.1 72)) (et : h0.1 72 4 = t) (g4 : G.length ≤ 4) (gc : ∀ c, c ∈ G → c < 20) (r90 : R1 (h0.1 90) G) (gp : GpB h0 91 u G G.length) : ∀ (Os : List (List Nat)) (L L2 B : List Nat) (le : Int) (h : xH) (x6 : Option xV), chB L Os = true → L.length = G.length → B.length = G.length → L2.Perm (List.range G.length) → (∀ O, O ∈ Os → OKO G.length O ∧ O.Perm (List.range G.length)) → NZ X h → (∀ a, a ≠ 73 → a ≠ 88 → a ≠ 89 → h.1 a = h0.1 a) → h.2 = h0.2 → R1 (h.1 88) L → R1 (h.1 89) B → vm h = wnP u G r L2 → RBr (h.1 73) → (∀ h2 L3 (x5 : Int) x6, NZ X h2 → (∀ a, a ≠ 73 → a ≠ 88 → a ≠ 89 → h2.1 a = h0.1 a) → h2.2 = h0.2 → R1 (h2.1 89) (bsO (fun O => wir (wnP u G r O) t) Os B le) → L3.Perm (List.range G.length) → vm h2 = wnP u G r L3 → RBr (h2.1 73) → Ev X 251 99 [some (vr 70), some (vi r), some (vi (A.length : Int)), some (vi (G.length : Int)), some (vi (u 18 (G.getD 0 0))), some (vi x5), x6] [] h2 Q) → Ev X 251 76 [some (vr 70), some (vi r), some (vi (A.length : Int)), some (vi (G.length : Int)), some (vi (u 18 (G.getD 0 0))), some (vi le), x6] [] h Q := by
  have sit := wi.2.1.sit (G.getD 0 0)
  have again : ∀ (O L2 : List Nat), O.Perm (List.range G.length) → L2.Perm (List.range G.length) → mvL r (posW u G 0 O (u 18 (G.getD 0 0))) (wnP u G r L2) = wnP u G r O := by
    intro O L2 p1 p2
    unfold wnP
    refine mvL_again (fun x hx => ?_)
    have k1 := (WI_win wi an r8 g1' p1).2.2.2.2.2.2.1
    have k2 := (WI_win wi an r8 g1' p2).2.2.2.2.2.2.1
    have : x.1 ∈ (posW u G 0 O (u 18 (G.getD 0 0))).map (fun x => x.1) := k1.mem_iff.mpr (k2.mem_iff.mp (List.mem_map.mpr ⟨x, hx, rfl⟩))
    obtain ⟨y, hy, e⟩ := List.mem_map.mp this
    exact ⟨y, hy, e⟩
  have good : ∀ (O : List Nat), O.Perm (List.range G.length) → WG (wnP u G r O) ∧ SJ (wnP u G r O) u := by
    intro O p
    have q := WI_win wi an r8 g1' p
    have w : RGv (wnP u G r O) := mvL_rg _ u wi.2.1 (by rw [er]; exact q.1)
    have s : SJ (wnP u G r O) u := mvL_sj _ u SJ.refl
    exact ⟨SJ.wg (fun j h1 h2 => (s j h1 h2).trans (wi.2.2.1 j h1 h2)) w gd, s⟩
  intro Os
  induction Os with
  | nil =>
    intro L L2 B le h x6 ch lL lB pL2 ok z g1 g2 r1 r2 ev rb hq
    rw [chB] at ch
    have nn := of_decide_eq_true ch
    rw [e_251_76]
    simp (disch := first | assumption | omega) only [e_251_77, onI_s, onR_s, onL_s, gl_0, gl_n, gl_1, gl_2, gl_3, gl_4, gl_5, gl_6, gl_7, gl_8, gl_9, gl_10, gl_11, gl_12, gl_13, gl_14, gl_15, gl_16, gl_17, sk0i, sk0r, sk0n, sk1i, sk1r, sk1n, sk_2, sk_3, sk_4, sk_5, sk_6, sk_7, sk_8, sk_9, sk_10, sk_11, sk_12, sk_13, sk_14, sk_15, sk_16, sk_17, ls_0, ls_1, ls_2, ls_3, ls_4, ls_5, ls_6, ls_7, ls_8, ls_9, ls_10, ls_11, ls_12, ls_13, ls_14, ls_15, ls_16, ls_17, ct1_i, ct1_r, wd8_0, wd8_i1, wd8_r1, wd8_i2, wd8_r2, wd8_i3, wd8_r3, wd8_i4, wd8_r4, wd8_i5, wd8_r5, wd8_i6, wd8_r6, wd8_i7, wd8_r7, wd8_i8, wd8_r8, wd8_l2, wd8_l3, wd8_l4, wd8_l5, wd8_l6, wd8_l7, wd8_l8, tl_s, tl_n, inR_t, bd_t, true_and, and_true, true_or, or_true, if_true_x, if_false_x, if_pos, if_neg, Int.toNat_natCast, natL, bI_0, bI_1, bI_ft, eq_self, b_tf, b_ft, not_true_eq_false, not_false_eq_true]
    rw [← lL]
    (rw [e_251_78]; refine ⟨⟨hc.t70, by simp [wd_i, wd_r, wd_l, wd_0]⟩, ?_⟩)
    refine m_247 hc (by omega) r1 z (fun _ => ?_) (fun M e2 => by rw [nn] at e2; cases e2)
    rw [lL]
    simp (disch := first | assumption | omega) only [e_251_79, onI_s, onR_s, onL_s, gl_0, gl_n, gl_1, gl_2, gl_3, gl_4, gl_5, gl_6, gl_7, gl_8, gl_9, gl_10, gl_11, gl_12, gl_13, gl_14, gl_15, gl_16, gl_17, sk0i, sk0r, sk0n, sk1i, sk1r, sk1n, sk_2, sk_3, sk_4, sk_5, sk_6, sk_7, sk_8, sk_9, sk_10, sk_11, sk_12, sk_13, sk_14, sk_15, sk_16, sk_17, ls_0, ls_1, ls_2, ls_3, ls_4, ls_5, ls_6, ls_7, ls_8, ls_9, ls_10, ls_11, ls_12, ls_13, ls_14, ls_15, ls_16, ls_17, ct1_i, ct1_r, wd8_0, wd8_i1, wd8_r1, wd8_i2, wd8_r2, wd8_i3, wd8_r3, wd8_i4, wd8_r4, wd8_i5, wd8_r5, wd8_i6, wd8_r6, wd8_i7, wd8_r7, wd8_i8, wd8_r8, wd8_l2, wd8_l3, wd8_l4, wd8_l5, wd8_l6, wd8_l7, wd8_l8, tl_s, tl_n, inR_t, bd_t, true_and, and_true, true_or, or_true, if_true_x, if_false_x, if_pos, if_neg, Int.toNat_natCast, natL, bI_0, bI_1, bI_ft, eq_self, b_tf, b_ft, not_true_eq_false, not_false_eq_true]
    exact hq h L2 _ _ z g1 g2 r2 pL2 ev rb
  | cons O Os ih =>
    intro L L2 B le h x6 ch lL lB pL2 ok z g1 g2 r1 r2 ev rb hq
    rw [chB, Bool.and_eq_true] at ch
    have nn := of_decide_eq_true ch.1
    obtain ⟨oo, po⟩ := ok O (by simp)
    rw [bsO] at hq
    rw [e_251_76]
    simp (disch := first | assumption | omega) only [e_251_77, onI_s, onR_s, onL_s, gl_0, gl_n, gl_1, gl_2, gl_3, gl_4, gl_5, gl_6, gl_7, gl_8, gl_9, gl_10, gl_11, gl_12, gl_13, gl_14, gl_15, gl_16, gl_17, sk0i, sk0r, sk0n, sk1i, sk1r, sk1n, sk_2, sk_3, sk_4, sk_5, sk_6, sk_7, sk_8, sk_9, sk_10, sk_11, sk_12, sk_13, sk_14, sk_15, sk_16, sk_17, ls_0, ls_1, ls_2, ls_3, ls_4, ls_5, ls_6, ls_7, ls_8, ls_9, ls_10, ls_11, ls_12, ls_13, ls_14, ls_15, ls_16, ls_17, ct1_i, ct1_r, wd8_0, wd8_i1, wd8_r1, wd8_i2, wd8_r2, wd8_i3, wd8_r3, wd8_i4, wd8_r4, wd8_i5, wd8_r5, wd8_i6, wd8_r6, wd8_i7, wd8_r7, wd8_i8, wd8_r8, wd8_l2, wd8_l3, wd8_l4, wd8_l5, wd8_l6, wd8_l7, wd8_l8, tl_s, tl_n, inR_t, bd_t, true_and, and_true, true_or, or_true, if_true_x, if_false_x, if_pos, if_neg, Int.toNat_natCast, natL, bI_0, bI_1, bI_ft, eq_self, b_tf, b_ft, not_true_eq_false, not_false_eq_true]
    rw [← lL]
    (rw [e_251_78]; refine ⟨⟨hc.t70, by simp [wd_i, wd_r, wd_l, wd_0]⟩, ?_⟩)
    refine m_247 hc (by omega) r1 z (fun e2 => by rw [nn] at e2; cases e2) (fun M e2 h2 z2 k2 r12 => ?_)
    have em : M = O := by rw [nn] at e2; exact (Option.some.inj e2).symm
    rw [em] at r12
    rw [lL]
    have ev2 : vm h2 = wnP u G r L2 := (k2.vmk (by omega)).trans ev
    have o2 : ∀ a, a ≠ 73 → a ≠ 88 → a ≠ 89 → h2.1 a = h0.1 a := fun a q1 q2 q3 => by rw [k2.1 a q2]; exact g1 a q1 q2 q3
    simp (disch := first | assumption | omega) only [e_251_79, e_251_80, e_251_81, e_251_82, e_251_83, e_251_84, e_251_85, onI_s, onR_s, onL_s, gl_0, gl_n, gl_1, gl_2, gl_3, gl_4, gl_5, gl_6, gl_7, gl_8, gl_9, gl_10, gl_11, gl_12, gl_13, gl_14, gl_15, gl_16, gl_17, sk0i, sk0r, sk0n, sk1i, sk1r, sk1n, sk_2, sk_3, sk_4, sk_5, sk_6, sk_7, sk_8, sk_9, sk_10, sk_11, sk_12, sk_13, sk_14, sk_15, sk_16, sk_17, ls_0, ls_1, ls_2, ls_3, ls_4, ls_5, ls_6, ls_7, ls_8, ls_9, ls_10, ls_11, ls_12, ls_13, ls_14, ls_15, ls_16, ls_17, ct1_i, ct1_r, wd8_0, wd8_i1, wd8_r1, wd8_i2, wd8_r2, wd8_i3, wd8_r3, wd8_i4, wd8_r4, wd8_i5, wd8_r5, wd8_i6, wd8_r6, wd8_i7, wd8_r7, wd8_i8, wd8_r8, wd8_l2, wd8_l3, wd8_l4, wd8_l5, wd8_l6, wd8_l7, wd8_l8, tl_s, tl_n, inR_t, bd_t, true_and, and_true, true_or, or_true, if_true_x, if_false_x, if_pos, if_neg, Int.toNat_natCast, natL, bI_0, bI_1, bI_ft, eq_self, b_tf, b_ft, not_true_eq_false, not_false_eq_true, hc.t70, hc.r70_4, hc.r70_5, hc.r70_6, hc.r70_7, hc.r70_8, hc.r70_10, hc.r70_11, hc.r70_12, hc.r70_14, hc.r70_15, hc.r70_16, hc.r70_17, hc.r70_19, hc.r70_21, hc.r70_23, hc.r70_24, hc.r70_26, hc.r70_27, hc.r70_28, hc.r70_29, hc.r70_30, hc.r70_31, hc.r70_32, hc.r70_33, hc.r70_36]
    (rw [e_251_86]; refine ⟨⟨hc.t70, by simp [wd_i, wd_r, wd_l, wd_0]⟩, ?_⟩)
    refine m_250 hc wi.2.1 (good L2 pL2).2 (ra := 88) (by omega) hc.t88 hc.z88 g4 gc oo.1 oo.2.1 (by rw [o2 90 (by omega) (by omega) (by omega)]; exact r90) (fun j hj => by rw [o2 91 (by omega) (by omega) (by omega)]; exact gp j hj) r12 z2 ev2 (by rw [k2.1 73 (by omega)]; exact rb) (by omega) (fun h3 vs => ?_)
    rw [again O L2 po pL2] at vs
    have wg3 : WG (vm h3) := by rw [vs.2.2.1]; exact (good O po).1
    have o3 : ∀ a, a ≠ 73 → a ≠ 88 → a ≠ 89 → h3.1 a = h0.1 a := fun a q1 q2 q3 => by rw [vs.2.1.1 a q1]; exact o2 a q1 q2 q3
    have f3 : h3.2 = h0.2 := by rw [vs.2.1.2, k2.2]; exact g2
    have t3 : h3.1 72 = h0.1 72 := o3 72 (by omega) (by omega) (by omega)
    have tm3 : TMb (h3.1 72) := by rw [t3]; exact tm
    have ev3 := vs.2.2.1
    have et3 : h3.1 72 4 = t := by rw [t3]; exact et
    by_cases e : wir (wnP u G r O) t < le
    · rw [if_pos e] at hq
      simp (disch := first | assumption | omega) only [e_251_87, e_251_88, e_251_89, e_251_90, e_251_91, e_251_92, e_251_93, e_251_94, e_251_95, e_251_96, onI_s, onR_s, onL_s, gl_0, gl_n, gl_1, gl_2, gl_3, gl_4, gl_5, gl_6, gl_7, gl_8, gl_9, gl_10, gl_11, gl_12, gl_13, gl_14, gl_15, gl_16, gl_17, sk0i, sk0r, sk0n, sk1i, sk1r, sk1n, sk_2, sk_3, sk_4, sk_5, sk_6, sk_7, sk_8, sk_9, sk_10, sk_11, sk_12, sk_13, sk_14, sk_15, sk_16, sk_17, ls_0, ls_1, ls_2, ls_3, ls_4, ls_5, ls_6, ls_7, ls_8, ls_9, ls_10, ls_11, ls_12, ls_13, ls_14, ls_15, ls_16, ls_17, ct1_i, ct1_r, wd8_0, wd8_i1, wd8_r1, wd8_i2, wd8_r2, wd8_i3, wd8_r3, wd8_i4, wd8_r4, wd8_i5, wd8_r5, wd8_i6, wd8_r6, wd8_i7, wd8_r7, wd8_i8, wd8_r8, wd8_l2, wd8_l3, wd8_l4, wd8_l5, wd8_l6, wd8_l7, wd8_l8, tl_s, tl_n, inR_t, bd_t, true_and, and_true, true_or, or_true, if_true_x, if_false_x, if_pos, if_neg, Int.toNat_natCast, natL, bI_0, bI_1, bI_ft, eq_self, b_tf, b_ft, not_true_eq_false, not_false_eq_true, wirM hc wg3 tm3, ev3, et3, e, hc.t70, hc.r70_4, hc.r70_5, hc.r70_6, hc.r70_7, hc.r70_8, hc.r70_10, hc.r70_11, hc.r70_12, hc.r70_14, hc.r70_15, hc.r70_16, hc.r70_17, hc.r70_19, hc.r70_21, hc.r70_23, hc.r70_24, hc.r70_26, hc.r70_27, hc.r70_28, hc.r70_29, hc.r70_30, hc.r70_31, hc.r70_32, hc.r70_33, hc.r70_36]
      rw [← oo.1]
      (rw [e_251_97]; refine ⟨⟨hc.t70, by simp [wd_i, wd_r, wd_l, wd_0]⟩, ?_⟩)
      refine m_249 hc (by have := oo.1; omega) (L := O) (by rw [vs.2.1.1 88 (by omega)]; exact r12) vs.1 (fun h4 z4 g4' r4 => ?_)
      rw [oo.1]
      simp (disch := first | assumption | omega) only [e_251_98, onI_s, onR_s, onL_s, gl_0, gl_n, gl_1, gl_2, gl_3, gl_4, gl_5, gl_6, gl_7, gl_8, gl_9, gl_10, gl_11, gl_12, gl_13, gl_14, gl_15, gl_16, gl_17, sk0i, sk0r, sk0n, sk1i, sk1r, sk1n, sk_2, sk_3, sk_4, sk_5, sk_6, sk_7, sk_8, sk_9, sk_10, sk_11, sk_12, sk_13, sk_14, sk_15, sk_16, sk_17, ls_0, ls_1, ls_2, ls_3, ls_4, ls_5, ls_6, ls_7, ls_8, ls_9, ls_10, ls_11, ls_12, ls_13, ls_14, ls_15, ls_16, ls_17, ct1_i, ct1_r, wd8_0, wd8_i1, wd8_r1, wd8_i2, wd8_r2, wd8_i3, wd8_r3, wd8_i4, wd8_r4, wd8_i5, wd8_r5, wd8_i6, wd8_r6, wd8_i7, wd8_r7, wd8_i8, wd8_r8, wd8_l2, wd8_l3, wd8_l4, wd8_l5, wd8_l6, wd8_l7, wd8_l8, tl_s, tl_n, inR_t, bd_t, true_and, and_true, true_or, or_true, if_true_x, if_false_x, if_pos, if_neg, Int.toNat_natCast, natL, bI_0, bI_1, bI_ft, eq_self, b_tf, b_ft, not_true_eq_false, not_false_eq_true]
      exact ih O O O _ h4 _ ch.2 oo.1 oo.1 po (fun P hP => ok P (by simp [hP])) z4 (fun a q1 q2 q3 => by rw [g4'.1 a q3]; exact o3 a q1 q2 q3) (by rw [g4'.2]; exact f3) (by rw [g4'.1 88 (by omega), vs.2.1.1 88 (by omega)]; exact r12) r4 ((g4'.vmk (by omega)).trans ev3) (by rw [g4'.1 73 (by omega)]; exact vs.2.2.2) hq
    · rw [if_neg e] at hq
      simp (disch := first | assumption | omega) only [e_251_87, e_251_88, e_251_89, e_251_90, e_251_91, e_251_92, e_251_98, onI_s, onR_s, onL_s, gl_0, gl_n, gl_1, gl_2, gl_3, gl_4, gl_5, gl_6, gl_7, gl_8, gl_9, gl_10, gl_11, gl_12, gl_13, gl_14, gl_15, gl_16, gl_17, sk0i, sk0r, sk0n, sk1i, sk1r, sk1n, sk_2, sk_3, sk_4, sk_5, sk_6, sk_7, sk_8, sk_9, sk_10, sk_11, sk_12, sk_13, sk_14, sk_15, sk_16, sk_17, ls_0, ls_1, ls_2, ls_3, ls_4, ls_5, ls_6, ls_7, ls_8, ls_9, ls_10, ls_11, ls_12, ls_13, ls_14, ls_15, ls_16, ls_17, ct1_i, ct1_r, wd8_0, wd8_i1, wd8_r1, wd8_i2, wd8_r2, wd8_i3, wd8_r3, wd8_i4, wd8_r4, wd8_i5, wd8_r5, wd8_i6, wd8_r6, wd8_i7, wd8_r7, wd8_i8, wd8_r8, wd8_l2, wd8_l3, wd8_l4, wd8_l5, wd8_l6, wd8_l7, wd8_l8, tl_s, tl_n, inR_t, bd_t, true_and, and_true, true_or, or_true, if_true_x, if_false_x, if_pos, if_neg, Int.toNat_natCast, natL, bI_0, bI_1, bI_ft, eq_self, b_tf, b_ft, not_true_eq_false, not_false_eq_true, wirM hc wg3 tm3, ev3, et3, e, hc.t70, hc.r70_4, hc.r70_5, hc.r70_6, hc.r70_7, hc.r70_8, hc.r70_10, hc.r70_11, hc.r70_12, hc.r70_14, hc.r70_15, hc.r70_16, hc.r70_17, hc.r70_19, hc.r70_21, hc.r70_23, hc.r70_24, hc.r70_26, hc.r70_27, hc.r70_28, hc.r70_29, hc.r70_30, hc.r70_31, hc.r70_32, hc.r70_33, hc.r70_36]
      exact ih O O B le h3 _ ch.2 oo.1 lB po (fun P hP => ok P (by simp [hP])) vs.1 o3 f3 (by rw [vs.2.1.1 88 (by omega)]; exact r12) (by rw [vs.2.1.1 89 (by omega), k2.1 89 (by omega)]; exact r2) ev3 vs.2.2.2 hq
theorem mid_R1 {R R2 : Nat → Int} {A G C M : List Nat} (r : R1 R (A ++ (G ++ C))) (hl : M.length = G.length) (h : ∀ k, R2 k = if A.length ≤ k ∧ k < A.length + G.length then ((M.getD (k - A.length) 0 : Nat) : Int) else R k) : R1 R2 (A ++ (M ++ C)) := by
  intro k x e
  rw [h]
  by_cases c1 : k < A.length
  · rw [if_neg (by omega)]
    rw [List.getElem?_append_left c1] at e
    exact r k x (by rw [List.getElem?_append_left c1]; exact e)
  · rw [List.getElem?_append_right (by omega)] at e
    by_cases c2 : k < A.length + G.length
    · rw [if_pos ⟨by omega, c2⟩]
      rw [List.getElem?_append_left (by omega)] at e
      rw [List.getD_eq_getElem?_getD, e]
      rfl
    · rw [if_neg (by omega)]
      rw [List.getElem?_append_right (by omega)] at e
      refine r k x ?_
      rw [List.getElem?_append_right (by omega), List.getElem?_append_right (by omega), ← hl]
      exact e
end WNM
