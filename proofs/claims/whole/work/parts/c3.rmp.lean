/-! RUN: the call of the reference -/
def GY (h h2 : xH) : Prop := (∀ a, a < 79 ∨ 94 < a → h2.1 a = h.1 a) ∧ (∀ a k, ¬ (a = 70 ∧ (k = 18 ∨ k = 20 ∨ k = 22 ∨ k = 25)) → h2.2 a k = h.2 a k)
section RMP
variable {X : xL} {Q : Option xV → xH → Prop} {ns nb ln : Nat} {h h2 h3 : xH}
theorem GY.refl : GY h h := ⟨fun _ _ => rfl, fun _ _ _ => rfl⟩
theorem GY.tr (g : GY h h2) (k : GY h2 h3) : GY h h3 := ⟨fun a q => (k.1 a q).trans (g.1 a q), fun a j q => (k.2 a j q).trans (g.2 a j q)⟩
theorem GY.vm (g : GY h h2) : vm h2 = vm h := by
  show rv (h2.1 73) (h2.2 70 2) (h2.2 70 3) = rv (h.1 73) (h.2 70 2) (h.2 70 3)
  rw [g.1 73 (by omega), g.2 70 2 (by decide), g.2 70 3 (by decide)]
theorem GY.fm (g : GY h h2) (ok : Ok X h) (z : NZ X h2) : Fm X h h2 := ⟨z, fun a q => ⟨g.1 a (by omega), funext fun k => g.2 a k (by omega)⟩, fun a q => g.1 a (by omega), fun k q => g.2 70 k (by omega), by rw [g.1 73 (by omega)]; exact ok.2.2.2.1.2.1⟩
theorem GR.gy (g : GR h h2) : GY h h2 := ⟨fun a q => g.1 a (by omega), fun a k q => g.2 a k (by omega)⟩
theorem GL.gy (g : GL h h2) : GY h h2 := ⟨fun a q => g.1 a (by omega), fun a k q => g.2 a k (by omega)⟩
theorem G1.gy {k : Nat} (g : G1 k h h2) (hk : 79 ≤ k ∧ k ≤ 94) : GY h h2 := ⟨fun a q => g.1 a (by omega), fun a k q => by rw [g.2]⟩
theorem R1.take_s {A A2 : Nat → Int} {L : List Nat} {j x : Nat} (h : R1 A (L.take j)) (hx : L[j]? = some x) (hA : ∀ k, A2 k = if k = j then (x : Int) else A k) : R1 A2 (L.take (j + 1)) := by
  have jl : j < L.length := by
    rcases Nat.lt_or_ge j L.length with c | c
    · exact c
    · rw [List.getElem?_eq_none c] at hx
      cases hx
  have e : L.take (j + 1) = L.take j ++ [x] := by
    rw [List.take_succ, hx]
    rfl
  rw [e]
  refine R1.snoc h (fun k => ?_)
  rw [hA, List.length_take, Nat.min_eq_left (by omega)]
set_option maxHeartbeats 8000000 in
/-- some are those that lie -/
theorem c_275l (hc : CT X ns nb ln) {h0 : xH} {L : List Nat} (L20 : L.length ≤ 20) (hM : h0.2 70 20 = L.length) (hL : R1 (h0.1 83) L) {r f i w k : Int} : ∀ (m j : Nat) (h : xH), j + m = L.length → NZ X h → G1 86 h0 h → R1 (h.1 86) (L.take j) → (∀ h2 x6, NZ X h2 → G1 86 h0 h2 → R1 (h2.1 86) L → Ev X 275 46 [some (vr 70), some (vi r), some (vi f), some (vi i), some (vi w), some (vi k), x6] [] h2 Q) → Ev X 275 32 [some (vr 70), some (vi r), some (vi f), some (vi i), some (vi w), some (vi k), some (vi j)] [] h Q := by
  intro m
  induction m with
  | zero =>
    intro j h hm z g p hq
    have eM : h.2 70 20 = L.length := by rw [g.2]; exact hM
    rw [e_275_32]
    simp (disch := first | assumption | omega) only [e_275_33, e_275_34, e_275_35, onI_s, onR_s, onL_s, gl_0, gl_n, gl_1, gl_2, gl_3, gl_4, gl_5, gl_6, gl_7, gl_8, gl_9, gl_10, gl_11, gl_12, gl_13, gl_14, gl_15, gl_16, gl_17, sk0i, sk0r, sk0n, sk1i, sk1r, sk1n, sk_2, sk_3, sk_4, sk_5, sk_6, sk_7, sk_8, sk_9, sk_10, sk_11, sk_12, sk_13, sk_14, sk_15, sk_16, sk_17, ls_0, ls_1, ls_2, ls_3, ls_4, ls_5, ls_6, ls_7, ls_8, ls_9, ls_10, ls_11, ls_12, ls_13, ls_14, ls_15, ls_16, ls_17, ct1_i, ct1_r, wd8_0, wd8_i1, wd8_r1, wd8_i2, wd8_r2, wd8_i3, wd8_r3, wd8_i4, wd8_r4, wd8_i5, wd8_r5, wd8_i6, wd8_r6, wd8_i7, wd8_r7, wd8_i8, wd8_r8, wd8_l2, wd8_l3, wd8_l4, wd8_l5, wd8_l6, wd8_l7, wd8_l8, tl_s, tl_n, inR_t, bd_t, true_and, and_true, true_or, or_true, if_true_x, if_false_x, if_pos, if_neg, Int.toNat_natCast, natL, bI_0, bI_1, bI_ft, eq_self, b_tf, b_ft, not_true_eq_false, not_false_eq_true, eM, hc.t70, hc.r70_4, hc.r70_5, hc.r70_6, hc.r70_7, hc.r70_8, hc.r70_10, hc.r70_11, hc.r70_12, hc.r70_14, hc.r70_15, hc.r70_16, hc.r70_17, hc.r70_19, hc.r70_21, hc.r70_23, hc.r70_24, hc.r70_26, hc.r70_27, hc.r70_28, hc.r70_29, hc.r70_30, hc.r70_31, hc.r70_32, hc.r70_33, hc.r70_36]
    rw [show j = L.length by omega, List.take_length] at p
    exact hq h _ z g p
  | succ m ih =>
    intro j h hm z g p hq
    have eM : h.2 70 20 = L.length := by rw [g.2]; exact hM
    obtain ⟨x, hx⟩ : ∃ x, L[j]? = some x := ⟨L[j], by rw [List.getElem?_eq_getElem (by omega)]⟩
    have ex : h.1 83 j = x := by rw [g.1 83 (by omega)]; exact hL j x hx
    rw [e_275_32]
    simp (disch := first | assumption | omega) only [e_275_33, e_275_34, e_275_35, e_275_36, e_275_37, e_275_38, e_275_39, e_275_40, e_275_41, e_275_42, e_275_43, e_275_44, e_275_45, onI_s, onR_s, onL_s, gl_0, gl_n, gl_1, gl_2, gl_3, gl_4, gl_5, gl_6, gl_7, gl_8, gl_9, gl_10, gl_11, gl_12, gl_13, gl_14, gl_15, gl_16, gl_17, sk0i, sk0r, sk0n, sk1i, sk1r, sk1n, sk_2, sk_3, sk_4, sk_5, sk_6, sk_7, sk_8, sk_9, sk_10, sk_11, sk_12, sk_13, sk_14, sk_15, sk_16, sk_17, ls_0, ls_1, ls_2, ls_3, ls_4, ls_5, ls_6, ls_7, ls_8, ls_9, ls_10, ls_11, ls_12, ls_13, ls_14, ls_15, ls_16, ls_17, ct1_i, ct1_r, wd8_0, wd8_i1, wd8_r1, wd8_i2, wd8_r2, wd8_i3, wd8_r3, wd8_i4, wd8_r4, wd8_i5, wd8_r5, wd8_i6, wd8_r6, wd8_i7, wd8_r7, wd8_i8, wd8_r8, wd8_l2, wd8_l3, wd8_l4, wd8_l5, wd8_l6, wd8_l7, wd8_l8, tl_s, tl_n, inR_t, bd_t, true_and, and_true, true_or, or_true, if_true_x, if_false_x, if_pos, if_neg, Int.toNat_natCast, natL, bI_0, bI_1, bI_ft, eq_self, b_tf, b_ft, not_true_eq_false, not_false_eq_true, eM, ex, cast_s, hc.t70, hc.r70_4, hc.r70_5, hc.r70_6, hc.r70_7, hc.r70_8, hc.r70_10, hc.r70_11, hc.r70_12, hc.r70_14, hc.r70_15, hc.r70_16, hc.r70_17, hc.r70_19, hc.r70_21, hc.r70_23, hc.r70_24, hc.r70_26, hc.r70_27, hc.r70_28, hc.r70_29, hc.r70_30, hc.r70_31, hc.r70_32, hc.r70_33, hc.r70_36, hc.t83, hc.z83, hc.t86, hc.z86]
    exact ih (j + 1) (up2 h.1 86 j x, h.2) (by omega) (NZ.up (I := h.1) (F := h.2) z (by rw [hc.z86]; omega)) (G1.tr g ⟨fun a q => up2_of q, rfl⟩) (R1.take_s p hx (fun k => by dsimp only; rw [up2_same])) hq
set_option maxHeartbeats 8000000 in
theorem q_275 {r f i w : Int} (wi : w ≤ 2147483647) (ok : Ok X h) (g : Gd (vm h)) (hq : ∀ h2, Mst X h h2 → mS h2 = mS h → Q (some (vi (spRun (mS h) r f i w))) h2) : Ev X 275 3 [some (vr 70), some (vi r), some (vi f), some (vi i), some (vi w), none, none] [] h Q := by
  have ok0 := ok
  obtain ⟨z, os, oc, om, ⟨nb, ln, hc, hnb⟩, lp⟩ := ok
  have hw := g.rg
  have fin3 : ∀ h3, GY h h3 → NZ X h3 → Mst X h h3 ∧ mS h3 = mS h := fun h3 f z3 => ⟨(f.fm ok0 z3).mst ok0, by rw [(f.fm ok0 z3).ms, f.vm]; rfl⟩
  have geo := g.geo
  obtain ⟨v, ev⟩ : ∃ v, v = vm h := ⟨_, rfl⟩
  unfold spRun at hq
  rw [show (mS h).1 = vm h from rfl, ← ev] at hq
  have hwh := hw
  rw [← ev] at hw geo
  have ws := hw.sites
  by_cases b : rkB v r f = true
  · have qb := of_decide_eq_true b
    obtain ⟨rr, rfl⟩ : ∃ rr : Nat, r = rr := ⟨r.toNat, by omega⟩
    rw [Int.toNat_natCast] at hq
    obtain ⟨A, P, e, hA, hP⟩ := rn_dec b
    have l256 := rnL_len hw
    have le := congrArg List.length e
    simp only [List.length_append, List.length_map] at le
    simp (disch := first | assumption | omega) only [e_275_3, e_275_4, e_275_5, e_275_6, e_275_7, e_275_10, onI_s, onR_s, onL_s, gl_0, gl_n, gl_1, gl_2, gl_3, gl_4, gl_5, gl_6, gl_7, gl_8, gl_9, gl_10, gl_11, gl_12, gl_13, gl_14, gl_15, gl_16, gl_17, sk0i, sk0r, sk0n, sk1i, sk1r, sk1n, sk_2, sk_3, sk_4, sk_5, sk_6, sk_7, sk_8, sk_9, sk_10, sk_11, sk_12, sk_13, sk_14, sk_15, sk_16, sk_17, ls_0, ls_1, ls_2, ls_3, ls_4, ls_5, ls_6, ls_7, ls_8, ls_9, ls_10, ls_11, ls_12, ls_13, ls_14, ls_15, ls_16, ls_17, ct1_i, ct1_r, wd8_0, wd8_i1, wd8_r1, wd8_i2, wd8_r2, wd8_i3, wd8_r3, wd8_i4, wd8_r4, wd8_i5, wd8_r5, wd8_i6, wd8_r6, wd8_i7, wd8_r7, wd8_i8, wd8_r8, wd8_l2, wd8_l3, wd8_l4, wd8_l5, wd8_l6, wd8_l7, wd8_l8, tl_s, tl_n, inR_t, bd_t, true_and, and_true, true_or, or_true, if_true_x, if_false_x, if_pos, if_neg, Int.toNat_natCast, natL, bI_0, bI_1, bI_ft, eq_self, b_tf, b_ft, not_true_eq_false, not_false_eq_true, m_273 hc hwh, ev.symm, b, hc.t70, hc.r70_4, hc.r70_5, hc.r70_6, hc.r70_7, hc.r70_8, hc.r70_10, hc.r70_11, hc.r70_12, hc.r70_14, hc.r70_15, hc.r70_16, hc.r70_17, hc.r70_19, hc.r70_21, hc.r70_23, hc.r70_24, hc.r70_26, hc.r70_27, hc.r70_28, hc.r70_29, hc.r70_30, hc.r70_31, hc.r70_32, hc.r70_33, hc.r70_36]
    (rw [e_275_11]; refine ⟨⟨hc.t70, by simp [wd_i, wd_r, wd_l, wd_0]⟩, ?_⟩)
    refine m_231 hc ev.symm hw om.2.1 z (fun h2 s2 => ?_)
    have fn : fnL rr f i (rnL v) 0 0 (-1) = if 0 ≤ i ∧ i < (rnR v rr f).length then (A.length : Int) + i else -1 := fnL_rn e hA hP
    by_cases il : 0 ≤ i ∧ i < ((rnR v rr f).length : Int)
    · rw [if_pos ⟨b, il⟩] at hq
      rw [if_pos il] at fn
      obtain ⟨j, rfl⟩ : ∃ j : Nat, i = j := ⟨i.toNat, by omega⟩
      rw [Int.toNat_natCast] at hq
      have jl : j < (rnR v rr f).length := by omega
      obtain ⟨x, hx⟩ : ∃ x, (rnR v rr f)[j]? = some x := ⟨(rnR v rr f)[j], by rw [List.getElem?_eq_getElem jl]⟩
      have xg := rnR_gd x (List.mem_of_getElem? hx)
      rw [hx] at hq
      dsimp only at hq
      obtain ⟨a, n⟩ := x
      have f1 : -1 ≤ f := by omega
      have an : a + n ≤ 32 := by have := xg.2.1; dsimp only at this; omega
      obtain ⟨k, hk⟩ : ∃ k, k = A.length + j := ⟨_, rfl⟩
      have ek : (A.length : Int) + (j : Int) = k := by omega
      rw [ek] at fn
      obtain ⟨y1, y2, y3, y4⟩ := s2.2.2.2 k (tgR rr f (a, n)) (by
        rw [e, List.getElem?_append_right (by omega), List.getElem?_append_left (by rw [List.length_map]; omega), List.getElem?_map, show k - A.length = j by omega, hx]
        rfl)
      change h2.1 79 k = (rr : Int) at y1
      change h2.1 81 k = (a : Int) at y3
      change h2.1 82 k = (n : Int) at y4
      have k256 : k < 256 := by omega
      have kn : ¬ (k : Int) = -1 := by omega
      have l20 := ly_len geo hw f1 xg
      have lf := ly_fit geo hw f1 xg
      have lc := ly_c20 geo hw (r := rr) (a := a) (n := n)
      have ev2 : vm h2 = v := s2.2.1.vm.trans ev.symm
      simp (disch := first | assumption | omega) only [e_275_12, e_275_13, e_275_14, e_275_15, e_275_16, e_275_17, e_275_18, e_275_19, e_275_20, e_275_23, e_275_24, onI_s, onR_s, onL_s, gl_0, gl_n, gl_1, gl_2, gl_3, gl_4, gl_5, gl_6, gl_7, gl_8, gl_9, gl_10, gl_11, gl_12, gl_13, gl_14, gl_15, gl_16, gl_17, sk0i, sk0r, sk0n, sk1i, sk1r, sk1n, sk_2, sk_3, sk_4, sk_5, sk_6, sk_7, sk_8, sk_9, sk_10, sk_11, sk_12, sk_13, sk_14, sk_15, sk_16, sk_17, ls_0, ls_1, ls_2, ls_3, ls_4, ls_5, ls_6, ls_7, ls_8, ls_9, ls_10, ls_11, ls_12, ls_13, ls_14, ls_15, ls_16, ls_17, ct1_i, ct1_r, wd8_0, wd8_i1, wd8_r1, wd8_i2, wd8_r2, wd8_i3, wd8_r3, wd8_i4, wd8_r4, wd8_i5, wd8_r5, wd8_i6, wd8_r6, wd8_i7, wd8_r7, wd8_i8, wd8_r8, wd8_l2, wd8_l3, wd8_l4, wd8_l5, wd8_l6, wd8_l7, wd8_l8, tl_s, tl_n, inR_t, bd_t, true_and, and_true, true_or, or_true, if_true_x, if_false_x, if_pos, if_neg, Int.toNat_natCast, natL, bI_0, bI_1, bI_ft, eq_self, b_tf, b_ft, not_true_eq_false, not_false_eq_true, m_232 hc s2.2.2.1 l256 s2.2.2.2, fn, kn, hc.t70, hc.r70_4, hc.r70_5, hc.r70_6, hc.r70_7, hc.r70_8, hc.r70_10, hc.r70_11, hc.r70_12, hc.r70_14, hc.r70_15, hc.r70_16, hc.r70_17, hc.r70_19, hc.r70_21, hc.r70_23, hc.r70_24, hc.r70_26, hc.r70_27, hc.r70_28, hc.r70_29, hc.r70_30, hc.r70_31, hc.r70_32, hc.r70_33, hc.r70_36]
      (rw [e_275_25]; refine ⟨⟨hc.t70, by simp [wd_i, wd_r, wd_l, wd_0]⟩, ?_⟩)
      refine m_233 hc ev2 hw s2.1 k256 y1 y3 y4 an l20 (fun h3 l3 => ?_)
      obtain ⟨L, eL⟩ : ∃ L, L = lyL v rr n a := ⟨_, rfl⟩
      have eO : lyO v rr (a, n) = L := eL.symm
      rw [eO] at hq
      rw [← eL] at l3 l20 lf lc
      dsimp only at hq
      have n3 := l3.2.2.1
      simp (disch := first | assumption | omega) only [e_275_26, e_275_27, e_275_28, e_275_29, e_275_30, e_275_31, onI_s, onR_s, onL_s, gl_0, gl_n, gl_1, gl_2, gl_3, gl_4, gl_5, gl_6, gl_7, gl_8, gl_9, gl_10, gl_11, gl_12, gl_13, gl_14, gl_15, gl_16, gl_17, sk0i, sk0r, sk0n, sk1i, sk1r, sk1n, sk_2, sk_3, sk_4, sk_5, sk_6, sk_7, sk_8, sk_9, sk_10, sk_11, sk_12, sk_13, sk_14, sk_15, sk_16, sk_17, ls_0, ls_1, ls_2, ls_3, ls_4, ls_5, ls_6, ls_7, ls_8, ls_9, ls_10, ls_11, ls_12, ls_13, ls_14, ls_15, ls_16, ls_17, ct1_i, ct1_r, wd8_0, wd8_i1, wd8_r1, wd8_i2, wd8_r2, wd8_i3, wd8_r3, wd8_i4, wd8_r4, wd8_i5, wd8_r5, wd8_i6, wd8_r6, wd8_i7, wd8_r7, wd8_i8, wd8_r8, wd8_l2, wd8_l3, wd8_l4, wd8_l5, wd8_l6, wd8_l7, wd8_l8, tl_s, tl_n, inR_t, bd_t, true_and, and_true, true_or, or_true, if_true_x, if_false_x, if_pos, if_neg, Int.toNat_natCast, natL, bI_0, bI_1, bI_ft, eq_self, b_tf, b_ft, not_true_eq_false, not_false_eq_true, n3, hc.t70, hc.r70_4, hc.r70_5, hc.r70_6, hc.r70_7, hc.r70_8, hc.r70_10, hc.r70_11, hc.r70_12, hc.r70_14, hc.r70_15, hc.r70_16, hc.r70_17, hc.r70_19, hc.r70_21, hc.r70_23, hc.r70_24, hc.r70_26, hc.r70_27, hc.r70_28, hc.r70_29, hc.r70_30, hc.r70_31, hc.r70_32, hc.r70_33, hc.r70_36]
      obtain ⟨h4, e4⟩ : ∃ h4 : xH, h4 = (h3.1, up2 h3.2 70 25 (L.length : Int)) := ⟨_, rfl⟩
      rw [← e4]
      have z4 : NZ X h4 := by rw [e4]; exact l3.1
      have g4 : GY h3 h4 := by
        rw [e4]
        exact ⟨fun _ _ => rfl, fun a k q => by dsimp only; rw [up2_eq, if_neg (by omega)]⟩
      refine c_275l hc l20 (h0 := h4) (by rw [e4]; dsimp only; rw [up2_eq, if_neg (by omega)]; exact n3) (by rw [e4]; exact l3.2.2.2) L.length 0 h4 (by omega) z4 G1.refl (by rw [List.take_zero]; exact R1.nil) (fun h5 x6 z5 g5 p5 => ?_)
      have g45 : GY h3 h5 := g4.tr (g5.gy (by omega))
      have g05 : GY h h5 := (s2.2.1.gy.tr l3.2.1.gy).tr g45
      have q5 := fin3 h5 g05 z5
      have ev5 : vm h5 = v := g05.vm.trans ev.symm
      have hw5 : RGv (vm h5) := by rw [ev5]; exact hw
      have e81 : h5.1 81 k = a := by rw [g5.1 81 (by omega), e4]; dsimp only; rw [l3.2.1.1 81 (by omega)]; exact y3
      have e82 : h5.1 82 k = n := by rw [g5.1 82 (by omega), e4]; dsimp only; rw [l3.2.1.1 82 (by omega)]; exact y4
      have r83 : R1 (h5.1 83) L := by rw [g5.1 83 (by omega), e4]; exact l3.2.2.2
      have n20 : h5.2 70 20 = L.length := by rw [g5.2, e4]; dsimp only; rw [up2_eq, if_neg (by omega)]; exact n3
      have n25 : h5.2 70 25 = L.length := by rw [g5.2, e4]; dsimp only; rw [up2_self]
      have sl := sW_ge hw L
      simp (disch := first | assumption | omega) only [e_275_46, onI_s, onR_s, onL_s, gl_0, gl_n, gl_1, gl_2, gl_3, gl_4, gl_5, gl_6, gl_7, gl_8, gl_9, gl_10, gl_11, gl_12, gl_13, gl_14, gl_15, gl_16, gl_17, sk0i, sk0r, sk0n, sk1i, sk1r, sk1n, sk_2, sk_3, sk_4, sk_5, sk_6, sk_7, sk_8, sk_9, sk_10, sk_11, sk_12, sk_13, sk_14, sk_15, sk_16, sk_17, ls_0, ls_1, ls_2, ls_3, ls_4, ls_5, ls_6, ls_7, ls_8, ls_9, ls_10, ls_11, ls_12, ls_13, ls_14, ls_15, ls_16, ls_17, ct1_i, ct1_r, wd8_0, wd8_i1, wd8_r1, wd8_i2, wd8_r2, wd8_i3, wd8_r3, wd8_i4, wd8_r4, wd8_i5, wd8_r5, wd8_i6, wd8_r6, wd8_i7, wd8_r7, wd8_i8, wd8_r8, wd8_l2, wd8_l3, wd8_l4, wd8_l5, wd8_l6, wd8_l7, wd8_l8, tl_s, tl_n, inR_t, bd_t, true_and, and_true, true_or, or_true, if_true_x, if_false_x, if_pos, if_neg, Int.toNat_natCast, natL, bI_0, bI_1, bI_ft, eq_self, b_tf, b_ft, not_true_eq_false, not_false_eq_true]
      rw [e_275_47]
      by_cases g4 : 0 ≤ w ∧ w ≤ 4
      · rcases (show w = 0 ∨ w = 1 ∨ w = 2 ∨ w = 3 ∨ w = 4 by omega) with rfl | rfl | rfl | rfl | rfl
        · change Ev X 275 48 _ _ _ _
          simp (disch := first | assumption | omega) only [e_275_48, e_275_49, e_275_50, e_275_51, e_275_52, onI_s, onR_s, onL_s, gl_0, gl_n, gl_1, gl_2, gl_3, gl_4, gl_5, gl_6, gl_7, gl_8, gl_9, gl_10, gl_11, gl_12, gl_13, gl_14, gl_15, gl_16, gl_17, sk0i, sk0r, sk0n, sk1i, sk1r, sk1n, sk_2, sk_3, sk_4, sk_5, sk_6, sk_7, sk_8, sk_9, sk_10, sk_11, sk_12, sk_13, sk_14, sk_15, sk_16, sk_17, ls_0, ls_1, ls_2, ls_3, ls_4, ls_5, ls_6, ls_7, ls_8, ls_9, ls_10, ls_11, ls_12, ls_13, ls_14, ls_15, ls_16, ls_17, ct1_i, ct1_r, wd8_0, wd8_i1, wd8_r1, wd8_i2, wd8_r2, wd8_i3, wd8_r3, wd8_i4, wd8_r4, wd8_i5, wd8_r5, wd8_i6, wd8_r6, wd8_i7, wd8_r7, wd8_i8, wd8_r8, wd8_l2, wd8_l3, wd8_l4, wd8_l5, wd8_l6, wd8_l7, wd8_l8, tl_s, tl_n, inR_t, bd_t, true_and, and_true, true_or, or_true, if_true_x, if_false_x, if_pos, if_neg, Int.toNat_natCast, natL, bI_0, bI_1, bI_ft, eq_self, b_tf, b_ft, not_true_eq_false, not_false_eq_true, e81, hc.t70, hc.r70_4, hc.r70_5, hc.r70_6, hc.r70_7, hc.r70_8, hc.r70_10, hc.r70_11, hc.r70_12, hc.r70_14, hc.r70_15, hc.r70_16, hc.r70_17, hc.r70_19, hc.r70_21, hc.r70_23, hc.r70_24, hc.r70_26, hc.r70_27, hc.r70_28, hc.r70_29, hc.r70_30, hc.r70_31, hc.r70_32, hc.r70_33, hc.r70_36, hc.t81, hc.z81]
          exact hq h5 q5.1 q5.2
        · change Ev X 275 53 _ _ _ _
          simp (disch := first | assumption | omega) only [e_275_53, e_275_54, e_275_55, e_275_56, e_275_57, onI_s, onR_s, onL_s, gl_0, gl_n, gl_1, gl_2, gl_3, gl_4, gl_5, gl_6, gl_7, gl_8, gl_9, gl_10, gl_11, gl_12, gl_13, gl_14, gl_15, gl_16, gl_17, sk0i, sk0r, sk0n, sk1i, sk1r, sk1n, sk_2, sk_3, sk_4, sk_5, sk_6, sk_7, sk_8, sk_9, sk_10, sk_11, sk_12, sk_13, sk_14, sk_15, sk_16, sk_17, ls_0, ls_1, ls_2, ls_3, ls_4, ls_5, ls_6, ls_7, ls_8, ls_9, ls_10, ls_11, ls_12, ls_13, ls_14, ls_15, ls_16, ls_17, ct1_i, ct1_r, wd8_0, wd8_i1, wd8_r1, wd8_i2, wd8_r2, wd8_i3, wd8_r3, wd8_i4, wd8_r4, wd8_i5, wd8_r5, wd8_i6, wd8_r6, wd8_i7, wd8_r7, wd8_i8, wd8_r8, wd8_l2, wd8_l3, wd8_l4, wd8_l5, wd8_l6, wd8_l7, wd8_l8, tl_s, tl_n, inR_t, bd_t, true_and, and_true, true_or, or_true, if_true_x, if_false_x, if_pos, if_neg, Int.toNat_natCast, natL, bI_0, bI_1, bI_ft, eq_self, b_tf, b_ft, not_true_eq_false, not_false_eq_true, e82, hc.t70, hc.r70_4, hc.r70_5, hc.r70_6, hc.r70_7, hc.r70_8, hc.r70_10, hc.r70_11, hc.r70_12, hc.r70_14, hc.r70_15, hc.r70_16, hc.r70_17, hc.r70_19, hc.r70_21, hc.r70_23, hc.r70_24, hc.r70_26, hc.r70_27, hc.r70_28, hc.r70_29, hc.r70_30, hc.r70_31, hc.r70_32, hc.r70_33, hc.r70_36, hc.t82, hc.z82]
          exact hq h5 q5.1 q5.2
        · change Ev X 275 58 _ _ _ _
          simp (disch := first | assumption | omega) only [e_275_58, e_275_59, e_275_60, onI_s, onR_s, onL_s, gl_0, gl_n, gl_1, gl_2, gl_3, gl_4, gl_5, gl_6, gl_7, gl_8, gl_9, gl_10, gl_11, gl_12, gl_13, gl_14, gl_15, gl_16, gl_17, sk0i, sk0r, sk0n, sk1i, sk1r, sk1n, sk_2, sk_3, sk_4, sk_5, sk_6, sk_7, sk_8, sk_9, sk_10, sk_11, sk_12, sk_13, sk_14, sk_15, sk_16, sk_17, ls_0, ls_1, ls_2, ls_3, ls_4, ls_5, ls_6, ls_7, ls_8, ls_9, ls_10, ls_11, ls_12, ls_13, ls_14, ls_15, ls_16, ls_17, ct1_i, ct1_r, wd8_0, wd8_i1, wd8_r1, wd8_i2, wd8_r2, wd8_i3, wd8_r3, wd8_i4, wd8_r4, wd8_i5, wd8_r5, wd8_i6, wd8_r6, wd8_i7, wd8_r7, wd8_i8, wd8_r8, wd8_l2, wd8_l3, wd8_l4, wd8_l5, wd8_l6, wd8_l7, wd8_l8, tl_s, tl_n, inR_t, bd_t, true_and, and_true, true_or, or_true, if_true_x, if_false_x, if_pos, if_neg, Int.toNat_natCast, natL, bI_0, bI_1, bI_ft, eq_self, b_tf, b_ft, not_true_eq_false, not_false_eq_true, n20, hc.t70, hc.r70_4, hc.r70_5, hc.r70_6, hc.r70_7, hc.r70_8, hc.r70_10, hc.r70_11, hc.r70_12, hc.r70_14, hc.r70_15, hc.r70_16, hc.r70_17, hc.r70_19, hc.r70_21, hc.r70_23, hc.r70_24, hc.r70_26, hc.r70_27, hc.r70_28, hc.r70_29, hc.r70_30, hc.r70_31, hc.r70_32, hc.r70_33, hc.r70_36]
          exact hq h5 q5.1 q5.2
        · change Ev X 275 61 _ _ _ _
          simp (disch := first | assumption | omega) only [e_275_61, e_275_62, e_275_63, e_275_64, e_275_65, e_275_66, e_275_67, e_275_68, onI_s, onR_s, onL_s, gl_0, gl_n, gl_1, gl_2, gl_3, gl_4, gl_5, gl_6, gl_7, gl_8, gl_9, gl_10, gl_11, gl_12, gl_13, gl_14, gl_15, gl_16, gl_17, sk0i, sk0r, sk0n, sk1i, sk1r, sk1n, sk_2, sk_3, sk_4, sk_5, sk_6, sk_7, sk_8, sk_9, sk_10, sk_11, sk_12, sk_13, sk_14, sk_15, sk_16, sk_17, ls_0, ls_1, ls_2, ls_3, ls_4, ls_5, ls_6, ls_7, ls_8, ls_9, ls_10, ls_11, ls_12, ls_13, ls_14, ls_15, ls_16, ls_17, ct1_i, ct1_r, wd8_0, wd8_i1, wd8_r1, wd8_i2, wd8_r2, wd8_i3, wd8_r3, wd8_i4, wd8_r4, wd8_i5, wd8_r5, wd8_i6, wd8_r6, wd8_i7, wd8_r7, wd8_i8, wd8_r8, wd8_l2, wd8_l3, wd8_l4, wd8_l5, wd8_l6, wd8_l7, wd8_l8, tl_s, tl_n, inR_t, bd_t, true_and, and_true, true_or, or_true, if_true_x, if_false_x, if_pos, if_neg, Int.toNat_natCast, natL, bI_0, bI_1, bI_ft, eq_self, b_tf, b_ft, not_true_eq_false, not_false_eq_true, e82, m_237 hc hw5 n25 p5 (by omega) lc, ev5, hc.t70, hc.r70_4, hc.r70_5, hc.r70_6, hc.r70_7, hc.r70_8, hc.r70_10, hc.r70_11, hc.r70_12, hc.r70_14, hc.r70_15, hc.r70_16, hc.r70_17, hc.r70_19, hc.r70_21, hc.r70_23, hc.r70_24, hc.r70_26, hc.r70_27, hc.r70_28, hc.r70_29, hc.r70_30, hc.r70_31, hc.r70_32, hc.r70_33, hc.r70_36, hc.t82, hc.z82]
          exact hq h5 q5.1 q5.2
        · change Ev X 275 69 _ _ _ _
          simp (disch := first | assumption | omega) only [e_275_69, e_275_70, onI_s, onR_s, onL_s, gl_0, gl_n, gl_1, gl_2, gl_3, gl_4, gl_5, gl_6, gl_7, gl_8, gl_9, gl_10, gl_11, gl_12, gl_13, gl_14, gl_15, gl_16, gl_17, sk0i, sk0r, sk0n, sk1i, sk1r, sk1n, sk_2, sk_3, sk_4, sk_5, sk_6, sk_7, sk_8, sk_9, sk_10, sk_11, sk_12, sk_13, sk_14, sk_15, sk_16, sk_17, ls_0, ls_1, ls_2, ls_3, ls_4, ls_5, ls_6, ls_7, ls_8, ls_9, ls_10, ls_11, ls_12, ls_13, ls_14, ls_15, ls_16, ls_17, ct1_i, ct1_r, wd8_0, wd8_i1, wd8_r1, wd8_i2, wd8_r2, wd8_i3, wd8_r3, wd8_i4, wd8_r4, wd8_i5, wd8_r5, wd8_i6, wd8_r6, wd8_i7, wd8_r7, wd8_i8, wd8_r8, wd8_l2, wd8_l3, wd8_l4, wd8_l5, wd8_l6, wd8_l7, wd8_l8, tl_s, tl_n, inR_t, bd_t, true_and, and_true, true_or, or_true, if_true_x, if_false_x, if_pos, if_neg, Int.toNat_natCast, natL, bI_0, bI_1, bI_ft, eq_self, b_tf, b_ft, not_true_eq_false, not_false_eq_true]
          (rw [e_275_71]; refine ⟨⟨hc.t70, by simp [wd_i, wd_r, wd_l, wd_0]⟩, ?_⟩)
          refine m_235 hc ev5 hw z5 n25 p5 l20 lc k256 e81 e82 an (fun h6 z6 g6 tr => ?_)
          have q6 := fin3 h6 (g05.tr (g6.gy (by omega))) z6
          simp (disch := first | assumption | omega) only [e_275_72, onI_s, onR_s, onL_s, gl_0, gl_n, gl_1, gl_2, gl_3, gl_4, gl_5, gl_6, gl_7, gl_8, gl_9, gl_10, gl_11, gl_12, gl_13, gl_14, gl_15, gl_16, gl_17, sk0i, sk0r, sk0n, sk1i, sk1r, sk1n, sk_2, sk_3, sk_4, sk_5, sk_6, sk_7, sk_8, sk_9, sk_10, sk_11, sk_12, sk_13, sk_14, sk_15, sk_16, sk_17, ls_0, ls_1, ls_2, ls_3, ls_4, ls_5, ls_6, ls_7, ls_8, ls_9, ls_10, ls_11, ls_12, ls_13, ls_14, ls_15, ls_16, ls_17, ct1_i, ct1_r, wd8_0, wd8_i1, wd8_r1, wd8_i2, wd8_r2, wd8_i3, wd8_r3, wd8_i4, wd8_r4, wd8_i5, wd8_r5, wd8_i6, wd8_r6, wd8_i7, wd8_r7, wd8_i8, wd8_r8, wd8_l2, wd8_l3, wd8_l4, wd8_l5, wd8_l6, wd8_l7, wd8_l8, tl_s, tl_n, inR_t, bd_t, true_and, and_true, true_or, or_true, if_true_x, if_false_x, if_pos, if_neg, Int.toNat_natCast, natL, bI_0, bI_1, bI_ft, eq_self, b_tf, b_ft, not_true_eq_false, not_false_eq_true]
          exact hq h6 q6.1 q6.2
      · rw [if_neg (by omega), if_neg (by omega), if_neg (by omega), if_neg (by omega), if_neg (by omega)] at hq
        rw [show swt 0 [73, 48, 53, 58, 61, 69] w = 73 from if_neg (by show ¬ (0 ≤ w ∧ w < 0 + (((6 : Nat) : Int) - 1)); omega)]
        by_cases g5 : 10 ≤ w ∧ w - 10 < (L.length : Int)
        · rw [if_pos g5] at hq
          have ea := R1.at r83 (k := (w - 10).toNat) (by omega)
          have w20 : (w - 10).toNat < 20 := by omega
          have d1 := bT (show 10 ≤ w ∧ w ≤ 9 + (L.length : Int) by omega)
          simp (disch := first | assumption | omega) only [e_275_73, e_275_74, e_275_75, e_275_76, e_275_77, e_275_78, e_275_79, e_275_80, e_275_81, e_275_82, e_275_83, e_275_84, e_275_85, e_275_86, e_275_87, e_275_88, e_275_89, e_275_91, onI_s, onR_s, onL_s, gl_0, gl_n, gl_1, gl_2, gl_3, gl_4, gl_5, gl_6, gl_7, gl_8, gl_9, gl_10, gl_11, gl_12, gl_13, gl_14, gl_15, gl_16, gl_17, sk0i, sk0r, sk0n, sk1i, sk1r, sk1n, sk_2, sk_3, sk_4, sk_5, sk_6, sk_7, sk_8, sk_9, sk_10, sk_11, sk_12, sk_13, sk_14, sk_15, sk_16, sk_17, ls_0, ls_1, ls_2, ls_3, ls_4, ls_5, ls_6, ls_7, ls_8, ls_9, ls_10, ls_11, ls_12, ls_13, ls_14, ls_15, ls_16, ls_17, ct1_i, ct1_r, wd8_0, wd8_i1, wd8_r1, wd8_i2, wd8_r2, wd8_i3, wd8_r3, wd8_i4, wd8_r4, wd8_i5, wd8_r5, wd8_i6, wd8_r6, wd8_i7, wd8_r7, wd8_i8, wd8_r8, wd8_l2, wd8_l3, wd8_l4, wd8_l5, wd8_l6, wd8_l7, wd8_l8, tl_s, tl_n, inR_t, bd_t, true_and, and_true, true_or, or_true, if_true_x, if_false_x, if_pos, if_neg, Int.toNat_natCast, natL, bI_0, bI_1, bI_ft, eq_self, b_tf, b_ft, not_true_eq_false, not_false_eq_true, n20, m_149, inL_t, d1, ea, hc.t70, hc.r70_4, hc.r70_5, hc.r70_6, hc.r70_7, hc.r70_8, hc.r70_10, hc.r70_11, hc.r70_12, hc.r70_14, hc.r70_15, hc.r70_16, hc.r70_17, hc.r70_19, hc.r70_21, hc.r70_23, hc.r70_24, hc.r70_26, hc.r70_27, hc.r70_28, hc.r70_29, hc.r70_30, hc.r70_31, hc.r70_32, hc.r70_33, hc.r70_36, hc.t83, hc.z83]
          exact hq h5 q5.1 q5.2
        · rw [if_neg g5] at hq
          have d1 := bF (show ¬ (10 ≤ w ∧ w ≤ 9 + (L.length : Int)) by omega)
          simp (disch := first | assumption | omega) only [e_275_73, e_275_74, e_275_75, e_275_76, e_275_77, e_275_78, e_275_79, e_275_80, e_275_81, e_275_82, e_275_90, e_275_91, onI_s, onR_s, onL_s, gl_0, gl_n, gl_1, gl_2, gl_3, gl_4, gl_5, gl_6, gl_7, gl_8, gl_9, gl_10, gl_11, gl_12, gl_13, gl_14, gl_15, gl_16, gl_17, sk0i, sk0r, sk0n, sk1i, sk1r, sk1n, sk_2, sk_3, sk_4, sk_5, sk_6, sk_7, sk_8, sk_9, sk_10, sk_11, sk_12, sk_13, sk_14, sk_15, sk_16, sk_17, ls_0, ls_1, ls_2, ls_3, ls_4, ls_5, ls_6, ls_7, ls_8, ls_9, ls_10, ls_11, ls_12, ls_13, ls_14, ls_15, ls_16, ls_17, ct1_i, ct1_r, wd8_0, wd8_i1, wd8_r1, wd8_i2, wd8_r2, wd8_i3, wd8_r3, wd8_i4, wd8_r4, wd8_i5, wd8_r5, wd8_i6, wd8_r6, wd8_i7, wd8_r7, wd8_i8, wd8_r8, wd8_l2, wd8_l3, wd8_l4, wd8_l5, wd8_l6, wd8_l7, wd8_l8, tl_s, tl_n, inR_t, bd_t, true_and, and_true, true_or, or_true, if_true_x, if_false_x, if_pos, if_neg, Int.toNat_natCast, natL, bI_0, bI_1, bI_ft, eq_self, b_tf, b_ft, not_true_eq_false, not_false_eq_true, n20, m_149, inL_t, d1, hc.t70, hc.r70_4, hc.r70_5, hc.r70_6, hc.r70_7, hc.r70_8, hc.r70_10, hc.r70_11, hc.r70_12, hc.r70_14, hc.r70_15, hc.r70_16, hc.r70_17, hc.r70_19, hc.r70_21, hc.r70_23, hc.r70_24, hc.r70_26, hc.r70_27, hc.r70_28, hc.r70_29, hc.r70_30, hc.r70_31, hc.r70_32, hc.r70_33, hc.r70_36, hc.t83, hc.z83]
          exact hq h5 q5.1 q5.2
    · rw [if_neg (fun q => il q.2)] at hq
      rw [if_neg il] at fn
      simp (disch := first | assumption | omega) only [e_275_12, e_275_13, e_275_14, e_275_15, e_275_16, e_275_17, e_275_18, e_275_19, e_275_20, e_275_21, e_275_22, onI_s, onR_s, onL_s, gl_0, gl_n, gl_1, gl_2, gl_3, gl_4, gl_5, gl_6, gl_7, gl_8, gl_9, gl_10, gl_11, gl_12, gl_13, gl_14, gl_15, gl_16, gl_17, sk0i, sk0r, sk0n, sk1i, sk1r, sk1n, sk_2, sk_3, sk_4, sk_5, sk_6, sk_7, sk_8, sk_9, sk_10, sk_11, sk_12, sk_13, sk_14, sk_15, sk_16, sk_17, ls_0, ls_1, ls_2, ls_3, ls_4, ls_5, ls_6, ls_7, ls_8, ls_9, ls_10, ls_11, ls_12, ls_13, ls_14, ls_15, ls_16, ls_17, ct1_i, ct1_r, wd8_0, wd8_i1, wd8_r1, wd8_i2, wd8_r2, wd8_i3, wd8_r3, wd8_i4, wd8_r4, wd8_i5, wd8_r5, wd8_i6, wd8_r6, wd8_i7, wd8_r7, wd8_i8, wd8_r8, wd8_l2, wd8_l3, wd8_l4, wd8_l5, wd8_l6, wd8_l7, wd8_l8, tl_s, tl_n, inR_t, bd_t, true_and, and_true, true_or, or_true, if_true_x, if_false_x, if_pos, if_neg, Int.toNat_natCast, natL, bI_0, bI_1, bI_ft, eq_self, b_tf, b_ft, not_true_eq_false, not_false_eq_true, m_232 hc s2.2.2.1 l256 s2.2.2.2, fn, hc.t70, hc.r70_4, hc.r70_5, hc.r70_6, hc.r70_7, hc.r70_8, hc.r70_10, hc.r70_11, hc.r70_12, hc.r70_14, hc.r70_15, hc.r70_16, hc.r70_17, hc.r70_19, hc.r70_21, hc.r70_23, hc.r70_24, hc.r70_26, hc.r70_27, hc.r70_28, hc.r70_29, hc.r70_30, hc.r70_31, hc.r70_32, hc.r70_33, hc.r70_36]
      have q := fin3 h2 s2.2.1.gy s2.1
      exact hq h2 q.1 q.2
  · have b' : rkB v r f = false := by simpa using b
    rw [if_neg (fun q => b q.1)] at hq
    simp (disch := first | assumption | omega) only [e_275_3, e_275_4, e_275_5, e_275_6, e_275_7, e_275_8, e_275_9, onI_s, onR_s, onL_s, gl_0, gl_n, gl_1, gl_2, gl_3, gl_4, gl_5, gl_6, gl_7, gl_8, gl_9, gl_10, gl_11, gl_12, gl_13, gl_14, gl_15, gl_16, gl_17, sk0i, sk0r, sk0n, sk1i, sk1r, sk1n, sk_2, sk_3, sk_4, sk_5, sk_6, sk_7, sk_8, sk_9, sk_10, sk_11, sk_12, sk_13, sk_14, sk_15, sk_16, sk_17, ls_0, ls_1, ls_2, ls_3, ls_4, ls_5, ls_6, ls_7, ls_8, ls_9, ls_10, ls_11, ls_12, ls_13, ls_14, ls_15, ls_16, ls_17, ct1_i, ct1_r, wd8_0, wd8_i1, wd8_r1, wd8_i2, wd8_r2, wd8_i3, wd8_r3, wd8_i4, wd8_r4, wd8_i5, wd8_r5, wd8_i6, wd8_r6, wd8_i7, wd8_r7, wd8_i8, wd8_r8, wd8_l2, wd8_l3, wd8_l4, wd8_l5, wd8_l6, wd8_l7, wd8_l8, tl_s, tl_n, inR_t, bd_t, true_and, and_true, true_or, or_true, if_true_x, if_false_x, if_pos, if_neg, Int.toNat_natCast, natL, bI_0, bI_1, bI_ft, eq_self, b_tf, b_ft, not_true_eq_false, not_false_eq_true, m_273 hc hwh, ev.symm, b', hc.t70, hc.r70_4, hc.r70_5, hc.r70_6, hc.r70_7, hc.r70_8, hc.r70_10, hc.r70_11, hc.r70_12, hc.r70_14, hc.r70_15, hc.r70_16, hc.r70_17, hc.r70_19, hc.r70_21, hc.r70_23, hc.r70_24, hc.r70_26, hc.r70_27, hc.r70_28, hc.r70_29, hc.r70_30, hc.r70_31, hc.r70_32, hc.r70_33, hc.r70_36]
    have q := fin3 h GY.refl z
    exact hq h q.1 q.2
theorem p_275 {r f i w : Int} (wi : w ≤ 2147483647) (ok : Ok X h) (g : Gd (vm h)) (hq : ∀ h2, Mst X h h2 → mS h2 = mS h → Q (some (vi (spRun (mS h) r f i w))) h2) : Cl X 275 [vr 70, vi r, vi f, vi i, vi w] h Q := by
  obtain ⟨nb, ln, hc, hnb⟩ := ok.2.2.2.2.1
  rw [c_275]
  simp (disch := first | assumption | omega) only [e_275_0, e_275_1, e_275_2, onI_s, onR_s, onL_s, gl_0, gl_n, gl_1, gl_2, gl_3, gl_4, gl_5, gl_6, gl_7, gl_8, gl_9, gl_10, gl_11, gl_12, gl_13, gl_14, gl_15, gl_16, gl_17, sk0i, sk0r, sk0n, sk1i, sk1r, sk1n, sk_2, sk_3, sk_4, sk_5, sk_6, sk_7, sk_8, sk_9, sk_10, sk_11, sk_12, sk_13, sk_14, sk_15, sk_16, sk_17, ls_0, ls_1, ls_2, ls_3, ls_4, ls_5, ls_6, ls_7, ls_8, ls_9, ls_10, ls_11, ls_12, ls_13, ls_14, ls_15, ls_16, ls_17, ct1_i, ct1_r, wd8_0, wd8_i1, wd8_r1, wd8_i2, wd8_r2, wd8_i3, wd8_r3, wd8_i4, wd8_r4, wd8_i5, wd8_r5, wd8_i6, wd8_r6, wd8_i7, wd8_r7, wd8_i8, wd8_r8, wd8_l2, wd8_l3, wd8_l4, wd8_l5, wd8_l6, wd8_l7, wd8_l8, tl_s, tl_n, inR_t, bd_t, true_and, and_true, true_or, or_true, if_true_x, if_false_x, if_pos, if_neg, Int.toNat_natCast, natL, bI_0, bI_1, bI_ft, eq_self, b_tf, b_ft, not_true_eq_false, not_false_eq_true, hc.t70, hc.r70_4, hc.r70_5, hc.r70_6, hc.r70_7, hc.r70_8, hc.r70_10, hc.r70_11, hc.r70_12, hc.r70_14, hc.r70_15, hc.r70_16, hc.r70_17, hc.r70_19, hc.r70_21, hc.r70_23, hc.r70_24, hc.r70_26, hc.r70_27, hc.r70_28, hc.r70_29, hc.r70_30, hc.r70_31, hc.r70_32, hc.r70_33, hc.r70_36]
  exact q_275 wi (thr_ok ok) (by rw [thr_v]; exact g) (thq (a := fun s => spRun s r f i w) ok hq)
end RMP
