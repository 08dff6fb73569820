/-! PACKING in the class: a run is laid out -/
def SJ (u v : Nat → Nat → Int) : Prop := ∀ j, j ≠ 17 → j ≠ 18 → u j = v j
theorem SJ.refl {v : Nat → Nat → Int} : SJ v v := fun _ _ _ => rfl
theorem SJ.gv {u v : Nat → Nat → Int} {c : Nat} {r s : Int} (h : SJ u v) : SJ (gvP u c r s) v := fun j h1 h2 => by
  unfold gvP
  rw [up2_of h2, up2_of h1]
  exact h j h1 h2
theorem SJ.cAt {u v : Nat → Nat → Int} (h : SJ u v) (c s : Nat) : cAt u c s = cAt v c s := by
  unfold _root_.Jvm.Pilot.CCellRowsLaw_law_r4691_e6d42c.cAt
  rw [h 12 (by decide) (by decide), h 15 (by decide) (by decide)]
theorem tb_cg {u v : Nat → Nat → Int} (e12 : u 12 = v 12) (e15 : u 15 = v 15) {a n : Nat} {F : Int} : ∀ (L : List Nat) (s : Nat), tb u a n F L s = tb v a n F L s
  | [], s => rfl
  | c :: L, s => by
    have ih : tb u a n F L = tb v a n F L := funext fun s => tb_cg e12 e15 L s
    have ef : tbF u a n F c (tb u a n F L) = tbF v a n F c (tb v a n F L) := by
      funext s
      rw [ih]
      unfold tbF _root_.Jvm.Pilot.CCellRowsLaw_law_r4691_e6d42c.cAt
      rw [e12, e15]
    rw [tb, tb, ef]
def rgS (r : Int) (s : Int) : Prop := (0 ≤ r ∧ r ≤ 7) ∧ (0 ≤ s ∧ s ≤ 31)
theorem RGv.gv {u : Nat → Nat → Int} {c : Nat} {r s : Int} (w : RGv u) (h : rgS r s) : RGv (gvP u c r s) := by
  obtain ⟨h1, h2⟩ := h
  exact (w.u (by unfold rgP; omega)).u (by unfold rgP; omega)
def GV (b : Nat) (h h2 : xH) : Prop := (∀ a, a ≠ 34 → a < 36 ∨ 56 < a → a ≠ b + 17 → a ≠ b + 18 → h2.1 a = h.1 a) ∧ h2.2 = h.2
theorem GV.refl {b : Nat} {h : xH} : GV b h h := ⟨fun _ _ _ _ _ => rfl, rfl⟩
theorem GV.tr {b : Nat} {h h2 h3 : xH} (g : GV b h h2) (k : GV b h2 h3) : GV b h h3 := ⟨fun a q r s t => (k.1 a q r s t).trans (g.1 a q r s t), k.2.trans g.2⟩
theorem GP.gv {b : Nat} {h h2 : xH} (g : GP h h2) : GV b h h2 := ⟨fun a q r _ _ => g.1 a q r, g.2⟩
theorem PS.gv {b : Nat} (b200 : 200 ≤ b) {h h2 : xH} {v : Nat → Nat → Int} {go : List (Nat × Nat)} (p : PS h v go) (g : GV b h h2) : PS h2 v go := by
  unfold PS
  rw [g.1 9 (by omega) (by omega) (by omega) (by omega), g.1 10 (by omega) (by omega) (by omega) (by omega), g.1 11 (by omega) (by omega) (by omega) (by omega), g.1 12 (by omega) (by omega) (by omega) (by omega), g.1 30 (by omega) (by omega) (by omega) (by omega), g.1 31 (by omega) (by omega) (by omega) (by omega), g.1 32 (by omega) (by omega) (by omega) (by omega), g.1 33 (by omega) (by omega) (by omega) (by omega), g.2]
  exact p
section PKL
variable {X : xL} {Q : Option xV → xH → Prop} {ns nb ln b : Nat} {h : xH}
set_option maxHeartbeats 8000000 in
theorem w_54 (hp : PL X b) (hc : CT X ns nb ln) {u v : Nat → Nat → Int} (ev : cv h b = u) (w : RGv u) (sj : SJ u v) {a n c i many run wn : Nat} {goal : Int} {T : Nat → Int} (c20 : c < 20) (i20 : i < 20) (an : a + n ≤ 32) (hwn : v 12 c = wn) (wn6 : wn ≤ n) (hT : ∀ s, s ≤ n → h.1 (36 + (i + 1)) s = T s) (T0 : ∀ s, 0 ≤ T s ∧ T s ≤ fC) : ∀ (m s : Nat), s + m = n - wn → Ev X 54 76 [some (vr 29), some (vr (b + 11)), some (vi run), some (vi many), some (vi (fdS v a n c T goal m s : Nat)), some (vi i), some (vi c), some (vi wn), some (vi a), some (vi goal), some (vi ((n : Int) - wn))] [] h Q → Ev X 54 52 [some (vr 29), some (vr (b + 11)), some (vi run), some (vi many), some (vi s), some (vi i), some (vi c), some (vi wn), some (vi a), some (vi goal), some (vi ((n : Int) - wn))] [] h Q := by
  have r35' := CT.r35 hc (k := i + 1) (by omega)
  have t36' := CT.tr36 hc (k := i + 1) (by omega)
  have z36' := CT.zr36 hc (k := i + 1) (by omega)
  have wh : RGv (cv h b) := by rw [ev]; exact w
  have ii : ((i : Int) + 1).toNat = i + 1 := by omega
  intro m
  induction m with
  | zero =>
    intro s hm q
    rw [fdS] at q
    rw [e_54_52]
    simp (disch := first | assumption | omega) only [e_54_53, e_54_54, onI_s, onR_s, onL_s, gl_0, gl_n, gl_1, gl_2, gl_3, gl_4, gl_5, gl_6, gl_7, gl_8, gl_9, gl_10, gl_11, gl_12, gl_13, gl_14, gl_15, gl_16, gl_17, sk0i, sk0r, sk0n, sk1i, sk1r, sk1n, sk_2, sk_3, sk_4, sk_5, sk_6, sk_7, sk_8, sk_9, sk_10, sk_11, sk_12, sk_13, sk_14, sk_15, sk_16, sk_17, ls_0, ls_1, ls_2, ls_3, ls_4, ls_5, ls_6, ls_7, ls_8, ls_9, ls_10, ls_11, ls_12, ls_13, ls_14, ls_15, ls_16, ls_17, ct1_i, ct1_r, wd8_0, wd8_i1, wd8_r1, wd8_i2, wd8_r2, wd8_i3, wd8_r3, wd8_i4, wd8_r4, wd8_i5, wd8_r5, wd8_i6, wd8_r6, wd8_i7, wd8_r7, wd8_i8, wd8_r8, wd8_l2, wd8_l3, wd8_l4, wd8_l5, wd8_l6, wd8_l7, wd8_l8, tl_s, tl_n, inR_t, bd_t, true_and, and_true, true_or, or_true, if_true_x, if_false_x, if_pos, if_neg, Int.toNat_natCast, natL, bI_0, bI_1, bI_ft, eq_self, b_tf, b_ft, not_true_eq_false, not_false_eq_true]
    exact q
  | succ m ih =>
    intro s hm q
    have as : (a : Int) + (s : Int) = ((a + s : Nat) : Int) := rfl
    have sw : (s : Int) + (wn : Int) = ((s + wn : Nat) : Int) := rfl
    have ce : cAt u c (a + s) = cAt v c (a + s) := sj.cAt c (a + s)
    have cb := cAt_bd w (c := c) (s := a + s) (by omega)
    rw [ce] at cb
    have tv := hT (s + wn) (by omega)
    have t0 := T0 (s + wn)
    rw [show fC = 268435456 from rfl] at t0
    rw [fdS] at q
    rw [e_54_52]
    by_cases e : cAt v c (a + s) + T (s + wn) = goal
    · rw [if_pos ⟨by omega, by rw [hwn, Int.toNat_natCast]; exact e⟩] at q
      simp (disch := first | assumption | omega) only [e_54_53, e_54_54, e_54_55, e_54_56, e_54_57, e_54_58, e_54_59, e_54_60, e_54_61, e_54_62, e_54_63, e_54_64, e_54_65, e_54_66, e_54_67, e_54_68, e_54_69, e_54_70, e_54_71, e_54_72, e_54_73, onI_s, onR_s, onL_s, gl_0, gl_n, gl_1, gl_2, gl_3, gl_4, gl_5, gl_6, gl_7, gl_8, gl_9, gl_10, gl_11, gl_12, gl_13, gl_14, gl_15, gl_16, gl_17, sk0i, sk0r, sk0n, sk1i, sk1r, sk1n, sk_2, sk_3, sk_4, sk_5, sk_6, sk_7, sk_8, sk_9, sk_10, sk_11, sk_12, sk_13, sk_14, sk_15, sk_16, sk_17, ls_0, ls_1, ls_2, ls_3, ls_4, ls_5, ls_6, ls_7, ls_8, ls_9, ls_10, ls_11, ls_12, ls_13, ls_14, ls_15, ls_16, ls_17, ct1_i, ct1_r, wd8_0, wd8_i1, wd8_r1, wd8_i2, wd8_r2, wd8_i3, wd8_r3, wd8_i4, wd8_r4, wd8_i5, wd8_r5, wd8_i6, wd8_r6, wd8_i7, wd8_r7, wd8_i8, wd8_r8, wd8_l2, wd8_l3, wd8_l4, wd8_l5, wd8_l6, wd8_l7, wd8_l8, tl_s, tl_n, inR_t, bd_t, true_and, and_true, true_or, or_true, if_true_x, if_false_x, if_pos, if_neg, Int.toNat_natCast, natL, bI_0, bI_1, bI_ft, eq_self, b_tf, b_ft, not_true_eq_false, not_false_eq_true, m_49 hp wh c20, as, sw, ev, ce, ii, r35', t36', z36', tv, e, hc.t29, hc.r29_0, hc.r29_1, hc.r29_2, hc.r29_4, hc.r29_5, hc.r29_6, hc.r29_7, hc.r29_8, hc.t35, hc.z35]
      exact q
    · rw [if_neg (fun z => e (by have := z.2; rw [hwn, Int.toNat_natCast] at this; exact this))] at q
      simp (disch := first | assumption | omega) only [e_54_53, e_54_54, e_54_55, e_54_56, e_54_57, e_54_58, e_54_59, e_54_60, e_54_61, e_54_62, e_54_63, e_54_64, e_54_65, e_54_66, e_54_67, e_54_68, e_54_69, e_54_70, e_54_71, e_54_72, e_54_73, e_54_74, e_54_75, onI_s, onR_s, onL_s, gl_0, gl_n, gl_1, gl_2, gl_3, gl_4, gl_5, gl_6, gl_7, gl_8, gl_9, gl_10, gl_11, gl_12, gl_13, gl_14, gl_15, gl_16, gl_17, sk0i, sk0r, sk0n, sk1i, sk1r, sk1n, sk_2, sk_3, sk_4, sk_5, sk_6, sk_7, sk_8, sk_9, sk_10, sk_11, sk_12, sk_13, sk_14, sk_15, sk_16, sk_17, ls_0, ls_1, ls_2, ls_3, ls_4, ls_5, ls_6, ls_7, ls_8, ls_9, ls_10, ls_11, ls_12, ls_13, ls_14, ls_15, ls_16, ls_17, ct1_i, ct1_r, wd8_0, wd8_i1, wd8_r1, wd8_i2, wd8_r2, wd8_i3, wd8_r3, wd8_i4, wd8_r4, wd8_i5, wd8_r5, wd8_i6, wd8_r6, wd8_i7, wd8_r7, wd8_i8, wd8_r8, wd8_l2, wd8_l3, wd8_l4, wd8_l5, wd8_l6, wd8_l7, wd8_l8, tl_s, tl_n, inR_t, bd_t, true_and, and_true, true_or, or_true, if_true_x, if_false_x, if_pos, if_neg, Int.toNat_natCast, natL, bI_0, bI_1, bI_ft, eq_self, b_tf, b_ft, not_true_eq_false, not_false_eq_true, m_49 hp wh c20, as, sw, ev, ce, ii, r35', t36', z36', tv, e, cast_s, hc.t29, hc.r29_0, hc.r29_1, hc.r29_2, hc.r29_4, hc.r29_5, hc.r29_6, hc.r29_7, hc.r29_8, hc.t35, hc.z35]
      exact ih (s + 1) (by omega) q
set_option maxHeartbeats 16000000 in
theorem l_54 (hp : PL X b) (b200 : 200 ≤ b) (hc : CT X ns nb ln) {v : Nat → Nat → Int} (wv : RGv v) {h0 : xH} {L : List Nat} {run r a n : Nat} (hi : run < ns) (ns256 : ns ≤ 256) (r8 : r < 8) (h9 : h0.1 9 run = r) (h11 : h0.1 11 run = a) (h12 : h0.1 12 run = n) (an : a + n ≤ 32) (L20 : L.length ≤ 20) (cL : ∀ c, c ∈ L → c < 20) (wL : ∀ c, c ∈ L → 1 ≤ v 12 c) (h34 : R1 (h0.1 34) L) (tr : TR h0 v a n fC L 0) : ∀ (M : List Nat) (i s : Nat) (u : Nat → Nat → Int) (h : xH) (x6 x7 x8 x9 x10 : Option xV), L.drop i = M → i + M.length = L.length → s ≤ n → tb v a n fRp M s < 90000 → NZ X h → cv h b = u → SJ u v → RGv u → (∀ k, k ≠ b + 17 → k ≠ b + 18 → h.1 k = h0.1 k) → h.2 = h0.2 → (∀ h2, NZ X h2 → cv h2 b = plR v r a n M s u → (∀ k, k ≠ b + 17 → k ≠ b + 18 → h2.1 k = h0.1 k) → h2.2 = h0.2 → SJ (plR v r a n M s u) v → RGv (plR v r a n M s u) → Q none h2) → Ev X 54 18 [some (vr 29), some (vr (b + 11)), some (vi run), some (vi L.length), some (vi s), some (vi i), x6, x7, x8, x9, x10] [] h Q := by
  intro M
  induction M with
  | nil =>
    intro i s u h x6 x7 x8 x9 x10 hd hk hs hf z ev sj w g1 g2 hq
    simp at hk
    rw [e_54_18]
    simp (disch := first | assumption | omega) only [e_54_19, e_54_20, e_54_93, onI_s, onR_s, onL_s, gl_0, gl_n, gl_1, gl_2, gl_3, gl_4, gl_5, gl_6, gl_7, gl_8, gl_9, gl_10, gl_11, gl_12, gl_13, gl_14, gl_15, gl_16, gl_17, sk0i, sk0r, sk0n, sk1i, sk1r, sk1n, sk_2, sk_3, sk_4, sk_5, sk_6, sk_7, sk_8, sk_9, sk_10, sk_11, sk_12, sk_13, sk_14, sk_15, sk_16, sk_17, ls_0, ls_1, ls_2, ls_3, ls_4, ls_5, ls_6, ls_7, ls_8, ls_9, ls_10, ls_11, ls_12, ls_13, ls_14, ls_15, ls_16, ls_17, ct1_i, ct1_r, wd8_0, wd8_i1, wd8_r1, wd8_i2, wd8_r2, wd8_i3, wd8_r3, wd8_i4, wd8_r4, wd8_i5, wd8_r5, wd8_i6, wd8_r6, wd8_i7, wd8_r7, wd8_i8, wd8_r8, wd8_l2, wd8_l3, wd8_l4, wd8_l5, wd8_l6, wd8_l7, wd8_l8, tl_s, tl_n, inR_t, bd_t, true_and, and_true, true_or, or_true, if_true_x, if_false_x, if_pos, if_neg, Int.toNat_natCast, natL, bI_0, bI_1, bI_ft, eq_self, b_tf, b_ft, not_true_eq_false, not_false_eq_true]
    exact hq h z ev g1 g2 sj w
  | cons c M ih =>
    intro i s u h x6 x7 x8 x9 x10 hd hk hs hf z ev sj w g1 g2 hq
    rw [List.length_cons] at hk
    have hx : L[i]? = some c := by
      have := List.getElem?_drop (xs := L) (i := i) (j := 0)
      rw [hd] at this
      simpa using this.symm
    have hd2 : L.drop (i + 1) = M := by
      rw [← List.drop_drop, hd]
      rfl
    have cm := List.mem_of_getElem? hx
    have c20 := cL c cm
    have c1 := wL c cm
    have wc := wv.wid c
    obtain ⟨wn, hwn⟩ : ∃ wn : Nat, v 12 c = wn := ⟨(v 12 c).toNat, by omega⟩
    have po := plS_ok wv an hs hf
    have pc := plS_C wv an (c := c) (L := M) (s := s) (by omega) hf
    have e34 : h.1 34 i = c := by rw [g1 34 (by omega) (by omega)]; exact h34 i c hx
    have e12 : h.1 (b + 12) c = wn := by rw [g1 (b + 12) (by omega) (by omega)] <;> rw [← hwn, ← sj 12 (by decide) (by decide), ← ev] <;> exact (g1 (b + 12) (by omega) (by omega) ▸ rfl)
    have e11 : h.1 11 run = a := by rw [g1 11 (by omega) (by omega)]; exact h11
    have eN : h.1 12 run = n := by rw [g1 12 (by omega) (by omega)]; exact h12
    have e9 : h.1 9 run = r := by rw [g1 9 (by omega) (by omega)]; exact h9
    have r35 := CT.r35 hc (k := i) (by omega)
    have t36 := CT.tr36 hc (k := i) (by omega)
    have z36 := CT.zr36 hc (k := i) (by omega)
    have gl : h.1 (36 + i) s = tb v a n fC (c :: M) s := by
      rw [g1 (36 + i) (by omega) (by omega), tr i (by omega) (by omega) s hs, hd]
    rw [e_54_18]
    simp (disch := first | assumption | omega) only [e_54_19, e_54_20, e_54_21, e_54_22, e_54_23, e_54_24, e_54_25, e_54_26, e_54_27, e_54_28, e_54_29, e_54_30, e_54_31, e_54_32, e_54_33, e_54_34, e_54_35, e_54_36, e_54_37, e_54_38, e_54_39, e_54_40, e_54_41, e_54_42, e_54_43, e_54_44, e_54_45, e_54_46, e_54_47, e_54_48, e_54_49, e_54_50, e_54_51, onI_s, onR_s, onL_s, gl_0, gl_n, gl_1, gl_2, gl_3, gl_4, gl_5, gl_6, gl_7, gl_8, gl_9, gl_10, gl_11, gl_12, gl_13, gl_14, gl_15, gl_16, gl_17, sk0i, sk0r, sk0n, sk1i, sk1r, sk1n, sk_2, sk_3, sk_4, sk_5, sk_6, sk_7, sk_8, sk_9, sk_10, sk_11, sk_12, sk_13, sk_14, sk_15, sk_16, sk_17, ls_0, ls_1, ls_2, ls_3, ls_4, ls_5, ls_6, ls_7, ls_8, ls_9, ls_10, ls_11, ls_12, ls_13, ls_14, ls_15, ls_16, ls_17, ct1_i, ct1_r, wd8_0, wd8_i1, wd8_r1, wd8_i2, wd8_r2, wd8_i3, wd8_r3, wd8_i4, wd8_r4, wd8_i5, wd8_r5, wd8_i6, wd8_r6, wd8_i7, wd8_r7, wd8_i8, wd8_r8, wd8_l2, wd8_l3, wd8_l4, wd8_l5, wd8_l6, wd8_l7, wd8_l8, tl_s, tl_n, inR_t, bd_t, true_and, and_true, true_or, or_true, if_true_x, if_false_x, if_pos, if_neg, Int.toNat_natCast, natL, bI_0, bI_1, bI_ft, eq_self, b_tf, b_ft, not_true_eq_false, not_false_eq_true, e34, e12, e11, eN, r35, t36, z36, gl, hc.t7, hc.r7_2, hc.r7_4, hc.r7_5, hc.r7_6, hc.r7_7, hc.r7_8, hc.t11, hc.z11, hc.t12, hc.z12, hc.t29, hc.r29_0, hc.r29_1, hc.r29_2, hc.r29_4, hc.r29_5, hc.r29_6, hc.r29_7, hc.r29_8, hc.t34, hc.z34, hc.t35, hc.z35, hp.t0, hp.t1, hp.t2, hp.t3, hp.t4, hp.t5, hp.t6, hp.t7, hp.t8, hp.t9, hp.t10, hp.t11, hp.t12, hp.t13, hp.t14, hp.t15, hp.t16, hp.t17, hp.t18, hp.t19, hp.t20, hp.t21, hp.t22, hp.t23, hp.z2, hp.z3, hp.z4, hp.z5, hp.z7, hp.z8, hp.z9, hp.z10, hp.z12, hp.z13, hp.z14, hp.z15, hp.z16, hp.z17, hp.z18, hp.z20, hp.z21, hp.z22, hp.z23, hp.r0_2, hp.r0_3, hp.r0_4, hp.r0_5, hp.r1_1, hp.r1_2, hp.r1_3, hp.r1_4, hp.r6_1, hp.r6_2, hp.r6_3, hp.r6_4, hp.r11_1, hp.r11_2, hp.r11_3, hp.r11_4, hp.r11_5, hp.r11_6, hp.r11_7, hp.r19_1, hp.r19_2, hp.r19_3, hp.r19_4]
    refine w_54 (v := v) (u := u) (T := tb v a n fC M) hp hc ev w sj c20 (by omega) an hwn (by omega) (fun t ht => by rw [g1 (36 + (i + 1)) (by omega) (by omega), tr (i + 1) (by omega) (by omega) t ht, hd2]) (fun t => ⟨tb_ge wv an (by decide) _ _, tb_le _ _ (by decide)⟩) (n - wn - s) s (by omega) ?_
    rw [hwn, Int.toNat_natCast] at pc
    rw [pc]
    obtain ⟨s1, es1⟩ : ∃ s1, s1 = plS v a n c M s := ⟨_, rfl⟩
    rw [plR, hwn, Int.toNat_natCast, ← es1] at hq
    rw [← es1, hwn] at po
    rw [← es1]
    have as : (a : Int) + (s1 : Int) = ((a + s1 : Nat) : Int) := rfl
    have sw : (s1 : Int) + (wn : Int) = ((s1 + wn : Nat) : Int) := rfl
    rw [e_54_76]
    simp (disch := first | assumption | omega) only [e_54_77, e_54_78, e_54_79, e_54_80, e_54_81, e_54_82, e_54_83, e_54_84, e_54_85, e_54_86, e_54_87, e_54_88, e_54_89, e_54_90, e_54_91, e_54_92, onI_s, onR_s, onL_s, gl_0, gl_n, gl_1, gl_2, gl_3, gl_4, gl_5, gl_6, gl_7, gl_8, gl_9, gl_10, gl_11, gl_12, gl_13, gl_14, gl_15, gl_16, gl_17, sk0i, sk0r, sk0n, sk1i, sk1r, sk1n, sk_2, sk_3, sk_4, sk_5, sk_6, sk_7, sk_8, sk_9, sk_10, sk_11, sk_12, sk_13, sk_14, sk_15, sk_16, sk_17, ls_0, ls_1, ls_2, ls_3, ls_4, ls_5, ls_6, ls_7, ls_8, ls_9, ls_10, ls_11, ls_12, ls_13, ls_14, ls_15, ls_16, ls_17, ct1_i, ct1_r, wd8_0, wd8_i1, wd8_r1, wd8_i2, wd8_r2, wd8_i3, wd8_r3, wd8_i4, wd8_r4, wd8_i5, wd8_r5, wd8_i6, wd8_r6, wd8_i7, wd8_r7, wd8_i8, wd8_r8, wd8_l2, wd8_l3, wd8_l4, wd8_l5, wd8_l6, wd8_l7, wd8_l8, tl_s, tl_n, inR_t, bd_t, true_and, and_true, true_or, or_true, if_true_x, if_false_x, if_pos, if_neg, Int.toNat_natCast, natL, bI_0, bI_1, bI_ft, eq_self, b_tf, b_ft, not_true_eq_false, not_false_eq_true, e9, as, m_20 hp, Int.toNat_natCast, sw, cast_s, hp.t11, hc.t7, hc.r7_2, hc.r7_4, hc.r7_5, hc.r7_6, hc.r7_7, hc.r7_8, hc.t9, hc.z9, hc.t29, hc.r29_0, hc.r29_1, hc.r29_2, hc.r29_4, hc.r29_5, hc.r29_6, hc.r29_7, hc.r29_8]
    obtain ⟨h3, e3⟩ : ∃ h3 : xH, h3 = (up2 (up2 h.1 (b + 17) c r) (b + 18) c ((a + s1 : Nat) : Int), h.2) := ⟨_, rfl⟩
    rw [← e3]
    have z17 : X.2.1 (b + 17) = 20 := hp.z17
    have z18 : X.2.1 (b + 18) = 20 := hp.z18
    have cv3 : cv h3 b = gvP u c r ((a + s1 : Nat) : Int) := by
      rw [e3, cv_u (by omega) (by omega), cv_u (by omega) (by omega)]
      unfold gvP
      rw [← ev]
    refine ih (i + 1) (s1 + wn) _ h3 _ _ _ _ _ hd2 (by omega) (by omega) (by have := po.2.2.1; rw [Int.toNat_natCast] at this; exact this) (by rw [e3]; exact NZ.up (F := h.2) (NZ.up (I := h.1) (F := h.2) z (by rw [z17]; omega)) (by rw [z18]; omega)) cv3 sj.gv (w.gv ⟨by omega, by omega⟩) (fun k q1 q2 => by rw [e3]; dsimp only; rw [up2_of q2, up2_of q1]; exact g1 k q1 q2) (by rw [e3]; exact g2) hq
set_option maxHeartbeats 8000000 in
theorem m_54 (hp : PL X b) (b200 : 200 ≤ b) (hc : CT X ns nb ln) {u v : Nat → Nat → Int} (wv : RGv v) {h0 : xH} {go : List (Nat × Nat)} (g20 : go.length ≤ 20) (ft : FT v go) (gN : ∀ x, x ∈ go → 1 ≤ v 12 x.1) {run : Nat} {x : Rn} (hx : (rnL v)[run]? = some x) (hi : run < ns) (ns256 : ns ≤ 256) (ps : PS h0 v go) (n3 : h0.2 29 3 = go.length) (z : NZ X h0) (ev : cv h0 b = u) (sj : SJ u v) (w : RGv u) (hq : ∀ h2, NZ X h2 → cv h2 b = plR v x.1 x.2.2.1 x.2.2.2 (smK go run) 0 u → GV b h0 h2 → SJ (plR v x.1 x.2.2.1 x.2.2.2 (smK go run) 0 u) v → RGv (plR v x.1 x.2.2.1 x.2.2.2 (smK go run) 0 u) → Q none h2) : Cl X 54 [vr 29, vr (b + 11), vi run] h0 Q := by
  have xm := List.mem_of_getElem? hx
  obtain ⟨_, an⟩ := rnL_ok wv x xm
  have r8 : x.1 < 8 := by
    have := (rnL_gd xm).1
    have := wv.rows
    omega
  obtain ⟨y1, y2, y3, y4⟩ := ps.2.1 run x hx
  have fx := ft run x hx
  have sl := smK_len (go := go) (k := run)
  have s20 := smK_20 (k := run) ps.2.2.1
  rw [c_54]
  simp (disch := first | assumption | omega) only [e_54_0, e_54_1, e_54_2, e_54_3, onI_s, onR_s, onL_s, gl_0, gl_n, gl_1, gl_2, gl_3, gl_4, gl_5, gl_6, gl_7, gl_8, gl_9, gl_10, gl_11, gl_12, gl_13, gl_14, gl_15, gl_16, gl_17, sk0i, sk0r, sk0n, sk1i, sk1r, sk1n, sk_2, sk_3, sk_4, sk_5, sk_6, sk_7, sk_8, sk_9, sk_10, sk_11, sk_12, sk_13, sk_14, sk_15, sk_16, sk_17, ls_0, ls_1, ls_2, ls_3, ls_4, ls_5, ls_6, ls_7, ls_8, ls_9, ls_10, ls_11, ls_12, ls_13, ls_14, ls_15, ls_16, ls_17, ct1_i, ct1_r, wd8_0, wd8_i1, wd8_r1, wd8_i2, wd8_r2, wd8_i3, wd8_r3, wd8_i4, wd8_r4, wd8_i5, wd8_r5, wd8_i6, wd8_r6, wd8_i7, wd8_r7, wd8_i8, wd8_r8, wd8_l2, wd8_l3, wd8_l4, wd8_l5, wd8_l6, wd8_l7, wd8_l8, tl_s, tl_n, inR_t, bd_t, true_and, and_true, true_or, or_true, if_true_x, if_false_x, if_pos, if_neg, Int.toNat_natCast, natL, bI_0, bI_1, bI_ft, eq_self, b_tf, b_ft, not_true_eq_false, not_false_eq_true, n3, hc.t29, hc.r29_0, hc.r29_1, hc.r29_2, hc.r29_4, hc.r29_5, hc.r29_6, hc.r29_7, hc.r29_8]
  (rw [e_54_4]; refine ⟨⟨hc.t29, by simp [wd_i, wd_r, wd_l, wd_0]⟩, ?_⟩)
  refine m_52 hc g20 ps.2.2.1 z (fun h1 z1 g1 r1 => ?_)
  have cv1 : cv h1 b = u := (g1.gp.cv b200).trans ev
  have q3 : h1.1 11 run = x.2.2.1 := by rw [g1.1 11 (by omega)]; exact y3
  have q4 : h1.1 12 run = x.2.2.2 := by rw [g1.1 12 (by omega)]; exact y4
  simp (disch := first | assumption | omega) only [e_54_5, e_54_6, e_54_7, e_54_8, e_54_9, e_54_10, e_54_11, onI_s, onR_s, onL_s, gl_0, gl_n, gl_1, gl_2, gl_3, gl_4, gl_5, gl_6, gl_7, gl_8, gl_9, gl_10, gl_11, gl_12, gl_13, gl_14, gl_15, gl_16, gl_17, sk0i, sk0r, sk0n, sk1i, sk1r, sk1n, sk_2, sk_3, sk_4, sk_5, sk_6, sk_7, sk_8, sk_9, sk_10, sk_11, sk_12, sk_13, sk_14, sk_15, sk_16, sk_17, ls_0, ls_1, ls_2, ls_3, ls_4, ls_5, ls_6, ls_7, ls_8, ls_9, ls_10, ls_11, ls_12, ls_13, ls_14, ls_15, ls_16, ls_17, ct1_i, ct1_r, wd8_0, wd8_i1, wd8_r1, wd8_i2, wd8_r2, wd8_i3, wd8_r3, wd8_i4, wd8_r4, wd8_i5, wd8_r5, wd8_i6, wd8_r6, wd8_i7, wd8_r7, wd8_i8, wd8_r8, wd8_l2, wd8_l3, wd8_l4, wd8_l5, wd8_l6, wd8_l7, wd8_l8, tl_s, tl_n, inR_t, bd_t, true_and, and_true, true_or, or_true, if_true_x, if_false_x, if_pos, if_neg, Int.toNat_natCast, natL, bI_0, bI_1, bI_ft, eq_self, b_tf, b_ft, not_true_eq_false, not_false_eq_true, hc.t29, hc.r29_0, hc.r29_1, hc.r29_2, hc.r29_4, hc.r29_5, hc.r29_6, hc.r29_7, hc.r29_8]
  (rw [e_54_12]; refine ⟨⟨hc.t29, by simp [wd_i, wd_r, wd_l, wd_0]⟩, ?_⟩)
  refine m_48 hp b200 hc cv1 w z1 hc.t34 hc.z34 (by omega) r1 (by omega) (by omega) s20 hi ns256 q3 q4 an (fun h2 z2 g2 tr => ?_)
  have g02 : GP h0 h2 := g1.gp.tr g2.gp
  have cv2 : cv h2 b = u := (g02.cv b200).trans ev
  have trv : TR h2 v x.2.2.1 x.2.2.2 fC (smK go run) 0 := fun j h1 h2 s hs => by
    rw [tr j h1 h2 s hs]
    exact tb_cg (sj 12 (by decide) (by decide)) (sj 15 (by decide) (by decide)) _ _
  have ff := tb_fit (F := fRp) wv an (by decide) (smK go run) 0 (by omega) (by omega)
  simp (disch := first | assumption | omega) only [e_54_13, e_54_14, e_54_15, e_54_16, e_54_17, onI_s, onR_s, onL_s, gl_0, gl_n, gl_1, gl_2, gl_3, gl_4, gl_5, gl_6, gl_7, gl_8, gl_9, gl_10, gl_11, gl_12, gl_13, gl_14, gl_15, gl_16, gl_17, sk0i, sk0r, sk0n, sk1i, sk1r, sk1n, sk_2, sk_3, sk_4, sk_5, sk_6, sk_7, sk_8, sk_9, sk_10, sk_11, sk_12, sk_13, sk_14, sk_15, sk_16, sk_17, ls_0, ls_1, ls_2, ls_3, ls_4, ls_5, ls_6, ls_7, ls_8, ls_9, ls_10, ls_11, ls_12, ls_13, ls_14, ls_15, ls_16, ls_17, ct1_i, ct1_r, wd8_0, wd8_i1, wd8_r1, wd8_i2, wd8_r2, wd8_i3, wd8_r3, wd8_i4, wd8_r4, wd8_i5, wd8_r5, wd8_i6, wd8_r6, wd8_i7, wd8_r7, wd8_i8, wd8_r8, wd8_l2, wd8_l3, wd8_l4, wd8_l5, wd8_l6, wd8_l7, wd8_l8, tl_s, tl_n, inR_t, bd_t, true_and, and_true, true_or, or_true, if_true_x, if_false_x, if_pos, if_neg, Int.toNat_natCast, natL, bI_0, bI_1, bI_ft, eq_self, b_tf, b_ft, not_true_eq_false, not_false_eq_true]
  exact l_54 hp b200 hc wv hi ns256 r8 (by rw [g02.1 9 (by omega) (by omega)]; exact y1) (by rw [g02.1 11 (by omega) (by omega)]; exact y3) (by rw [g02.1 12 (by omega) (by omega)]; exact y4) an (by omega) s20 (fun c hc => gN _ (smK_mem hc)) (by rw [g2.1 34 (by omega)]; exact r1) trv (smK go run) 0 0 u h2 _ _ _ _ _ (by simp) (by omega) (by omega) (by omega) z2 cv2 sj w (fun _ _ _ => rfl) rfl (fun h3 z3 ev3 o3 f3 sj3 w3 => hq h3 z3 ev3 (g02.gv.tr ⟨fun a _ _ t1 t2 => o3 a t1 t2, f3⟩) sj3 w3)
end PKL
