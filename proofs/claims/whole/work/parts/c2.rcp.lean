/-! RUN: the call of the class -/
def lyO (v : Nat → Nat → Int) (r : Nat) (x : Nat × Nat) : List Nat := lyL v r x.2 x.1
def spRun (s : AS) (r f i w : Int) : Int := if rkB s.1 r f = true ∧ 0 ≤ i ∧ i < ((rnR s.1 r.toNat f).length : Int) then (match (rnR s.1 r.toNat f)[i.toNat]? with
    | none => -1
    | some x => if w = 0 then (x.1 : Int) else if w = 1 then (x.2 : Int) else if w = 2 then ((lyO s.1 r.toNat x).length : Int) else if w = 3 then (x.2 : Int) - sW s.1 (lyO s.1 r.toNat x) else if w = 4 then tb s.1 x.1 x.2 fRp (lyO s.1 r.toNat x) 0 else if 10 ≤ w ∧ w - 10 < ((lyO s.1 r.toNat x).length : Int) then (((lyO s.1 r.toNat x).getD (w - 10).toNat 0 : Nat) : Int) else -1) else -1
theorem ly_c20 {v : Nat → Nat → Int} (g : GEO v) (w : RGv v) {r a n : Nat} : ∀ c, c ∈ lyL v r n a → c < 20 := fun c hc => by
  have := (ly_mem g n a).mp hc
  have := w.nC
  omega
theorem R1.at {A : Nat → Int} {L : List Nat} (h : R1 A L) {k : Nat} (hk : k < L.length) : A k = ((L.getD k 0 : Nat) : Int) := by
  have := h k L[k] (by rw [List.getElem?_eq_getElem hk])
  rw [this]
  simp [hk]
section RCP
variable {X : xL} {Q : Option xV → xH → Prop} {ns nb ln : Nat} {h : xH}
theorem G1.ga {k : Nat} {h2 h3 : xH} (a : SA X h h2 [] ∨ GA h h2) (g : G1 k h2 h3) (hk : 8 ≤ k ∧ k ≤ 13) : (∀ a, a < 8 ∨ 13 < a → h3.1 a = h.1 a) ∧ (∀ a k, ¬ (a = 7 ∧ k = 3) → h3.2 a k = h.2 a k) := by
  have a : GA h h2 := a.elim (fun s => s.2.1) id
  exact ⟨fun j q => (g.1 j (by omega)).trans (a.1 j (by omega)), fun j k q => by rw [g.2]; exact a.2 j k q⟩
/-- rows and fields of the class's scratch alone -/
def GZ (h h2 : xH) : Prop := (∀ a, a < 8 ∨ (13 < a ∧ a < 30) ∨ 56 < a → h2.1 a = h.1 a) ∧ (∀ a k, ¬ (a = 7 ∧ k = 3) ∧ ¬ (a = 29 ∧ k = 3) → h2.2 a k = h.2 a k)
theorem GZ.cv {h2 : xH} {b : Nat} (g : GZ h h2) (hb : 200 ≤ b) : cv h2 b = cv h b := cv_congr (fun j q1 q2 => ⟨g.1 j (by omega), funext fun k => g.2 j k (by omega)⟩)
theorem GZ.fz {h2 : xH} (g : GZ h h2) (z : NZ X h2) : Fz X h h2 := ⟨z, fun a q => ⟨g.1 a (by omega), funext fun k => g.2 a k (by omega)⟩, ⟨g.2 7 0 (by decide), g.2 7 1 (by decide), g.2 22 0 (by decide), g.2 22 1 (by decide)⟩, fun p hp => ⟨fun i => g.2 _ _ (by omega), fun j hj i hi => g.2 _ _ (by omega)⟩⟩
theorem GZ.tr {h2 h3 : xH} (g : GZ h h2) (k : GZ h2 h3) : GZ h h3 := ⟨fun a q => (k.1 a q).trans (g.1 a q), fun a j q => (k.2 a j q).trans (g.2 a j q)⟩
theorem GZ.refl : GZ h h := ⟨fun _ _ => rfl, fun _ _ _ => rfl⟩
theorem GA.gz {h2 : xH} (g : GA h h2) : GZ h h2 := ⟨fun a q => g.1 a (by omega), fun a k q => g.2 a k q.1⟩
theorem G1.gz {h2 : xH} (g : G1 13 h h2) : GZ h h2 := ⟨fun a q => g.1 a (by omega), fun a k q => by rw [g.2]⟩
theorem GT.gz {h2 : xH} (g : GT h h2) : GZ h h2 := ⟨fun a q => g.1 a (by omega), fun a k q => by rw [g.2]⟩
set_option maxHeartbeats 8000000 in
theorem p_131 {r f i w : Int} (wi : w ≤ 2147483647) (ok : Ok X h) (g : Gd (cv h 200)) (hq : ∀ h2, Cst X h h2 → cS h2 = cS h → Q (some (vi (spRun (cS h) r f i w))) h2) : Cl X 131 [vr 0, vi r, vi f, vi i, vi w] h Q := by
  have ok0 := ok
  obtain ⟨z, os, oc, om, ⟨nb, ln, hc, hnb⟩, lp⟩ := ok
  have hp : PL X 200 := lp 0 (by decide)
  have hw := g.rg
  have fin3 : ∀ h3, Fz X h h3 → cv h3 200 = cv h 200 → Cst X h h3 ∧ cS h3 = cS h := fun h3 f e => ⟨f.cst ok0, by rw [f.cs, e]; rfl⟩
  have fin4 : ∀ h3, NZ X h3 → GZ h h3 → Cst X h h3 ∧ cS h3 = cS h := fun h3 z3 g3 => fin3 h3 (g3.fz z3) (g3.cv (by omega))
  have q0 := fin3 h (Fz.refl z) rfl
  have geo := g.geo
  obtain ⟨v, ev⟩ : ∃ v, v = cv h 200 := ⟨_, rfl⟩
  unfold spRun at hq
  rw [show (cS h).1 = cv h 200 from rfl, ← ev] at hq
  rw [← ev] at hw geo
  have ws := hw.sites
  have wr := hw.rows
  have ns256 : (h.2 200 0 * h.2 200 1).toNat ≤ 256 := by
    have e0 : h.2 200 0 = v 0 0 := by rw [ev]; rfl
    have e1 : h.2 200 1 = v 0 1 := by rw [ev]; rfl
    have := mul_bd (a := v 0 0) (b := v 0 1) (A := 8) (B := 32) (by omega) (by omega) (by omega) (by omega)
    rw [e0, e1]
    omega
  rw [c_131]
  by_cases i0 : i < 0
  · rw [if_neg (by omega)] at hq
    simp (disch := first | assumption | omega) only [e_131_0, e_131_1, e_131_8, e_131_9, onI_s, onR_s, onL_s, gl_0, gl_n, gl_1, gl_2, gl_3, gl_4, gl_5, gl_6, gl_7, gl_8, gl_9, gl_10, gl_11, gl_12, gl_13, gl_14, gl_15, gl_16, gl_17, sk0i, sk0r, sk0n, sk1i, sk1r, sk1n, sk_2, sk_3, sk_4, sk_5, sk_6, sk_7, sk_8, sk_9, sk_10, sk_11, sk_12, sk_13, sk_14, sk_15, sk_16, sk_17, ls_0, ls_1, ls_2, ls_3, ls_4, ls_5, ls_6, ls_7, ls_8, ls_9, ls_10, ls_11, ls_12, ls_13, ls_14, ls_15, ls_16, ls_17, ct1_i, ct1_r, wd8_0, wd8_i1, wd8_r1, wd8_i2, wd8_r2, wd8_i3, wd8_r3, wd8_i4, wd8_r4, wd8_i5, wd8_r5, wd8_i6, wd8_r6, wd8_i7, wd8_r7, wd8_i8, wd8_r8, wd8_l2, wd8_l3, wd8_l4, wd8_l5, wd8_l6, wd8_l7, wd8_l8, tl_s, tl_n, inR_t, bd_t, true_and, and_true, true_or, or_true, if_true_x, if_false_x, if_pos, if_neg, Int.toNat_natCast, natL, bI_0, bI_1, bI_ft, eq_self, b_tf, b_ft, not_true_eq_false, not_false_eq_true, i0]
    exact hq h q0.1 q0.2
  · simp (disch := first | assumption | omega) only [e_131_0, e_131_1, e_131_2, e_131_3, e_131_4, e_131_5, onI_s, onR_s, onL_s, gl_0, gl_n, gl_1, gl_2, gl_3, gl_4, gl_5, gl_6, gl_7, gl_8, gl_9, gl_10, gl_11, gl_12, gl_13, gl_14, gl_15, gl_16, gl_17, sk0i, sk0r, sk0n, sk1i, sk1r, sk1n, sk_2, sk_3, sk_4, sk_5, sk_6, sk_7, sk_8, sk_9, sk_10, sk_11, sk_12, sk_13, sk_14, sk_15, sk_16, sk_17, ls_0, ls_1, ls_2, ls_3, ls_4, ls_5, ls_6, ls_7, ls_8, ls_9, ls_10, ls_11, ls_12, ls_13, ls_14, ls_15, ls_16, ls_17, ct1_i, ct1_r, wd8_0, wd8_i1, wd8_r1, wd8_i2, wd8_r2, wd8_i3, wd8_r3, wd8_i4, wd8_r4, wd8_i5, wd8_r5, wd8_i6, wd8_r6, wd8_i7, wd8_r7, wd8_i8, wd8_r8, wd8_l2, wd8_l3, wd8_l4, wd8_l5, wd8_l6, wd8_l7, wd8_l8, tl_s, tl_n, inR_t, bd_t, true_and, and_true, true_or, or_true, if_true_x, if_false_x, if_pos, if_neg, Int.toNat_natCast, natL, bI_0, bI_1, bI_ft, eq_self, b_tf, b_ft, not_true_eq_false, not_false_eq_true, i0]
    (rw [e_131_6]; refine ⟨⟨hc.t0, by simp [wd_i, wd_r, wd_l, wd_0]⟩, ?_⟩)
    refine m_130 ok0 g (fun b => ?_) (fun b h2 s2 => ?_)
    · rw [← ev] at b
      rw [if_neg (fun q => by rw [b] at q; exact absurd q.1 (by decide))] at hq
      simp (disch := first | assumption | omega) only [e_131_7, e_131_8, e_131_9, onI_s, onR_s, onL_s, gl_0, gl_n, gl_1, gl_2, gl_3, gl_4, gl_5, gl_6, gl_7, gl_8, gl_9, gl_10, gl_11, gl_12, gl_13, gl_14, gl_15, gl_16, gl_17, sk0i, sk0r, sk0n, sk1i, sk1r, sk1n, sk_2, sk_3, sk_4, sk_5, sk_6, sk_7, sk_8, sk_9, sk_10, sk_11, sk_12, sk_13, sk_14, sk_15, sk_16, sk_17, ls_0, ls_1, ls_2, ls_3, ls_4, ls_5, ls_6, ls_7, ls_8, ls_9, ls_10, ls_11, ls_12, ls_13, ls_14, ls_15, ls_16, ls_17, ct1_i, ct1_r, wd8_0, wd8_i1, wd8_r1, wd8_i2, wd8_r2, wd8_i3, wd8_r3, wd8_i4, wd8_r4, wd8_i5, wd8_r5, wd8_i6, wd8_r6, wd8_i7, wd8_r7, wd8_i8, wd8_r8, wd8_l2, wd8_l3, wd8_l4, wd8_l5, wd8_l6, wd8_l7, wd8_l8, tl_s, tl_n, inR_t, bd_t, true_and, and_true, true_or, or_true, if_true_x, if_false_x, if_pos, if_neg, Int.toNat_natCast, natL, bI_0, bI_1, bI_ft, eq_self, b_tf, b_ft, not_true_eq_false, not_false_eq_true]
      exact hq h q0.1 q0.2
    · rw [← ev] at b s2 ⊢
      by_cases il : i < ((rnR v r.toNat f).length : Int)
      · rw [if_pos ⟨b, by omega, il⟩] at hq
        obtain ⟨k, rfl⟩ : ∃ k : Nat, i = k := ⟨i.toNat, by omega⟩
        rw [Int.toNat_natCast] at hq
        have kl : k < (rnR v r.toNat f).length := by omega
        obtain ⟨x, hx⟩ : ∃ x, (rnR v r.toNat f)[k]? = some x := ⟨(rnR v r.toNat f)[k], by rw [List.getElem?_eq_getElem kl]⟩
        have xg := rnR_gd x (List.mem_of_getElem? hx)
        rw [hx] at hq
        dsimp only at hq
        obtain ⟨a, n⟩ := x
        have qb := of_decide_eq_true b
        have f1 : -1 ≤ f := by omega
        obtain ⟨rr, hrr⟩ : ∃ rr : Nat, r.toNat = rr := ⟨_, rfl⟩
        rw [hrr] at hq hx xg s2 il kl ⊢
        have an : a + n ≤ 32 := by have := xg.2.1; dsimp only at this; omega
        obtain ⟨y1, y2, y3, y4⟩ := s2.2.2.2 k (tgR rr f (a, n)) (by rw [List.getElem?_map, hx]; rfl)
        change h2.1 9 k = (rr : Int) at y1
        change h2.1 11 k = (a : Int) at y3
        change h2.1 12 k = (n : Int) at y4
        have kns : k < (h.2 200 0 * h.2 200 1).toNat := by
          have e0 : h.2 200 0 = v 0 0 := by rw [ev]; rfl
          have e1 : h.2 200 1 = v 0 1 := by rw [ev]; rfl
          obtain ⟨R, hR⟩ : ∃ R : Nat, v 0 0 = R := ⟨(v 0 0).toNat, by omega⟩
          obtain ⟨S, hS⟩ : ∃ S : Nat, v 0 1 = S := ⟨(v 0 1).toNat, by omega⟩
          rw [e0, e1, hR, hS, ← Int.natCast_mul, Int.toNat_natCast]
          have := grS_sp (v := v) (r := rr) (S := S) (f := f) S 0 none [] 0 (by omega) (by have := (cntB_bd (p := spT v rr f 0) S 0).1; simp [opn]; omega)
          have c2 := (cntB_bd (p := spT v rr f S) S 0).2
          unfold rnR at kl
          rw [hS, Int.toNat_natCast] at kl
          have : S ≤ R * S := Nat.le_mul_of_pos_left S (by omega)
          omega
        have le := ly_eq geo hw f1 xg
        have l20 := ly_len geo hw f1 xg
        have lf := ly_fit geo hw f1 xg
        have lc := ly_c20 geo hw (r := rr) (a := a) (n := n)
        have cv2 : cv h2 200 = v := (s2.2.1.cv (by omega)).trans ev.symm
        simp (disch := first | assumption | omega) only [e_131_7, e_131_10, e_131_11, e_131_12, e_131_13, e_131_14, e_131_15, onI_s, onR_s, onL_s, gl_0, gl_n, gl_1, gl_2, gl_3, gl_4, gl_5, gl_6, gl_7, gl_8, gl_9, gl_10, gl_11, gl_12, gl_13, gl_14, gl_15, gl_16, gl_17, sk0i, sk0r, sk0n, sk1i, sk1r, sk1n, sk_2, sk_3, sk_4, sk_5, sk_6, sk_7, sk_8, sk_9, sk_10, sk_11, sk_12, sk_13, sk_14, sk_15, sk_16, sk_17, ls_0, ls_1, ls_2, ls_3, ls_4, ls_5, ls_6, ls_7, ls_8, ls_9, ls_10, ls_11, ls_12, ls_13, ls_14, ls_15, ls_16, ls_17, ct1_i, ct1_r, wd8_0, wd8_i1, wd8_r1, wd8_i2, wd8_r2, wd8_i3, wd8_r3, wd8_i4, wd8_r4, wd8_i5, wd8_r5, wd8_i6, wd8_r6, wd8_i7, wd8_r7, wd8_i8, wd8_r8, wd8_l2, wd8_l3, wd8_l4, wd8_l5, wd8_l6, wd8_l7, wd8_l8, tl_s, tl_n, inR_t, bd_t, true_and, and_true, true_or, or_true, if_true_x, if_false_x, if_pos, if_neg, Int.toNat_natCast, natL, bI_0, bI_1, bI_ft, eq_self, b_tf, b_ft, not_true_eq_false, not_false_eq_true, il, hc.t0, hc.r0_0, hc.r0_1, hc.r0_3, hc.r0_5, hc.r0_6, hc.r0_7, hc.r0_8, hc.r0_9, hc.r0_10, hc.r0_11, hc.r0_12, hc.r0_13, hp.t0, hp.t1, hp.t2, hp.t3, hp.t4, hp.t5, hp.t6, hp.t7, hp.t8, hp.t9, hp.t10, hp.t11, hp.t12, hp.t13, hp.t14, hp.t15, hp.t16, hp.t17, hp.t18, hp.t19, hp.t20, hp.t21, hp.t22, hp.t23, hp.z2, hp.z3, hp.z4, hp.z5, hp.z7, hp.z8, hp.z9, hp.z10, hp.z12, hp.z13, hp.z14, hp.z15, hp.z16, hp.z17, hp.z18, hp.z20, hp.z21, hp.z22, hp.z23, hp.r0_2, hp.r0_3, hp.r0_4, hp.r0_5, hp.r1_1, hp.r1_2, hp.r1_3, hp.r1_4, hp.r6_1, hp.r6_2, hp.r6_3, hp.r6_4, hp.r11_1, hp.r11_2, hp.r11_3, hp.r11_4, hp.r11_5, hp.r11_6, hp.r11_7, hp.r19_1, hp.r19_2, hp.r19_3, hp.r19_4]
        (rw [e_131_16]; refine ⟨⟨hc.t7, by simp [wd_i, wd_r, wd_l, wd_0]⟩, ?_⟩)
        refine m_39 hp (by omega) hc cv2 hw s2.1 kns ns256 y1 y3 y4 an (fun h3 l3 => ?_)
        rw [le] at l3 ⊢
        obtain ⟨L, eL⟩ : ∃ L, L = lyL v rr n a := ⟨_, rfl⟩
        have eO : lyO v rr (a, n) = L := eL.symm
        rw [eO] at hq
        rw [← eL] at l3 l20 lf lc ⊢
        dsimp only at hq
        have g3 : GZ h h3 := s2.2.1.gz.tr l3.2.1.gz
        have q3 := fin4 h3 l3.1 g3
        have e9 : h3.1 9 k = rr := by rw [l3.2.1.1 9 (by omega)]; exact y1
        have e11 : h3.1 11 k = a := by rw [l3.2.1.1 11 (by omega)]; exact y3
        have e12 : h3.1 12 k = n := by rw [l3.2.1.1 12 (by omega)]; exact y4
        have cv3 : cv h3 200 = v := (l3.2.1.cv (by omega) (by omega)).trans cv2
        have hw3 : RGv (cv h3 200) := by rw [cv3]; exact hw
        have sl := sW_ge hw L
        simp (disch := first | assumption | omega) only [e_131_17, e_131_18, onI_s, onR_s, onL_s, gl_0, gl_n, gl_1, gl_2, gl_3, gl_4, gl_5, gl_6, gl_7, gl_8, gl_9, gl_10, gl_11, gl_12, gl_13, gl_14, gl_15, gl_16, gl_17, sk0i, sk0r, sk0n, sk1i, sk1r, sk1n, sk_2, sk_3, sk_4, sk_5, sk_6, sk_7, sk_8, sk_9, sk_10, sk_11, sk_12, sk_13, sk_14, sk_15, sk_16, sk_17, ls_0, ls_1, ls_2, ls_3, ls_4, ls_5, ls_6, ls_7, ls_8, ls_9, ls_10, ls_11, ls_12, ls_13, ls_14, ls_15, ls_16, ls_17, ct1_i, ct1_r, wd8_0, wd8_i1, wd8_r1, wd8_i2, wd8_r2, wd8_i3, wd8_r3, wd8_i4, wd8_r4, wd8_i5, wd8_r5, wd8_i6, wd8_r6, wd8_i7, wd8_r7, wd8_i8, wd8_r8, wd8_l2, wd8_l3, wd8_l4, wd8_l5, wd8_l6, wd8_l7, wd8_l8, tl_s, tl_n, inR_t, bd_t, true_and, and_true, true_or, or_true, if_true_x, if_false_x, if_pos, if_neg, Int.toNat_natCast, natL, bI_0, bI_1, bI_ft, eq_self, b_tf, b_ft, not_true_eq_false, not_false_eq_true]
        rw [e_131_19]
        by_cases g4 : 0 ≤ w ∧ w ≤ 4
        · rcases (show w = 0 ∨ w = 1 ∨ w = 2 ∨ w = 3 ∨ w = 4 by omega) with rfl | rfl | rfl | rfl | rfl
          · change Ev X 131 20 _ _ _ _
            simp (disch := first | assumption | omega) only [e_131_20, e_131_21, e_131_22, e_131_23, e_131_24, e_131_25, onI_s, onR_s, onL_s, gl_0, gl_n, gl_1, gl_2, gl_3, gl_4, gl_5, gl_6, gl_7, gl_8, gl_9, gl_10, gl_11, gl_12, gl_13, gl_14, gl_15, gl_16, gl_17, sk0i, sk0r, sk0n, sk1i, sk1r, sk1n, sk_2, sk_3, sk_4, sk_5, sk_6, sk_7, sk_8, sk_9, sk_10, sk_11, sk_12, sk_13, sk_14, sk_15, sk_16, sk_17, ls_0, ls_1, ls_2, ls_3, ls_4, ls_5, ls_6, ls_7, ls_8, ls_9, ls_10, ls_11, ls_12, ls_13, ls_14, ls_15, ls_16, ls_17, ct1_i, ct1_r, wd8_0, wd8_i1, wd8_r1, wd8_i2, wd8_r2, wd8_i3, wd8_r3, wd8_i4, wd8_r4, wd8_i5, wd8_r5, wd8_i6, wd8_r6, wd8_i7, wd8_r7, wd8_i8, wd8_r8, wd8_l2, wd8_l3, wd8_l4, wd8_l5, wd8_l6, wd8_l7, wd8_l8, tl_s, tl_n, inR_t, bd_t, true_and, and_true, true_or, or_true, if_true_x, if_false_x, if_pos, if_neg, Int.toNat_natCast, natL, bI_0, bI_1, bI_ft, eq_self, b_tf, b_ft, not_true_eq_false, not_false_eq_true, e11, hc.t0, hc.r0_0, hc.r0_1, hc.r0_3, hc.r0_5, hc.r0_6, hc.r0_7, hc.r0_8, hc.r0_9, hc.r0_10, hc.r0_11, hc.r0_12, hc.r0_13, hc.t7, hc.r7_2, hc.r7_4, hc.r7_5, hc.r7_6, hc.r7_7, hc.r7_8, hc.t11, hc.z11]
            exact hq h3 q3.1 q3.2
          · change Ev X 131 26 _ _ _ _
            simp (disch := first | assumption | omega) only [e_131_26, e_131_27, e_131_28, e_131_29, e_131_30, e_131_31, onI_s, onR_s, onL_s, gl_0, gl_n, gl_1, gl_2, gl_3, gl_4, gl_5, gl_6, gl_7, gl_8, gl_9, gl_10, gl_11, gl_12, gl_13, gl_14, gl_15, gl_16, gl_17, sk0i, sk0r, sk0n, sk1i, sk1r, sk1n, sk_2, sk_3, sk_4, sk_5, sk_6, sk_7, sk_8, sk_9, sk_10, sk_11, sk_12, sk_13, sk_14, sk_15, sk_16, sk_17, ls_0, ls_1, ls_2, ls_3, ls_4, ls_5, ls_6, ls_7, ls_8, ls_9, ls_10, ls_11, ls_12, ls_13, ls_14, ls_15, ls_16, ls_17, ct1_i, ct1_r, wd8_0, wd8_i1, wd8_r1, wd8_i2, wd8_r2, wd8_i3, wd8_r3, wd8_i4, wd8_r4, wd8_i5, wd8_r5, wd8_i6, wd8_r6, wd8_i7, wd8_r7, wd8_i8, wd8_r8, wd8_l2, wd8_l3, wd8_l4, wd8_l5, wd8_l6, wd8_l7, wd8_l8, tl_s, tl_n, inR_t, bd_t, true_and, and_true, true_or, or_true, if_true_x, if_false_x, if_pos, if_neg, Int.toNat_natCast, natL, bI_0, bI_1, bI_ft, eq_self, b_tf, b_ft, not_true_eq_false, not_false_eq_true, e12, hc.t0, hc.r0_0, hc.r0_1, hc.r0_3, hc.r0_5, hc.r0_6, hc.r0_7, hc.r0_8, hc.r0_9, hc.r0_10, hc.r0_11, hc.r0_12, hc.r0_13, hc.t7, hc.r7_2, hc.r7_4, hc.r7_5, hc.r7_6, hc.r7_7, hc.r7_8, hc.t12, hc.z12]
            exact hq h3 q3.1 q3.2
          · change Ev X 131 32 _ _ _ _
            simp (disch := first | assumption | omega) only [e_131_32, e_131_33, onI_s, onR_s, onL_s, gl_0, gl_n, gl_1, gl_2, gl_3, gl_4, gl_5, gl_6, gl_7, gl_8, gl_9, gl_10, gl_11, gl_12, gl_13, gl_14, gl_15, gl_16, gl_17, sk0i, sk0r, sk0n, sk1i, sk1r, sk1n, sk_2, sk_3, sk_4, sk_5, sk_6, sk_7, sk_8, sk_9, sk_10, sk_11, sk_12, sk_13, sk_14, sk_15, sk_16, sk_17, ls_0, ls_1, ls_2, ls_3, ls_4, ls_5, ls_6, ls_7, ls_8, ls_9, ls_10, ls_11, ls_12, ls_13, ls_14, ls_15, ls_16, ls_17, ct1_i, ct1_r, wd8_0, wd8_i1, wd8_r1, wd8_i2, wd8_r2, wd8_i3, wd8_r3, wd8_i4, wd8_r4, wd8_i5, wd8_r5, wd8_i6, wd8_r6, wd8_i7, wd8_r7, wd8_i8, wd8_r8, wd8_l2, wd8_l3, wd8_l4, wd8_l5, wd8_l6, wd8_l7, wd8_l8, tl_s, tl_n, inR_t, bd_t, true_and, and_true, true_or, or_true, if_true_x, if_false_x, if_pos, if_neg, Int.toNat_natCast, natL, bI_0, bI_1, bI_ft, eq_self, b_tf, b_ft, not_true_eq_false, not_false_eq_true]
            exact hq h3 q3.1 q3.2
          · change Ev X 131 34 _ _ _ _
            simp (disch := first | assumption | omega) only [e_131_34, e_131_35, e_131_36, e_131_37, e_131_38, e_131_39, e_131_40, e_131_41, e_131_42, e_131_43, e_131_44, e_131_45, e_131_46, e_131_47, e_131_48, onI_s, onR_s, onL_s, gl_0, gl_n, gl_1, gl_2, gl_3, gl_4, gl_5, gl_6, gl_7, gl_8, gl_9, gl_10, gl_11, gl_12, gl_13, gl_14, gl_15, gl_16, gl_17, sk0i, sk0r, sk0n, sk1i, sk1r, sk1n, sk_2, sk_3, sk_4, sk_5, sk_6, sk_7, sk_8, sk_9, sk_10, sk_11, sk_12, sk_13, sk_14, sk_15, sk_16, sk_17, ls_0, ls_1, ls_2, ls_3, ls_4, ls_5, ls_6, ls_7, ls_8, ls_9, ls_10, ls_11, ls_12, ls_13, ls_14, ls_15, ls_16, ls_17, ct1_i, ct1_r, wd8_0, wd8_i1, wd8_r1, wd8_i2, wd8_r2, wd8_i3, wd8_r3, wd8_i4, wd8_r4, wd8_i5, wd8_r5, wd8_i6, wd8_r6, wd8_i7, wd8_r7, wd8_i8, wd8_r8, wd8_l2, wd8_l3, wd8_l4, wd8_l5, wd8_l6, wd8_l7, wd8_l8, tl_s, tl_n, inR_t, bd_t, true_and, and_true, true_or, or_true, if_true_x, if_false_x, if_pos, if_neg, Int.toNat_natCast, natL, bI_0, bI_1, bI_ft, eq_self, b_tf, b_ft, not_true_eq_false, not_false_eq_true, e12, m_31 hp hw3 hc.t13 hc.z13 l3.2.2 l20 l20 lc, cv3, hc.t0, hc.r0_0, hc.r0_1, hc.r0_3, hc.r0_5, hc.r0_6, hc.r0_7, hc.r0_8, hc.r0_9, hc.r0_10, hc.r0_11, hc.r0_12, hc.r0_13, hc.t7, hc.r7_2, hc.r7_4, hc.r7_5, hc.r7_6, hc.r7_7, hc.r7_8, hc.t12, hc.z12, hp.t0, hp.t1, hp.t2, hp.t3, hp.t4, hp.t5, hp.t6, hp.t7, hp.t8, hp.t9, hp.t10, hp.t11, hp.t12, hp.t13, hp.t14, hp.t15, hp.t16, hp.t17, hp.t18, hp.t19, hp.t20, hp.t21, hp.t22, hp.t23, hp.z2, hp.z3, hp.z4, hp.z5, hp.z7, hp.z8, hp.z9, hp.z10, hp.z12, hp.z13, hp.z14, hp.z15, hp.z16, hp.z17, hp.z18, hp.z20, hp.z21, hp.z22, hp.z23, hp.r0_2, hp.r0_3, hp.r0_4, hp.r0_5, hp.r1_1, hp.r1_2, hp.r1_3, hp.r1_4, hp.r6_1, hp.r6_2, hp.r6_3, hp.r6_4, hp.r11_1, hp.r11_2, hp.r11_3, hp.r11_4, hp.r11_5, hp.r11_6, hp.r11_7, hp.r19_1, hp.r19_2, hp.r19_3, hp.r19_4]
            exact hq h3 q3.1 q3.2
          · change Ev X 131 49 _ _ _ _
            simp (disch := first | assumption | omega) only [e_131_49, e_131_50, e_131_51, e_131_52, e_131_53, e_131_54, e_131_55, e_131_56, e_131_57, e_131_58, onI_s, onR_s, onL_s, gl_0, gl_n, gl_1, gl_2, gl_3, gl_4, gl_5, gl_6, gl_7, gl_8, gl_9, gl_10, gl_11, gl_12, gl_13, gl_14, gl_15, gl_16, gl_17, sk0i, sk0r, sk0n, sk1i, sk1r, sk1n, sk_2, sk_3, sk_4, sk_5, sk_6, sk_7, sk_8, sk_9, sk_10, sk_11, sk_12, sk_13, sk_14, sk_15, sk_16, sk_17, ls_0, ls_1, ls_2, ls_3, ls_4, ls_5, ls_6, ls_7, ls_8, ls_9, ls_10, ls_11, ls_12, ls_13, ls_14, ls_15, ls_16, ls_17, ct1_i, ct1_r, wd8_0, wd8_i1, wd8_r1, wd8_i2, wd8_r2, wd8_i3, wd8_r3, wd8_i4, wd8_r4, wd8_i5, wd8_r5, wd8_i6, wd8_r6, wd8_i7, wd8_r7, wd8_i8, wd8_r8, wd8_l2, wd8_l3, wd8_l4, wd8_l5, wd8_l6, wd8_l7, wd8_l8, tl_s, tl_n, inR_t, bd_t, true_and, and_true, true_or, or_true, if_true_x, if_false_x, if_pos, if_neg, Int.toNat_natCast, natL, bI_0, bI_1, bI_ft, eq_self, b_tf, b_ft, not_true_eq_false, not_false_eq_true, hc.t0, hc.r0_0, hc.r0_1, hc.r0_3, hc.r0_5, hc.r0_6, hc.r0_7, hc.r0_8, hc.r0_9, hc.r0_10, hc.r0_11, hc.r0_12, hc.r0_13, hc.t7, hc.r7_2, hc.r7_4, hc.r7_5, hc.r7_6, hc.r7_7, hc.r7_8, hp.t0, hp.t1, hp.t2, hp.t3, hp.t4, hp.t5, hp.t6, hp.t7, hp.t8, hp.t9, hp.t10, hp.t11, hp.t12, hp.t13, hp.t14, hp.t15, hp.t16, hp.t17, hp.t18, hp.t19, hp.t20, hp.t21, hp.t22, hp.t23, hp.z2, hp.z3, hp.z4, hp.z5, hp.z7, hp.z8, hp.z9, hp.z10, hp.z12, hp.z13, hp.z14, hp.z15, hp.z16, hp.z17, hp.z18, hp.z20, hp.z21, hp.z22, hp.z23, hp.r0_2, hp.r0_3, hp.r0_4, hp.r0_5, hp.r1_1, hp.r1_2, hp.r1_3, hp.r1_4, hp.r6_1, hp.r6_2, hp.r6_3, hp.r6_4, hp.r11_1, hp.r11_2, hp.r11_3, hp.r11_4, hp.r11_5, hp.r11_6, hp.r11_7, hp.r19_1, hp.r19_2, hp.r19_3, hp.r19_4]
            (rw [e_131_59]; refine ⟨⟨hc.t29, by simp [wd_i, wd_r, wd_l, wd_0]⟩, ?_⟩)
            refine m_48 hp (by omega) hc cv3 hw l3.1 hc.t13 hc.z13 (by omega) l3.2.2 l20 l20 lc kns ns256 e11 e12 an (fun h4 z4 g4 tr => ?_)
            have q4 := fin4 h4 z4 (g3.tr g4.gz)
            have sm := tb_same (F := fC) (G := fRp) hw an (by decide) (by decide) (L := L) (s := 0) (by omega) (by omega)
            simp (disch := first | assumption | omega) only [e_131_60, onI_s, onR_s, onL_s, gl_0, gl_n, gl_1, gl_2, gl_3, gl_4, gl_5, gl_6, gl_7, gl_8, gl_9, gl_10, gl_11, gl_12, gl_13, gl_14, gl_15, gl_16, gl_17, sk0i, sk0r, sk0n, sk1i, sk1r, sk1n, sk_2, sk_3, sk_4, sk_5, sk_6, sk_7, sk_8, sk_9, sk_10, sk_11, sk_12, sk_13, sk_14, sk_15, sk_16, sk_17, ls_0, ls_1, ls_2, ls_3, ls_4, ls_5, ls_6, ls_7, ls_8, ls_9, ls_10, ls_11, ls_12, ls_13, ls_14, ls_15, ls_16, ls_17, ct1_i, ct1_r, wd8_0, wd8_i1, wd8_r1, wd8_i2, wd8_r2, wd8_i3, wd8_r3, wd8_i4, wd8_r4, wd8_i5, wd8_r5, wd8_i6, wd8_r6, wd8_i7, wd8_r7, wd8_i8, wd8_r8, wd8_l2, wd8_l3, wd8_l4, wd8_l5, wd8_l6, wd8_l7, wd8_l8, tl_s, tl_n, inR_t, bd_t, true_and, and_true, true_or, or_true, if_true_x, if_false_x, if_pos, if_neg, Int.toNat_natCast, natL, bI_0, bI_1, bI_ft, eq_self, b_tf, b_ft, not_true_eq_false, not_false_eq_true]
            rw [sm]
            exact hq h4 q4.1 q4.2
        · rw [if_neg (by omega), if_neg (by omega), if_neg (by omega), if_neg (by omega), if_neg (by omega)] at hq
          rw [show swt 0 [61, 20, 26, 32, 34, 49] w = 61 from if_neg (by show ¬ (0 ≤ w ∧ w < 0 + (((6 : Nat) : Int) - 1)); omega)]
          by_cases g5 : 10 ≤ w ∧ w - 10 < (L.length : Int)
          · rw [if_pos g5] at hq
            have ea := R1.at l3.2.2 (k := (w - 10).toNat) (by omega)
            have w20 : (w - 10).toNat < 20 := by omega
            have d1 : ¬ w < 10 := by omega
            simp (disch := first | assumption | omega) only [e_131_61, e_131_62, e_131_63, e_131_64, e_131_65, e_131_66, e_131_67, e_131_68, e_131_69, e_131_70, e_131_71, e_131_72, e_131_73, e_131_74, e_131_75, e_131_76, e_131_78, onI_s, onR_s, onL_s, gl_0, gl_n, gl_1, gl_2, gl_3, gl_4, gl_5, gl_6, gl_7, gl_8, gl_9, gl_10, gl_11, gl_12, gl_13, gl_14, gl_15, gl_16, gl_17, sk0i, sk0r, sk0n, sk1i, sk1r, sk1n, sk_2, sk_3, sk_4, sk_5, sk_6, sk_7, sk_8, sk_9, sk_10, sk_11, sk_12, sk_13, sk_14, sk_15, sk_16, sk_17, ls_0, ls_1, ls_2, ls_3, ls_4, ls_5, ls_6, ls_7, ls_8, ls_9, ls_10, ls_11, ls_12, ls_13, ls_14, ls_15, ls_16, ls_17, ct1_i, ct1_r, wd8_0, wd8_i1, wd8_r1, wd8_i2, wd8_r2, wd8_i3, wd8_r3, wd8_i4, wd8_r4, wd8_i5, wd8_r5, wd8_i6, wd8_r6, wd8_i7, wd8_r7, wd8_i8, wd8_r8, wd8_l2, wd8_l3, wd8_l4, wd8_l5, wd8_l6, wd8_l7, wd8_l8, tl_s, tl_n, inR_t, bd_t, true_and, and_true, true_or, or_true, if_true_x, if_false_x, if_pos, if_neg, Int.toNat_natCast, natL, bI_0, bI_1, bI_ft, eq_self, b_tf, b_ft, not_true_eq_false, not_false_eq_true, d1, g5.2, ea, hc.t0, hc.r0_0, hc.r0_1, hc.r0_3, hc.r0_5, hc.r0_6, hc.r0_7, hc.r0_8, hc.r0_9, hc.r0_10, hc.r0_11, hc.r0_12, hc.r0_13, hc.t7, hc.r7_2, hc.r7_4, hc.r7_5, hc.r7_6, hc.r7_7, hc.r7_8, hc.t13, hc.z13]
            exact hq h3 q3.1 q3.2
          · rw [if_neg g5] at hq
            by_cases d1 : w < 10
            · simp (disch := first | assumption | omega) only [e_131_61, e_131_62, e_131_63, e_131_77, e_131_78, onI_s, onR_s, onL_s, gl_0, gl_n, gl_1, gl_2, gl_3, gl_4, gl_5, gl_6, gl_7, gl_8, gl_9, gl_10, gl_11, gl_12, gl_13, gl_14, gl_15, gl_16, gl_17, sk0i, sk0r, sk0n, sk1i, sk1r, sk1n, sk_2, sk_3, sk_4, sk_5, sk_6, sk_7, sk_8, sk_9, sk_10, sk_11, sk_12, sk_13, sk_14, sk_15, sk_16, sk_17, ls_0, ls_1, ls_2, ls_3, ls_4, ls_5, ls_6, ls_7, ls_8, ls_9, ls_10, ls_11, ls_12, ls_13, ls_14, ls_15, ls_16, ls_17, ct1_i, ct1_r, wd8_0, wd8_i1, wd8_r1, wd8_i2, wd8_r2, wd8_i3, wd8_r3, wd8_i4, wd8_r4, wd8_i5, wd8_r5, wd8_i6, wd8_r6, wd8_i7, wd8_r7, wd8_i8, wd8_r8, wd8_l2, wd8_l3, wd8_l4, wd8_l5, wd8_l6, wd8_l7, wd8_l8, tl_s, tl_n, inR_t, bd_t, true_and, and_true, true_or, or_true, if_true_x, if_false_x, if_pos, if_neg, Int.toNat_natCast, natL, bI_0, bI_1, bI_ft, eq_self, b_tf, b_ft, not_true_eq_false, not_false_eq_true, d1]
              exact hq h3 q3.1 q3.2
            · have d2 : ¬ w - 10 < (L.length : Int) := by omega
              simp (disch := first | assumption | omega) only [e_131_61, e_131_62, e_131_63, e_131_64, e_131_65, e_131_66, e_131_67, e_131_68, e_131_77, e_131_78, onI_s, onR_s, onL_s, gl_0, gl_n, gl_1, gl_2, gl_3, gl_4, gl_5, gl_6, gl_7, gl_8, gl_9, gl_10, gl_11, gl_12, gl_13, gl_14, gl_15, gl_16, gl_17, sk0i, sk0r, sk0n, sk1i, sk1r, sk1n, sk_2, sk_3, sk_4, sk_5, sk_6, sk_7, sk_8, sk_9, sk_10, sk_11, sk_12, sk_13, sk_14, sk_15, sk_16, sk_17, ls_0, ls_1, ls_2, ls_3, ls_4, ls_5, ls_6, ls_7, ls_8, ls_9, ls_10, ls_11, ls_12, ls_13, ls_14, ls_15, ls_16, ls_17, ct1_i, ct1_r, wd8_0, wd8_i1, wd8_r1, wd8_i2, wd8_r2, wd8_i3, wd8_r3, wd8_i4, wd8_r4, wd8_i5, wd8_r5, wd8_i6, wd8_r6, wd8_i7, wd8_r7, wd8_i8, wd8_r8, wd8_l2, wd8_l3, wd8_l4, wd8_l5, wd8_l6, wd8_l7, wd8_l8, tl_s, tl_n, inR_t, bd_t, true_and, and_true, true_or, or_true, if_true_x, if_false_x, if_pos, if_neg, Int.toNat_natCast, natL, bI_0, bI_1, bI_ft, eq_self, b_tf, b_ft, not_true_eq_false, not_false_eq_true, d1, d2]
              exact hq h3 q3.1 q3.2
      · rw [if_neg (fun q => il q.2.2)] at hq
        simp (disch := first | assumption | omega) only [e_131_7, e_131_8, e_131_9, onI_s, onR_s, onL_s, gl_0, gl_n, gl_1, gl_2, gl_3, gl_4, gl_5, gl_6, gl_7, gl_8, gl_9, gl_10, gl_11, gl_12, gl_13, gl_14, gl_15, gl_16, gl_17, sk0i, sk0r, sk0n, sk1i, sk1r, sk1n, sk_2, sk_3, sk_4, sk_5, sk_6, sk_7, sk_8, sk_9, sk_10, sk_11, sk_12, sk_13, sk_14, sk_15, sk_16, sk_17, ls_0, ls_1, ls_2, ls_3, ls_4, ls_5, ls_6, ls_7, ls_8, ls_9, ls_10, ls_11, ls_12, ls_13, ls_14, ls_15, ls_16, ls_17, ct1_i, ct1_r, wd8_0, wd8_i1, wd8_r1, wd8_i2, wd8_r2, wd8_i3, wd8_r3, wd8_i4, wd8_r4, wd8_i5, wd8_r5, wd8_i6, wd8_r6, wd8_i7, wd8_r7, wd8_i8, wd8_r8, wd8_l2, wd8_l3, wd8_l4, wd8_l5, wd8_l6, wd8_l7, wd8_l8, tl_s, tl_n, inR_t, bd_t, true_and, and_true, true_or, or_true, if_true_x, if_false_x, if_pos, if_neg, Int.toNat_natCast, natL, bI_0, bI_1, bI_ft, eq_self, b_tf, b_ft, not_true_eq_false, not_false_eq_true, il]
        have q := fin4 h2 s2.1 s2.2.1.gz
        exact hq h2 q.1 q.2
end RCP
