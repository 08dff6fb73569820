/-! refusals, what is kept, and what is taken back: the class -/
theorem td_n {x y : Int} (h : 0 ≤ x) : x.tdiv y = x / y := Int.tdiv_eq_ediv_of_nonneg h
theorem tm_n {x y : Int} (h : 0 ≤ x) : x.tmod y = x % y := Int.tmod_eq_emod_of_nonneg h
theorem dv_t {x y : Int} (h : (0 ≤ x ∧ x ≤ 2147483647) ∧ 0 < y) : (y ≠ 0 ∧ inR (x.tdiv y)) ↔ True := by
  have h1 := Int.ediv_nonneg h.1.1 (Int.le_of_lt h.2)
  have h2 := Int.ediv_le_self y h.1.1
  rw [td_n h.1.1]
  exact ⟨fun _ => trivial, fun _ => ⟨by omega, by constructor <;> omega⟩⟩
section HIS
variable {X : xL} {ns nb ln : Nat} {h : xH} {I F : Nat → Nat → Int} {Q : Option xV → xH → Prop}
set_option maxHeartbeats 1000000 in
theorem m_138 {x : Int} (hc : CT X ns nb ln) (h0 : -6 ≤ x) (h1 : x ≤ 0) (h2 : 0 ≤ h.1 3 (-x).toNat) (h3 : h.1 3 (-x).toNat ≤ 100000) : Cl X 138 [vr 0, vi x] h Q ↔ Q (some (vi x)) (up2 h.1 3 (-x).toNat (h.1 3 (-x).toNat + 1), up2 h.2 0 4 x) := by
  rw [c_138]
  simp (disch := first | assumption | omega) only [e_138_0, e_138_1, e_138_2, e_138_3, e_138_4, e_138_5, e_138_6, e_138_7, e_138_8, e_138_9, e_138_10, e_138_11, e_138_12, e_138_13, onI_s, onR_s, onL_s, gl_0, gl_n, gl_1, gl_2, gl_3, gl_4, gl_5, gl_6, gl_7, gl_8, gl_9, gl_10, gl_11, gl_12, gl_13, gl_14, gl_15, gl_16, gl_17, sk0i, sk0r, sk0n, sk1i, sk1r, sk1n, sk_2, sk_3, sk_4, sk_5, sk_6, sk_7, sk_8, sk_9, sk_10, sk_11, sk_12, sk_13, sk_14, sk_15, sk_16, sk_17, ls_0, ls_1, ls_2, ls_3, ls_4, ls_5, ls_6, ls_7, ls_8, ls_9, ls_10, ls_11, ls_12, ls_13, ls_14, ls_15, ls_16, ls_17, ct1_i, ct1_r, wd8_0, wd8_i1, wd8_r1, wd8_i2, wd8_r2, wd8_i3, wd8_r3, wd8_i4, wd8_r4, wd8_i5, wd8_r5, wd8_i6, wd8_r6, wd8_i7, wd8_r7, wd8_i8, wd8_r8, wd8_l2, wd8_l3, wd8_l4, wd8_l5, wd8_l6, wd8_l7, wd8_l8, tl_s, tl_n, inR_t, bd_t, true_and, and_true, true_or, or_true, if_true_x, if_false_x, if_pos, if_neg, Int.toNat_natCast, natL, bI_0, bI_1, bI_ft, eq_self, b_tf, b_ft, not_true_eq_false, not_false_eq_true, hc.t0, hc.r0_0, hc.r0_1, hc.r0_3, hc.r0_5, hc.r0_6, hc.r0_7, hc.r0_8, hc.r0_9, hc.r0_10, hc.r0_11, hc.r0_12, hc.r0_13, hc.t3, hc.z3]
theorem LO.pl (lo : LO X h) {p : Nat} (hp : p < 14) : PL X (200 + 24 * p) := lo.2 p hp
theorem LO.p0 (lo : LO X h) : PL X 200 := lo.2 0 (by decide)
theorem LO.p1 (lo : LO X h) : PL X 224 := lo.2 1 (by decide)
theorem pos_lt {n : Int} (h0 : 0 ≤ n) (h1 : n ≤ 11) : n.toNat < 12 := by omega
set_option maxHeartbeats 2000000 in
theorem m_40 {k : Int} (hc : CT X ns nb ln) (ok : Ok X h) (hw : RGv (cv h 200)) (hq : ∀ h2, cv h2 (248 + 24 * (h.2 4 1).toNat) = cv h 200 → h2.1 6 = up (h.1 6) (h.2 4 1).toNat k → h2.2 4 0 = min 12 (h.2 4 0 + 1) → h2.2 4 1 = (h.2 4 1 + 1).tmod 12 → (∀ a, a ≠ 6 → ¬ (248 + 24 * (h.2 4 1).toNat ≤ a ∧ a < 248 + 24 * (h.2 4 1).toNat + 24) → h2.1 a = h.1 a ∧ (a ≠ 4 → h2.2 a = h.2 a)) → (∀ a i, a ≠ 4 → i ≠ 0 → h2.2 a i = h.2 a i) → (∀ i, h2.2 (248 + 24 * (h.2 4 1).toNat) i = h.2 (248 + 24 * (h.2 4 1).toNat) i) → NZ X h2 → Q none h2) : Cl X 40 [vr 4, vr 200, vi k] h Q := by
  obtain ⟨z, _, ⟨n0, n1, _, _, jk⟩, _, lo⟩ := ok
  have hr : X.2.2.1 5 (h.2 4 1).toNat = 248 + 24 * (h.2 4 1).toNat := hc.2.2.2.1 _ (by omega)
  rw [c_40]
  simp (disch := first | assumption | omega) only [e_40_0, e_40_1, e_40_2, e_40_3, e_40_4, e_40_5, onI_s, onR_s, onL_s, gl_0, gl_n, gl_1, gl_2, gl_3, gl_4, gl_5, gl_6, gl_7, gl_8, gl_9, gl_10, gl_11, gl_12, gl_13, gl_14, gl_15, gl_16, gl_17, sk0i, sk0r, sk0n, sk1i, sk1r, sk1n, sk_2, sk_3, sk_4, sk_5, sk_6, sk_7, sk_8, sk_9, sk_10, sk_11, sk_12, sk_13, sk_14, sk_15, sk_16, sk_17, ls_0, ls_1, ls_2, ls_3, ls_4, ls_5, ls_6, ls_7, ls_8, ls_9, ls_10, ls_11, ls_12, ls_13, ls_14, ls_15, ls_16, ls_17, ct1_i, ct1_r, wd8_0, wd8_i1, wd8_r1, wd8_i2, wd8_r2, wd8_i3, wd8_r3, wd8_i4, wd8_r4, wd8_i5, wd8_r5, wd8_i6, wd8_r6, wd8_i7, wd8_r7, wd8_i8, wd8_r8, wd8_l2, wd8_l3, wd8_l4, wd8_l5, wd8_l6, wd8_l7, wd8_l8, tl_s, tl_n, inR_t, bd_t, true_and, and_true, true_or, or_true, if_true_x, if_false_x, if_pos, if_neg, Int.toNat_natCast, natL, bI_0, bI_1, bI_ft, eq_self, b_tf, b_ft, not_true_eq_false, not_false_eq_true, hr, hc.t0, hc.r0_0, hc.r0_1, hc.r0_3, hc.r0_5, hc.r0_6, hc.r0_7, hc.r0_8, hc.r0_9, hc.r0_10, hc.r0_11, hc.r0_12, hc.r0_13, hc.t4, hc.r4_2, hc.r4_3, hc.t5, hc.z5, hc.t6, hc.z6]
  rw [e_40_6]
  have hp := lo.pl (p := 2 + (h.2 4 1).toNat) (by omega)
  have jk2 := jk (2 + (h.2 4 1).toNat) (by omega)
  rw [show 200 + 24 * (2 + (h.2 4 1).toNat) = 248 + 24 * (h.2 4 1).toNat by omega] at hp jk2
  refine ⟨⟨hp.t0, by decide⟩, ?_⟩
  refine m_74 hp lo.p0 z (by omega) jk2 hw.fix (fun h2 e1 e2 e3 => ?_)
  have f4 := (e2.1 4 (by omega)).2
  have f6 := (e2.1 6 (by omega)).1
  have g0 : h2.2 4 0 = h.2 4 0 := by rw [f4]
  have g1 : h2.2 4 1 = h.2 4 1 := by rw [f4]
  simp (disch := first | assumption | omega) only [e_40_7, e_40_8, e_40_9, e_40_10, e_40_11, e_40_12, e_40_13, e_40_14, e_40_15, e_40_16, e_40_17, e_40_18, e_40_19, e_40_20, e_40_21, e_40_22, e_40_23, e_40_24, e_40_25, e_40_26, e_40_27, e_40_28, e_40_29, onI_s, onR_s, onL_s, gl_0, gl_n, gl_1, gl_2, gl_3, gl_4, gl_5, gl_6, gl_7, gl_8, gl_9, gl_10, gl_11, gl_12, gl_13, gl_14, gl_15, gl_16, gl_17, sk0i, sk0r, sk0n, sk1i, sk1r, sk1n, sk_2, sk_3, sk_4, sk_5, sk_6, sk_7, sk_8, sk_9, sk_10, sk_11, sk_12, sk_13, sk_14, sk_15, sk_16, sk_17, ls_0, ls_1, ls_2, ls_3, ls_4, ls_5, ls_6, ls_7, ls_8, ls_9, ls_10, ls_11, ls_12, ls_13, ls_14, ls_15, ls_16, ls_17, ct1_i, ct1_r, wd8_0, wd8_i1, wd8_r1, wd8_i2, wd8_r2, wd8_i3, wd8_r3, wd8_i4, wd8_r4, wd8_i5, wd8_r5, wd8_i6, wd8_r6, wd8_i7, wd8_r7, wd8_i8, wd8_r8, wd8_l2, wd8_l3, wd8_l4, wd8_l5, wd8_l6, wd8_l7, wd8_l8, tl_s, tl_n, inR_t, bd_t, true_and, and_true, true_or, or_true, if_true_x, if_false_x, if_pos, if_neg, Int.toNat_natCast, natL, bI_0, bI_1, bI_ft, eq_self, b_tf, b_ft, not_true_eq_false, not_false_eq_true, m_285, g0, g1, up2_self, up2_oth, up2_same, dv_t, hc.t0, hc.r0_0, hc.r0_1, hc.r0_3, hc.r0_5, hc.r0_6, hc.r0_7, hc.r0_8, hc.r0_9, hc.r0_10, hc.r0_11, hc.r0_12, hc.r0_13, hc.t4, hc.r4_2, hc.r4_3, hc.t5, hc.z5, hc.t6, hc.z6]
  have hb : ∀ a, ¬ (248 + 24 * (h.2 4 1).toNat ≤ a ∧ a < 248 + 24 * (h.2 4 1).toNat + 24) → h2.1 a = h.1 a ∧ h2.2 a = h.2 a := e2.1
  refine hq _ ?_ ?_ ?_ ?_ ?_ ?_ ?_ ?_
  · rw [← e1]
    refine cv_congr (fun a q1 q2 => ?_)
    exact ⟨funext fun i => up2_oth (by omega), funext fun i => by dsimp only; rw [up2_oth (by omega), up2_oth (by omega)]⟩
  · funext j
    show up2 h2.1 6 _ k 6 j = _
    rw [up2_same, f6]
    rfl
  · dsimp only; rw [up2_self]
  · dsimp only; rw [up2_eq, if_neg (by omega), up2_self]
  · intro a q1 q2
    refine ⟨?_, fun q3 => ?_⟩
    · rw [← (hb a q2).1]
      exact funext fun i => up2_oth q1
    · rw [← (hb a q2).2]
      exact funext fun i => by dsimp only; rw [up2_oth q3, up2_oth q3]
  · intro a i q1 q2
    show up2 (up2 h2.2 4 1 _) 4 0 _ a i = _
    rw [up2_oth q1, up2_oth q1]
    exact e2.2.1 a i q2
  · intro i
    show up2 (up2 h2.2 4 1 _) 4 0 _ _ i = _
    rw [up2_oth (by omega), up2_oth (by omega), e2.2.2]
  · exact NZ.up (I := h2.1) (F := h2.2) e3 (by rw [hc.z6]; omega)
/-- kept for an act -/
theorem keep_h {n nx : Nat} (h2 : xH) (hn : h.2 4 0 = n) (hx : h.2 4 1 = nx) (n1 : n ≤ 12) (x1 : nx ≤ 11) (e1 : cv h2 (248 + 24 * nx) = cv h 200) {k : Int} (e2 : h2.1 6 = up (h.1 6) nx k) (e3 : h2.2 4 0 = min 12 (h.2 4 0 + 1)) (e4 : h2.2 4 1 = (h.2 4 1 + 1).tmod 12) (e5 : ∀ a, 248 ≤ a → ¬ (248 + 24 * nx ≤ a ∧ a < 248 + 24 * nx + 24) → h2.1 a = h.1 a ∧ h2.2 a = h.2 a) : hC h2 = kpH (hC h) (cv h 200) k := by
  have f3 : (h2.2 4 0).toNat = min 12 (n + 1) := by omega
  have f4 : (h2.2 4 1).toNat = (nx + 1) % 12 := by rw [e4, tm_n (by omega)]; omega
  have f5 : (h.2 4 0).toNat = n := by omega
  have f6 : (h.2 4 1).toNat = nx := by omega
  have cvo : ∀ q, q < 12 → q ≠ nx → cv h2 (248 + 24 * q) = cv h (248 + 24 * q) := fun q q1 q2 => cv_congr (fun a a1 a2 => e5 a (by omega) (by omega))
  unfold hC kpH
  dsimp only
  rw [f3, f4, f5, f6, e2]
  by_cases e : n = 12
  · subst e
    rw [if_pos rfl]
    refine Prod.ext rfl (Prod.ext ?_ ?_)
    · funext j
      dsimp only
      by_cases j1 : j < 11
      · rw [if_pos (by omega), if_pos j1, if_pos (by omega), show ((nx + 1) % 12 + 12 - min 12 (12 + 1) + j) % 12 = (nx + 12 - 12 + (j + 1)) % 12 by omega]
        exact cvo _ (by omega) (by omega)
      · rw [if_neg j1]
        by_cases j2 : j = 11
        · rw [if_pos (by omega), if_pos j2, show ((nx + 1) % 12 + 12 - min 12 (12 + 1) + j) % 12 = nx by omega]
          exact e1
        · rw [if_neg (by omega), if_neg j2]
    · funext j
      dsimp only
      unfold up
      by_cases j1 : j < 11
      · rw [if_pos (show j < min 12 (12 + 1) by omega), if_pos j1, if_pos (show j + 1 < 12 by omega), show ((nx + 1) % 12 + 12 - min 12 (12 + 1) + j) % 12 = (nx + 12 - 12 + (j + 1)) % 12 by omega, if_neg (show ¬ (nx + 12 - 12 + (j + 1)) % 12 = nx by omega)]
      · rw [if_neg j1]
        by_cases j2 : j = 11
        · rw [if_pos (by omega), if_pos j2, if_pos (by omega)]
        · rw [if_neg (by omega), if_neg j2]
  · rw [if_neg e]
    refine Prod.ext (by show min 12 (n + 1) = n + 1; omega) (Prod.ext ?_ ?_)
    · funext j
      dsimp only
      by_cases j1 : j = n
      · rw [if_pos (by omega), if_pos j1, show ((nx + 1) % 12 + 12 - min 12 (n + 1) + j) % 12 = nx by omega]
        exact e1
      · rw [if_neg j1]
        by_cases j2 : j < n
        · rw [if_pos (by omega), if_pos j2, show ((nx + 1) % 12 + 12 - min 12 (n + 1) + j) % 12 = (nx + 12 - n + j) % 12 by omega]
          exact cvo _ (by omega) (by omega)
        · rw [if_neg (by omega), if_neg j2]
    · funext j
      dsimp only
      unfold up
      by_cases j1 : j = n
      · rw [if_pos (by omega), if_pos j1, if_pos (by omega)]
      · rw [if_neg j1]
        by_cases j2 : j < n
        · rw [if_pos (by omega), if_pos j2, if_neg (by omega), show ((nx + 1) % 12 + 12 - min 12 (n + 1) + j) % 12 = (nx + 12 - n + j) % 12 by omega]
        · rw [if_neg (by omega), if_neg j2]
set_option maxHeartbeats 2000000 in
theorem m_139 {k : Int} (ok : Ok X h) (hw : RGv (cv h 200)) (hq : ∀ h2, Cst X h h2 → cS h2 = keepS (cS h) k → (∀ a, a < 248 → a ≠ 0 → a ≠ 4 → a ≠ 6 → h2.1 a = h.1 a ∧ h2.2 a = h.2 a) → Q none h2) : Cl X 139 [vr 0, vi k] h Q := by
  have ok0 := ok
  obtain ⟨z, os, ⟨n0, n1, gr, bn, jk⟩, om, lo⟩ := ok
  obtain ⟨⟨nb, ln, hc, hnb⟩, lp⟩ := lo
  rw [c_139]
  simp (disch := first | assumption | omega) only [e_139_0, e_139_1, e_139_2, e_139_3, e_139_4, e_139_5, e_139_6, e_139_7, onI_s, onR_s, onL_s, gl_0, gl_n, gl_1, gl_2, gl_3, gl_4, gl_5, gl_6, gl_7, gl_8, gl_9, gl_10, gl_11, gl_12, gl_13, gl_14, gl_15, gl_16, gl_17, sk0i, sk0r, sk0n, sk1i, sk1r, sk1n, sk_2, sk_3, sk_4, sk_5, sk_6, sk_7, sk_8, sk_9, sk_10, sk_11, sk_12, sk_13, sk_14, sk_15, sk_16, sk_17, ls_0, ls_1, ls_2, ls_3, ls_4, ls_5, ls_6, ls_7, ls_8, ls_9, ls_10, ls_11, ls_12, ls_13, ls_14, ls_15, ls_16, ls_17, ct1_i, ct1_r, wd8_0, wd8_i1, wd8_r1, wd8_i2, wd8_r2, wd8_i3, wd8_r3, wd8_i4, wd8_r4, wd8_i5, wd8_r5, wd8_i6, wd8_r6, wd8_i7, wd8_r7, wd8_i8, wd8_r8, wd8_l2, wd8_l3, wd8_l4, wd8_l5, wd8_l6, wd8_l7, wd8_l8, tl_s, tl_n, inR_t, bd_t, true_and, and_true, true_or, or_true, if_true_x, if_false_x, if_pos, if_neg, Int.toNat_natCast, natL, bI_0, bI_1, bI_ft, eq_self, b_tf, b_ft, not_true_eq_false, not_false_eq_true, hc.t0, hc.r0_0, hc.r0_1, hc.r0_3, hc.r0_5, hc.r0_6, hc.r0_7, hc.r0_8, hc.r0_9, hc.r0_10, hc.r0_11, hc.r0_12, hc.r0_13]
  rw [e_139_8]
  refine ⟨⟨hc.t4, by decide⟩, ?_⟩
  have ok1 : Ok X (h.1, up2 h.2 0 4 0) := by
    refine Cst.ok ok0 ⟨z, fun a q1 q2 => ⟨rfl, funext fun i => up2_oth (by omega)⟩, ⟨?_, ?_⟩, ⟨?_, ?_, ?_, ?_⟩, fun p hp => ⟨fun i => up2_oth (by omega), fun j hj i hi => up2_oth (by omega)⟩⟩
    · dsimp only; rw [up2_oth (by omega)]; exact n0
    · dsimp only; rw [up2_oth (by omega)]; exact n1
    all_goals (dsimp only; rw [up2_oth (by decide)])
  have fo : ∀ a i, a ≠ 0 → (up2 h.2 0 4 0) a i = h.2 a i := fun a i q => up2_oth q
  have f41 : ((h.1, up2 h.2 0 4 0) : xH).2 4 1 = h.2 4 1 := fo 4 1 (by omega)
  have f40 : ((h.1, up2 h.2 0 4 0) : xH).2 4 0 = h.2 4 0 := fo 4 0 (by omega)
  have cv1 : ∀ b, 200 ≤ b → cv (h.1, up2 h.2 0 4 0) b = cv h b := fun b hb => cv_congr (fun a q1 q2 => ⟨rfl, funext fun i => up2_oth (by omega)⟩)
  refine m_40 hc ok1 (by rw [cv1 200 (by omega)]; exact hw) ?_
  rw [f41, f40]
  intro h2 e1 e2 e3 e4 e5 e6 e7 e8
  simp (disch := first | assumption | omega) only [e_139_9, onI_s, onR_s, onL_s, gl_0, gl_n, gl_1, gl_2, gl_3, gl_4, gl_5, gl_6, gl_7, gl_8, gl_9, gl_10, gl_11, gl_12, gl_13, gl_14, gl_15, gl_16, gl_17, sk0i, sk0r, sk0n, sk1i, sk1r, sk1n, sk_2, sk_3, sk_4, sk_5, sk_6, sk_7, sk_8, sk_9, sk_10, sk_11, sk_12, sk_13, sk_14, sk_15, sk_16, sk_17, ls_0, ls_1, ls_2, ls_3, ls_4, ls_5, ls_6, ls_7, ls_8, ls_9, ls_10, ls_11, ls_12, ls_13, ls_14, ls_15, ls_16, ls_17, ct1_i, ct1_r, wd8_0, wd8_i1, wd8_r1, wd8_i2, wd8_r2, wd8_i3, wd8_r3, wd8_i4, wd8_r4, wd8_i5, wd8_r5, wd8_i6, wd8_r6, wd8_i7, wd8_r7, wd8_i8, wd8_r8, wd8_l2, wd8_l3, wd8_l4, wd8_l5, wd8_l6, wd8_l7, wd8_l8, tl_s, tl_n, inR_t, bd_t, true_and, and_true, true_or, or_true, if_true_x, if_false_x, if_pos, if_neg, Int.toNat_natCast, natL, bI_0, bI_1, bI_ft, eq_self, b_tf, b_ft, not_true_eq_false, not_false_eq_true]
  rw [cv1 200 (by omega)] at e1
  have g5 : ∀ a, a ≠ 6 → a ≠ 4 → a ≠ 0 → ¬ (248 + 24 * (h.2 4 1).toNat ≤ a ∧ a < 248 + 24 * (h.2 4 1).toNat + 24) → h2.1 a = h.1 a ∧ h2.2 a = h.2 a := fun a q1 q2 q3 q4 => ⟨(e5 a q1 q4).1, ((e5 a q1 q4).2 q2).trans (funext fun i => fo a i q3)⟩
  have f0 : h2.2 0 = up2 h.2 0 4 0 0 := (e5 0 (by omega) (by omega)).2 (by omega)
  refine hq h2 ⟨e8, fun a q1 q2 => g5 a (by omega) (by omega) (by omega) (by omega), ⟨?_, ?_⟩, ?_, ?_⟩ ?_ (fun a q1 q2 q3 q4 => g5 a q4 q3 q2 (by omega))
  · rw [e3]; omega
  · rw [e4, tm_n (by omega)]; omega
  · rw [(g5 7 (by omega) (by omega) (by omega) (by omega)).2, (g5 22 (by omega) (by omega) (by omega) (by omega)).2]
    exact ⟨rfl, rfl, rfl, rfl⟩
  · intro p hp
    by_cases q : 200 + 24 * p = 248 + 24 * (h.2 4 1).toNat
    · refine ⟨fun i => ?_, fun j hj i hi => ?_⟩
      · rw [q]; exact (e7 i).trans (fo _ i (by omega))
      · exact (e6 _ i (by omega) hi).trans (fo _ i (by omega))
    · refine ⟨fun i => ?_, fun j hj i hi => ?_⟩
      · rw [(g5 (200 + 24 * p) (by omega) (by omega) (by omega) (by omega)).2]
      · rw [(g5 (200 + 24 * p + j) (by omega) (by omega) (by omega) (by omega)).2]
  · have k1 := keep_h (h := h) (n := (h.2 4 0).toNat) (nx := (h.2 4 1).toNat) h2 (by omega) (by omega) (by omega) (by omega) e1 e2 e3 e4 (fun a q1 q2 => g5 a (by omega) (by omega) (by omega) q2)
    unfold cS keepS
    rw [k1, cv_congr (fun a q1 q2 => g5 a (by omega) (by omega) (by omega) (by omega)), (g5 1 (by omega) (by omega) (by omega) (by omega)).1, (g5 2 (by omega) (by omega) (by omega) (by omega)).1, (g5 3 (by omega) (by omega) (by omega) (by omega)).1, f0]
    rfl
end HIS
