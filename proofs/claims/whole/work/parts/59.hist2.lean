/-! what is kept and taken back, the reference; taken back, the class -/
def poH (H : Nat × (Nat → Nat → Nat → Int) × (Nat → Int)) : Nat × (Nat → Nat → Nat → Int) × (Nat → Int) := (H.1 - 1, (fun j => if j < H.1 - 1 then H.2.1 j else fun _ _ => 0), fun j => if j < H.1 - 1 then H.2.2 j else 0)
def spUndo (s : AS) : Int × AS := if s.2.2.2.2.2.2.1 = 0 then refS s (-4) else (s.2.2.2.2.2.2.2.2 (s.2.2.2.2.2.2.1 - 1), s.2.2.2.2.2.2.2.1 (s.2.2.2.2.2.2.1 - 1), s.2.1, s.2.2.1, s.2.2.2.1, s.2.2.2.2.1, 0, poH s.2.2.2.2.2.2)
/-- few refusals so far -/
def RFb (f : Nat → Int) : Prop := ∀ j, j < 7 → 0 ≤ f j ∧ f j ≤ 100000
section HIM
variable {X : xL} {ns nb ln : Nat} {h : xH} {I F : Nat → Nat → Int} {Q : Option xV → xH → Prop}
theorem rmU_o {U R : Nat → Int} {n j i : Nat} (hi : i < 400) (hj : j < n) (hn : n < 12) : rmU U R n (400 * j + i) = U (400 * j + i) := by
  unfold rmU cpS
  rw [if_neg (by omega), if_neg (by omega)]
theorem rmU_n {U R : Nat → Int} {n i : Nat} (hi : i < 400) (hn : n < 12) : rmU U R n (400 * n + i) = R i := by
  unfold rmU cpS
  rw [if_neg (by omega), if_pos (by omega)]
  exact congrArg R (by omega)
theorem rmU_s {U R : Nat → Int} {j i : Nat} (hi : i < 400) (hj : j < 11) : rmU U R 12 (400 * j + i) = U (400 * (j + 1) + i) := by
  unfold rmU cpS shS
  rw [if_pos rfl, if_neg (by omega), if_pos (by omega)]
  exact congrArg U (by omega)
theorem rmU_l {U R : Nat → Int} {i : Nat} (hi : i < 400) : rmU U R 12 (400 * 11 + i) = R i := by
  unfold rmU cpS
  rw [if_pos rfl, if_pos (by omega)]
  exact congrArg R (by omega)
theorem RBr_congr {R R2 : Nat → Int} (e : ∀ i, i < 400 → R2 i = R i) (r : RBr R) : RBr R2 := by
  intro k hk
  rw [e _ (by omega), e _ (by omega), e _ (by omega)]
  exact r k hk
theorem keep_m {h2 : xH} {n : Nat} {k : Int} (hn : h.2 70 9 = n) (n1 : n ≤ 12) (e1 : h2.1 74 = rmU (h.1 74) (h.1 73) n) (e2 : h2.1 75 = rmS (h.1 75) n k) (e3 : h2.2 70 9 = if n = 12 then 12 else (n : Int) + 1) (e4 : h2.2 70 2 = h.2 70 2) (e5 : h2.2 70 3 = h.2 70 3) : hM h2 = kpH (hM h) (vm h) k := by
  have f5 : (h.2 70 9).toNat = n := by omega
  unfold hM kpH
  dsimp only
  rw [f5, e4, e5, e2]
  by_cases e : n = 12
  · subst e
    rw [if_pos rfl] at e3
    rw [if_pos rfl, show (h2.2 70 9).toNat = 12 by omega]
    refine Prod.ext rfl (Prod.ext ?_ ?_)
    · funext j
      dsimp only
      by_cases j1 : j < 11
      · rw [if_pos (show j < 12 by omega), if_pos j1, if_pos (show j + 1 < 12 by omega)]
        refine rv_congr (fun i hi => ?_)
        unfold uS
        rw [e1, rmU_s hi j1]
      · rw [if_neg j1]
        by_cases j2 : j = 11
        · subst j2
          rw [if_pos (by omega), if_pos rfl]
          refine rv_congr (fun i hi => ?_)
          unfold uS
          rw [e1, rmU_l hi]
        · rw [if_neg (by omega), if_neg j2]
    · funext j
      dsimp only
      unfold rmS shS
      rw [if_pos rfl]
      by_cases j1 : j < 11
      · rw [if_pos (show j < 12 by omega), if_pos j1, if_pos (show j + 1 < 12 by omega), if_neg (show ¬ j = 11 by omega), if_pos j1]
      · by_cases j2 : j = 11
        · simp [j2]
        · have j3 : ¬ j < 12 := by omega
          simp [j1, j2, j3]
  · rw [if_neg e] at e3
    rw [if_neg e, show (h2.2 70 9).toNat = n + 1 by omega]
    refine Prod.ext rfl (Prod.ext ?_ ?_)
    · funext j
      dsimp only
      by_cases j1 : j = n
      · subst j1
        rw [if_pos (by omega), if_pos rfl]
        refine rv_congr (fun i hi => ?_)
        unfold uS
        rw [e1, rmU_n hi (by omega)]
      · rw [if_neg j1]
        by_cases j2 : j < n
        · rw [if_pos (by omega), if_pos j2]
          refine rv_congr (fun i hi => ?_)
          unfold uS
          rw [e1, rmU_o hi j2 (by omega)]
        · rw [if_neg (by omega), if_neg j2]
    · funext j
      dsimp only
      unfold rmS
      rw [if_neg e]
      by_cases j1 : j = n
      · rw [if_pos (by omega), if_pos j1, if_pos j1]
      · rw [if_neg j1, if_neg j1]
        by_cases j2 : j < n
        · rw [if_pos (by omega), if_pos j2]
        · rw [if_neg (by omega), if_neg j2]
set_option maxHeartbeats 2000000 in
theorem m_156s {k : Int} (ok : Ok X h) (hq : ∀ h2, Mst X h h2 → hM h2 = kpH (hM h) (vm h) k → (∀ a, a ≠ 70 → a ≠ 74 → a ≠ 75 → h2.1 a = h.1 a ∧ h2.2 a = h.2 a) → (∀ i, i ≠ 9 → h2.2 70 i = h.2 70 i) → Q none h2) : Cl X 156 [vr 70, vi k] h Q := by
  obtain ⟨z, os, oc, ⟨om1, om2, om3⟩, ⟨nb, ln, hc, hnb⟩, lp⟩ := ok
  rw [m_156 hc (n := (h.2 70 9).toNat) (by omega) (by omega)]
  have fa : ∀ a, a ≠ 74 → a ≠ 75 → (up1 (up1 h.1 74 (rmU (h.1 74) (h.1 73) (h.2 70 9).toNat)) 75 (rmS (h.1 75) (h.2 70 9).toNat k)) a = h.1 a := fun a q1 q2 => by rw [up1_o q2, up1_o q1]
  have f74 : (up1 (up1 h.1 74 (rmU (h.1 74) (h.1 73) (h.2 70 9).toNat)) 75 (rmS (h.1 75) (h.2 70 9).toNat k)) 74 = rmU (h.1 74) (h.1 73) (h.2 70 9).toNat := by rw [up1_o (by omega), up1_self]
  refine hq _ ⟨?_, ?_, ?_, ?_⟩ (keep_m (n := (h.2 70 9).toNat) (by omega) (by omega) ?_ ?_ ?_ ?_ ?_) ?_ ?_
  · intro a j ht hz
    dsimp only
    by_cases a1 : a = 75
    · subst a1
      rw [hc.z75] at hz
      rw [up1_self]
      unfold rmS shS
      have := z 75 j ht (by rw [hc.z75]; omega)
      split
      · dsimp only; rw [if_neg (by omega), if_neg (by omega)]; exact this
      · dsimp only; rw [if_neg (by omega)]; exact this
    · rw [up1_o a1]
      by_cases a2 : a = 74
      · subst a2
        rw [hc.z74] at hz
        rw [up1_self]
        unfold rmU cpS shS
        have := z 74 j ht (by rw [hc.z74]; omega)
        split
        · dsimp only; rw [if_neg (by omega), if_neg (by omega)]; exact this
        · dsimp only; rw [if_neg (by omega)]; exact this
      · rw [up1_o a2]; exact z a j ht hz
  · intro a q
    exact ⟨fa a (by omega) (by omega), funext fun i => up2_oth (by omega)⟩
  · dsimp only; rw [up2_same, up2_same, if_neg (by omega), if_neg (by omega)]; exact ⟨rfl, rfl⟩
  · refine ⟨?_, ?_, ?_⟩
    · dsimp only; rw [up2_self]; split <;> omega
    · dsimp only; rw [fa 73 (by omega) (by omega)]; exact om2
    · dsimp only
      rw [up2_self]
      intro j hj
      unfold uS
      dsimp only
      rw [f74]
      by_cases e : (h.2 70 9).toNat = 12
      · rw [if_pos e] at hj
        rw [e]
        by_cases j1 : j < 11
        · exact RBr_congr (fun i hi => rmU_s hi j1) (om3 (j + 1) (by omega))
        · have : j = 11 := by omega
          subst this
          exact RBr_congr (fun i hi => rmU_l hi) om2
      · rw [if_neg e] at hj
        by_cases j1 : j < (h.2 70 9).toNat
        · exact RBr_congr (fun i hi => rmU_o hi j1 (by omega)) (om3 j j1)
        · have : j = (h.2 70 9).toNat := by omega
          subst this
          exact RBr_congr (fun i hi => rmU_n hi (by omega)) om2
  · exact f74
  · dsimp only; rw [up1_self]
  · dsimp only; rw [up2_self]
  · dsimp only; rw [up2_same, if_neg (by omega)]
  · dsimp only; rw [up2_same, if_neg (by omega)]
  · intro a q1 q2 q3
    exact ⟨fa a q2 q3, funext fun i => up2_oth q1⟩
  · intro i q
    dsimp only
    rw [up2_same, if_neg q]
theorem up2_of {f : Nat → Nat → Int} {a k b : Nat} {v : Int} (h : b ≠ a) : up2 f a k v b = f b := funext fun j => up2_oth h
theorem nz_u {a j : Nat} {x : Int} {F2 : Nat → Nat → Int} (z : NZ X h) (hj : j < X.2.1 a) : NZ X (up2 h.1 a j x, F2) := NZ.up (I := h.1) (F := h.2) z hj
/-- a step of the class that changes rows 0 to 6 and fields of 0 alone -/
theorem Cst.few {I2 F2 : Nat → Nat → Int} (ok : Ok X h) (z : NZ X (I2, F2)) (e1 : ∀ a, 7 ≤ a → I2 a = h.1 a) (e2 : ∀ a, a ≠ 0 → F2 a = h.2 a) : Cst X h (I2, F2) := by
  obtain ⟨_, os, ⟨n0, n1, gr, bn, jk⟩, om, lo⟩ := ok
  refine ⟨z, fun a q1 q2 => ⟨e1 a (by omega), e2 a (by omega)⟩, ?_, ?_, fun p hp => ⟨fun i => ?_, fun j hj i hi => ?_⟩⟩
  · dsimp only; rw [e2 4 (by omega)]; exact ⟨n0, n1⟩
  · dsimp only; rw [e2 7 (by omega), e2 22 (by omega)]; exact ⟨rfl, rfl, rfl, rfl⟩
  · dsimp only; rw [e2 _ (by omega)]
  · dsimp only; rw [e2 _ (by omega)]
theorem Mst.few {I2 F2 : Nat → Nat → Int} (ok : Ok X h) (z : NZ X (I2, F2)) (e1 : ∀ a, ¬ (70 ≤ a ∧ a < 96) → I2 a = h.1 a) (e0 : I2 73 = h.1 73) (e3 : I2 74 = h.1 74) (e2 : ∀ a, a ≠ 70 → F2 a = h.2 a) (e4 : F2 70 2 = h.2 70 2) (e5 : F2 70 3 = h.2 70 3) (e6 : F2 70 9 = h.2 70 9) : Mst X h (I2, F2) := by
  obtain ⟨_, os, oc, om, lo⟩ := ok
  refine ⟨z, fun a q => ⟨e1 a q, e2 a (by omega)⟩, ⟨e4, e5⟩, ?_⟩
  unfold OkM uS
  dsimp only
  rw [e0, e3, e6]
  exact om
set_option maxHeartbeats 1000000 in
theorem p_138 {x : Int} (ok : Ok X h) (rf : RFb (h.1 3)) (h0 : -6 ≤ x) (h1 : x ≤ 0) (hq : ∀ h2, Cst X h h2 → cS h2 = (refS (cS h) x).2 → Q (some (vi x)) h2) : Cl X 138 [vr 0, vi x] h Q := by
  have ok0 := ok
  obtain ⟨z, os, oc, om, ⟨nb, ln, hc, hnb⟩, lp⟩ := ok
  have r := rf (-x).toNat (by omega)
  rw [m_138 hc h0 h1 r.1 r.2]
  refine hq _ (Cst.few ok0 (nz_u z (by rw [hc.z3]; omega)) (fun a q => funext fun i => up2_oth (by omega)) (fun a q => funext fun i => up2_oth q)) ?_
  unfold cS refS
  dsimp only
  refine Prod.ext (cv_congr (fun a q1 q2 => ⟨funext fun i => up2_oth (by omega), funext fun i => up2_oth (by omega)⟩)) (Prod.ext ?_ (Prod.ext ?_ (Prod.ext ?_ (Prod.ext ?_ (Prod.ext ?_ ?_)))))
  · funext i; dsimp only; rw [up2_oth (by omega)]
  · funext i; dsimp only; rw [up2_oth (by omega)]
  · dsimp only; rw [up2_same, if_neg (by omega)]
  · funext j; dsimp only; rw [up2_same]; rfl
  · dsimp only; rw [up2_self]
  · have e1 : up2 h.2 0 4 x 4 = h.2 4 := up2_of (by decide)
    have e2 : up2 h.1 3 (-x).toNat (h.1 3 (-x).toNat + 1) 6 = h.1 6 := up2_of (by decide)
    exact hC_congr e1 e2 (fun a q1 q2 => ⟨funext fun i => up2_oth (by omega), funext fun i => up2_oth (by omega)⟩)
set_option maxHeartbeats 1000000 in
theorem p_154 {x : Int} (ok : Ok X h) (rf : RFb (h.1 71)) (h0 : -6 ≤ x) (h1 : x ≤ 0) (hq : ∀ h2, Mst X h h2 → mS h2 = (refS (mS h) x).2 → Q (some (vi x)) h2) : Cl X 154 [vr 70, vi x] h Q := by
  have ok0 := ok
  obtain ⟨z, os, oc, om, ⟨nb, ln, hc, hnb⟩, lp⟩ := ok
  have r := rf (-x).toNat (by omega)
  rw [m_154 hc h0 h1 r.1 r.2]
  refine hq _ (Mst.few ok0 (nz_u z (by rw [hc.z71]; omega)) (fun a q => funext fun i => up2_oth (by omega)) (funext fun i => up2_oth (by omega)) (funext fun i => up2_oth (by omega)) (fun a q => funext fun i => up2_oth q) ?_ ?_ ?_) ?_
  · rw [up2_same, if_neg (by omega)]
  · rw [up2_same, if_neg (by omega)]
  · rw [up2_same, if_neg (by omega)]
  unfold mS refS hM vm uS
  dsimp only
  simp only [up2_same, show ¬ (2 : Nat) = 1 by omega, show ¬ (3 : Nat) = 1 by omega, show ¬ (9 : Nat) = 1 by omega, show ¬ (13 : Nat) = 1 by omega, if_false_x, if_true_x]
  have e := fun a (q : a ≠ 71) => (funext fun i => up2_oth q : up2 h.1 71 (-x).toNat (h.1 71 (-x).toNat + 1) a = h.1 a)
  rw [e 73 (by omega), e 72 (by omega), e 78 (by omega), e 75 (by omega), e 74 (by omega)]
  refine Prod.ext rfl (Prod.ext rfl (Prod.ext rfl (Prod.ext rfl (Prod.ext ?_ rfl))))
  funext j; dsimp only; rw [up2_same]; rfl
/-- to tell: status 0 -/
theorem mS_st {x : Int} : mS (h.1, up2 h.2 70 1 x) = ((mS h).1, (mS h).2.1, (mS h).2.2.1, (mS h).2.2.2.1, (mS h).2.2.2.2.1, x, (mS h).2.2.2.2.2.2) := by
  unfold mS hM vm uS
  dsimp only
  simp only [up2_same, show ¬ (2 : Nat) = 1 by omega, show ¬ (3 : Nat) = 1 by omega, show ¬ (9 : Nat) = 1 by omega, show ¬ (13 : Nat) = 1 by omega, if_false_x, if_true_x]
theorem mS_th {x : Int} : mS (h.1, up2 h.2 70 0 x) = mS h := by
  unfold mS hM vm uS
  dsimp only
  simp only [up2_same, show ¬ (2 : Nat) = 0 by omega, show ¬ (3 : Nat) = 0 by omega, show ¬ (9 : Nat) = 0 by omega, show ¬ (13 : Nat) = 0 by omega, show ¬ (1 : Nat) = 0 by omega, if_false_x, if_true_x]
theorem ok_f {k : Nat} {x : Int} (ok : Ok X h) (hk : k = 0 ∨ k = 1 ∨ k = 13) : Mst X h (h.1, up2 h.2 70 k x) := by
  refine Mst.few ok ok.1 (fun a q => rfl) rfl rfl (fun a q => funext fun i => up2_oth q) ?_ ?_ ?_
  all_goals (rw [up2_same, if_neg (by omega)])
theorem Mst.tr {h2 h3 : xH} (a : Mst X h h2) (b : Mst X h2 h3) : Mst X h h3 := ⟨b.1, fun k q => ⟨(b.2.1 k q).1.trans (a.2.1 k q).1, (b.2.1 k q).2.trans (a.2.1 k q).2⟩, ⟨b.2.2.1.1.trans a.2.2.1.1, b.2.2.1.2.trans a.2.2.1.2⟩, b.2.2.2⟩
theorem Cst.tr {h2 h3 : xH} (a : Cst X h h2) (b : Cst X h2 h3) : Cst X h h3 := ⟨b.1, fun k q1 q2 => ⟨(b.2.1 k q1 q2).1.trans (a.2.1 k q1 q2).1, (b.2.1 k q1 q2).2.trans (a.2.1 k q1 q2).2⟩, b.2.2.1, ⟨b.2.2.2.1.1.trans a.2.2.2.1.1, b.2.2.2.1.2.1.trans a.2.2.2.1.2.1, b.2.2.2.1.2.2.1.trans a.2.2.2.1.2.2.1, b.2.2.2.1.2.2.2.trans a.2.2.2.1.2.2.2⟩, fun p hp => ⟨fun i => ((b.2.2.2.2 p hp).1 i).trans ((a.2.2.2.2 p hp).1 i), fun j hj i hi => ((b.2.2.2.2 p hp).2 j hj i hi).trans ((a.2.2.2.2 p hp).2 j hj i hi)⟩⟩
/-- the reference refuses, thrown set first -/
theorem p_154t {x : Int} (ok : Ok X h) (rf : RFb (h.1 71)) (h0 : -6 ≤ x) (h1 : x ≤ 0) (hq : ∀ h2, Mst X h h2 → mS h2 = (refS (mS h) x).2 → Q (some (vi x)) h2) : Cl X 154 [vr 70, vi x] (h.1, up2 h.2 70 0 0) Q := by
  have o := ok_f (x := 0) ok (Or.inl rfl)
  refine p_154 (Mst.ok ok o) rf h0 h1 (fun h2 a b => hq h2 (o.tr a) ?_)
  rw [b, mS_th]
set_option maxHeartbeats 2000000 in
theorem p_157 (ok : Ok X h) (rf : RFb (h.1 71)) (hq : ∀ h2, Mst X h h2 → mS h2 = (spUndo (mS h)).2 → Q (some (vi (spUndo (mS h)).1)) h2) : Cl X 157 [vr 70] h Q := by
  have ok0 := ok
  obtain ⟨z, os, oc, ⟨om1, om2, om3⟩, ⟨nb, ln, hc, hnb⟩, lp⟩ := ok
  have en : (mS h).2.2.2.2.2.2.1 = (h.2 70 9).toNat := rfl
  rw [c_157]
  unfold spUndo at hq
  rw [en] at hq
  by_cases e : h.2 70 9 = 0
  · rw [if_pos (by omega)] at hq
    simp (disch := first | assumption | omega) only [e_157_0, e_157_1, e_157_2, e_157_3, e_157_4, e_157_5, e_157_6, e_157_7, onI_s, onR_s, onL_s, gl_0, gl_n, gl_1, gl_2, gl_3, gl_4, gl_5, gl_6, gl_7, gl_8, gl_9, gl_10, gl_11, gl_12, gl_13, gl_14, gl_15, gl_16, gl_17, sk0i, sk0r, sk0n, sk1i, sk1r, sk1n, sk_2, sk_3, sk_4, sk_5, sk_6, sk_7, sk_8, sk_9, sk_10, sk_11, sk_12, sk_13, sk_14, sk_15, sk_16, sk_17, ls_0, ls_1, ls_2, ls_3, ls_4, ls_5, ls_6, ls_7, ls_8, ls_9, ls_10, ls_11, ls_12, ls_13, ls_14, ls_15, ls_16, ls_17, ct1_i, ct1_r, wd8_0, wd8_i1, wd8_r1, wd8_i2, wd8_r2, wd8_i3, wd8_r3, wd8_i4, wd8_r4, wd8_i5, wd8_r5, wd8_i6, wd8_r6, wd8_i7, wd8_r7, wd8_i8, wd8_r8, wd8_l2, wd8_l3, wd8_l4, wd8_l5, wd8_l6, wd8_l7, wd8_l8, tl_s, tl_n, inR_t, bd_t, true_and, and_true, true_or, or_true, if_true_x, if_false_x, if_pos, if_neg, Int.toNat_natCast, natL, bI_0, bI_1, bI_ft, eq_self, b_tf, b_ft, not_true_eq_false, not_false_eq_true, up2_same, e, hc.t70, hc.r70_4, hc.r70_5, hc.r70_6, hc.r70_7, hc.r70_8, hc.r70_10, hc.r70_11, hc.r70_12, hc.r70_14, hc.r70_15, hc.r70_16, hc.r70_17, hc.r70_19, hc.r70_21, hc.r70_23, hc.r70_24, hc.r70_26, hc.r70_27, hc.r70_28, hc.r70_29, hc.r70_30, hc.r70_31, hc.r70_32, hc.r70_33, hc.r70_36]
    rw [e_157_8]
    refine ⟨⟨hc.t70, by decide⟩, ?_⟩
    refine p_154t ok0 rf (by omega) (by omega) (fun h2 a b => ?_)
    simp (disch := first | assumption | omega) only [e_157_9, onI_s, onR_s, onL_s, gl_0, gl_n, gl_1, gl_2, gl_3, gl_4, gl_5, gl_6, gl_7, gl_8, gl_9, gl_10, gl_11, gl_12, gl_13, gl_14, gl_15, gl_16, gl_17, sk0i, sk0r, sk0n, sk1i, sk1r, sk1n, sk_2, sk_3, sk_4, sk_5, sk_6, sk_7, sk_8, sk_9, sk_10, sk_11, sk_12, sk_13, sk_14, sk_15, sk_16, sk_17, ls_0, ls_1, ls_2, ls_3, ls_4, ls_5, ls_6, ls_7, ls_8, ls_9, ls_10, ls_11, ls_12, ls_13, ls_14, ls_15, ls_16, ls_17, ct1_i, ct1_r, wd8_0, wd8_i1, wd8_r1, wd8_i2, wd8_r2, wd8_i3, wd8_r3, wd8_i4, wd8_r4, wd8_i5, wd8_r5, wd8_i6, wd8_r6, wd8_i7, wd8_r7, wd8_i8, wd8_r8, wd8_l2, wd8_l3, wd8_l4, wd8_l5, wd8_l6, wd8_l7, wd8_l8, tl_s, tl_n, inR_t, bd_t, true_and, and_true, true_or, or_true, if_true_x, if_false_x, if_pos, if_neg, Int.toNat_natCast, natL, bI_0, bI_1, bI_ft, eq_self, b_tf, b_ft, not_true_eq_false, not_false_eq_true]
    exact hq h2 a b
  · rw [if_neg (by omega)] at hq
    simp (disch := first | assumption | omega) only [e_157_0, e_157_1, e_157_2, e_157_3, e_157_4, e_157_5, e_157_10, e_157_11, e_157_12, e_157_13, e_157_14, e_157_15, e_157_16, e_157_17, e_157_18, e_157_19, e_157_20, e_157_21, e_157_22, e_157_23, e_157_24, e_157_25, e_157_26, e_157_27, e_157_28, e_157_29, e_157_30, e_157_31, e_157_32, e_157_33, onI_s, onR_s, onL_s, gl_0, gl_n, gl_1, gl_2, gl_3, gl_4, gl_5, gl_6, gl_7, gl_8, gl_9, gl_10, gl_11, gl_12, gl_13, gl_14, gl_15, gl_16, gl_17, sk0i, sk0r, sk0n, sk1i, sk1r, sk1n, sk_2, sk_3, sk_4, sk_5, sk_6, sk_7, sk_8, sk_9, sk_10, sk_11, sk_12, sk_13, sk_14, sk_15, sk_16, sk_17, ls_0, ls_1, ls_2, ls_3, ls_4, ls_5, ls_6, ls_7, ls_8, ls_9, ls_10, ls_11, ls_12, ls_13, ls_14, ls_15, ls_16, ls_17, ct1_i, ct1_r, wd8_0, wd8_i1, wd8_r1, wd8_i2, wd8_r2, wd8_i3, wd8_r3, wd8_i4, wd8_r4, wd8_i5, wd8_r5, wd8_i6, wd8_r6, wd8_i7, wd8_r7, wd8_i8, wd8_r8, wd8_l2, wd8_l3, wd8_l4, wd8_l5, wd8_l6, wd8_l7, wd8_l8, tl_s, tl_n, inR_t, bd_t, true_and, and_true, true_or, or_true, if_true_x, if_false_x, if_pos, if_neg, Int.toNat_natCast, natL, bI_0, bI_1, bI_ft, eq_self, b_tf, b_ft, not_true_eq_false, not_false_eq_true, up2_same, up1_o, m_155_74_73 hc, m_153 hc, e, show ¬ (9 : Nat) = 0 from (by decide), hc.t70, hc.r70_4, hc.r70_5, hc.r70_6, hc.r70_7, hc.r70_8, hc.r70_10, hc.r70_11, hc.r70_12, hc.r70_14, hc.r70_15, hc.r70_16, hc.r70_17, hc.r70_19, hc.r70_21, hc.r70_23, hc.r70_24, hc.r70_26, hc.r70_27, hc.r70_28, hc.r70_29, hc.r70_30, hc.r70_31, hc.r70_32, hc.r70_33, hc.r70_36, hc.t75, hc.z75]
    have hn : h.2 70 9 - 1 = (((h.2 70 9).toNat - 1 : Nat) : Int) := by omega
    rw [hn, show (400 * (((h.2 70 9).toNat - 1 : Nat) : Int)).toNat = 400 * ((h.2 70 9).toNat - 1) by omega, show (((h.2 70 9).toNat - 1 : Nat) : Int).toNat = (h.2 70 9).toNat - 1 by omega]
    have ha : (mS h).2.2.2.2.2.2.2.2 ((h.2 70 9).toNat - 1) = h.1 75 ((h.2 70 9).toNat - 1) := by
      show (if (h.2 70 9).toNat - 1 < (h.2 70 9).toNat then h.1 75 ((h.2 70 9).toNat - 1) else 0) = _
      rw [if_pos (by omega)]
    have hv : (mS h).2.2.2.2.2.2.2.1 ((h.2 70 9).toNat - 1) = rv (uS h ((h.2 70 9).toNat - 1)) (h.2 70 2) (h.2 70 3) := by
      show (if (h.2 70 9).toNat - 1 < (h.2 70 9).toNat then rv (uS h ((h.2 70 9).toNat - 1)) (h.2 70 2) (h.2 70 3) else fun _ _ => 0) = _
      rw [if_pos (by omega)]
    rw [ha, hv] at hq
    have cp : ∀ i, i < 400 → cpS (h.1 74) (h.1 73) (400 * ((h.2 70 9).toNat - 1)) 0 400 i = uS h ((h.2 70 9).toNat - 1) i := by
      intro i hi
      unfold cpS uS
      rw [if_pos (by omega), Nat.sub_zero]
    refine hq _ ⟨?_, ?_, ?_, ?_⟩ ?_
    · refine NZ.cg (I := h.1) (F := h.2) z ?_
      intro j hj
      rw [hc.z73] at hj
      unfold cpS
      rw [if_neg (by omega)]
      exact z 73 j (Or.inl hc.t73) (by rw [hc.z73]; exact hj)
    · intro a q
      exact ⟨up1_o (by omega), by dsimp only; rw [up2_of (by omega), up2_of (by omega), up2_of (by omega)]⟩
    · dsimp only; simp [up2_same]
    · refine ⟨?_, ?_, ?_⟩
      · dsimp only; simp only [up2_same]; simp; omega
      · dsimp only; rw [up1_self]
        exact RBr_congr cp (om3 _ (by omega))
      · intro j hj
        dsimp only at hj
        simp [up2_same] at hj
        refine RBr_congr (fun i hi => ?_) (om3 j (by omega))
        unfold uS
        dsimp only
        rw [up1_o (by decide)]
    · unfold mS hM vm poH uS
      dsimp only
      rw [up1_self, up1_o (show 72 ≠ 73 by decide), up1_o (show 78 ≠ 73 by decide), up1_o (show 71 ≠ 73 by decide), up1_o (show 74 ≠ 73 by decide), up1_o (show 75 ≠ 73 by decide)]
      simp only [up2_same]
      refine Prod.ext (rv_congr cp) (Prod.ext rfl (Prod.ext rfl (Prod.ext rfl (Prod.ext rfl (Prod.ext rfl (Prod.ext ?_ (Prod.ext ?_ ?_)))))))
      · simp
      · funext j
        simp only [show (9 : Nat) ≠ 1 by decide, if_true_x, if_false_x, Int.toNat_natCast]
        simp
        by_cases q : j < (h.2 70 9).toNat - 1
        · rw [if_pos q, if_pos q, if_pos (by omega)]
        · rw [if_neg q, if_neg q]
      · funext j
        simp
        by_cases q : j < (h.2 70 9).toNat - 1
        · rw [if_pos q, if_pos q, if_pos (by omega)]
        · rw [if_neg q, if_neg q]
end HIM
