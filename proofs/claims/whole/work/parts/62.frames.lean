/-! FRAMES: what the class's own work leaves as it was (Fz), what the reference's does (Fm) -/
def Fz (X : xL) (h h2 : xH) : Prop := NZ X h2 ∧ (∀ a, a < 7 ∨ (70 ≤ a ∧ a < 200) ∨ 248 ≤ a → h2.1 a = h.1 a ∧ h2.2 a = h.2 a) ∧ (h2.2 7 0 = h.2 7 0 ∧ h2.2 7 1 = h.2 7 1 ∧ h2.2 22 0 = h.2 22 0 ∧ h2.2 22 1 = h.2 22 1) ∧ ∀ p, p < 2 → (∀ i, h2.2 (200 + 24 * p) i = h.2 (200 + 24 * p) i) ∧ ∀ j, j = 1 ∨ j = 6 ∨ j = 11 ∨ j = 19 → ∀ i, i ≠ 0 → h2.2 (200 + 24 * p + j) i = h.2 (200 + 24 * p + j) i
def Fm (X : xL) (h h2 : xH) : Prop := NZ X h2 ∧ (∀ a, ¬ (70 ≤ a ∧ a < 96) → h2.1 a = h.1 a ∧ h2.2 a = h.2 a) ∧ (∀ a, a = 71 ∨ a = 72 ∨ a = 74 ∨ a = 75 ∨ a = 78 → h2.1 a = h.1 a) ∧ (∀ k, k = 1 ∨ k = 2 ∨ k = 3 ∨ k = 9 ∨ k = 13 → h2.2 70 k = h.2 70 k) ∧ RBr (h2.1 73)
section FRZ
variable {X : xL} {h h2 h3 : xH} {I F : Nat → Nat → Int}
theorem Fz.refl (z : NZ X h) : Fz X h h := ⟨z, fun _ _ => ⟨rfl, rfl⟩, ⟨rfl, rfl, rfl, rfl⟩, fun _ _ => ⟨fun _ => rfl, fun _ _ _ _ => rfl⟩⟩
theorem Fz.tr (a : Fz X h h2) (b : Fz X h2 h3) : Fz X h h3 := ⟨b.1, fun k q => ⟨(b.2.1 k q).1.trans (a.2.1 k q).1, (b.2.1 k q).2.trans (a.2.1 k q).2⟩, ⟨b.2.2.1.1.trans a.2.2.1.1, b.2.2.1.2.1.trans a.2.2.1.2.1, b.2.2.1.2.2.1.trans a.2.2.1.2.2.1, b.2.2.1.2.2.2.trans a.2.2.1.2.2.2⟩, fun p hp => ⟨fun i => ((b.2.2.2 p hp).1 i).trans ((a.2.2.2 p hp).1 i), fun j hj i hi => ((b.2.2.2 p hp).2 j hj i hi).trans ((a.2.2.2 p hp).2 j hj i hi)⟩⟩
theorem Fz.cst (ok : Ok X h) (f : Fz X h h2) : Cst X h h2 := by
  obtain ⟨_, os, ⟨n0, n1, gr, bn, jk⟩, om, lo⟩ := ok
  obtain ⟨f1, f2, f3, f4⟩ := f
  refine ⟨f1, fun a q1 q2 => f2 a (by omega), ?_, f3, fun p hp => ?_⟩
  · rw [(f2 4 (by omega)).2]; exact ⟨n0, n1⟩
  · by_cases q : p < 2
    · exact f4 p q
    · refine ⟨fun i => ?_, fun j hj i hi => ?_⟩
      · rw [(f2 (200 + 24 * p) (by omega)).2]
      · rw [(f2 (200 + 24 * p + j) (by omega)).2]
theorem Fz.ok (ok : Ok X h) (f : Fz X h h2) : Ok X h2 := Cst.ok ok (f.cst ok)
theorem Fz.cs (f : Fz X h h2) : cS h2 = (cv h2 200, (cS h).2) := by
  obtain ⟨f1, f2, f3, f4⟩ := f
  have a := fun k (q : k < 7 ∨ (70 ≤ k ∧ k < 200) ∨ 248 ≤ k) => f2 k q
  unfold cS
  rw [(a 1 (by omega)).1, (a 2 (by omega)).1, (a 0 (by omega)).2, (a 3 (by omega)).1, hC_congr (a 4 (by omega)).2 (a 6 (by omega)).1 (fun k q1 q2 => a k (by omega))]
theorem Fz.t (f : Fz X h h2) : h2.1 1 = h.1 1 := (f.2.1 1 (by omega)).1
theorem Fz.uI {a j : Nat} {x : Int} (f : Fz X h (I, F)) (ha : (7 ≤ a ∧ a < 70) ∨ (200 ≤ a ∧ a < 248)) (hj : j < X.2.1 a) : Fz X h (up2 I a j x, F) := by
  obtain ⟨f1, f2, f3, f4⟩ := f
  exact ⟨NZ.up f1 hj, fun k q => ⟨(up2_of (by omega)).trans (f2 k q).1, (f2 k q).2⟩, f3, f4⟩
theorem Fz.I1 {a : Nat} {g : Nat → Int} (f : Fz X h (I, F)) (ha : (7 ≤ a ∧ a < 70) ∨ (200 ≤ a ∧ a < 248)) (hg : ∀ j, X.2.1 a ≤ j → g j = 0) : Fz X h (up1 I a g, F) := by
  obtain ⟨f1, f2, f3, f4⟩ := f
  exact ⟨NZ.cg f1 hg, fun k q => ⟨(up1_o (by omega)).trans (f2 k q).1, (f2 k q).2⟩, f3, f4⟩
theorem Fz.uF {a k : Nat} {x : Int} (f : Fz X h (I, F)) (ha : (7 ≤ a ∧ a < 70 ∧ (a = 7 → 2 ≤ k) ∧ (a = 22 → 2 ≤ k)) ∨ (k = 0 ∧ (a = 201 ∨ a = 206 ∨ a = 211 ∨ a = 219 ∨ a = 225 ∨ a = 230 ∨ a = 235 ∨ a = 243))) : Fz X h (I, up2 F a k x) := by
  obtain ⟨f1, f2, f3, f4⟩ := f
  have o : ∀ b i, ¬ (b = a ∧ i = k) → up2 F a k x b i = F b i := fun b i q => by rw [up2_eq, if_neg q]
  refine ⟨f1, fun b q => ⟨(f2 b q).1, (up2_of (by omega)).trans (f2 b q).2⟩, ?_, fun p hp => ⟨fun i => ?_, fun j hj i hi => ?_⟩⟩
  · dsimp only
    rw [o 7 0 (by omega), o 7 1 (by omega), o 22 0 (by omega), o 22 1 (by omega)]
    exact f3
  · exact (o _ i (by omega)).trans ((f4 p hp).1 i)
  · exact (o _ i (by omega)).trans ((f4 p hp).2 j hj i hi)
theorem Fz.sbx {l r lo hi : Int} (f : Fz X h (I, F)) : Fz X h (I, sb F l r lo hi) := by
  rw [← sb_4u]
  exact Fz.uF (Fz.uF (Fz.uF (Fz.uF f (by omega)) (by omega)) (by omega)) (by omega)
theorem Fz.wbb {v : Nat → Nat → Int} {m : Nat} (f : Fz X h (I, F)) : Fz X h (I, wbx F v m) := by
  cases m with
  | zero => exact f
  | succ m => exact f.sbx
theorem Fm.refl (ok : Ok X h) : Fm X h h := ⟨ok.1, fun _ _ => ⟨rfl, rfl⟩, fun _ _ => rfl, fun _ _ => rfl, ok.2.2.2.1.2.1⟩
theorem Fm.tr (a : Fm X h h2) (b : Fm X h2 h3) : Fm X h h3 := ⟨b.1, fun k q => ⟨(b.2.1 k q).1.trans (a.2.1 k q).1, (b.2.1 k q).2.trans (a.2.1 k q).2⟩, fun k q => (b.2.2.1 k q).trans (a.2.2.1 k q), fun k q => (b.2.2.2.1 k q).trans (a.2.2.2.1 k q), b.2.2.2.2⟩
theorem Fm.mst (ok : Ok X h) (f : Fm X h h2) : Mst X h h2 := by
  obtain ⟨_, os, oc, ⟨m1, m2, m3⟩, lo⟩ := ok
  obtain ⟨f1, f2, f3, f4, f5⟩ := f
  refine ⟨f1, f2, ⟨f4 2 (by omega), f4 3 (by omega)⟩, ?_⟩
  unfold OkM uS
  rw [f4 9 (by omega), f3 74 (by omega)]
  exact ⟨m1, f5, m3⟩
theorem Fm.ok (ok : Ok X h) (f : Fm X h h2) : Ok X h2 := Mst.ok ok (f.mst ok)
theorem Fm.ms (f : Fm X h h2) : mS h2 = (vm h2, (mS h).2) := by
  obtain ⟨f1, f2, f3, f4, f5⟩ := f
  unfold mS hM uS
  rw [f3 71 (by omega), f3 72 (by omega), f3 74 (by omega), f3 75 (by omega), f3 78 (by omega), f4 1 (by omega), f4 2 (by omega), f4 3 (by omega), f4 9 (by omega), f4 13 (by omega)]
theorem Fm.t (f : Fm X h h2) : h2.1 72 = h.1 72 := f.2.2.1 72 (by omega)
theorem Fm.uI {a j : Nat} {x : Int} (f : Fm X h (I, F)) (ha : a = 76 ∨ a = 77 ∨ (79 ≤ a ∧ a < 96)) (hj : j < X.2.1 a) : Fm X h (up2 I a j x, F) := by
  obtain ⟨f1, f2, f3, f4, f5⟩ := f
  refine ⟨NZ.up f1 hj, fun k q => ⟨(up2_of (by omega)).trans (f2 k q).1, (f2 k q).2⟩, fun k q => (up2_of (by omega)).trans (f3 k q), f4, ?_⟩
  dsimp only
  rw [up2_of (by omega)]
  exact f5
theorem Fm.I1 {a : Nat} {g : Nat → Int} (f : Fm X h (I, F)) (ha : a = 76 ∨ a = 77 ∨ (79 ≤ a ∧ a < 96)) (hg : ∀ j, X.2.1 a ≤ j → g j = 0) : Fm X h (up1 I a g, F) := by
  obtain ⟨f1, f2, f3, f4, f5⟩ := f
  refine ⟨NZ.cg f1 hg, fun k q => ⟨(up1_o (by omega)).trans (f2 k q).1, (f2 k q).2⟩, fun k q => (up1_o (by omega)).trans (f3 k q), f4, ?_⟩
  dsimp only
  rw [up1_o (by omega)]
  exact f5
theorem Fm.I73 {j : Nat} {x : Int} (f : Fm X h (I, F)) (h4 : j < 4 ∨ 24 ≤ j) (hj : j < X.2.1 73) : Fm X h (up2 I 73 j x, F) := by
  obtain ⟨f1, f2, f3, f4, f5⟩ := f
  refine ⟨NZ.up f1 hj, fun k q => ⟨(up2_of (by omega)).trans (f2 k q).1, (f2 k q).2⟩, fun k q => (up2_of (by omega)).trans (f3 k q), f4, ?_⟩
  intro k hk
  dsimp only
  rw [up2_same, up2_same, up2_same, if_neg (by omega), if_neg (by omega), if_neg (by omega)]
  exact f5 k hk
theorem Fm.R73 {g : Nat → Int} (f : Fm X h (I, F)) (hg : ∀ j, X.2.1 73 ≤ j → g j = 0) (hr : RBr g) : Fm X h (up1 I 73 g, F) := by
  obtain ⟨f1, f2, f3, f4, f5⟩ := f
  refine ⟨NZ.cg f1 hg, fun k q => ⟨(up1_o (by omega)).trans (f2 k q).1, (f2 k q).2⟩, fun k q => (up1_o (by omega)).trans (f3 k q), f4, ?_⟩
  dsimp only
  rw [up1_self]
  exact hr
theorem Fm.uF {k : Nat} {x : Int} (f : Fm X h (I, F)) (hk : ¬ (k = 1 ∨ k = 2 ∨ k = 3 ∨ k = 9 ∨ k = 13)) : Fm X h (I, up2 F 70 k x) := by
  obtain ⟨f1, f2, f3, f4, f5⟩ := f
  refine ⟨f1, fun b q => ⟨(f2 b q).1, (up2_of (by omega)).trans (f2 b q).2⟩, f3, fun i q => ?_, f5⟩
  dsimp only
  rw [up2_same, if_neg (fun e => hk (by rw [← e]; exact q))]
  exact f4 i q
end FRZ
/-! a number of a plan written -/
section VUP
variable {h : xH} {I F : Nat → Nat → Int} {R : Nat → Int} {ro si x : Int} {b j i c : Nat}
theorem cv_u (hj : ¬ (j = 0 ∨ j = 1 ∨ j = 6 ∨ j = 11 ∨ j = 19)) (h24 : j < 24) : cv (up2 I (b + j) i x, F) b = up2 (cv (I, F) b) j i x := by
  funext j2 i2
  rw [up2_eq]
  unfold cv
  by_cases e : j2 = 0 ∨ j2 = 1 ∨ j2 = 6 ∨ j2 = 11 ∨ j2 = 19
  · rw [if_pos e, if_neg (by omega), if_pos e]
  · rw [if_neg e]
    by_cases e2 : j2 < 24
    · rw [if_pos e2]
      dsimp only
      rw [up2_eq]
      by_cases e3 : j2 = j ∧ i2 = i
      · rw [if_pos (by omega), if_pos e3]
      · rw [if_neg (by omega), if_neg e3, if_neg e, if_pos e2]
    · rw [if_neg e2, if_neg (by omega), if_neg e, if_neg e2]
theorem cv_uF (hj : j = 1 ∨ j = 6 ∨ j = 11 ∨ j = 19) : cv (I, up2 F (b + j) i x) b = up2 (cv (I, F) b) j i x := by
  funext j2 i2
  rw [up2_eq]
  unfold cv
  by_cases e : j2 = 0 ∨ j2 = 1 ∨ j2 = 6 ∨ j2 = 11 ∨ j2 = 19
  · rw [if_pos e]
    dsimp only
    rw [up2_eq]
    by_cases e3 : j2 = j ∧ i2 = i
    · rw [if_pos (by omega), if_pos e3]
    · rw [if_neg (by omega), if_neg e3, if_pos e]
  · rw [if_neg (show ¬ (j2 = j ∧ i2 = i) by omega), if_neg e, if_neg e]
/-- a number of no plan written -/
theorem cv_n {a : Nat} (ha : a < b ∨ b + 24 ≤ a) : cv (up2 I a i x, F) b = cv (I, F) b := cv_congr (fun k q1 q2 => ⟨up2_of (by omega), rfl⟩)
theorem cv_n1 {a : Nat} {g : Nat → Int} (ha : a < b ∨ b + 24 ≤ a) : cv (up1 I a g, F) b = cv (I, F) b := cv_congr (fun k q1 q2 => ⟨up1_o (by omega), rfl⟩)
theorem cv_nF {a : Nat} (ha : a < b ∨ b + 24 ≤ a) : cv (I, up2 F a i x) b = cv (I, F) b := cv_congr (fun k q1 q2 => ⟨rfl, up2_of (by omega)⟩)
theorem rv_c (hj : 12 ≤ j ∧ j ≤ 18) (hc : c < 20) : rv (up R (36 + 7 * c + (j - 12)) x) ro si = up2 (rv R ro si) j c x := by
  funext j2 i2
  rw [up2_eq]
  by_cases e : j2 = j ∧ i2 = c
  · rw [if_pos e, e.1, e.2]
    unfold rv
    rw [if_neg (by omega), if_neg (by omega), if_neg (by omega), if_neg (by omega), if_neg (by omega), if_neg (by omega), if_neg (by omega), if_neg (by omega), if_neg (by omega), if_neg (by omega), if_pos hj, if_pos hc]
    unfold up
    rw [if_pos rfl]
  · rw [if_neg e]
    unfold rv
    repeat' (refine ifc (fun _ => ?_) (fun _ => ?_))
    all_goals first | rfl | (unfold up; rw [if_neg (by omega)]; done) | (unfold up; rw [if_neg (by omega), if_neg (by omega)]; done)
theorem rv_f (hj : j = 7 ∨ j = 8 ∨ j = 9 ∨ j = 10) (hc : c < 3) : rv (up R (24 + 4 * c + (j - 7)) x) ro si = up2 (rv R ro si) j c x := by
  funext j2 i2
  rw [up2_eq]
  by_cases e : j2 = j ∧ i2 = c
  · rw [if_pos e, e.1, e.2]
    unfold rv
    rw [if_neg (by omega), if_neg (by omega), if_neg (by omega), if_neg (by omega), if_neg (by omega), if_neg (by omega), if_neg (by omega), if_neg (by omega), if_neg (by omega), if_pos hj, if_pos hc]
    unfold up
    rw [if_pos rfl]
  · rw [if_neg e]
    unfold rv
    repeat' (refine ifc (fun _ => ?_) (fun _ => ?_))
    all_goals first | rfl | (unfold up; rw [if_neg (by omega)]; done) | (unfold up; rw [if_neg (by omega), if_neg (by omega)]; done)
theorem rv_n (hj : j = 20 ∨ j = 21) (hc : c < 16) : rv (up R (176 + 14 * c + (j - 20)) x) ro si = up2 (rv R ro si) j c x := by
  funext j2 i2
  rw [up2_eq]
  by_cases e : j2 = j ∧ i2 = c
  · rw [if_pos e, e.1, e.2]
    unfold rv
    rw [if_neg (by omega), if_neg (by omega), if_neg (by omega), if_neg (by omega), if_neg (by omega), if_neg (by omega), if_neg (by omega), if_neg (by omega), if_neg (by omega), if_neg (by omega), if_neg (by omega), if_pos hj, if_pos hc]
    unfold up
    rw [if_pos rfl]
  · rw [if_neg e]
    unfold rv
    repeat' (refine ifc (fun _ => ?_) (fun _ => ?_))
    all_goals first | rfl | (unfold up; rw [if_neg (by omega)]; done) | (unfold up; rw [if_neg (by omega), if_neg (by omega)]; done)
theorem rv_p {k : Nat} (hj : j = 22 ∨ j = 23) (hc : c < 16) (hk : k < 6) : rv (up R (176 + 14 * c + 2 + 2 * k + (j - 22)) x) ro si = up2 (rv R ro si) j (c * 6 + k) x := by
  funext j2 i2
  rw [up2_eq]
  by_cases e : j2 = j ∧ i2 = c * 6 + k
  · rw [if_pos e, e.1, e.2]
    unfold rv
    rw [if_neg (by omega), if_neg (by omega), if_neg (by omega), if_neg (by omega), if_neg (by omega), if_neg (by omega), if_neg (by omega), if_neg (by omega), if_neg (by omega), if_neg (by omega), if_neg (by omega), if_neg (by omega), if_pos hj, if_pos (by omega)]
    unfold up
    rw [if_pos (by omega)]
  · rw [if_neg e]
    unfold rv
    repeat' (refine ifc (fun _ => ?_) (fun _ => ?_))
    all_goals first | rfl | (unfold up; rw [if_neg (by omega)]; done) | (unfold up; rw [if_neg (by omega), if_neg (by omega)]; done)
theorem rv_k {k : Nat} (hj : (k = 0 ∧ j = 1) ∨ (k = 1 ∧ j = 6) ∨ (k = 2 ∧ j = 11) ∨ (k = 3 ∧ j = 19)) : rv (up R k x) ro si = up2 (rv R ro si) j 0 x := by
  funext j2 i2
  rw [up2_eq]
  by_cases e : j2 = j ∧ i2 = 0
  · rw [if_pos e, e.1, e.2]
    rcases hj with ⟨rfl, rfl⟩ | ⟨rfl, rfl⟩ | ⟨rfl, rfl⟩ | ⟨rfl, rfl⟩ <;> simp [rv, up]
  · rw [if_neg e]
    unfold rv
    repeat' (refine ifc (fun _ => ?_) (fun _ => ?_))
    all_goals first | rfl | (unfold up; rw [if_neg (by omega)]; done) | (unfold up; rw [if_neg (by omega), if_neg (by omega)]; done)
theorem up2_73 {k : Nat} : (up2 I 73 k x) 73 = up (I 73) k x := by
  funext i
  rw [up2_same]
  rfl
theorem vm_uc {k : Nat} (hj : 12 ≤ j ∧ j ≤ 18) (hc : c < 20) (hk : k = 36 + 7 * c + (j - 12)) : vm (up2 I 73 k x, F) = up2 (vm (I, F)) j c x := by
  unfold vm
  dsimp only
  rw [up2_73, hk, rv_c hj hc]
theorem vm_uf {k : Nat} (hj : j = 7 ∨ j = 8 ∨ j = 9 ∨ j = 10) (hc : c < 3) (hk : k = 24 + 4 * c + (j - 7)) : vm (up2 I 73 k x, F) = up2 (vm (I, F)) j c x := by
  unfold vm
  dsimp only
  rw [up2_73, hk, rv_f hj hc]
theorem vm_un {k : Nat} (hj : j = 20 ∨ j = 21) (hc : c < 16) (hk : k = 176 + 14 * c + (j - 20)) : vm (up2 I 73 k x, F) = up2 (vm (I, F)) j c x := by
  unfold vm
  dsimp only
  rw [up2_73, hk, rv_n hj hc]
theorem vm_up {k n : Nat} (hj : j = 22 ∨ j = 23) (hc : c < 16) (hn : n < 6) (hk : k = 176 + 14 * c + 2 + 2 * n + (j - 22)) : vm (up2 I 73 k x, F) = up2 (vm (I, F)) j (c * 6 + n) x := by
  unfold vm
  dsimp only
  rw [up2_73, hk, rv_p hj hc hn]
theorem vm_uk {k : Nat} (hj : (k = 0 ∧ j = 1) ∨ (k = 1 ∧ j = 6) ∨ (k = 2 ∧ j = 11) ∨ (k = 3 ∧ j = 19)) : vm (up2 I 73 k x, F) = up2 (vm (I, F)) j 0 x := by
  unfold vm
  dsimp only
  rw [up2_73, rv_k hj]
theorem vm_o {a : Nat} (ha : a ≠ 73) : vm (up2 I a i x, F) = vm (I, F) := by
  unfold vm
  dsimp only
  rw [up2_of (Ne.symm ha)]
theorem vm_o1 {a : Nat} {g : Nat → Int} (ha : a ≠ 73) : vm (up1 I a g, F) = vm (I, F) := by
  unfold vm
  dsimp only
  rw [up1_o (Ne.symm ha)]
theorem vm_oF {k : Nat} (hk : k ≠ 2 ∧ k ≠ 3) : vm (I, up2 F 70 k x) = vm (I, F) := by
  unfold vm
  dsimp only
  rw [up2_same, up2_same, if_neg (by omega), if_neg (by omega)]
end VUP
