/-! THE LAW'S LOOP: what holds each time -/
def LW (X : xL) (n : Nat) (h : xH) : Prop := Ok X h ∧ cS h = mS h ∧ GSt n (cS h)
section LWS
variable {X : xL} {n : Nat} {h h2 h3 : xH}
theorem Cst.mx (c : Cst X h h2) : mS h2 = mS h ∧ h2.1 101 = h.1 101 := by
  have f := c.2.1
  have r : ∀ a, 70 ≤ a → a < 200 → h2.1 a = h.1 a := fun a h1 h2 => (f a h1 h2).1
  have s : h2.2 70 = h.2 70 := (f 70 (by omega) (by omega)).2
  refine ⟨?_, r 101 (by omega) (by omega)⟩
  unfold mS hM vm uS
  rw [r 71 (by omega) (by omega), r 72 (by omega) (by omega), r 73 (by omega) (by omega), r 74 (by omega) (by omega), r 75 (by omega) (by omega), r 78 (by omega) (by omega), s]
theorem Mst.cx (c : Mst X h h2) : cS h2 = cS h ∧ h2.1 101 = h.1 101 := by
  have f := c.2.1
  have cvs : ∀ b, 200 ≤ b → cv h2 b = cv h b := fun b hb => cv_congr (fun a q1 q2 => f a (by omega))
  have e4 : h2.2 4 = h.2 4 := (f 4 (by omega)).2
  have e6 : h2.1 6 = h.1 6 := (f 6 (by omega)).1
  have e0 : h2.2 0 = h.2 0 := (f 0 (by omega)).2
  refine ⟨?_, (f 101 (by omega)).1⟩
  unfold cS
  have hc : hC h2 = hC h := by
    unfold hC
    rw [e4, e6]
    refine Prod.ext rfl (Prod.ext ?_ rfl)
    funext j
    dsimp only
    split
    · exact cvs _ (by omega)
    · rfl
  rw [cvs 200 (by omega), (f 1 (by omega)).1, (f 2 (by omega)).1, (f 3 (by omega)).1, e0, hc]
theorem LW.cl (l : LW X n h) (n1 : n ≤ 1000) : RFb (h.1 3) ∧ Gd (cv h 200) ∧ TMb (h.1 1) ∧ TPb (h.1 2) ∧ 0 ≤ h.2 0 2 ∧ h.2 0 2 ≤ 100 := by
  obtain ⟨_, _, g⟩ := l
  exact ⟨fun j hj => by have := g.2.2.2.2.1 j hj; exact ⟨this.1, Int.le_trans this.2 (by omega)⟩, g.1, g.2.1, g.2.2.1, g.2.2.2.1.1, g.2.2.2.1.2⟩
theorem LW.rl (l : LW X n h) (n1 : n ≤ 1000) (c : Cst X h h2) : Ok X h2 ∧ mS h2 = cS h ∧ RFb (h2.1 71) ∧ Gd (vm h2) ∧ TMb (h2.1 72) ∧ TPb (h2.1 78) ∧ 0 ≤ h2.2 70 13 ∧ h2.2 70 13 ≤ 100 := by
  obtain ⟨ok, e, g⟩ := l
  have em : mS h2 = cS h := c.mx.1.trans e.symm
  rw [← em] at g
  exact ⟨Cst.ok ok c, em, fun j hj => by have := g.2.2.2.2.1 j hj; exact ⟨this.1, Int.le_trans this.2 (by omega)⟩, g.1, g.2.1, g.2.2.1, g.2.2.2.1.1, g.2.2.2.1.2⟩
theorem LW.act (l : LW X n h) {sp : AS → Int × AS} (gs : GSt (n + 1) (sp (cS h)).2) (c2 : Cst X h h2) (s2 : cS h2 = (sp (cS h)).2) (c3 : Mst X h2 h3) (s3 : mS h3 = (sp (mS h2)).2) : LW X (n + 1) h3 ∧ h3.1 101 = h.1 101 := by
  have em : mS h2 = cS h := c2.mx.1.trans l.2.1.symm
  rw [em] at s3
  refine ⟨⟨Mst.ok (Cst.ok l.1 c2) c3, ?_, ?_⟩, c3.cx.2.trans c2.mx.2⟩
  · rw [c3.cx.1, s2, s3]
  · rw [c3.cx.1, s2]
    exact gs
theorem LW.see (l : LW X n h) (c2 : Cst X h h2) (s2 : cS h2 = cS h) (c3 : Mst X h2 h3) (s3 : mS h3 = mS h2) : LW X (n + 1) h3 ∧ h3.1 101 = h.1 101 := by
  have em : mS h2 = cS h := c2.mx.1.trans l.2.1.symm
  refine ⟨⟨Mst.ok (Cst.ok l.1 c2) c3, ?_, ?_⟩, c3.cx.2.trans c2.mx.2⟩
  · rw [c3.cx.1, s2, s3, em]
  · rw [c3.cx.1, s2]
    exact l.2.2.le
theorem Cst.refl (ok : Ok X h) : Cst X h h := (Fz.refl ok.1).cst ok
end LWS
