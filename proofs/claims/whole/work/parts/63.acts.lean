/-! refusals and acts, ready for use -/
def rH (h : xH) (x : Int) : xH := (up2 h.1 3 (-x).toNat (h.1 3 (-x).toNat + 1), up2 h.2 0 4 x)
def rM (h : xH) (x : Int) : xH := (up2 h.1 71 (-x).toNat (h.1 71 (-x).toNat + 1), up2 h.2 70 1 x)
def Kp (X : xL) (k : Int) (h h2 : xH) : Prop := Ok X h2 ∧ Cst X h h2 ∧ cS h2 = keepS (cS h) k ∧ (∀ a, a < 248 → a ≠ 0 → a ≠ 4 → a ≠ 6 → h2.1 a = h.1 a ∧ h2.2 a = h.2 a)
def Rm (X : xL) (k : Int) (h h2 : xH) : Prop := Ok X h2 ∧ Mst X h h2 ∧ hM h2 = kpH (hM h) (vm h) k ∧ (∀ a, a ≠ 70 → a ≠ 74 → a ≠ 75 → h2.1 a = h.1 a ∧ h2.2 a = h.2 a) ∧ (∀ i, i ≠ 9 → h2.2 70 i = h.2 70 i)
def rgP (j : Nat) (x : Int) : Prop := (j = 12 → 0 ≤ x ∧ x ≤ 6) ∧ (j = 13 → -1 ≤ x ∧ x ≤ 2) ∧ (j = 14 → x = 0 ∨ x = 1) ∧ (j = 15 → 0 ≤ x ∧ x ≤ 512) ∧ (j = 16 → 0 ≤ x ∧ x ≤ 128) ∧ (j = 17 → -1 ≤ x ∧ x ≤ 7) ∧ (j = 18 → -1 ≤ x ∧ x ≤ 31) ∧ (j = 20 → 0 ≤ x ∧ x ≤ 9) ∧ (j = 21 → 0 ≤ x ∧ x ≤ 6) ∧ (j = 22 → 0 ≤ x ∧ x ≤ 207) ∧ (j = 23 → 0 ≤ x ∧ x ≤ 31) ∧ (j = 1 → 0 ≤ x ∧ x ≤ 4) ∧ (j = 6 → 0 ≤ x ∧ x ≤ 3) ∧ (j = 11 → 0 ≤ x ∧ x ≤ 20) ∧ (j = 19 → 0 ≤ x ∧ x ≤ 16) ∧ (j = 0 → False) ∧ (j = 2 ∨ j = 3 ∨ j = 4 ∨ j = 5 ∨ j = 7 ∨ j = 8 ∨ j = 9 ∨ j = 10 → 0 ≤ x ∧ x ≤ 31)
/-- no cell twice in a net; pins where they can be -/
def NDv (v : Nat → Nat → Int) : Prop := ∀ n k l : Nat, (n : Int) < v 19 0 → k < l → (l : Int) < v 21 n → v 22 (n * 6 + k) < 200 → v 22 (n * 6 + l) ≠ v 22 (n * 6 + k)
def NTv (v : Nat → Nat → Int) : Prop := ∀ n k : Nat, (n : Int) < v 19 0 → (k : Int) < v 21 n → (200 ≤ v 22 (n * 6 + k) → v 22 (n * 6 + k) - 200 < v 0 0 ∧ v 23 (n * 6 + k) < v 0 1) ∧ (v 22 (n * 6 + k) < 200 → v 22 (n * 6 + k) < v 11 0 ∧ v 23 (n * 6 + k) < v 12 (v 22 (n * 6 + k)).toNat)
def Gd (v : Nat → Nat → Int) : Prop := RGv v ∧ N2v v ∧ NDv v ∧ NTv v ∧ GEO v
def TMb (f : Nat → Int) : Prop := ∀ w, w < 6 → tlo w ≤ f w ∧ f w ≤ thi w
section ACT
variable {X : xL} {h h2 h3 : xH} {Q : Option xV → xH → Prop} {x k r : Int} {v : Nat → Nat → Int} {j i : Nat}
theorem NTv.nw (t : NTv v) : NWv v := by
  intro n k hn hk
  have := t n k hn hk
  by_cases e : v 22 (n * 6 + k) < 200
  · exact Or.inl (this.2 e).1
  · exact Or.inr (by omega)
theorem Gd.rg (g : Gd v) : RGv v := g.1
theorem Gd.n2 (g : Gd v) : N2v v := g.2.1
theorem Gd.nd (g : Gd v) : NDv v := g.2.2.1
theorem Gd.nt (g : Gd v) : NTv v := g.2.2.2.1
theorem Gd.nw (g : Gd v) : NWv v := g.2.2.2.1.nw
theorem Gd.geo (g : Gd v) : GEO v := g.2.2.2.2
theorem TMb.tall {f : Nat → Int} (t : TMb f) : 0 ≤ f 4 ∧ f 4 ≤ 8 := by
  have := t 4 (by decide)
  have e1 : tlo 4 = 1 := rfl
  have e2 : thi 4 = 8 := rfl
  omega
theorem rfC (ok : Ok X h) (rf : RFb (h.1 3)) (h0 : -6 ≤ x) (h1 : x ≤ 0) : Cl X 138 [vr 0, vi x] h Q ↔ Q (some (vi x)) (rH h x) := by
  obtain ⟨z, os, oc, om, ⟨nb, ln, hc, hnb⟩, lp⟩ := ok
  have q := rf (-x).toNat (by omega)
  exact m_138 hc h0 h1 q.1 q.2
theorem rH_st (ok : Ok X h) (rf : RFb (h.1 3)) (h0 : -6 ≤ x) (h1 : x ≤ 0) : Cst X h (rH h x) ∧ cS (rH h x) = (refS (cS h) x).2 :=
  (rfC (Q := fun _ g => Cst X h g ∧ cS g = (refS (cS h) x).2) ok rf h0 h1).mp (p_138 ok rf h0 h1 (fun _ a b => ⟨a, b⟩))
theorem rfM (ok : Ok X h) (rf : RFb (h.1 71)) (h0 : -6 ≤ x) (h1 : x ≤ 0) : Cl X 154 [vr 70, vi x] h Q ↔ Q (some (vi x)) (rM h x) := by
  obtain ⟨z, os, oc, om, ⟨nb, ln, hc, hnb⟩, lp⟩ := ok
  have q := rf (-x).toNat (by omega)
  exact m_154 hc h0 h1 q.1 q.2
theorem rM_st (ok : Ok X h) (rf : RFb (h.1 71)) (h0 : -6 ≤ x) (h1 : x ≤ 0) : Mst X h (rM h x) ∧ mS (rM h x) = (refS (mS h) x).2 :=
  (rfM (Q := fun _ g => Mst X h g ∧ mS g = (refS (mS h) x).2) ok rf h0 h1).mp (p_154 ok rf h0 h1 (fun _ a b => ⟨a, b⟩))
theorem kpC (ok : Ok X h) (g : Gd (cv h 200)) (hq : ∀ h2, Kp X k h h2 → Q none h2) : Cl X 139 [vr 0, vi k] h Q := m_139 ok g.rg (fun h2 a b c => hq h2 ⟨Cst.ok ok a, a, b, c⟩)
theorem kpM (ok : Ok X h) (hq : ∀ h2, Rm X k h h2 → Q none h2) : Cl X 156 [vr 70, vi k] h Q := m_156s ok (fun h2 a b c d => hq h2 ⟨Mst.ok ok a, a, b, c, d⟩)
theorem Kp.pv (p : Kp X k h h2) : cv h2 200 = cv h 200 := cv_congr (fun a q1 q2 => p.2.2.2 a (by omega) (by omega) (by omega) (by omega))
theorem Kp.t (p : Kp X k h h2) : h2.1 1 = h.1 1 := (p.2.2.2 1 (by omega) (by omega) (by omega) (by omega)).1
theorem Rm.pv (p : Rm X k h h2) : vm h2 = vm h := by
  unfold vm
  rw [(p.2.2.2.1 73 (by omega) (by omega) (by omega)).1, p.2.2.2.2 2 (by omega), p.2.2.2.2 3 (by omega)]
theorem Rm.t (p : Rm X k h h2) : h2.1 72 = h.1 72 := (p.2.2.2.1 72 (by omega) (by omega) (by omega)).1
theorem act_c (p : Kp X k h h2) (f : Fz X h2 h3) (e : cv h3 200 = v) : Cst X h h3 ∧ cS h3 = (actS (cS h) k r v).2 := by
  refine ⟨p.2.1.tr (f.cst p.1), ?_⟩
  rw [f.cs, p.2.2.1, e]
  rfl
theorem act_m (p : Rm X k h h2) (f : Fm X h2 h3) (e : vm h3 = v) : Mst X h (h3.1, up2 h3.2 70 1 0) ∧ mS (h3.1, up2 h3.2 70 1 0) = (actS (mS h) k r v).2 := by
  have o3 := f.ok p.1
  refine ⟨p.2.1.tr ((f.mst p.1).tr (ok_f o3 (Or.inr (Or.inl rfl)))), ?_⟩
  rw [mS_st, f.ms, e]
  unfold mS actS keepS
  dsimp only
  rw [p.2.2.1, (p.2.2.2.1 72 (by omega) (by omega) (by omega)).1, (p.2.2.2.1 78 (by omega) (by omega) (by omega)).1, (p.2.2.2.1 71 (by omega) (by omega) (by omega)).1, p.2.2.2.2 13 (by omega)]
theorem thr {sp : AS → Int × AS} (ok : Ok X h) (hq : ∀ h2, Mst X h h2 → mS h2 = (sp (mS h)).2 → Q (some (vi (sp (mS h)).1)) h2) : ∀ h2, Mst X (h.1, up2 h.2 70 0 0) h2 → mS h2 = (sp (mS (h.1, up2 h.2 70 0 0))).2 → Q (some (vi (sp (mS (h.1, up2 h.2 70 0 0))).1)) h2 := by
  intro h2 a b
  rw [mS_th] at b ⊢
  exact hq h2 ((ok_f ok (Or.inl rfl)).tr a) b
theorem thr_ok (ok : Ok X h) : Ok X (h.1, up2 h.2 70 0 0) := Mst.ok ok (ok_f ok (Or.inl rfl))
theorem thr_v : vm (h.1, up2 h.2 70 0 0) = vm h := vm_oF (I := h.1) (F := h.2) (by omega)
theorem RGv.u (w : RGv v) (p : rgP j x) : RGv (up2 v j i x) := by
  obtain ⟨p1, p2, p3, p4, p5, p6, p7, p8, p9, p10, p11, p12, p13, p14, p15, p16, p17⟩ := p
  have key : ∀ (a b : Nat) (P : Int → Prop), (a = j → P x) → P (v a b) → P (up2 v j i x a b) := by
    intro a b P e1 e2
    rw [up2_eq]
    by_cases e : a = j ∧ b = i
    · rw [if_pos e]; exact e1 e.1
    · rw [if_neg e]; exact e2
  refine ⟨⟨fun c => ?_, fun c => ?_, fun c => ?_, fun c => ?_, fun c => ?_, fun c => ?_, fun c => ?_⟩, ⟨fun c => ?_, fun c => ?_, fun c => ?_, fun c => ?_⟩, ?_, ?_, ?_, ?_, ?_, ?_, fun a b hj => ?_⟩
  · exact key 12 c (fun y => 0 ≤ y ∧ y ≤ 6) (fun e => p1 e.symm) (w.wid c)
  · exact key 13 c (fun y => -1 ≤ y ∧ y ≤ 2) (fun e => p2 e.symm) (w.fen c)
  · exact key 14 c (fun y => y = 0 ∨ y = 1) (fun e => p3 e.symm) (w.fix c)
  · exact key 15 c (fun y => 0 ≤ y ∧ y ≤ 512) (fun e => p4 e.symm) (w.wx c)
  · exact key 16 c (fun y => 0 ≤ y ∧ y ≤ 128) (fun e => p5 e.symm) (w.wy c)
  · exact key 17 c (fun y => -1 ≤ y ∧ y ≤ 7) (fun e => p6 e.symm) (w.row c)
  · exact key 18 c (fun y => -1 ≤ y ∧ y ≤ 31) (fun e => p7 e.symm) (w.sit c)
  · exact key 20 c (fun y => 0 ≤ y ∧ y ≤ 9) (fun e => p8 e.symm) (w.wgt c)
  · exact key 21 c (fun y => 0 ≤ y ∧ y ≤ 6) (fun e => p9 e.symm) (w.pin c)
  · exact key 22 c (fun y => 0 ≤ y ∧ y ≤ 207) (fun e => p10 e.symm) (w.hed c)
  · exact key 23 c (fun y => 0 ≤ y ∧ y ≤ 31) (fun e => p11 e.symm) (w.tai c)
  · exact key 1 0 (fun y => 0 ≤ y ∧ y ≤ 4) (fun e => p12 e.symm) w.nB
  · exact key 6 0 (fun y => 0 ≤ y ∧ y ≤ 3) (fun e => p13 e.symm) w.nF
  · exact key 11 0 (fun y => 0 ≤ y ∧ y ≤ 20) (fun e => p14 e.symm) w.nC
  · exact key 19 0 (fun y => 0 ≤ y ∧ y ≤ 16) (fun e => p15 e.symm) w.nN
  · exact key 0 0 (fun y => 1 ≤ y ∧ y ≤ 8) (fun e => (p16 e.symm).elim) w.rows
  · exact key 0 1 (fun y => 8 ≤ y ∧ y ≤ 32) (fun e => (p16 e.symm).elim) w.sites
  · exact key a b (fun y => 0 ≤ y ∧ y ≤ 31) (fun e => p17 (by rw [← e]; exact hj)) (w.box a b hj)
theorem NWv.u (t : NWv v) (hj : j ≠ 11 ∧ j ≠ 19 ∧ j ≠ 21 ∧ j ≠ 22) : NWv (up2 v j i x) := by
  intro n k hn hk
  rw [up2_oth (by omega)] at hn hk
  rw [up2_oth (by omega), up2_oth (by omega)]
  exact t n k hn hk
theorem N2v.u (t : N2v v) (hj : j ≠ 19 ∧ j ≠ 21) : N2v (up2 v j i x) := by
  intro n hn
  rw [up2_oth (by omega)] at hn ⊢
  exact t n hn
theorem NDv.u (t : NDv v) (hj : j ≠ 19 ∧ j ≠ 21 ∧ j ≠ 22) : NDv (up2 v j i x) := by
  intro n k l hn hk hl
  rw [up2_oth (by omega)] at hn hl
  rw [up2_oth (by omega), up2_oth (by omega)]
  exact t n k l hn hk hl
theorem NTv.u (t : NTv v) (hj : j ≠ 0 ∧ j ≠ 11 ∧ j ≠ 12 ∧ j ≠ 19 ∧ j ≠ 21 ∧ j ≠ 22 ∧ j ≠ 23) : NTv (up2 v j i x) := by
  intro n k hn hk
  rw [up2_oth (by omega)] at hn hk
  rw [up2_oth (by omega), up2_oth (by omega), up2_oth (by omega), up2_oth (by omega), up2_oth (by omega), up2_oth (by omega)]
  exact t n k hn hk
end ACT
