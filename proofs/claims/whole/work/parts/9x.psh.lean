/-! SPREAD of the class: a cell is pushed -/
def SV (X : xL) (h0 h : xH) (v : Nat → Nat → Int) (c : Nat) (w : Nat → Nat → Int) : Prop := NZ X h ∧ PF h0 h ∧ cv h 200 = w ∧ (∃ x y, w = mvV v c x y) ∧ Gd w ∧ PTo (h.1 24) (nbT v) (nbC v) (ned w)
theorem mvV_a5 {v : Nat → Nat → Int} {c : Nat} {x y : Int} : mvV v c x y 15 c = x := by
  unfold mvV
  rw [up2_of (by omega), up2_same, if_pos rfl]
theorem mvV_a6 {v : Nat → Nat → Int} {c : Nat} {x y : Int} : mvV v c x y 16 c = y := by
  unfold mvV
  rw [up2_same, if_pos rfl]
theorem cnd_mv {v : Nat → Nat → Int} {f : Nat → Int} {c k : Nat} : cnd v f c k = mvV v c (cnd v f c k 15 c) (cnd v f c k 16 c) := by
  unfold cnd
  by_cases e : k = 0
  · rw [if_pos e, mvV_id]
  · rw [if_neg e, mvV_a5, mvV_a6]
theorem cW_gd {v : Nat → Nat → Int} {c : Nat} (g : Gd v) (hc : (c : Int) < v 11 0) : cW v c := by
  have := g.2.2.2.2.cel hc
  exact ⟨this.1, this.2.2.1, this.2.2.2⟩
section PS3
variable {X : xL} {Q : Option xV → xH → Prop} {ns nb ln : Nat} {h0 h : xH} {v w : Nat → Nat → Int} {c : Nat}
theorem SV.bn (s : SV X h0 h v c w) (bn : BNv X h0 v (nbC v) (nbT v) nb) (en : nb = nbn v) : BNv X h w (nbC w) (nbT w) nb ∧ nb = nbn w := by
  obtain ⟨_, pf, _, ⟨x, y, rfl⟩, _⟩ := s
  rw [nbC_mv, nbT_mv, nbn_mv]
  unfold BNv
  rw [pf.2, mvV_o (j := 0) (by omega) (by omega)]
  exact ⟨bn, en⟩
theorem SV.ps (s : SV X h0 h v c w) (ps : PTo (h0.1 23) (nbT v) (nbC v) (sup v)) : PTo (h.1 23) (nbT w) (nbC w) (sup w) := by
  obtain ⟨_, pf, _, ⟨x, y, rfl⟩, _⟩ := s
  rw [nbC_mv, nbT_mv, sup_mv, pf.1 23 (by omega) (by omega) (by omega) (by omega)]
  exact ps
theorem SV.pn (s : SV X h0 h v c w) : PTo (h.1 24) (nbT w) (nbC w) (ned w) := by
  obtain ⟨_, pf, _, ⟨x, y, rfl⟩, _, p⟩ := s
  rw [nbC_mv, nbT_mv]
  exact p
theorem SV.t (s : SV X h0 h v c w) : h.1 1 = h0.1 1 := s.2.1.1 1 (by omega) (by omega) (by omega) (by omega)
theorem SV.os (s : SV X h0 h v c w) (o : OkS h0) : OkS h := by
  unfold OkS
  rw [s.2.1.1 97 (by omega) (by omega) (by omega) (by omega), s.2.1.1 98 (by omega) (by omega) (by omega) (by omega), s.2.1.1 99 (by omega) (by omega) (by omega) (by omega), s.2.1.1 100 (by omega) (by omega) (by omega) (by omega)]
  exact o
theorem SV.eqo (s : SV X h0 h v c w) {j : Nat} (h1 : j ≠ 15) (h2 : j ≠ 16) : w j = v j := by
  obtain ⟨_, _, _, ⟨x, y, rfl⟩, _⟩ := s
  exact mvV_o h1 h2
set_option maxHeartbeats 4000000 in
theorem it_4 (hp : PL X 200) (hc : CT X ns nb ln) (os : OkS h0) (g : Gd v) (hl : v 14 c = 0) (hcN : (c : Int) < v 11 0) (tm : TMb (h0.1 1)) (bn : BNv X h0 v (nbC v) (nbT v) nb) (en : nb = nbn v) (ps : PTo (h0.1 23) (nbT v) (nbC v) (sup v)) {k : Nat} (k1 : 1 ≤ k) (k4 : k ≤ 4) {bx bY best : Int} {x10 : Option xV} (s : SV X h0 h v c w)
    (hq : ∀ h2, SV X h0 h2 v c (cnd v (h0.1 1) c k) → Ev X 4 21 [some (vr 26), some (vr 200), some (vi c), some (vr (200 + 11)), some (vi (v 15 c)), some (vi (v 16 c)), some (vi (if csC (cnd v (h0.1 1) c k) (h0.1 1) c < best then cnd v (h0.1 1) c k 15 c else bx)), some (vi (if csC (cnd v (h0.1 1) c k) (h0.1 1) c < best then cnd v (h0.1 1) c k 16 c else bY)), some (vi (if csC (cnd v (h0.1 1) c k) (h0.1 1) c < best then csC (cnd v (h0.1 1) c k) (h0.1 1) c else best)), some (vi ((k : Int) + 1)), some (vi (csC (cnd v (h0.1 1) c k) (h0.1 1) c))] [] h2 Q) : Ev X 4 21 [some (vr 26), some (vr 200), some (vi c), some (vr (200 + 11)), some (vi (v 15 c)), some (vi (v 16 c)), some (vi bx), some (vi bY), some (vi best), some (vi k), x10] [] h Q := by
  have nC := g.rg.nC
  have wx := g.rg.wx c
  have wy := g.rg.wy c
  obtain ⟨bw, ew⟩ := s.bn bn en
  have psw := s.ps ps
  have pnw := s.pn
  have t0 := s.t
  have gw := s.2.2.2.2.1
  have hlw : w 14 c = 0 := by rw [s.eqo (by omega) (by omega)]; exact hl
  have hNw : (c : Int) < w 11 0 := by rw [s.eqo (by omega) (by omega)]; exact hcN
  refine b_4 hp hc (s.os os) (w := w) (k := k) s.2.2.1 s.1 gw.rg (cW_gd gw hNw) (by rw [t0]; exact tm) bw (by omega) pnw k1 k4 (by omega) (by omega) (fun h2 z2 p2 e2 q2 => ?_)
  have eV : mvV w c (hdX w c (v 15 c + trX k * h.1 1 3)) (hdY w c (v 16 c + trY k * h.1 1 3)) = cnd v (h0.1 1) c k := by
    obtain ⟨_, _, _, ⟨x, y, rfl⟩, _⟩ := s
    rw [hdX_mv, hdY_mv, mvV_mv, t0]
    unfold cnd
    rw [if_neg (by omega)]
  have qn := ned_mv (v := w) (c := c) (x := hdX w c (v 15 c + trX k * h.1 1 3)) (y := hdY w c (v 16 c + trY k * h.1 1 3)) hlw hNw
  rw [eV] at e2 qn
  have s2 : PF h0 h2 := s.2.1.tr p2
  have gk := cnd_gd g hl (h0.1 1) k
  have ck := cnd_mv (v := v) (f := h0.1 1) (c := c) (k := k)
  have nC1 : nbC w = nbC v := by unfold nbC; rw [s.eqo (j := 0) (by omega) (by omega)]
  have nT1 : nbT w = nbT v := by unfold nbT; rw [s.eqo (j := 0) (by omega) (by omega)]
  have nC2 : nbC (cnd v (h0.1 1) c k) = nbC v := by unfold nbC; rw [cnd_o (j := 0) (by omega) (by omega)]
  have nT2 : nbT (cnd v (h0.1 1) c k) = nbT v := by unfold nbT; rw [cnd_o (j := 0) (by omega) (by omega)]
  have nn2 : nbn (cnd v (h0.1 1) c k) = nbn v := by unfold nbn; rw [nC2, nT2]
  have su2 : sup (cnd v (h0.1 1) c k) = sup v := by rw [ck, sup_mv]
  have t2 : h2.1 1 = h0.1 1 := s2.1 1 (by omega) (by omega) (by omega) (by omega)
  rw [nC1, nT1] at q2
  refine a_4 hp hc (w := cnd v (h0.1 1) c k) e2 z2 gk.wg (cW_gd gk (by rw [cnd_o (by omega) (by omega)]; exact hcN)) (by rw [t2]; exact tm) ?_ (by rw [nn2]; exact en) (by omega) ?_ ?_ (by omega) (fun h3 z3 p3 e3 q3 => ?_)
  · rw [nC2, nT2]
    unfold BNv
    rw [s2.2, cnd_o (j := 0) (by omega) (by omega)]
    exact bn
  · rw [nC2, nT2, su2, s2.1 23 (by omega) (by omega) (by omega) (by omega)]
    exact ps
  · rw [nC2, nT2]
    refine q2.cg (fun br bc _ _ => ?_)
    rw [qn br bc]
    omega
  · rw [nC2, nT2] at q3
    rw [t2]
    exact hq h3 ⟨z3, s2.tr p3, e3, ⟨_, _, ck⟩, gk, q3⟩
end PS3
