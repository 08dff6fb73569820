/-! GOOD: what the acts on spots make of a plan -/
section GDA
variable {u v : Nat → Nat → Int}
theorem SJ.gd (s : SJ u v) (w : RGv u) (g : GEO u) (gd : Gd v) : Gd u := by
  refine ⟨w, ?_, s.nd gd.nd, ?_, g⟩
  · have := gd.n2
    unfold N2v at this ⊢
    rw [s 19 (by decide) (by decide), s 21 (by decide) (by decide)]
    exact this
  · have := gd.nt
    unfold NTv at this ⊢
    rw [s 19 (by decide) (by decide), s 21 (by decide) (by decide), s 22 (by decide) (by decide), s 23 (by decide) (by decide), s 0 (by decide) (by decide), s 11 (by decide) (by decide), s 12 (by decide) (by decide)]
    exact this
/-- like cells on each other's spots -/
theorem GEO_perm (g : GEO v) (w : RGv v) (s : SJ u v) (p : Nat → Nat) (h1 : ∀ c : Nat, (c : Int) < v 11 0 → u 17 c = v 17 (p c) ∧ u 18 c = v 18 (p c) ∧ ((p c : Nat) : Int) < v 11 0 ∧ v 12 (p c) = v 12 c ∧ v 13 (p c) = v 13 c) (h2 : ∀ c d : Nat, (c : Int) < v 11 0 → (d : Int) < v 11 0 → c ≠ d → p c ≠ p d) (h3 : ∀ c : Nat, (c : Int) < v 11 0 → p c ≠ c → v 14 c = 0 ∧ v 14 (p c) = 0 ∧ v 17 (p c) ≠ -1) : GEO u := by
  have s11 := s 11 (by decide) (by decide)
  have s12 := s 12 (by decide) (by decide)
  refine GEO_new g w s (fun c hc => ?_) (fun c d hc hd hn hp he => ?_)
  · obtain ⟨a1, a2, a3, a4, a5⟩ := h1 c hc
    by_cases e : p c = c
    · rw [e] at a1 a2
      exact Or.inl ⟨a1, a2⟩
    · right
      obtain ⟨b1, b2, b3⟩ := h3 c hc e
      have q := (gf_sites0 g.g0 w a3).mp (g.gnd a3 b3)
      rw [a1, a2]
      refine ⟨b1, q.1.1, q.1.2.1, q.1.2.2.1, by rw [← a4]; exact q.1.2.2.2, fun t t1 t2 => ?_⟩
      rw [own_cell g w a3 b2 b3 (r := (v 17 (p c)).toNat) (by omega) t1 (by rw [a4]; exact t2), a5]
  · rw [s11] at hc hd
    obtain ⟨a1, a2, a3, a4, a5⟩ := h1 c hc
    obtain ⟨b1, b2, b3, b4, b5⟩ := h1 d hd
    rw [a1] at hp he
    rw [b1] at he
    rw [s12, a2, b2, ← a4, ← b4]
    exact g.dis a3 b3 (h2 c d hc hd hn) hp he
theorem likB_iff {a b : Nat} : likB v a b = true ↔ (v 14 a = 0 ∧ v 17 a ≠ -1) ∧ (v 14 b = 0 ∧ v 17 b ≠ -1) ∧ v 12 a = v 12 b ∧ v 13 a = v 13 b := by
  unfold likB lpB
  simp only [Bool.and_eq_true, Bool.not_eq_true', decide_eq_true_eq, decide_eq_false_iff_not, and_assoc, ne_eq]
theorem exV_gd {a b : Nat} (gd : Gd v) (ha : (a : Int) < v 11 0) (hb : (b : Int) < v 11 0) (l : likB v a b = true) : Gd (exV v a b) := by
  have q := likB_iff.mp l
  have s : SJ (exV v a b) v := fun j h1 h2 => exV_o ⟨h1, h2⟩
  refine s.gd (exV_wg gd.wg).1 ?_ gd
  refine GEO_perm gd.geo gd.rg s (fun c => if c = b then a else if c = a then b else c) (fun c hc => ?_) (fun c d hc hd hn => ?_) (fun c hc hn => ?_)
  · try dsimp only
    rw [exV_17, exV_18]
    by_cases e1 : c = b
    · subst e1
      rw [if_pos rfl, if_pos rfl, if_pos rfl]
      exact ⟨rfl, rfl, ha, q.2.2.1, q.2.2.2⟩
    · rw [if_neg e1, if_neg e1, if_neg e1]
      by_cases e2 : c = a
      · subst e2
        rw [if_pos rfl, if_pos rfl, if_pos rfl]
        exact ⟨rfl, rfl, hb, q.2.2.1.symm, q.2.2.2.symm⟩
      · rw [if_neg e2, if_neg e2, if_neg e2]
        exact ⟨rfl, rfl, hc, rfl, rfl⟩
  · try dsimp only
    by_cases e1 : c = b <;> by_cases e2 : c = a <;> by_cases e3 : d = b <;> by_cases e4 : d = a <;> simp_all <;> omega
  · try dsimp only at hn ⊢
    by_cases e1 : c = b
    · subst e1
      rw [if_pos rfl]
      exact ⟨q.2.1.1, q.1.1, q.1.2⟩
    · rw [if_neg e1] at hn ⊢
      by_cases e2 : c = a
      · subst e2
        rw [if_pos rfl]
        exact ⟨q.1.1, q.2.1.1, q.2.1.2⟩
      · rw [if_neg e2] at hn
        exact absurd rfl hn
theorem exW_gd {a b : Nat} {t most : Int} (gd : Gd v) (ha : (a : Int) < v 11 0) (hb : (b : Int) < v 11 0) (l : likB v a b = true) : Gd (exW v t a b most) := by
  unfold exW
  split
  · exact exV_gd gd ha hb l
  · exact gd
theorem swI_gd {t : Int} {a : Nat} : ∀ (m b : Nat) (v : Nat → Nat → Int), Gd v → (a : Int) < v 11 0 → (b : Int) + m ≤ v 11 0 → Gd (swI t a m b v)
  | 0, _, _, g, _, _ => g
  | m + 1, b, v, g, ha, hb => by
    rw [swI]
    by_cases e : likB v a b = true
    · rw [if_pos e]
      have o : exW v t a b (wir v t - 1) 11 = v 11 := exW_o (by omega)
      exact swI_gd m (b + 1) _ (exW_gd g ha (by omega) e) (by rw [o]; exact ha) (by rw [o]; omega)
    · rw [if_neg e]
      exact swI_gd m (b + 1) v g ha (by omega)
theorem swO_gd {t : Int} {n : Nat} : ∀ (m a : Nat) (v : Nat → Nat → Int), Gd v → v 11 0 = n → a + m = n → Gd (swO t n m a v)
  | 0, _, _, g, _, _ => g
  | m + 1, a, v, g, hn, ha => by
    rw [swO]
    have o : swI t a (n - (a + 1)) (a + 1) v 11 = v 11 := swI_o (by omega) _ _ _
    exact swO_gd m (a + 1) _ (swI_gd _ _ v g (by omega) (by omega)) (by rw [o]; exact hn) (by omega)
theorem swV_gd {t : Int} (g : Gd v) : Gd (swV v t) := by
  have nC := g.rg.nC
  exact swO_gd _ 0 v g (by omega) (by omega)
theorem shv_gd {t n he s : Int} (g : Gd v) (hn : v 11 0 = n) (n0 : n ≠ 0) : Gd (shv v t n he s) ∧ shv v t n he s 11 0 = n := by
  have nC := g.rg.nC
  have d1 := drw_bd s
  have d2 := drw_bd (drw s)
  have e1 := Int.emod_nonneg (drw s) n0
  have e2 := Int.emod_lt_of_pos (drw s) (show 0 < n by omega)
  have e3 := Int.emod_nonneg (drw (drw s)) n0
  have e4 := Int.emod_lt_of_pos (drw (drw s)) (show 0 < n by omega)
  unfold shv
  split
  · rename_i q
    refine ⟨exW_gd g (by omega) (by omega) q.2, ?_⟩
    rw [exW_o (by omega)]
    exact hn
  · exact ⟨g, hn⟩
theorem shk_gd {t n : Int} (n0 : n ≠ 0) : ∀ (m : Nat) (v : Nat → Nat → Int) (l : Int) (b : Nat → Nat → Int) (he s : Int), Gd v → v 11 0 = n → Gd b → Gd (shk t n m v l b he s).2
  | 0, _, _, _, _, _, _, _, gb => gb
  | m + 1, v, l, b, he, s, g, hn, gb => by
    have q := shv_gd (t := t) (he := he) (s := s) g hn n0
    rw [shk]
    refine shk_gd n0 m _ _ _ _ _ q.1 q.2 ?_
    split
    · exact q.1
    · exact gb
theorem ptG_at {G : List Nat} : ∀ (Gs Os : List Nat) (w : Nat → Nat → Int), Gs.length = Os.length → Gs.Nodup → ∀ i, i < Gs.length → ptG v G Gs Os w 17 (Gs.getD i 0) = v 17 (G.getD (Os.getD i 0) 0) ∧ ptG v G Gs Os w 18 (Gs.getD i 0) = v 18 (G.getD (Os.getD i 0) 0)
  | [], _, _, _, _, i, hi => by simp at hi
  | _ :: _, [], _, hl, _, _, _ => by simp at hl
  | c :: Gs, o :: Os, w, hl, nd, i, hi => by
    rw [List.nodup_cons] at nd
    rw [ptG]
    cases i with
    | zero =>
      rw [show (c :: Gs).getD 0 0 = c from rfl, show (o :: Os).getD 0 0 = o from rfl, ptG_o _ _ _ _ _ nd.1, ptG_o _ _ _ _ _ nd.1]
      unfold gvP
      rw [up2_oth (by decide), up2_self, up2_self]
      exact ⟨rfl, rfl⟩
    | succ i =>
      rw [show (c :: Gs).getD (i + 1) 0 = Gs.getD i 0 from rfl, show (o :: Os).getD (i + 1) 0 = Os.getD i 0 from rfl]
      exact ptG_at Gs Os _ (by simpa using hl) nd.2 i (by simpa using hi)
theorem getD_inj {L : List Nat} (nd : L.Nodup) {i j : Nat} (hi : i < L.length) (hj : j < L.length) (e : L.getD i 0 = L.getD j 0) : i = j := by
  rw [List.getD_eq_getElem?_getD, List.getD_eq_getElem?_getD, List.getElem?_eq_getElem hi, List.getElem?_eq_getElem hj] at e
  exact (List.getElem_inj nd).mp e
theorem srO_pm {t f ww : Int} : (srO v t (gpA v f ww)).Perm (List.range (gpA v f ww).length) := by
  have g5 := grp_len (v := v) (f := f) (w := ww) (v 11 0).toNat
  rcases bsO_in (cst := fun O => wir (ptG v (gpA v f ww) (gpA v f ww) O v) t) (ords (gpA v f ww).length) (List.range (gpA v f ww).length) (wir v t) with q | q
  · unfold srO
    rw [q]
  · exact ord_pm g5 _ q
theorem srG_gd {t f ww : Int} (gd : Gd v) : Gd (srG v t f ww) := by
  have nC := gd.rg.nC
  have pm := srO_pm (v := v) (t := t) (f := f) (ww := ww)
  have ok := srO_ok (v := v) (t := t) (f := f) (ww := ww)
  have sk := SK.srG (t := t) (f := f) (ww := ww) (⟨SJ.refl, gd.rg, gd.geo.plc gd.rg⟩ : SK v v)
  refine sk.1.gd sk.2.1 ?_ gd
  have gin : ∀ c, c ∈ gpA v f ww → (c : Int) < v 11 0 ∧ (v 14 c = 0 ∧ v 17 c ≠ -1) ∧ v 13 c = f ∧ v 12 c = ww := fun c hc => by
    have q := grp_in _ c hc
    have q2 := q.2
    unfold gpC lpB at q2
    simp only [Bool.and_eq_true, Bool.not_eq_true', decide_eq_true_eq, decide_eq_false_iff_not] at q2
    exact ⟨by omega, q2.1.1, q2.1.2, q2.2⟩
  have gnd : (gpA v f ww).Nodup := (grp_pw _).imp (fun {a b} q e => by omega)
  unfold srG at sk ⊢
  obtain ⟨G, hG⟩ : ∃ G, G = gpA v f ww := ⟨_, rfl⟩
  obtain ⟨O, hO⟩ : ∃ O, O = srO v t (gpA v f ww) := ⟨_, rfl⟩
  rw [← hO] at pm ok sk ⊢
  rw [← hG] at pm ok sk gin gnd ⊢
  have ond : O.Nodup := pm.nodup_iff.mpr List.nodup_range
  have gm : ∀ i, i < G.length → G.getD i 0 ∈ G := fun i hi => by
    rw [List.getD_eq_getElem?_getD, List.getElem?_eq_getElem hi]
    exact List.getElem_mem hi
  have om : ∀ i, i < O.length → O.getD i 0 ∈ O := fun i hi => by
    rw [List.getD_eq_getElem?_getD, List.getElem?_eq_getElem hi]
    exact List.getElem_mem hi
  have ix : ∀ c, c ∈ G → G.idxOf c < G.length ∧ G.getD (G.idxOf c) 0 = c := fun c hc => by
    have hl : G.idxOf c < G.length := List.idxOf_lt_length_iff.mpr hc
    refine ⟨hl, ?_⟩
    rw [List.getD_eq_getElem?_getD, List.getElem?_eq_getElem hl]
    exact List.getElem_idxOf hl
  have key : ∀ c, c ∈ G → G.getD (O.getD (G.idxOf c) 0) 0 ∈ G ∧ ptG v G G O v 17 c = v 17 (G.getD (O.getD (G.idxOf c) 0) 0) ∧ ptG v G G O v 18 c = v 18 (G.getD (O.getD (G.idxOf c) 0) 0) := fun c hc => by
    obtain ⟨i1, i2⟩ := ix c hc
    have a := ptG_at (v := v) (G := G) G O v ok.1.symm gnd (G.idxOf c) i1
    rw [i2] at a
    exact ⟨gm _ (ok.2.1 _ (om _ (by rw [ok.1]; exact i1))), a⟩
  refine GEO_perm gd.geo gd.rg sk.1 (fun c => if c ∈ G then G.getD (O.getD (G.idxOf c) 0) 0 else c) (fun c hc => ?_) (fun c d hc hd hn => ?_) (fun c hc hn => ?_)
  · try dsimp only
    by_cases e : c ∈ G
    · rw [if_pos e]
      obtain ⟨k1, k2, k3⟩ := key c e
      have a := gin c e
      have b := gin _ k1
      exact ⟨k2, k3, b.1, by rw [b.2.2.2, a.2.2.2], by rw [b.2.2.1, a.2.2.1]⟩
    · rw [if_neg e, ptG_o _ _ _ _ _ e, ptG_o _ _ _ _ _ e]
      exact ⟨rfl, rfl, hc, rfl, rfl⟩
  · try dsimp only
    by_cases e : c ∈ G
    · rw [if_pos e]
      by_cases e2 : d ∈ G
      · rw [if_pos e2]
        intro z
        obtain ⟨c1, c2⟩ := ix c e
        obtain ⟨d1, d2⟩ := ix d e2
        have z1 := getD_inj gnd (ok.2.1 _ (om _ (by rw [ok.1]; exact c1))) (ok.2.1 _ (om _ (by rw [ok.1]; exact d1))) z
        have z2 := getD_inj ond (by rw [ok.1]; exact c1) (by rw [ok.1]; exact d1) z1
        rw [z2] at c2
        exact hn (c2.symm.trans d2)
      · rw [if_neg e2]
        intro z
        exact e2 (by rw [← z]; exact (key c e).1)
    · rw [if_neg e]
      by_cases e2 : d ∈ G
      · rw [if_pos e2]
        intro z
        exact e (by rw [z]; exact (key d e2).1)
      · rw [if_neg e2]
        exact hn
  · try dsimp only at hn ⊢
    by_cases e : c ∈ G
    · rw [if_pos e]
      have a := gin c e
      have b := gin _ (key c e).1
      exact ⟨a.2.1.1, b.2.1.1, b.2.1.2⟩
    · rw [if_neg e] at hn
      exact absurd rfl hn
theorem srW_gd {t f : Int} : ∀ (m : Nat) (ww : Int) (v : Nat → Nat → Int), Gd v → Gd (srW t f m ww v)
  | 0, _, _, g => g
  | m + 1, ww, v, g => by
    rw [srW]
    exact srW_gd m (ww + 1) _ (srG_gd g)
theorem srF_gd {t : Int} : ∀ (m : Nat) (f : Int) (v : Nat → Nat → Int), Gd v → Gd (srF t m f v)
  | 0, _, _, g => g
  | m + 1, f, v, g => by
    rw [srF]
    exact srF_gd m (f + 1) _ (srW_gd 6 1 v g)
theorem wnJ_wi {t f : Int} {rn a n k : Nat} (k2 : 2 ≤ k ∧ k ≤ 4) (an : a + n ≤ 32) (hr : gdR (fun s => decide (own v rn s = f)) (v 0 1).toNat (a, n)) (rR : (rn : Int) < v 0 0) : ∀ (m j : Nat) (Ly : List Nat) (u : Nat → Nat → Int), m = Ly.length + 1 - k - j → WI u v rn f a n Ly → ∃ Ly2, WI (wnJ t rn k m j Ly u) v rn f a n Ly2
  | 0, _, Ly, _, _, wi => ⟨Ly, wi⟩
  | m + 1, j, Ly, u, hm, wi => by
    have jk : j + k ≤ Ly.length := by omega
    have ct := cut3 (Ly := Ly) j k
    have lG : ((Ly.drop j).take k).length = k := by rw [List.length_take, List.length_drop]; omega
    obtain ⟨wo, wp⟩ := wnO_ok (u := u) (t := t) (r := (rn : Int)) (G := (Ly.drop j).take k) (by omega)
    have wi2 := wi
    rw [ct] at wi2
    have st := WI_step wi2 an hr rR (by omega) wp
    have ll : (Ly.take j ++ ((wnO u t ((Ly.drop j).take k) rn).map (fun o => ((Ly.drop j).take k).getD o 0) ++ Ly.drop (j + k))).length = Ly.length := by
      rw [List.length_append, List.length_append, List.length_map, wo.1, List.length_take, List.length_take, List.length_drop, List.length_drop]
      omega
    rw [wnJ]
    exact wnJ_wi k2 an hr rR m (j + 1) _ _ (by rw [ll]; omega) st
theorem wnR_gd {t : Int} {k : Nat} (k2 : 2 ≤ k ∧ k ≤ 4) (gd : Gd v) : ∀ (M : List Rn) (u : Nat → Nat → Int), (∀ x, x ∈ M → x ∈ rnL v) → GEO u → RGv u → SJ u v → FXs u v → Gd (wnR t k M u)
  | [], u, _, g, w, s, _ => s.gd w g gd
  | x :: M, u, hM, g, w, s, fx => by
    have xg := rnL_gd (hM x (by simp))
    obtain ⟨r8, an⟩ := rnL_ok gd.rg x (hM x (by simp))
    have wi := WI_start g w s fx xg.2.1 xg.2.2.2
    obtain ⟨Ly2, wi2⟩ := wnJ_wi (t := t) k2 an xg.2.2.2 (by have := xg.1; have := gd.rg.rows; omega) ((lyL u x.1 x.2.2.2 x.2.2.1).length + 1 - k) 0 _ u (by omega) wi
    rw [wnR]
    exact wnR_gd k2 gd M _ (fun y hy => hM y (by simp [hy])) wi2.1 wi2.2.1 wi2.2.2.1 wi2.2.2.2.1
end GDA
