/-! WINDOWS: what is kept -/
def FXs (u v : Nat → Nat → Int) : Prop := ∀ c : Nat, (c : Int) < v 11 0 → ¬ v 14 c = 0 → u 17 c = v 17 c ∧ u 18 c = v 18 c
section WNI
variable {u v : Nat → Nat → Int}
theorem ovV_sj (s : SJ u v) {j0 : Nat} (h : j0 = 2 ∨ j0 = 7) : ovV u j0 = ovV v j0 := by
  funext lo hi f l i
  unfold ovV
  rw [s j0 (by omega) (by omega), s (j0 + 1) (by omega) (by omega), s (j0 + 2) (by omega) (by omega), s (j0 + 3) (by omega) (by omega)]
theorem anyB_cgx {p q : Nat → Bool} {n : Nat} (h : ∀ j, j < n → p j = q j) : anyB p n = anyB q n := by
  rw [Bool.eq_iff_iff, anyB_iff, anyB_iff]
  constructor
  · rintro ⟨j, h1, h2⟩
    exact ⟨j, h1, by rw [← h j h1]; exact h2⟩
  · rintro ⟨j, h1, h2⟩
    exact ⟨j, h1, by rw [h j h1]; exact h2⟩
theorem own_fx (s : SJ u v) (f : FXs u v) (r st : Nat) : own u r st = own v r st := by
  unfold own
  rw [ovV_sj s (Or.inl rfl), ovV_sj s (Or.inr rfl), s 1 (by decide) (by decide), s 6 (by decide) (by decide), s 11 (by decide) (by decide)]
  have : anyB (fxB u r st) (v 11 0).toNat = anyB (fxB v r st) (v 11 0).toNat := by
    refine anyB_cgx (fun j hj => ?_)
    unfold fxB laB
    rw [s 14 (by decide) (by decide), s 12 (by decide) (by decide)]
    by_cases e : v 14 j = 0
    · rw [decide_eq_true e]
      rfl
    · have := f j (by omega) e
      rw [this.1, this.2]
  rw [this]
theorem gfB_sj (s : SJ u v) (c : Nat) (r st : Int) : gfB u c r st = gfB v c r st := by
  unfold gfB icB
  rw [ovV_sj s (Or.inl rfl), ovV_sj s (Or.inr rfl), s 0 (by decide) (by decide), s 1 (by decide) (by decide), s 6 (by decide) (by decide), s 12 (by decide) (by decide), s 13 (by decide) (by decide)]
/-- a plan in which some have new spots -/
theorem GEO_new (g : GEO v) (w : RGv v) (s : SJ u v) (H : ∀ c : Nat, (c : Int) < v 11 0 → (u 17 c = v 17 c ∧ u 18 c = v 18 c) ∨ (v 14 c = 0 ∧ 0 ≤ u 17 c ∧ u 17 c < v 0 0 ∧ 0 ≤ u 18 c ∧ u 18 c + v 12 c ≤ v 0 1 ∧ ∀ t : Nat, u 18 c ≤ t → (t : Int) < u 18 c + v 12 c → own v (u 17 c).toNat t = v 13 c)) (D : DIS u) : GEO u := by
  have s0 := s 0 (by decide) (by decide)
  have s1 := s 1 (by decide) (by decide)
  have s2 := s 2 (by decide) (by decide)
  have s3 := s 3 (by decide) (by decide)
  have s4 := s 4 (by decide) (by decide)
  have s5 := s 5 (by decide) (by decide)
  have s6 := s 6 (by decide) (by decide)
  have s7 := s 7 (by decide) (by decide)
  have s8 := s 8 (by decide) (by decide)
  have s9 := s 9 (by decide) (by decide)
  have s10 := s 10 (by decide) (by decide)
  have s11 := s 11 (by decide) (by decide)
  have s12 := s 12 (by decide) (by decide)
  have s13 := s 13 (by decide) (by decide)
  have s14 := s 14 (by decide) (by decide)
  have s15 := s 15 (by decide) (by decide)
  have s16 := s 16 (by decide) (by decide)
  refine ⟨fun c hc => ?_, fun c hc h1 => ?_, fun c hc h1 => ?_, D, fun c hc h1 => ?_, fun f hf => ?_, fun f k hf hk hn => ?_, fun b hb => ?_⟩
  · rw [s11] at hc
    rw [s12, s13, s6, s15, s16, s0]
    exact g.cel hc
  · rw [s11] at hc
    rcases H c hc with q | q
    · rw [q.2]
      exact g.non hc (by rw [← q.1]; exact h1)
    · omega
  · rw [s11] at hc
    rw [gfB_sj s]
    rcases H c hc with q | q
    · rw [q.1, q.2]
      exact g.gnd hc (by rw [← q.1]; exact h1)
    · obtain ⟨q1, q2, q3, q4, q5, q6⟩ := q
      have wf := w.fen c
      refine (gf_sites0 g.g0 w hc).mpr ⟨by omega, fun j hj => ?_⟩
      obtain ⟨t, ht⟩ : ∃ t : Nat, (t : Int) = u 18 c + j := ⟨(u 18 c + j).toNat, by omega⟩
      have o := q6 t (by omega) (by omega)
      have rr : (((u 17 c).toNat : Nat) : Int) = u 17 c := by omega
      have o2 : ¬ own v (u 17 c).toNat t = -2 := by rw [o]; omega
      have of := own_f o2
      rw [o, rr, ht] at of
      refine ⟨fun b hb => ?_, of.symm⟩
      by_cases e : anyB (ovV v 2 (((u 17 c).toNat : Nat) : Int) (((u 17 c).toNat : Nat) : Int) t t) (v 1 0).toNat = true
      · exfalso
        apply o2
        unfold own
        rw [if_pos (Or.inl e)]
      · have e' : anyB (ovV v 2 (((u 17 c).toNat : Nat) : Int) (((u 17 c).toNat : Nat) : Int) t t) (v 1 0).toNat = false := by simpa using e
        rw [rr, ht] at e'
        exact anyB_f.mp e' b hb
  · rw [s11] at hc
    rw [s14] at h1
    rw [s15, s16]
    rcases H c hc with q | q
    · rw [q.1, q.2]
      exact g.fxd hc h1
    · omega
  · rw [s6] at hf
    rw [s7, s8, s9, s10, s0]
    exact g.fen hf
  · rw [s6] at hf hk
    rw [s7, s8, s9, s10]
    exact g.fdj hf hk hn
  · rw [s1] at hb
    rw [s2, s3, s4, s5, s0]
    exact g.blk hb
theorem pw_or {α : Type} {R : α → α → Prop} {x y : α} : ∀ L : List α, L.Pairwise R → x ∈ L → y ∈ L → x = y ∨ R x y ∨ R y x
  | [], _, h, _ => by simp at h
  | z :: L, hp, hx, hy => by
    have p := List.pairwise_cons.mp hp
    rcases List.mem_cons.mp hx with a | a
    · rcases List.mem_cons.mp hy with b | b
      · exact Or.inl (a.trans b.symm)
      · rw [a]
        exact Or.inr (Or.inl (p.1 y b))
    · rcases List.mem_cons.mp hy with b | b
      · rw [b]
        exact Or.inr (Or.inr (p.1 x a))
      · exact pw_or L p.2 a b
def WI (u v : Nat → Nat → Int) (r : Nat) (f : Int) (a n : Nat) (Ly : List Nat) : Prop := GEO u ∧ RGv u ∧ SJ u v ∧ FXs u v ∧ (∀ x, x ∈ Ly → (x : Int) < u 11 0 ∧ u 17 x = r ∧ u 14 x = 0 ∧ u 13 x = f ∧ (a : Int) ≤ u 18 x ∧ u 18 x + u 12 x ≤ (a : Int) + n) ∧ Ly.Pairwise (fun x y => u 18 x + u 12 x ≤ u 18 y) ∧ ∀ d : Nat, (d : Int) < u 11 0 → u 17 d = r → d ∉ Ly → u 18 d + u 12 d ≤ a ∨ (a : Int) + n ≤ u 18 d
theorem WI_start {r a n : Nat} {f : Int} (g : GEO u) (w : RGv u) (s : SJ u v) (fx : FXs u v) (f1 : -1 ≤ f) (hr : gdR (fun s => decide (own v r s = f)) (v 0 1).toNat (a, n)) : WI u v r f a n (lyL u r n a) := by
  have hr2 : gdR (fun s => decide (own u r s = f)) (u 0 1).toNat (a, n) := by
    rw [show (fun s => decide (own u r s = f)) = (fun s => decide (own v r s = f)) from funext fun st => by rw [own_fx s fx], s 0 (by decide) (by decide)]
    exact hr
  refine ⟨g, w, s, fx, fun x hx => ?_, ly_pw g, fun d hd hdr hn => ?_⟩
  · have m := (ly_mem g n a).mp hx
    have q := in_run2 g f1 w hr2 m.1 m.2.1 m.2.2.1 m.2.2.2
    have q2 := in_run g w hr2 m.1 q.1 q.2
    exact ⟨m.1, m.2.1, q.1, q2.2.2.2, q2.2.1, q2.2.2.1⟩
  · by_cases e : u 18 d + u 12 d ≤ a ∨ (a : Int) + n ≤ u 18 d
    · exact e
    · exfalso
      have cw := (g.cel hd).1
      have xl : u 14 d = 0 := by
        rcases w.fix d with q | q
        · exact q
        · exfalso
          obtain ⟨r1, r2, r3, r4, r5⟩ := hr2
          dsimp only at r1 r2 r3 r4 r5
          obtain ⟨k, hk⟩ : ∃ k : Nat, (k : Int) = max (a : Int) (u 18 d) := ⟨(max (a : Int) (u 18 d)).toNat, by omega⟩
          have e2 := of_decide_eq_true (r3 k (by omega) (by omega))
          have : own u r k = -2 := by
            unfold own
            rw [if_pos (Or.inr (anyB_iff.mpr ⟨d, by omega, by
              unfold fxB laB
              simp only [Bool.and_eq_true, Bool.not_eq_true', decide_eq_true_eq, decide_eq_false_iff_not]
              omega⟩))]
          omega
      have q := in_run g w hr2 hd xl (by
        unfold laB
        simp only [Bool.and_eq_true, decide_eq_true_eq]
        omega)
      exact hn ((ly_mem g n a).mpr ⟨hd, hdr, by omega, by omega⟩)
/-- what a window's cells are -/
theorem WI_win {r a n : Nat} {f : Int} {A G C : List Nat} (wi : WI u v r f a n (A ++ (G ++ C))) (an : a + n ≤ 32) (r8 : r < 8) (G1 : 1 ≤ G.length) {O : List Nat} (pm : O.Perm (List.range G.length)) : (∀ x, x ∈ posW u G 0 O (u 18 (G.getD 0 0)) → rgS r x.2) ∧ (posW u G 0 O (u 18 (G.getD 0 0))).Pairwise (fun x y => x.2 + u 12 x.1 ≤ y.2) ∧ (∀ x, x ∈ posW u G 0 O (u 18 (G.getD 0 0)) → u 18 (G.getD 0 0) ≤ x.2 ∧ x.2 + u 12 x.1 ≤ hiW u G) ∧ (a : Int) ≤ u 18 (G.getD 0 0) ∧ hiW u G ≤ (a : Int) + n ∧ (O.map (fun o => G.getD o 0)).Perm G ∧ ((posW u G 0 O (u 18 (G.getD 0 0))).map (fun x => x.1)).Perm G ∧ G.Nodup := by
  obtain ⟨g, w, s, fx, m, pw, cp⟩ := wi
  have mg : ∀ x, x ∈ G → (x : Int) < u 11 0 ∧ u 17 x = r ∧ u 14 x = 0 ∧ u 13 x = f ∧ (a : Int) ≤ u 18 x ∧ u 18 x + u 12 x ≤ (a : Int) + n := fun x hx => m x (by simp [hx])
  have pg : G.Pairwise (fun x y => u 18 x + u 12 x ≤ u 18 y) := (List.pairwise_append.mp (List.pairwise_append.mp pw).2.1).1
  have gm : ∀ i, i < G.length → G.getD i 0 ∈ G := fun i hi => by
    rw [List.getD_eq_getElem?_getD, List.getElem?_eq_getElem hi]
    exact List.getElem_mem hi
  have gap : ∀ i, 0 ≤ gpW u G i := by
    intro i
    unfold gpW
    by_cases e : i + 1 < G.length
    · rw [if_pos e]
      have := List.pairwise_iff_getElem.mp pg i (i + 1) (by omega) e (by omega)
      have e1 : G.getD i 0 = G[i] := by rw [List.getD_eq_getElem?_getD, List.getElem?_eq_getElem (by omega)]; rfl
      have e2 : G.getD (i + 1) 0 = G[i + 1] := by rw [List.getD_eq_getElem?_getD, List.getElem?_eq_getElem e]; rfl
      rw [e1, e2]
      omega
    · rw [if_neg e]
      omega
  have pO : (O.map (fun o => G.getD o 0)).Perm G := by
    have := pm.map (fun o => G.getD o 0)
    rw [rg_map] at this
    exact this
  have gnd : G.Nodup := by
    refine List.Pairwise.imp_of_mem (fun {x y} hx hy q e => ?_) pg
    rw [e] at q
    have := (g.cel (mg y hy).1).1
    omega
  have ln : O.length = G.length := by have := pm.length_eq; simpa using this
  have tl : u 18 (G.getD 0 0) + sF (fun o => u 12 (G.getD o 0)) O + gS u G O.length 0 = hiW u G := by
    rw [← sF_map (f := u 12), sF_pm pO, ln]
    cases G with
    | nil => simp at G1
    | cons c Gs =>
      have := tele (v := u) (G := c :: Gs) Gs 0 c rfl
      rw [List.length_cons]
      exact this
  have sp := posW_sp gap w O 0 (u 18 (G.getD 0 0)) tl
  have lo := (mg _ (gm 0 (by omega))).2.2.2.2.1
  have hi : hiW u G ≤ (a : Int) + n := (mg _ (gm (G.length - 1) (by omega))).2.2.2.2.2
  have pk : ((posW u G 0 O (u 18 (G.getD 0 0))).map (fun x => x.1)).Perm G := by rw [posW_key]; exact pO
  refine ⟨fun x hx => ?_, sp.1, sp.2, lo, hi, pO, pk, gnd⟩
  have q := sp.2 x hx
  have xm : x.1 ∈ G := pk.mem_iff.mp (List.mem_map.mpr ⟨x, hx, rfl⟩)
  have cw := (g.cel (mg _ xm).1).1
  unfold rgS
  omega
theorem WI_step {r a n : Nat} {f : Int} {A G C : List Nat} (wi : WI u v r f a n (A ++ (G ++ C))) (an : a + n ≤ 32) (hr : gdR (fun s => decide (own v r s = f)) (v 0 1).toNat (a, n)) (rR : (r : Int) < v 0 0) (G1 : 1 ≤ G.length) {O : List Nat} (pm : O.Perm (List.range G.length)) : WI (wnP u G r O) v r f a n (A ++ (O.map (fun o => G.getD o 0) ++ C)) := by
  have r8 : r < 8 := by
    have := wi.2.1.rows
    rw [wi.2.2.1 0 (by decide) (by decide)] at this
    omega
  obtain ⟨w1, w2, w3, lo, hi, pO, pk, gnd⟩ := WI_win wi an r8 G1 pm
  obtain ⟨g, w, s, fx, m, pw, cp⟩ := wi
  obtain ⟨P, hP⟩ : ∃ P, P = posW u G 0 O (u 18 (G.getD 0 0)) := ⟨_, rfl⟩
  have e : wnP u G r O = mvL r P u := by rw [hP]; rfl
  rw [← hP] at w1 w2 w3 pk
  have knd : (P.map (fun x => x.1)).Nodup := pk.nodup_iff.mpr gnd
  have kO : P.map (fun x => x.1) = O.map (fun o => G.getD o 0) := by rw [hP]; exact posW_key O 0 _
  have inG : ∀ x, x ∈ P → x.1 ∈ G := fun x hx => pk.mem_iff.mp (List.mem_map.mpr ⟨x, hx, rfl⟩)
  have outG : ∀ d, d ∈ G → ∃ x, x ∈ P ∧ x.1 = d := fun d hd => by
    obtain ⟨x, hx, e⟩ := List.mem_map.mp (pk.mem_iff.mpr hd)
    exact ⟨x, hx, e⟩
  rw [e]
  obtain ⟨u2, hu2⟩ : ∃ u2, u2 = mvL r P u := ⟨_, rfl⟩
  have at2 : ∀ x, x ∈ P → u2 17 x.1 = r ∧ u2 18 x.1 = x.2 := fun x hx => by rw [hu2]; exact mvL_at P u hx knd
  have ot2 : ∀ j d, d ∉ G → u2 j d = u j d := fun j d hd => by
    rw [hu2]
    exact mvL_o P u (fun x hx e => hd (by rw [← e]; exact inG x hx))
  have sj2 : SJ u2 u := by rw [hu2]; exact mvL_sj P u SJ.refl
  have rg2 : RGv u2 := by rw [hu2]; exact mvL_rg P u w w1
  rw [← hu2]
  have s12 := sj2 12 (by decide) (by decide)
  have s11 := sj2 11 (by decide) (by decide)
  have s13 := sj2 13 (by decide) (by decide)
  have s14 := sj2 14 (by decide) (by decide)
  have mg : ∀ x, x ∈ G → (x : Int) < u 11 0 ∧ u 17 x = r ∧ u 14 x = 0 ∧ u 13 x = f ∧ (a : Int) ≤ u 18 x ∧ u 18 x + u 12 x ≤ (a : Int) + n := fun x hx => m x (by simp [hx])
  have pA := List.pairwise_append.mp pw
  have pGC := List.pairwise_append.mp pA.2.1
  have gm : ∀ i, i < G.length → G.getD i 0 ∈ G := fun i hi => by
    rw [List.getD_eq_getElem?_getD, List.getElem?_eq_getElem hi]
    exact List.getElem_mem hi
  have lowA : ∀ d, d ∈ A → u 18 d + u 12 d ≤ u 18 (G.getD 0 0) := fun d hd => pA.2.2 d hd _ (List.mem_append.mpr (Or.inl (gm 0 (by omega))))
  have hiC : ∀ d, d ∈ C → hiW u G ≤ u 18 d := fun d hd => pGC.2.2 _ (gm (G.length - 1) (by omega)) d hd
  have span : ∀ d : Nat, (d : Int) < u 11 0 → u 17 d = r → d ∉ G → u 18 d + u 12 d ≤ u 18 (G.getD 0 0) ∨ hiW u G ≤ u 18 d := by
    intro d hd hdr hn
    by_cases dA : d ∈ A
    · exact Or.inl (lowA d dA)
    · by_cases dC : d ∈ C
      · exact Or.inr (hiC d dC)
      · have := cp d hd hdr (by simp [dA, hn, dC])
        omega
  have wdt : ∀ x, x ∈ P → 1 ≤ u 12 x.1 := fun x hx => (g.cel (mg _ (inG x hx)).1).1
  have D2 : DIS u2 := by
    intro c d hc hd hne hp he
    rw [s11] at hc hd
    rw [s12]
    by_cases cG : c ∈ G
    · obtain ⟨x, hx, rfl⟩ := outG c cG
      obtain ⟨x1, x2⟩ := at2 x hx
      have x3 := w3 x hx
      by_cases dG : d ∈ G
      · obtain ⟨y, hy, rfl⟩ := outG d dG
        obtain ⟨y1, y2⟩ := at2 y hy
        rw [x2, y2]
        rcases pw_or P w2 hx hy with q | q | q
        · exact absurd (by rw [q]) hne
        · exact Or.inl q
        · exact Or.inr q
      · rw [x1, ot2 17 d dG] at he
        rw [x2, ot2 18 d dG]
        have := span d hd he dG
        omega
    · rw [ot2 17 c cG] at he hp
      rw [ot2 18 c cG]
      by_cases dG : d ∈ G
      · obtain ⟨y, hy, rfl⟩ := outG d dG
        obtain ⟨y1, y2⟩ := at2 y hy
        have y3 := w3 y hy
        rw [y1] at he
        rw [y2]
        have := span c hc he.symm cG
        omega
      · rw [ot2 17 d dG] at he
        rw [ot2 18 d dG]
        exact g.dis hc hd hne hp he
  have s0 := s 0 (by decide) (by decide)
  have geo2 : GEO u2 := by
    refine GEO_new g w sj2 (fun c hc => ?_) D2
    by_cases cG : c ∈ G
    · right
      obtain ⟨x, hx, rfl⟩ := outG c cG
      obtain ⟨x1, x2⟩ := at2 x hx
      have x3 := w3 x hx
      have mx := mg _ cG
      obtain ⟨r1, r2, r3, r4, r5⟩ := hr
      dsimp only at r1 r2 r3 r4 r5
      rw [x1, x2]
      refine ⟨mx.2.2.1, by omega, by rw [s0]; exact rR, by omega, by rw [s0]; omega, fun t h1 h2 => ?_⟩
      rw [Int.toNat_natCast, own_fx s fx, mx.2.2.2.1]
      exact of_decide_eq_true (r3 t (by omega) (by omega))
    · exact Or.inl ⟨ot2 17 c cG, ot2 18 c cG⟩
  have nAG : ∀ d, d ∈ A → d ∉ G := fun d hd hg => by
    have := pA.2.2 d hd d (by simp [hg])
    have := (g.cel (m d (by simp [hd])).1).1
    omega
  have nCG : ∀ d, d ∈ C → d ∉ G := fun d hd hg => by
    have := pGC.2.2 d hg d hd
    have := (g.cel (m d (by simp [hd])).1).1
    omega
  have mOG : ∀ x, x ∈ O.map (fun o => G.getD o 0) ↔ x ∈ G := fun x => pO.mem_iff
  refine ⟨geo2, rg2, fun j h1 h2 => (sj2 j h1 h2).trans (s j h1 h2), fun c hc hx => ?_, fun x hx => ?_, ?_, fun d hd hdr hn => ?_⟩
  · have cG : c ∉ G := fun q => by
      have := (mg c q).2.2.1
      rw [s 14 (by decide) (by decide)] at this
      exact hx this
    rw [ot2 17 c cG, ot2 18 c cG]
    exact fx c hc hx
  · rw [s11, s12, s13, s14]
    by_cases xG : x ∈ G
    · obtain ⟨y, hy, rfl⟩ := outG x xG
      obtain ⟨y1, y2⟩ := at2 y hy
      have y3 := w3 y hy
      have mx := mg _ xG
      rw [y1, y2]
      exact ⟨mx.1, rfl, mx.2.2.1, mx.2.2.2.1, by omega, by omega⟩
    · rw [ot2 17 x xG, ot2 18 x xG]
      refine m x ?_
      rcases List.mem_append.mp hx with q | q
      · simp [q]
      · rcases List.mem_append.mp q with q | q
        · exact absurd ((mOG x).mp q) xG
        · simp [q]
  · rw [s12]
    refine List.pairwise_append.mpr ⟨?_, List.pairwise_append.mpr ⟨?_, ?_, ?_⟩, ?_⟩
    · refine List.Pairwise.imp_of_mem (fun {x y} hx hy q => ?_) pA.1
      rw [ot2 18 x (nAG x hx), ot2 18 y (nAG y hy)]
      exact q
    · rw [← kO, List.pairwise_map]
      refine List.Pairwise.imp_of_mem (fun {x y} hx hy q => ?_) w2
      rw [(at2 x hx).2, (at2 y hy).2]
      exact q
    · refine List.Pairwise.imp_of_mem (fun {x y} hx hy q => ?_) pGC.2.1
      rw [ot2 18 x (nCG x hx), ot2 18 y (nCG y hy)]
      exact q
    · intro x hx y hy
      obtain ⟨z, hz, rfl⟩ := outG x ((mOG x).mp hx)
      rw [(at2 z hz).2, ot2 18 y (nCG y hy)]
      have := w3 z hz
      have := hiC y hy
      omega
    · intro x hx y hy
      rw [ot2 18 x (nAG x hx)]
      rcases List.mem_append.mp hy with q | q
      · obtain ⟨z, hz, rfl⟩ := outG y ((mOG y).mp q)
        rw [(at2 z hz).2]
        have := w3 z hz
        have := lowA x hx
        omega
      · rw [ot2 18 y (nCG y q)]
        exact pA.2.2 x hx y (by simp [q])
  · rw [s11] at hd
    rw [s12]
    have dG : d ∉ G := fun q => hn (List.mem_append.mpr (Or.inr (List.mem_append.mpr (Or.inl ((mOG d).mpr q)))))
    rw [ot2 17 d dG] at hdr
    rw [ot2 18 d dG]
    refine cp d hd hdr (fun q => hn ?_)
    rcases List.mem_append.mp q with q | q
    · simp [q]
    · rcases List.mem_append.mp q with q | q
      · exact absurd q dG
      · simp [q]
end WNI
