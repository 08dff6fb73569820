/-! WINDOWS: what it comes to -/
def gpW (v : Nat → Nat → Int) (G : List Nat) (i : Nat) : Int := if i + 1 < G.length then v 18 (G.getD (i + 1) 0) - v 18 (G.getD i 0) - v 12 (G.getD i 0) else 0
def posW (v : Nat → Nat → Int) (G : List Nat) : Nat → List Nat → Int → List (Nat × Int)
  | _, [], _ => []
  | i, o :: Os, s => (G.getD o 0, s) :: posW v G (i + 1) Os (s + v 12 (G.getD o 0) + gpW v G i)
def mvL (r : Int) : List (Nat × Int) → (Nat → Nat → Int) → (Nat → Nat → Int)
  | [], u => u
  | x :: P, u => mvL r P (gvP u x.1 r x.2)
def wnP (v : Nat → Nat → Int) (G : List Nat) (r : Int) (O : List Nat) : Nat → Nat → Int := mvL r (posW v G 0 O (v 18 (G.getD 0 0))) v
def wnO (v : Nat → Nat → Int) (t : Int) (G : List Nat) (r : Int) : List Nat := bsO (fun O => wir (wnP v G r O) t) (ords G.length) (List.range G.length) (wir v t)
def wnJ (t r : Int) (k : Nat) : Nat → Nat → List Nat → (Nat → Nat → Int) → (Nat → Nat → Int)
  | 0, _, _, u => u
  | m + 1, j, Ly, u => wnJ t r k m (j + 1) (Ly.take j ++ ((wnO u t ((Ly.drop j).take k) r).map (fun o => ((Ly.drop j).take k).getD o 0) ++ Ly.drop (j + k))) (wnP u ((Ly.drop j).take k) r (wnO u t ((Ly.drop j).take k) r))
def wnR (t : Int) (k : Nat) : List Rn → (Nat → Nat → Int) → (Nat → Nat → Int)
  | [], u => u
  | x :: L, u => wnR t k L (wnJ t x.1 k ((lyL u x.1 x.2.2.2 x.2.2.1).length + 1 - k) 0 (lyL u x.1 x.2.2.2 x.2.2.1) u)
def spWin (s : AS) (k : Int) : Int × AS := if ¬ (2 ≤ k ∧ k ≤ 4) then refS s (-1) else actS s 13 (wir s.1 (s.2.1 4) - wir (wnR (s.2.1 4) k.toNat (rnL s.1) s.1) (s.2.1 4)) (wnR (s.2.1 4) k.toNat (rnL s.1) s.1)
def okP (n : Nat) : Bool := (ords n).all (fun L => L.isPerm (List.range n))
set_option maxRecDepth 100000 in
theorem okP_5 : ∀ n, n ≤ 5 → okP n = true := by
  intro n hn
  rcases (show n = 0 ∨ n = 1 ∨ n = 2 ∨ n = 3 ∨ n = 4 ∨ n = 5 by omega) with rfl | rfl | rfl | rfl | rfl | rfl <;> decide +kernel
theorem ord_pm {n : Nat} (hn : n ≤ 5) : ∀ L, L ∈ ords n → L.Perm (List.range n) := by
  intro L hL
  have := okP_5 n hn
  unfold okP at this
  rw [List.all_eq_true] at this
  exact List.isPerm_iff.mp (this L hL)
def sF (f : Nat → Int) : List Nat → Int
  | [] => 0
  | c :: L => f c + sF f L
theorem sF_pm {f : Nat → Int} {L M : List Nat} (h : L.Perm M) : sF f L = sF f M := by
  induction h with
  | nil => rfl
  | cons x _ ih => rw [sF, sF, ih]
  | swap x y l => rw [sF, sF, sF, sF]; omega
  | trans _ _ h1 h2 => exact h1.trans h2
theorem sF_map {f : Nat → Int} {g : Nat → Nat} : ∀ L : List Nat, sF f (L.map g) = sF (fun o => f (g o)) L
  | [] => rfl
  | c :: L => by rw [List.map_cons, sF, sF, sF_map L]
theorem rg_map {G : List Nat} : (List.range G.length).map (fun o => G.getD o 0) = G := by
  refine List.ext_getElem? (fun i => ?_)
  rw [List.getElem?_map]
  rcases Nat.lt_or_ge i G.length with h | h
  · rw [List.getElem?_range h, List.getElem?_eq_getElem h]
    show some (G.getD i 0) = _
    rw [List.getD_eq_getElem?_getD, List.getElem?_eq_getElem h]
    rfl
  · rw [List.getElem?_eq_none (by simpa using h), List.getElem?_eq_none h]
    rfl
section WNP
variable {v u : Nat → Nat → Int} {G : List Nat} {r : Int}
def gS (v : Nat → Nat → Int) (G : List Nat) : Nat → Nat → Int
  | 0, _ => 0
  | m + 1, i => gpW v G i + gS v G m (i + 1)
def hiW (v : Nat → Nat → Int) (G : List Nat) : Int := v 18 (G.getD (G.length - 1) 0) + v 12 (G.getD (G.length - 1) 0)
theorem getD_drop {i c : Nat} {Gs : List Nat} (h : G.drop i = c :: Gs) : G.getD i 0 = c ∧ G.drop (i + 1) = Gs ∧ i < G.length := by
  have hl : i < G.length := by
    rcases Nat.lt_or_ge i G.length with d | d
    · exact d
    · rw [List.drop_eq_nil_of_le d] at h
      cases h
  refine ⟨?_, ?_, hl⟩
  · have := List.getElem?_drop (xs := G) (i := i) (j := 0)
    rw [h] at this
    simp at this
    rw [List.getD_eq_getElem?_getD, ← this]
    rfl
  · rw [← List.drop_drop, h]
    rfl
theorem tele : ∀ (Gs : List Nat) (i c : Nat), G.drop i = c :: Gs → v 18 c + sF (v 12) (c :: Gs) + gS v G (Gs.length + 1) i = hiW v G
  | [], i, c, h => by
    obtain ⟨h1, h2, h3⟩ := getD_drop h
    have hl : i + 1 = G.length := by
      have := congrArg List.length h
      simp at this
      omega
    rw [sF, sF, List.length_nil, gS, gS, gpW, if_neg (by omega), hiW, show G.length - 1 = i by omega, h1]
    omega
  | d :: Gs, i, c, h => by
    obtain ⟨h1, h2, h3⟩ := getD_drop h
    obtain ⟨h4, _, h6⟩ := getD_drop h2
    have ih := tele Gs (i + 1) d h2
    rw [sF, List.length_cons, gS, gpW, if_pos h6, h1, h4]
    omega
theorem posW_key : ∀ (Os : List Nat) (i : Nat) (s : Int), (posW v G i Os s).map (fun x => x.1) = Os.map (fun o => G.getD o 0)
  | [], _, _ => rfl
  | o :: Os, i, s => by rw [posW, List.map_cons, List.map_cons, posW_key Os]
theorem gS_ge (h : ∀ i, 0 ≤ gpW v G i) : ∀ m i, 0 ≤ gS v G m i
  | 0, _ => Int.le_refl _
  | m + 1, i => by
    have := gS_ge h m (i + 1)
    have := h i
    rw [gS]
    omega
theorem sF_ge {f : Nat → Int} : ∀ L : List Nat, (∀ c, c ∈ L → 0 ≤ f c) → 0 ≤ sF f L
  | [], _ => Int.le_refl _
  | c :: L, h => by
    have := sF_ge L (fun d hd => h d (by simp [hd]))
    have := h c (by simp)
    rw [sF]
    omega
/-- all in their span, none on another -/
theorem posW_sp (hg : ∀ i, 0 ≤ gpW v G i) (w : RGv v) {hi : Int} : ∀ (Os : List Nat) (i : Nat) (s : Int), s + sF (fun o => v 12 (G.getD o 0)) Os + gS v G Os.length i = hi → (posW v G i Os s).Pairwise (fun x y => x.2 + v 12 x.1 ≤ y.2) ∧ ∀ x, x ∈ posW v G i Os s → s ≤ x.2 ∧ x.2 + v 12 x.1 ≤ hi
  | [], _, _, _ => ⟨List.Pairwise.nil, fun x hx => by simp [posW] at hx⟩
  | o :: Os, i, s, h => by
    rw [sF, List.length_cons, gS] at h
    have wo := w.wid (G.getD o 0)
    have ho := hg i
    have g2 := gS_ge hg Os.length (i + 1)
    have f2 := sF_ge (f := fun o => v 12 (G.getD o 0)) Os (fun c _ => (w.wid _).1)
    have ih := posW_sp hg w (hi := hi) Os (i + 1) (s + v 12 (G.getD o 0) + gpW v G i) (by omega)
    rw [posW]
    refine ⟨List.pairwise_cons.mpr ⟨fun y hy => ?_, ih.1⟩, fun x hx => ?_⟩
    · have := ih.2 y hy
      dsimp only
      omega
    · rcases List.mem_cons.mp hx with q | q
      · rw [q]
        dsimp only
        omega
      · have := ih.2 x q
        omega
theorem mvL_o {j d : Nat} : ∀ (P : List (Nat × Int)) (u : Nat → Nat → Int), (∀ x, x ∈ P → x.1 ≠ d) → mvL r P u j d = u j d
  | [], _, _ => rfl
  | x :: P, u, h => by
    rw [mvL, mvL_o P _ (fun y hy => h y (by simp [hy]))]
    have := h x (by simp)
    unfold gvP
    rw [up2_eq, if_neg (fun q => this q.2.symm), up2_eq, if_neg (fun q => this q.2.symm)]
theorem mvL_sj {v2 : Nat → Nat → Int} : ∀ (P : List (Nat × Int)) (u : Nat → Nat → Int), SJ u v2 → SJ (mvL r P u) v2
  | [], _, h => h
  | x :: P, u, h => by
    rw [mvL]
    exact mvL_sj P _ h.gv
theorem mvL_at {x : Nat × Int} : ∀ (P : List (Nat × Int)) (u : Nat → Nat → Int), x ∈ P → (P.map (fun x => x.1)).Nodup → mvL r P u 17 x.1 = r ∧ mvL r P u 18 x.1 = x.2
  | [], _, h, _ => by simp at h
  | y :: P, u, h, nd => by
    rw [List.map_cons, List.nodup_cons] at nd
    rw [mvL]
    rcases List.mem_cons.mp h with q | q
    · rw [q, mvL_o P _ (fun z hz e => nd.1 (by rw [← e]; exact List.mem_map.mpr ⟨z, hz, rfl⟩)), mvL_o P _ (fun z hz e => nd.1 (by rw [← e]; exact List.mem_map.mpr ⟨z, hz, rfl⟩))]
      unfold gvP
      rw [up2_oth (by decide), up2_self, up2_self]
      exact ⟨rfl, rfl⟩
    · exact mvL_at P _ q nd.2
theorem mvL_rg : ∀ (P : List (Nat × Int)) (u : Nat → Nat → Int), RGv u → (∀ x, x ∈ P → rgS r x.2) → RGv (mvL r P u)
  | [], _, h, _ => h
  | x :: P, u, h, hp => by
    rw [mvL]
    exact mvL_rg P _ (h.gv (hp x (by simp))) (fun y hy => hp y (by simp [hy]))
theorem mvL_ag : ∀ (P : List (Nat × Int)) (K : Nat → Prop) (u u2 : Nat → Nat → Int), AGP K u u2 → AGP (fun d => K d ∧ ∀ x, x ∈ P → x.1 ≠ d) (mvL r P u) (mvL r P u2)
  | [], K, u, u2, h => h.mono (fun d p => ⟨p, fun x hx => by simp at hx⟩)
  | y :: P, K, u, u2, h => by
    rw [mvL, mvL]
    refine (mvL_ag P _ _ _ (h.gv y.1 r y.2)).mono (fun d p => ⟨p.1.1, fun x hx => ?_⟩)
    rcases List.mem_cons.mp hx with q | q
    · rw [q]
      exact fun e => p.1.2 e.symm
    · exact p.2 x q
theorem mvL_again {P P2 : List (Nat × Int)} (h : ∀ x, x ∈ P2 → ∃ y, y ∈ P ∧ y.1 = x.1) : mvL r P (mvL r P2 v) = mvL r P v := by
  have a : AGP (fun d => ∃ x, x ∈ P2 ∧ x.1 = d) (mvL r P2 v) v := by
    intro j d q
    rcases q with q | q
    · exact congrFun (mvL_sj P2 v SJ.refl j q.1 q.2) d
    · exact mvL_o P2 v (fun x hx e => q ⟨x, hx, e⟩)
  have b := mvL_ag (r := r) P _ _ _ a
  funext j d
  refine b j d (Or.inr (fun p => ?_))
  obtain ⟨x, hx, e⟩ := p.1
  obtain ⟨y, hy, e2⟩ := h x hx
  exact p.2 y hy (e2.trans e)
/-- the order in which they are leaves all as it is -/
theorem wn_id (hr : ∀ c, c ∈ G → v 17 c = r) : ∀ (Gs : List Nat) (k : Nat), G.drop k = Gs → mvL r (posW v G k (List.range' k Gs.length) (v 18 (G.getD k 0))) v = v
  | [], k, _ => by
    rw [List.length_nil, List.range'_zero, posW, mvL]
  | c :: Gs, k, h => by
    obtain ⟨h1, h2, h3⟩ := getD_drop h
    have cm : c ∈ G := by
      rw [← h1, List.getD_eq_getElem?_getD, List.getElem?_eq_getElem h3]
      exact List.getElem_mem h3
    have idv : gvP v c r (v 18 c) = v := by
      unfold gvP
      rw [← hr c cm, up2_id, up2_id]
    have ih := wn_id hr Gs (k + 1) h2
    rw [List.length_cons, List.range'_succ, posW, mvL, h1]
    dsimp only
    rw [idv]
    cases Gs with
    | nil => rw [List.length_nil, List.range'_zero, posW, mvL]
    | cons d Gs =>
      obtain ⟨h4, _, h6⟩ := getD_drop h2
      have es : v 18 c + v 12 c + gpW v G k = v 18 (G.getD (k + 1) 0) := by
        rw [gpW, if_pos h6, h1]
        omega
      rw [es]
      exact ih
end WNP
