/-! SORTS: groups, their spots, what an order costs -/
def gpC (v : Nat → Nat → Int) (f w : Int) (c : Nat) : Bool := lpB v c && decide (v 13 c = f) && decide (v 12 c = w)
def shP (v : Nat → Nat → Int) (c d : Nat) : Bool := anyB (shB v c d) (v 19 0).toNat
def shG (v : Nat → Nat → Int) (c : Nat) : List Nat → Bool
  | [] => false
  | d :: G => shP v c d || shG v c G
def grp (v : Nat → Nat → Int) (f w : Int) : Nat → List Nat
  | 0 => []
  | n + 1 => if gpC v f w n = true ∧ (grp v f w n).length < 5 ∧ shG v n (grp v f w n) = false then grp v f w n ++ [n] else grp v f w n
def ptG (v : Nat → Nat → Int) (G : List Nat) : List Nat → List Nat → (Nat → Nat → Int) → (Nat → Nat → Int)
  | c :: Gs, o :: Os, u => ptG v G Gs Os (gvP u c (v 17 (G.getD o 0)) (v 18 (G.getD o 0)))
  | _, _, u => u
def pcG (v : Nat → Nat → Int) (t : Int) (G : List Nat) : List Nat → List Nat → Int
  | c :: Gs, o :: Os => wat v t c (16 * v 18 (G.getD o 0)) (16 * v 17 (G.getD o 0)) + pcG v t G Gs Os
  | _, _ => 0
def asG (v : Nat → Nat → Int) (t : Int) : List Nat → Int
  | [] => 0
  | c :: Gs => wat v t c (coX v c) (coY v c) + asG v t Gs
def bsO (cst : List Nat → Int) : List (List Nat) → List Nat → Int → List Nat
  | [], B, _ => B
  | O :: Os, B, le => if cst O < le then bsO cst Os O (cst O) else bsO cst Os B le
def gpA (v : Nat → Nat → Int) (f w : Int) : List Nat := grp v f w (v 11 0).toNat
def srO (v : Nat → Nat → Int) (t : Int) (G : List Nat) : List Nat := bsO (fun O => wir (ptG v G G O v) t) (ords G.length) (List.range G.length) (wir v t)
def srG (v : Nat → Nat → Int) (t f w : Int) : Nat → Nat → Int := ptG v (gpA v f w) (gpA v f w) (srO v t (gpA v f w)) v
def srW (t f : Int) : Nat → Int → (Nat → Nat → Int) → (Nat → Nat → Int)
  | 0, _, v => v
  | m + 1, w, v => srW t f m (w + 1) (srG v t f w)
def srF (t : Int) : Nat → Int → (Nat → Nat → Int) → (Nat → Nat → Int)
  | 0, _, v => v
  | m + 1, f, v => srF t m (f + 1) (srW t f 6 1 v)
def spSorts (s : AS) : Int × AS := actS s 16 (wir s.1 (s.2.1 4) - wir (srF (s.2.1 4) ((s.1 6 0).toNat + 1) (-1) s.1) (s.2.1 4)) (srF (s.2.1 4) ((s.1 6 0).toNat + 1) (-1) s.1)
section SRT
variable {v w : Nat → Nat → Int} {t x y : Int} {c d : Nat}
theorem waT_ag (hw : RGv v) (a : AG v w c) (hc : c < 200) (hd : d ≠ c) {n : Nat} (hs : ¬ (nwB v c n = true ∧ nwB v d n = true)) : waT w t d x y n = waT v t d x y n := by
  have e21 : w 21 = v 21 := a.1 21 (by omega) (by omega) (by omega) (by omega)
  have e22 : w 22 = v 22 := a.1 22 (by omega) (by omega) (by omega) (by omega)
  have e23 : w 23 = v 23 := a.1 23 (by omega) (by omega) (by omega) (by omega)
  have e20 : w 20 = v 20 := a.1 20 (by omega) (by omega) (by omega) (by omega)
  have ep : pnO w n d = pnO v n d := pnO_cg (fun j hj => by rcases hj with rfl | rfl; exact e21; exact e22) n
  unfold waT
  rw [ep, e20]
  by_cases e : pnO v n d = -1
  · rw [if_pos e, if_pos e]
  · rw [if_neg e, if_neg e]
    have ec : pnO v n c = -1 := by
      by_cases q : pnO v n c = -1
      · exact q
      · exfalso
        apply hs
        unfold nwB
        rw [decide_eq_false q, decide_eq_false e]
        exact ⟨rfl, rfl⟩
    have eb : ∀ p, bxs w n p = bxs v n p := by
      intro p
      unfold bxs
      rw [e21]
      refine bx4_ag _ _ _ (fun k h1 h2 h3 => ?_)
      have hk := pnO_no ec (k := k) (by omega)
      have hd2 := hw.hed (n * 6 + k)
      unfold pnX pnY
      rw [e22, e23]
      by_cases q : 200 ≤ v 22 (n * 6 + k)
      · rw [if_pos q, if_pos q, if_pos q, if_pos q]; exact ⟨rfl, rfl⟩
      · rw [if_neg q, if_neg q, if_neg q, if_neg q]
        have := a.2 (v 22 (n * 6 + k)).toNat (by omega)
        rw [this.1, this.2]; exact ⟨rfl, rfl⟩
    unfold spA
    rw [eb, e23]
theorem wat_ag (hw : RGv v) (a : AG v w c) (hc : c < 200) (hd : d ≠ c) (hs : shP v c d = false) : wat w t d x y = wat v t d x y := by
  unfold wat
  rw [a.1 19 (by omega) (by omega) (by omega) (by omega)]
  refine sumF_cg _ _ (fun k h1 h2 => waT_ag hw a hc hd (fun q => ?_))
  unfold shP at hs
  have := anyB_f.mp hs k (by omega)
  unfold shB at this
  rw [q.1, q.2] at this
  cases this
theorem grp_len {f w : Int} : ∀ n, (grp v f w n).length ≤ 5
  | 0 => by rw [grp]; simp
  | n + 1 => by
    have := grp_len (f := f) (w := w) n
    rw [grp]
    split
    · rename_i h
      rw [List.length_append]
      simp
      omega
    · exact this
theorem grp_in {f w : Int} : ∀ n c, c ∈ grp v f w n → c < n ∧ gpC v f w c = true
  | 0, c, h => by rw [grp] at h; simp at h
  | n + 1, c, h => by
    rw [grp] at h
    split at h
    · rename_i q
      rcases List.mem_append.mp h with r | r
      · have := grp_in n c r
        exact ⟨by omega, this.2⟩
      · simp at r
        rw [r]
        exact ⟨by omega, q.1⟩
    · have := grp_in n c h
      exact ⟨by omega, this.2⟩
theorem shG_f {c : Nat} : ∀ G : List Nat, shG v c G = false → ∀ d, d ∈ G → shP v c d = false
  | [], _, d, h => by simp at h
  | e :: G, h, d, hd => by
    rw [shG, Bool.or_eq_false_iff] at h
    rcases List.mem_cons.mp hd with r | r
    · rw [r]; exact h.1
    · exact shG_f G h.2 d r
theorem shP_cm : shP v c d = shP v d c := by
  unfold shP
  refine congrArg (fun p => anyB p (v 19 0).toNat) (funext fun n => ?_)
  unfold shB
  rw [Bool.and_comm]
/-- no two of a group have a net -/
theorem grp_pw {f w : Int} : ∀ n, (grp v f w n).Pairwise (fun c d => c < d ∧ shP v c d = false)
  | 0 => by rw [grp]; exact List.Pairwise.nil
  | n + 1 => by
    have ih := grp_pw (f := f) (w := w) n
    rw [grp]
    split
    · rename_i q
      rw [List.pairwise_append]
      refine ⟨ih, by simp, fun a ha b hb => ?_⟩
      simp at hb
      rw [hb]
      exact ⟨(grp_in n a ha).1, by rw [shP_cm]; exact shG_f _ q.2.2 a ha⟩
    · exact ih
theorem bsO_sh {cst cst2 : List Nat → Int} {K : Int} : ∀ (Os : List (List Nat)) (B : List Nat) (le le2 : Int), (∀ O, O ∈ Os → cst O = K + cst2 O) → le = K + le2 → bsO cst Os B le = bsO cst2 Os B le2
  | [], _, _, _, _, _ => rfl
  | O :: Os, B, le, le2, h, hl => by
    have e := h O (by simp)
    have ih := fun B le le2 hl => bsO_sh Os B le le2 (fun O hO => h O (by simp [hO])) hl
    rw [bsO, bsO]
    by_cases c : cst O < le
    · rw [if_pos c, if_pos (by omega)]
      exact ih O _ _ e
    · rw [if_neg c, if_neg (by omega)]
      exact ih B _ _ hl
theorem bsO_in {cst : List Nat → Int} : ∀ (Os : List (List Nat)) (B : List Nat) (le : Int), bsO cst Os B le = B ∨ bsO cst Os B le ∈ Os
  | [], _, _ => Or.inl rfl
  | O :: Os, B, le => by
    rw [bsO]
    split
    · rcases bsO_in Os O (cst O) with q | q
      · rw [q]; exact Or.inr (by simp)
      · exact Or.inr (by simp [q])
    · rcases bsO_in Os B le with q | q
      · exact Or.inl q
      · exact Or.inr (by simp [q])
theorem ptG_sj {G : List Nat} : ∀ (Gs Os : List Nat) (u v2 : Nat → Nat → Int), SJ u v2 → SJ (ptG v G Gs Os u) v2
  | c :: Gs, o :: Os, u, v2, h => by
    rw [ptG]
    exact ptG_sj Gs Os _ _ h.gv
  | [], [], _, _, h => h
  | [], _ :: _, _, _, h => h
  | _ :: _, [], _, _, h => h
theorem ptG_rg {G : List Nat} (hs : ∀ o, o < G.length → rgS (v 17 (G.getD o 0)) (v 18 (G.getD o 0))) : ∀ (Gs Os : List Nat) (u : Nat → Nat → Int), (∀ o, o ∈ Os → o < G.length) → RGv u → RGv (ptG v G Gs Os u)
  | c :: Gs, o :: Os, u, ho, h => by
    rw [ptG]
    exact ptG_rg hs Gs Os _ (fun p hp => ho p (by simp [hp])) (h.gv (hs o (ho o (by simp))))
  | [], [], _, _, h => h
  | [], _ :: _, _, _, h => h
  | _ :: _, [], _, _, h => h
/-- it does not matter where they were -/
theorem ptG_ag {G : List Nat} : ∀ (Gs Os : List Nat) (P : Nat → Prop) (u u2 : Nat → Nat → Int), Gs.length = Os.length → AGP P u u2 → AGP (fun d => P d ∧ d ∉ Gs) (ptG v G Gs Os u) (ptG v G Gs Os u2)
  | [], [], P, u, u2, _, h => h.mono (fun d p => ⟨p, by simp⟩)
  | c :: Gs, o :: Os, P, u, u2, hl, h => by
    rw [ptG, ptG]
    refine (ptG_ag Gs Os _ _ _ (by simpa using hl) (h.gv c _ _)).mono (fun d p => ⟨p.1.1, fun q => ?_⟩)
    rcases List.mem_cons.mp q with q | q
    · exact p.1.2 q
    · exact p.2 q
  | [], _ :: _, _, _, _, hl, _ => by simp at hl
  | _ :: _, [], _, _, _, hl, _ => by simp at hl
theorem ptG_o {G : List Nat} : ∀ (Gs Os : List Nat) (u : Nat → Nat → Int) (j d : Nat), d ∉ Gs → ptG v G Gs Os u j d = u j d
  | c :: Gs, o :: Os, u, j, d, h => by
    rw [ptG, ptG_o Gs Os _ j d (fun q => h (by simp [q]))]
    unfold gvP
    have : d ≠ c := fun q => h (by simp [q])
    rw [up2_eq, if_neg (fun q => this q.2), up2_eq, if_neg (fun q => this q.2)]
  | [], [], _, _, _, _ => rfl
  | [], _ :: _, _, _, _, _ => rfl
  | _ :: _, [], _, _, _, _ => rfl
theorem ptG_again {G O O2 : List Nat} (hl : G.length = O.length) : ptG v G G O (ptG v G G O2 v) = ptG v G G O v := by
  have a : AGP (fun d => d ∈ G) (ptG v G G O2 v) v := by
    intro j d q
    rcases q with q | q
    · exact congrFun (ptG_sj G O2 v v SJ.refl j q.1 q.2) d
    · exact ptG_o G O2 v j d q
  have b := ptG_ag (v := v) (G := G) G O _ _ _ hl a
  funext j d
  exact b j d (Or.inr (fun p => p.2 p.1))
theorem ptG_id {G : List Nat} : ∀ (Gs : List Nat) (k : Nat), G.drop k = Gs → ptG v G Gs (List.range' k Gs.length) v = v
  | [], k, _ => by
    rw [List.length_nil, List.range'_zero, ptG]
    all_goals simp
  | c :: Gs, k, h => by
    have hk : G.getD k 0 = c := by
      have := List.getElem?_drop (xs := G) (i := k) (j := 0)
      rw [h] at this
      simp at this
      rw [List.getD_eq_getElem?_getD, ← this]
      rfl
    have h2 : G.drop (k + 1) = Gs := by
      rw [← List.drop_drop, h]
      rfl
    rw [List.length_cons, List.range'_succ, ptG, hk]
    have : gvP v c (v 17 c) (v 18 c) = v := by
      unfold gvP
      rw [up2_id, up2_id]
    rw [this]
    exact ptG_id Gs (k + 1) h2
theorem SJ.nd {u : Nat → Nat → Int} (s : SJ u v) (n : NDv v) : NDv u := by
  unfold NDv at n ⊢
  rw [s 19 (by decide) (by decide), s 21 (by decide) (by decide), s 22 (by decide) (by decide)]
  exact n
theorem SJ.shP {u : Nat → Nat → Int} (s : SJ u v) (c d : Nat) : shP u c d = shP v c d := by
  unfold _root_.Jvm.Pilot.CCellRowsLaw_law_r4691_e6d42c.shP shB nwB pnO phB
  rw [s 19 (by decide) (by decide), s 21 (by decide) (by decide), s 22 (by decide) (by decide)]
/-- WIRE of an order is its price and what is the same for all -/
theorem wir_pt {G : List Nat} (nd : NDv v) (hs : ∀ o, o < G.length → rgS (v 17 (G.getD o 0)) (v 18 (G.getD o 0))) : ∀ (Gs Os : List Nat) (u : Nat → Nat → Int), Gs.length = Os.length → (∀ o, o ∈ Os → o < G.length) → (∀ c, c ∈ Gs → c < 200) → Gs.Pairwise (fun c d => c < d ∧ shP v c d = false) → SJ u v → RGv u → (∀ c, c ∈ Gs → (∀ x y, wat u t c x y = wat v t c x y) ∧ coX u c = coX v c ∧ coY u c = coY v c) → wir (ptG v G Gs Os u) t = wir u t - asG v t Gs + pcG v t G Gs Os
  | [], [], u, _, _, _, _, _, _, _ => by
    rw [ptG, asG, pcG]
    · omega
    all_goals simp
  | c :: Gs, o :: Os, u, hl, ho, h200, pw, sj, w, H => by
    have p := List.pairwise_cons.mp pw
    have hso := hs o (ho o (by simp))
    have hc := H c (by simp)
    have a : AG u (gvP u c (v 17 (G.getD o 0)) (v 18 (G.getD o 0))) c := AG_gv
    have ih := wir_pt nd hs Gs Os (gvP u c (v 17 (G.getD o 0)) (v 18 (G.getD o 0))) (by simpa using hl) (fun q hq => ho q (by simp [hq])) (fun q hq => h200 q (by simp [hq])) p.2 sj.gv (w.gv hso) (fun d hd => by
      have pd := p.1 d hd
      have Hd := H d (by simp [hd])
      refine ⟨fun x y => ?_, ?_, ?_⟩
      · rw [wat_ag w a (h200 c (by simp)) (by omega) (by rw [sj.shP]; exact pd.2)]
        exact Hd.1 x y
      · rw [(a.2 d (by omega)).1]
        exact Hd.2.1
      · rw [(a.2 d (by omega)).2]
        exact Hd.2.2)
    have wg := wir_gv (t := t) (c := c) (r := v 17 (G.getD o 0)) (s := v 18 (G.getD o 0)) w (sj.nd nd) (h200 c (by simp)) (by have := hso.1; omega)
    rw [ptG, ih, wg, hc.1, hc.1, hc.2.1, hc.2.2, asG, pcG]
    omega
  | [], _ :: _, _, hl, _, _, _, _, _, _ => by simp at hl
  | _ :: _, [], _, hl, _, _, _, _, _, _ => by simp at hl
end SRT
