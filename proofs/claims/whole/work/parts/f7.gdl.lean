/-! GOOD: to make lawful -/
theorem grS_pw {p : Nat → Bool} : ∀ (m s : Nat) (o : Option Nat) (M : List (Nat × Nat)), M.Pairwise (fun x y => x.1 + x.2 ≤ y.1) → (∀ x, x ∈ M → x.1 + x.2 ≤ o.getD s) → o.getD s ≤ s → (grS p m s o M).Pairwise (fun x y => x.1 + x.2 ≤ y.1)
  | 0, _, none, M, h, _, _ => h
  | 0, s, some a, M, h, h2, h3 => by
    rw [grS, List.pairwise_append]
    exact ⟨h, by simp, fun x hx y hy => by simp at hy; rw [hy]; exact h2 x hx⟩
  | m + 1, s, none, M, h, h2, h3 => by
    rw [grS]
    split
    · exact grS_pw m (s + 1) (some s) M h h2 (by show s ≤ s + 1; omega)
    · exact grS_pw m (s + 1) none M h (fun x hx => by have := h2 x hx; show _ ≤ s + 1; simp at this; omega) (Nat.le_refl _)
  | m + 1, s, some a, M, h, h2, h3 => by
    have h3' : a ≤ s := h3
    rw [grS]
    split
    · exact grS_pw m (s + 1) (some a) M h h2 (by show a ≤ s + 1; omega)
    · refine grS_pw m (s + 1) none _ ?_ (fun x hx => ?_) (Nat.le_refl _)
      · rw [List.pairwise_append]
        exact ⟨h, by simp, fun x hx y hy => by simp at hy; rw [hy]; exact h2 x hx⟩
      · show _ ≤ s + 1
        rcases List.mem_append.mp hx with q | q
        · have := h2 x q
          simp at this
          omega
        · simp at q
          rw [q]
          dsimp only
          omega
def apt (x y : Rn) : Prop := x.1 = y.1 → x.2.2.1 + x.2.2.2 ≤ y.2.2.1 ∨ y.2.2.1 + y.2.2.2 ≤ x.2.2.1
section GDL
variable {u v : Nat → Nat → Int}
theorem rnF_apt {r : Nat} : ∀ n, (rnF v r n).Pairwise apt
  | 0 => by rw [rnF]; exact List.Pairwise.nil
  | n + 1 => by
    rw [rnF, List.pairwise_append]
    refine ⟨rnF_apt n, ?_, fun x hx y hy _ => ?_⟩
    · rw [List.pairwise_map]
      have := grS_pw (p := fun s => decide (own v r s = (n : Int) - 1)) (v 0 1).toNat 0 none [] List.Pairwise.nil (fun x hx => by simp at hx) (Nat.le_refl _)
      exact this.imp (fun {a b} q _ => Or.inl q)
    · have a := rnF_in n x hx
      obtain ⟨z, hz, rfl⟩ := List.mem_map.mp hy
      have g1 := rnR_gd _ a.2.2.2
      have g2 := rnR_gd _ hz
      show x.2.2.1 + x.2.2.2 ≤ z.1 ∨ z.1 + z.2 ≤ x.2.2.1
      by_cases e : x.2.2.1 + x.2.2.2 ≤ z.1 ∨ z.1 + z.2 ≤ x.2.2.1
      · exact e
      · exfalso
        have h1 := g1.1
        have h2 := g2.1
        dsimp only at h1 h2
        have o1 := of_decide_eq_true (g1.2.2.1 (max x.2.2.1 z.1) (by dsimp only; omega) (by dsimp only; omega))
        have o2 := of_decide_eq_true (g2.2.2.1 (max x.2.2.1 z.1) (by omega) (by omega))
        omega
theorem rnA_apt : ∀ n, (rnA v n).Pairwise apt
  | 0 => by rw [rnA]; exact List.Pairwise.nil
  | n + 1 => by
    rw [rnA, List.pairwise_append]
    refine ⟨rnA_apt n, rnF_apt _, fun x hx y hy e => ?_⟩
    have a := (rnA_in n x hx).1
    have b := (rnF_in _ y hy).1
    omega
/-- two runs of a row have no site in common -/
theorem rn_apt {i j : Nat} {x y : Rn} (hx : (rnL v)[i]? = some x) (hy : (rnL v)[j]? = some y) (hn : i ≠ j) (e : x.1 = y.1) : x.2.2.1 + x.2.2.2 ≤ y.2.2.1 ∨ y.2.2.1 + y.2.2.2 ≤ x.2.2.1 := by
  have p : (rnL v).Pairwise apt := rnA_apt _
  obtain ⟨hi, ei⟩ := List.getElem?_eq_some_iff.mp hx
  obtain ⟨hj, ej⟩ := List.getElem?_eq_some_iff.mp hy
  rcases Nat.lt_or_ge i j with c | c
  · have := List.pairwise_iff_getElem.mp p i j hi hj c
    rw [ei, ej] at this
    exact this e
  · have := List.pairwise_iff_getElem.mp p j i hj hi (by omega)
    rw [ei, ej] at this
    exact (this e.symm).symm
def plP (v : Nat → Nat → Int) (a n : Nat) : List Nat → Nat → List (Nat × Int)
  | [], _ => []
  | c :: L, s => (c, ((a + plS v a n c L s : Nat) : Int)) :: plP v a n L (plS v a n c L s + (v 12 c).toNat)
theorem plR_mv {r a n : Nat} : ∀ (L : List Nat) (s : Nat) (u : Nat → Nat → Int), plR v r a n L s u = mvL r (plP v a n L s) u
  | [], _, _ => rfl
  | c :: L, s, u => by rw [plR, plP, mvL, plR_mv L]
theorem plP_key {a n : Nat} : ∀ (L : List Nat) (s : Nat), (plP v a n L s).map (fun x => x.1) = L
  | [], _ => rfl
  | c :: L, s => by rw [plP, List.map_cons, plP_key L]
theorem plP_sp (w : RGv v) {a n : Nat} (an : a + n ≤ 32) : ∀ (L : List Nat) (s : Nat), s ≤ n → tb v a n fRp L s < 90000 → (plP v a n L s).Pairwise (fun x y => x.2 + v 12 x.1 ≤ y.2) ∧ ∀ x, x ∈ plP v a n L s → (a : Int) + s ≤ x.2 ∧ x.2 + v 12 x.1 ≤ (a : Int) + n
  | [], _, _, _ => ⟨List.Pairwise.nil, fun x hx => by simp [plP] at hx⟩
  | c :: L, s, hs, hf => by
    have po := plS_ok w an hs hf
    have wc := w.wid c
    have ih := plP_sp w an L (plS v a n c L s + (v 12 c).toNat) (by omega) po.2.2.1
    rw [plP]
    refine ⟨List.pairwise_cons.mpr ⟨fun y hy => ?_, ih.1⟩, fun x hx => ?_⟩
    · have := (ih.2 y hy).1
      dsimp only
      omega
    · rcases List.mem_cons.mp hx with q | q
      · rw [q]
        dsimp only
        omega
      · have := ih.2 x q
        omega
theorem plA_o2 {go : List (Nat × Nat)} {d j : Nat} : ∀ (L : List Rn) (k : Nat) (u : Nat → Nat → Int), (∀ i, i < L.length → d ∉ smK go (k + i)) → plA v go L k u j d = u j d
  | [], _, _, _ => rfl
  | x :: L, k, u, h => by
    rw [plA, plA_o2 L (k + 1) _ (fun i hi => by have := h (i + 1) (by rw [List.length_cons]; omega); rw [show k + 1 + i = k + (i + 1) by omega]; exact this), plR_o _ _ _ (by have := h 0 (by rw [List.length_cons]; omega); rw [Nat.add_zero] at this; exact this)]
theorem key_u {go : List (Nat × Nat)} (nd : (go.map (fun x => x.1)).Nodup) {x y : Nat × Nat} (hx : x ∈ go) (hy : y ∈ go) (e : x.1 = y.1) : x = y := by
  have p : go.Pairwise (fun a b => a.1 ≠ b.1) := by
    have := nd
    rw [List.Nodup, List.pairwise_map] at this
    exact this
  rcases pw_or go p hx hy with q | q | q
  · exact q
  · exact absurd e q
  · exact absurd e.symm q
theorem smK_nd {go : List (Nat × Nat)} (nd : (go.map (fun x => x.1)).Nodup) (k : Nat) : (smK go k).Nodup := by
  unfold smK
  exact nd.sublist ((List.filter_sublist).map _)
theorem plA_at {go : List (Nat × Nat)} (nd : (go.map (fun x => x.1)).Nodup) {c : Nat} {x : Rn} : ∀ (M : List Rn) (k i : Nat) (u : Nat → Nat → Int), c ∈ smK go (k + i) → M[i]? = some x → ∃ p, (c, p) ∈ plP v x.2.2.1 x.2.2.2 (smK go (k + i)) 0 ∧ plA v go M k u 17 c = x.1 ∧ plA v go M k u 18 c = p
  | [], _, _, _, _, h => by simp at h
  | y :: M, k, i, u, hc, h => by
    rw [plA]
    cases i with
    | zero =>
      simp at h
      subst h
      rw [Nat.add_zero] at hc ⊢
      have hk : c ∈ (plP v y.2.2.1 y.2.2.2 (smK go k) 0).map (fun x => x.1) := by rw [plP_key]; exact hc
      obtain ⟨z, hz, ez⟩ := List.mem_map.mp hk
      have o2 : ∀ i, i < M.length → c ∉ smK go (k + 1 + i) := fun i _ q => by
        have := key_u nd (smK_mem hc) (smK_mem q) rfl
        have := congrArg Prod.snd this
        dsimp only at this
        omega
      have a := mvL_at (r := (y.1 : Int)) _ u hz (by rw [plP_key]; exact smK_nd nd k)
      rw [plA_o2 M _ _ o2, plA_o2 M _ _ o2, plR_mv, ← ez]
      exact ⟨z.2, hz, a⟩
    | succ i =>
      have := plA_at nd M (k + 1) i (plR v y.1 y.2.2.1 y.2.2.2 (smK go k) 0 u) (by rw [show k + 1 + i = k + (i + 1) by omega]; exact hc) (by simpa using h)
      rw [show k + 1 + i = k + (i + 1) by omega] at this
      exact this
theorem asg_fn {tl : Int} : ∀ (rest : List Nat) (go go2 : List (Nat × Nat)), asg v tl rest go = some go2 → (∀ x, x ∈ go → ∃ y, (rnL v)[x.2]? = some y ∧ y.2.1 = v 13 x.1) → ∀ x, x ∈ go2 → ∃ y, (rnL v)[x.2]? = some y ∧ y.2.1 = v 13 x.1
  | [], go, go2, e, h => by
    rw [asg] at e
    cases e
    exact h
  | c :: rest, go, go2, e, h => by
    rw [asg] at e
    by_cases ch : chR v tl go c = -1
    · rw [if_pos ch] at e
      cases e
    · rw [if_neg ch] at e
      obtain ⟨k, x, hk, hx, xf, xs⟩ := chR_in ch
      rw [hk, Int.toNat_natCast] at e
      refine asg_fn rest (go ++ [(c, k)]) go2 e (fun y hy => ?_)
      rcases List.mem_append.mp hy with q | q
      · exact h y q
      · simp at q
        rw [q]
        exact ⟨x, hx, xf⟩
theorem plA_sj {go : List (Nat × Nat)} : ∀ (L : List Rn) (k : Nat) (u : Nat → Nat → Int), SJ u v → SJ (plA v go L k u) v
  | [], _, _, h => h
  | x :: L, k, u, h => by
    rw [plA, plR_mv]
    exact plA_sj L (k + 1) _ (mvL_sj _ _ h)
theorem plA_rg {go : List (Nat × Nat)} (H : ∀ (k : Nat) (x : Rn), (rnL v)[k]? = some x → ∀ y, y ∈ plP v x.2.2.1 x.2.2.2 (smK go k) 0 → rgS x.1 y.2) : ∀ (M : List Rn) (k : Nat) (u : Nat → Nat → Int), (rnL v).drop k = M → RGv u → RGv (plA v go M k u)
  | [], _, _, _, w => w
  | x :: M, k, u, h, w => by
    have hx : (rnL v)[k]? = some x := by
      have := List.getElem?_drop (xs := rnL v) (i := k) (j := 0)
      rw [h] at this
      simpa using this.symm
    have hd2 : (rnL v).drop (k + 1) = M := by
      rw [← List.drop_drop, h]
      rfl
    rw [plA, plR_mv]
    exact plA_rg H M (k + 1) _ hd2 (mvL_rg _ _ w (H k x hx))
theorem mkV_gd {tl : Int} (gd : Gd v) (e : mkV v tl = some u) : Gd u := by
  have nC := gd.rg.nC
  have rows := gd.rg.rows
  have sites := gd.rg.sites
  unfold mkV at e
  generalize ha : asg v tl (ordQ v (v 11 0).toNat) [] = o at e
  cases o with
  | none => cases e
  | some go =>
    dsimp only at e
    have eu : plA v go (rnL v) 0 v = u := Option.some.inj e
    obtain ⟨a1, a2, ft⟩ := asg_ok _ [] go ha (fun x hx => by simp at hx) (fun k x hx => by show (0 : Int) ≤ _; omega)
    have fn := asg_fn _ [] go ha (fun x hx => by simp at hx)
    rw [List.map_nil, List.nil_append] at a1
    have knd : (go.map (fun x => x.1)).Nodup := by rw [a1]; exact ordQ_nd _
    have gl : go.length ≤ 20 := by
      have := congrArg List.length a1
      rw [List.length_map] at this
      have := ordQ_len (v := v) (v 11 0).toNat
      omega
    have qm : ∀ c : Nat, c ∈ go.map (fun x => x.1) ↔ (c : Int) < v 11 0 ∧ v 14 c = 0 := fun c => by
      rw [a1, ordQ_mem]
      constructor <;> intro q <;> exact ⟨by omega, q.2⟩
    have sp : ∀ (k : Nat) (x : Rn), (rnL v)[k]? = some x → (plP v x.2.2.1 x.2.2.2 (smK go k) 0).Pairwise (fun x y => x.2 + v 12 x.1 ≤ y.2) ∧ ∀ y, y ∈ plP v x.2.2.1 x.2.2.2 (smK go k) 0 → (x.2.2.1 : Int) ≤ y.2 ∧ y.2 + v 12 y.1 ≤ (x.2.2.1 : Int) + x.2.2.2 := fun k x hx => by
      obtain ⟨_, an⟩ := rnL_ok gd.rg x (List.mem_of_getElem? hx)
      have sl := smK_len (go := go) (k := k)
      have fx := ft k x hx
      have ff := tb_fit (F := fRp) gd.rg an (by decide) (smK go k) 0 (by omega) (by omega)
      have := plP_sp gd.rg an (smK go k) 0 (by omega) (by omega)
      exact ⟨this.1, fun y hy => by have := this.2 y hy; omega⟩
    have ky : ∀ (k : Nat) (x : Rn) (y : Nat × Int), y ∈ plP v x.2.2.1 x.2.2.2 (smK go k) 0 → (y.1, k) ∈ go := fun k x y hy => by
      have : y.1 ∈ (plP v x.2.2.1 x.2.2.2 (smK go k) 0).map (fun x => x.1) := List.mem_map.mpr ⟨y, hy, rfl⟩
      rw [plP_key] at this
      exact smK_mem this
    have w1 : ∀ c : Nat, (c : Int) < v 11 0 → 1 ≤ v 12 c := fun c hc => (gd.geo.cel hc).1
    have sj : SJ u v := by rw [← eu]; exact plA_sj _ _ _ SJ.refl
    have rg : RGv u := by
      rw [← eu]
      refine plA_rg (fun k x hx y hy => ?_) (rnL v) 0 v (by simp) gd.rg
      have q := (sp k x hx).2 y hy
      have r := (rnL_gd (List.mem_of_getElem? hx)).1
      obtain ⟨_, an⟩ := rnL_ok gd.rg x (List.mem_of_getElem? hx)
      have yw := w1 y.1 ((qm y.1).mp (List.mem_map.mpr ⟨_, ky k x y hy, rfl⟩)).1
      unfold rgS
      omega
    have pos : ∀ (c k : Nat), (c, k) ∈ go → ∃ x p, (rnL v)[k]? = some x ∧ x.2.1 = v 13 c ∧ (c, p) ∈ plP v x.2.2.1 x.2.2.2 (smK go k) 0 ∧ u 17 c = x.1 ∧ u 18 c = p := fun c k hck => by
      obtain ⟨x, hx, xf⟩ := fn _ hck
      have hs := smK_in hck
      obtain ⟨p, h1, h2, h3⟩ := plA_at (v := v) knd (c := c) (x := x) (rnL v) 0 k v (by rw [Nat.zero_add]; exact hs) hx
      rw [Nat.zero_add] at h1
      rw [eu] at h2 h3
      exact ⟨x, p, hx, xf, h1, h2, h3⟩
    have unc : ∀ (c j : Nat), c ∉ go.map (fun x => x.1) → u j c = v j c := fun c j hn => by
      rw [← eu]
      exact plA_o (fun x hx e => hn (by rw [← e]; exact List.mem_map.mpr ⟨x, hx, rfl⟩)) _ _ _
    have s12 := sj 12 (by decide) (by decide)
    have s11 := sj 11 (by decide) (by decide)
    have fxo : ∀ (d r t : Nat), (d : Int) < v 11 0 → ¬ v 14 d = 0 → v 17 d = r → v 18 d ≤ t → (t : Int) < v 18 d + v 12 d → own v r t = -2 := by
      intro d r t hd hx h1 h2 h3
      unfold own
      rw [if_pos (Or.inr (anyB_iff.mpr ⟨d, by omega, by
        unfold fxB laB
        simp only [Bool.and_eq_true, Bool.not_eq_true', decide_eq_true_eq, decide_eq_false_iff_not]
        omega⟩))]
    have runo : ∀ (k : Nat) (x : Rn), (rnL v)[k]? = some x → (x.1 < (v 0 0).toNat ∧ -1 ≤ x.2.1 ∧ x.2.2.1 + x.2.2.2 ≤ (v 0 1).toNat) ∧ ∀ t : Nat, x.2.2.1 ≤ t → t < x.2.2.1 + x.2.2.2 → own v x.1 t = x.2.1 := fun k x hx => by
      have q := rnL_gd (List.mem_of_getElem? hx)
      have q2 := q.2.2.2.2.1
      dsimp only at q2
      exact ⟨⟨q.1, q.2.1, q2⟩, fun t h1 h2 => of_decide_eq_true (q.2.2.2.2.2.1 t h1 h2)⟩
    have apart : ∀ (c k d : Nat), (c, k) ∈ go → (d : Int) < v 11 0 → d ∉ go.map (fun x => x.1) → u 17 d = u 17 c → u 18 c + v 12 c ≤ u 18 d ∨ u 18 d + v 12 d ≤ u 18 c := by
      intro c k d hck hd hdn er
      obtain ⟨x, p, hx, xf, hp, c1, c2⟩ := pos c k hck
      have sx := (sp k x hx).2 _ hp
      obtain ⟨⟨r1, r2, r3⟩, r4⟩ := runo k x hx
      rw [unc d 17 hdn, c1] at er
      rw [unc d 18 hdn, c2]
      dsimp only at sx
      have dx : ¬ v 14 d = 0 := fun q => hdn ((qm d).mpr ⟨hd, q⟩)
      have wd := w1 d hd
      by_cases z : p + v 12 c ≤ v 18 d ∨ v 18 d + v 12 d ≤ p
      · exact z
      · exfalso
        have cw := w1 c ((qm c).mp (List.mem_map.mpr ⟨_, hck, rfl⟩)).1
        obtain ⟨t, ht⟩ : ∃ t : Nat, (t : Int) = max p (v 18 d) := ⟨(max p (v 18 d)).toNat, by omega⟩
        have o1 := r4 t (by omega) (by omega)
        have o2 := fxo d x.1 t hd dx er (by omega) (by omega)
        omega
    refine sj.gd rg (GEO_new gd.geo gd.rg sj (fun c hc => ?_) (fun c d hc hd hn hp he => ?_)) gd
    · by_cases cq : c ∈ go.map (fun x => x.1)
      · right
        obtain ⟨y, hy, ey⟩ := List.mem_map.mp cq
        obtain ⟨x, p, hx, xf, hpp, c1, c2⟩ := pos c y.2 (by rw [← ey]; exact hy)
        have sx := (sp y.2 x hx).2 _ hpp
        obtain ⟨⟨r1, r2, r3⟩, r4⟩ := runo y.2 x hx
        dsimp only at sx
        rw [c1, c2]
        refine ⟨((qm c).mp cq).2, by omega, by omega, by omega, by omega, fun t h1 h2 => ?_⟩
        rw [Int.toNat_natCast, r4 t (by omega) (by omega), xf]
      · exact Or.inl ⟨unc c 17 cq, unc c 18 cq⟩
    · rw [s11] at hc hd
      rw [s12]
      by_cases cq : c ∈ go.map (fun x => x.1)
      · obtain ⟨y, hy, ey⟩ := List.mem_map.mp cq
        have hck : (c, y.2) ∈ go := by rw [← ey]; exact hy
        by_cases dq : d ∈ go.map (fun x => x.1)
        · obtain ⟨z, hz, ez⟩ := List.mem_map.mp dq
          have hdk : (d, z.2) ∈ go := by rw [← ez]; exact hz
          obtain ⟨x, p, hx, xf, hpp, c1, c2⟩ := pos c y.2 hck
          obtain ⟨x', p', hx', xf', hpp', d1, d2⟩ := pos d z.2 hdk
          have sx := (sp y.2 x hx).2 _ hpp
          have sx' := (sp z.2 x' hx').2 _ hpp'
          dsimp only at sx sx'
          rw [c2, d2]
          by_cases ek : y.2 = z.2
          · rw [← ek] at hx' hpp'
            rw [hx] at hx'
            cases hx'
            rcases pw_or _ (sp y.2 x hx).1 hpp hpp' with q | q | q
            · exact absurd (congrArg Prod.fst q) hn
            · exact Or.inl q
            · exact Or.inr q
          · have er : x.1 = x'.1 := by
              rw [c1, d1] at he
              omega
            have := rn_apt hx hx' ek er
            omega
        · exact apart c y.2 d hck hd dq he
      · by_cases dq : d ∈ go.map (fun x => x.1)
        · obtain ⟨z, hz, ez⟩ := List.mem_map.mp dq
          have hdk : (d, z.2) ∈ go := by rw [← ez]; exact hz
          exact (apart d z.2 c hdk hc cq he.symm).symm
        · rw [unc c 17 cq] at hp he
          rw [unc d 17 dq] at he
          rw [unc c 18 cq, unc d 18 dq]
          exact gd.geo.dis hc hd hn hp he
end GDL
