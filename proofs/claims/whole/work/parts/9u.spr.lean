/-! SPREAD: what it does -/
def mvV (v : Nat → Nat → Int) (c : Nat) (x y : Int) : Nat → Nat → Int := up2 (up2 v 15 c x) 16 c y
def cnd (v : Nat → Nat → Int) (f : Nat → Int) (c k : Nat) : Nat → Nat → Int := if k = 0 then v else mvV v c (hdX v c (v 15 c + trX k * f 3)) (hdY v c (v 16 c + trY k * f 3))
def amn (K : Nat → Int) : Nat → Nat → Nat → Nat
  | 0, _, b => b
  | m + 1, i, b => amn K m (i + 1) (if K i < K b then i else b)
def csN (v : Nat → Nat → Int) (f : Nat → Int) : Int := cst v f (nbC v) (nbn v)
/-- the part of the cost that a cell's place can change -/
def csC (v : Nat → Nat → Int) (f : Nat → Int) (c : Nat) : Int := 16 * sumF (smW v (f 4) (f 0) c) (v 19 0).toNat 0 + f 2 * ovf v (f 1) (nbC v) (nbn v)
def sdC (v : Nat → Nat → Int) (f : Nat → Int) (c : Nat) : Nat → Nat → Int := cnd v f c (amn (fun k => csN (cnd v f c k) f) 4 1 0)
def sdR (f : Nat → Int) : Nat → Nat → (Nat → Nat → Int) → (Nat → Nat → Int)
  | 0, _, v => v
  | m + 1, i, v => sdR f m (i + 1) (if v 14 i = 0 then sdC v f i else v)
def sdN (f : Nat → Int) (N : Nat) : Nat → (Nat → Nat → Int) → (Nat → Nat → Int)
  | 0, v => v
  | m + 1, v => sdN f N m (sdR f N 0 v)
def spSpread (s : AS) (n : Int) : Int × AS := if ¬ (1 ≤ n ∧ n ≤ 10) then refS s (-1) else actS s 11 (csN s.1 s.2.1 - csN (sdN s.2.1 (s.1 11 0).toNat n.toNat s.1) s.2.1) (sdN s.2.1 (s.1 11 0).toNat n.toNat s.1)
theorem amn_cg {K L : Nat → Int} : ∀ (m i b : Nat), (∀ j k, K j < K k ↔ L j < L k) → amn K m i b = amn L m i b
  | 0, _, _, _ => rfl
  | m + 1, i, b, h => by
    rw [amn, amn, ifc2 (h i b)]
    exact amn_cg m (i + 1) _ h
theorem mnF_cg {f g : Nat → Int} : ∀ (m i : Nat) (a : Int), (∀ k, i ≤ k → k < i + m → f k = g k) → mnF f m i a = mnF g m i a
  | 0, _, _, _ => rfl
  | m + 1, i, a, h => by rw [mnF, mnF, h i (by omega) (by omega), mnF_cg m (i + 1) _ (fun k h1 h2 => h k (by omega) (by omega))]
theorem mxF_cg {f g : Nat → Int} : ∀ (m i : Nat) (a : Int), (∀ k, i ≤ k → k < i + m → f k = g k) → mxF f m i a = mxF g m i a
  | 0, _, _, _ => rfl
  | m + 1, i, a, h => by rw [mxF, mxF, h i (by omega) (by omega), mxF_cg m (i + 1) _ (fun k h1 h2 => h k (by omega) (by omega))]
theorem smF_cg {f g : Nat → Int} {p : Nat} {gm : Int} (h : ∀ k, k < p → f k = g k) : smF f p gm = smF g p gm := by
  have h1 : ∀ pl, mea f p pl gm = mea g p pl gm := fun pl => by
    unfold mea
    rw [sumF_cg (f := shS2 f pl gm) (g := shS2 g pl gm) p 0 (fun k _ q => by unfold shS2; rw [h k (by omega)]), sumF_cg (f := faS f pl gm) (g := faS g pl gm) p 0 (fun k _ q => by unfold faS; rw [h k (by omega)])]
  unfold smF
  rw [h1, h1, mxF_cg p 0 _ (fun k _ q => h k (by omega)), mnF_cg p 0 _ (fun k _ q => h k (by omega))]
section MVV
variable {v : Nat → Nat → Int} {c : Nat} {x y : Int}
theorem mvV_o {j : Nat} (h1 : j ≠ 15) (h2 : j ≠ 16) : mvV v c x y j = v j := by
  unfold mvV
  rw [up2_of h2, up2_of h1]
theorem mvV_15 {i : Nat} (h : i ≠ c) : mvV v c x y 15 i = v 15 i := by
  unfold mvV
  rw [up2_of (by omega), up2_same, if_neg h]
theorem mvV_16 {i : Nat} (h : i ≠ c) : mvV v c x y 16 i = v 16 i := by
  unfold mvV
  rw [up2_same, if_neg h, up2_of (by omega)]
theorem ndC_mv {d br bc : Nat} (h : d ≠ c) : ndC (mvV v c x y) d br bc = ndC v d br bc := by
  unfold ndC
  rw [mvV_15 h, mvV_16 h, mvV_o (j := 12) (by omega) (by omega)]
theorem ndS_mv (hl : v 14 c = 0) (br bc : Nat) : ∀ (m i : Nat), ndS (mvV v c x y) br bc m i = ndS v br bc m i + (if i ≤ c ∧ c < i + m then ndC (mvV v c x y) c br bc - ndC v c br bc else 0) := by
  intro m
  induction m with
  | zero => intro i; rw [if_neg (by omega)]; rfl
  | succ m ih =>
    intro i
    have ih := ih (i + 1)
    unfold ndS at ih ⊢
    rw [sumF, sumF, ih, mvV_o (j := 14) (by omega) (by omega)]
    by_cases e : i = c
    · subst e
      rw [if_pos hl, if_pos hl, if_neg (by omega), if_pos (by omega)]
      omega
    · rw [ndC_mv e]
      by_cases e2 : i + 1 ≤ c ∧ c < i + 1 + m
      · rw [if_pos e2, if_pos (show i ≤ c ∧ c < i + (m + 1) by omega), Int.add_assoc]
      · rw [if_neg e2, if_neg (show ¬ (i ≤ c ∧ c < i + (m + 1)) by omega), Int.add_zero, Int.add_zero]
theorem ned_mv (hl : v 14 c = 0) (hc : (c : Int) < v 11 0) (br bc : Nat) : ned (mvV v c x y) br bc = ned v br bc - ndC v c br bc + ndC (mvV v c x y) c br bc := by
  unfold ned
  rw [mvV_o (j := 11) (by omega) (by omega), ndS_mv hl, if_pos (by omega)]
  omega
theorem own_cg {w : Nat → Nat → Int} (e : ∀ j, j ≠ 15 → j ≠ 16 → w j = v j) (r s : Nat) : own w r s = own v r s := by
  have a1 : ∀ a b d f : Int, ovV w 2 a b d f = ovV v 2 a b d f := fun a b d f => by
    funext i
    unfold ovV
    rw [e 2 (by omega) (by omega), e (2 + 1) (by omega) (by omega), e (2 + 2) (by omega) (by omega), e (2 + 3) (by omega) (by omega)]
  have a2 : ∀ a b d f : Int, ovV w 7 a b d f = ovV v 7 a b d f := fun a b d f => by
    funext i
    unfold ovV
    rw [e 7 (by omega) (by omega), e (7 + 1) (by omega) (by omega), e (7 + 2) (by omega) (by omega), e (7 + 3) (by omega) (by omega)]
  have a3 : ∀ a b : Int, fxB w a b = fxB v a b := fun a b => by
    funext i
    unfold fxB laB
    rw [e 14 (by omega) (by omega), e 17 (by omega) (by omega), e 18 (by omega) (by omega), e 12 (by omega) (by omega)]
  unfold own
  rw [a1, a2, a3, e 1 (by omega) (by omega), e 6 (by omega) (by omega), e 11 (by omega) (by omega)]
theorem sup_mv : sup (mvV v c x y) = sup v := by
  funext br bc
  unfold sup
  rw [mvV_o (j := 0) (by omega) (by omega)]
  refine sumF_cg _ _ (fun r _ _ => sumF_cg _ _ (fun s _ _ => ?_))
  unfold sT
  rw [own_cg (fun j h1 h2 => mvV_o h1 h2)]
theorem nbC_mv : nbC (mvV v c x y) = nbC v := by
  unfold nbC
  rw [mvV_o (j := 0) (by omega) (by omega)]
theorem nbT_mv : nbT (mvV v c x y) = nbT v := by
  unfold nbT
  rw [mvV_o (j := 0) (by omega) (by omega)]
theorem nbn_mv : nbn (mvV v c x y) = nbn v := by
  unfold nbn
  rw [nbC_mv, nbT_mv]
theorem pnO_mv (n : Nat) (d : Nat) : pnO (mvV v c x y) n d = pnO v n d := pnO_cg (fun j hj => mvV_o (by omega) (by omega)) n
theorem smN_mv {n : Nat} {t gm : Int} (w : RGv v) (hn : pnO v n c = -1) : smN (mvV v c x y) t gm n = smN v t gm n := by
  unfold smN
  rw [mvV_o (j := 21) (by omega) (by omega)]
  have hd : ∀ k, k < (v 21 n).toNat → (v 22 (n * 6 + k)).toNat ≠ c := fun k hk => by
    have a := pnO_no hn (k := k) (by omega)
    have b := w.hed (n * 6 + k)
    omega
  rw [smF_cg (f := pwX (mvV v c x y) n) (g := pwX v n) (fun k hk => by
    unfold pwX
    rw [mvV_o (j := 22) (by omega) (by omega), mvV_o (j := 23) (by omega) (by omega), mvV_15 (hd k hk)]), smF_cg (f := pwY (mvV v c x y) n) (g := pwY v n) (fun k hk => by
    unfold pwY
    rw [mvV_o (j := 22) (by omega) (by omega), mvV_16 (hd k hk)])]
def smR (v : Nat → Nat → Int) (t gm : Int) (c : Nat) (n : Nat) : Int := if pnO v n c = -1 then v 20 n * smN v t gm n else 0
theorem smO_sp (t gm : Int) : smO v t gm = sumF (smW v t gm c) (v 19 0).toNat 0 + sumF (smR v t gm c) (v 19 0).toNat 0 := by
  unfold smO
  rw [sumF_add]
  refine sumF_cg _ _ (fun n _ _ => ?_)
  unfold smW smR
  by_cases e : pnO v n c = -1
  · rw [if_pos e, if_pos e, Int.zero_add]
  · rw [if_neg e, if_neg e, Int.add_zero]
theorem smR_mv (w : RGv v) (t gm : Int) : sumF (smR (mvV v c x y) t gm c) (mvV v c x y 19 0).toNat 0 = sumF (smR v t gm c) (v 19 0).toNat 0 := by
  rw [mvV_o (j := 19) (by omega) (by omega)]
  refine sumF_cg _ _ (fun n _ _ => ?_)
  unfold smR
  rw [pnO_mv, mvV_o (j := 20) (by omega) (by omega)]
  exact ifc (fun e => by rw [smN_mv w e]) (fun _ => rfl)
theorem csN_csC (f : Nat → Int) : csN v f = csC v f c + 16 * sumF (smR v (f 4) (f 0) c) (v 19 0).toNat 0 := by
  unfold csN csC cst
  rw [smO_sp (c := c)]
  omega
theorem csN_cnd (w : RGv v) (f : Nat → Int) (k : Nat) : csN (cnd v f c k) f = csC (cnd v f c k) f c + 16 * sumF (smR v (f 4) (f 0) c) (v 19 0).toNat 0 := by
  rw [csN_csC (c := c)]
  unfold cnd
  by_cases e : k = 0
  · rw [if_pos e]
  · rw [if_neg e, smR_mv w]
theorem sdC_cls (w : RGv v) (f : Nat → Int) : sdC v f c = cnd v f c (amn (fun k => csC (cnd v f c k) f c) 4 1 0) := by
  unfold sdC
  rw [amn_cg (L := fun k => csC (cnd v f c k) f c) 4 1 0 (fun j k => by
    rw [csN_cnd w, csN_cnd w]
    omega)]
theorem cnd_gd (g : Gd v) (hl : v 14 c = 0) (f : Nat → Int) (k : Nat) : Gd (cnd v f c k) := by
  unfold cnd
  by_cases e : k = 0
  · rw [if_pos e]; exact g
  · rw [if_neg e]
    have a := hdX_bd (c := c) g.rg (v 15 c + trX k * f 3)
    have b := hdY_bd (c := c) g.rg (v 16 c + trY k * f 3)
    exact Gd_wt g hl a.1 b.1 a.2.1 b.2.1
theorem cnd_o {f : Nat → Int} {k j : Nat} (h1 : j ≠ 15) (h2 : j ≠ 16) : cnd v f c k j = v j := by
  unfold cnd
  by_cases e : k = 0
  · rw [if_pos e]
  · rw [if_neg e, mvV_o h1 h2]
end MVV
theorem sdR_gd (f : Nat → Int) {N : Nat} : ∀ (m i : Nat) (v : Nat → Nat → Int), Gd v → Gd (sdR f m i v)
  | 0, _, _, g => g
  | m + 1, i, v, g => by
    rw [sdR]
    refine sdR_gd f (N := N) m (i + 1) _ ?_
    by_cases e : v 14 i = 0
    · rw [if_pos e]; exact cnd_gd g e f _
    · rw [if_neg e]; exact g
theorem sdN_gd (f : Nat → Int) (N : Nat) : ∀ (m : Nat) (v : Nat → Nat → Int), Gd v → Gd (sdN f N m v)
  | 0, _, g => g
  | m + 1, v, g => by
    rw [sdN]
    exact sdN_gd f N m _ (sdR_gd f (N := N) N 0 v g)
