/-! THE BEGINNING, IV: two objects are made -/
section LBG
variable {p : Program} {e : Env} {s : State} {m : MethodId} {below : List Frame} {meth : Method} {c : Code}
set_option maxHeartbeats 4000000 in
set_option maxRecDepth 100000 in
theorem lw_begin (hAll : ∀ k, k < 288 → okM2 k = true) (l : Launch) {b L : Nat} {xs : Nat → Int32} (hL : L ≤ 3074)
    (hPu : ∀ (ro si : Int), 1 ≤ ro ∧ ro ≤ 8 → 8 ≤ si ∧ si ≤ 32 → Ev (XX (ro * si).toNat (bnB ro si).toNat L) 287 22 [some (vr 101), some (vr 0), some (vr 70), some (vi 2)] [] (HH ro si xs) (fun r _ => r = some (vi 1)))
    (C0 : lw_At p s m meth c b L xs) : W p l e room_1 s m #[Value.ref b] below meth c s.heap [] 0 0 (lw_Z below #[Value.ref b] s) (entryFrame m ([Value.ref b] : List Value).toArray 4) := by
  obtain ⟨hx, hb, hr, hml, hown, hts, hX, hbl, hlk, hgv⟩ := C0
  have C : mkC p s m #[Value.ref b] c code "CellRowsLaw" 4 := ⟨hx, hb, hml, hown, fun w hw => hts w (List.mem_filter.mp hw).1⟩
  obtain ⟨D, cs, hE⟩ := kn_all hts
  have h0 : ∀ i : Nat, ∃ t : Nat, i < 5 → (tmS i).eval #[Value.ref b] s none [] s = some (.ref t) ∧ va_X t (stL.getD i []).length (fun j => Int32.ofInt (stv i j)) s s.heap := by
    intro i
    by_cases h : i < 5
    · obtain ⟨t, ht⟩ := st_all hgv i h
      exact ⟨t, fun _ => ht⟩
    · exact ⟨0, fun h2 => absurd h2 h⟩
  obtain ⟨st, hst⟩ := Classical.skolem.mp h0
  have hzz := st_zz hts (fun i hi => (hst i hi).1)
  have hR0 := st_R hgv hE (hst 0 (by decide)).1 (hst 0 (by decide)).2
  have ht0 : st 0 < s.heap.size := by
    obtain ⟨scr, h2, -⟩ := hR0
    exact (Array.getElem?_eq_some_iff.mp h2).1
  obtain ⟨ro, er⟩ : ∃ ro, ro = clR (argv L xs 0) := ⟨_, rfl⟩
  obtain ⟨si, es⟩ : ∃ si, si = clS (argv L xs 1) := ⟨_, rfl⟩
  have hro : 1 ≤ ro ∧ ro ≤ 8 := by
    rw [er]
    exact clR_bd _
  have hsi : 8 ≤ si ∧ si ≤ 32 := by
    rw [es]
    exact clS_bd _
  have hl := lv_entry ([.ref b]) (n := 4) (Nat.le_of_ble_eq_true rfl)
  rw [lg_entry_eq]
  generalize (lg_sl ([.ref b]) ++ List.replicate (4 - (lg_sl ([.ref b])).length) Slot.unset).toArray = ls at hl ⊢
  have hl : lv_has ls 4 [(0, .ref b)] := hl
  have Wl : mkW D cs (fun q => s.heap.size ≤ q) s [] s.heap [] := ⟨fun k q h => (by cases h), hE, ⟨fun i j x y h => (by cases h), fun k q h => (by cases h)⟩, va_S.rf, fun q h => h⟩
  refine mk_new (nam := "CellRows") (N := 14) (p1 := 2064) (p2 := 2065) (p3 := 2049) (idx := 7) (c2 := 1) (s2 := 14) C Wl 11 (by decide) rfl rfl (by decide +kernel) (by decide +kernel) (by decide +kernel) (Nat.le_of_ble_eq_true rfl) (Nat.le_of_ble_eq_true rfl) (Nat.le_of_ble_eq_true rfl) (Nat.le_of_ble_eq_true rfl) (by decide +kernel) (fun u H1 Wl => ?_)
  refine lv_dup hx hb (by decide +kernel) rfl ?_
  refine lv_aload_n hx hb (k := 0) (i := 0) (by decide +kernel) rfl (lv_at hl 0 rfl) ?_
  refine lv_iconst hx hb (n := 0) (v := Int32.ofInt ((0 : Nat) : Int)) (by decide +kernel) rfl ?_
  refine mk_cell (k := 0) C hX hbl hL Wl (by decide) hl.1 (Nat.le_of_ble_eq_true rfl) ⟨(Nat.le_of_ble_eq_true rfl), (Nat.le_of_ble_eq_true rfl)⟩ ⟨(Nat.le_of_ble_eq_true rfl), (Nat.le_of_ble_eq_true rfl)⟩ (by decide +kernel) (fun H2 locs2 Wl => ?_)
  refine lv_aload_n hx hb (k := 0) (i := 0) (by decide +kernel) rfl (lv_at hl 0 rfl) ?_
  refine lv_iconst hx hb (n := 1) (v := Int32.ofInt ((1 : Nat) : Int)) (by decide +kernel) rfl ?_
  refine mk_cell (k := 1) C hX hbl hL Wl (by decide) hl.1 (Nat.le_of_ble_eq_true rfl) ⟨(Nat.le_of_ble_eq_true rfl), (Nat.le_of_ble_eq_true rfl)⟩ ⟨(Nat.le_of_ble_eq_true rfl), (Nat.le_of_ble_eq_true rfl)⟩ (by decide +kernel) (fun H3 locs3 Wl => ?_)
  have hu : s.heap.size ≤ u := Wl.2.2.1.2 0 _ rfl
  refine mk_call (rest := [.ref u]) (a := u) (wr := []) (p0 := 2068) (p1 := 2066) (p2 := 2067) (p3 := 2049) (idx := 15) (c2 := 403) (s2 := 9031) C (k_Rows (x := argv L xs 0) (y := argv L xs 1) (t0 := st 0) er es (argv_in L xs 0) (argv_in L xs 1)) Wl (fun a9 U g mk h => ⟨va_Z.moved (u := U) (U := U.calling g mk a9) (Vm.Alike.refl U.vm) h.1, h.2⟩)
    (fun U hU hW => ⟨by
      rw [hU]
      exact (((hzz 0 (by decide)).kept (fun q h1 h2 => Wl.2.2.2.1.2.1 q h1 h2)).moved hW.alike).narrow (fun q h => Nat.le_trans hu h), by
      rw [hU]
      obtain ⟨scr, h2, h3⟩ := hR0
      exact ⟨scr, (Wl.2.2.2.1.2.1 _ ht0 (fun h => Nat.lt_irrefl _ (Nat.lt_of_lt_of_le ht0 h))).trans h2, h3⟩, Nat.lt_of_lt_of_le ht0 hu⟩)
    ⟨(Nat.le_of_ble_eq_true rfl), (Nat.le_of_ble_eq_true rfl)⟩ rfl ⟨(by decide +kernel), (by decide +kernel), (by show _ = some 2; decide +kernel)⟩ (by decide +kernel) (by decide +kernel) (by decide +kernel) (by decide +kernel) hl.1 (Nat.le_of_ble_eq_true rfl) (by decide +kernel) (Nat.le_of_ble_eq_true rfl) (Nat.le_of_ble_eq_true rfl) (Nat.le_of_ble_eq_true rfl) (Nat.le_of_ble_eq_true rfl) (fun r H4 locs4 hrr Wn => ?_)
  subst hrr
  refine lv_astore_n hx hb (k := 1) (i := 1) (by decide +kernel) rfl hl (by decide) (lv' := [(1, .ref (r 0)), (0, .ref b)]) rfl (fun ls hl => ?_)
  refine mk_new (nam := "CellRowsModel") (N := 37) (p1 := 3331) (p2 := 3332) (p3 := 2062) (idx := 18) (c2 := 404) (s2 := 9068) C Wn 12 (by decide) rfl rfl (by decide +kernel) (by decide +kernel) (by decide +kernel) (Nat.le_of_ble_eq_true rfl) (Nat.le_of_ble_eq_true rfl) (Nat.le_of_ble_eq_true rfl) (Nat.le_of_ble_eq_true rfl) (by decide +kernel) (fun v H5 Wl => ?_)
  refine lv_dup hx hb (by decide +kernel) rfl ?_
  refine lv_aload_n hx hb (k := 0) (i := 0) (by decide +kernel) rfl (lv_at hl 1 rfl) ?_
  refine lv_iconst hx hb (n := 0) (v := Int32.ofInt ((0 : Nat) : Int)) (by decide +kernel) rfl ?_
  refine mk_cell (k := 0) C hX hbl hL Wl (by decide) hl.1 (Nat.le_of_ble_eq_true rfl) ⟨(Nat.le_of_ble_eq_true rfl), (Nat.le_of_ble_eq_true rfl)⟩ ⟨(Nat.le_of_ble_eq_true rfl), (Nat.le_of_ble_eq_true rfl)⟩ (by decide +kernel) (fun H6 locs6 Wl => ?_)
  refine lv_aload_n hx hb (k := 0) (i := 0) (by decide +kernel) rfl (lv_at hl 1 rfl) ?_
  refine lv_iconst hx hb (n := 1) (v := Int32.ofInt ((1 : Nat) : Int)) (by decide +kernel) rfl ?_
  refine mk_cell (k := 1) C hX hbl hL Wl (by decide) hl.1 (Nat.le_of_ble_eq_true rfl) ⟨(Nat.le_of_ble_eq_true rfl), (Nat.le_of_ble_eq_true rfl)⟩ ⟨(Nat.le_of_ble_eq_true rfl), (Nat.le_of_ble_eq_true rfl)⟩ (by decide +kernel) (fun H7 locs7 Wl => ?_)
  refine mk_call (rest := [.ref v]) (a := v) (wr := [] ++ wRows cs ro si (fR r)) (p0 := 3335) (p1 := 3333) (p2 := 3334) (p3 := 2062) (idx := 20) (c2 := 429) (s2 := 17040) C (k_Model (x := argv L xs 0) (y := argv L xs 1) er es (argv_in L xs 0) (argv_in L xs 1)) Wl (fun _ _ _ _ h9 => h9) (fun _ _ _ => trivial)
    ⟨(Nat.le_of_ble_eq_true rfl), (Nat.le_of_ble_eq_true rfl)⟩ rfl ⟨(by decide +kernel), (by decide +kernel), (by show _ = some 2; decide +kernel)⟩ (by decide +kernel) (by decide +kernel) (by decide +kernel) (by decide +kernel) hl.1 (Nat.le_of_ble_eq_true rfl) (by decide +kernel) (Nat.le_of_ble_eq_true rfl) (Nat.le_of_ble_eq_true rfl) (Nat.le_of_ble_eq_true rfl) (Nat.le_of_ble_eq_true rfl) (fun rm H8 locs8 hrr Wn => ?_)
  subst hrr
  refine lv_astore_n hx hb (k := 2) (i := 2) (by decide +kernel) rfl hl (by decide) (lv' := [(2, .ref (rm 0)), (1, .ref (r 0)), (0, .ref b)]) rfl (fun ls hl => ?_)
  refine lv_iconst hx hb (n := 2) (v := Int32.ofInt 2) (by decide +kernel) rfl ?_
  refine lv_istore_n hx hb (k := 3) (i := 3) (by decide +kernel) rfl hl (by decide) (lv' := [(3, .int (Int32.ofInt 2)), (2, .ref (rm 0)), (1, .ref (r 0)), (0, .ref b)]) rfl (fun ls hl => ?_)
  exact lw_go (f := fR r) (st := st) hAll hro hsi hL (hPu ro si hro hsi) C hr hlk hX (fun i hi => (hst i hi).2) hzz Wn hl (Nat.le_of_ble_eq_true rfl) (Nat.le_of_ble_eq_true rfl)
end LBG
