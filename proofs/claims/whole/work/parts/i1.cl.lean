/-! THE BEGINNING, II: the law up to its loop -/
def argv (L : Nat) (xs : Nat → Int32) (k : Nat) : Int := if k < L then (xs k).toInt else 0
theorem argv_in (L : Nat) (xs : Nat → Int32) (k : Nat) : inR (argv L xs k) := by
  unfold argv
  split
  · exact i32_any _
  · omega
abbrev rmCl : Room := { frames := 0, cells := 0, slots := 0, locals := 0 }
set_option maxHeartbeats 4000000 in
theorem k_cell {l : Launch} {b L : Nat} {xs : Nat → Int32} {k : Nat} (hL : L ≤ 3074) (hk : k ≤ 1) : Met l ⟨"CellRowsLaw", "cell", "([II)I"⟩ (.code ⟨"CellRowsLaw", "cell", "([II)I"⟩ method_2_code 2 (some .int) :: tblG) rmCl (va_Pc [.ref b, .int (Int32.ofInt k)] (fun U => va_X b L xs U U.heap)) (va_Qi (fun (r : Int32) (_ : Unit) => r = Int32.ofInt (argv L xs k)) (fun _ _ => True) (fun _ => False)) 0 0 (fun _ => False) := by
  refine Met.ofW (cc := method_2_code) (maxL := 2) (ret := some .int) (by decide +kernel) rfl ?_
  intro p e s m args below meth c s₁ B hml hv
  obtain ⟨rfl, hX⟩ := hv
  have hx := B.exec
  have hb := B.bytes
  have hr := B.returns
  have hl := lv_entry ([.ref b, .int (Int32.ofInt k)]) (n := 2) (Nat.le_of_ble_eq_true rfl)
  rw [lg_entry_eq]
  generalize (lg_sl ([.ref b, .int (Int32.ofInt k)]) ++ List.replicate (2 - (lg_sl ([.ref b, .int (Int32.ofInt k)])).length) Slot.unset).toArray = ls at hl ⊢
  have hl : lv_has ls 2 [(0, .ref b), (1, .int (Int32.ofInt k))] := hl
  have hS : va_S (fun _ => False) s.heap s.heap [] := va_S.rf
  have hbl : b < s.heap.size := by
    obtain ⟨scr, h1, -⟩ := hX
    exact (Array.getElem?_eq_some_iff.mp h1).1
  have eL : Int32.ofNat L = Int32.ofInt (L : Int) := Int32.ofInt_eq_ofNat.symm
  refine lv_iload_n hx hb (k := 1) (i := 1) (by decide +kernel) rfl (lv_at hl 1 rfl) ?_
  refine lv_aload_n hx hb (k := 0) (i := 0) (by decide +kernel) rfl (lv_at hl 0 rfl) ?_
  refine va_slen hx hb hX hbl (fun h => h) hS (by decide +kernel) ?_
  rw [eL]
  refine lv_icmp_ge hx hb (off := 9) (tgt := 12) (by decide +kernel) (by decide) (fun h1 => ?_) (fun h1 => ?_)
  · rw [i32_le (by omega) (by omega)] at h1
    have e1 : argv L xs k = 0 := if_neg (by omega)
    refine lv_iconst hx hb (n := 0) (v := Int32.ofInt 0) (by decide +kernel) rfl ?_
    exact W.iret (v := Int32.ofInt 0) hx hb hr (fun t ht hW => ⟨⟨Int32.ofInt 0, (), rfl, by rw [e1], trivial⟩, hS.F ht⟩) hS.2.2 (by decide +kernel)
  · rw [i32_le (by omega) (by omega)] at h1
    have e1 : argv L xs k = (xs k).toInt := if_pos (by omega)
    refine lv_aload_n hx hb (k := 0) (i := 0) (by decide +kernel) rfl (lv_at hl 0 rfl) ?_
    refine lv_iload_n hx hb (k := 1) (i := 1) (by decide +kernel) rfl (lv_at hl 1 rfl) ?_
    refine va_sld hx hb hX hbl (fun h => h) hS (i32_vin (by omega) (by omega) (by omega)) (by decide +kernel) ?_
    refine lv_goto hx hb (off := 4) (tgt := 13) (by decide +kernel) (by decide) ?_
    have e2 : xs (Int32.ofInt (k : Int)).toNatClampNeg = Int32.ofInt (argv L xs k) := by
      rw [e1, Int32.ofInt_toInt, i32_nat (by omega), Int.toNat_natCast]
    rw [e2]
    exact W.iret (v := Int32.ofInt (argv L xs k)) hx hb hr (fun t ht hW => ⟨⟨Int32.ofInt (argv L xs k), (), rfl, rfl, trivial⟩, hS.F ht⟩) hS.2.2 (by decide +kernel)
theorem tblG_gd {y : MethodName} {bb : ByteArray} {mL : Nat} {rt : Option FieldType} {p1 : Nat} (hw : wAt p1 (.code y bb mL rt) = true) : GoodIn tblG (.code y bb mL rt :: tblG) := by
  intro w h
  have hg : ∀ w ∈ tblG, GoodIn tblG [w] := fun w hw2 w9 h9 => by
    cases List.mem_singleton.mp h9
    exact ⟨hw2, good_of_word (List.mem_filter.mp hw2).2⟩
  rcases List.mem_cons.mp h with rfl | h
  · exact hg _ (wAt_in hw) _ List.mem_cons_self
  · exact hg w h w List.mem_cons_self
section BGN
variable {p : Program} {l : Launch} {e : Env} {R : Room} {s : State} {m : MethodId} {args : Array Value} {below : List Frame} {meth : Method} {c : Code} {H : Heap} {locs : List Loc} {cells slots : Nat} {Q : State → Prop}
variable {pc : Nat} {ls : Array Slot} {rest : List Value} {D : va_G} {cs : Nat → ClassId} {ws : va_W} {b L : Nat} {xs : Nat → Int32}
theorem mk_cell (C : mkC p s m args c code "CellRowsLaw" 4) (hX : va_X b L xs s s.heap) (hbl : b < s.heap.size) (hL : L ≤ 3074) (Wl : mkW D cs (fun q => s.heap.size ≤ q) s ws H locs) {k : Nat} (hk : k ≤ 1) (hsz : ls.size = 4) (hst : (rest.map fun v => v.category).sum ≤ 8) (hR : 1 ≤ R.frames ∧ 21 ≤ R.locals) (hcl : cells ≤ R.cells ∧ slots ≤ R.slots) (hdg : decode code pc = .ok (.invokestatic 9, 3))
    (kk : ∀ H1 locs1, mkW D cs (fun q => s.heap.size ≤ q) s ws H1 locs1 → W p l e R s m args below meth c H1 locs1 cells slots Q (F0 m (pc + 3) ls (.int (Int32.ofInt (argv L xs k)) :: rest))) : W p l e R s m args below meth c H locs cells slots Q (F0 m pc ls (.int (Int32.ofInt k) :: .ref b :: rest)) := by
  obtain ⟨hx, hb, hml, hown, hts⟩ := C
  obtain ⟨hP, hE, hD, hS, hA⟩ := Wl
  have hrun := va_runS (p := p) (l := l) (e := e) (R := R) (s := s) (m := m) (args := args) (below := below) (meth := meth) (c := c) (H := H) (locs := locs) (cells := cells) (slots := slots) (As := [.ref b, .int (Int32.ofInt k)]) (rest := rest) (g := F0 m pc ls (.int (Int32.ofInt k) :: .ref b :: rest)) ⟨hx, hb, hml, hown, hts⟩ (k_cell (b := b) (xs := xs) hL hk)
    ⟨callB_of 2 hts (tblG_gd (y := ⟨"CellRowsLaw", "cell", "([II)I"⟩) (bb := method_2_code) (mL := 2) (rt := some .int) (p1 := 3330) (by decide +kernel)) rfl rfl rfl (hts _ (wAt_in (p := 2048) (by decide +kernel))) (hts _ (wAt_in (p := 3328) (by decide +kernel))) ⟨by decide +kernel, by decide +kernel, by decide +kernel⟩ ⟨hR.1, hR.2⟩, hts _ (wAt_in (p := 3329) (by decide +kernel))⟩
    ⟨fun a U g mk q => by
        obtain ⟨q0, qX⟩ := q
        exact ⟨q0, va_X.moved (u := U) (U := U.calling g mk a) (Vm.Alike.refl U.vm) qX⟩, fun U hU hW => ⟨rfl, by
        show va_X b L xs U U.heap
        rw [hU]
        exact (hX.kept (hS.2.1 b hbl (fun h => by omega))).moved hW.alike⟩⟩ rfl rfl hsz rfl (lv_room hst) hdg ⟨hcl.1, hcl.2⟩
  refine va_calli hrun hS (fun q _ h => h.elim) (fun q h => h.elim) (fun r u t H1 locs1 ht hvm h5 hB hz1 hk1 hS1 => ?_)
  subst h5
  exact kk H1 locs1 ⟨hP.kept (fun k x hx => hk1 x.1 ((hP k x hx).lt) (fun h => h)), hE, hD, hS1, hA⟩
end BGN
