/-- a row that stands elsewhere, and stays: its class known -/
def stR (cs : Nat → ClassId) (t0 N : Nat) (f : Nat → Int32) (H : Heap) : Prop := ∃ scr : Cell, H[t0]? = some scr ∧ scr.cls = cs 13 ∧ (∀ k, scr.vm ≠ .statics k) ∧ scr.vm ≠ .unknown ∧ scr.slots.size = N ∧ ∀ j : Nat, j < N → scr.slots[j]? = some (.int (f j))
theorem cell_is {scr : Cell} {cA : ClassId} {N : Nat} {f : Nat → Int32} (h1 : scr.cls = cA) (h2 : scr.slots.size = N) (h3 : ∀ j : Nat, j < N → scr.slots[j]? = some (.int (f j))) : ({ cls := scr.cls, slots := scr.slots } : Cell) = vp_cell cA (N, .inl f) := by
  subst h1
  subst h2
  rw [vp_cell_i]
  unfold arrV
  have e : scr.slots = Array.ofFn (n := scr.slots.size) fun j => Value.int (f j.val) := by
    apply Array.ext
    · rw [Array.size_ofFn]
    · intro i hi1 hi2
      have := h3 i hi1
      rw [Array.getElem?_eq_getElem hi1] at this
      rw [Array.getElem_ofFn]
      exact Option.some.inj this
  exact congrArg (fun z : Array Value => ({ cls := scr.cls, slots := z } : Cell)) e
section CLN
variable {p : Program} {l : Launch} {e : Env} {R : Room} {s : State} {m : MethodId} {args : Array Value} {below : List Frame} {meth : Method} {c : Code} {H : Heap} {locs : List Loc} {cells slots : Nat} {Q : State → Prop}
variable {cc : ByteArray} {pc : Nat} {ls : Array Slot} {rest : List Value} {D : va_G} {cs : Nat → ClassId} {A : Nat → Prop} {ws : va_W} {mL : Nat}
theorem mk_cl2 (C : mkC p s m args c cc "CellRows" mL) (Wl : mkW D cs A s ws H locs) {t0 N c2 s2 : Nat} {f : Nat → Int32} (hat : stR cs t0 N f s.heap) (hAt : ¬ A t0) (hsz : ls.size = mL) (hfr : 1 ≤ R.frames) (hlo : (rest.map fun v => v.category).sum + 14 ≤ R.locals) (h1 : cells + 1 ≤ c2) (h2 : c2 ≤ R.cells) (h3 : slots + N ≤ s2) (h4 : s2 ≤ R.slots) (hdg : decode cc pc = .ok (.invokevirtual 28, 3))
    (kk : ∀ q H1, mkW D cs A s (ws ++ [(q, .inl (cs 13, N, .inl f))]) H1 locs → W p l e R s m args below meth c H1 locs c2 s2 Q (F0 m (pc + 3) ls (.ref q :: rest))) : W p l e R s m args below meth c H locs cells slots Q (F0 m pc ls (.ref t0 :: rest)) := by
  obtain ⟨hx, hb, hml, hown, hts⟩ := C
  obtain ⟨hP, hE, hD, hS, hA⟩ := Wl
  obtain ⟨scr, hat, hcl0, hst, hun, hsz0, hsl⟩ := hat
  have hl0 : t0 < s.heap.size := (Array.getElem?_eq_some_iff.mp hat).1
  have hH : H[t0]? = some scr := (hS.2.1 t0 hl0 hAt).trans hat
  have hcE := cell_is hcl0 hsz0 hsl
  obtain ⟨c0, t9, f1, f2, f3⟩ := Cond.castable_spec (va_Nw.use (A := args) rfl hE.2.2.2.2.2)
  cases (nm_i hE.1).symm.trans f1
  intro T hT X
  have hcellT : T.heap[t0]? = some scr := by rw [hT]; exact hH
  obtain ⟨-, kA, hkA, comp, hkind⟩ := State.isArrayOf_alike X.warmed.alike ((hE.1.2 0 _ rfl).1 0 (fun _ => .null))
  obtain ⟨-, kS, hkS, compS, hkindS⟩ := (hE.1.2 0 _ rfl).1 0 (fun _ => .null)
  obtain ⟨vm', X', st⟩ := X.cloneArray (own := "CellRows") (ad := "[I") (index := 28) hx hown (hts _ (wAt_in (p := 2080) (by decide +kernel))) (hts _ (wAt_in (p := 2081) (by decide +kernel))) (hts _ (wAt_in (p := 2082) (by decide +kernel))) (hts _ (wAt_in (p := 2083) (by decide +kernel))) (hts _ (wAt_in (p := 2084) (by decide +kernel))) (a := t0) (cell := scr) hcellT hst hun (by rw [hcl0]; exact nm_i hE.1) f2 (by rw [hcl0]; exact f3)
    (fun i v hv => by
      rw [hcl0]
      have hk' : T.vm.classes[cs 13]? = some kA := hkA
      have hi : i < N := by rw [← hsz0]; exact (Array.getElem?_eq_some_iff.mp hv).1
      cases (hsl i hi).symm.trans hv
      simp [State.fitsSlot, State.slotType?, hk', hkind, fits])
    (g := F0 m pc ls (.ref t0 :: rest)) rfl (by rw [hml]; exact hsz) rfl (by rw [hb]; exact hdg) hfr (by show 2 * 0 + _ + 14 ≤ _; omega) (by omega) (by rw [hsz0]; omega) (hloader := by rw [hcl0]; exact Vm.clonesLoader_of_array hkS hkindS)
  rw [hcE, hsz0] at X'
  generalize hH1 : H.push (vp_cell (cs 13) (N, .inl f)) = H1
  have z1 : H1.size = H.size + 1 := by rw [← hH1, Array.size_push]
  have e1 : H1[H.size]? = some (vp_cell (cs 13) (N, .inl f)) := by rw [← hH1, Array.getElem?_push_size]
  have o1 : ∀ q : Nat, q < H.size → H1[q]? = H[q]? := fun q hq => by rw [← hH1, Array.getElem?_push, if_neg (Nat.ne_of_lt hq)]
  have hk : ∀ (k : Nat) (y : Nat × va_E), ws[k]? = some y → H1[y.1]? = H[y.1]? := fun k y hy => o1 y.1 ((hP k y hy).lt)
  obtain ⟨t, b1, b2⟩ := (W.widen (k := c2) (n := s2) h1 h3 (kk H.size H1 ⟨(hP.kept hk).app (fun k y hy => by
      have hz : k < 1 := (List.getElem?_eq_some_iff.mp hy).1
      rw [show k = 0 by omega] at hy
      cases hy
      exact e1), hE, hD.push hP rfl (hA _ hS.1), ⟨Nat.le_trans hS.1 (by omega), fun y h1 h2 => (o1 y (Nat.lt_of_lt_of_le h1 hS.1)).trans (hS.2.1 y h1 h2), hS.2.2⟩, hA⟩))
    ((T.setVm vm').pushCell (vp_cell (cs 13) (N, .inl f))) (by rw [← hH1, ← hT]; rfl) X'
  refine ⟨t, st t ?_, b2⟩
  rw [hcE, hT]
  exact b1
end CLN
