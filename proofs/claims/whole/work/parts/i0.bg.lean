/-! THE BEGINNING, I: what the tables and the premises give -/
theorem wIn {c i : Nat} {w : Cond} (h : (xwp c)[i]? = some w) : w ∈ lw_tbl := xwp_in (List.mem_of_getElem? h)
theorem st_of {args : Array Value} {s : State} {tm : Term} {N : Nat} {f : Nat → Int32} (hN : N < 2 ^ 31) (harr : (Cond.arrayOf tm .int).before args s = true) (hlen : (Cond.eq (.length tm) (.int (Int32.ofNat N))).before args s = true) (hel : ∀ j : Nat, j < N → (Cond.eq (.elem tm (.int (Int32.ofNat j))) (.int (f j))).before args s = true) : ∃ t : Nat, tm.eval args s none [] s = some (.ref t) ∧ va_X t N f s s.heap := by
  have hv := va_eqt hlen
  obtain ⟨t, ht, cell, hcell, hof, hkn, hle, hsz, hsl, -⟩ := va_Tof (A := fun _ => False) (f := fun j => .int (f j)) hN harr hv (fun j hj => va_eqt (hel j hj)) (fun _ _ h => h)
  obtain ⟨b2, cell2, ht2, harr2, -⟩ := Term.length_spec hv
  cases ht.symm.trans ht2
  obtain ⟨hcell2, -, -, -⟩ := State.arrayAt?_spec harr2
  cases hcell.symm.trans hcell2
  have hlt : cell.slots.size < 2 ^ 31 := by
    simp only [Term.eval, ht, harr2, Option.bind_eq_bind, Option.bind_some] at hv
    by_cases hlt : cell.slots.size < 2147483648
    · exact hlt
    · simp [hlt] at hv
  have e : cell.slots.size = N := by
    have h1 := Int32.toNatClampNeg_ofNat_of_lt hlt
    have h2 := Int32.toNatClampNeg_ofNat_of_lt hN
    have h3 : Int32.ofNat cell.slots.size = Int32.ofNat N := hsz
    rw [h3] at h1
    exact h1.symm.trans h2
  exact ⟨_, ht, _, hcell, hof, hkn, e, hsl⟩
abbrev tmS (i : Nat) : Term := .static (sts.getD i ("", "")).1 (sts.getD i ("", "")).2 "[I"
set_option maxRecDepth 100000 in
theorem st_all {s : State} {b : Nat} (hgv : (Jvm.Cond.and given_1 narrow_1).before #[Value.ref b] s = true) (i : Nat) (hi : i < 5) : ∃ t : Nat, (tmS i).eval #[Value.ref b] s none [] s = some (.ref t) ∧ va_X t (stL.getD i []).length (fun j => Int32.ofInt (stv i j)) s s.heap := by
  have hs := flat_of_before _ hgv
  have h9 : i = 0 ∨ i = 1 ∨ i = 2 ∨ i = 3 ∨ i = 4 := by omega
  rcases h9 with rfl | rfl | rfl | rfl | rfl
  · refine st_of (N := 6) (f := fun j => Int32.ofInt (stv 0 j)) (by decide) (hs _ (by decide +kernel)) (hs _ (by decide +kernel)) (fun j hj => ?_)
    have h8 : j = 0 ∨ j = 1 ∨ j = 2 ∨ j = 3 ∨ j = 4 ∨ j = 5 := by omega
    rcases h8 with rfl | rfl | rfl | rfl | rfl | rfl <;> exact hs _ (by decide +kernel)
  · refine st_of (N := 6) (f := fun j => Int32.ofInt (stv 1 j)) (by decide) (hs _ (by decide +kernel)) (hs _ (by decide +kernel)) (fun j hj => ?_)
    have h8 : j = 0 ∨ j = 1 ∨ j = 2 ∨ j = 3 ∨ j = 4 ∨ j = 5 := by omega
    rcases h8 with rfl | rfl | rfl | rfl | rfl | rfl <;> exact hs _ (by decide +kernel)
  · refine st_of (N := 6) (f := fun j => Int32.ofInt (stv 2 j)) (by decide) (hs _ (by decide +kernel)) (hs _ (by decide +kernel)) (fun j hj => ?_)
    have h8 : j = 0 ∨ j = 1 ∨ j = 2 ∨ j = 3 ∨ j = 4 ∨ j = 5 := by omega
    rcases h8 with rfl | rfl | rfl | rfl | rfl | rfl <;> exact hs _ (by decide +kernel)
  · refine st_of (N := 5) (f := fun j => Int32.ofInt (stv 3 j)) (by decide) (hs _ (by decide +kernel)) (hs _ (by decide +kernel)) (fun j hj => ?_)
    have h8 : j = 0 ∨ j = 1 ∨ j = 2 ∨ j = 3 ∨ j = 4 := by omega
    rcases h8 with rfl | rfl | rfl | rfl | rfl <;> exact hs _ (by decide +kernel)
  · refine st_of (N := 5) (f := fun j => Int32.ofInt (stv 4 j)) (by decide) (hs _ (by decide +kernel)) (hs _ (by decide +kernel)) (fun j hj => ?_)
    have h8 : j = 0 ∨ j = 1 ∨ j = 2 ∨ j = 3 ∨ j = 4 := by omega
    rcases h8 with rfl | rfl | rfl | rfl | rfl <;> exact hs _ (by decide +kernel)
theorem st_zz {s : State} {args : Array Value} {st : Nat → Nat} (hts : ∀ w ∈ lw_tbl, w.before args s = true) (h : ∀ i, i < 5 → (tmS i).eval args s none [] s = some (.ref (st i))) (j : Nat) (hj : j < 5) : va_Z (sts.getD j ("", "")).1 (sts.getD j ("", "")).2 "[I" (.ref (st j)) (fun q => s.heap.size ≤ q) s s.heap := by
  have hA : ∀ a : Nat, a < s.heap.size → ¬ (s.heap.size ≤ a) := fun a h => by omega
  have e := h j hj
  have h9 : j = 0 ∨ j = 1 ∨ j = 2 ∨ j = 3 ∨ j = 4 := by omega
  rcases h9 with rfl | rfl | rfl | rfl | rfl
  · exact va_Zof (hts _ (wIn (c := 8) (i := 31) (by decide +kernel))) (hts _ (wIn (c := 8) (i := 1) (by decide +kernel))) e hA
  · exact va_Zof (hts _ (wIn (c := 10) (i := 55) (by decide +kernel))) (hts _ (wIn (c := 8) (i := 1) (by decide +kernel))) e hA
  · exact va_Zof (hts _ (wIn (c := 10) (i := 57) (by decide +kernel))) (hts _ (wIn (c := 8) (i := 1) (by decide +kernel))) e hA
  · exact va_Zof (hts _ (wIn (c := 11) (i := 161) (by decide +kernel))) (hts _ (wIn (c := 8) (i := 11) (by decide +kernel))) e hA
  · exact va_Zof (hts _ (wIn (c := 11) (i := 163) (by decide +kernel))) (hts _ (wIn (c := 8) (i := 11) (by decide +kernel))) e hA
def ipl : List Nat := [2451, 2422, 2094, 2130, 2323, 2284, 2204, 2473, 2509, 2088, 2372, 2065, 3332]
def inn : List Nat := [5, 6, 5, 8, 9, 4, 5, 9, 12, 6, 13, 14, 37]
theorem inst_at {ci : Nat} (h : ci < 13) : wAt (ipl.getD ci 0) (.instantiable (xcnL.getD ci "") (inn.getD ci 0)) = true := by
  have : ∀ ci, ci < 13 → wAt (ipl.getD ci 0) (.instantiable (xcnL.getD ci "") (inn.getD ci 0)) = true := by decide +kernel
  exact this ci h
theorem arr_ok {s : State} {c cc : ClassId} {k : Class} {ty : FieldType} (h1 : s.vm.classes[c]? = some k) (h2 : k.kind = .array cc ty) : ArrOfT s c ty :=
  fun n z => ⟨fun j h => (by
    have h3 : VmData.none = VmData.statics j := h
    cases h3), k, h1, cc, h2⟩
theorem kn_all {args : Array Value} {s : State} (hts : ∀ w ∈ lw_tbl, w.before args s = true) : ∃ (D : va_G) (cs : Nat → ClassId), mkE D cs s := by
  have htg : ∀ w ∈ tblG, w.before args s = true := fun w hw => hts w (List.mem_filter.mp hw).1
  have h0 : ∀ ci : Nat, ∃ q : ClassId × (Nat → Nat), ci < 13 → u_Kn s (xcnL.getD ci "") (xfl ci) (xFl.getD ci []).length q.1 q.2 := by
    intro ci
    by_cases h : ci < 13
    · obtain ⟨cC, iS, hk⟩ := u_known htg (uws_in h) (htg _ (wAt_in (inst_at h)))
      exact ⟨(cC, iS), fun _ => hk⟩
    · exact ⟨(0, fun _ => 0), fun h2 => absurd h2 h⟩
  obtain ⟨g, hg⟩ := Classical.skolem.mp h0
  obtain ⟨c13, k13, p13, a1, a2, a3⟩ := Cond.arrayClass_spec (htg _ (wAt_in (p := 2128) (w := .arrayClass .int) (by decide +kernel)))
  obtain ⟨c14, k14, p14, b1, b2, b3⟩ := Cond.arrayClass_spec (htg _ (wAt_in (p := 2202) (w := .arrayClass .boolean) (by decide +kernel)))
  obtain ⟨p15, c15, k15, d1, d2, d3, d4, d5⟩ := Cond.arrayOver_spec (hts _ (wIn (c := 9) (i := 2) (w := .arrayOver (.object "CellRows$Plan")) (by decide +kernel)))
  obtain ⟨p16, c16, k16, e1, e2, e3, e4, e5⟩ := arrayOverA_spec (hts _ (wIn (c := 9) (i := 175) (w := .arrayOver (.array .int)) (by decide +kernel)))
  refine ⟨(fun ci => (g ci).1, fun ci => (g ci).2), fun k => if k = 13 then c13 else if k = 14 then c14 else if k = 15 then c15 else c16, ⟨fun c q hq => ?_, fun k q hk => ?_⟩, va_Nw.of rfl (hts _ (wIn (c := 8) (i := 83) (by decide +kernel))), va_Nw.of rfl (hts _ (wIn (c := 8) (i := 157) (by decide +kernel))), va_AO.of (hts _ (wIn (c := 9) (i := 2) (by decide +kernel))), (show (Cond.arrayOver (.array .int)).before args s = true from hts _ (wIn (c := 9) (i := 175) (by decide +kernel))), va_Nw.of rfl (hts _ (wIn (c := 8) (i := 37) (by decide +kernel)))⟩
  · have hc : c < 13 := by
      have := (List.getElem?_eq_some_iff.mp hq).1
      simpa [xcl] using this
    rw [xcl_at hc] at hq
    cases hq
    exact hg c hc
  · match k, hk with
    | 0, hk =>
      cases hk
      exact ⟨arr_ok a2 a3, a1⟩
    | 1, hk =>
      cases hk
      exact ⟨arr_ok b2 b3, b1⟩
    | 2, hk =>
      cases hk
      exact ⟨arr_ok d3 d4, k15, p15, d3, d4, d1, d5⟩
    | 3, hk =>
      cases hk
      exact ⟨arr_ok e3 e4, e5⟩
    | n + 4, hk => cases hk
/-- TERM_FIRST's row: its class -/
theorem st_R {s : State} {b t : Nat} {D : va_G} {cs : Nat → ClassId} (hgv : (Jvm.Cond.and given_1 narrow_1).before #[Value.ref b] s = true) (hE : mkE D cs s) (ht : (tmS 0).eval #[Value.ref b] s none [] s = some (.ref t)) (hX : va_X t 6 (fun j => Int32.ofInt (stv 0 j)) s s.heap) : stR cs t 6 (fun j => Int32.ofInt (tm0 j)) s.heap := by
  have hs := flat_of_before _ hgv
  have hex : (Cond.exactly (.static "CellRows" "TERM_FIRST" "[I") "[I").before #[Value.ref b] s = true := hs _ (by decide +kernel)
  obtain ⟨a, c, cell, k, h1, h2, h3, h4, h5, h6, -⟩ := Cond.exactly_spec hex
  cases ht.symm.trans h1
  cases h2.symm.trans (nm_i hE.1)
  obtain ⟨scr, x1, x2, x3, x4, x5⟩ := hX
  cases x1.symm.trans h3
  refine ⟨_, h3, h6, x2.1, x3, x4, fun j hj => ?_⟩
  rw [x5 j hj]
  have h8 : j = 0 ∨ j = 1 ∨ j = 2 ∨ j = 3 ∨ j = 4 ∨ j = 5 := by omega
  rcases h8 with rfl | rfl | rfl | rfl | rfl | rfl <;> rfl
