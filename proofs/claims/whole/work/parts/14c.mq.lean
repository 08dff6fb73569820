/-! MORE ROWS FOR CONSTRUCTORS -/
abbrev aQ (cA : ClassId) (n : Nat) (f : Nat → Option Nat) : va_E := .inl (cA, n, .inr (.inr (.inr (.inr f))))
theorem arrV_ext {cA : ClassId} {N : Nat} {f g : Nat → Value} (h : ∀ j, j < N → f j = g j) : arrV cA N f = arrV cA N g := by
  unfold arrV
  rw [show (fun j : Fin N => f j.val) = fun j : Fin N => g j.val from funext fun j => h j.val j.isLt]
section MKQ
variable {p : Program} {l : Launch} {e : Env} {R : Room} {s : State} {m : MethodId} {args : Array Value} {below : List Frame} {meth : Method} {c : Code} {H : Heap} {locs : List Loc} {cells slots : Nat} {Q : State → Prop}
variable {cc : ByteArray} {pc : Nat} {ls : Array Slot} {rest : List Value} {D : va_G} {cs : Nat → ClassId} {A : Nat → Prop} {ws : va_W} {own : String} {mL : Nat}
theorem mkW.sq {u v : va_W} {a N : Nat} {cA : ClassId} {f f2 : Nat → Option Nat} (Wl : mkW D cs A s (u ++ (a, aQ cA N f) :: v) H locs) (hf : ∀ j, j < N → f j = f2 j) : mkW D cs A s (u ++ (a, aQ cA N f2) :: v) H locs := by
  obtain ⟨hP, hE, hD, hS, hA⟩ := Wl
  have hq : (u ++ (a, aQ cA N f) :: v)[u.length]? = some (a, aQ cA N f) := by
    rw [List.getElem?_append_right (Nat.le_refl _), Nat.sub_self]
    rfl
  have e1 : (u ++ (a, aQ cA N f) :: v).set u.length (a, aQ cA N f2) = u ++ (a, aQ cA N f2) :: v := by
    rw [List.set_append_right _ _ (Nat.le_refl _), Nat.sub_self]
    rfl
  have h0 : H[a]? = some (vp_cell cA (N, .inr (.inr (.inr (.inr f))))) := hP _ _ hq
  have h1 := hP.set hD hq (e := aQ cA N f2) (H1 := H) (by
    show H[a]? = some (vp_cell cA (N, .inr (.inr (.inr (.inr f2)))))
    rw [h0, vp_cell_q, vp_cell_q]
    exact congrArg some (arrV_ext fun j hj => by rw [hf j hj])) (fun q _ => rfl)
  have h2 := hD.set hq (e := aQ cA N f2)
  rw [e1] at h1 h2
  exact ⟨h1, hE, h2, hS, hA⟩
theorem mkW.sq2 {w u v : va_W} {a N : Nat} {cA : ClassId} {f f2 : Nat → Option Nat} (Wl : mkW D cs A s (w ++ (u ++ (a, aQ cA N f) :: v)) H locs) (hf : ∀ j, j < N → f j = f2 j) : mkW D cs A s (w ++ (u ++ (a, aQ cA N f2) :: v)) H locs := by
  rw [← List.append_assoc] at Wl ⊢
  exact Wl.sq hf
theorem nm_q {U : State} (h : va_K D xcl (tysx cs) U) : U.vm.findClass "[[I" = some (cs 16) := by
  have e1 : "[" ++ (FieldType.array .int).toString = "[[I" := by decide +kernel
  rw [← e1]
  exact (h.2 3 _ rfl).2
theorem nm_i {U : State} (h : va_K D xcl (tysx cs) U) : U.vm.findClass "[I" = some (cs 13) := by
  have e1 : "[" ++ (FieldType.int).toString = "[I" := by decide +kernel
  rw [← e1]
  exact (h.2 0 _ rfl).2
theorem mk_mul (C : mkC p s m args c cc own mL) (Wl : mkW D cs A s ws H locs) {p1 idx : Nat} (w1 : wAt p1 (.classLink own idx "[[I") = true) {n k : Int32} {N K c2 s2 : Nat} (hn : ¬ n < 0 ∧ n.toNatClampNeg = N) (hk : ¬ k < 0 ∧ k.toNatClampNeg = K) (hN1 : N ≤ 10000) (hK1 : K ≤ 10000) (h1 : cells + (1 + N) ≤ c2) (h2 : c2 ≤ R.cells) (h3 : slots + (N + N * K) ≤ s2) (h4 : s2 ≤ R.slots) (hdg : decode cc pc = .ok (.multianewarray idx 2, 4))
    (kk : ∀ q H1 locs1, mkW D cs A s (ws ++ (q, aQ (cs 16) N (fun j => some (q + 1 + j))) :: (List.range N).map (fun j => (q + 1 + j, aI cs K))) H1 locs1 → W p l e R s m args below meth c H1 locs1 c2 s2 Q (F0 m (pc + 4) ls (.ref q :: rest))) : W p l e R s m args below meth c H locs cells slots Q (F0 m pc ls (.int k :: .int n :: rest)) := by
  obtain ⟨hx, hb, hml, hown, hts⟩ := C
  obtain ⟨hP, hE, hD, hS, hA⟩ := Wl
  refine mz_mul hx hb hown (hts _ (wAt_in w1)) hE.2.2.2.2.1 (hts _ (wAt_in (p := 2128) (by decide +kernel))) hn.1 hk.1 hn.2 hk.2 hN1 hK1 (by omega) (by omega) (g := F0 m pc ls (.int k :: .int n :: rest)) rfl rfl hdg (fun cA comp H1 fA fC z1 o1 e1 i1 => ?_)
  cases fA.symm.trans (nm_q hE.1)
  cases fC.symm.trans (nm_i hE.1)
  have hk9 : ∀ (k : Nat) (x : Nat × va_E), ws[k]? = some x → H1[x.1]? = H[x.1]? := fun k x hx9 => o1 x.1 ((hP k x hx9).lt)
  have key : ∀ (j : Nat) (x : Nat × va_E), ((H.size, aQ (cs 16) N (fun j => some (H.size + 1 + j))) :: (List.range N).map (fun j => (H.size + 1 + j, aI cs K)))[j]? = some x → x.1 = H.size + j ∧ va_at D xcl x H1 := by
    intro j x hj
    cases j with
    | zero =>
      cases hj
      refine ⟨rfl, ?_⟩
      show H1[H.size]? = some (vp_cell _ _)
      rw [e1, vp_cell_q]
      exact congrArg some (arrV_ext fun j hj => if_pos hj)
    | succ j =>
      have hj2 : ((List.range N).map (fun j => ((H.size + 1 + j, aI cs K) : Nat × va_E)))[j]? = some x := hj
      rw [List.getElem?_map] at hj2
      by_cases hjN : j < N
      · rw [List.getElem?_range hjN] at hj2
        cases hj2
        exact ⟨by show H.size + 1 + j = H.size + (j + 1); omega, i1 j hjN⟩
      · rw [List.getElem?_eq_none (by rw [List.length_range]; omega)] at hj2
        cases hj2
  refine W.widen (k := c2) (n := s2) (by omega) (by omega) (kk H.size H1 _ ⟨va_P.app (hP.kept hk9) (fun j x hj => (key j x hj).2), hE, va_D.app hD ⟨fun i j x y hi hj hxy => ?_, fun j x hj => ?_⟩ (fun i j x y hi hj hxy => ?_), ⟨Nat.le_trans hS.1 (by omega), fun x h1 h2 => (o1 x (Nat.lt_of_lt_of_le h1 hS.1)).trans (hS.2.1 x h1 h2), fun q hq => ?_⟩, hA⟩)
  · have a1 := (key i x hi).1
    have a2 := (key j y hj).1
    omega
  · have a1 := (key j x hj).1
    exact hA _ (by have := hS.1; omega)
  · have a1 := (hP i x hi).lt
    have a2 := (key j y hj).1
    omega
  · rcases List.mem_append.mp hq with h9 | h9
    · exact hS.2.2 q h9
    · obtain ⟨j, -, rfl⟩ := List.mem_map.mp h9
      exact hA _ hS.1
theorem mk_ias (C : mkC p s m args c cc own mL) (Wl : mkW D cs A s ws H locs) (q0 : Nat) {a N : Nat} {f : Nat → Int32} (he : ws[q0]? = some (a, .inl (cs 13, N, .inl f))) {i x : Int32} {j : Nat} (hj : i.toNatClampNeg = j) (hin : vp_in i N) (hdg : decode cc pc = .ok (.iastore, 1))
    (kk : ∀ H1 locs1, mkW D cs A s (ws.set q0 (a, .inl (cs 13, N, .inl (upd f j x)))) H1 locs1 → W p l e R s m args below meth c H1 locs1 cells slots Q (F0 m (pc + 1) ls rest)) : W p l e R s m args below meth c H locs cells slots Q (F0 m pc ls (.int x :: .int i :: .ref a :: rest)) := by
  subst hj
  obtain ⟨hx, hb, hml, hown, hts⟩ := C
  obtain ⟨hP, hE, hD, hS, hA⟩ := Wl
  exact va_iast hx hb hE.1 hP hD hS q0 0 he rfl hin hdg (fun H1 locs1 h1 h2 h3 => kk H1 locs1 ⟨h1, hE, h2, h3, hA⟩)
/-- a row of plans made -/
theorem mk_nwq (C : mkC p s m args c cc own mL) (Wl : mkW D cs A s ws H locs) {p1 idx : Nat} (w1 : wAt p1 (.classLink own idx "CellRows$Plan") = true) {n : Int32} {N c2 s2 : Nat} (hn : ¬ n < 0 ∧ n.toNatClampNeg = N) (hN1 : N ≤ 10000) (h1 : cells + 1 ≤ c2) (h2 : c2 ≤ R.cells) (h3 : slots + N ≤ s2) (h4 : s2 ≤ R.slots) (hdg : decode cc pc = .ok (.anewarray idx, 3))
    (kk : ∀ q H1, mkW D cs A s (ws ++ [(q, aQ (cs 15) N (fun _ => none))]) H1 locs → W p l e R s m args below meth c H1 locs c2 s2 Q (F0 m (pc + 3) ls (.ref q :: rest))) : W p l e R s m args below meth c H locs cells slots Q (F0 m pc ls (.int n :: rest)) := by
  obtain ⟨hx, hb, hml, hown, hts⟩ := C
  obtain ⟨hP, hE, hD, hS, hA⟩ := Wl
  refine va_newq hx hb hown (hts _ (wAt_in w1)) hE.2.2.2.1 hE.1 hP hD hS hA hn.1 hn.2 (by omega) (by omega) (by omega) hdg (fun q cA H1 hK1 hP1 hD1 hS1 => ?_)
  obtain ⟨-, -, -, -, -, f1⟩ := (hK1.2 4 _ rfl).2
  obtain ⟨-, -, -, -, -, f2⟩ := (hE.1.2 2 _ rfl).2
  cases f1.symm.trans f2
  exact W.widen (k := c2) (n := s2) h1 (by omega) (kk q H1 ⟨hP1, hE, hD1, hS1, hA⟩)
theorem mk_aas (C : mkC p s m args c cc own mL) (Wl : mkW D cs A s ws H locs) (q0 qk : Nat) {a v N : Nat} {f : Nat → Option Nat} {vs : List Value} (he : ws[q0]? = some (a, aQ (cs 15) N f)) (hv : ws[qk]? = some (v, .inr (9, vs))) {i : Int32} {j : Nat} (hj : i.toNatClampNeg = j) (hin : vp_in i N) (hdg : decode cc pc = .ok (.aastore, 1))
    (kk : ∀ H1 locs1, mkW D cs A s (ws.set q0 (a, aQ (cs 15) N (va_up f j (some v)))) H1 locs1 → W p l e R s m args below meth c H1 locs1 cells slots Q (F0 m (pc + 1) ls rest)) : W p l e R s m args below meth c H locs cells slots Q (F0 m pc ls (.ref v :: .int i :: .ref a :: rest)) := by
  subst hj
  obtain ⟨hx, hb, hml, hown, hts⟩ := C
  obtain ⟨hP, hE, hD, hS, hA⟩ := Wl
  exact va_astq hx hb hE.1 hP hD hS q0 2 qk 9 he rfl hv (xcl_at (by decide)) hin hdg (fun H1 locs1 h1 h2 h3 => kk H1 locs1 ⟨h1, hE, h2, h3, hA⟩)
/-- a field of an object that stands elsewhere, and stays -/
theorem mk_gte (C : mkC p s m args c cc own mL) (Wl : mkW D cs A s ws H locs) {ci : Nat} (hci : ci < 13) {a : Nat} {fs : List Value} (hat : va_at D xcl (a, .inr (ci, fs)) s.heap) (hAa : ¬ A a) (k : Nat) (hk : k < (xFl.getD ci []).length) {p1 idx : Nat} (w1 : wAt p1 (.fieldLink own idx (xfl ci k).1 (xfl ci k).2.1 (xfl ci k).2.2.1) = true) {v : Value} (hv : fs[k]? = some v) (hdg : decode cc pc = .ok (.getfield idx, 3))
    (kk : W p l e R s m args below meth c H locs cells slots Q (F0 m (pc + 3) ls (v :: rest))) : W p l e R s m args below meth c H locs cells slots Q (F0 m pc ls (.ref a :: rest)) := by
  obtain ⟨hx, hb, hml, hown, hts⟩ := C
  obtain ⟨hP, hE, hD, hS, hA⟩ := Wl
  have h1 : va_P D xcl [(a, .inr (ci, fs))] H := by
    intro j x hj
    cases j with
    | zero =>
      cases hj
      exact hat.kept (hS.2.1 a hat.lt hAa)
    | succ j => cases hj
  exact va_get (D := D) (ci := ci) (v := v) (C := xcnL.getD ci "") (T := xfl ci) (N := (xFl.getD ci []).length) hx hb hts (uws_in hci) hown hE.1 h1 0 rfl (xcl_at hci) k hk (hts _ (wAt_in w1)) (fun _ h9 => h9) hv hdg kk
end MKQ
