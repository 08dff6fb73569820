/-! THE CONSTRUCTORS, I: worlds that grow -/
abbrev tysx (cs : Nat → ClassId) : List (ClassId × FieldType) := [(cs 13, .int), (cs 14, .boolean), (cs 15, .object "CellRows$Plan"), (cs 16, .array .int)]
/-- what the tables say that is no word of a contract: two links of nest mates, two classes of arrays, one cast -/
def mkE (D : va_G) (cs : Nat → ClassId) (U : State) : Prop := va_K D xcl (tysx cs) U ∧ va_Nw (.methodLinkNest "CellRows$Plan" 25 ⟨"CellRows$Cells", "<init>", "()V"⟩ "CellRows") U ∧ va_Nw (.methodLinkNest "CellRows$Plan" 32 ⟨"CellRows$Nets", "<init>", "()V"⟩ "CellRows") U ∧ va_AO "CellRows$Plan" U ∧ va_Nw (.arrayOver (.array .int)) U ∧ va_Nw (.castable "[I" "java/lang/Cloneable") U
theorem ao_moved {u U : State} (hvm : u.vm.Alike U.vm) (h : va_Nw (.arrayOver (.array .int)) u) : va_Nw (.arrayOver (.array .int)) U := by
  obtain ⟨comp, c, k, h1, h2, h3, h4, h5⟩ := arrayOverA_spec h
  obtain ⟨k', hk', he⟩ := hvm.2.2 _ _ h3
  have a1 := va_idx_bare U.vm comp
  have a2 := va_idx_bare u.vm comp
  rw [hvm.bare_eq] at a1
  have hi : (U.vm.classes.findIdx? fun (x : Class) => match x.kind with | .array component _ => component == comp | _ => false) = some c := a1.symm.trans (a2.trans h2)
  have hkind : k'.kind = .array comp (.array .int) := by rw [he]; exact h4
  have f1 : U.vm.findClass (FieldType.array .int).toString = some comp := by rw [hvm.findClass]; exact h1
  have f2 : U.vm.findClass ("[" ++ (FieldType.array .int).toString) = some c := by rw [hvm.findClass]; exact h5
  unfold va_Nw Cond.before Cond.holds
  simp only [Cond.value]
  rw [f1, Option.bind_some]
  refine (congrArg (fun o : Option Nat => (o.bind (fun c => (U.vm.classes[c]?).map fun (k : Class) => match k.kind with | .array _ ty => decide (ty = FieldType.array .int) && decide (U.vm.findClass ("[" ++ (FieldType.array .int).toString) = some c) | _ => false) == some true)) hi).trans ?_
  simp [hk', hkind, f2]
theorem mkE.warm {D : va_G} {cs : Nat → ClassId} {s U : State} (hW : s.WarmedH U.vm) (h : mkE D cs s) : mkE D cs U :=
  ⟨va_K.moved hW.alike h.1, va_Nw.warmM hW h.2.1, va_Nw.warmM hW h.2.2.1, va_AO.moved hW.alike h.2.2.2.1, ao_moved hW.alike h.2.2.2.2.1, va_Nw.warmC hW h.2.2.2.2.2⟩
theorem mkE.same {D : va_G} {cs : Nat → ClassId} {s U : State} (hv : s.vm = U.vm) (h : mkE D cs s) : mkE D cs U :=
  ⟨va_K.moved (by rw [hv]; exact Vm.Alike.refl _) h.1, va_Nw.same rfl hv h.2.1, va_Nw.same rfl hv h.2.2.1, va_AO.moved (by rw [hv]; exact Vm.Alike.refl _) h.2.2.2.1, ao_moved (by rw [hv]; exact Vm.Alike.refl _) h.2.2.2.2.1, va_Nw.same rfl hv h.2.2.2.2.2⟩
def mkC (p : Program) (s : State) (m : MethodId) (args : Array Value) (c : Code) (cc : ByteArray) (own : String) (mL : Nat) : Prop := p.tables.exec = Jvm.exec ∧ c.code = cc ∧ c.maxLocals = mL ∧ s.vm.findClass own = some m.cls ∧ ∀ w ∈ tblG, w.before args s = true
def mkW (D : va_G) (cs : Nat → ClassId) (A : Nat → Prop) (s : State) (ws : va_W) (H : Heap) (locs : List Loc) : Prop := va_P D xcl ws H ∧ mkE D cs s ∧ va_D A ws ∧ va_S A s.heap H locs ∧ ∀ q, s.heap.size ≤ q → A q
/-- a new row of numbers, a new row of truths, a new object -/
abbrev aI (cs : Nat → ClassId) (n : Nat) : va_E := .inl (cs 13, n, .inl (fun _ => Int32.ofInt 0))
abbrev aZ (cs : Nat → ClassId) (n : Nat) : va_E := .inl (cs 14, n, .inl (fun _ => Int32.ofInt 0))
abbrev nO (ci : Nat) : va_E := .inr (ci, (xtyL.getD ci []).map defaultValue)
theorem lenT {ci : Nat} (h : ci < 13) : (xtyL.getD ci []).length = (xFl.getD ci []).length := by
  have : ∀ ci, ci < 13 → (xtyL.getD ci []).length = (xFl.getD ci []).length := by decide +kernel
  exact this ci h
theorem df_at (L : List FieldType) {j : Nat} (h : j < L.length) : defaultValue (L.getD j .int) = (L.map defaultValue).getD j .null := by
  rw [List.getD_eq_getElem?_getD, List.getD_eq_getElem?_getD, List.getElem?_map, List.getElem?_eq_getElem h]
  rfl
section MKR
variable {p : Program} {l : Launch} {e : Env} {R : Room} {s : State} {m : MethodId} {args : Array Value} {below : List Frame} {meth : Method} {c : Code} {H : Heap} {locs : List Loc} {cells slots : Nat} {Q : State → Prop}
variable {cc : ByteArray} {pc : Nat} {ls : Array Slot} {rest : List Value} {D : va_G} {cs : Nat → ClassId} {A : Nat → Prop} {ws : va_W} {own : String} {mL : Nat}
/-- Object's own constructor -/
theorem mk_obj (C : mkC p s m args c cc own mL) {p1 idx a : Nat} (w1 : wAt p1 (.methodLink own idx objectInit) = true) (hsz : ls.size = mL) (h1 : 1 ≤ R.frames) (h2 : (rest.map fun v => v.category).sum + 12 ≤ R.locals) (hdg : decode cc pc = .ok (.invokespecial idx, 3))
    (kk : W p l e R s m args below meth c H locs cells slots Q (F0 m (pc + 3) ls rest)) : W p l e R s m args below meth c H locs cells slots Q (F0 m pc ls (.ref a :: rest)) := by
  obtain ⟨hx, hb, hml, hown, hts⟩ := C
  refine W.objInit hx hb hown (hts _ (wAt_in w1)) (hts _ (wAt_in (p := 2070) (by decide +kernel))) (hts _ (wAt_in (p := 2071) (by decide +kernel))) rfl (by rw [hml]; exact hsz) rfl hdg h1 (by show 2 * 0 + _ + 12 ≤ _; omega) ?_
  exact kk
/-- a field written -/
theorem mk_put (C : mkC p s m args c cc own mL) (hin2 : meth.name = "<init>") (Wl : mkW D cs A s ws H locs) {ci : Nat} (hci : ci < 13) (hon : xcnL.getD ci "" = own) (q0 : Nat) {a : Nat} {fs : List Value} (he : ws[q0]? = some (a, .inr (ci, fs))) (k : Nat) (hk : k < (xFl.getD ci []).length) {p1 idx : Nat} (w1 : wAt p1 (.fieldLink own idx (xfl ci k).1 (xfl ci k).2.1 (xfl ci k).2.2.1) = true) (hdc : (xfl ci k).1 = own) {ty : FieldType} {v : Value} (hd : parseFieldDescriptor (xfl ci k).2.2.1 = some ty) (hn : narrow ty v = v) (hf : fits ty v = true) (hl : k < fs.length) (hdg : decode cc pc = .ok (.putfield idx, 3))
    (kk : ∀ H1 locs1, mkW D cs A s (ws.set q0 (a, .inr (ci, fs.set k v))) H1 locs1 → W p l e R s m args below meth c H1 locs1 cells slots Q (F0 m (pc + 3) ls rest)) : W p l e R s m args below meth c H locs cells slots Q (F0 m pc ls (v :: .ref a :: rest)) := by
  obtain ⟨hx, hb, hml, hown, hts⟩ := C
  obtain ⟨hP, hE, hD, hS, hA⟩ := Wl
  cases hfin : (xfl ci k).2.2.2 with
  | true => exact va_putF (D := D) (ci := ci) (v := v) (ty := ty) (C := xcnL.getD ci "") (T := xfl ci) (N := (xFl.getD ci []).length) hx hb hts (uws_in hci) (fun k => (xtyL.getD ci []).getD k .int) (tys_at hci) (nm_at hci) hown hE.1 hP hD hS q0 he (xcl_at hci) k hk (hts _ (wAt_in w1)) (fun _ h9 => h9) hfin hin2 hdc hd hn hf hl hdg (fun H1 locs1 hP1 hD1 hS1 => kk H1 locs1 ⟨hP1, hE, hD1, hS1, hA⟩)
  | false => exact va_put (D := D) (ci := ci) (v := v) (ty := ty) (C := xcnL.getD ci "") (T := xfl ci) (N := (xFl.getD ci []).length) hx hb hts (uws_in hci) (fun k => (xtyL.getD ci []).getD k .int) (tys_at hci) (nm_at hci) hown hE.1 hP hD hS q0 he (xcl_at hci) k hk (hts _ (wAt_in w1)) (fun _ h9 => h9) hfin hd hn hf hl hdg (fun H1 locs1 hP1 hD1 hS1 => kk H1 locs1 ⟨hP1, hE, hD1, hS1, hA⟩)
/-- a field read -/
theorem mk_get (C : mkC p s m args c cc own mL) (Wl : mkW D cs A s ws H locs) {ci : Nat} (hci : ci < 13) (q0 : Nat) {a : Nat} {fs : List Value} (he : ws[q0]? = some (a, .inr (ci, fs))) (k : Nat) (hk : k < (xFl.getD ci []).length) {p1 idx : Nat} (w1 : wAt p1 (.fieldLink own idx (xfl ci k).1 (xfl ci k).2.1 (xfl ci k).2.2.1) = true) {v : Value} (hv : fs[k]? = some v) (hdg : decode cc pc = .ok (.getfield idx, 3))
    (kk : W p l e R s m args below meth c H locs cells slots Q (F0 m (pc + 3) ls (v :: rest))) : W p l e R s m args below meth c H locs cells slots Q (F0 m pc ls (.ref a :: rest)) := by
  obtain ⟨hx, hb, hml, hown, hts⟩ := C
  obtain ⟨hP, hE, hD, hS, hA⟩ := Wl
  exact va_get (D := D) (ci := ci) (v := v) (C := xcnL.getD ci "") (T := xfl ci) (N := (xFl.getD ci []).length) hx hb hts (uws_in hci) hown hE.1 hP q0 he (xcl_at hci) k hk (hts _ (wAt_in w1)) (fun _ h9 => h9) hv hdg kk
/-- a row made -/
theorem mk_arr (C : mkC p s m args c cc own mL) (Wl : mkW D cs A s ws H locs) {n : Int32} {N nm c2 s2 : Nat} (hn : ¬ n < 0) (hN : n.toNatClampNeg = N) (hm : N ≤ nm) (hmm : nm ≤ 10000) (h1 : cells + 1 ≤ c2) (h2 : c2 ≤ R.cells) (h3 : slots + nm ≤ s2) (h4 : s2 ≤ R.slots) (hdg : decode cc pc = .ok (.newarray .int, 2))
    (kk : ∀ q H1, mkW D cs A s (ws ++ [(q, aI cs N)]) H1 locs → W p l e R s m args below meth c H1 locs c2 s2 Q (F0 m (pc + 2) ls (.ref q :: rest))) : W p l e R s m args below meth c H locs cells slots Q (F0 m pc ls (.int n :: rest)) := by
  obtain ⟨hx, hb, hml, hown, hts⟩ := C
  obtain ⟨hP, hE, hD, hS, hA⟩ := Wl
  refine va_newa (atype := .int) (ty := .int) hx hb (hts _ (wAt_in (p := 2128) (by decide +kernel))) rfl hE.1 hP hD hS hA (a0 := (N, .inl (fun _ => Int32.ofInt 0))) (fun cA => rfl) hn hN (by show N * 4 ≤ _; omega) (by omega) (by omega) hdg (fun q cA H1 hK1 hP1 hD1 hS1 => ?_)
  have e1 : s.vm.findClass "[I" = some cA := (hK1.2 4 _ rfl).2
  have e2 : s.vm.findClass "[I" = some (cs 13) := (hE.1.2 0 _ rfl).2
  cases e1.symm.trans e2
  refine W.widen (k := c2) (n := s2) h1 (by omega) ?_
  exact kk q H1 ⟨hP1, hE, hD1, hS1, hA⟩
theorem mk_arz (C : mkC p s m args c cc own mL) (Wl : mkW D cs A s ws H locs) {n : Int32} {N nm c2 s2 : Nat} (hn : ¬ n < 0) (hN : n.toNatClampNeg = N) (hm : N ≤ nm) (hmm : nm ≤ 10000) (h1 : cells + 1 ≤ c2) (h2 : c2 ≤ R.cells) (h3 : slots + nm ≤ s2) (h4 : s2 ≤ R.slots) (hdg : decode cc pc = .ok (.newarray .boolean, 2))
    (kk : ∀ q H1, mkW D cs A s (ws ++ [(q, aZ cs N)]) H1 locs → W p l e R s m args below meth c H1 locs c2 s2 Q (F0 m (pc + 2) ls (.ref q :: rest))) : W p l e R s m args below meth c H locs cells slots Q (F0 m pc ls (.int n :: rest)) := by
  obtain ⟨hx, hb, hml, hown, hts⟩ := C
  obtain ⟨hP, hE, hD, hS, hA⟩ := Wl
  refine va_newa (atype := .boolean) (ty := .boolean) hx hb (hts _ (wAt_in (p := 2202) (by decide +kernel))) rfl hE.1 hP hD hS hA (a0 := (N, .inl (fun _ => Int32.ofInt 0))) (fun cA => rfl) hn hN (by show N * 1 ≤ _; omega) (by omega) (by omega) hdg (fun q cA H1 hK1 hP1 hD1 hS1 => ?_)
  have e1 : s.vm.findClass "[Z" = some cA := (hK1.2 4 _ rfl).2
  have e2 : s.vm.findClass "[Z" = some (cs 14) := (hE.1.2 1 _ rfl).2
  cases e1.symm.trans e2
  refine W.widen (k := c2) (n := s2) h1 (by omega) ?_
  exact kk q H1 ⟨hP1, hE, hD1, hS1, hA⟩
/-- an object made -/
theorem mk_new (C : mkC p s m args c cc own mL) (Wl : mkW D cs A s ws H locs) (ci : Nat) (hci : ci < 13) {nam : String} (hon : xcnL.getD ci "" = nam) {N p1 p2 p3 idx c2 s2 : Nat} (hN : (xFl.getD ci []).length = N) (w1 : wAt p1 (.classLink own idx nam) = true) (w2 : wAt p2 (.instantiable nam N) = true) (w3 : wAt p3 (.initialized nam) = true) (h1 : cells + 1 ≤ c2) (h2 : c2 ≤ R.cells) (h3 : slots + N ≤ s2) (h4 : s2 ≤ R.slots) (hdg : decode cc pc = .ok (.new idx, 3))
    (kk : ∀ q H1, mkW D cs A s (ws ++ [(q, nO ci)]) H1 locs → W p l e R s m args below meth c H1 locs c2 s2 Q (F0 m (pc + 3) ls (.ref q :: rest))) : W p l e R s m args below meth c H locs cells slots Q (F0 m pc ls rest) := by
  obtain ⟨hx, hb, hml, hown, hts⟩ := C
  obtain ⟨hP, hE, hD, hS, hA⟩ := Wl
  subst hN
  subst hon
  refine va_new (ci := ci) (fs := (xtyL.getD ci []).map defaultValue) (C := xcnL.getD ci "") (T := xfl ci) (N := (xFl.getD ci []).length) hx hb hts (uws_in hci) (fun k => (xtyL.getD ci []).getD k .int) (tys_at hci) hown (hts _ (wAt_in w1)) (hts _ (wAt_in w2)) (hts _ (wAt_in w3)) hE.1 hP hD hS hA (xcl_at hci) (fun j hj => ?_) (by omega) (by omega) hdg (fun q H1 hP1 hD1 hS1 => ?_)
  · have hj2 : j < (xtyL.getD ci []).length := by rw [lenT hci]; exact hj
    exact df_at _ hj2
  · refine W.widen (k := c2) (n := s2) h1 (by omega) ?_
    exact kk q H1 ⟨hP1, hE, hD1, hS1, hA⟩
end MKR
/-- what a constructor does: of its cells it makes others -/
def Ctor (l : Launch) (D : va_G) (cs : Nat → ClassId) (y : MethodName) (bb : ByteArray) (mL : Nat) (rm : Room) (av : List Value) (pre : Nat → va_W) (post : (Nat → Nat) → va_W) (EX : Nat → State → Prop) : Prop := ∀ a sz, Met l y (.code y bb mL none :: tblG) rm (va_Pc (.ref a :: av) (fun U => U.heap.size = sz ∧ va_P D xcl (pre a) U.heap ∧ mkE D cs U ∧ va_D (fun _ => True) (pre a) ∧ EX a U)) (va_Qv (fun r : Nat → Nat => r 0 = a) (fun r t => va_P D xcl (post r) t.heap ∧ va_D (va_A (pre a) sz) (post r)) (va_A (pre a) sz)) rm.cells rm.slots (va_A (pre a) sz)
section MKC
variable {p : Program} {l : Launch} {e : Env} {R : Room} {s : State} {m : MethodId} {args : Array Value} {below : List Frame} {meth : Method} {c : Code} {H : Heap} {locs : List Loc} {cells slots : Nat} {Q : State → Prop}
variable {cc : ByteArray} {pc : Nat} {ls : Array Slot} {rest : List Value} {D : va_G} {cs : Nat → ClassId} {A : Nat → Prop} {wr : va_W} {own : String} {nL : Nat}
variable {y : MethodName} {bb : ByteArray} {mL : Nat} {rm : Room} {av : List Value} {pre : Nat → va_W} {post : (Nat → Nat) → va_W} {EX : Nat → State → Prop}
theorem app_R {α : Type} {a b : List α} {k : Nat} {q : α} (h : b[k]? = some q) : (a ++ b)[a.length + k]? = some q := by
  rw [List.getElem?_append_right (by omega), Nat.add_sub_cancel_left]
  exact h
theorem app_L {α : Type} {a b : List α} {k : Nat} {q : α} (h : a[k]? = some q) : (a ++ b)[k]? = some q := by
  rw [List.getElem?_append_left (List.getElem?_eq_some_iff.mp h).1]
  exact h
theorem mk_back {a : Nat} {c2 s2 : Nat} {st0 : List Value} (Wl : mkW D cs A s (wr ++ pre a) H locs) (h1 : cells + rm.cells ≤ c2) (h3 : slots + rm.slots ≤ s2)
    (hr : va_Run p l e R s m args below meth c H locs cells slots rm.cells rm.slots (F0 m pc ls st0) rest (va_Qv (fun r : Nat → Nat => r 0 = a) (fun r t => va_P D xcl (post r) t.heap ∧ va_D (va_A (pre a) H.size) (post r)) (va_A (pre a) H.size) (Value.ref a :: av).toArray) (va_A (pre a) H.size))
    (kk : ∀ r H1 locs1, r 0 = a → mkW D cs A s (wr ++ post r) H1 locs1 → W p l e R s m args below meth c H1 locs1 c2 s2 Q (F0 m (pc + 3) ls rest)) : W p l e R s m args below meth c H locs cells slots Q (F0 m pc ls st0) := by
  obtain ⟨hP, hE, hD, hS, hA⟩ := Wl
  have hF : ∀ q, va_A (pre a) H.size q → A q := by
    rintro q (⟨k, e9, hk⟩ | hq)
    · exact hD.2 _ _ (app_R hk)
    · exact hA q (Nat.le_trans hS.1 hq)
  refine va_callv hr hS (fun q _ h => hF q h) hF (fun r t H1 locs1 ht hvm h5 hB hz1 hk1 hS1 => ?_)
  obtain ⟨hP1, hD1⟩ := hB
  rw [ht] at hP1
  have apart : ∀ (k : Nat) (q : Nat × va_E), wr[k]? = some q → q.1 < H.size ∧ ¬ va_A (pre a) H.size q.1 := by
    intro k q hq
    have hl := (hP k q (app_L hq)).lt
    refine ⟨hl, ?_⟩
    rintro (⟨k2, e9, h9⟩ | h9)
    · have := hD.1 k (wr.length + k2) q (q.1, e9) (app_L hq) (app_R h9) rfl
      have := (List.getElem?_eq_some_iff.mp hq).1
      omega
    · omega
  refine W.widen (k := c2) (n := s2) h1 h3 (kk r H1 locs1 h5 ⟨va_P.app (fun k q hq => ?_) hP1, hE, va_D.app ⟨fun i j x y hx hy hxy => hD.1 i j x y (app_L hx) (app_L hy) hxy, fun k q hq => hD.2 k q (app_L hq)⟩ (hD1.weaken (fun k q _ h => hF q.1 h)) (fun i j x y hx hy hxy => ?_), hS1, hA⟩)
  · obtain ⟨g1, g2⟩ := apart k q hq
    exact (hP k q (app_L hq)).kept (hk1 q.1 g1 g2)
  · exact (apart i x hx).2 (by rw [hxy]; exact hD1.2 j y hy)
theorem tblG_good {p1 : Nat} (hw : wAt p1 (.code y bb mL none) = true) : GoodIn tblG (.code y bb mL none :: tblG) := by
  intro w h
  have hg : ∀ w ∈ tblG, GoodIn tblG [w] := fun w hw2 w9 h9 => by
    cases List.mem_singleton.mp h9
    exact ⟨hw2, good_of_word (List.mem_filter.mp hw2).2⟩
  rcases List.mem_cons.mp h with rfl | h
  · exact hg _ (wAt_in hw) _ List.mem_cons_self
  · exact hg w h w List.mem_cons_self
/-- a constructor called -/
theorem mk_call (C : mkC p s m args c cc own nL) (hM : Ctor l D cs y bb mL rm av pre post EX) {a : Nat} {c2 s2 p0 p1 p2 p3 idx : Nat} (Wl : mkW D cs A s (wr ++ pre a) H locs) (hEb : ∀ (a9 : Array Value) U g mk, EX a U → EX a (U.calling g mk a9)) (hE : ∀ U : State, U.heap = H → s.WarmedH U.vm → EX a U) (hR : rm.frames + 1 ≤ R.frames ∧ 8 + (mL + 11) + rm.locals ≤ R.locals) (hy : y.name = "<init>") (hd : y.cls ≠ "java/lang/invoke/MethodHandle" ∧ y.cls ≠ "java/lang/invoke/VarHandle" ∧ (parseMethodDescriptor y.desc).map (fun d => d.parameters.length) = some av.length)
    (w0 : wAt p0 (.code y bb mL none) = true) (w1 : wAt p1 (.methodLink own idx y) = true) (w2 : wAt p2 (.instanceMethod y) = true) (w3 : wAt p3 (.initialized y.cls) = true) (hsz : ls.size = nL) (hst : (rest.map fun v => v.category).sum ≤ 8) (hdg : decode cc pc = .ok (.invokespecial idx, 3)) (h1 : cells + rm.cells ≤ c2) (h2 : c2 ≤ R.cells) (h3 : slots + rm.slots ≤ s2) (h4 : s2 ≤ R.slots)
    (kk : ∀ r H1 locs1, r 0 = a → mkW D cs A s (wr ++ post r) H1 locs1 → W p l e R s m args below meth c H1 locs1 c2 s2 Q (F0 m (pc + 3) ls rest)) : W p l e R s m args below meth c H locs cells slots Q (F0 m pc ls (av.reverse ++ .ref a :: rest)) := by
  obtain ⟨hx, hb, hml, hown, hts⟩ := C
  refine mk_back (av := av) Wl h1 h3 ?_ kk
  obtain ⟨hP, hE0, hD, hS, hA⟩ := Wl
  exact va_runI (As := av) (rest := rest) ⟨hx, hb, hml, hown, hts⟩ (hM a H.size) (cwI av.length hts (tblG_good w0) rfl rfl rfl (hts _ (wAt_in w3)) (hts _ (wAt_in w1)) (hts _ (wAt_in w2)) hy hd hR) ⟨fun a9 U g mk q => by obtain ⟨q0, q1, qP, qK, qD, qE⟩ := q; exact ⟨q0, q1, qP, qK.same rfl, qD, hEb _ _ _ _ qE⟩, fun U hU hW => ⟨rfl, by rw [hU], by rw [hU]; exact fun k q hk => hP _ q (app_R hk), hE0.warm hW, ⟨fun i j x y hx hy hxy => by have := hD.1 _ _ x y (app_R hx) (app_R hy) hxy; omega, fun _ _ _ => trivial⟩, hE U hU hW⟩⟩ rfl rfl hsz rfl (lv_room hst) hdg ⟨by omega, by omega⟩
/-- a private constructor of a nest mate called -/
theorem mk_calN (C : mkC p s m args c cc own nL) (hM : Ctor l D cs y bb mL rm av pre post EX) {a : Nat} {host : String} {c2 s2 p0 p2 p3 idx : Nat} (Wl : mkW D cs A s (wr ++ pre a) H locs) (hEb : ∀ (a9 : Array Value) U g mk, EX a U → EX a (U.calling g mk a9)) (hE : ∀ U : State, U.heap = H → s.WarmedH U.vm → EX a U) (hR : rm.frames + 1 ≤ R.frames ∧ 8 + (mL + 11) + rm.locals ≤ R.locals) (hy : y.name = "<init>") (hd : y.cls ≠ "java/lang/invoke/MethodHandle" ∧ y.cls ≠ "java/lang/invoke/VarHandle" ∧ (parseMethodDescriptor y.desc).map (fun d => d.parameters.length) = some av.length)
    (w0 : wAt p0 (.code y bb mL none) = true) (w1 : va_Nw (.methodLinkNest own idx y host) s) (w2 : wAt p2 (.instanceMethod y) = true) (w3 : wAt p3 (.initialized y.cls) = true) (hsz : ls.size = nL) (hst : (rest.map fun v => v.category).sum ≤ 8) (hdg : decode cc pc = .ok (.invokespecial idx, 3)) (h1 : cells + rm.cells ≤ c2) (h2 : c2 ≤ R.cells) (h3 : slots + rm.slots ≤ s2) (h4 : s2 ≤ R.slots)
    (kk : ∀ r H1 locs1, r 0 = a → mkW D cs A s (wr ++ post r) H1 locs1 → W p l e R s m args below meth c H1 locs1 c2 s2 Q (F0 m (pc + 3) ls rest)) : W p l e R s m args below meth c H locs cells slots Q (F0 m pc ls (av.reverse ++ .ref a :: rest)) := by
  obtain ⟨hx, hb, hml, hown, hts⟩ := C
  refine mk_back (av := av) Wl h1 h3 ?_ kk
  obtain ⟨hP, hE0, hD, hS, hA⟩ := Wl
  exact va_runIN (As := av) (rest := rest) ⟨hx, hb, hml, hown, hts⟩ (hM a H.size) ⟨va_cnB av.length hts (tblG_good w0) rfl rfl rfl w1 (hts _ (wAt_in w3)) hd hR, hy, hts _ (wAt_in w2)⟩ ⟨fun a9 U g mk q => by obtain ⟨q0, q1, qP, qK, qD, qE⟩ := q; exact ⟨q0, q1, qP, qK.same rfl, qD, hEb _ _ _ _ qE⟩, fun U hU hW => ⟨rfl, by rw [hU], by rw [hU]; exact fun k q hk => hP _ q (app_R hk), hE0.warm hW, ⟨fun i j x y hx hy hxy => by have := hD.1 _ _ x y (app_R hx) (app_R hy) hxy; omega, fun _ _ _ => trivial⟩, hE U hU hW⟩⟩ rfl rfl hsz rfl (lv_room hst) hdg ⟨by omega, by omega⟩
/-- a constructor's contract out of a walk of its body -/
theorem mk_met (hy : plainName y.cls = true) (hy2 : y.name = "<init>") (hav : (lg_sl (Value.ref 0 :: av)).length ≤ mL)
    (body : ∀ (p : Program) (e : Env) (s : State) (m : MethodId) (args : Array Value) (below : List Frame) (meth : Method) (c : Code) (a : Nat) (A : Nat → Prop) (ls : Array Slot) (Q : State → Prop), mkC p s m args c bb y.cls mL → meth.name = "<init>" → mkW D cs A s (pre a) s.heap [] → EX a s → (∀ q, A q → va_A (pre a) s.heap.size q) → lv_has ls mL (lv_args 0 (.ref a :: av)) →
      (∀ H locs r pc ls2, mkW D cs A s (post r) H locs → r 0 = a → decode bb pc = .ok (.return_, 1) → W p l e rm s m args below meth c H locs rm.cells rm.slots Q (F0 m pc ls2 [])) → W p l e rm s m args below meth c s.heap [] 0 0 Q (F0 m 0 ls [])) : Ctor l D cs y bb mL rm av pre post EX := by
  intro a sz
  refine Met.ofW (cc := bb) (maxL := mL) (ret := none) hy rfl ?_
  intro p e s m args below meth c s₁ B hml hv
  obtain ⟨rfl, hsz, hP, hE, hD0, hX⟩ := hv
  have hx := B.exec
  have hb := B.bytes
  have hr := B.returns
  have hts := atoms_spec (ws := .code y bb mL none :: tblG) B.pre
  have hown : s.vm.findClass y.cls = some m.cls := findClass_of_methodNamed B.named
  have hlocks := B.notSynchronized
  have hin : meth.name = y.name := (name_of_methodNamed B.named B.method).1
  subst hsz
  have hD := hD0.self (sz := s.heap.size)
  have hl := lv_entry (.ref a :: av) (n := mL) hav
  rw [lg_entry_eq]
  generalize (lg_sl (Value.ref a :: av) ++ List.replicate (mL - (lg_sl (Value.ref a :: av)).length) Slot.unset).toArray = ls at hl ⊢
  refine body p e s m _ below meth c a _ ls _ ⟨hx, hb, hml, hown, fun w hw => hts w (List.mem_cons_of_mem _ hw)⟩ (hin.trans hy2) ⟨hP, hE, hD, va_S.rf, fun q h => Or.inr h⟩ hX (fun _ h9 => h9) hl (fun H locs r pc ls2 Wl h0 hdg => ?_)
  obtain ⟨hP9, hE9, hD9, hS9, -⟩ := Wl
  exact W.vret hx hb hr (fun t ht hW => ⟨⟨r, rfl, h0, by rw [ht]; exact hP9, hD9⟩, hS9.F ht⟩) hS9.2.2 hdg
end MKC
