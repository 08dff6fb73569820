/-! THE CONSTRUCTORS, I: worlds that grow -/
abbrev tysx (cs : Nat → ClassId) : List (ClassId × FieldType) := [(cs 13, .int), (cs 14, .boolean), (cs 15, .object "CellRows$Plan"), (cs 16, .array .int)]
/-- what the tables say that is no word of a contract: two links of nest mates, two classes of arrays, one cast -/
def mkE (D : va_G) (cs : Nat → ClassId) (U : State) : Prop := va_K D xcl (tysx cs) U ∧ va_Nw (.methodLinkNest "CellRows$Plan" 25 ⟨"CellRows$Cells", "<init>", "()V"⟩ "CellRows") U ∧ va_Nw (.methodLinkNest "CellRows$Plan" 32 ⟨"CellRows$Nets", "<init>", "()V"⟩ "CellRows") U ∧ va_AO "CellRows$Plan" U ∧ va_Nw (.arrayOver (.array .int)) U ∧ va_Nw (.castable "[I" "java/lang/Cloneable") U
theorem ao_moved {u U : State} (hvm : u.vm.Alike U.vm) (h : va_Nw (.arrayOver (.array .int)) u) : va_Nw (.arrayOver (.array .int)) U := by
  obtain ⟨comp, c, k, h1, h2, h3, h4, h5⟩ := arrayOverA_spec h
  obtain ⟨k', hk', he⟩ := hvm.2.2 _ _ h3
  have hi : (U.vm.classes.findIdx? fun (x : Class) => match x.kind with | .array component _ => component == comp | _ => false) = some c := by
    rw [← va_idx_bare]
    first | rw [hvm.bare_eq] | rw [← hvm.bare_eq]
    rw [va_idx_bare]
    exact h2
  have hkind : k'.kind = .array comp (.array .int) := by rw [he]; exact h4
  have f1 : U.vm.findClass (FieldType.array .int).toString = some comp := by rw [hvm.findClass]; exact h1
  have f2 : U.vm.findClass ("[" ++ (FieldType.array .int).toString) = some c := by rw [hvm.findClass]; exact h5
  unfold va_Nw Cond.before Cond.holds
  simp only [Cond.value]
  rw [f1, Option.bind_some]
  refine (congrArg (fun o : Option Nat => (o.bind (fun c => (U.vm.classes[c]?).map fun (k : Class) => match k.kind with | .array _ ty => decide (ty = FieldType.array .int) && decide (U.vm.findClass ("[" ++ (FieldType.array .int).toString) = some c) | _ => false) == some true)) hi).trans ?_
  simp [hk', hkind, f2]
theorem mkE.warm {D : va_G} {cs : Nat → ClassId} {s U : State} (hW : s.WarmedH U.vm) (h : mkE D cs s) : mkE D cs U :=
  ⟨va_K.moved hW.alike h.1, va_Nw.warmM hW h.2.1, va_Nw.warmM hW h.2.2.1, va_AO.moved hW.alike h.2.2.2.1, ao_moved hW.alike h.2.2.2.2.1, va_Nw.warmC hW h.2.2.2.2.2⟩
theorem mkE.same {D : va_G} {cs : Nat → ClassId} {s U : State} (hv : s.vm = U.vm) (h : mkE D cs s) : mkE D cs U :=
  ⟨va_K.moved (by rw [hv]; exact Vm.Alike.refl _) h.1, va_Nw.same rfl hv h.2.1, va_Nw.same rfl hv h.2.2.1, va_AO.moved (by rw [hv]; exact Vm.Alike.refl _) h.2.2.2.1, ao_moved (by rw [hv]; exact Vm.Alike.refl _) h.2.2.2.2.1, va_Nw.same rfl hv h.2.2.2.2.2⟩
def mkC (p : Program) (s : State) (m : MethodId) (args : Array Value) (c : Code) (cc : ByteArray) (own : String) (mL : Nat) : Prop := p.tables.exec = Jvm.exec ∧ c.code = cc ∧ c.maxLocals = mL ∧ s.vm.findClass own = some m.cls ∧ ∀ w ∈ tblG, w.before args s = true
def mkW (D : va_G) (cs : Nat → ClassId) (A : Nat → Prop) (s : State) (ws : va_W) (H : Heap) (locs : List Loc) : Prop := va_P D xcl ws H ∧ mkE D cs s ∧ va_D A ws ∧ va_S A s.heap H locs ∧ ∀ q, s.heap.size ≤ q → A q
/-- a new row of numbers, a new row of truths, a new object -/
abbrev aI (cs : Nat → ClassId) (n : Nat) : va_E := .inl (cs 13, n, .inl (fun _ => Int32.ofInt 0))
abbrev aZ (cs : Nat → ClassId) (n : Nat) : va_E := .inl (cs 14, n, .inl (fun _ => Int32.ofInt 0))
abbrev nO (ci : Nat) : va_E := .inr (ci, (xtyL.getD ci []).map defaultValue)
theorem lenT {ci : Nat} (h : ci < 13) : (xtyL.getD ci []).length = (xFl.getD ci []).length := by
  have : ∀ ci, ci < 13 → (xtyL.getD ci []).length = (xFl.getD ci []).length := by decide +kernel
  exact this ci h
theorem df_at (L : List FieldType) {j : Nat} (h : j < L.length) : defaultValue (L.getD j .int) = (L.map defaultValue).getD j .null := by
  rw [List.getD_eq_getElem?_getD, List.getD_eq_getElem?_getD, List.getElem?_map, List.getElem?_eq_getElem h]
  rfl
section MKR
variable {p : Program} {l : Launch} {e : Env} {R : Room} {s : State} {m : MethodId} {args : Array Value} {below : List Frame} {meth : Method} {c : Code} {H : Heap} {locs : List Loc} {cells slots : Nat} {Q : State → Prop}
variable {cc : ByteArray} {pc : Nat} {ls : Array Slot} {rest : List Value} {D : va_G} {cs : Nat → ClassId} {A : Nat → Prop} {ws : va_W} {own : String} {mL : Nat}
/-- Object's own constructor -/
theorem mk_obj (C : mkC p s m args c cc own mL) {p1 idx a : Nat} (w1 : wAt p1 (.methodLink own idx objectInit) = true) (hsz : ls.size = mL) (h1 : 1 ≤ R.frames) (h2 : (rest.map fun v => v.category).sum + 12 ≤ R.locals) (hdg : decode cc pc = .ok (.invokespecial idx, 3))
    (kk : W p l e R s m args below meth c H locs cells slots Q (F0 m (pc + 3) ls rest)) : W p l e R s m args below meth c H locs cells slots Q (F0 m pc ls (.ref a :: rest)) := by
  obtain ⟨hx, hb, hml, hown, hts⟩ := C
  refine W.objInit hx hb hown (hts _ (wAt_in w1)) (hts _ (wAt_in (p := 2070) (by decide +kernel))) (hts _ (wAt_in (p := 2071) (by decide +kernel))) rfl (by rw [hml]; exact hsz) rfl hdg h1 (by show 2 * 0 + _ + 12 ≤ _; omega) ?_
  exact kk
/-- a field written -/
theorem mk_put (C : mkC p s m args c cc own mL) (hin2 : meth.name = "<init>") (Wl : mkW D cs A s ws H locs) {ci : Nat} (hci : ci < 13) (hon : xcnL.getD ci "" = own) (q0 : Nat) {a : Nat} {fs : List Value} (he : ws[q0]? = some (a, .inr (ci, fs))) (k : Nat) (hk : k < (xFl.getD ci []).length) {p1 idx : Nat} (w1 : wAt p1 (.fieldLink own idx (xfl ci k).1 (xfl ci k).2.1 (xfl ci k).2.2.1) = true) (hdc : (xfl ci k).1 = own) {ty : FieldType} {v : Value} (hd : parseFieldDescriptor (xfl ci k).2.2.1 = some ty) (hn : narrow ty v = v) (hf : fits ty v = true) (hl : k < fs.length) (hdg : decode cc pc = .ok (.putfield idx, 3))
    (kk : ∀ H1 locs1, mkW D cs A s (ws.set q0 (a, .inr (ci, fs.set k v))) H1 locs1 → W p l e R s m args below meth c H1 locs1 cells slots Q (F0 m (pc + 3) ls rest)) : W p l e R s m args below meth c H locs cells slots Q (F0 m pc ls (v :: .ref a :: rest)) := by
  obtain ⟨hx, hb, hml, hown, hts⟩ := C
  obtain ⟨hP, hE, hD, hS, hA⟩ := Wl
  cases hfin : (xfl ci k).2.2.2 with
  | true => exact va_putF (D := D) (ci := ci) (v := v) (ty := ty) (C := xcnL.getD ci "") (T := xfl ci) (N := (xFl.getD ci []).length) hx hb hts (uws_in hci) (fun k => (xtyL.getD ci []).getD k .int) (tys_at hci) (nm_at hci) hown hE.1 hP hD hS q0 he (xcl_at hci) k hk (hts _ (wAt_in w1)) (fun _ h9 => h9) hfin hin2 hdc hd hn hf hl hdg (fun H1 locs1 hP1 hD1 hS1 => kk H1 locs1 ⟨hP1, hE, hD1, hS1, hA⟩)
  | false => exact va_put (D := D) (ci := ci) (v := v) (ty := ty) (C := xcnL.getD ci "") (T := xfl ci) (N := (xFl.getD ci []).length) hx hb hts (uws_in hci) (fun k => (xtyL.getD ci []).getD k .int) (tys_at hci) (nm_at hci) hown hE.1 hP hD hS q0 he (xcl_at hci) k hk (hts _ (wAt_in w1)) (fun _ h9 => h9) hfin hd hn hf hl hdg (fun H1 locs1 hP1 hD1 hS1 => kk H1 locs1 ⟨hP1, hE, hD1, hS1, hA⟩)
/-- a field read -/
theorem mk_get (C : mkC p s m args c cc own mL) (Wl : mkW D cs A s ws H locs) {ci : Nat} (hci : ci < 13) (q0 : Nat) {a : Nat} {fs : List Value} (he : ws[q0]? = some (a, .inr (ci, fs))) (k : Nat) (hk : k < (xFl.getD ci []).length) {p1 idx : Nat} (w1 : wAt p1 (.fieldLink own idx (xfl ci k).1 (xfl ci k).2.1 (xfl ci k).2.2.1) = true) {v : Value} (hv : fs[k]? = some v) (hdg : decode cc pc = .ok (.getfield idx, 3))
    (kk : W p l e R s m args below meth c H locs cells slots Q (F0 m (pc + 3) ls (v :: rest))) : W p l e R s m args below meth c H locs cells slots Q (F0 m pc ls (.ref a :: rest)) := by
  obtain ⟨hx, hb, hml, hown, hts⟩ := C
  obtain ⟨hP, hE, hD, hS, hA⟩ := Wl
  exact va_get (D := D) (ci := ci) (v := v) (C := xcnL.getD ci "") (T := xfl ci) (N := (xFl.getD ci []).length) hx hb hts (uws_in hci) hown hE.1 hP q0 he (xcl_at hci) k hk (hts _ (wAt_in w1)) (fun _ h9 => h9) hv hdg kk
/-- a row made -/
theorem mk_arr (C : mkC p s m args c cc own mL) (Wl : mkW D cs A s ws H locs) {n : Int32} {N nm c2 s2 : Nat} (hn : ¬ n < 0) (hN : n.toNatClampNeg = N) (hm : N ≤ nm) (hmm : nm ≤ 10000) (h1 : cells + 1 ≤ c2) (h2 : c2 ≤ R.cells) (h3 : slots + nm ≤ s2) (h4 : s2 ≤ R.slots) (hdg : decode cc pc = .ok (.newarray .int, 2))
    (kk : ∀ q H1, mkW D cs A s (ws ++ [(q, aI cs N)]) H1 locs → W p l e R s m args below meth c H1 locs c2 s2 Q (F0 m (pc + 2) ls (.ref q :: rest))) : W p l e R s m args below meth c H locs cells slots Q (F0 m pc ls (.int n :: rest)) := by
  obtain ⟨hx, hb, hml, hown, hts⟩ := C
  obtain ⟨hP, hE, hD, hS, hA⟩ := Wl
  refine va_newa (atype := .int) (ty := .int) hx hb (hts _ (wAt_in (p := 2128) (by decide +kernel))) rfl hE.1 hP hD hS hA (a0 := (N, .inl (fun _ => Int32.ofInt 0))) (fun cA => rfl) hn hN (by show N * 4 ≤ _; omega) (by omega) (by omega) hdg (fun q cA H1 hK1 hP1 hD1 hS1 => ?_)
  have e1 : s.vm.findClass "[I" = some cA := (hK1.2 4 _ rfl).2
  have e2 : s.vm.findClass "[I" = some (cs 13) := (hE.1.2 0 _ rfl).2
  cases e1.symm.trans e2
  refine W.widen (k := c2) (n := s2) h1 (by omega) ?_
  exact kk q H1 ⟨hP1, hE, hD1, hS1, hA⟩
theorem mk_arz (C : mkC p s m args c cc own mL) (Wl : mkW D cs A s ws H locs) {n : Int32} {N nm c2 s2 : Nat} (hn : ¬ n < 0) (hN : n.toNatClampNeg = N) (hm : N ≤ nm) (hmm : nm ≤ 10000) (h1 : cells + 1 ≤ c2) (h2 : c2 ≤ R.cells) (h3 : slots + nm ≤ s2) (h4 : s2 ≤ R.slots) (hdg : decode cc pc = .ok (.newarray .boolean, 2))
    (kk : ∀ q H1, mkW D cs A s (ws ++ [(q, aZ cs N)]) H1 locs → W p l e R s m args below meth c H1 locs c2 s2 Q (F0 m (pc + 2) ls (.ref q :: rest))) : W p l e R s m args below meth c H locs cells slots Q (F0 m pc ls (.int n :: rest)) := by
  obtain ⟨hx, hb, hml, hown, hts⟩ := C
  obtain ⟨hP, hE, hD, hS, hA⟩ := Wl
  refine va_newa (atype := .boolean) (ty := .boolean) hx hb (hts _ (wAt_in (p := 2202) (by decide +kernel))) rfl hE.1 hP hD hS hA (a0 := (N, .inl (fun _ => Int32.ofInt 0))) (fun cA => rfl) hn hN (by show N * 1 ≤ _; omega) (by omega) (by omega) hdg (fun q cA H1 hK1 hP1 hD1 hS1 => ?_)
  have e1 : s.vm.findClass "[Z" = some cA := (hK1.2 4 _ rfl).2
  have e2 : s.vm.findClass "[Z" = some (cs 14) := (hE.1.2 1 _ rfl).2
  cases e1.symm.trans e2
  refine W.widen (k := c2) (n := s2) h1 (by omega) ?_
  exact kk q H1 ⟨hP1, hE, hD1, hS1, hA⟩
/-- an object made -/
theorem mk_new (C : mkC p s m args c cc own mL) (Wl : mkW D cs A s ws H locs) (ci : Nat) (hci : ci < 13) {nam : String} (hon : xcnL.getD ci "" = nam) {N p1 p2 p3 idx c2 s2 : Nat} (hN : (xFl.getD ci []).length = N) (w1 : wAt p1 (.classLink own idx nam) = true) (w2 : wAt p2 (.instantiable nam N) = true) (w3 : wAt p3 (.initialized nam) = true) (h1 : cells + 1 ≤ c2) (h2 : c2 ≤ R.cells) (h3 : slots + N ≤ s2) (h4 : s2 ≤ R.slots) (hdg : decode cc pc = .ok (.new idx, 3))
    (kk : ∀ q H1, mkW D cs A s (ws ++ [(q, nO ci)]) H1 locs → W p l e R s m args below meth c H1 locs c2 s2 Q (F0 m (pc + 3) ls (.ref q :: rest))) : W p l e R s m args below meth c H locs cells slots Q (F0 m pc ls rest) := by
  obtain ⟨hx, hb, hml, hown, hts⟩ := C
  obtain ⟨hP, hE, hD, hS, hA⟩ := Wl
  subst hN
  subst hon
  refine va_new (ci := ci) (fs := (xtyL.getD ci []).map defaultValue) (C := xcnL.getD ci "") (T := xfl ci) (N := (xFl.getD ci []).length) hx hb hts (uws_in hci) (fun k => (xtyL.getD ci []).getD k .int) (tys_at hci) hown (hts _ (wAt_in w1)) (hts _ (wAt_in w2)) (hts _ (wAt_in w3)) hE.1 hP hD hS hA (xcl_at hci) (fun j hj => ?_) (by omega) (by omega) hdg (fun q H1 hP1 hD1 hS1 => ?_)
  · have hj2 : j < (xtyL.getD ci []).length := by rw [lenT hci]; exact hj
    exact df_at _ hj2
  · refine W.widen (k := c2) (n := s2) h1 (by omega) ?_
    exact kk q H1 ⟨hP1, hE, hD1, hS1, hA⟩
end MKR
/-- what a constructor does: of its cells it makes others -/
def Ctor (l : Launch) (D : va_G) (cs : Nat → ClassId) (y : MethodName) (bb : ByteArray) (mL : Nat) (rm : Room) (av : List Value) (pre : Nat → va_W) (post : (Nat → Nat) → va_W) (EX : Nat → State → Prop) : Prop := ∀ a sz, Met l y (.code y bb mL none :: tblG) rm (va_Pc (.ref a :: av) (fun U => U.heap.size = sz ∧ va_P D xcl (pre a) U.heap ∧ mkE D cs U ∧ va_D (fun _ => True) (pre a) ∧ EX a U)) (va_Qv (fun r : Nat → Nat => r 0 = a) (fun r t => va_P D xcl (post r) t.heap ∧ va_D (va_A (pre a) sz) (post r)) (va_A (pre a) sz)) rm.cells rm.slots (va_A (pre a) sz)
section MKC
variable {p : Program} {l : Launch} {e : Env} {R : Room} {s : State} {m : MethodId} {args : Array Value} {below : List Frame} {meth : Method} {c : Code} {H : Heap} {locs : List Loc} {cells slots : Nat} {Q : State → Prop}
variable {cc : ByteArray} {pc : Nat} {ls : Array Slot} {rest : List Value} {D : va_G} {cs : Nat → ClassId} {A : Nat → Prop} {wr : va_W} {own : String} {nL : Nat}
variable {y : MethodName} {bb : ByteArray} {mL : Nat} {rm : Room} {av : List Value} {pre : Nat → va_W} {post : (Nat → Nat) → va_W} {EX : Nat → State → Prop}
theorem app_R {α : Type} {a b : List α} {k : Nat} {q : α} (h : b[k]? = some q) : (a ++ b)[a.length + k]? = some q := by
  rw [List.getElem?_append_right (by omega), Nat.add_sub_cancel_left]
  exact h
theorem app_L {α : Type} {a b : List α} {k : Nat} {q : α} (h : a[k]? = some q) : (a ++ b)[k]? = some q := by
  rw [List.getElem?_append_left (List.getElem?_eq_some_iff.mp h).1]
  exact h
theorem mk_back {a : Nat} {c2 s2 : Nat} {st0 : List Value} (Wl : mkW D cs A s (wr ++ pre a) H locs) (h1 : cells + rm.cells ≤ c2) (h3 : slots + rm.slots ≤ s2)
    (hr : va_Run p l e R s m args below meth c H locs cells slots rm.cells rm.slots (F0 m pc ls st0) rest (va_Qv (fun r : Nat → Nat => r 0 = a) (fun r t => va_P D xcl (post r) t.heap ∧ va_D (va_A (pre a) H.size) (post r)) (va_A (pre a) H.size) (Value.ref a :: av).toArray) (va_A (pre a) H.size))
    (kk : ∀ r H1 locs1, r 0 = a → mkW D cs A s (wr ++ post r) H1 locs1 → W p l e R s m args below meth c H1 locs1 c2 s2 Q (F0 m (pc + 3) ls rest)) : W p l e R s m args below meth c H locs cells slots Q (F0 m pc ls st0) := by
  obtain ⟨hP, hE, hD, hS, hA⟩ := Wl
  have hF : ∀ q, va_A (pre a) H.size q → A q := by
    rintro q (⟨k, e9, hk⟩ | hq)
    · exact hD.2 _ _ (app_R hk)
    · exact hA q (Nat.le_trans hS.1 hq)
  refine va_callv hr hS (fun q _ h => hF q h) hF (fun r t H1 locs1 ht hvm h5 hB hz1 hk1 hS1 => ?_)
  obtain ⟨hP1, hD1⟩ := hB
  rw [ht] at hP1
  have apart : ∀ (k : Nat) (q : Nat × va_E), wr[k]? = some q → q.1 < H.size ∧ ¬ va_A (pre a) H.size q.1 := by
    intro k q hq
    have hl := (hP k q (app_L hq)).lt
    refine ⟨hl, ?_⟩
    rintro (⟨k2, e9, h9⟩ | h9)
    · have := hD.1 k (wr.length + k2) q (q.1, e9) (app_L hq) (app_R h9) rfl
      have := (List.getElem?_eq_some_iff.mp hq).1
      omega
    · omega
  refine W.widen (k := c2) (n := s2) h1 h3 (kk r H1 locs1 h5 ⟨va_P.app (fun k q hq => ?_) hP1, hE, va_D.app ⟨fun i j x y hx hy hxy => hD.1 i j x y (app_L hx) (app_L hy) hxy, fun k q hq => hD.2 k q (app_L hq)⟩ (hD1.weaken (fun k q _ h => hF q.1 h)) (fun i j x y hx hy hxy => ?_), hS1, hA⟩)
  · obtain ⟨g1, g2⟩ := apart k q hq
    exact (hP k q (app_L hq)).kept (hk1 q.1 g1 g2)
  · exact (apart i x hx).2 (by rw [hxy]; exact hD1.2 j y hy)
theorem tblG_good {p1 : Nat} (hw : wAt p1 (.code y bb mL none) = true) : GoodIn tblG (.code y bb mL none :: tblG) := by
  intro w h
  have hg : ∀ w ∈ tblG, GoodIn tblG [w] := fun w hw2 w9 h9 => by
    cases List.mem_singleton.mp h9
    exact ⟨hw2, good_of_word (List.mem_filter.mp hw2).2⟩
  rcases List.mem_cons.mp h with rfl | h
  · exact hg _ (wAt_in hw) _ List.mem_cons_self
  · exact hg w h w List.mem_cons_self
/-- a constructor called -/
theorem mk_call (C : mkC p s m args c cc own nL) (hM : Ctor l D cs y bb mL rm av pre post EX) {a : Nat} {c2 s2 p0 p1 p2 p3 idx : Nat} (Wl : mkW D cs A s (wr ++ pre a) H locs) (hEb : ∀ (a9 : Array Value) U g mk, EX a U → EX a (U.calling g mk a9)) (hE : ∀ U : State, U.heap = H → s.WarmedH U.vm → EX a U) (hR : rm.frames + 1 ≤ R.frames ∧ 8 + (mL + 11) + rm.locals ≤ R.locals) (hy : y.name = "<init>") (hd : y.cls ≠ "java/lang/invoke/MethodHandle" ∧ y.cls ≠ "java/lang/invoke/VarHandle" ∧ (parseMethodDescriptor y.desc).map (fun d => d.parameters.length) = some av.length)
    (w0 : wAt p0 (.code y bb mL none) = true) (w1 : wAt p1 (.methodLink own idx y) = true) (w2 : wAt p2 (.instanceMethod y) = true) (w3 : wAt p3 (.initialized y.cls) = true) (hsz : ls.size = nL) (hst : (rest.map fun v => v.category).sum ≤ 8) (hdg : decode cc pc = .ok (.invokespecial idx, 3)) (h1 : cells + rm.cells ≤ c2) (h2 : c2 ≤ R.cells) (h3 : slots + rm.slots ≤ s2) (h4 : s2 ≤ R.slots)
    (kk : ∀ r H1 locs1, r 0 = a → mkW D cs A s (wr ++ post r) H1 locs1 → W p l e R s m args below meth c H1 locs1 c2 s2 Q (F0 m (pc + 3) ls rest)) : W p l e R s m args below meth c H locs cells slots Q (F0 m pc ls (av.reverse ++ .ref a :: rest)) := by
  obtain ⟨hx, hb, hml, hown, hts⟩ := C
  refine mk_back (av := av) Wl h1 h3 ?_ kk
  obtain ⟨hP, hE0, hD, hS, hA⟩ := Wl
  exact va_runI (As := av) (rest := rest) ⟨hx, hb, hml, hown, hts⟩ (hM a H.size) (cwI av.length hts (tblG_good w0) rfl rfl rfl (hts _ (wAt_in w3)) (hts _ (wAt_in w1)) (hts _ (wAt_in w2)) hy hd hR) ⟨fun a9 U g mk q => by obtain ⟨q0, q1, qP, qK, qD, qE⟩ := q; exact ⟨q0, q1, qP, qK.same rfl, qD, hEb _ _ _ _ qE⟩, fun U hU hW => ⟨rfl, by rw [hU], by rw [hU]; exact fun k q hk => hP _ q (app_R hk), hE0.warm hW, ⟨fun i j x y hx hy hxy => by have := hD.1 _ _ x y (app_R hx) (app_R hy) hxy; omega, fun _ _ _ => trivial⟩, hE U hU hW⟩⟩ rfl rfl hsz rfl (lv_room hst) hdg ⟨by omega, by omega⟩
/-- a private constructor of a nest mate called -/
theorem mk_calN (C : mkC p s m args c cc own nL) (hM : Ctor l D cs y bb mL rm av pre post EX) {a : Nat} {host : String} {c2 s2 p0 p2 p3 idx : Nat} (Wl : mkW D cs A s (wr ++ pre a) H locs) (hEb : ∀ (a9 : Array Value) U g mk, EX a U → EX a (U.calling g mk a9)) (hE : ∀ U : State, U.heap = H → s.WarmedH U.vm → EX a U) (hR : rm.frames + 1 ≤ R.frames ∧ 8 + (mL + 11) + rm.locals ≤ R.locals) (hy : y.name = "<init>") (hd : y.cls ≠ "java/lang/invoke/MethodHandle" ∧ y.cls ≠ "java/lang/invoke/VarHandle" ∧ (parseMethodDescriptor y.desc).map (fun d => d.parameters.length) = some av.length)
    (w0 : wAt p0 (.code y bb mL none) = true) (w1 : va_Nw (.methodLinkNest own idx y host) s) (w2 : wAt p2 (.instanceMethod y) = true) (w3 : wAt p3 (.initialized y.cls) = true) (hsz : ls.size = nL) (hst : (rest.map fun v => v.category).sum ≤ 8) (hdg : decode cc pc = .ok (.invokespecial idx, 3)) (h1 : cells + rm.cells ≤ c2) (h2 : c2 ≤ R.cells) (h3 : slots + rm.slots ≤ s2) (h4 : s2 ≤ R.slots)
    (kk : ∀ r H1 locs1, r 0 = a → mkW D cs A s (wr ++ post r) H1 locs1 → W p l e R s m args below meth c H1 locs1 c2 s2 Q (F0 m (pc + 3) ls rest)) : W p l e R s m args below meth c H locs cells slots Q (F0 m pc ls (av.reverse ++ .ref a :: rest)) := by
  obtain ⟨hx, hb, hml, hown, hts⟩ := C
  refine mk_back (av := av) Wl h1 h3 ?_ kk
  obtain ⟨hP, hE0, hD, hS, hA⟩ := Wl
  exact va_runIN (As := av) (rest := rest) ⟨hx, hb, hml, hown, hts⟩ (hM a H.size) ⟨va_cnB av.length hts (tblG_good w0) rfl rfl rfl w1 (hts _ (wAt_in w3)) hd hR, hy, hts _ (wAt_in w2)⟩ ⟨fun a9 U g mk q => by obtain ⟨q0, q1, qP, qK, qD, qE⟩ := q; exact ⟨q0, q1, qP, qK.same rfl, qD, hEb _ _ _ _ qE⟩, fun U hU hW => ⟨rfl, by rw [hU], by rw [hU]; exact fun k q hk => hP _ q (app_R hk), hE0.warm hW, ⟨fun i j x y hx hy hxy => by have := hD.1 _ _ x y (app_R hx) (app_R hy) hxy; omega, fun _ _ _ => trivial⟩, hE U hU hW⟩⟩ rfl rfl hsz rfl (lv_room hst) hdg ⟨by omega, by omega⟩
/-- a constructor's contract out of a walk of its body -/
theorem mk_met (hy : plainName y.cls = true) (hy2 : y.name = "<init>") (hav : (lg_sl (Value.ref 0 :: av)).length ≤ mL)
    (body : ∀ (p : Program) (e : Env) (s : State) (m : MethodId) (args : Array Value) (below : List Frame) (meth : Method) (c : Code) (a : Nat) (A : Nat → Prop) (ls : Array Slot) (Q : State → Prop), mkC p s m args c bb y.cls mL → meth.name = "<init>" → mkW D cs A s (pre a) s.heap [] → EX a s → (∀ q, A q → va_A (pre a) s.heap.size q) → lv_has ls mL (lv_args 0 (.ref a :: av)) →
      (∀ H locs r pc ls2, mkW D cs A s (post r) H locs → r 0 = a → decode bb pc = .ok (.return_, 1) → W p l e rm s m args below meth c H locs rm.cells rm.slots Q (F0 m pc ls2 [])) → W p l e rm s m args below meth c s.heap [] 0 0 Q (F0 m 0 ls [])) : Ctor l D cs y bb mL rm av pre post EX := by
  intro a sz
  refine Met.ofW (cc := bb) (maxL := mL) (ret := none) hy rfl ?_
  intro p e s m args below meth c s₁ B hml hv
  obtain ⟨rfl, hsz, hP, hE, hD0, hX⟩ := hv
  have hx := B.exec
  have hb := B.bytes
  have hr := B.returns
  have hts := atoms_spec (ws := .code y bb mL none :: tblG) B.pre
  have hown : s.vm.findClass y.cls = some m.cls := findClass_of_methodNamed B.named
  have hlocks := B.notSynchronized
  have hin : meth.name = y.name := (name_of_methodNamed B.named B.method).1
  subst hsz
  have hD := hD0.self (sz := s.heap.size)
  have hl := lv_entry (.ref a :: av) (n := mL) hav
  rw [lg_entry_eq]
  generalize (lg_sl (Value.ref a :: av) ++ List.replicate (mL - (lg_sl (Value.ref a :: av)).length) Slot.unset).toArray = ls at hl ⊢
  refine body p e s m _ below meth c a _ ls _ ⟨hx, hb, hml, hown, fun w hw => hts w (List.mem_cons_of_mem _ hw)⟩ (hin.trans hy2) ⟨hP, hE, hD, va_S.rf, fun q h => Or.inr h⟩ hX (fun _ h9 => h9) hl (fun H locs r pc ls2 Wl h0 hdg => ?_)
  obtain ⟨hP9, hE9, hD9, hS9, -⟩ := Wl
  exact W.vret hx hb hr (fun t ht hW => ⟨⟨r, rfl, h0, by rw [ht]; exact hP9, hD9⟩, hS9.F ht⟩) hS9.2.2 hdg
end MKC
/-! A TABLE OF ROWS, MADE AT ONCE -/
def mzO (cA : ClassId) (N b i : Nat) : Cell := arrV cA N (fun j => if j < i then .ref (b + 1 + j) else .null)
def mzI (comp : ClassId) (K : Nat) : Cell := arrV comp K (fun _ => .int 0)
/-- the outer row and its first i inner rows -/
def mzS (U : State) (cA comp : ClassId) (N K : Nat) : Nat → State
  | 0 => U.pushCell (mzO cA N U.heap.size 0)
  | i + 1 => ((mzS U cA comp N K i).pushCell (mzI comp K)).setCell U.heap.size (mzO cA N U.heap.size (i + 1))
theorem mzO_set (cA : ClassId) (N b i : Nat) : (mzO cA N b i).setSlot i (.ref (b + 1 + i)) = mzO cA N b (i + 1) := by
  unfold mzO
  rw [arrV_store]
  refine congrArg (arrV cA N) (funext fun j => ?_)
  unfold updV
  by_cases h : j = i
  · rw [if_pos h, if_pos (by omega), h]
  · rw [if_neg h]
    by_cases h2 : j < i
    · rw [if_pos h2, if_pos (by omega)]
    · rw [if_neg h2, if_neg (by omega)]
theorem mz_is (U : State) (cA comp : ClassId) (N K : Nat) : ∀ i, (mzS U cA comp N K i).heap.size = U.heap.size + 1 + i ∧ (mzS U cA comp N K i).heap[U.heap.size]? = some (mzO cA N U.heap.size i) ∧ (mzS U cA comp N K i).vm = U.vm ∧ (mzS U cA comp N K i).slotsUsed = U.slotsUsed + N + i * K ∧ (∀ q, q < U.heap.size → (mzS U cA comp N K i).heap[q]? = U.heap[q]?) ∧ ∀ j, j < i → (mzS U cA comp N K i).heap[U.heap.size + 1 + j]? = some (mzI comp K) := by
  intro i
  induction i with
  | zero =>
    refine ⟨size_pushCell _ _, State.heap_pushCell_size _ _, rfl, ?_, fun q hq => State.heap_pushCell_of_lt _ _ hq, fun j hj => absurd hj (Nat.not_lt_zero _)⟩
    show U.slotsUsed + (mzO cA N U.heap.size 0).slots.size = _
    rw [show (mzO cA N U.heap.size 0).slots.size = N from arrV_size _ _ _]
    omega
  | succ i ih =>
    obtain ⟨z1, o1, v1, u1, q1, r1⟩ := ih
    have hz : ((mzS U cA comp N K i).pushCell (mzI comp K)).heap.size = U.heap.size + 1 + i + 1 := by rw [size_pushCell, z1]
    refine ⟨?_, heapAt_setCell_self _ (by rw [hz]; omega), v1, ?_, fun q hq => ?_, fun j hj => ?_⟩
    · show (((mzS U cA comp N K i).pushCell (mzI comp K)).setCell U.heap.size _).heap.size = _
      rw [size_setCell, hz]
      omega
    · show (mzS U cA comp N K i).slotsUsed + (mzI comp K).slots.size = _
      rw [u1, show (mzI comp K).slots.size = K from arrV_size _ _ _, Nat.succ_mul]
      omega
    · show (((mzS U cA comp N K i).pushCell (mzI comp K)).setCell U.heap.size _).heap[q]? = _
      rw [heapAt_setCell_ne _ (Nat.ne_of_gt hq), State.heap_pushCell_of_lt _ _ (by rw [z1]; omega)]
      exact q1 q hq
    · show (((mzS U cA comp N K i).pushCell (mzI comp K)).setCell U.heap.size _).heap[U.heap.size + 1 + j]? = _
      rw [heapAt_setCell_ne _ (by omega)]
      by_cases hji : j < i
      · rw [State.heap_pushCell_of_lt _ _ (by rw [z1]; omega)]
        exact r1 j hji
      · have e9 : U.heap.size + 1 + j = (mzS U cA comp N K i).heap.size := by rw [z1]; omega
        rw [e9]
        exact State.heap_pushCell_size _ _
theorem mzS_top (U : State) (f : JFrame) (cA comp : ClassId) (N K : Nat) : ∀ i, mzS (U.setTop f) cA comp N K i = (mzS U cA comp N K i).setTop f
  | 0 => rfl
  | i + 1 => by
    show ((mzS (U.setTop f) cA comp N K i).pushCell (mzI comp K)).setCell U.heap.size _ = _
    rw [mzS_top U f cA comp N K i]
    rfl
section MZS
variable {p : Program} {l : Launch} {e : Env} {R : Room} {s : State} {m : MethodId} {args : Array Value} {below : List Frame} {meth : Method} {c : Code} {T : State} {locs : List Loc} {cells slots : Nat}
theorem mz_st (X : Stand p l e R s m args below meth c T locs cells slots) (cA comp : ClassId) (N K : Nat) : ∀ i, Stand p l e R s m args below meth c (mzS T cA comp N K i) (locs ++ (List.range i).map (fun j => (⟨T.heap.size, j⟩ : Loc))) (cells + 1 + i) (slots + N + i * K) := by
  intro i
  induction i with
  | zero =>
    have h := X.pushed (mzO cA N T.heap.size 0)
    rw [show (mzO cA N T.heap.size 0).slots.size = N from arrV_size _ _ _] at h
    rw [List.range_zero, List.map_nil, List.append_nil, Nat.zero_mul]
    exact h
  | succ i ih =>
    obtain ⟨z1, o1, -⟩ := mz_is T cA comp N K i
    have h := (ih.pushed (mzI comp K)).stored (a := T.heap.size) (cell := mzO cA N T.heap.size i) (by rw [State.heap_pushCell_of_lt _ _ (by rw [z1]; omega)]; exact o1) i (.ref (T.heap.size + 1 + i))
    rw [mzO_set, show (mzI comp K).slots.size = K from arrV_size _ _ _, List.append_assoc] at h
    rw [List.range_succ, List.map_append, Nat.succ_mul, ← Nat.add_assoc (slots + N)]
    exact h
end MZS
section MZW
variable {E : CtlPost} {e : Env} {d : Bool} {acts : List Action} {U : State}
theorem mz_row {cA comp : ClassId} {kA : Class} {ty : FieldType} {n : Nat} {v : Value} {Z : Addr → Pre} (h1 : U.vm.classes[cA]? = some kA) (h2 : kA.kind = .array comp ty) (h3 : n ≤ e.platform.arrayLengthLimit) (h4 : n * componentBytes ty ≤ e.platform.maxHeapBytes) (h5 : fits ty v = true) (h7 : U.heap.size < e.platform.maxCells) (h8 : U.slotsUsed + n ≤ e.platform.maxSlots)
    (hz : ∀ a9, Z U.heap.size d a9 (U.pushCell (arrV cA n (fun _ => v)))) : wp (Jvm.newArray cA n v) Z E e d acts U := by
  have e3 : ¬ n > e.platform.arrayLengthLimit := by omega
  have e4 : ¬ n * componentBytes ty > e.platform.maxHeapBytes := by omega
  have e5 : ¬ n > e.platform.maxSlots := by omega
  have hz2 := hz (allocActs (Array.replicate n v) U.heap.size acts)
  rw [← arrV_new] at hz2
  simp only [Jvm.newArray, Jvm.arrayFits, wp_bind', W.ask, W.ite, e3, e4, e5, if_false, wp_pure', W.theClass, h1, h2, W.alloc, W.stop, Option.some.injEq, exists_eq_left', Array.size_replicate]
  refine ⟨h7, h8, fun i w hw => ?_, hz2⟩
  rw [Array.getElem?_replicate] at hw
  split at hw
  · cases hw
    simp [State.fitsSlot, State.slotType?, h1, h2, h5]
  · cases hw
theorem mz_one {comp cc : ClassId} {kC : Class} {k : Int32} {K : Nat} {Z : Addr → Pre} (h1 : U.vm.classes[comp]? = some kC) (h2 : kC.kind = .array cc .int) (hk : ¬ k < 0) (hK : k.toNatClampNeg = K) (h3 : K ≤ e.platform.arrayLengthLimit) (h4 : K * 4 ≤ e.platform.maxHeapBytes) (h7 : U.heap.size < e.platform.maxCells) (h8 : U.slotsUsed + K ≤ e.platform.maxSlots)
    (hz : ∀ a9, Z U.heap.size d a9 (U.pushCell (mzI comp K))) : wp (multianewarray.make comp [k]) Z E e d acts U := by
  subst hK
  rw [multianewarray.make]
  simp only [wp_bind', W.ite, hk, if_false, wp_pure', W.theClass, h1, h2, Option.some.injEq, exists_eq_left']
  exact mz_row (v := .int 0) h1 h2 h3 h4 rfl h7 h8 hz
theorem mz_two {cA comp cc : ClassId} {kA kC : Class} {n k : Int32} {N K : Nat} {Z : Addr → Pre} (hA : U.vm.classes[cA]? = some kA) (hA2 : kA.kind = .array comp (.array .int)) (hC : U.vm.classes[comp]? = some kC) (hC2 : kC.kind = .array cc .int) (hn : ¬ n < 0) (hk : ¬ k < 0) (hN : n.toNatClampNeg = N) (hK : k.toNatClampNeg = K)
    (h3 : N ≤ e.platform.arrayLengthLimit ∧ K ≤ e.platform.arrayLengthLimit) (h4 : N * 4 ≤ e.platform.maxHeapBytes ∧ K * 4 ≤ e.platform.maxHeapBytes) (h7 : U.heap.size + (1 + N) ≤ e.platform.maxCells) (h8 : U.slotsUsed + (N + N * K) ≤ e.platform.maxSlots)
    (hz : ∀ d9 a9, Z U.heap.size d9 a9 (mzS U cA comp N K N)) : wp (multianewarray.make cA [n, k]) Z E e d acts U := by
  subst hN
  have hf : ([k].find? (· < 0)) = none := by simp [hk]
  rw [multianewarray.make]
  simp only [wp_bind', W.ite, hn, if_false, wp_pure', W.theClass, hA, hA2, Option.some.injEq, exists_eq_left']
  refine mz_row (v := .null) hA hA2 h3.1 h4.1 rfl (by omega) (by omega) (fun a9 => ?_)
  simp only [hf]
  rw [ite_self, wp_bind', Std.Legacy.Range.forIn_eq_forIn_range', show ([:n.toNatClampNeg] : Std.Legacy.Range).size = n.toNatClampNeg by simp [Std.Legacy.Range.size]]
  refine wp_forIn_inv (fun rest S => ∃ i, i ≤ n.toNatClampNeg ∧ rest = List.range' i (n.toNatClampNeg - i) ∧ S = mzS U cA comp n.toNatClampNeg K i) _ _ ⟨0, Nat.zero_le _, rfl, ?_⟩ ?_ ?_
  · show U.pushCell _ = U.pushCell (mzO cA n.toNatClampNeg U.heap.size 0)
    refine congrArg (fun f => U.pushCell (arrV cA n.toNatClampNeg f)) (funext fun j => ?_)
    exact (if_neg (Nat.not_lt_zero j)).symm
  · rintro y rest S d1 a1 Z1 ⟨i, hi, hl, rfl⟩ nx
    have hlt : i < n.toNatClampNeg := by
      by_cases h : i < n.toNatClampNeg
      · exact h
      · rw [show n.toNatClampNeg - i = 0 by omega] at hl
        cases hl
    rw [show n.toNatClampNeg - i = (n.toNatClampNeg - (i + 1)) + 1 by omega, List.range'_succ] at hl
    obtain ⟨rfl, rfl⟩ := List.cons.inj hl
    obtain ⟨z1, o1, v1, u1, -⟩ := mz_is U cA comp n.toNatClampNeg K y
    have hm : y * K + K ≤ n.toNatClampNeg * K := by
      have := Nat.mul_le_mul_right K (show y + 1 ≤ n.toNatClampNeg from hlt)
      rw [Nat.succ_mul] at this
      exact this
    simp only [wp_bind']
    refine mz_one (by rw [v1]; exact hC) hC2 hk hK h3.2 h4.2 (by rw [z1]; omega) (by rw [u1]; omega) (fun a2 => ?_)
    simp only [wp_bind', W.writeLoc, wp_pure']
    refine ⟨mzO cA n.toNatClampNeg U.heap.size y, by rw [State.heap_pushCell_of_lt _ _ (by rw [z1]; omega)]; exact o1, (fun h9 => by cases h9), by rw [show (mzO cA n.toNatClampNeg U.heap.size y).slots.size = n.toNatClampNeg from arrV_size _ _ _]; exact hlt, ?_, nx _ _ _ ⟨y + 1, hlt, rfl, ?_⟩⟩
    · show ((mzS U cA comp n.toNatClampNeg K y).pushCell (mzI comp K)).fitsSlot cA .none y _ = true
      have hv : ((mzS U cA comp n.toNatClampNeg K y).pushCell (mzI comp K)).vm.classes[cA]? = some kA := by
        show (mzS U cA comp n.toNatClampNeg K y).vm.classes[cA]? = some kA
        rw [v1]
        exact hA
      simp [State.fitsSlot, State.slotType?, hv, hA2, fits]
    · rw [z1, mzO_set]
      rfl
  · rintro S d1 a1 ⟨i, hi, hl, rfl⟩
    have hiN : i = n.toNatClampNeg := by
      by_cases h : i < n.toNatClampNeg
      · rw [show n.toNatClampNeg - i = (n.toNatClampNeg - (i + 1)) + 1 by omega, List.range'_succ] at hl
        cases hl
      · omega
    subst hiN
    simp only [wp_pure']
    exact hz _ _
end MZW
section MZL
variable {p : Program} {l : Launch} {e : Env} {R : Room} {s : State} {m : MethodId} {args : Array Value} {below : List Frame} {meth : Method} {c : Code} {H : Heap} {locs : List Loc} {cells slots : Nat} {Q : State → Prop}
variable {cc : ByteArray} {pc : Nat} {ls : Array Slot} {rest : List Value}
theorem mz_mul (hexec : p.tables.exec = Jvm.exec) (hb : c.code = cc) {own : String} {index : Nat} (hown : s.vm.findClass own = some m.cls) (hclink : (Cond.classLink own index "[[I").before args s = true) (hover : (Cond.arrayOver (.array .int)).before args s = true) (harr : (Cond.arrayClass .int).before args s = true)
    {n k : Int32} {N K : Nat} (hn : ¬ n < 0) (hk : ¬ k < 0) (hN : n.toNatClampNeg = N) (hK : k.toNatClampNeg = K) (hN1 : N ≤ 10000) (hK1 : K ≤ 10000) (hcells : cells + (1 + N) ≤ R.cells) (hslots : slots + (N + N * K) ≤ R.slots) {g : JFrame} (hg : g.method = m) (hstack : g.stack = .int k :: .int n :: rest) (hdg : decode cc g.pc = .ok (.multianewarray index 2, 4))
    (kk : ∀ (cA comp : ClassId) (H1 : Heap), s.vm.findClass "[[I" = some cA → s.vm.findClass "[I" = some comp → H1.size = H.size + 1 + N → (∀ q, q < H.size → H1[q]? = H[q]?) → H1[H.size]? = some (mzO cA N H.size N) → (∀ j, j < N → H1[H.size + 1 + j]? = some (mzI comp K)) →
      W p l e R s m args below meth c H1 (locs ++ (List.range N).map (fun j => (⟨H.size, j⟩ : Loc))) (cells + 1 + N) (slots + N + N * K) Q { g with pc := g.pc + 4, stack := .ref H.size :: rest }) : W p l e R s m args below meth c H locs cells slots Q g := by
  intro T hT X
  subst hT; subst hb; subst hg
  have hpl : e.platform.magicAccessors = ({} : Platform).magicAccessors := by rw [X.admits.platform]
  obtain ⟨comp, cA, kA, hcomp, -, hkA, hkindA, hnameA⟩ := arrayOverA_spec hover
  obtain ⟨comp2, kC, cc2, hcomp2, hkC, hkindC⟩ := Cond.arrayClass_spec harr
  have ec : comp2 = comp := Option.some.inj (hcomp2.symm.trans hcomp)
  subst ec
  obtain ⟨c0, hfc0, hcl⟩ := Cond.classLink_spec hown hclink e.platform hpl
  have en : "[" ++ (FieldType.array .int).toString = "[[I" := by decide +kernel
  have en2 : "[" ++ (FieldType.int).toString = "[I" := by decide +kernel
  rw [en] at hnameA
  rw [en2] at hcomp2
  cases hnameA.symm.trans hfc0
  obtain ⟨hg₁, hwarm₁, hready₁⟩ := State.classEntry (e := e) X.warmed hcl
  generalize T.vm.noted g.method.cls index (.cls cA) = vm₁ at hg₁ hwarm₁ hready₁
  obtain ⟨kA₁, hkA₁, heA⟩ := hwarm₁.alike.2.2 _ _ hkA
  obtain ⟨kC₁, hkC₁, heC⟩ := hwarm₁.alike.2.2 _ _ hkC
  have XN := mz_st (X.noted hwarm₁) cA comp2 N K N
  obtain ⟨z1, o1, v1, u1, q1, r1⟩ := mz_is (T.setVm vm₁) cA comp2 N K N
  obtain ⟨hr1, hr2⟩ := X.roomAbove hcells hslots
  obtain ⟨t, a1, b1⟩ := kk cA comp2 (mzS (T.setVm vm₁) cA comp2 N K N).heap hnameA hcomp2 z1 q1 o1 r1 (mzS (T.setVm vm₁) cA comp2 N K N) rfl XN
  refine ⟨t, ?_, b1⟩
  have l1 : e.platform.arrayLengthLimit = _ := Launch.admits_arrayLengthLimit X.admits
  have l2 : e.platform.maxHeapBytes = _ := Launch.admits_maxHeapBytes X.admits
  jvm_step X.here [hexec, hdg]
  simp only [multianewarray.sem, wp_bind', W.resolveClassAt_links (State.method?_setTop g X.here.top) hg₁]
  rw [W.popN, if_neg (by decide)]
  refine ⟨g, State.topJava?_setTop' (s := T.setVm vm₁) g X.here.top, [.int n, .int k], rest, rfl, hstack, ?_⟩
  simp only [List.mapM_cons, List.mapM_nil, wp_bind', wp_pure']
  refine mz_two (kA := kA₁) (kC := kC₁) (comp := comp2) (cc := cc2) hkA₁ (by rw [heA]; exact hkindA) hkC₁ (by rw [heC]; exact hkindC) hn hk hN hK ⟨by rw [l1]; omega, by rw [l1]; omega⟩ ⟨by rw [l2]; omega, by rw [l2]; omega⟩ hr1 hr2 (fun d9 a9 => ?_)
  rw [show ((T.setTop g).setVm vm₁).setTop { g with stack := rest } = (T.setVm vm₁).setTop { g with stack := rest } from State.setTop_setTop ..]
  rw [mzS_top]
  simp only [wp_bind', W.mark, W.pushRef, State.topJava?_setTop' _ XN.here.top, Option.some.injEq, exists_eq_left', State.setTop_setTop, State.heap_setTop]
  intro a8
  simp [jvm, XN.here.top]
  exact a1
end MZL
/-! MORE ROWS FOR CONSTRUCTORS -/
abbrev aQ (cA : ClassId) (n : Nat) (f : Nat → Option Nat) : va_E := .inl (cA, n, .inr (.inr (.inr (.inr f))))
theorem arrV_ext {cA : ClassId} {N : Nat} {f g : Nat → Value} (h : ∀ j, j < N → f j = g j) : arrV cA N f = arrV cA N g := by
  unfold arrV
  rw [show (fun j : Fin N => f j.val) = fun j : Fin N => g j.val from funext fun j => h j.val j.isLt]
section MKQ
variable {p : Program} {l : Launch} {e : Env} {R : Room} {s : State} {m : MethodId} {args : Array Value} {below : List Frame} {meth : Method} {c : Code} {H : Heap} {locs : List Loc} {cells slots : Nat} {Q : State → Prop}
variable {cc : ByteArray} {pc : Nat} {ls : Array Slot} {rest : List Value} {D : va_G} {cs : Nat → ClassId} {A : Nat → Prop} {ws : va_W} {own : String} {mL : Nat}
theorem mkW.sq {u v : va_W} {a N : Nat} {cA : ClassId} {f f2 : Nat → Option Nat} (Wl : mkW D cs A s (u ++ (a, aQ cA N f) :: v) H locs) (hf : ∀ j, j < N → f j = f2 j) : mkW D cs A s (u ++ (a, aQ cA N f2) :: v) H locs := by
  obtain ⟨hP, hE, hD, hS, hA⟩ := Wl
  have hq : (u ++ (a, aQ cA N f) :: v)[u.length]? = some (a, aQ cA N f) := by
    rw [List.getElem?_append_right (Nat.le_refl _), Nat.sub_self]
    rfl
  have e1 : (u ++ (a, aQ cA N f) :: v).set u.length (a, aQ cA N f2) = u ++ (a, aQ cA N f2) :: v := by
    rw [List.set_append_right _ _ (Nat.le_refl _), Nat.sub_self]
    rfl
  have h0 : H[a]? = some (vp_cell cA (N, .inr (.inr (.inr (.inr f))))) := hP _ _ hq
  have h1 := hP.set hD hq (e := aQ cA N f2) (H1 := H) (by
    show H[a]? = some (vp_cell cA (N, .inr (.inr (.inr (.inr f2)))))
    rw [h0, vp_cell_q, vp_cell_q]
    exact congrArg some (arrV_ext fun j hj => by rw [hf j hj])) (fun q _ => rfl)
  have h2 := hD.set hq (e := aQ cA N f2)
  rw [e1] at h1 h2
  exact ⟨h1, hE, h2, hS, hA⟩
theorem mkW.sq2 {w u v : va_W} {a N : Nat} {cA : ClassId} {f f2 : Nat → Option Nat} (Wl : mkW D cs A s (w ++ (u ++ (a, aQ cA N f) :: v)) H locs) (hf : ∀ j, j < N → f j = f2 j) : mkW D cs A s (w ++ (u ++ (a, aQ cA N f2) :: v)) H locs := by
  rw [← List.append_assoc] at Wl ⊢
  exact Wl.sq hf
theorem nm_q {U : State} (h : va_K D xcl (tysx cs) U) : U.vm.findClass "[[I" = some (cs 16) := by
  have e1 : "[" ++ (FieldType.array .int).toString = "[[I" := by decide +kernel
  rw [← e1]
  exact (h.2 3 _ rfl).2
theorem nm_i {U : State} (h : va_K D xcl (tysx cs) U) : U.vm.findClass "[I" = some (cs 13) := by
  have e1 : "[" ++ (FieldType.int).toString = "[I" := by decide +kernel
  rw [← e1]
  exact (h.2 0 _ rfl).2
theorem mk_mul (C : mkC p s m args c cc own mL) (Wl : mkW D cs A s ws H locs) {p1 idx : Nat} (w1 : wAt p1 (.classLink own idx "[[I") = true) {n k : Int32} {N K c2 s2 : Nat} (hn : ¬ n < 0 ∧ n.toNatClampNeg = N) (hk : ¬ k < 0 ∧ k.toNatClampNeg = K) (hN1 : N ≤ 10000) (hK1 : K ≤ 10000) (h1 : cells + (1 + N) ≤ c2) (h2 : c2 ≤ R.cells) (h3 : slots + (N + N * K) ≤ s2) (h4 : s2 ≤ R.slots) (hdg : decode cc pc = .ok (.multianewarray idx 2, 4))
    (kk : ∀ q H1 locs1, mkW D cs A s (ws ++ (q, aQ (cs 16) N (fun j => some (q + 1 + j))) :: (List.range N).map (fun j => (q + 1 + j, aI cs K))) H1 locs1 → W p l e R s m args below meth c H1 locs1 c2 s2 Q (F0 m (pc + 4) ls (.ref q :: rest))) : W p l e R s m args below meth c H locs cells slots Q (F0 m pc ls (.int k :: .int n :: rest)) := by
  obtain ⟨hx, hb, hml, hown, hts⟩ := C
  obtain ⟨hP, hE, hD, hS, hA⟩ := Wl
  refine mz_mul hx hb hown (hts _ (wAt_in w1)) hE.2.2.2.2.1 (hts _ (wAt_in (p := 2128) (by decide +kernel))) hn.1 hk.1 hn.2 hk.2 hN1 hK1 (by omega) (by omega) (g := F0 m pc ls (.int k :: .int n :: rest)) rfl rfl hdg (fun cA comp H1 fA fC z1 o1 e1 i1 => ?_)
  cases fA.symm.trans (nm_q hE.1)
  cases fC.symm.trans (nm_i hE.1)
  have hk9 : ∀ (k : Nat) (x : Nat × va_E), ws[k]? = some x → H1[x.1]? = H[x.1]? := fun k x hx9 => o1 x.1 ((hP k x hx9).lt)
  have key : ∀ (j : Nat) (x : Nat × va_E), ((H.size, aQ (cs 16) N (fun j => some (H.size + 1 + j))) :: (List.range N).map (fun j => (H.size + 1 + j, aI cs K)))[j]? = some x → x.1 = H.size + j ∧ va_at D xcl x H1 := by
    intro j x hj
    cases j with
    | zero =>
      cases hj
      refine ⟨rfl, ?_⟩
      show H1[H.size]? = some (vp_cell _ _)
      rw [e1, vp_cell_q]
      exact congrArg some (arrV_ext fun j hj => if_pos hj)
    | succ j =>
      have hj2 : ((List.range N).map (fun j => ((H.size + 1 + j, aI cs K) : Nat × va_E)))[j]? = some x := hj
      rw [List.getElem?_map] at hj2
      by_cases hjN : j < N
      · rw [List.getElem?_range hjN] at hj2
        cases hj2
        exact ⟨by show H.size + 1 + j = H.size + (j + 1); omega, i1 j hjN⟩
      · rw [List.getElem?_eq_none (by rw [List.length_range]; omega)] at hj2
        cases hj2
  refine W.widen (k := c2) (n := s2) (by omega) (by omega) (kk H.size H1 _ ⟨va_P.app (hP.kept hk9) (fun j x hj => (key j x hj).2), hE, va_D.app hD ⟨fun i j x y hi hj hxy => ?_, fun j x hj => ?_⟩ (fun i j x y hi hj hxy => ?_), ⟨Nat.le_trans hS.1 (by omega), fun x h1 h2 => (o1 x (Nat.lt_of_lt_of_le h1 hS.1)).trans (hS.2.1 x h1 h2), fun q hq => ?_⟩, hA⟩)
  · have a1 := (key i x hi).1
    have a2 := (key j y hj).1
    omega
  · have a1 := (key j x hj).1
    exact hA _ (by have := hS.1; omega)
  · have a1 := (hP i x hi).lt
    have a2 := (key j y hj).1
    omega
  · rcases List.mem_append.mp hq with h9 | h9
    · exact hS.2.2 q h9
    · obtain ⟨j, -, rfl⟩ := List.mem_map.mp h9
      exact hA _ hS.1
theorem mk_ias (C : mkC p s m args c cc own mL) (Wl : mkW D cs A s ws H locs) (q0 : Nat) {a N : Nat} {f : Nat → Int32} (he : ws[q0]? = some (a, .inl (cs 13, N, .inl f))) {i x : Int32} {j : Nat} (hj : i.toNatClampNeg = j) (hin : vp_in i N) (hdg : decode cc pc = .ok (.iastore, 1))
    (kk : ∀ H1 locs1, mkW D cs A s (ws.set q0 (a, .inl (cs 13, N, .inl (upd f j x)))) H1 locs1 → W p l e R s m args below meth c H1 locs1 cells slots Q (F0 m (pc + 1) ls rest)) : W p l e R s m args below meth c H locs cells slots Q (F0 m pc ls (.int x :: .int i :: .ref a :: rest)) := by
  subst hj
  obtain ⟨hx, hb, hml, hown, hts⟩ := C
  obtain ⟨hP, hE, hD, hS, hA⟩ := Wl
  exact va_iast hx hb hE.1 hP hD hS q0 0 he rfl hin hdg (fun H1 locs1 h1 h2 h3 => kk H1 locs1 ⟨h1, hE, h2, h3, hA⟩)
/-- a row of plans made -/
theorem mk_nwq (C : mkC p s m args c cc own mL) (Wl : mkW D cs A s ws H locs) {p1 idx : Nat} (w1 : wAt p1 (.classLink own idx "CellRows$Plan") = true) {n : Int32} {N c2 s2 : Nat} (hn : ¬ n < 0 ∧ n.toNatClampNeg = N) (hN1 : N ≤ 10000) (h1 : cells + 1 ≤ c2) (h2 : c2 ≤ R.cells) (h3 : slots + N ≤ s2) (h4 : s2 ≤ R.slots) (hdg : decode cc pc = .ok (.anewarray idx, 3))
    (kk : ∀ q H1, mkW D cs A s (ws ++ [(q, aQ (cs 15) N (fun _ => none))]) H1 locs → W p l e R s m args below meth c H1 locs c2 s2 Q (F0 m (pc + 3) ls (.ref q :: rest))) : W p l e R s m args below meth c H locs cells slots Q (F0 m pc ls (.int n :: rest)) := by
  obtain ⟨hx, hb, hml, hown, hts⟩ := C
  obtain ⟨hP, hE, hD, hS, hA⟩ := Wl
  refine va_newq hx hb hown (hts _ (wAt_in w1)) hE.2.2.2.1 hE.1 hP hD hS hA hn.1 hn.2 (by omega) (by omega) (by omega) hdg (fun q cA H1 hK1 hP1 hD1 hS1 => ?_)
  obtain ⟨-, -, -, -, -, f1⟩ := (hK1.2 4 _ rfl).2
  obtain ⟨-, -, -, -, -, f2⟩ := (hE.1.2 2 _ rfl).2
  cases f1.symm.trans f2
  exact W.widen (k := c2) (n := s2) h1 (by omega) (kk q H1 ⟨hP1, hE, hD1, hS1, hA⟩)
theorem mk_aas (C : mkC p s m args c cc own mL) (Wl : mkW D cs A s ws H locs) (q0 qk : Nat) {a v N : Nat} {f : Nat → Option Nat} {vs : List Value} (he : ws[q0]? = some (a, aQ (cs 15) N f)) (hv : ws[qk]? = some (v, .inr (9, vs))) {i : Int32} {j : Nat} (hj : i.toNatClampNeg = j) (hin : vp_in i N) (hdg : decode cc pc = .ok (.aastore, 1))
    (kk : ∀ H1 locs1, mkW D cs A s (ws.set q0 (a, aQ (cs 15) N (va_up f j (some v)))) H1 locs1 → W p l e R s m args below meth c H1 locs1 cells slots Q (F0 m (pc + 1) ls rest)) : W p l e R s m args below meth c H locs cells slots Q (F0 m pc ls (.ref v :: .int i :: .ref a :: rest)) := by
  subst hj
  obtain ⟨hx, hb, hml, hown, hts⟩ := C
  obtain ⟨hP, hE, hD, hS, hA⟩ := Wl
  exact va_astq hx hb hE.1 hP hD hS q0 2 qk 9 he rfl hv (xcl_at (by decide)) hin hdg (fun H1 locs1 h1 h2 h3 => kk H1 locs1 ⟨h1, hE, h2, h3, hA⟩)
/-- a field of an object that stands elsewhere, and stays -/
theorem mk_gte (C : mkC p s m args c cc own mL) (Wl : mkW D cs A s ws H locs) {ci : Nat} (hci : ci < 13) {a : Nat} {fs : List Value} (hat : va_at D xcl (a, .inr (ci, fs)) s.heap) (hAa : ¬ A a) (k : Nat) (hk : k < (xFl.getD ci []).length) {p1 idx : Nat} (w1 : wAt p1 (.fieldLink own idx (xfl ci k).1 (xfl ci k).2.1 (xfl ci k).2.2.1) = true) {v : Value} (hv : fs[k]? = some v) (hdg : decode cc pc = .ok (.getfield idx, 3))
    (kk : W p l e R s m args below meth c H locs cells slots Q (F0 m (pc + 3) ls (v :: rest))) : W p l e R s m args below meth c H locs cells slots Q (F0 m pc ls (.ref a :: rest)) := by
  obtain ⟨hx, hb, hml, hown, hts⟩ := C
  obtain ⟨hP, hE, hD, hS, hA⟩ := Wl
  have h1 : va_P D xcl [(a, .inr (ci, fs))] H := by
    intro j x hj
    cases j with
    | zero =>
      cases hj
      exact hat.kept (hS.2.1 a hat.lt hAa)
    | succ j => cases hj
  exact va_get (D := D) (ci := ci) (v := v) (C := xcnL.getD ci "") (T := xfl ci) (N := (xFl.getD ci []).length) hx hb hts (uws_in hci) hown hE.1 h1 0 rfl (xcl_at hci) k hk (hts _ (wAt_in w1)) (fun _ h9 => h9) hv hdg kk
/-- a row cloned that stands elsewhere, and stays -/
theorem mk_cln (C : mkC p s m args c cc "CellRows" mL) (Wl : mkW D cs A s ws H locs) {t0 N c2 s2 : Nat} {f : Nat → Int32} (hat : s.heap[t0]? = some (vp_cell (cs 13) (N, .inl f))) (hAt : ¬ A t0) (hsz : ls.size = mL) (hfr : 1 ≤ R.frames) (hlo : (rest.map fun v => v.category).sum + 14 ≤ R.locals) (h1 : cells + 1 ≤ c2) (h2 : c2 ≤ R.cells) (h3 : slots + N ≤ s2) (h4 : s2 ≤ R.slots) (hdg : decode cc pc = .ok (.invokevirtual 28, 3))
    (kk : ∀ q H1, mkW D cs A s (ws ++ [(q, .inl (cs 13, N, .inl f))]) H1 locs → W p l e R s m args below meth c H1 locs c2 s2 Q (F0 m (pc + 3) ls (.ref q :: rest))) : W p l e R s m args below meth c H locs cells slots Q (F0 m pc ls (.ref t0 :: rest)) := by
  obtain ⟨hx, hb, hml, hown, hts⟩ := C
  obtain ⟨hP, hE, hD, hS, hA⟩ := Wl
  have hl0 : t0 < s.heap.size := (Array.getElem?_eq_some_iff.mp hat).1
  have hH : H[t0]? = some (vp_cell (cs 13) (N, .inl f)) := (hS.2.1 t0 hl0 hAt).trans hat
  have hP2 : va_P D xcl ((t0, .inl (cs 13, N, .inl f)) :: ws) H := by
    intro j x hj
    cases j with
    | zero =>
      cases hj
      exact hH
    | succ j => exact hP j x hj
  have hD2 : va_D (fun q => A q ∨ q = t0) ((t0, .inl (cs 13, N, .inl f)) :: ws) := by
    refine ⟨fun i j x y hi hj hxy => ?_, fun j x hj => ?_⟩
    · cases i with
      | zero =>
        cases hi
        cases j with
        | zero => rfl
        | succ j => exact absurd (hxy ▸ hD.2 j y hj) hAt
      | succ i =>
        cases j with
        | zero =>
          cases hj
          exact absurd (hxy ▸ hD.2 i x hi) hAt
        | succ j => rw [hD.1 i j x y hi hj hxy]
    · cases j with
      | zero =>
        cases hj
        exact Or.inr rfl
      | succ j => exact Or.inl (hD.2 j x hj)
  refine va_clone hx hb (by rw [hml, hsz]) hown (hts _ (wAt_in (p := 2080) (by decide +kernel))) (hts _ (wAt_in (p := 2081) (by decide +kernel))) (hts _ (wAt_in (p := 2082) (by decide +kernel))) (hts _ (wAt_in (p := 2083) (by decide +kernel))) (hts _ (wAt_in (p := 2084) (by decide +kernel))) hE.2.2.2.2.2 hE.1 hP2 hD2 (A := fun q => A q ∨ q = t0) (H0 := s.heap) ⟨hS.1, fun q a1 a2 => hS.2.1 q a1 (fun h => a2 (Or.inl h)), fun q hq => Or.inl (hS.2.2 q hq)⟩ (fun q h => Or.inl (hA q h)) 0 0 (x := (N, .inl f)) (ty := .int) rfl rfl (nm_i hE.1) (va_fit (fun _ _ => rfl)) hfr hlo (by omega) (by show slots + N ≤ _; omega) hdg (fun q H1 hK1 hP1 hD1 hS1 => ?_)
  have hq : (((t0, .inl (cs 13, N, .inl f)) :: ws) ++ [(q, .inl (cs 13, N, .inl f))] : va_W)[ws.length + 1]? = some (q, .inl (cs 13, N, .inl f)) := by
    rw [List.getElem?_append_right (by rw [List.length_cons]; omega), List.length_cons, Nat.sub_self]
    rfl
  have hqt : q ≠ t0 := by
    intro h
    have := hD1.1 (ws.length + 1) 0 _ _ hq rfl h
    omega
  refine W.widen (k := c2) (n := s2) h1 h3 (kk q H1 ⟨fun j x hj => hP1 (j + 1) x hj, hE, ⟨fun i j x y hi hj hxy => ?_, fun j x hj => ?_⟩, ⟨hS1.1, fun y a1 a2 => ?_, hS.2.2⟩, hA⟩)
  · have := hD1.1 (i + 1) (j + 1) x y hi hj hxy
    omega
  · rcases hD1.2 (j + 1) x hj with h | h
    · exact h
    · have := hD1.1 (j + 1) 0 x (t0, .inl (cs 13, N, .inl f)) hj rfl h
      omega
  · by_cases h9 : y = t0
    · rw [h9, hat]
      exact hP1 0 (t0, .inl (cs 13, N, .inl f)) rfl
    · exact hS1.2.1 y a1 (fun h => h.elim a2 h9)
end MKQ
