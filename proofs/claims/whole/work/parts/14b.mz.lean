/-! A TABLE OF ROWS, MADE AT ONCE -/
def mzO (cA : ClassId) (N b i : Nat) : Cell := arrV cA N (fun j => if j < i then .ref (b + 1 + j) else .null)
def mzI (comp : ClassId) (K : Nat) : Cell := arrV comp K (fun _ => .int 0)
/-- the outer row and its first i inner rows -/
def mzS (U : State) (cA comp : ClassId) (N K : Nat) : Nat → State
  | 0 => U.pushCell (mzO cA N U.heap.size 0)
  | i + 1 => ((mzS U cA comp N K i).pushCell (mzI comp K)).setCell U.heap.size (mzO cA N U.heap.size (i + 1))
theorem mzO_set (cA : ClassId) (N b i : Nat) : (mzO cA N b i).setSlot i (.ref (b + 1 + i)) = mzO cA N b (i + 1) := by
  unfold mzO
  rw [arrV_store]
  refine congrArg (arrV cA N) (funext fun j => ?_)
  unfold updV
  by_cases h : j = i
  · rw [if_pos h, if_pos (by omega), h]
  · rw [if_neg h]
    show (if j < i then Value.ref (b + 1 + j) else Value.null) = if j < i + 1 then Value.ref (b + 1 + j) else Value.null
    by_cases h2 : j < i
    · rw [if_pos h2, if_pos (by omega)]
    · rw [if_neg h2, if_neg (by omega)]
theorem n_lt {a b : Nat} (h : a < b) : a < b := h
theorem n_ne {a b : Nat} (h : a ≠ b) : a ≠ b := h
theorem mz_is (U : State) (cA comp : ClassId) (N K : Nat) : ∀ i, (mzS U cA comp N K i).heap.size = U.heap.size + 1 + i ∧ (mzS U cA comp N K i).heap[U.heap.size]? = some (mzO cA N U.heap.size i) ∧ (mzS U cA comp N K i).vm = U.vm ∧ (mzS U cA comp N K i).slotsUsed = U.slotsUsed + N + i * K ∧ (∀ q, q < U.heap.size → (mzS U cA comp N K i).heap[q]? = U.heap[q]?) ∧ ∀ j, j < i → (mzS U cA comp N K i).heap[U.heap.size + 1 + j]? = some (mzI comp K) := by
  intro i
  induction i with
  | zero =>
    refine ⟨size_pushCell _ _, State.heap_pushCell_size _ _, rfl, ?_, fun q hq => State.heap_pushCell_of_lt _ _ hq, fun j hj => absurd hj (Nat.not_lt_zero _)⟩
    show U.slotsUsed + (mzO cA N U.heap.size 0).slots.size = _
    rw [show (mzO cA N U.heap.size 0).slots.size = N from arrV_size _ _ _]
    omega
  | succ i ih =>
    obtain ⟨z1, o1, v1, u1, q1, r1⟩ := ih
    have hz : ((mzS U cA comp N K i).pushCell (mzI comp K)).heap.size = U.heap.size + 1 + i + 1 := by rw [size_pushCell, z1]
    refine ⟨?_, heapAt_setCell_self _ (by rw [hz]; exact n_lt (by omega)), v1, ?_, fun q hq => ?_, fun j hj => ?_⟩
    · show (((mzS U cA comp N K i).pushCell (mzI comp K)).setCell U.heap.size _).heap.size = _
      rw [size_setCell, hz]
      omega
    · show (mzS U cA comp N K i).slotsUsed + (mzI comp K).slots.size = _
      rw [u1, show (mzI comp K).slots.size = K from arrV_size _ _ _, Nat.succ_mul]
      omega
    · show (((mzS U cA comp N K i).pushCell (mzI comp K)).setCell U.heap.size _).heap[q]? = _
      rw [heapAt_setCell_ne _ (Nat.ne_of_gt hq), State.heap_pushCell_of_lt _ _ (by rw [z1]; exact n_lt (by omega))]
      exact q1 q hq
    · show (((mzS U cA comp N K i).pushCell (mzI comp K)).setCell U.heap.size _).heap[U.heap.size + 1 + j]? = _
      rw [heapAt_setCell_ne _ (n_ne (by omega))]
      by_cases hji : j < i
      · rw [State.heap_pushCell_of_lt _ _ (by rw [z1]; exact n_lt (by omega))]
        exact r1 j hji
      · have e9 : U.heap.size + 1 + j = (mzS U cA comp N K i).heap.size := by rw [z1]; omega
        rw [e9]
        exact State.heap_pushCell_size _ _
theorem mzS_top (U : State) (f : JFrame) (cA comp : ClassId) (N K : Nat) : ∀ i, mzS (U.setTop f) cA comp N K i = (mzS U cA comp N K i).setTop f
  | 0 => rfl
  | i + 1 => by
    show ((mzS (U.setTop f) cA comp N K i).pushCell (mzI comp K)).setCell U.heap.size _ = _
    rw [mzS_top U f cA comp N K i]
    rfl
section MZS
variable {p : Program} {l : Launch} {e : Env} {R : Room} {s : State} {m : MethodId} {args : Array Value} {below : List Frame} {meth : Method} {c : Code} {T : State} {locs : List Loc} {cells slots : Nat}
theorem mz_st (X : Stand p l e R s m args below meth c T locs cells slots) (cA comp : ClassId) (N K : Nat) : ∀ i, Stand p l e R s m args below meth c (mzS T cA comp N K i) (locs ++ (List.range i).map (fun j => (⟨T.heap.size, j⟩ : Loc))) (cells + 1 + i) (slots + N + i * K) := by
  intro i
  induction i with
  | zero =>
    have h := X.pushed (mzO cA N T.heap.size 0)
    rw [show (mzO cA N T.heap.size 0).slots.size = N from arrV_size _ _ _] at h
    rw [List.range_zero, List.map_nil, List.append_nil, Nat.zero_mul]
    exact h
  | succ i ih =>
    obtain ⟨z1, o1, -⟩ := mz_is T cA comp N K i
    have h := (ih.pushed (mzI comp K)).stored (a := T.heap.size) (cell := mzO cA N T.heap.size i) (by rw [State.heap_pushCell_of_lt _ _ (by rw [z1]; exact n_lt (by omega))]; exact o1) i (.ref (T.heap.size + 1 + i))
    rw [mzO_set, show (mzI comp K).slots.size = K from arrV_size _ _ _, List.append_assoc] at h
    rw [List.range_succ, List.map_append, Nat.succ_mul, ← Nat.add_assoc (slots + N)]
    exact h
end MZS
section MZW
variable {E : CtlPost} {e : Env} {d : Bool} {acts : List Action} {U : State}
theorem mz_row {cA comp : ClassId} {kA : Class} {ty : FieldType} {n : Nat} {v : Value} {Z : Addr → Pre} (h1 : U.vm.classes[cA]? = some kA) (h2 : kA.kind = .array comp ty) (h3 : n ≤ e.platform.arrayLengthLimit) (h4 : n * componentBytes ty ≤ e.platform.maxHeapBytes) (h5 : fits ty v = true) (h7 : U.heap.size < e.platform.maxCells) (h8 : U.slotsUsed + n ≤ e.platform.maxSlots)
    (hz : ∀ a9, Z U.heap.size d a9 (U.pushCell (arrV cA n (fun _ => v)))) : wp (Jvm.newArray cA n v) Z E e d acts U := by
  have e3 : ¬ n > e.platform.arrayLengthLimit := by omega
  have e4 : ¬ n * componentBytes ty > e.platform.maxHeapBytes := by omega
  have e5 : ¬ n > e.platform.maxSlots := by omega
  have hz2 := hz (allocActs (Array.replicate n v) U.heap.size acts)
  rw [← arrV_new] at hz2
  simp only [Jvm.newArray, Jvm.arrayFits, wp_bind', W.ask, W.ite, e3, e4, e5, if_false, wp_pure', W.theClass, h1, h2, W.alloc, W.stop, Option.some.injEq, exists_eq_left', Array.size_replicate]
  refine ⟨h7, h8, fun i w hw => ?_, hz2⟩
  rw [Array.getElem?_replicate] at hw
  split at hw
  · cases hw
    simp [State.fitsSlot, State.slotType?, h1, h2, h5]
  · cases hw
theorem mz_one {comp cc : ClassId} {kC : Class} {k : Int32} {K : Nat} {Z : Addr → Pre} (h1 : U.vm.classes[comp]? = some kC) (h2 : kC.kind = .array cc .int) (hk : ¬ k < 0) (hK : k.toNatClampNeg = K) (h3 : K ≤ e.platform.arrayLengthLimit) (h4 : K * 4 ≤ e.platform.maxHeapBytes) (h7 : U.heap.size < e.platform.maxCells) (h8 : U.slotsUsed + K ≤ e.platform.maxSlots)
    (hz : ∀ a9, Z U.heap.size d a9 (U.pushCell (mzI comp K))) : wp (multianewarray.make comp [k]) Z E e d acts U := by
  subst hK
  rw [multianewarray.make]
  simp only [wp_bind', W.ite, hk, if_false, wp_pure', W.theClass, h1, h2, Option.some.injEq, exists_eq_left']
  exact mz_row (v := .int 0) h1 h2 h3 h4 rfl h7 h8 hz
theorem mz_two {cA comp cc : ClassId} {kA kC : Class} {n k : Int32} {N K : Nat} {Z : Addr → Pre} (hA : U.vm.classes[cA]? = some kA) (hA2 : kA.kind = .array comp (.array .int)) (hC : U.vm.classes[comp]? = some kC) (hC2 : kC.kind = .array cc .int) (hn : ¬ n < 0) (hk : ¬ k < 0) (hN : n.toNatClampNeg = N) (hK : k.toNatClampNeg = K)
    (h3 : N ≤ e.platform.arrayLengthLimit ∧ K ≤ e.platform.arrayLengthLimit) (h4 : N * 4 ≤ e.platform.maxHeapBytes ∧ K * 4 ≤ e.platform.maxHeapBytes) (h7 : U.heap.size + (1 + N) ≤ e.platform.maxCells) (h8 : U.slotsUsed + (N + N * K) ≤ e.platform.maxSlots)
    (hz : ∀ d9 a9, Z U.heap.size d9 a9 (mzS U cA comp N K N)) : wp (multianewarray.make cA [n, k]) Z E e d acts U := by
  subst hN
  have hf : ([k].find? (· < 0)) = none := by simp [hk]
  rw [multianewarray.make]
  simp only [wp_bind', W.ite, hn, if_false, wp_pure', W.theClass, hA, hA2, Option.some.injEq, exists_eq_left']
  refine mz_row (v := .null) hA hA2 h3.1 h4.1 rfl (by omega) (by omega) (fun a9 => ?_)
  simp only [hf]
  rw [ite_self, wp_bind', Std.Legacy.Range.forIn_eq_forIn_range', show ([:n.toNatClampNeg] : Std.Legacy.Range).size = n.toNatClampNeg by simp [Std.Legacy.Range.size]]
  refine wp_forIn_inv (fun rest S => ∃ i, i ≤ n.toNatClampNeg ∧ rest = List.range' i (n.toNatClampNeg - i) ∧ S = mzS U cA comp n.toNatClampNeg K i) _ _ ⟨0, Nat.zero_le _, rfl, ?_⟩ ?_ ?_
  · show U.pushCell _ = U.pushCell (mzO cA n.toNatClampNeg U.heap.size 0)
    refine congrArg (fun f => U.pushCell (arrV cA n.toNatClampNeg f)) (funext fun j => ?_)
    exact (if_neg (Nat.not_lt_zero j)).symm
  · rintro y rest S d1 a1 Z1 ⟨i, hi, hl, rfl⟩ nx
    have hlt : i < n.toNatClampNeg := by
      by_cases h : i < n.toNatClampNeg
      · exact h
      · rw [show n.toNatClampNeg - i = 0 by omega] at hl
        cases hl
    rw [show n.toNatClampNeg - i = (n.toNatClampNeg - (i + 1)) + 1 by omega, List.range'_succ] at hl
    obtain ⟨rfl, rfl⟩ := List.cons.inj hl
    obtain ⟨z1, o1, v1, u1, -⟩ := mz_is U cA comp n.toNatClampNeg K y
    have hm : y * K + K ≤ n.toNatClampNeg * K := by
      have := Nat.mul_le_mul_right K (show y + 1 ≤ n.toNatClampNeg from hlt)
      rw [Nat.succ_mul] at this
      exact this
    simp only [wp_bind']
    refine mz_one (by rw [v1]; exact hC) hC2 hk hK h3.2 h4.2 (by rw [z1]; exact n_lt (by omega)) (by rw [u1]; omega) (fun a2 => ?_)
    simp only [wp_bind', W.writeLoc, wp_pure']
    refine ⟨mzO cA n.toNatClampNeg U.heap.size y, by rw [State.heap_pushCell_of_lt _ _ (by rw [z1]; exact n_lt (by omega))]; exact o1, (fun h9 => by cases h9), by rw [show (mzO cA n.toNatClampNeg U.heap.size y).slots.size = n.toNatClampNeg from arrV_size _ _ _]; exact hlt, ?_, nx _ _ _ ⟨y + 1, hlt, rfl, ?_⟩⟩
    · show ((mzS U cA comp n.toNatClampNeg K y).pushCell (mzI comp K)).fitsSlot cA .none y _ = true
      have hv : (mzS U cA comp n.toNatClampNeg K y).vm.classes[cA]? = some kA := by
        rw [v1]
        exact hA
      simp [State.fitsSlot, State.slotType?, hv, hA2, fits]
    · rw [z1, mzO_set]
      rfl
  · rintro S d1 a1 ⟨i, hi, hl, rfl⟩
    have hiN : i = n.toNatClampNeg := by
      by_cases h : i < n.toNatClampNeg
      · rw [show n.toNatClampNeg - i = (n.toNatClampNeg - (i + 1)) + 1 by omega, List.range'_succ] at hl
        cases hl
      · omega
    subst hiN
    simp only [wp_pure']
    exact hz _ _
end MZW
section MZL
variable {p : Program} {l : Launch} {e : Env} {R : Room} {s : State} {m : MethodId} {args : Array Value} {below : List Frame} {meth : Method} {c : Code} {H : Heap} {locs : List Loc} {cells slots : Nat} {Q : State → Prop}
variable {cc : ByteArray} {pc : Nat} {ls : Array Slot} {rest : List Value}
theorem mz_mul (hexec : p.tables.exec = Jvm.exec) (hb : c.code = cc) {own : String} {index : Nat} (hown : s.vm.findClass own = some m.cls) (hclink : (Cond.classLink own index "[[I").before args s = true) (hover : (Cond.arrayOver (.array .int)).before args s = true) (harr : (Cond.arrayClass .int).before args s = true)
    {n k : Int32} {N K : Nat} (hn : ¬ n < 0) (hk : ¬ k < 0) (hN : n.toNatClampNeg = N) (hK : k.toNatClampNeg = K) (hN1 : N ≤ 10000) (hK1 : K ≤ 10000) (hcells : cells + (1 + N) ≤ R.cells) (hslots : slots + (N + N * K) ≤ R.slots) {g : JFrame} (hg : g.method = m) (hstack : g.stack = .int k :: .int n :: rest) (hdg : decode cc g.pc = .ok (.multianewarray index 2, 4))
    (kk : ∀ (cA comp : ClassId) (H1 : Heap), s.vm.findClass "[[I" = some cA → s.vm.findClass "[I" = some comp → H1.size = H.size + 1 + N → (∀ q, q < H.size → H1[q]? = H[q]?) → H1[H.size]? = some (mzO cA N H.size N) → (∀ j, j < N → H1[H.size + 1 + j]? = some (mzI comp K)) →
      W p l e R s m args below meth c H1 (locs ++ (List.range N).map (fun j => (⟨H.size, j⟩ : Loc))) (cells + 1 + N) (slots + N + N * K) Q { g with pc := g.pc + 4, stack := .ref H.size :: rest }) : W p l e R s m args below meth c H locs cells slots Q g := by
  intro T hT X
  subst hT; subst hb; subst hg
  have hpl : e.platform.magicAccessors = ({} : Platform).magicAccessors := by rw [X.admits.platform]
  obtain ⟨comp, cA, kA, hcomp, -, hkA, hkindA, hnameA⟩ := arrayOverA_spec hover
  obtain ⟨comp2, kC, cc2, hcomp2, hkC, hkindC⟩ := Cond.arrayClass_spec harr
  have ec : comp2 = comp := Option.some.inj (hcomp2.symm.trans hcomp)
  subst ec
  obtain ⟨c0, hfc0, hcl⟩ := Cond.classLink_spec hown hclink e.platform hpl
  have en : "[" ++ (FieldType.array .int).toString = "[[I" := by decide +kernel
  have en2 : "[" ++ (FieldType.int).toString = "[I" := by decide +kernel
  rw [en] at hnameA
  rw [en2] at hcomp2
  cases hnameA.symm.trans hfc0
  obtain ⟨hg₁, hwarm₁, hready₁⟩ := State.classEntry (e := e) X.warmed hcl
  generalize T.vm.noted g.method.cls index (.cls cA) = vm₁ at hg₁ hwarm₁ hready₁
  obtain ⟨kA₁, hkA₁, heA⟩ := hwarm₁.alike.2.2 _ _ hkA
  obtain ⟨kC₁, hkC₁, heC⟩ := hwarm₁.alike.2.2 _ _ hkC
  have XN := mz_st (X.noted hwarm₁) cA comp2 N K N
  obtain ⟨z1, o1, v1, u1, q1, r1⟩ := mz_is (T.setVm vm₁) cA comp2 N K N
  obtain ⟨hr1, hr2⟩ := X.roomAbove hcells hslots
  obtain ⟨t, a1, b1⟩ := kk cA comp2 (mzS (T.setVm vm₁) cA comp2 N K N).heap hnameA hcomp2 z1 q1 o1 r1 (mzS (T.setVm vm₁) cA comp2 N K N) rfl XN
  refine ⟨t, ?_, b1⟩
  have l1 : e.platform.arrayLengthLimit = _ := Launch.admits_arrayLengthLimit X.admits
  have l2 : e.platform.maxHeapBytes = _ := Launch.admits_maxHeapBytes X.admits
  jvm_step X.here [hexec, hdg]
  simp only [multianewarray.sem, wp_bind', W.resolveClassAt_links (State.method?_setTop g X.here.top) hg₁]
  rw [W.popN, if_neg (by decide)]
  refine ⟨g, State.topJava?_setTop' (s := T.setVm vm₁) g X.here.top, [.int n, .int k], rest, rfl, hstack, ?_⟩
  simp only [List.mapM_cons, List.mapM_nil, wp_bind', wp_pure']
  refine mz_two (kA := kA₁) (kC := kC₁) (comp := comp2) (cc := cc2) hkA₁ (by rw [heA]; exact hkindA) hkC₁ (by rw [heC]; exact hkindC) hn hk hN hK ⟨by rw [l1]; omega, by rw [l1]; omega⟩ ⟨by rw [l2]; omega, by rw [l2]; omega⟩ hr1 hr2 (fun d9 a9 => ?_)
  rw [State.setVm_setTop, State.setTop_setTop, mzS_top]
  simp only [wp_bind', W.mark, W.pushRef, State.topJava?_setTop' _ XN.here.top, Option.some.injEq, exists_eq_left', State.setTop_setTop, State.heap_setTop]
  intro a8
  simp [jvm, XN.here.top]
  exact a1
end MZL
