/-! THE INTERPRETER'S RUNS ARE THE MACHINE'S -/
theorem ins_big {k : Nat} (h : 288 ≤ k) (ip : Nat) : ins k ip = (99, 0, 0, 0, []) := by
  unfold ins
  have h1 : xcd.getD (k / 32) [] = [] := by
    rw [List.getD_eq_getElem?_getD, List.getElem?_eq_none (by show 9 ≤ k / 32; omega)]
    rfl
  rw [h1]
  rfl
/-- a method's own words, once more: no entry of the machine's own stands in its place -/
def okC2 (k : Nat) : Bool := (ym k).cls == "CellRowsLaw" && (ym k).name == "law" || (wAt ((plc k).getD 0 0) (.code (ym k) (byt k) (mxl k) (rtt k)) && wAt ((plc k).getD 3 0) (.initialized (ym k).cls) && decide ((ym k).cls ≠ "java/lang/invoke/MethodHandle") && decide ((ym k).cls ≠ "java/lang/invoke/VarHandle") && decide ((parseMethodDescriptor (ym k).desc).map (fun d => d.parameters.length) = some (npm k)) && plainFor (ym k) &&
  (if cnm k = 99 then wAt ((plc k).getD 1 0) (.static (ym k)) else decide (cnm k < 13) && decide (xcnL.getD (cnm k) "" = (ym k).cls) && wAt ((plc k).getD 1 0) (.instanceMethod (ym k)) && wAt ((plc k).getD 2 0) (.selects (ym k).cls (ym k) (ym k))))
def okM2 (k : Nat) : Bool := okS k 0 ((xcd.getD (k / 32) []).getD (k % 32) []) && okC2 k
theorem okM_2 {k : Nat} (h : okM k = true) : okM2 k = true := by
  unfold okM at h
  unfold okM2
  rw [Bool.and_eq_true] at h ⊢
  refine ⟨h.1, ?_⟩
  have h2 := h.2
  unfold okC at h2
  unfold okC2
  rw [Bool.or_eq_true] at h2 ⊢
  rcases h2 with h2 | h2
  · exact Or.inl h2
  · refine Or.inr ?_
    rw [Bool.and_eq_true, Bool.and_eq_true] at h2 ⊢
    exact ⟨⟨h2.1.1, plainFor_of_name h2.1.2⟩, h2.2⟩
theorem okS_of (k : Nat) : ∀ (l : List xI) (ip : Nat), (∀ (j : Nat) (i : xI), l[j]? = some i → okI k (ip + j) i = true) → okS k ip l = true
  | [], _, _ => rfl
  | i :: l, ip, h => by
    show (okI k ip i && okS k (ip + 1) l) = true
    rw [Bool.and_eq_true]
    refine ⟨h 0 i rfl, okS_of k l (ip + 1) (fun j i2 hj => ?_)⟩
    have := h (j + 1) i2 hj
    rw [show ip + (j + 1) = ip + 1 + j by omega] at this
    exact this
theorem okI_all (hAll : ∀ k, k < 288 → okM2 k = true) (k ip : Nat) : okI k ip (ins k ip) = true := by
  rcases Nat.lt_or_ge k 288 with hk | hk
  · have h1 := hAll k hk
    unfold okM2 at h1
    rw [Bool.and_eq_true] at h1
    cases hg : ((xcd.getD (k / 32) []).getD (k % 32) [])[ip]? with
    | none =>
      have : ins k ip = (99, 0, 0, 0, []) := by
        unfold ins
        rw [List.getD_eq_getElem?_getD, hg]
        rfl
      rw [this]
      rfl
    | some i =>
      have : ins k ip = i := by
        unfold ins
        rw [List.getD_eq_getElem?_getD, hg]
        rfl
      rw [this]
      have := okS_at k _ 0 h1.1 ip i hg
      rw [Nat.zero_add] at this
      exact this
  · rw [ins_big hk]
    rfl
set_option maxRecDepth 100000 in
theorem pcs0_all : (List.range 288).all (fun k => pcs k 0 == 0) = true := by decide +kernel
theorem pcs0 {k : Nat} (h : k < 288) : pcs k 0 = 0 := beq_iff_eq.mp (List.all_eq_true.mp pcs0_all k (List.mem_range.mpr h))
/-- a method that may be called -/
def xCal (k : Nat) : Prop := k < 288 ∧ Cond.code (ym k) (byt k) (mxl k) (rtt k) ∈ tblG ∧ Cond.initialized (ym k).cls ∈ tblG ∧ (ym k).cls ≠ "java/lang/invoke/MethodHandle" ∧ (ym k).cls ≠ "java/lang/invoke/VarHandle" ∧ (parseMethodDescriptor (ym k).desc).map (fun d => d.parameters.length) = some (npm k) ∧ plainFor (ym k) = true ∧
  (cnm k = 99 → Cond.static (ym k) ∈ tblG) ∧ (cnm k ≠ 99 → cnm k < 13 ∧ xcnL.getD (cnm k) "" = (ym k).cls ∧ Cond.instanceMethod (ym k) ∈ tblG ∧ Cond.selects (ym k).cls (ym k) (ym k) ∈ tblG)
def xLaw (k : Nat) : Bool := (ym k).cls == "CellRowsLaw" && (ym k).name == "law"
theorem xCal_of (hAll : ∀ k, k < 288 → okM2 k = true) {k : Nat} (hk : k < 288) (hl : xLaw k = false) : xCal k := by
  have h1 := hAll k hk
  unfold okM2 at h1
  rw [Bool.and_eq_true] at h1
  have h2 := h1.2
  unfold okC2 at h2
  unfold xLaw at hl
  rw [Bool.or_eq_true, hl] at h2
  rcases h2 with h2 | h2
  · cases h2
  · rw [Bool.and_eq_true, Bool.and_eq_true, Bool.and_eq_true, Bool.and_eq_true, Bool.and_eq_true, Bool.and_eq_true] at h2
    obtain ⟨⟨⟨⟨⟨⟨a1, a2⟩, a3⟩, a4⟩, a5⟩, a6⟩, a7⟩ := h2
    refine ⟨hk, wAt_in a1, wAt_in a2, of_decide_eq_true a3, of_decide_eq_true a4, of_decide_eq_true a5, a6, fun h9 => ?_, fun h9 => ?_⟩
    · rw [if_pos h9] at a7
      exact wAt_in a7
    · rw [if_neg h9, Bool.and_eq_true, Bool.and_eq_true, Bool.and_eq_true] at a7
      exact ⟨of_decide_eq_true a7.1.1.1, of_decide_eq_true a7.1.1.2, wAt_in a7.1.2, wAt_in a7.2⟩
/-- no call of the tables goes to the law -/
def noLaw : List (List (List xI)) → Bool := fun t => t.all (fun g => g.all (fun c => c.all (fun i => !(i.1 == 73 || i.1 == 74) || !xLaw i.2.1)))
theorem fla_len {G : xG} : ∀ (as : List xV), (lg_sl (as.map (mv G))).length = (fla as).length
  | [] => rfl
  | v :: t => by
    have ih := fla_len (G := G) t
    unfold lg_sl at ih ⊢
    rw [List.map_cons, List.flatMap_cons, List.length_append, ih]
    by_cases h : ct1 v = true
    · rw [if_neg (by rw [mv_cat h]; decide), fla, if_pos h]
      simp
      omega
    · rw [if_pos (mv_cat2 h), fla, if_neg h]
      simp
      omega
theorem fla_gl {G : xG} : ∀ (as : List xV) (b : Nat) (i : Nat) (v : xV) (n : Nat), gl (fla as ++ List.replicate n none) i = some v → (b + i, mv G v) ∈ lv_args b (as.map (mv G)) ∧ v ∈ as
  | [], b, i, v, n, h => by
    unfold gl fla at h
    rw [List.nil_append] at h
    split at h
    · rename_i w hw
      have := List.mem_of_getElem? hw
      rw [List.mem_replicate] at this
      cases this.2
    · cases h
  | w :: t, b, i, v, n, h => by
    by_cases hc : ct1 w = true
    · rw [fla, if_pos hc] at h
      cases i with
      | zero =>
        unfold gl at h
        cases h
        exact ⟨List.mem_cons_self, List.mem_cons_self⟩
      | succ i =>
        have h2 : gl (fla t ++ List.replicate n none) i = some v := h
        obtain ⟨h3, h4⟩ := fla_gl t (b + 1) i v n h2
        refine ⟨List.mem_cons_of_mem _ ?_, List.mem_cons_of_mem _ h4⟩
        rw [if_neg (by rw [mv_cat hc]; decide)]
        rw [show b + (i + 1) = b + 1 + i by omega]
        exact h3
    · rw [fla, if_neg hc] at h
      cases i with
      | zero =>
        unfold gl at h
        cases h
        exact ⟨List.mem_cons_self, List.mem_cons_self⟩
      | succ i =>
        cases i with
        | zero =>
          unfold gl at h
          cases h
        | succ i =>
          have h2 : gl (fla t ++ List.replicate n none) i = some v := h
          obtain ⟨h3, h4⟩ := fla_gl t (b + 2) i v n h2
          refine ⟨List.mem_cons_of_mem _ ?_, List.mem_cons_of_mem _ h4⟩
          rw [if_pos (mv_cat2 hc)]
          rw [show b + (i + 1 + 1) = b + 2 + i by omega]
          exact h3
/-- what a frame's end may be -/
def xRet (k ipr : Nat) (r : Option xV) : Prop := (okI k ipr (ins k ipr) = true ∧ ∀ v, r = some v → okv v) ∧ (((ins k ipr).1 = 70 ∧ ∃ z, r = some (vi z)) ∨ ((ins k ipr).1 = 75 ∧ (r = some (vi 0) ∨ r = some (vi 1))) ∨ ((ins k ipr).1 = 71 ∧ r = none))
def xCore (l : Launch) (G : xG) (X : xL) (n : Nat) : Prop := ∀ (k ip : Nat) (ls : List (Option xV)) (st : List xV) (h : xH) (r : Option xV) (h2 : xH), run X n k ip ls st h = some (r, h2) → ∀ {p : Program} {e : Env} {R : Room} {s : State} {m : MethodId} {args : Array Value} {below : List Frame} {meth : Method} {c : Code} {H : Heap} {locs : List Loc} {cells slots : Nat} {Q : State → Prop} {arr : Array Slot}, xCx p s m args meth c k → rmF k ≤ R.frames → rmL k ≤ R.locals → cells ≤ R.cells → slots ≤ R.slots → xWs G X s H locs h → xLR G arr ls (mxl k) → (∀ v ∈ st, okv v) →
  (∀ ipr arr2 H2 locs2, xWs G X s H2 locs2 h2 → xRet k ipr r → W p l e R s m args below meth c H2 locs2 cells slots Q (F0 m (pcs k ipr) arr2 ((r.map (mv G)).toList))) → W p l e R s m args below meth c H locs cells slots Q (F0 m (pcs k ip) arr (st.map (mv G)))
theorem xofW {l : Launch} {y : MethodName} {ws ws' : List Cond} {rm : Room} {Pc : Array Value → State → Prop} {Qc : Array Value → State → Outcome → State → Prop} {mc ms : Nat} {free : Addr → Prop} {cc : ByteArray} {maxL : Nat} {ret : Option FieldType}
    (hy : plainFor y = true) (hw : ws = Cond.code y cc maxL ret :: ws')
    (body : ∀ p e s m args below meth c s₁, BodyLoose p l y (headSpec ws rm) cc maxL ret e s m args below meth c s₁ → c.maxLocals = maxL → Pc args s →
      W p l e (headSpec ws rm).room s m args below meth c s.heap [] 0 0 (MQ below Qc args s mc ms free) (entryFrame m args maxL)) : Met l y ws rm Pc Qc mc ms free := by
  refine MetFree.of_bodySF (code := cc) (maxLocals := maxL) (ret := ret) hy ?_ ?_
  · intro args s m h hn
    obtain ⟨meth, c, h1, h2, h3, h4, h5, h6, -, -⟩ := Cond.code_spec hn (atoms_spec (ws := ws) h _ (by rw [hw]; exact List.mem_cons_self))
    exact ⟨meth, c, h1, h2, h3, h4, h5, h6⟩
  · intro p e s m args below meth c s₁ B hml hP _
    have hh0 : s₁.heap = s.heap := by rw [B.state]; rfl
    obtain ⟨t, a1, o, b1, b2, b3⟩ := body p e s m args below meth c s₁ B hml hP s₁ hh0 (Stand.of_body B)
    exact ⟨t, o, a1, b1, b2, ⟨b3.1, b3.2⟩⟩
set_option maxHeartbeats 4000000 in
theorem xMet {l : Launch} {G : xG} {X : xL} {n k : Nat} {as : List xV} {h : xH} {r : Option xV} {h2 : xH} (hc : xCore l G X n) (hk : xCal k) (hrun : run X n k 0 (ent k as) [] h = some (r, h2)) (hen : (fla as).length ≤ mxl k) (has : ∀ v ∈ as, okv v) : Met l (ym k) (wsk k) (rmk k) (xPm G X as h) (xQm G X r h2) 0 0 (xA G) := by
  refine xofW (cc := byt k) (maxL := mxl k) (ret := rtt k) hk.2.2.2.2.2.2.1 rfl ?_
  intro p e s m args below meth c s₁ B hml hv
  obtain ⟨rfl, hWd, hO⟩ := hv
  have hts := atoms_spec (ws := wsk k) B.pre
  have hown : s.vm.findClass (ym k).cls = some m.cls := findClass_of_methodNamed B.named
  have hr := B.returns
  have hlk := B.notSynchronized
  have hl := lv_entry (as.map (mv G)) (n := mxl k) (by rw [fla_len]; exact hen)
  rw [lg_entry_eq]
  generalize (lg_sl (as.map (mv G)) ++ List.replicate (mxl k - (lg_sl (as.map (mv G))).length) Slot.unset).toArray = arr at hl ⊢
  have hLR : xLR G arr (ent k as) (mxl k) := by
    refine ⟨by unfold ent; rw [List.length_append, List.length_replicate]; omega, ⟨hl.1, hl.2.1, fun q hq => ?_⟩, fun i v hv => ?_⟩
    · obtain ⟨v, hv, e9⟩ := lvx_of hq
      have := (fla_gl (G := G) as 0 q.1 v _ hv).1
      rw [Nat.zero_add, ← e9] at this
      exact hl.2.2 q this
    · exact has v (fla_gl (G := G) as 0 i v _ hv).2
  have C : xCx p s m (as.map (mv G)).toArray meth c k := ⟨B.exec, B.bytes, hml, hown, fun w hw => hts w (List.mem_cons_of_mem _ hw), hlk⟩
  have Wl : xWs G X s s.heap [] h := ⟨hWd, va_S.rf, hO⟩
  have key := hc k 0 (ent k as) [] h r h2 hrun (R := (headSpec (wsk k) (rmk k)).room) (below := below) (cells := 0) (slots := 0) (Q := MQ below (xQm G X r h2) (as.map (mv G)).toArray s 0 0 (xA G)) (arr := arr) (e := e) C (Nat.le_refl _) (Nat.le_refl _) (Nat.zero_le _) (Nat.zero_le _) Wl hLR (fun v hv => by cases hv) ?_
  · rw [pcs0 hk.1] at key
    exact key
  · intro ipr arr2 H2 locs2 W2 hret
    obtain ⟨⟨hP, hK, hD, hR⟩, hS, hO2⟩ := W2
    have hend : ∀ t : State, t.heap = H2 → s.WarmedH t.vm → xQm G X r h2 (as.map (mv G)).toArray s (.returned (r.map (mv G))) t := by
      intro t ht hW
      refine ⟨rfl, ⟨⟨by rw [ht]; exact hP, va_K.moved hW.alike hK, hD, hR⟩, hO2.go (fun q h1 h3 => ?_) hW.alike, hret.1.2⟩, hS.F ht⟩
      rw [ht]
      exact hS.2.1 q h1 h3
    obtain ⟨⟨hok, -⟩, hcs⟩ := hret
    rcases hi : ins k ipr with ⟨op, a, b, z, js⟩
    rw [hi] at hok hcs
    rcases hcs with ⟨ho, z1, rfl⟩ | ⟨ho, hz1⟩ | ⟨ho, rfl⟩
    · replace ho : op = 70 := ho
      subst ho
      obtain ⟨hd, -, hw⟩ := okI_d hok (by show (70 : Nat) ≠ 99; decide)
      have hrt : rtt k = some .int := of_decide_eq_true (show decide (rtt k = some .int) = true from hw)
      exact W.iret (v := Int32.ofInt z1) B.exec B.bytes (by rw [hr, hrt]) hend hS.2.2 hd hlk
    · replace ho : op = 75 := ho
      subst ho
      obtain ⟨hd, -, hw⟩ := okI_d hok (by show (75 : Nat) ≠ 99; decide)
      have hrt : rtt k = some .boolean := of_decide_eq_true (show decide (rtt k = some .boolean) = true from hw)
      rcases hz1 with rfl | rfl
      · exact W.zret (v := Int32.ofInt 0) (ty := .boolean) B.exec B.bytes (by rw [hr, hrt]) rfl hend hS.2.2 hd hlk
      · exact W.zret (v := Int32.ofInt 1) (ty := .boolean) B.exec B.bytes (by rw [hr, hrt]) rfl hend hS.2.2 hd hlk
    · replace ho : op = 71 := ho
      subst ho
      obtain ⟨hd, -, hw⟩ := okI_d hok (by show (71 : Nat) ≠ 99; decide)
      have hrt : rtt k = none := of_decide_eq_true (show decide (rtt k = none) = true from hw)
      exact W.vret B.exec B.bytes (by rw [hr, hrt]) hend hS.2.2 hd hlk
