/-! A STEP OF THE INTERPRETER IS A STEP OF THE MACHINE -/
theorem okI_d {k ip : Nat} {i : xI} (h : okI k ip i = true) (h9 : i.1 ≠ 99) : decode (byt k) (pcs k ip) = .ok (rawI k ip i) ∧ pcs k (ip + 1) = pcs k ip + (rawI k ip i).2 ∧ okW k i = true := by
  unfold okI at h
  rw [Bool.or_eq_true] at h
  rcases h with h | h
  · exact absurd (beq_iff_eq.mp h) h9
  · rw [Bool.and_eq_true, Bool.and_eq_true] at h
    exact ⟨of_decide_eq_true h.1.1, of_decide_eq_true h.1.2, h.2⟩
/-- what a method stands in -/
def xCx (p : Program) (s : State) (m : MethodId) (args : Array Value) (meth : Method) (c : Code) (k : Nat) : Prop :=
  p.tables.exec = Jvm.exec ∧ c.code = byt k ∧ c.maxLocals = mxl k ∧ s.vm.findClass (ym k).cls = some m.cls ∧ (∀ w ∈ tblG, w.before args s = true) ∧ meth.locks = false
section SND
variable {p : Program} {l : Launch} {e : Env} {R : Room} {s : State} {m : MethodId} {args : Array Value} {below : List Frame} {meth : Method} {c : Code} {H : Heap} {locs : List Loc} {cells slots : Nat} {Q : State → Prop}
variable {G : xG} {X : xL} {k ip : Nat} {i : xI} {ls : List (Option xV)} {st : List xV} {h : xH} {q : xS} {arr : Array Slot}
theorem cons_ok {v : xV} {st : List xV} (hv : okv v) (hs : ∀ w ∈ st, okv w) : ∀ w ∈ v :: st, okv w := fun w hw => by
  rcases List.mem_cons.mp hw with e | e
  · rw [e]; exact hv
  · exact hs w e
theorem tail_ok {v : xV} {st : List xV} (hs : ∀ w ∈ v :: st, okv w) : ∀ w ∈ st, okv w := fun w hw => hs w (List.mem_cons_of_mem _ hw)
set_option maxHeartbeats 1000000 in
theorem snd_A (C : xCx p s m args meth c k) (hok : okI k ip i = true) (hop : i.1 < 10) (hs : stA i ip ls st h = some q) (hl : xLR G arr ls (mxl k)) (hv : ∀ v ∈ st, okv v)
    (kk : ∀ arr2, xLR G arr2 q.2.1 (mxl k) → (∀ v ∈ q.2.2.1, okv v) → q.2.2.2 = h → W p l e R s m args below meth c H locs cells slots Q (F0 m (pcs k q.1) arr2 (q.2.2.1.map (mv G)))) : W p l e R s m args below meth c H locs cells slots Q (F0 m (pcs k ip) arr (st.map (mv G))) := by
  obtain ⟨hx, hb, hml, hown, hts, hlk⟩ := C
  obtain ⟨op, a, b, z, js⟩ := i
  obtain ⟨hd, hn, hw⟩ := okI_d hok (by show op ≠ 99; have : op < 10 := hop; omega)
  have hop : op < 10 := hop
  have hc : op = 0 ∨ op = 1 ∨ op = 2 ∨ op = 3 ∨ op = 4 ∨ op = 5 ∨ op = 6 ∨ op = 7 ∨ op = 8 ∨ op = 9 := by omega
  rcases hc with rfl | rfl | rfl | rfl | rfl | rfl | rfl | rfl | rfl | rfl
  · have h4 : a < 4 := of_decide_eq_true (show decide (a < 4) = true from hw)
    replace hs : (match gl ls a with | some (.inl z) => some (ip + 1, ls, vi z :: st, h) | _ => none) = some q := hs
    split at hs
    · rename_i z0 hg
      cases hs
      refine lv_iload_n hx hb (i := a) hd (show a % 4 = a by omega) (hl.val hg) ?_
      have := kk arr hl (cons_ok (hl.2.2 _ _ hg) hv) rfl
      rw [show pcs k (ip + 1) = pcs k ip + 1 from hn] at this
      exact this
    · cases hs
  · replace hs : (match gl ls a with | some (.inl z) => some (ip + 1, ls, vi z :: st, h) | _ => none) = some q := hs
    split at hs
    · rename_i z0 hg
      cases hs
      refine lv_iload hx hb (i := a) hd (hl.val hg) ?_
      have := kk arr hl (cons_ok (hl.2.2 _ _ hg) hv) rfl
      rw [show pcs k (ip + 1) = pcs k ip + 2 from hn] at this
      exact this
    · cases hs
  · have h4 : a < 4 := of_decide_eq_true (show decide (a < 4) = true from hw)
    replace hs : (match gl ls a with | some (.inr (.inl a)) => some (ip + 1, ls, vr a :: st, h) | _ => none) = some q := hs
    split at hs
    · rename_i z0 hg
      cases hs
      refine lv_aload_n hx hb (i := a) hd (show a % 4 = a by omega) (hl.val hg) ?_
      have := kk arr hl (cons_ok (hl.2.2 _ _ hg) hv) rfl
      rw [show pcs k (ip + 1) = pcs k ip + 1 from hn] at this
      exact this
    · cases hs
  · replace hs : (match gl ls a with | some (.inr (.inl a)) => some (ip + 1, ls, vr a :: st, h) | _ => none) = some q := hs
    split at hs
    · rename_i z0 hg
      cases hs
      refine lv_aload hx hb (i := a) hd (hl.val hg) ?_
      have := kk arr hl (cons_ok (hl.2.2 _ _ hg) hv) rfl
      rw [show pcs k (ip + 1) = pcs k ip + 2 from hn] at this
      exact this
    · cases hs
  · have h4 : a < 4 := of_decide_eq_true (show decide (a < 4) = true from hw)
    replace hs : (match gl ls a with | some (.inr (.inr a)) => some (ip + 1, ls, vl a :: st, h) | _ => none) = some q := hs
    split at hs
    · rename_i z0 hg
      cases hs
      refine lv_lload_n hx hb (i := a) hd (show a % 4 = a by omega) (hl.val hg) ?_
      have := kk arr hl (cons_ok (hl.2.2 _ _ hg) hv) rfl
      rw [show pcs k (ip + 1) = pcs k ip + 1 from hn] at this
      exact this
    · cases hs
  · replace hs : (match gl ls a with | some (.inr (.inr a)) => some (ip + 1, ls, vl a :: st, h) | _ => none) = some q := hs
    split at hs
    · rename_i z0 hg
      cases hs
      refine lv_lload hx hb (i := a) hd (hl.val hg) ?_
      have := kk arr hl (cons_ok (hl.2.2 _ _ hg) hv) rfl
      rw [show pcs k (ip + 1) = pcs k ip + 2 from hn] at this
      exact this
    · cases hs
  · have h4 : a < 4 := of_decide_eq_true (show decide (a < 4) = true from hw)
    replace hs : (match (generalizing := false) st with | .inl z :: st => if stOK ls a = true then some (ip + 1, ls.set a (some (vi z)), st, h) else none | _ => none) = some q := hs
    split at hs
    · rename_i z0 st0
      split at hs
      · rename_i ho
        cases hs
        refine lv_istore_n hx hb (i := a) hd (show a % 4 = a by omega) hl.2.1 (by rw [← hl.1]; exact stOK_lt ho) rfl (fun arr2 h2 => ?_)
        have := kk arr2 (hl.put ho (hv _ List.mem_cons_self) h2) (tail_ok hv) rfl
        rw [show pcs k (ip + 1) = pcs k ip + 1 from hn] at this
        exact this
      · cases hs
    · cases hs
  · replace hs : (match (generalizing := false) st with | .inl z :: st => if stOK ls a = true then some (ip + 1, ls.set a (some (vi z)), st, h) else none | _ => none) = some q := hs
    split at hs
    · rename_i z0 st0
      split at hs
      · rename_i ho
        cases hs
        refine lv_istore hx hb (i := a) hd hl.2.1 (by rw [← hl.1]; exact stOK_lt ho) rfl (fun arr2 h2 => ?_)
        have := kk arr2 (hl.put ho (hv _ List.mem_cons_self) h2) (tail_ok hv) rfl
        rw [show pcs k (ip + 1) = pcs k ip + 2 from hn] at this
        exact this
      · cases hs
    · cases hs
  · have h4 : a < 4 := of_decide_eq_true (show decide (a < 4) = true from hw)
    replace hs : (match (generalizing := false) st with | .inr (.inl z) :: st => if stOK ls a = true then some (ip + 1, ls.set a (some (vr z)), st, h) else none | _ => none) = some q := hs
    split at hs
    · rename_i z0 st0
      split at hs
      · rename_i ho
        cases hs
        refine lv_astore_n hx hb (i := a) hd (show a % 4 = a by omega) hl.2.1 (by rw [← hl.1]; exact stOK_lt ho) rfl (fun arr2 h2 => ?_)
        have := kk arr2 (hl.put ho (hv _ List.mem_cons_self) h2) (tail_ok hv) rfl
        rw [show pcs k (ip + 1) = pcs k ip + 1 from hn] at this
        exact this
      · cases hs
    · cases hs
  · replace hs : (match (generalizing := false) st with | .inr (.inl z) :: st => if stOK ls a = true then some (ip + 1, ls.set a (some (vr z)), st, h) else none | _ => none) = some q := hs
    split at hs
    · rename_i z0 st0
      split at hs
      · rename_i ho
        cases hs
        refine lv_astore hx hb (i := a) hd hl.2.1 (by rw [← hl.1]; exact stOK_lt ho) rfl (fun arr2 h2 => ?_)
        have := kk arr2 (hl.put ho (hv _ List.mem_cons_self) h2) (tail_ok hv) rfl
        rw [show pcs k (ip + 1) = pcs k ip + 2 from hn] at this
        exact this
      · cases hs
    · cases hs
set_option maxHeartbeats 1000000 in
theorem snd_B (C : xCx p s m args meth c k) (hok : okI k ip i = true) (hop : 10 ≤ i.1 ∧ i.1 < 18) (hs : stB i ip ls st h = some q) (hl : xLR G arr ls (mxl k)) (hv : ∀ v ∈ st, okv v)
    (kk : ∀ arr2, xLR G arr2 q.2.1 (mxl k) → (∀ v ∈ q.2.2.1, okv v) → q.2.2.2 = h → W p l e R s m args below meth c H locs cells slots Q (F0 m (pcs k q.1) arr2 (q.2.2.1.map (mv G)))) : W p l e R s m args below meth c H locs cells slots Q (F0 m (pcs k ip) arr (st.map (mv G))) := by
  obtain ⟨hx, hb, hml, hown, hts, hlk⟩ := C
  obtain ⟨op, a, b, z, js⟩ := i
  replace hop : 10 ≤ op ∧ op < 18 := hop
  obtain ⟨hd, hn, hw⟩ := okI_d hok (by show op ≠ 99; omega)
  have hc : op = 10 ∨ op = 11 ∨ op = 12 ∨ op = 13 ∨ op = 14 ∨ op = 15 ∨ op = 16 ∨ op = 17 := by omega
  rcases hc with rfl | rfl | rfl | rfl | rfl | rfl | rfl | rfl
  · cases hs
  · replace hs : (if inR z then some (ip + 1, ls, vi z :: st, h) else none) = some q := hs
    split at hs
    · rename_i hz
      cases hs
      refine lv_iconst hx hb (v := Int32.ofInt z) hd rfl ?_
      have := kk arr hl (cons_ok hz hv) rfl
      rw [show pcs k (ip + 1) = pcs k ip + 1 from hn] at this
      exact this
    · cases hs
  · replace hs : (if -128 ≤ z ∧ z ≤ 127 then some (ip + 1, ls, vi z :: st, h) else none) = some q := hs
    split at hs
    · rename_i hz
      cases hs
      have hr : inR z := ⟨by omega, by omega⟩
      refine lv_bipush hx hb (v := Int32.ofInt z) hd ?_ ?_
      · show (Int8.ofInt z).toInt32 = Int32.ofInt z
        apply Int32.toInt_inj.mp
        rw [Int8.toInt_toInt32, i32_in hr, Int8.toInt_ofInt_of_le (by omega) (by omega)]
      have := kk arr hl (cons_ok hr hv) rfl
      rw [show pcs k (ip + 1) = pcs k ip + 2 from hn] at this
      exact this
    · cases hs
  · replace hs : (if -32768 ≤ z ∧ z ≤ 32767 then some (ip + 1, ls, vi z :: st, h) else none) = some q := hs
    split at hs
    · rename_i hz
      cases hs
      have hr : inR z := ⟨by omega, by omega⟩
      refine lv_sipush hx hb (v := Int32.ofInt z) hd ?_ ?_
      · show (Int16.ofInt z).toInt32 = Int32.ofInt z
        apply Int32.toInt_inj.mp
        rw [Int16.toInt_toInt32, i32_in hr, Int16.toInt_ofInt_of_le (by omega) (by omega)]
      have := kk arr hl (cons_ok hr hv) rfl
      rw [show pcs k (ip + 1) = pcs k ip + 3 from hn] at this
      exact this
    · cases hs
  · replace hs : (if inR z then some (ip + 1, ls, vi z :: st, h) else none) = some q := hs
    split at hs
    · rename_i hz
      cases hs
      refine lv_ldc hx hb hown (hts _ (wAt_in hw)) hd ?_
      have := kk arr hl (cons_ok hz hv) rfl
      rw [show pcs k (ip + 1) = pcs k ip + 2 from hn] at this
      exact this
    · cases hs
  · replace hs : (if inR z then some (ip + 1, ls, vi z :: st, h) else none) = some q := hs
    split at hs
    · rename_i hz
      cases hs
      refine lv_ldcw hx hb hown (hts _ (wAt_in hw)) hd ?_
      have := kk arr hl (cons_ok hz hv) rfl
      rw [show pcs k (ip + 1) = pcs k ip + 3 from hn] at this
      exact this
    · cases hs
  · replace hs : (if inL z then some (ip + 1, ls, vl z :: st, h) else none) = some q := hs
    split at hs
    · rename_i hz
      cases hs
      have hz2 : z = 0 ∨ z = 1 := of_decide_eq_true (show decide (z = 0 ∨ z = 1) = true from hw)
      refine lv_lconst hx hb (v := Int64.ofInt z) hd ?_ ?_
      · rcases hz2 with rfl | rfl <;> rfl
      have := kk arr hl (cons_ok hz hv) rfl
      rw [show pcs k (ip + 1) = pcs k ip + 1 from hn] at this
      exact this
    · cases hs
  · replace hs : (if inL z then some (ip + 1, ls, vl z :: st, h) else none) = some q := hs
    split at hs
    · rename_i hz
      cases hs
      refine lv_ldc2 hx hb hown (hts _ (wAt_in hw)) hd ?_
      have := kk arr hl (cons_ok hz hv) rfl
      rw [show pcs k (ip + 1) = pcs k ip + 3 from hn] at this
      exact this
    · cases hs
end SND
