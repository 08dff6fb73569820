section SND
variable {p : Program} {l : Launch} {e : Env} {R : Room} {s : State} {m : MethodId} {args : Array Value} {below : List Frame} {meth : Method} {c : Code} {H : Heap} {locs : List Loc} {cells slots : Nat} {Q : State → Prop}
variable {G : xG} {X : xL} {k ip : Nat} {i : xI} {ls : List (Option xV)} {st : List xV} {h : xH} {q : xS} {arr : Array Slot}
theorem jmp_t (k ip t : Nat) : ((pcs k ip : Nat) : Int) + jmp k ip t = ((pcs k t : Nat) : Int) := by
  unfold jmp
  omega
theorem in0 : inR 0 := by decide
set_option maxHeartbeats 2000000 in
theorem snd_if {a b : Nat} {z : Int} {js : List Nat} {x : Int} {st0 : List xV} (hx : p.tables.exec = Jvm.exec) (hb : c.code = byt k) (hd : decode (byt k) (pcs k ip) = .ok (rawI k ip (40, a, b, z, js))) (hn : pcs k (ip + 1) = pcs k ip + 3) (hr : inR x)
    (kt : cmB a x 0 = true → W p l e R s m args below meth c H locs cells slots Q (F0 m (pcs k b) arr (st0.map (mv G)))) (kf : ¬ cmB a x 0 = true → W p l e R s m args below meth c H locs cells slots Q (F0 m (pcs k (ip + 1)) arr (st0.map (mv G)))) : W p l e R s m args below meth c H locs cells slots Q (F0 m (pcs k ip) arr (mv G (.inl x) :: st0.map (mv G))) := by
  rw [hn] at kf
  show W p l e R s m args below meth c H locs cells slots Q (F0 m (pcs k ip) arr (.int (Int32.ofInt x) :: st0.map (mv G)))
  have e0 : (0 : Int32) = Int32.ofInt 0 := rfl
  by_cases h0 : a = 0
  · subst h0
    refine lv_if_eq hx hb (tgt := pcs k b) hd (jmp_t k ip b) (fun t => ?_) (fun t => ?_)
    · rw [e0] at t; exact kt (decide_eq_true ((i32_eq hr in0).mp t))
    · rw [e0] at t; exact kf (fun w => t ((i32_eq hr in0).mpr (of_decide_eq_true w)))
  by_cases h1 : a = 1
  · subst h1
    refine lv_if_ne hx hb (tgt := pcs k b) hd (jmp_t k ip b) (fun t => ?_) (fun t => ?_)
    · rw [e0] at t; exact kt (decide_eq_true (fun w => t ((i32_eq hr in0).mpr w)))
    · rw [e0] at t; exact kf (fun w => absurd ((i32_eq hr in0).mp t) (of_decide_eq_true w))
  by_cases h2 : a = 2
  · subst h2
    refine lv_if_lt hx hb (tgt := pcs k b) hd (jmp_t k ip b) (fun t => ?_) (fun t => ?_)
    · rw [e0] at t; exact kt (decide_eq_true ((i32_lt hr in0).mp t))
    · rw [e0] at t; exact kf (fun w => t ((i32_lt hr in0).mpr (of_decide_eq_true w)))
  by_cases h3 : a = 3
  · subst h3
    refine lv_if_ge hx hb (tgt := pcs k b) hd (jmp_t k ip b) (fun t => ?_) (fun t => ?_)
    · rw [e0] at t; exact kt (decide_eq_true ((i32_le in0 hr).mp t))
    · rw [e0] at t; exact kf (fun w => t ((i32_le in0 hr).mpr (of_decide_eq_true w)))
  by_cases h4 : a = 4
  · subst h4
    refine lv_if_gt hx hb (tgt := pcs k b) hd (jmp_t k ip b) (fun t => ?_) (fun t => ?_)
    · rw [e0] at t; exact kt (decide_eq_true ((i32_lt in0 hr).mp t))
    · rw [e0] at t; exact kf (fun w => t ((i32_lt in0 hr).mpr (of_decide_eq_true w)))
  have hd2 : decode (byt k) (pcs k ip) = .ok (.ifCond .le (jmp k ip b), 3) := by
    rw [hd]
    simp [rawI, rawE, h0, h1, h2, h3, h4]
  have hcm : cmB a x 0 = decide (x ≤ 0) := by simp [cmB, h0, h1, h2, h3, h4]
  refine lv_if_le hx hb (tgt := pcs k b) hd2 (jmp_t k ip b) (fun t => ?_) (fun t => ?_)
  · rw [e0] at t; exact kt (by rw [hcm]; exact decide_eq_true ((i32_le hr in0).mp t))
  · rw [e0] at t; exact kf (fun w => t ((i32_le hr in0).mpr (of_decide_eq_true (by rw [hcm] at w; exact w))))
set_option maxHeartbeats 2000000 in
theorem snd_icmp {a b : Nat} {z : Int} {js : List Nat} {x y : Int} {st0 : List xV} (hx : p.tables.exec = Jvm.exec) (hb : c.code = byt k) (hd : decode (byt k) (pcs k ip) = .ok (rawI k ip (41, a, b, z, js))) (hn : pcs k (ip + 1) = pcs k ip + 3) (hr : inR x) (hy : inR y)
    (kt : cmB a x y = true → W p l e R s m args below meth c H locs cells slots Q (F0 m (pcs k b) arr (st0.map (mv G)))) (kf : ¬ cmB a x y = true → W p l e R s m args below meth c H locs cells slots Q (F0 m (pcs k (ip + 1)) arr (st0.map (mv G)))) : W p l e R s m args below meth c H locs cells slots Q (F0 m (pcs k ip) arr (mv G (.inl y) :: mv G (.inl x) :: st0.map (mv G))) := by
  rw [hn] at kf
  show W p l e R s m args below meth c H locs cells slots Q (F0 m (pcs k ip) arr (.int (Int32.ofInt y) :: .int (Int32.ofInt x) :: st0.map (mv G)))
  by_cases h0 : a = 0
  · subst h0
    refine lv_icmp_eq hx hb (tgt := pcs k b) hd (jmp_t k ip b) (fun t => ?_) (fun t => ?_)
    · exact kt (decide_eq_true ((i32_eq hr hy).mp t))
    · exact kf (fun w => t ((i32_eq hr hy).mpr (of_decide_eq_true w)))
  by_cases h1 : a = 1
  · subst h1
    refine lv_icmp_ne hx hb (tgt := pcs k b) hd (jmp_t k ip b) (fun t => ?_) (fun t => ?_)
    · exact kt (decide_eq_true (fun w => t ((i32_eq hr hy).mpr w)))
    · exact kf (fun w => absurd ((i32_eq hr hy).mp t) (of_decide_eq_true w))
  by_cases h2 : a = 2
  · subst h2
    refine lv_icmp_lt hx hb (tgt := pcs k b) hd (jmp_t k ip b) (fun t => ?_) (fun t => ?_)
    · exact kt (decide_eq_true ((i32_lt hr hy).mp t))
    · exact kf (fun w => t ((i32_lt hr hy).mpr (of_decide_eq_true w)))
  by_cases h3 : a = 3
  · subst h3
    refine lv_icmp_ge hx hb (tgt := pcs k b) hd (jmp_t k ip b) (fun t => ?_) (fun t => ?_)
    · exact kt (decide_eq_true ((i32_le hy hr).mp t))
    · exact kf (fun w => t ((i32_le hy hr).mpr (of_decide_eq_true w)))
  by_cases h4 : a = 4
  · subst h4
    refine lv_icmp_gt hx hb (tgt := pcs k b) hd (jmp_t k ip b) (fun t => ?_) (fun t => ?_)
    · exact kt (decide_eq_true ((i32_lt hy hr).mp t))
    · exact kf (fun w => t ((i32_lt hy hr).mpr (of_decide_eq_true w)))
  have hd2 : decode (byt k) (pcs k ip) = .ok (.if_icmp .le (jmp k ip b), 3) := by
    rw [hd]
    simp [rawI, rawE, h0, h1, h2, h3, h4]
  have hcm : cmB a x y = decide (x ≤ y) := by simp [cmB, h0, h1, h2, h3, h4]
  refine lv_icmp_le hx hb (tgt := pcs k b) hd2 (jmp_t k ip b) (fun t => ?_) (fun t => ?_)
  · exact kt (by rw [hcm]; exact decide_eq_true ((i32_le hr hy).mp t))
  · exact kf (fun w => t ((i32_le hr hy).mpr (of_decide_eq_true (by rw [hcm] at w; exact w))))
set_option maxHeartbeats 2000000 in
theorem snd_sw {a b : Nat} {z : Int} {js : List Nat} {x : Int} {st0 : List xV} (hx : p.tables.exec = Jvm.exec) (hb : c.code = byt k) (hd : decode (byt k) (pcs k ip) = .ok (rawI k ip (42, a, b, z, js))) (hr : inR x)
    (kt : W p l e R s m args below meth c H locs cells slots Q (F0 m (pcs k (swt z js x)) arr (st0.map (mv G)))) : W p l e R s m args below meth c H locs cells slots Q (F0 m (pcs k ip) arr (mv G (.inl x) :: st0.map (mv G))) := by
  show W p l e R s m args below meth c H locs cells slots Q (F0 m (pcs k ip) arr (.int (Int32.ofInt x) :: st0.map (mv G)))
  have hi := i32_in hr
  unfold swt at kt
  by_cases hc : z ≤ x ∧ x < z + ((js.length : Int) - 1)
  · rw [if_pos hc] at kt
    refine lv_tableIn hx hb (tgt := pcs k (js.getD ((x - z).toNat + 1) 0)) (off := jmp k ip (js.getD ((x - z).toNat + 1) 0)) hd (by rw [hi]; show ¬ x < z; omega) (by rw [hi]; show ¬ z + (js.length : Int) - 2 < x; omega) ?_ (jmp_t _ _ _) kt
    rw [hi]
    show ((js.drop 1).map (jmp k ip)).toArray[(x - z).toNat]? = _
    have hlt : (x - z).toNat + 1 < js.length := by omega
    rw [List.getElem?_toArray, List.getElem?_map, List.getElem?_drop, Nat.add_comm 1, List.getD_eq_getElem?_getD, List.getElem?_eq_getElem hlt]
    rfl
  · rw [if_neg hc] at kt
    exact lv_tableOut hx hb (tgt := pcs k (js.getD 0 0)) hd (by rw [hi]; show x < z ∨ z + (js.length : Int) - 2 < x; omega) (jmp_t _ _ _) kt
set_option maxHeartbeats 2000000 in
theorem snd_E (C : xCx p s m args meth c k) (hok : okI k ip i = true) (hop : 35 ≤ i.1 ∧ i.1 < 50) (hs : stE i ip ls st h = some q) (hl : xLR G arr ls (mxl k)) (hv : ∀ v ∈ st, okv v)
    (kk : ∀ arr2, xLR G arr2 q.2.1 (mxl k) → (∀ v ∈ q.2.2.1, okv v) → q.2.2.2 = h → W p l e R s m args below meth c H locs cells slots Q (F0 m (pcs k q.1) arr2 (q.2.2.1.map (mv G)))) : W p l e R s m args below meth c H locs cells slots Q (F0 m (pcs k ip) arr (st.map (mv G))) := by
  obtain ⟨hx, hb, hml, hown, hts, hlk⟩ := C
  obtain ⟨op, a, b, z, js⟩ := i
  replace hop : 35 ≤ op ∧ op < 50 := hop
  obtain ⟨hd, hn, hw⟩ := okI_d hok (by show op ≠ 99; omega)
  have hc : op = 35 ∨ op = 36 ∨ op = 37 ∨ op = 38 ∨ op = 39 ∨ op = 40 ∨ op = 41 ∨ op = 42 ∨ op = 43 ∨ op = 44 ∨ op = 45 ∨ op = 46 ∨ op = 47 ∨ op = 48 ∨ op = 49 := by omega
  rcases hc with rfl | rfl | rfl | rfl | rfl | rfl | rfl | rfl | rfl | rfl | rfl | rfl | rfl | rfl | rfl
  · replace hs : (match (generalizing := false) st with | v :: st => if ct1 v = true then some (ip + 1, ls, v :: v :: st, h) else none | _ => none) = some q := hs
    split at hs
    · rename_i v st0
      split at hs
      · rename_i hz
        cases hs
        refine lv_dup hx hb hd (mv_cat hz) ?_
        have := kk arr hl (cons_ok (hv _ List.mem_cons_self) hv) rfl
        rw [show pcs k (ip + 1) = pcs k ip + 1 from hn] at this
        exact this
      · cases hs
    · cases hs
  · replace hs : (match (generalizing := false) st with | v :: w :: st => if ct1 v = true ∧ ct1 w = true then some (ip + 1, ls, v :: w :: v :: w :: st, h) else none | _ => none) = some q := hs
    split at hs
    · rename_i v w st0
      split at hs
      · rename_i hz
        cases hs
        refine lv_dup2_11 hx hb hd (mv_cat hz.1) (mv_cat hz.2) ?_
        have := kk arr hl (cons_ok (hv _ List.mem_cons_self) (cons_ok (hv _ (List.mem_cons_of_mem _ List.mem_cons_self)) hv)) rfl
        rw [show pcs k (ip + 1) = pcs k ip + 1 from hn] at this
        exact this
      · cases hs
    · cases hs
  · replace hs : (match (generalizing := false) st with | v :: st => if ct1 v = true then some (ip + 1, ls, st, h) else none | _ => none) = some q := hs
    split at hs
    · rename_i v st0
      split at hs
      · rename_i hz
        cases hs
        refine lv_pop hx hb hd (mv_cat hz) ?_
        have := kk arr hl (tail_ok hv) rfl
        rw [show pcs k (ip + 1) = pcs k ip + 1 from hn] at this
        exact this
      · cases hs
    · cases hs
  · replace hs : (match gl ls a with | some (.inl x) => if stOK ls a = true ∧ inR (x + z) then some (ip + 1, ls.set a (some (vi (x + z))), st, h) else none | _ => none) = some q := hs
    split at hs
    · rename_i x hg
      split at hs
      · rename_i hz
        cases hs
        obtain ⟨kq, hkq⟩ := List.getElem?_of_mem (lvx_mem (G := G) hg)
        refine lv_iinc hx hb (i := a) (v := Int32.ofInt (x + z)) hd hl.2.1 hkq (by rw [Int32.ofInt_add]) (by rw [← hl.1]; exact stOK_lt hz.1) rfl (fun arr2 h2 => ?_)
        have := kk arr2 (hl.put hz.1 (show okv (vi (x + z)) from hz.2) h2) hv rfl
        rw [show pcs k (ip + 1) = pcs k ip + 3 from hn] at this
        exact this
      · cases hs
    · cases hs
  · replace hs : some (b, ls, st, h) = some q := hs
    cases hs
    exact lv_goto hx hb (tgt := pcs k b) hd (jmp_t k ip b) (kk arr hl hv rfl)
  · replace hs : (match (generalizing := false) st with | .inl x :: st => some (if cmB a x 0 = true then b else ip + 1, ls, st, h) | _ => none) = some q := hs
    split at hs
    · rename_i x st0
      cases hs
      refine snd_if hx hb hd hn (hv _ List.mem_cons_self) (fun t => ?_) (fun t => ?_)
      · have := kk arr hl (tail_ok hv) rfl
        dsimp only at this
        rw [if_pos t] at this
        exact this
      · have := kk arr hl (tail_ok hv) rfl
        dsimp only at this
        rw [if_neg t] at this
        exact this
    · cases hs
  · replace hs : (match (generalizing := false) st with | .inl y :: .inl x :: st => some (if cmB a x y = true then b else ip + 1, ls, st, h) | _ => none) = some q := hs
    split at hs
    · rename_i y x st0
      cases hs
      refine snd_icmp hx hb hd hn (hv _ (List.mem_cons_of_mem _ List.mem_cons_self)) (hv _ List.mem_cons_self) (fun t => ?_) (fun t => ?_)
      · have := kk arr hl (tail_ok (tail_ok hv)) rfl
        dsimp only at this
        rw [if_pos t] at this
        exact this
      · have := kk arr hl (tail_ok (tail_ok hv)) rfl
        dsimp only at this
        rw [if_neg t] at this
        exact this
    · cases hs
  · replace hs : (match (generalizing := false) st with | .inl x :: st => some (swt z js x, ls, st, h) | _ => none) = some q := hs
    split at hs
    · rename_i x st0
      cases hs
      exact snd_sw hx hb hd (hv _ List.mem_cons_self) (kk arr hl (tail_ok hv) rfl)
    · cases hs
  · cases hs
  · cases hs
  · cases hs
  · cases hs
  · cases hs
  · cases hs
  · cases hs
end SND
