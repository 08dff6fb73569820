section SND
variable {p : Program} {l : Launch} {e : Env} {R : Room} {s : State} {m : MethodId} {args : Array Value} {below : List Frame} {meth : Method} {c : Code} {H : Heap} {locs : List Loc} {cells slots : Nat} {Q : State → Prop}
variable {G : xG} {X : xL} {k ip : Nat} {i : xI} {ls : List (Option xV)} {st : List xV} {h : xH} {q : xS} {arr : Array Slot}
set_option maxHeartbeats 4000000 in
theorem snd_F (C : xCx p s m args meth c k) (hG : xOK G X) (hRF : rmF k ≤ R.frames) (hRL : rmL k ≤ R.locals) (hok : okI k ip i = true) (hs : stF X i ip ls st h = some q) (hl : xLR G arr ls (mxl k)) (hv : ∀ v ∈ st, okv v) (Wl : xWs G X s H locs h)
    (kk : ∀ H2 locs2 arr2, xWs G X s H2 locs2 q.2.2.2 → xLR G arr2 q.2.1 (mxl k) → (∀ v ∈ q.2.2.1, okv v) → W p l e R s m args below meth c H2 locs2 cells slots Q (F0 m (pcs k q.1) arr2 (q.2.2.1.map (mv G)))) : W p l e R s m args below meth c H locs cells slots Q (F0 m (pcs k ip) arr (st.map (mv G))) := by
  obtain ⟨op, a, b, z, js⟩ := i
  unfold stF at hs
  dsimp only at hs
  by_cases h1 : op = 50 ∨ op = 51 ∨ op = 52
  · rw [if_pos h1] at hs
    split at hs
    · rename_i x st0
      split at hs
      · rename_i hT
        cases hs
        exact snd_get C hG hok h1 hT Wl (tail_ok hv) (fun hv2 => kk _ _ _ Wl hl hv2)
      · cases hs
    · cases hs
  rw [if_neg h1] at hs
  by_cases h2 : op = 53
  · rw [if_pos h2] at hs
    split at hs
    · rename_i v x st0
      split at hs
      · rename_i hT
        cases hs
        subst h2
        exact snd_put (v := v) C hG hok (Or.inl rfl) hT Wl (hv _ List.mem_cons_self) (fun H2 locs2 w => kk _ _ _ w hl (tail_ok (tail_ok hv)))
      · cases hs
    · cases hs
  rw [if_neg h2] at hs
  by_cases h3 : op = 54
  · rw [if_pos h3] at hs
    split at hs
    · rename_i v x st0
      split at hs
      · rename_i hT
        cases hs
        subst h3
        exact snd_put (v := v) C hG hok (Or.inr rfl) hT Wl (hv _ List.mem_cons_self) (fun H2 locs2 w => kk _ _ _ w hl (tail_ok (tail_ok hv)))
      · cases hs
    · cases hs
  rw [if_neg h3] at hs
  by_cases h4 : op = 55
  · rw [if_pos h4] at hs
    split at hs
    · rename_i j x st0
      split at hs
      · rename_i hT
        cases hs
        exact snd_ald C hG hok (Or.inl ⟨h4, hT.1⟩) hT.2.1 hT.2.2 Wl (hv _ List.mem_cons_self) (tail_ok (tail_ok hv)) (fun hv2 => kk _ _ _ Wl hl hv2)
      · cases hs
    · cases hs
  rw [if_neg h4] at hs
  by_cases h5 : op = 57
  · rw [if_pos h5] at hs
    split at hs
    · rename_i j x st0
      split at hs
      · rename_i hT
        cases hs
        exact snd_ald C hG hok (Or.inr ⟨h5, hT.1⟩) hT.2.1 hT.2.2 Wl (hv _ List.mem_cons_self) (tail_ok (tail_ok hv)) (fun hv2 => kk _ _ _ Wl hl hv2)
      · cases hs
    · cases hs
  rw [if_neg h5] at hs
  by_cases h6 : op = 56
  · rw [if_pos h6] at hs
    split at hs
    · rename_i v j x st0
      split at hs
      · rename_i hT
        cases hs
        exact snd_ast C hG hok (Or.inl ⟨h6, hT.1⟩) hT.2.1 hT.2.2 Wl (hv _ (List.mem_cons_of_mem _ List.mem_cons_self)) (hv _ List.mem_cons_self) (fun H2 locs2 w => kk _ _ _ w hl (tail_ok (tail_ok (tail_ok hv))))
      · cases hs
    · cases hs
  rw [if_neg h6] at hs
  by_cases h7 : op = 58
  · rw [if_pos h7] at hs
    split at hs
    · rename_i v j x st0
      split at hs
      · rename_i hT
        cases hs
        exact snd_ast C hG hok (Or.inr ⟨h7, hT.1, hT.2.1⟩) hT.2.2.1 hT.2.2.2 Wl (hv _ (List.mem_cons_of_mem _ List.mem_cons_self)) (hv _ List.mem_cons_self) (fun H2 locs2 w => kk _ _ _ w hl (tail_ok (tail_ok (tail_ok hv))))
      · cases hs
    · cases hs
  rw [if_neg h7] at hs
  by_cases h8 : op = 59
  · rw [if_pos h8] at hs
    subst h8
    split at hs
    · rename_i x st0
      split at hs
      · rename_i hT
        cases hs
        exact snd_len C hG hok hT Wl (tail_ok hv) (fun hv2 => kk _ _ _ Wl hl hv2)
      · cases hs
    · cases hs
  rw [if_neg h8] at hs
  by_cases h9 : op = 60
  · rw [if_pos h9] at hs
    split at hs
    · rename_i j x st0
      split at hs
      · rename_i hT
        cases hs
        exact snd_aal C hG hok (Or.inl ⟨h9, hT.1⟩) hT.2.1 hT.2.2 Wl (hv _ List.mem_cons_self) (tail_ok (tail_ok hv)) (fun hv2 => kk _ _ _ Wl hl hv2)
      · cases hs
    · cases hs
  rw [if_neg h9] at hs
  by_cases h10 : op = 66
  · rw [if_pos h10] at hs
    split at hs
    · rename_i j x st0
      split at hs
      · rename_i hT
        cases hs
        exact snd_aal C hG hok (Or.inr ⟨h10, hT.1⟩) hT.2.1 hT.2.2 Wl (hv _ List.mem_cons_self) (tail_ok (tail_ok hv)) (fun hv2 => kk _ _ _ Wl hl hv2)
      · cases hs
    · cases hs
  rw [if_neg h10] at hs
  by_cases h11 : op = 61
  · rw [if_pos h11] at hs
    subst h11
    cases hs
    exact snd_gst C hok Wl hv (fun hv2 => kk _ _ _ Wl hl hv2)
  rw [if_neg h11] at hs
  by_cases h12 : op = 62
  · rw [if_pos h12] at hs
    subst h12
    split at hs
    · rename_i n dp d sp x
      split at hs
      · rename_i hT
        cases hs
        exact snd_cpy C hG hRF hRL hl.2.1.1 hok hT.1 hT.2.1 hT.2.2.1 hT.2.2.2.1 hT.2.2.2.2.1 hT.2.2.2.2.2 Wl (hv (.inl sp) (by simp)) (hv (.inl dp) (by simp)) (hv (.inl n) (by simp)) (fun H2 locs2 w => kk _ _ _ w hl (fun v hv => by cases hv))
      · cases hs
    · cases hs
  rw [if_neg h12] at hs
  cases hs
theorem snd_stp (C : xCx p s m args meth c k) (hG : xOK G X) (hRF : rmF k ≤ R.frames) (hRL : rmL k ≤ R.locals) (hok : okI k ip i = true) (hs : stp X i ip ls st h = some q) (hl : xLR G arr ls (mxl k)) (hv : ∀ v ∈ st, okv v) (Wl : xWs G X s H locs h)
    (kk : ∀ H2 locs2 arr2, xWs G X s H2 locs2 q.2.2.2 → xLR G arr2 q.2.1 (mxl k) → (∀ v ∈ q.2.2.1, okv v) → W p l e R s m args below meth c H2 locs2 cells slots Q (F0 m (pcs k q.1) arr2 (q.2.2.1.map (mv G)))) : W p l e R s m args below meth c H locs cells slots Q (F0 m (pcs k ip) arr (st.map (mv G))) := by
  unfold stp at hs
  by_cases h1 : i.1 < 10
  · rw [if_pos h1] at hs
    exact snd_A C hok h1 hs hl hv (fun arr2 a b e => kk H locs arr2 (by rw [e]; exact Wl) a b)
  rw [if_neg h1] at hs
  by_cases h2 : i.1 < 18
  · rw [if_pos h2] at hs
    exact snd_B C hok ⟨by omega, h2⟩ hs hl hv (fun arr2 a b e => kk H locs arr2 (by rw [e]; exact Wl) a b)
  rw [if_neg h2] at hs
  by_cases h3 : i.1 < 28
  · rw [if_pos h3] at hs
    exact snd_C C hok ⟨by omega, h3⟩ hs hl hv (fun arr2 a b e => kk H locs arr2 (by rw [e]; exact Wl) a b)
  rw [if_neg h3] at hs
  by_cases h4 : i.1 < 35
  · rw [if_pos h4] at hs
    exact snd_D C hok ⟨by omega, h4⟩ hs hl hv (fun arr2 a b e => kk H locs arr2 (by rw [e]; exact Wl) a b)
  rw [if_neg h4] at hs
  by_cases h5 : i.1 < 50
  · rw [if_pos h5] at hs
    exact snd_E C hok ⟨by omega, h5⟩ hs hl hv (fun arr2 a b e => kk H locs arr2 (by rw [e]; exact Wl) a b)
  rw [if_neg h5] at hs
  exact snd_F C hG hRF hRL hok hs hl hv Wl kk
/-! calls -/
def xPm (G : xG) (X : xL) (as : List xV) (h : xH) : Array Value → State → Prop := va_Pc (as.map (mv G)) (fun U => xWd G X U U.heap h ∧ xOld G X U U.heap h)
def xQm (G : xG) (X : xL) (r : Option xV) (h2 : xH) : Array Value → State → Outcome → State → Prop := fun _ st o t => o = .returned (r.map (mv G)) ∧ (xWd G X t t.heap h2 ∧ xOld G X t t.heap h2 ∧ ∀ v, r = some v → okv v) ∧ va_F (xA G) st t
def wsk (k : Nat) : List Cond := Cond.code (ym k) (byt k) (mxl k) (rtt k) :: tblG
def rmk (k : Nat) : Room := { frames := rmF k, cells := 0, slots := 0, locals := rmL k }
theorem xOld.go {U t : State} {H0 H1 : Heap} {h : xH} (hO : xOld G X U H0 h) (hk : ∀ q : Nat, q < H0.size → ¬ xA G q → H1[q]? = H0[q]?) (hvm : U.vm.Alike t.vm) : xOld G X t H1 h := by
  refine ⟨fun a ha => ?_, fun j hj => ((hO.2 j hj).kept hk).moved hvm⟩
  obtain ⟨h1, h2⟩ := hO.1 a ha
  refine ⟨(h1.kept (hk _ ?_ h2)).moved hvm, h2⟩
  obtain ⟨scr, h3, -⟩ := h1
  exact (Array.getElem?_eq_some_iff.mp h3).1
theorem xOld.back {U t : State} {H0 H1 : Heap} {h h2 : xH} (hO : xOld G X U H0 h) (hO2 : xOld G X t H1 h2) (hk : ∀ q : Nat, q < H0.size → ¬ xA G q → H1[q]? = H0[q]?) (hvm : t.vm.Alike U.vm) : xOld G X U H0 h2 := by
  refine ⟨fun a ha => ?_, hO.2⟩
  obtain ⟨h1, h2⟩ := hO.1 a ha
  refine ⟨((hO2.1 a ha).1.kept (hk _ ?_ h2).symm).moved hvm, h2⟩
  obtain ⟨scr, h3, -⟩ := h1
  exact (Array.getElem?_eq_some_iff.mp h3).1
theorem xgo {pc : Nat} {st0 rest : List Value} {r : Option xV} {h2 : xH} {a : Array Value} (hr : va_Run p l e R s m args below meth c H locs cells slots 0 0 (F0 m pc arr st0) rest (xQm G X r h2 a) (xA G)) (Wl : xWs G X s H locs h)
    (kk : ∀ H1 locs1, xWs G X s H1 locs1 h2 → (∀ v, r = some v → okv v) → W p l e R s m args below meth c H1 locs1 cells slots Q (F0 m (pc + 3) arr ((r.map (mv G)).toList ++ rest))) : W p l e R s m args below meth c H locs cells slots Q (F0 m pc arr st0) := by
  intro T hT Xs
  obtain ⟨⟨hP, hK, hD, hR⟩, hS, hO⟩ := Wl
  obtain ⟨v, st₀, t, T', L, h0, X', hL, e1, e2, ⟨hv, ⟨⟨hP1, hK1, hD1, hR1⟩, hO1, hov⟩, hz, hk⟩, st⟩ := hr T hT Xs
  cases hv
  rw [h0] at hz hk
  have hvm : s.vm.Alike t.vm := by rw [← e2]; exact X'.warmed.alike
  have hS2 : va_S (xA G) s.heap T'.heap (locs ++ L) := ⟨Nat.le_trans hS.1 (by rw [e1]; exact hz), fun q h1 h2 => by rw [e1, hk q (Nat.lt_of_lt_of_le h1 hS.1) h2]; exact hS.2.1 q h1 h2, fun q hq => by
      rcases List.mem_append.mp hq with h | h
      · exact hS.2.2 q h
      · exact hL q h⟩
  obtain ⟨t2, a1, b1⟩ := kk T'.heap (locs ++ L) ⟨⟨by rw [e1]; exact hP1, hK, hD1, hR1⟩, hS2, hO.back hO1 (fun q h1 h2 => by rw [← e1]; exact hS2.2.1 q h1 h2) hvm.symm⟩ hov T' rfl X'
  exact ⟨t2, st t2 a1, b1⟩
theorem xPm_blind {as : List xV} {h : xH} : FrameBlind (xPm G X as h) := by
  intro a U g mk q
  obtain ⟨q0, ⟨qP, qK, qD, qR⟩, qO⟩ := q
  exact ⟨q0, ⟨qP, va_K.moved (u := U) (U := U.calling g mk a) (Vm.Alike.refl U.vm) qK, qD, qR⟩, qO.go (fun _ _ _ => rfl) (Vm.Alike.refl U.vm)⟩
theorem xPm_at {as : List xV} (Wl : xWs G X s H locs h) : ∀ U : State, U.heap = H → s.WarmedH U.vm → xPm G X as h (as.map (mv G)).toArray U := by
  intro U hU hW
  obtain ⟨⟨hP, hK, hD, hR⟩, hS, hO⟩ := Wl
  refine ⟨rfl, ⟨by rw [hU]; exact hP, va_K.moved hW.alike hK, hD, hR⟩, hO.go (fun q h1 h2 => ?_) hW.alike⟩
  rw [hU]
  exact hS.2.1 q h1 h2
theorem wsk_good {k2 : Nat} (hcd : Cond.code (ym k2) (byt k2) (mxl k2) (rtt k2) ∈ tblG) : GoodIn tblG (wsk k2) := by
  intro w hw
  have hm : w ∈ tblG := by
    rcases List.mem_cons.mp hw with e | e
    · rw [e]; exact hcd
    · exact e
  exact ⟨hm, good_of_word (List.mem_filter.mp hm).2⟩
end SND
