/-! THE BEGINNING, III: the words of the claim; the loop runs in the machine -/
def R_law : String := "CellRowsLaw"
def lw_P (b : Addr) (xs : List Int32) (args : Array Value) (s : State) : Prop := args = #[.ref b] ∧ s.IntsAt b xs ∧ xs.length ≤ 3074 ∧ (Jvm.Cond.and given_1 narrow_1).before args s = true
def lw_Q (_ : Array Value) (s : State) (o : Outcome) (t : State) : Prop := o = .returned (some (.int 1)) ∧ Framed s o t [] 600000 7302250
def lw_Z (below : List Frame) (a : Array Value) (s : State) : State → Prop := fun t => ∃ o, t.status = .running ∧ Ended t below o ∧ lw_Q a s o t
/-- the law's own end, with 1 on the stack, nothing written that was there before, its room as the claim has it -/
theorem lw_ret {p : Program} {l : Launch} {e : Env} {s : State} {m : MethodId} {below : List Frame} {meth : Method} {c : Code} {b : Nat} (hx : p.tables.exec = Jvm.exec) (hb : c.code = code) (hr : meth.sig.returnType = ret) (hlocks : meth.locks = false) {pc : Nat} {H : Heap} {ls : Array Slot} (hdg : decode code pc = .ok (.ireturn, 1)) : W p l e room_1 s m #[Value.ref b] below meth c H [] 600000 7302250 (lw_Z below #[Value.ref b] s) (F0 m pc ls [.int 1]) := by
  intro T hT X
  obtain ⟨fs, hret, hrun, hended, hW, hframe⟩ := X.leave (v := some (.int 1)) (hlocks := hlocks) (fun h => by rw [hr] at h; cases h)
  have hmeth' : T.vm.method? m = some meth := X.method'
  refine ⟨T.setFrames fs, ?_, .returned (some (.int 1)), hrun, hended, rfl, ⟨_, rfl⟩, hW, hframe⟩
  jvm_step X.here [X.here.top, hx, hb, hdg, hmeth', hr, ret, narrow_b1]
  (try refine ⟨rfl, ?_⟩); (try refine ⟨rfl, ?_⟩)
  first | (intro acts; rw [hret _ acts rfl rfl rfl]) | rw [hret _ _ rfl rfl rfl]
  exact Steps.refl _
/-- what holds at the law's entry: the machine, the code, the tables' words (any of lw_tbl by 'hts w (by decide +kernel)'), the script of L ints xs at the cell b, what the Statement gives of the start (any of its parts by flat_of_before) -/
def lw_At (p : Program) (s : State) (m : MethodId) (meth : Method) (c : Code) (b L : Nat) (xs : Nat → Int32) : Prop :=
  p.tables.exec = Jvm.exec ∧ c.code = code ∧ meth.sig.returnType = ret ∧ c.maxLocals = 4 ∧ s.vm.findClass R_law = some m.cls ∧ (∀ w ∈ lw_tbl, w.before #[Value.ref b] s = true) ∧ va_X b L xs s s.heap ∧ b < s.heap.size ∧ meth.locks = false ∧ (Jvm.Cond.and given_1 narrow_1).before #[Value.ref b] s = true
theorem x20 (a : Nat) (h : XXt a = 20) : a = 96 ∨ a = 97 ∨ a = 98 ∨ a = 99 ∨ a = 100 ∨ a = 101 := by
  have h1 : ∀ a, a < 536 → XXt a = 20 → a = 96 ∨ a = 97 ∨ a = 98 ∨ a = 99 ∨ a = 100 ∨ a = 101 := by decide +kernel
  rcases Nat.lt_or_ge a 536 with h2 | h2
  · exact h1 a h2 h
  · unfold XXt at h
    rw [if_neg (by omega), if_neg (by omega)] at h
    cases h
theorem x14 (a : Nat) (h : XXt a = 14) : 200 ≤ a := by
  have h1 : ∀ a, a < 200 → XXt a ≠ 14 := by decide +kernel
  rcases Nat.lt_or_ge a 200 with h2 | h2
  · exact absurd h (h1 a h2)
  · exact h2
theorem LL_all (a : Nat) (h : XXt a < 20) : a ∈ LL := by
  have h1 : ∀ a, a < 536 → XXt a < 20 → a ∈ LL := by decide +kernel
  rcases Nat.lt_or_ge a 536 with h2 | h2
  · exact h1 a h2 h
  · unfold XXt at h
    rw [if_neg (by omega), if_neg (by omega)] at h
    omega
theorem CTz_le {ns nb ln : Nat} (h1 : ns ≤ 256) (h2 : nb ≤ 16) (h3 : ln ≤ 3074) : ∀ x ∈ CTz ns nb ln, x ≤ 5000 := by
  unfold CTz
  repeat' (first | exact List.forall_mem_nil _ | refine List.forall_mem_cons.mpr ⟨by omega, ?_⟩)
theorem PLz_le : ∀ x ∈ PLz, x ≤ 5000 := by decide
theorem XXz_le {ns nb ln : Nat} (h1 : ns ≤ 256) (h2 : nb ≤ 16) (h3 : ln ≤ 3074) (a : Nat) : (XX ns nb ln).2.1 a ≤ 5000 := by
  show (if a < 102 then (CTz ns nb ln).getD a 0 else if 200 ≤ a ∧ a < 536 then PLz.getD ((a - 200) % 24) 0 else 0) ≤ 5000
  split
  · rcases getD_in (CTz ns nb ln) a 0 with h | h
    · rw [h]
      omega
    · exact CTz_le h1 h2 h3 _ h
  · split
    · rcases getD_in PLz ((a - 200) % 24) 0 with h | h
      · rw [h]
        omega
      · exact PLz_le _ h
    · omega
theorem xOK_is {D : va_G} {cs : Nat → ClassId} {f : Nat → Nat → Nat} {rm st : Nat → Nat} {b ns nb ln : Nat} (h1 : ns ≤ 256) (h2 : nb ≤ 16) (h3 : ln ≤ 3074) : xOK (GG D cs f rm st b) (XX ns nb ln) :=
  ⟨fun a ha => LL_all a ha, fun a => by
    have := XXz_le h1 h2 h3 a
    omega⟩
theorem getD_bd {L : List Int} {lo hi : Int} (h0 : lo ≤ 0 ∧ 0 ≤ hi) (h : ∀ x ∈ L, lo ≤ x ∧ x ≤ hi) (k : Nat) : lo ≤ L.getD k 0 ∧ L.getD k 0 ≤ hi := by
  rcases getD_in L k 0 with h9 | h9
  · rw [h9]
    exact h0
  · exact h _ h9
theorem stL_bd : ∀ x ∈ stL, ∀ y ∈ x, (-1000 : Int) ≤ y ∧ y ≤ 1000 := by decide
theorem stv_bd (i j : Nat) : -1000 ≤ stv i j ∧ stv i j ≤ 1000 := by
  unfold stv
  refine getD_bd (by omega) ?_ j
  rcases getD_in stL i [] with h9 | h9
  · rw [h9]
    intro x hx
    cases hx
  · exact stL_bd _ h9
theorem tm0_bd (j : Nat) : 0 ≤ tm0 j ∧ tm0 j ≤ 80 := by
  unfold tm0
  repeat' split
  all_goals omega
theorem bnC_bd {si : Int} (s1 : 8 ≤ si ∧ si ≤ 32) : 0 ≤ bnC si ∧ bnC si ≤ 4 := by
  unfold bnC
  rw [Int.tdiv_eq_ediv_of_nonneg (by omega)]
  omega
theorem bnB_bd {ro si : Int} (r1 : 1 ≤ ro ∧ ro ≤ 8) (s1 : 8 ≤ si ∧ si ≤ 32) : 0 ≤ bnB ro si ∧ bnB ro si ≤ 16 := bn_bd r1 s1
theorem HH2_bd {ro si : Int} (r1 : 1 ≤ ro ∧ ro ≤ 8) (s1 : 8 ≤ si ∧ si ≤ 32) (a k : Nat) : -1000 ≤ HH2 ro si a k ∧ HH2 ro si a k ≤ 1000 := by
  have c1 := bnC_bd s1
  have c2 := bnB_bd r1 s1
  unfold HH2
  split
  · exact getD_bd (by omega) (List.forall_mem_cons.mpr ⟨by omega, List.forall_mem_cons.mpr ⟨by omega, List.forall_mem_nil _⟩⟩) k
  · split
    · exact getD_bd (by omega) (List.forall_mem_cons.mpr ⟨by omega, List.forall_mem_cons.mpr ⟨by omega, List.forall_mem_nil _⟩⟩) k
    · split
      · exact getD_bd (by omega) (List.forall_mem_cons.mpr ⟨by omega, List.forall_mem_cons.mpr ⟨by omega, List.forall_mem_cons.mpr ⟨by omega, List.forall_mem_cons.mpr ⟨by omega, List.forall_mem_nil _⟩⟩⟩⟩) k
      · omega
theorem HH1_in {xs : Nat → Int32} (a j : Nat) : inR (HH1 xs a j) := by
  unfold HH1
  split
  · have := tm0_bd j
    omega
  · split
    · omega
    · split
      · have := stv_bd (a - 96) j
        omega
      · split
        · exact i32_any _
        · omega
theorem HH1_hi {xs : Nat → Int32} (a j : Nat) (h : 102 ≤ a) : HH1 xs a j = 0 := by
  unfold HH1
  rw [if_neg (by omega), if_neg (by omega), if_neg (by omega), if_neg (by omega)]
theorem xRg_is {ro si : Int} {xs : Nat → Int32} {ns nb ln : Nat} (r1 : 1 ≤ ro ∧ ro ≤ 8) (s1 : 8 ≤ si ∧ si ≤ 32) : xRg (XX ns nb ln) (HH ro si xs) := by
  refine ⟨fun a j => HH1_in a j, fun a k => ?_, fun a j h => ?_⟩
  · have h9 : -1000 ≤ (HH ro si xs).2 a k ∧ (HH ro si xs).2 a k ≤ 1000 := HH2_bd r1 s1 a k
    split
    · exact ⟨by omega, by omega⟩
    · exact ⟨by omega, by omega⟩
  · have h9 := x14 a h
    exact Or.inl (HH1_hi a j (by omega))
theorem rho_st {f : Nat → Nat → Nat} {rm st : Nat → Nat} {b j : Nat} (h : j < 5) : rho f rm st b (96 + j) = st j := by
  unfold rho
  rw [if_neg (by omega), if_neg (by omega), if_neg (by omega), if_neg (by omega), if_neg (by omega), if_neg (by omega), if_neg (by omega), if_neg (by omega), if_neg (by omega), if_pos (by omega), Nat.add_sub_cancel_left]
section LGO
variable {p : Program} {l : Launch} {e : Env} {s : State} {m : MethodId} {below : List Frame} {meth : Method} {c : Code} {H : Heap} {locs : List Loc} {cells slots : Nat}
variable {ls : Array Slot} {D : va_G} {cs : Nat → ClassId} {b L : Nat} {xs : Nat → Int32} {ro si : Int} {f : Nat → Nat → Nat} {rm st : Nat → Nat}
set_option maxHeartbeats 4000000 in
set_option maxRecDepth 100000 in
theorem xOld_is (hX : va_X b L xs s s.heap) (hst : ∀ i, i < 5 → va_X (st i) (stL.getD i []).length (fun j => Int32.ofInt (stv i j)) s s.heap) (hzz : ∀ j, j < 5 → va_Z (sts.getD j ("", "")).1 (sts.getD j ("", "")).2 "[I" (.ref (st j)) (fun q => s.heap.size ≤ q) s s.heap) (hxA : ∀ q, xA (GG D cs f rm st b) q → s.heap.size ≤ q) : xOld (GG D cs f rm st b) (XX (ro * si).toNat (bnB ro si).toNat L) s s.heap (HH ro si xs) := by
  have key : ∀ (t N : Nat) (g : Nat → Int32), va_X t N g s s.heap → va_X t N g s s.heap ∧ ¬ xA (GG D cs f rm st b) t := by
    intro t N g hv
    refine ⟨hv, fun h => ?_⟩
    have h1 := hxA t h
    obtain ⟨scr, h2, -⟩ := hv
    have h3 := (Array.getElem?_eq_some_iff.mp h2).1
    exact Nat.lt_irrefl _ (Nat.lt_of_lt_of_le h3 h1)
  refine ⟨fun a ha => ?_, fun j hj => ?_⟩
  · rcases x20 a ha with rfl | rfl | rfl | rfl | rfl | rfl
    · exact key _ _ _ (hst 0 (by decide))
    · exact key _ _ _ (hst 1 (by decide))
    · exact key _ _ _ (hst 2 (by decide))
    · exact key _ _ _ (hst 3 (by decide))
    · exact key _ _ _ (hst 4 (by decide))
    · have e1 : (fun j => Int32.ofInt ((HH ro si xs).1 101 j)) = xs := funext fun j => Int32.ofInt_toInt (xs j)
      rw [e1]
      exact key _ _ _ hX
  · have h1 := (hzz j hj).narrow hxA
    have e1 : (GG D cs f rm st b).1 ((XX (ro * si).toNat (bnB ro si).toNat L).2.2.2 j) = st j := rho_st hj
    rw [e1]
    exact h1
set_option maxHeartbeats 4000000 in
set_option maxRecDepth 100000 in
theorem lw_go (hAll : ∀ k, k < 288 → okM2 k = true) (r1 : 1 ≤ ro ∧ ro ≤ 8) (s1 : 8 ≤ si ∧ si ≤ 32) (hL : L ≤ 3074) (hPu : Ev (XX (ro * si).toNat (bnB ro si).toNat L) 287 22 [some (vr 101), some (vr 0), some (vr 70), some (vi 2)] [] (HH ro si xs) (fun r _ => r = some (vi 1)))
    (C : mkC p s m #[Value.ref b] c code "CellRowsLaw" 4) (hr : meth.sig.returnType = ret) (hlk : meth.locks = false) (hX : va_X b L xs s s.heap) (hst : ∀ i, i < 5 → va_X (st i) (stL.getD i []).length (fun j => Int32.ofInt (stv i j)) s s.heap) (hzz : ∀ j, j < 5 → va_Z (sts.getD j ("", "")).1 (sts.getD j ("", "")).2 "[I" (.ref (st j)) (fun q => s.heap.size ≤ q) s s.heap)
    (Wl : mkW D cs (fun q => s.heap.size ≤ q) s (wRows cs ro si f ++ wModel cs ro si rm) H locs) (hl : lv_has ls 4 [(3, .int (Int32.ofInt 2)), (2, .ref (rm 0)), (1, .ref (f 0 0)), (0, .ref b)]) (hcl : cells ≤ 600000) (hsl : slots ≤ 7302250) : W p l e room_1 s m #[Value.ref b] below meth c H locs cells slots (lw_Z below #[Value.ref b] s) (F0 m 38 ls []) := by
  refine va_forget (fun q hq => Wl.2.2.2.1.2.2 q hq) ?_
  obtain ⟨hP, hE, hD, hS, hA⟩ := Wl
  rw [← wsh_is (D := D) (st := st) (b := b) (xs := xs) (ln := L)] at hP hD
  obtain ⟨hx, hb, hml, hown, hts⟩ := C
  have hge : ∀ a, a ∈ LL → s.heap.size ≤ rho f rm st b a := fun a ha => by
    obtain ⟨q, h1, -⟩ := wsh_at (G := GG D cs f rm st b) (X := XX (ro * si).toNat (bnB ro si).toNat L) (h := HH ro si xs) ha
    exact hD.2 q _ h1
  have hxA : ∀ q, xA (GG D cs f rm st b) q → s.heap.size ≤ q := by
    rintro q ⟨a, ha, rfl⟩
    exact hge a ha
  have hD2 : va_D (xA (GG D cs f rm st b)) (wsh (GG D cs f rm st b) (XX (ro * si).toNat (bnB ro si).toNat L) (HH ro si xs)) := by
    refine ⟨hD.1, fun k q hk => ?_⟩
    obtain ⟨a, ha, rfl⟩ := List.mem_map.mp (List.mem_of_getElem? hk)
    exact ⟨a, ha, rfl⟩
  have hS2 : va_S (xA (GG D cs f rm st b)) s.heap H [] := ⟨hS.1, fun q h1 h2 => hS.2.1 q h1 (fun h => Nat.lt_irrefl _ (Nat.lt_of_lt_of_le h1 h)), fun q h => by cases h⟩
  have hp := rs_bd r1 s1
  have hq := bnB_bd r1 s1
  have hWs : xWs (GG D cs f rm st b) (XX (ro * si).toNat (bnB ro si).toNat L) s H [] (HH ro si xs) := ⟨⟨hP, hE.1, hD2, xRg_is r1 s1⟩, hS2, xOld_is hX hst hzz hxA⟩
  have C2 : xCx p s m #[Value.ref b] meth c 287 := ⟨hx, hb, hml, hown, hts, hlk⟩
  have hLR : xLR (GG D cs f rm st b) ls [some (vr 101), some (vr 0), some (vr 70), some (vi 2)] (mxl 287) := by
    refine ⟨rfl, lv_sub hl [3, 2, 1, 0] rfl, fun i v hv => ?_⟩
    match i, hv with
    | 0, hv => cases hv; trivial
    | 1, hv => cases hv; trivial
    | 2, hv => cases hv; trivial
    | 3, hv => cases hv; exact ⟨by decide, by decide⟩
    | n + 4, hv => cases hv
  obtain ⟨n, r9, h9, hrun, rfl⟩ := hPu
  have fin : ∀ ipr arr2 H2 locs2, xWs (GG D cs f rm st b) (XX (ro * si).toNat (bnB ro si).toNat L) s H2 locs2 h9 → xRet 287 ipr (some (vi 1)) → W p l e room_1 s m #[Value.ref b] below meth c H2 locs2 cells slots (lw_Z below #[Value.ref b] s) (F0 m (pcs 287 ipr) arr2 (((some (vi 1) : Option xV).map (mv (GG D cs f rm st b))).toList)) := by
    intro ipr arr2 H2 locs2 W2 hret
    refine va_forget (fun q hq => hxA _ (W2.2.1.2.2 q hq)) ?_
    refine W.widen (k := 600000) (n := 7302250) hcl hsl ?_
    obtain ⟨⟨hok, -⟩, hcs⟩ := hret
    rcases hi : ins 287 ipr with ⟨op, a, b9, z, js⟩
    rw [hi] at hok hcs
    have hd : decode code (pcs 287 ipr) = .ok (.ireturn, 1) := by
      rcases hcs with ⟨ho, -⟩ | ⟨ho, -⟩ | ⟨-, ho⟩
      · replace ho : op = 70 := ho
        subst ho
        obtain ⟨hd, -, -⟩ := okI_d hok (by show (70 : Nat) ≠ 99; decide)
        exact hd
      · replace ho : op = 75 := ho
        subst ho
        obtain ⟨hd, -, -⟩ := okI_d hok (by show (75 : Nat) ≠ 99; decide)
        exact hd
      · cases ho
    exact lw_ret hx hb hr hlk hd
  have key := xcore hAll (l := l) (xOK_is (D := D) (cs := cs) (f := f) (rm := rm) (st := st) (b := b) (ns := (ro * si).toNat) (nb := (bnB ro si).toNat) (ln := L) (by omega) (by omega) hL) n 287 22 _ [] _ _ _ hrun (p := p) (e := e) (R := room_1) (s := s) (m := m) (args := #[Value.ref b]) (below := below) (meth := meth) (c := c) (H := H) (locs := []) (cells := cells) (slots := slots) (Q := lw_Z below #[Value.ref b] s) (arr := ls) C2 (by decide +kernel) (by decide +kernel) hcl hsl hWs hLR (fun v hv => by cases hv) fin
  have e38 : pcs 287 22 = 38 := by decide +kernel
  rw [e38] at key
  exact key
end LGO
