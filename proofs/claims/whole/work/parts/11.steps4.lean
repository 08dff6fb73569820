/-- the places of the words that say how fields lie -/
def xup : List (List Nat) := [[2461, 2463, 2465, 2467, 2469], [2437, 2439, 2441, 2443, 2445, 2447], [2117, 2119, 2121, 2123, 2125], [2185, 2187, 2189, 2191, 2193, 2195, 2197, 2199], [2352, 2354, 2356, 2358, 2360, 2362, 2364, 2366, 2368], [2313, 2315, 2317, 2319], [2232, 2234, 2236, 2238, 2240], [2489, 2491, 2493, 2495, 2497, 2499, 2501, 2503, 2505], [2526, 2528, 2530, 2532, 2534, 2536, 2538, 2540, 2542, 2560, 2562, 2564], [2270, 2272, 2274, 2276, 2278, 2280], [2394, 2396, 2398, 2400, 2402, 2404, 2406, 2408, 2410, 2412, 2414, 2416, 2418], [2581, 2583, 2585, 2587, 2589, 2591, 2593, 2595, 2597, 2599, 2601, 2603, 2605, 2607], [3374, 3376, 3378, 3380, 3382, 3384, 3386, 3388, 3390, 3392, 3394, 3396, 3398, 3400, 3402, 3404, 3406, 3408, 3410, 3412, 3414, 3416, 3418, 3420, 3422, 3424, 3426, 3428, 3430, 3432, 3434, 3436, 3438, 3440, 3442, 3444, 3446]]
def uwsB (ci : Nat) : Bool := (List.range (xFl.getD ci []).length).all (fun k => wAt ((xup.getD ci []).getD k 0) (u_lay (xcnL.getD ci "") (xfl ci) k))
set_option maxRecDepth 100000 in
theorem uws_all : (List.range 13).all uwsB = true := by decide +kernel
theorem uws_in {ci : Nat} (h : ci < 13) : ∀ w ∈ u_ws (xcnL.getD ci "") (xfl ci) (xFl.getD ci []).length, w ∈ tblG := by
  intro w hw
  have h1 := List.all_eq_true.mp uws_all ci (List.mem_range.mpr h)
  unfold u_ws at hw
  obtain ⟨k, hk, rfl⟩ := List.mem_map.mp hw
  exact wAt_in (List.all_eq_true.mp h1 k hk)
def tysB (ci : Nat) : Bool := (List.range (xFl.getD ci []).length).all (fun k => decide (parseFieldDescriptor (xfl ci k).2.2.1 = some ((xtyL.getD ci []).getD k .int)))
set_option maxRecDepth 100000 in
theorem tys_all : (List.range 13).all tysB = true := by decide +kernel
theorem tys_at {ci : Nat} (h : ci < 13) : ∀ k, k < (xFl.getD ci []).length → parseFieldDescriptor (xfl ci k).2.2.1 = some ((xtyL.getD ci []).getD k .int) := by
  intro k hk
  exact of_decide_eq_true (List.all_eq_true.mp (List.all_eq_true.mp tys_all ci (List.mem_range.mpr h)) k (List.mem_range.mpr hk))
def nmB (ci : Nat) : Bool := (List.range (xFl.getD ci []).length).all (fun a => (List.range (xFl.getD ci []).length).all (fun b => decide (a = b) || !decide ((xfl ci a).2.1 = (xfl ci b).2.1)))
set_option maxRecDepth 100000 in
theorem nm_all : (List.range 13).all nmB = true := by decide +kernel
theorem nm_at {ci : Nat} (h : ci < 13) : ∀ a, a < (xFl.getD ci []).length → ∀ b, b < (xFl.getD ci []).length → a ≠ b → (xfl ci a).2.1 ≠ (xfl ci b).2.1 := by
  intro a ha b hb hab e
  have h1 := List.all_eq_true.mp (List.all_eq_true.mp (List.all_eq_true.mp nm_all ci (List.mem_range.mpr h)) a (List.mem_range.mpr ha)) b (List.mem_range.mpr hb)
  rw [Bool.or_eq_true] at h1
  rcases h1 with h1 | h1
  · exact hab (of_decide_eq_true h1)
  · rw [decide_eq_true e] at h1
    cases h1
theorem acp_n : Cond.native arraycopyName ∈ tblG := wAt_in (p := 2668) (by decide +kernel)
theorem acp_s : Cond.static arraycopyName ∈ tblG := wAt_in (p := 2667) (by decide +kernel)
theorem acp_i : Cond.initialized "java/lang/System" ∈ tblG := wAt_in (p := 2063) (by decide +kernel)
section SND
variable {p : Program} {l : Launch} {e : Env} {R : Room} {s : State} {m : MethodId} {args : Array Value} {below : List Frame} {meth : Method} {c : Code} {H : Heap} {locs : List Loc} {cells slots : Nat} {Q : State → Prop}
variable {G : xG} {X : xL} {k ip : Nat} {i : xI} {ls : List (Option xV)} {st : List xV} {h : xH} {q : xS} {arr : Array Slot}
theorem enn_o {h : xH} {x : Nat} (hx : X.1 x < 13) : enn G X h x = .inr (X.1 x, (List.range (xFl.getD (X.1 x) []).length).map (fv G X h x)) := by
  unfold enn
  rw [if_pos hx]
theorem enn_i {h : xH} {x : Nat} (hx : X.1 x = 13 ∨ X.1 x = 14) : enn G X h x = .inl (G.2.1 (X.1 x), X.2.1 x, .inl (fun j => Int32.ofInt (h.1 x j))) := by
  unfold enn
  rw [if_neg (by omega), if_pos hx]
theorem enn_q {h : xH} {x : Nat} (hx : X.1 x = 15 ∨ X.1 x = 16) : enn G X h x = .inl (G.2.1 (X.1 x), X.2.1 x, .inr (.inr (.inr (.inr (fun j => some (G.1 (X.2.2.1 x j))))))) := by
  unfold enn
  rw [if_neg (by omega), if_neg (by omega)]
theorem up2_ne {f : Nat → Nat → Int} {a k : Nat} {v : Int} {b : Nat} (h : b ≠ a) : up2 f a k v b = f b := by
  funext j
  unfold up2
  rw [if_neg (fun z => h z.1)]
theorem up1_ne {f : Nat → Nat → Int} {a : Nat} {g : Nat → Int} {b : Nat} (h : b ≠ a) : up1 f a g b = f b := by
  unfold up1
  rw [if_neg h]
/-- a cell depends on its own numbers alone -/
theorem enn_eq {h h2 : xH} {b : Nat} (h1 : h2.1 b = h.1 b) (h3 : h2.2 b = h.2 b) : enn G X h2 b = enn G X h b := by
  unfold enn
  have e : fv G X h2 b = fv G X h b := by
    funext k
    unfold fv
    rw [h3]
  rw [h1, e]
theorem up2_in {P : Nat → Nat → Int → Prop} {f : Nat → Nat → Int} {a k : Nat} {v : Int} (h : ∀ b j, P b j (f b j)) (hv : P a k v) : ∀ b j, P b j (up2 f a k v b j) := by
  intro b j
  unfold up2
  by_cases e : b = a ∧ j = k
  · rw [if_pos e, e.1, e.2]; exact hv
  · rw [if_neg e]; exact h b j
/-- the world as a step needs it -/
def xWs (G : xG) (X : xL) (s : State) (H : Heap) (locs : List Loc) (h : xH) : Prop := xWd G X s H h ∧ va_S (xA G) s.heap H locs ∧ xOld G X s s.heap h
theorem fv_lt {h : xH} {x b : Nat} (hb : b < (xFl.getD (X.1 x) []).length) : ((List.range (xFl.getD (X.1 x) []).length).map (fv G X h x))[b]? = some (fv G X h x b) := by
  rw [List.getElem?_map, List.getElem?_range hb]
  rfl
set_option maxHeartbeats 2000000 in
theorem snd_get (C : xCx p s m args meth c k) (hG : xOK G X) {op a b : Nat} {z : Int} {js : List Nat} (hok : okI k ip (op, a, b, z, js) = true) (hop : op = 50 ∨ op = 51 ∨ op = 52) {x : Nat} {st0 : List xV} (hT : X.1 x = a) (Wl : xWs G X s H locs h) (hv : ∀ v ∈ st0, okv v)
    (kk : (∀ v ∈ (if op = 50 then vi (h.2 x b) else if op = 51 then vr (X.2.2.1 x b) else vl (h.2 x b)) :: st0, okv v) → W p l e R s m args below meth c H locs cells slots Q (F0 m (pcs k (ip + 1)) arr (((if op = 50 then vi (h.2 x b) else if op = 51 then vr (X.2.2.1 x b) else vl (h.2 x b)) :: st0).map (mv G)))) : W p l e R s m args below meth c H locs cells slots Q (F0 m (pcs k ip) arr (mv G (.inr (.inl x)) :: st0.map (mv G))) := by
  obtain ⟨hx, hb, hml, hown, hts, hlk⟩ := C
  obtain ⟨⟨hP, hK, hD, hR⟩, hS, hO⟩ := Wl
  obtain ⟨hd, hn, hw⟩ := okI_d hok (by show op ≠ 99; omega)
  have hw2 : (decide (a < 13) && decide (b < (xFl.getD a []).length) && decide (fkd a b = op - 50) && wAt (js.getD 0 0) (.fieldLink (ym k).cls z.toNat (xfl a b).1 (xfl a b).2.1 (xfl a b).2.2.1)) = true := by
    rcases hop with rfl | rfl | rfl <;> exact hw
  have hd2 : decode (byt k) (pcs k ip) = .ok (.getfield z.toNat, 3) := by
    rcases hop with rfl | rfl | rfl <;> exact hd
  have hn2 : pcs k (ip + 1) = pcs k ip + 3 := by
    rcases hop with rfl | rfl | rfl <;> exact hn
  rw [Bool.and_eq_true, Bool.and_eq_true, Bool.and_eq_true] at hw2
  obtain ⟨⟨⟨w1, w2⟩, w3⟩, w4⟩ := hw2
  have ha : a < 13 := of_decide_eq_true w1
  have hbN : b < (xFl.getD a []).length := of_decide_eq_true w2
  have hfk : fkd a b = op - 50 := of_decide_eq_true w3
  subst hT
  obtain ⟨q0, hq0, -⟩ := wsh_at (h := h) (X := X) (hG.1 x (by omega))
  rw [enn_o ha] at hq0
  refine va_get (D := xD G) (ci := X.1 x) (v := fv G X h x b) (C := xcnL.getD (X.1 x) "") (T := xfl (X.1 x)) (N := (xFl.getD (X.1 x) []).length) hx hb hts (uws_in ha) hown hK hP q0 hq0 (xcl_at ha) b hbN (hts _ (wAt_in w4)) (fun _ h9 => h9) (fv_lt hbN) hd2 ?_
  rw [hn2] at kk
  rcases hop with rfl | rfl | rfl
  · have e : fv G X h x b = mv G (vi (h.2 x b)) := by
      unfold fv
      rw [if_pos hfk]
      rfl
    rw [e]
    refine kk (cons_ok ?_ hv)
    have := hR.2.1 x b
    rw [if_neg (by omega)] at this
    exact this
  · have e : fv G X h x b = mv G (vr (X.2.2.1 x b)) := by
      unfold fv
      rw [if_neg (by omega), if_pos hfk]
      rfl
    rw [e]
    exact kk (cons_ok trivial hv)
  · have e : fv G X h x b = mv G (vl (h.2 x b)) := by
      unfold fv
      rw [if_neg (by omega), if_neg (by omega)]
      rfl
    rw [e]
    refine kk (cons_ok ?_ hv)
    have := hR.2.1 x b
    rw [if_pos hfk] at this
    exact this
theorem narrow_i (x : Int32) : narrow .int (.int x) = .int x := rfl
theorem narrow_l (x : Int64) : narrow .long (.long x) = .long x := rfl
theorem fits_i (x : Int32) : fits .int (.int x) = true := rfl
theorem fits_l (x : Int64) : fits .long (.long x) = true := rfl
set_option maxHeartbeats 2000000 in
theorem snd_put (C : xCx p s m args meth c k) (hG : xOK G X) {op a b : Nat} {z : Int} {js : List Nat} (hok : okI k ip (op, a, b, z, js) = true) (hop : op = 53 ∨ op = 54) {x : Nat} {v : Int} {st0 : List xV} (hT : X.1 x = a) (Wl : xWs G X s H locs h) (hv : okv (if op = 53 then vi v else vl v))
    (kk : ∀ H2 locs2, xWs G X s H2 locs2 (h.1, up2 h.2 x b v) → W p l e R s m args below meth c H2 locs2 cells slots Q (F0 m (pcs k (ip + 1)) arr (st0.map (mv G)))) : W p l e R s m args below meth c H locs cells slots Q (F0 m (pcs k ip) arr (mv G (if op = 53 then vi v else vl v) :: mv G (.inr (.inl x)) :: st0.map (mv G))) := by
  obtain ⟨hx, hb, hml, hown, hts, hlk⟩ := C
  obtain ⟨⟨hP, hK, hD, hR⟩, hS, hO⟩ := Wl
  obtain ⟨hd, hn, hw⟩ := okI_d hok (by show op ≠ 99; omega)
  have hw2 : (decide (a < 13) && decide (b < (xFl.getD a []).length) && decide (fkd a b = (if op = 53 then 0 else 2)) && decide ((xfl a b).2.2.2 = false) && decide ((xfl a b).2.2.1 = (if op = 53 then "I" else "J")) && wAt (js.getD 0 0) (.fieldLink (ym k).cls z.toNat (xfl a b).1 (xfl a b).2.1 (xfl a b).2.2.1)) = true := by
    rcases hop with rfl | rfl <;> exact hw
  have hd2 : decode (byt k) (pcs k ip) = .ok (.putfield z.toNat, 3) := by
    rcases hop with rfl | rfl <;> exact hd
  have hn2 : pcs k (ip + 1) = pcs k ip + 3 := by
    rcases hop with rfl | rfl <;> exact hn
  rw [Bool.and_eq_true, Bool.and_eq_true, Bool.and_eq_true, Bool.and_eq_true, Bool.and_eq_true] at hw2
  obtain ⟨⟨⟨⟨⟨w1, w2⟩, w3⟩, w5⟩, w6⟩, w4⟩ := hw2
  have ha : a < 13 := of_decide_eq_true w1
  have hbN : b < (xFl.getD a []).length := of_decide_eq_true w2
  have hfk : fkd a b = (if op = 53 then 0 else 2) := of_decide_eq_true w3
  have hfin : (xfl a b).2.2.2 = false := of_decide_eq_true w5
  have hds : (xfl a b).2.2.1 = (if op = 53 then "I" else "J") := of_decide_eq_true w6
  subst hT
  obtain ⟨q0, hq0, hqL⟩ := wsh_at (h := h) (X := X) (hG.1 x (by omega))
  have hq1 := hq0
  rw [enn_o ha] at hq0
  have hset : ∀ w, w = mv G (if op = 53 then vi v else vl v) → (.inr (X.1 x, ((List.range (xFl.getD (X.1 x) []).length).map (fv G X h x)).set b w) : va_E) = enn G X (h.1, up2 h.2 x b v) x := by
    intro w hww
    rw [enn_o ha]
    congr 2
    apply List.ext_getElem?
    intro j
    by_cases hj : j = b
    · subst hj
      rw [List.getElem?_set_self (by simpa using hbN), fv_lt hbN, hww]
      have hu : up2 h.2 x j v x j = v := by unfold up2; rw [if_pos ⟨rfl, rfl⟩]
      rcases hop with rfl | rfl
      · have hf0 : fkd (X.1 x) j = 0 := hfk
        simp only [fv, hf0, hu, if_true]; rfl
      · have hf0 : fkd (X.1 x) j = 2 := hfk
        simp only [fv, hf0, hu]; rfl
    · rw [List.getElem?_set_ne (Ne.symm hj)]
      by_cases hjN : j < (xFl.getD (X.1 x) []).length
      · have hu : up2 h.2 x b v x j = h.2 x j := by unfold up2; rw [if_neg (fun t => hj t.2)]
        rw [fv_lt hjN, fv_lt hjN]
        simp only [fv, hu]
      · rw [List.getElem?_eq_none (by simpa using hjN), List.getElem?_eq_none (by simpa using hjN)]
  have hrg : xRg X (h.1, up2 h.2 x b v) := by
    refine ⟨hR.1, up2_in (P := fun a k w => if fkd (X.1 a) k = 2 then inL w else inR w) hR.2.1 ?_, hR.2.2⟩
    rcases hop with rfl | rfl
    · rw [if_neg (by rw [hfk]; decide)]; exact hv
    · rw [if_pos (by rw [hfk]; rfl)]; exact hv
  have hpd : parseFieldDescriptor (xfl (X.1 x) b).2.2.1 = some (if op = 53 then .int else .long) := by
    rw [hds]
    rcases hop with rfl | rfl <;> decide
  rw [hn2] at kk
  refine va_put (D := xD G) (ci := X.1 x) (ty := if op = 53 then .int else .long) (C := xcnL.getD (X.1 x) "") (T := xfl (X.1 x)) (N := (xFl.getD (X.1 x) []).length) hx hb hts (uws_in ha) (fun k => (xtyL.getD (X.1 x) []).getD k .int) (tys_at ha) (nm_at ha) hown hK hP hD hS q0 hq0 (xcl_at ha) b hbN (hts _ (wAt_in w4)) (fun _ h9 => h9) hfin hpd ?_ ?_ (by simpa using hbN) hd2 (fun H2 locs2 hP2 hD2 hS2 => ?_)
  · rcases hop with rfl | rfl <;> rfl
  · rcases hop with rfl | rfl <;> rfl
  · rw [hset _ rfl, wsh_set (h2 := (h.1, up2 h.2 x b v)) hD hqL (fun y hy => enn_eq rfl (up2_ne hy))] at hP2 hD2
    exact kk H2 locs2 ⟨⟨hP2, hK, hD2, hrg⟩, hS2, hO⟩
theorem f32_up {f : Nat → Nat → Int} {x j : Nat} {v : Int} : (fun n => Int32.ofInt (up2 f x j v x n)) = upd (fun n => Int32.ofInt (f x n)) j (Int32.ofInt v) := by
  funext n
  unfold upd up2
  by_cases hn : n = j
  · rw [if_pos ⟨rfl, hn⟩, if_pos hn]
  · rw [if_neg (fun z => hn z.2), if_neg hn]
theorem f32_cp {f g : Nat → Int} {sp dp n : Nat} : (fun j => Int32.ofInt (va_cpy f g sp dp n j)) = va_cpy (fun j => Int32.ofInt (f j)) (fun j => Int32.ofInt (g j)) sp dp n := by
  funext j
  unfold va_cpy
  by_cases hj : dp ≤ j ∧ j < dp + n
  · rw [if_pos hj, if_pos hj]
  · rw [if_neg hj, if_neg hj]
set_option maxHeartbeats 2000000 in
/-- a number out of a row -/
theorem snd_ald (C : xCx p s m args meth c k) (hG : xOK G X) {op a b : Nat} {z : Int} {js : List Nat} (hok : okI k ip (op, a, b, z, js) = true) {x : Nat} {j : Int} {st0 : List xV} (hop : (op = 55 ∧ (X.1 x = 13 ∨ X.1 x = 20)) ∨ (op = 57 ∧ X.1 x = 14)) (h0 : 0 ≤ j) (h1 : j < X.2.1 x) (Wl : xWs G X s H locs h) (hj : inR j) (hv : ∀ v ∈ st0, okv v)
    (kk : (∀ v ∈ vi (h.1 x j.toNat) :: st0, okv v) → W p l e R s m args below meth c H locs cells slots Q (F0 m (pcs k (ip + 1)) arr ((vi (h.1 x j.toNat) :: st0).map (mv G)))) : W p l e R s m args below meth c H locs cells slots Q (F0 m (pcs k ip) arr (mv G (.inl j) :: mv G (.inr (.inl x)) :: st0.map (mv G))) := by
  obtain ⟨hx, hb, hml, hown, hts, hlk⟩ := C
  obtain ⟨⟨hP, hK, hD, hR⟩, hS, hO⟩ := Wl
  obtain ⟨hd, hn, -⟩ := okI_d hok (by show op ≠ 99; omega)
  replace kk := kk (cons_ok (hR.1 x j.toNat) hv)
  have hjn := i32_nat hj
  rcases hop with ⟨rfl, hT | hT⟩ | ⟨rfl, hT⟩
  · rw [show pcs k (ip + 1) = pcs k ip + 1 from hn] at kk
    obtain ⟨q0, hq0, -⟩ := wsh_at (h := h) (X := X) (hG.1 x (by omega))
    rw [enn_i (Or.inl hT)] at hq0
    refine va_iald hx hb hK hP q0 0 hq0 (by rw [hT]; rfl) (i := Int32.ofInt j) (i32_vin hj h0 h1) hd ?_
    rw [hjn]
    exact kk
  · rw [show pcs k (ip + 1) = pcs k ip + 1 from hn] at kk
    obtain ⟨hX, hnA⟩ := hO.1 x hT
    have hbl : G.1 x < s.heap.size := by
      obtain ⟨scr, h1, -⟩ := hX
      exact (Array.getElem?_eq_some_iff.mp h1).1
    refine va_sld hx hb hX hbl hnA hS (i := Int32.ofInt j) (i32_vin hj h0 h1) hd ?_
    rw [hjn]
    exact kk
  · rw [show pcs k (ip + 1) = pcs k ip + 1 from hn] at kk
    obtain ⟨q0, hq0, -⟩ := wsh_at (h := h) (X := X) (hG.1 x (by omega))
    rw [enn_i (Or.inr hT)] at hq0
    refine va_zald hx hb hK hP q0 1 hq0 (by rw [hT]; rfl) (i := Int32.ofInt j) (i32_vin hj h0 h1) hd ?_
    rw [hjn]
    exact kk
theorem nar_z {v : Int} (h : v = 0 ∨ v = 1) : vp_nar .boolean (Int32.ofInt v) = Int32.ofInt v := by
  rcases h with rfl | rfl <;> decide
set_option maxHeartbeats 2000000 in
/-- a number into a row -/
theorem snd_ast (C : xCx p s m args meth c k) (hG : xOK G X) {op a b : Nat} {z : Int} {js : List Nat} (hok : okI k ip (op, a, b, z, js) = true) {x : Nat} {j v : Int} {st0 : List xV} (hop : (op = 56 ∧ X.1 x = 13) ∨ (op = 58 ∧ X.1 x = 14 ∧ (v = 0 ∨ v = 1))) (h0 : 0 ≤ j) (h1 : j < X.2.1 x) (Wl : xWs G X s H locs h) (hj : inR j) (hv : inR v)
    (kk : ∀ H2 locs2, xWs G X s H2 locs2 (up2 h.1 x j.toNat v, h.2) → W p l e R s m args below meth c H2 locs2 cells slots Q (F0 m (pcs k (ip + 1)) arr (st0.map (mv G)))) : W p l e R s m args below meth c H locs cells slots Q (F0 m (pcs k ip) arr (mv G (.inl v) :: mv G (.inl j) :: mv G (.inr (.inl x)) :: st0.map (mv G))) := by
  obtain ⟨hx, hb, hml, hown, hts, hlk⟩ := C
  obtain ⟨⟨hP, hK, hD, hR⟩, hS, hO⟩ := Wl
  obtain ⟨hd, hn, -⟩ := okI_d hok (by show op ≠ 99; omega)
  have hjn := i32_nat hj
  have hT : X.1 x = 13 ∨ X.1 x = 14 := by omega
  have hO2 : xOld G X s s.heap (up2 h.1 x j.toNat v, h.2) := by
    refine ⟨fun y hy => ?_, hO.2⟩
    have := hO.1 y hy
    rw [← up2_ne (f := h.1) (k := j.toNat) (v := v) (show y ≠ x from fun t => by rw [t] at hy; omega)] at this
    exact this
  have hrg : xRg X (up2 h.1 x j.toNat v, h.2) := by
    refine ⟨up2_in (P := fun _ _ w => inR w) hR.1 hv, hR.2.1, ?_⟩
    refine up2_in (P := fun a _ w => X.1 a = 14 → w = 0 ∨ w = 1) hR.2.2 (fun t => ?_)
    rcases hop with ⟨-, h9⟩ | ⟨-, -, h9⟩
    · omega
    · exact h9
  obtain ⟨q0, hq0, hqL⟩ := wsh_at (h := h) (X := X) (hG.1 x (by omega))
  have hset : (.inl (G.2.1 (X.1 x), X.2.1 x, .inl (upd (fun n => Int32.ofInt (h.1 x n)) j.toNat (Int32.ofInt v))) : va_E) = enn G X (up2 h.1 x j.toNat v, h.2) x := by
    rw [enn_i hT, ← f32_up]
  rw [enn_i hT] at hq0
  rcases hop with ⟨rfl, hT1⟩ | ⟨rfl, hT1, hv1⟩
  · rw [show pcs k (ip + 1) = pcs k ip + 1 from hn] at kk
    refine va_iast hx hb hK hP hD hS q0 0 hq0 (by rw [hT1]; rfl) (i := Int32.ofInt j) (x := Int32.ofInt v) (i32_vin hj h0 h1) hd (fun H2 locs2 hP2 hD2 hS2 => ?_)
    rw [hjn, hset, wsh_set (h2 := (up2 h.1 x j.toNat v, h.2)) hD hqL (fun y hy => enn_eq (up2_ne hy) rfl)] at hP2 hD2
    exact kk H2 locs2 ⟨⟨hP2, hK, hD2, hrg⟩, hS2, hO2⟩
  · rw [show pcs k (ip + 1) = pcs k ip + 1 from hn] at kk
    refine va_zast hx hb hK hP hD hS q0 1 hq0 (by rw [hT1]; rfl) (i := Int32.ofInt j) (x := Int32.ofInt v) (i32_vin hj h0 h1) hd (fun H2 locs2 hP2 hD2 hS2 => ?_)
    rw [hjn, nar_z hv1, hset, wsh_set (h2 := (up2 h.1 x j.toNat v, h.2)) hD hqL (fun y hy => enn_eq (up2_ne hy) rfl)] at hP2 hD2
    exact kk H2 locs2 ⟨⟨hP2, hK, hD2, hrg⟩, hS2, hO2⟩
theorem i32_on (n : Nat) : Int32.ofNat n = Int32.ofInt n := rfl
set_option maxHeartbeats 2000000 in
theorem snd_len (C : xCx p s m args meth c k) (hG : xOK G X) {a b : Nat} {z : Int} {js : List Nat} (hok : okI k ip (59, a, b, z, js) = true) {x : Nat} {st0 : List xV} (hop : X.1 x = 13 ∨ X.1 x = 20) (Wl : xWs G X s H locs h) (hv : ∀ v ∈ st0, okv v)
    (kk : (∀ v ∈ vi (X.2.1 x) :: st0, okv v) → W p l e R s m args below meth c H locs cells slots Q (F0 m (pcs k (ip + 1)) arr ((vi (X.2.1 x) :: st0).map (mv G)))) : W p l e R s m args below meth c H locs cells slots Q (F0 m (pcs k ip) arr (mv G (.inr (.inl x)) :: st0.map (mv G))) := by
  obtain ⟨hx, hb, hml, hown, hts, hlk⟩ := C
  obtain ⟨⟨hP, hK, hD, hR⟩, hS, hO⟩ := Wl
  obtain ⟨hd, hn, -⟩ := okI_d hok (by show (59 : Nat) ≠ 99; decide)
  have hz := hG.2 x
  replace kk := kk (cons_ok (show inR (X.2.1 x) from ⟨by omega, hz⟩) hv)
  rw [show pcs k (ip + 1) = pcs k ip + 1 from hn] at kk
  rcases hop with hT | hT
  · obtain ⟨q0, hq0, -⟩ := wsh_at (h := h) (X := X) (hG.1 x (by omega))
    rw [enn_i (Or.inl hT)] at hq0
    exact va_alen hx hb hK hP q0 0 hq0 (ty := .int) (by rw [hT]; rfl) (v := Int32.ofInt (X.2.1 x)) rfl hd kk
  · obtain ⟨hX, hnA⟩ := hO.1 x hT
    have hbl : G.1 x < s.heap.size := by
      obtain ⟨scr, h1, -⟩ := hX
      exact (Array.getElem?_eq_some_iff.mp h1).1
    exact va_slen hx hb hX hbl hnA hS hd kk
set_option maxHeartbeats 2000000 in
/-- a reference out of a row -/
theorem snd_aal (C : xCx p s m args meth c k) (hG : xOK G X) {op a b : Nat} {z : Int} {js : List Nat} (hok : okI k ip (op, a, b, z, js) = true) {x : Nat} {j : Int} {st0 : List xV} (hop : (op = 60 ∧ X.1 x = 15) ∨ (op = 66 ∧ X.1 x = 16)) (h0 : 0 ≤ j) (h1 : j < X.2.1 x) (Wl : xWs G X s H locs h) (hj : inR j) (hv : ∀ v ∈ st0, okv v)
    (kk : (∀ v ∈ vr (X.2.2.1 x j.toNat) :: st0, okv v) → W p l e R s m args below meth c H locs cells slots Q (F0 m (pcs k (ip + 1)) arr ((vr (X.2.2.1 x j.toNat) :: st0).map (mv G)))) : W p l e R s m args below meth c H locs cells slots Q (F0 m (pcs k ip) arr (mv G (.inl j) :: mv G (.inr (.inl x)) :: st0.map (mv G))) := by
  obtain ⟨hx, hb, hml, hown, hts, hlk⟩ := C
  obtain ⟨⟨hP, hK, hD, hR⟩, hS, hO⟩ := Wl
  obtain ⟨hd, hn, -⟩ := okI_d hok (by show op ≠ 99; omega)
  replace kk := kk (cons_ok trivial hv)
  have hjn := i32_nat hj
  obtain ⟨q0, hq0, -⟩ := wsh_at (h := h) (X := X) (hG.1 x (by omega))
  rw [enn_q (by omega)] at hq0
  have hin := i32_vin hj h0 h1
  rcases hop with ⟨rfl, hT⟩ | ⟨rfl, hT⟩
  · rw [show pcs k (ip + 1) = pcs k ip + 1 from hn] at kk
    refine va_aldq hx hb hK hP q0 2 hq0 (C := "CellRows$Plan") (by rw [hT]; rfl) (i := Int32.ofInt j) hin hd ?_
    rw [hjn]
    exact kk
  · rw [show pcs k (ip + 1) = pcs k ip + 1 from hn] at kk
    have hlt : (Int32.ofInt j).toNatClampNeg < X.2.1 x := Nat.not_le.mp fun q => hin (Or.inr q)
    refine W.aald (v := va_rf (some (G.1 (X.2.2.1 x (Int32.ofInt j).toNatClampNeg)))) (ty := .array .int) hx hb (hP q0 _ hq0) ((hK.2 3 (G.2.1 (X.1 x), .array .int) (by rw [hT]; rfl)).1 (X.2.1 x) (fun j => va_rf (some (G.1 (X.2.2.1 x j))))) rfl (fun q => by cases q) (by show ¬ (Int32.ofInt j < 0 ∨ (arrV _ _ _).slots.size ≤ _); rw [arrV_size]; exact hin) (by show (arrV _ _ _).slots[_]? = _; rw [arrV_read _ _ hlt]) rfl rfl hd ?_
    rw [hjn]
    exact kk
set_option maxHeartbeats 2000000 in
theorem snd_gst (C : xCx p s m args meth c k) {a b : Nat} {z : Int} {js : List Nat} (hok : okI k ip (61, a, b, z, js) = true) (Wl : xWs G X s H locs h) (hv : ∀ v ∈ st, okv v)
    (kk : (∀ v ∈ vr (X.2.2.2 a) :: st, okv v) → W p l e R s m args below meth c H locs cells slots Q (F0 m (pcs k (ip + 1)) arr ((vr (X.2.2.2 a) :: st).map (mv G)))) : W p l e R s m args below meth c H locs cells slots Q (F0 m (pcs k ip) arr (st.map (mv G))) := by
  obtain ⟨hx, hb, hml, hown, hts, hlk⟩ := C
  obtain ⟨⟨hP, hK, hD, hR⟩, hS, hO⟩ := Wl
  obtain ⟨hd, hn, hw⟩ := okI_d hok (by show (61 : Nat) ≠ 99; decide)
  replace kk := kk (cons_ok trivial hv)
  rw [show pcs k (ip + 1) = pcs k ip + 3 from hn] at kk
  have hw2 : (decide (a < 5) && wAt (js.getD 0 0) (.fieldLink (ym k).cls z.toNat (sts.getD a ("", "")).1 (sts.getD a ("", "")).2 "[I")) = true := hw
  rw [Bool.and_eq_true] at hw2
  exact va_gets hx hb (hO.2 a (of_decide_eq_true hw2.1)) hS hown (hts _ (wAt_in hw2.2)) (fun _ h9 => h9) hd kk
set_option maxHeartbeats 2000000 in
theorem snd_cpy (C : xCx p s m args meth c k) (hG : xOK G X) (hRF : rmF k ≤ R.frames) (hRL : rmL k ≤ R.locals) (hla : arr.size = mxl k) {a b : Nat} {z : Int} {js : List Nat} (hok : okI k ip (62, a, b, z, js) = true) {x d : Nat} {sp dp n : Int} (hop : (X.1 x = 13 ∧ X.1 d = 13) ∨ (X.1 x = 14 ∧ X.1 d = 14)) (h1 : 0 ≤ sp) (h2 : 0 ≤ dp) (h3 : 0 ≤ n) (h4 : sp + n ≤ X.2.1 x) (h5 : dp + n ≤ X.2.1 d) (Wl : xWs G X s H locs h) (j1 : inR sp) (j2 : inR dp) (j3 : inR n)
    (kk : ∀ H2 locs2, xWs G X s H2 locs2 (up1 h.1 d (va_cpy (h.1 x) (h.1 d) sp.toNat dp.toNat n.toNat), h.2) → W p l e R s m args below meth c H2 locs2 cells slots Q (F0 m (pcs k (ip + 1)) arr [])) : W p l e R s m args below meth c H locs cells slots Q (F0 m (pcs k ip) arr [mv G (.inl n), mv G (.inl dp), mv G (.inr (.inl d)), mv G (.inl sp), mv G (.inr (.inl x))]) := by
  obtain ⟨hx, hb, hml, hown, hts, hlk⟩ := C
  obtain ⟨⟨hP, hK, hD, hR⟩, hS, hO⟩ := Wl
  obtain ⟨hd, hn, hw⟩ := okI_d hok (by show (62 : Nat) ≠ 99; decide)
  rw [show pcs k (ip + 1) = pcs k ip + 3 from hn] at kk
  have hw2 : (decide (1 ≤ rmF k) && decide (40 ≤ rmL k) && wAt (js.getD 0 0) (.methodLink (ym k).cls z.toNat arraycopyName)) = true := hw
  rw [Bool.and_eq_true, Bool.and_eq_true] at hw2
  have hf1 : 1 ≤ rmF k := of_decide_eq_true hw2.1.1
  have hf2 : 40 ≤ rmL k := of_decide_eq_true hw2.1.2
  have hTx : X.1 x = 13 ∨ X.1 x = 14 := by omega
  have hTd : X.1 d = 13 ∨ X.1 d = 14 := by omega
  have hO2 : xOld G X s s.heap (up1 h.1 d (va_cpy (h.1 x) (h.1 d) sp.toNat dp.toNat n.toNat), h.2) := by
    refine ⟨fun y hy => ?_, hO.2⟩
    have := hO.1 y hy
    rw [← up1_ne (f := h.1) (g := va_cpy (h.1 x) (h.1 d) sp.toNat dp.toNat n.toNat) (show y ≠ d from fun t => by rw [t] at hy; omega)] at this
    exact this
  have hcp : ∀ (P : Int → Prop), (∀ j, P (h.1 x j)) → (∀ j, P (h.1 d j)) → ∀ j, P (va_cpy (h.1 x) (h.1 d) sp.toNat dp.toNat n.toNat j) := by
    intro P p1 p2 j
    unfold va_cpy
    split
    · exact p1 _
    · exact p2 _
  have hrg : xRg X (up1 h.1 d (va_cpy (h.1 x) (h.1 d) sp.toNat dp.toNat n.toNat), h.2) := by
    refine ⟨fun y j => ?_, hR.2.1, fun y j hy => ?_⟩
    · show inR (up1 h.1 d _ y j)
      by_cases e : y = d
      · unfold up1; rw [if_pos e]; exact hcp inR (hR.1 x) (hR.1 d) j
      · rw [up1_ne e]; exact hR.1 y j
    · show up1 h.1 d _ y j = 0 ∨ up1 h.1 d _ y j = 1
      by_cases e : y = d
      · unfold up1; rw [if_pos e]; exact hcp (fun w => w = 0 ∨ w = 1) (fun j => hR.2.2 x j (by subst e; omega)) (fun j => hR.2.2 d j (by subst e; exact hy)) j
      · rw [up1_ne e]; exact hR.2.2 y j hy
  obtain ⟨q0, hq0, -⟩ := wsh_at (h := h) (X := X) (hG.1 x (by omega))
  obtain ⟨q1, hq1, hqL⟩ := wsh_at (h := h) (X := X) (hG.1 d (by omega))
  rw [enn_i hTx] at hq0
  rw [enn_i hTd] at hq1
  have hset : (.inl (G.2.1 (X.1 d), X.2.1 d, .inl (va_cpy (fun j => Int32.ofInt (h.1 x j)) (fun j => Int32.ofInt (h.1 d j)) sp.toNat dp.toNat n.toNat)) : va_E) = enn G X (up1 h.1 d (va_cpy (h.1 x) (h.1 d) sp.toNat dp.toNat n.toNat), h.2) d := by
    rw [enn_i hTd, ← f32_cp]
    show _ = (Sum.inl (G.2.1 (X.1 d), X.2.1 d, Sum.inl (fun j => Int32.ofInt (up1 h.1 d _ d j))) : va_E)
    unfold up1
    rw [if_pos rfl]
  have n1 := i32_nat j1
  have n2 := i32_nat j2
  have n3 := i32_nat j3
  have c0 : ∀ y : Int, inR y → 0 ≤ y → ¬ Int32.ofInt y < 0 := fun y hy h9 t => by
    rw [show (0 : Int32) = Int32.ofInt 0 from rfl, i32_lt hy ⟨by omega, by omega⟩] at t
    omega
  have htt : ∃ (t0 : Nat) (ty : FieldType), (xty4 G)[t0]? = some (G.2.1 (X.1 x), ty) ∧ (xty4 G)[t0]? = some (G.2.1 (X.1 d), ty) ∧ refKind ty = false ∧ ∀ i, fits ty (.int (Int32.ofInt (h.1 x i))) = true := by
    rcases hop with ⟨e1, e2⟩ | ⟨e1, e2⟩
    · exact ⟨0, .int, by rw [e1]; rfl, by rw [e2]; rfl, rfl, fun _ => rfl⟩
    · refine ⟨1, .boolean, by rw [e1]; rfl, by rw [e2]; rfl, rfl, fun i => ?_⟩
      rcases hR.2.2 x i e1 with e3 | e3 <;> rw [e3] <;> decide
  obtain ⟨t0, ty, u1, u2, u3, u4⟩ := htt
  refine va_copyi (rest := []) hx hb (by rw [hml, hla]) hown (hts _ (wAt_in hw2.2)) (hts _ acp_n) (hts _ acp_s) (hts _ acp_i) hK hP hD hS q0 q1 t0 t0 hq0 hq1 u1 u2 u3 (c0 _ j1 h1) (c0 _ j2 h2) (c0 _ j3 h3) (by rw [n1, n3]; omega) (by rw [n2, n3]; omega) (fun i _ => u4 _) (by omega) (Nat.le_trans (show _ ≤ 40 by decide) (Nat.le_trans hf2 hRL)) hd (fun H2 locs2 hP2 hD2 hS2 => ?_)
  rw [n1, n2, n3, hset, wsh_set (h2 := (up1 h.1 d (va_cpy (h.1 x) (h.1 d) sp.toNat dp.toNat n.toNat), h.2)) hD hqL (fun y hy => enn_eq (up1_ne hy) rfl)] at hP2 hD2
  exact kk H2 locs2 ⟨⟨hP2, hK, hD2, hrg⟩, hS2, hO2⟩
end SND
