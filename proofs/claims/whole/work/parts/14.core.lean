set_option maxRecDepth 100000 in
theorem noLaw_all : noLaw xcd = true := by decide +kernel
theorem getD_in {α : Type} (l : List α) (k : Nat) (d : α) : l.getD k d = d ∨ l.getD k d ∈ l := by
  rw [List.getD_eq_getElem?_getD]
  cases h : l[k]? with
  | none => exact Or.inl rfl
  | some a => exact Or.inr (List.mem_of_getElem? h)
theorem ins_noLaw {k ip : Nat} (ho : (ins k ip).1 = 73 ∨ (ins k ip).1 = 74) : xLaw (ins k ip).2.1 = false := by
  have hd : ∀ (c : List xI), ins k ip = c.getD ip (99, 0, 0, 0, []) → ins k ip ∈ c := by
    intro c hc
    rcases getD_in c ip (99, 0, 0, 0, []) with h | h
    · rw [hc, h] at ho
      rcases ho with h9 | h9 <;> cases h9
    · rw [hc]; exact h
  have h1 := hd _ rfl
  rcases getD_in (xcd.getD (k / 32) []) (k % 32) [] with h2 | h2
  · rw [h2] at h1; cases h1
  · rcases getD_in xcd (k / 32) [] with h3 | h3
    · rw [h3] at h2; cases h2
    · have := List.all_eq_true.mp (List.all_eq_true.mp (List.all_eq_true.mp noLaw_all _ h3) _ h2) _ h1
      rw [Bool.or_eq_true] at this
      rcases this with t | t
      · rcases ho with h9 | h9 <;> rw [h9] at t <;> cases t
      · exact Bool.not_eq_true' _ ▸ t
theorem clOK_d {X : xL} {op k2 mm : Nat} {st : List xV} (h : clOK X op k2 mm st = true) : mm ≤ st.length ∧ wd (st.drop mm) ≤ 8 ∧ (fla (st.take mm).reverse).length ≤ mxl k2 ∧ (op = 73 → ∃ x as, (st.take mm).reverse = .inr (.inl x) :: as ∧ X.1 x = cnm k2) := by
  unfold clOK at h
  rw [Bool.and_eq_true, Bool.and_eq_true, Bool.and_eq_true] at h
  obtain ⟨⟨⟨h1, h2⟩, h3⟩, h4⟩ := h
  refine ⟨of_decide_eq_true h1, of_decide_eq_true h2, of_decide_eq_true h3, fun ho => ?_⟩
  rw [if_pos ho] at h4
  split at h4
  · rename_i x as hx
    exact ⟨x, as, hx, of_decide_eq_true h4⟩
  · cases h4
theorem okv_sub {st st2 : List xV} (hv : ∀ v ∈ st, okv v) (hs : ∀ v ∈ st2, v ∈ st) : ∀ v ∈ st2, okv v := fun v h => hv v (hs v h)
set_option maxHeartbeats 4000000 in
theorem xcore (hAll : ∀ k, k < 288 → okM2 k = true) {l : Launch} {G : xG} {X : xL} (hG : xOK G X) : ∀ n, xCore l G X n := by
  intro n
  induction n with
  | zero => intro k ip ls st h r h2 hr; cases hr
  | succ n ih =>
    intro k ip ls st h r h2 hr p e R s m args below meth c H locs cells slots Q arr C hRF hRL hcl hsl Wl hl hv hQ
    have hok := okI_all hAll k ip
    rw [run_s] at hr
    by_cases h70 : (ins k ip).1 = 70 ∨ (ins k ip).1 = 71 ∨ (ins k ip).1 = 75
    · unfold runB at hr
      by_cases e1 : (ins k ip).1 = 70
      · rw [if_pos e1] at hr
        split at hr
        · rename_i z
          cases hr
          exact hQ ip arr H locs Wl ⟨⟨hok, fun v e9 => by cases e9; exact hv _ List.mem_cons_self⟩, Or.inl ⟨e1, _, rfl⟩⟩
        · cases hr
      · rw [if_neg e1] at hr
        by_cases e2 : (ins k ip).1 = 75
        · rw [if_pos e2] at hr
          split at hr
          · rename_i z
            split at hr
            · rename_i hz
              cases hr
              refine hQ ip arr H locs Wl ⟨⟨hok, fun v e9 => by cases e9; exact hv _ List.mem_cons_self⟩, Or.inr (Or.inl ⟨e2, ?_⟩)⟩
              rcases hz with rfl | rfl
              · exact Or.inl rfl
              · exact Or.inr rfl
            · cases hr
          · cases hr
        · have e3 : (ins k ip).1 = 71 := by omega
          rw [if_neg e2, if_pos e3] at hr
          split at hr
          · cases hr
            exact hQ ip arr H locs Wl ⟨⟨hok, fun v e9 => by cases e9⟩, Or.inr (Or.inr ⟨e3, rfl⟩)⟩
          · cases hr
    · by_cases hc : (ins k ip).1 = 73 ∨ (ins k ip).1 = 74
      · rw [runB_c hc] at hr
        have hnl := ins_noLaw hc
        rcases hi : ins k ip with ⟨op, k2, b, z, js⟩
        rw [hi] at hr hc hok hnl
        replace hc : op = 73 ∨ op = 74 := hc
        replace hnl : xLaw k2 = false := hnl
        obtain ⟨hd, hn, hw⟩ := okI_d hok (by show op ≠ 99; omega)
        dsimp only at hr
        generalize hmm : xna (op, k2, b, z, js) = mm at hr
        split at hr
        · rename_i hco
          split at hr
          · rename_i q1 hq1
            have hw2 : (decide (k2 < 288) && decide (npm k2 = b) && decide (rmF k2 + 1 ≤ rmF k) && decide (8 + (mxl k2 + 11) + rmL k2 ≤ rmL k) && decide (if op = 73 then cnm k2 < 13 else cnm k2 = 99) && wAt (js.getD 0 0) (.methodLink (ym k).cls z.toNat (ym k2))) = true := by
              rcases hc with rfl | rfl <;> exact hw
            rw [Bool.and_eq_true, Bool.and_eq_true, Bool.and_eq_true, Bool.and_eq_true, Bool.and_eq_true] at hw2
            obtain ⟨⟨⟨⟨⟨w1, w2⟩, w3⟩, w4⟩, w5⟩, w6⟩ := hw2
            have hk2 : k2 < 288 := of_decide_eq_true w1
            have hnp : npm k2 = b := of_decide_eq_true w2
            have hr1 : rmF k2 + 1 ≤ rmF k := of_decide_eq_true w3
            have hr2 : 8 + (mxl k2 + 11) + rmL k2 ≤ rmL k := of_decide_eq_true w4
            have hcn : if op = 73 then cnm k2 < 13 else cnm k2 = 99 := of_decide_eq_true w5
            have hK2 := xCal_of hAll hk2 hnl
            obtain ⟨c1, c2, c3, c4⟩ := clOK_d hco
            have hva : ∀ v ∈ (st.take mm).reverse, okv v := okv_sub hv (fun v h => List.mem_of_mem_take (List.mem_reverse.mp h))
            have hvr : (∀ v, q1.1 = some v → okv v) → ∀ v ∈ q1.1.toList ++ st.drop mm, okv v := by
              intro ho v hv9
              rcases List.mem_append.mp hv9 with h9 | h9
              · exact ho v (Option.mem_toList.mp h9)
              · exact hv v (List.mem_of_mem_drop h9)
            have hM := xMet ih hK2 hq1 c3 hva
            obtain ⟨hx, hb, hml, hown, hts, hlk⟩ := C
            have hts' : ∀ w ∈ tblG, w.before args s = true := hts
            have hGd := wsk_good hK2.2.1
            have hcB : CallB R s args (ym k).cls z.toNat (ym k2) (byt k2) (mxl k2) (rtt k2) (wsk k2) (rmk k2) 0 0 b := by
              rw [← hnp]
              exact callB_of (npm k2) hts' hGd rfl rfl rfl (hts _ hK2.2.2.1) (hts _ (wAt_in w6)) ⟨hK2.2.2.2.1, hK2.2.2.2.2.1, hK2.2.2.2.2.2.1⟩ ⟨Nat.le_trans hr1 hRF, Nat.le_trans hr2 hRL⟩
            have hsz : arr.size = mxl k := hl.2.1.1
            have hstk : st = (st.take mm).reverse.reverse ++ st.drop mm := by rw [List.reverse_reverse, List.take_append_drop]
            have hwd : 2 * (F0 m (pcs k ip) arr (st.map (mv G))).monitorRoom + (((st.drop mm).map (mv G)).map fun v => v.category).sum ≤ 8 := by
              rw [mv_wd]
              show 2 * 0 + _ ≤ 8
              omega
            have hnx : pcs k (ip + 1) = pcs k ip + 3 := by
              rcases hc with rfl | rfl <;> exact hn
            have cont : ∀ H1 locs1, xWs G X s H1 locs1 q1.2 → (∀ v, q1.1 = some v → okv v) → W p l e R s m args below meth c H1 locs1 cells slots Q (F0 m (pcs k ip + 3) arr ((q1.1.map (mv G)).toList ++ (st.drop mm).map (mv G))) := by
              intro H1 locs1 W1 ho
              have := ih k (ip + 1) ls (q1.1.toList ++ st.drop mm) q1.2 r h2 hr (e := e) (R := R) (below := below) (cells := cells) (slots := slots) (Q := Q) (arr := arr) ⟨hx, hb, hml, hown, hts, hlk⟩ hRF hRL hcl hsl W1 hl (hvr ho) hQ
              rw [hnx, List.map_append] at this
              rw [show (q1.1.map (mv G)).toList = q1.1.toList.map (mv G) by cases q1.1 <;> rfl]
              exact this
            have hlen : (st.take mm).length = mm := by rw [List.length_take]; omega
            rcases hc with rfl | rfl
            · obtain ⟨x, as, hrev, hTx⟩ := c4 rfl
              have hcx : cnm k2 < 13 := hcn
              obtain ⟨-, hcn2, hin, hse⟩ := hK2.2.2.2.2.2.2.2.2 (by omega)
              have hmm1 : mm = b + 1 := by rw [← hmm]; rfl
              have hst2 : st.map (mv G) = (as.map (mv G)).reverse ++ .ref (G.1 x) :: (st.drop mm).map (mv G) := by
                conv => lhs; rw [hstk, hrev]
                rw [List.reverse_cons, List.map_append, List.map_append, List.map_reverse, List.append_assoc]
                rfl
              obtain ⟨q0, hq0, -⟩ := wsh_at (h := h) (X := X) (hG.1 x (by omega))
              rw [enn_o (by omega)] at hq0
              have hrec := va_recv Wl.1.2.1 Wl.1.1 (xcl_at (ci := X.1 x) (by omega)) hq0
              rw [show (xcnL.getD (X.1 x) "", xfl (X.1 x), (xFl.getD (X.1 x) []).length).1 = (ym k2).cls by rw [hTx]; exact hcn2] at hrec
              have hrun := va_runV (l := l) (e := e) (below := below) (meth := meth) (H := H) (locs := locs) (cells := cells) (slots := slots) (As := as.map (mv G)) (rest := (st.drop mm).map (mv G)) (g := F0 m (pcs k ip) arr (st.map (mv G))) ⟨hx, hb, hml, hown, hts'⟩ hM ⟨hcB, hts _ hin, hts _ hse⟩
                ⟨xPm_blind, hrec, fun U hU hW => by have := xPm_at (as := (st.take mm).reverse) Wl U hU hW; rw [hrev] at this ⊢; exact this⟩ rfl (by
                  have := congrArg List.length hrev
                  rw [List.length_reverse, hlen, List.length_cons] at this
                  rw [List.length_map]
                  omega) hsz hst2 hwd hd ⟨hcl, hsl⟩
              exact xgo hrun Wl cont
            · have hc99 : cnm k2 = 99 := hcn
              have hst9 := hK2.2.2.2.2.2.2.2.1 hc99
              have hmm1 : mm = b := by rw [← hmm]; rfl
              have hst2 : st.map (mv G) = (((st.take mm).reverse).map (mv G)).reverse ++ (st.drop mm).map (mv G) := by
                conv => lhs; rw [hstk]
                rw [List.map_append, List.map_reverse]
              have hrun := va_runS (l := l) (e := e) (below := below) (meth := meth) (H := H) (locs := locs) (cells := cells) (slots := slots) (As := ((st.take mm).reverse).map (mv G)) (rest := (st.drop mm).map (mv G)) (g := F0 m (pcs k ip) arr (st.map (mv G))) ⟨hx, hb, hml, hown, hts'⟩ hM ⟨hcB, hts _ hst9⟩
                ⟨xPm_blind, xPm_at (as := (st.take mm).reverse) Wl⟩ rfl (by rw [List.length_map, List.length_reverse, hlen, hmm1]) hsz hst2 hwd hd ⟨hcl, hsl⟩
              exact xgo hrun Wl cont
          · cases hr
        · cases hr
      · rw [runB_o (by omega)] at hr
        split at hr
        · rename_i q hq
          refine snd_stp C hG hRF hRL hok hq hl hv Wl (fun H2 locs2 arr2 w2 l2 v2 => ?_)
          exact ih k q.1 q.2.1 q.2.2.1 q.2.2.2 r h2 hr C hRF hRL hcl hsl w2 l2 v2 hQ
        · cases hr
