/-! PACKING in the reference: to make lawful -/
def GX (h h2 : xH) : Prop := (∀ a, a ≠ 73 → a < 79 ∨ 94 < a → h2.1 a = h.1 a) ∧ (∀ a k, ¬ (a = 70 ∧ (k = 18 ∨ k = 20 ∨ k = 22 ∨ k = 25)) → h2.2 a k = h.2 a k)
theorem GX.refl {h : xH} : GX h h := ⟨fun _ _ _ => rfl, fun _ _ _ => rfl⟩
theorem GX.tr {h h2 h3 : xH} (g : GX h h2) (k : GX h2 h3) : GX h h3 := ⟨fun a q r => (k.1 a q r).trans (g.1 a q r), fun a j q => (k.2 a j q).trans (g.2 a j q)⟩
theorem GY.gx {h h2 : xH} (g : GY h h2) : GX h h2 := ⟨fun a _ q => g.1 a q, g.2⟩
theorem M73.gx {h h2 : xH} (g : M73 h h2) : GX h h2 := ⟨fun a q _ => g.1 a q, fun a k _ => by rw [g.2]⟩
def SX (X : xL) (h0 h : xH) (u : Nat → Nat → Int) : Prop := NZ X h ∧ GX h0 h ∧ vm h = u ∧ RBr (h.1 73)
/-- rows that change behind the queue -/
def G7 (h h2 : xH) : Prop := (∀ a, a ≠ 73 → a ≠ 85 → a ≠ 86 → a ≠ 87 → h2.1 a = h.1 a) ∧ (∀ a k, ¬ (a = 70 ∧ k = 25) → h2.2 a k = h.2 a k)
theorem G7.refl {h : xH} : G7 h h := ⟨fun _ _ _ _ _ => rfl, fun _ _ _ => rfl⟩
theorem G7.tr {h h2 h3 : xH} (g : G7 h h2) (k : G7 h2 h3) : G7 h h3 := ⟨fun a q r s t => (k.1 a q r s t).trans (g.1 a q r s t), fun a j q => (k.2 a j q).trans (g.2 a j q)⟩
theorem G7.gx {h h2 : xH} (g : G7 h h2) : GX h h2 := ⟨fun a q r => g.1 a q (by omega) (by omega) (by omega), fun a k q => g.2 a k (by omega)⟩
theorem GN.g7 {h h2 : xH} (g : GN h h2) : G7 h h2 := ⟨fun a _ _ q r => g.1 a q r, g.2⟩
theorem M73.g7 {h h2 : xH} (g : M73 h h2) : G7 h h2 := ⟨fun a q _ _ _ => g.1 a q, fun a k _ => by rw [g.2]⟩
section PKU
variable {X : xL} {Q : Option xV → xH → Prop} {ns nb ln : Nat} {h : xH}
theorem GX.fm {h2 : xH} (g : GX h h2) (z : NZ X h2) (r : RBr (h2.1 73)) : Fm X h h2 := ⟨z, fun a q => ⟨g.1 a (by omega) (by omega), funext fun k => g.2 a k (by omega)⟩, fun a q => g.1 a (by omega) (by omega), fun k q => g.2 70 k (by omega), r⟩
set_option maxHeartbeats 8000000 in
theorem ls_242 (hc : CT X ns nb ln) {v : Nat → Nat → Int} {h0 : xH} {q : List Nat} (q20 : q.length ≤ 20) (qc : ∀ c, c ∈ q → c < 20) (r84 : R1 (h0.1 84) q) (n22 : h0.2 70 22 = q.length) : ∀ (rest done : List Nat) (u : Nat → Nat → Int) (h : xH), done ++ rest = q → VS X h0 h u → SJ u v → RGv u → AGP (fun d => d ∈ done) u v → (∀ h2 u2 x1, VS X h0 h2 u2 → SJ u2 v → RGv u2 → AGP (fun d => d ∈ q) u2 v → Ev X 242 18 [some (vr 70), x1, none] [] h2 Q) → Ev X 242 6 [some (vr 70), some (vi (done.length : Int)), none] [] h Q := by
  intro rest
  induction rest with
  | nil =>
    intro done u h eq vs sj w ag hq
    rw [List.append_nil] at eq
    have e22 : h.2 70 22 = done.length := by rw [vs.2.1.2, n22, ← eq]
    rw [e_242_6]
    simp (disch := first | assumption | omega) only [e_242_7, e_242_8, e_242_9, onI_s, onR_s, onL_s, gl_0, gl_n, gl_1, gl_2, gl_3, gl_4, gl_5, gl_6, gl_7, gl_8, gl_9, gl_10, gl_11, gl_12, gl_13, gl_14, gl_15, gl_16, gl_17, sk0i, sk0r, sk0n, sk1i, sk1r, sk1n, sk_2, sk_3, sk_4, sk_5, sk_6, sk_7, sk_8, sk_9, sk_10, sk_11, sk_12, sk_13, sk_14, sk_15, sk_16, sk_17, ls_0, ls_1, ls_2, ls_3, ls_4, ls_5, ls_6, ls_7, ls_8, ls_9, ls_10, ls_11, ls_12, ls_13, ls_14, ls_15, ls_16, ls_17, ct1_i, ct1_r, wd8_0, wd8_i1, wd8_r1, wd8_i2, wd8_r2, wd8_i3, wd8_r3, wd8_i4, wd8_r4, wd8_i5, wd8_r5, wd8_i6, wd8_r6, wd8_i7, wd8_r7, wd8_i8, wd8_r8, wd8_l2, wd8_l3, wd8_l4, wd8_l5, wd8_l6, wd8_l7, wd8_l8, tl_s, tl_n, inR_t, bd_t, true_and, and_true, true_or, or_true, if_true_x, if_false_x, if_pos, if_neg, Int.toNat_natCast, natL, bI_0, bI_1, bI_ft, eq_self, b_tf, b_ft, not_true_eq_false, not_false_eq_true, e22, hc.t70, hc.r70_4, hc.r70_5, hc.r70_6, hc.r70_7, hc.r70_8, hc.r70_10, hc.r70_11, hc.r70_12, hc.r70_14, hc.r70_15, hc.r70_16, hc.r70_17, hc.r70_19, hc.r70_21, hc.r70_23, hc.r70_24, hc.r70_26, hc.r70_27, hc.r70_28, hc.r70_29, hc.r70_30, hc.r70_31, hc.r70_32, hc.r70_33, hc.r70_36]
    rw [← eq] at hq
    exact hq h u _ vs sj w ag
  | cons c rest ih =>
    intro done u h eq vs sj w ag hq
    have lq : done.length + (rest.length + 1) = q.length := by rw [← eq]; simp
    have e22 : h.2 70 22 = q.length := by rw [vs.2.1.2, n22]
    have hcq : q[done.length]? = some c := by rw [← eq]; simp
    have c20 := qc c (List.mem_of_getElem? hcq)
    have e84 : h.1 84 done.length = c := by rw [vs.2.1.1 84 (by omega)]; exact r84 _ c hcq
    rw [e_242_6]
    simp (disch := first | assumption | omega) only [e_242_7, e_242_8, e_242_9, e_242_10, e_242_11, e_242_12, e_242_13, e_242_14, e_242_15, onI_s, onR_s, onL_s, gl_0, gl_n, gl_1, gl_2, gl_3, gl_4, gl_5, gl_6, gl_7, gl_8, gl_9, gl_10, gl_11, gl_12, gl_13, gl_14, gl_15, gl_16, gl_17, sk0i, sk0r, sk0n, sk1i, sk1r, sk1n, sk_2, sk_3, sk_4, sk_5, sk_6, sk_7, sk_8, sk_9, sk_10, sk_11, sk_12, sk_13, sk_14, sk_15, sk_16, sk_17, ls_0, ls_1, ls_2, ls_3, ls_4, ls_5, ls_6, ls_7, ls_8, ls_9, ls_10, ls_11, ls_12, ls_13, ls_14, ls_15, ls_16, ls_17, ct1_i, ct1_r, wd8_0, wd8_i1, wd8_r1, wd8_i2, wd8_r2, wd8_i3, wd8_r3, wd8_i4, wd8_r4, wd8_i5, wd8_r5, wd8_i6, wd8_r6, wd8_i7, wd8_r7, wd8_i8, wd8_r8, wd8_l2, wd8_l3, wd8_l4, wd8_l5, wd8_l6, wd8_l7, wd8_l8, tl_s, tl_n, inR_t, bd_t, true_and, and_true, true_or, or_true, if_true_x, if_false_x, if_pos, if_neg, Int.toNat_natCast, natL, bI_0, bI_1, bI_ft, eq_self, b_tf, b_ft, not_true_eq_false, not_false_eq_true, e22, e84, m_165 hc, hc.t70, hc.r70_4, hc.r70_5, hc.r70_6, hc.r70_7, hc.r70_8, hc.r70_10, hc.r70_11, hc.r70_12, hc.r70_14, hc.r70_15, hc.r70_16, hc.r70_17, hc.r70_19, hc.r70_21, hc.r70_23, hc.r70_24, hc.r70_26, hc.r70_27, hc.r70_28, hc.r70_29, hc.r70_30, hc.r70_31, hc.r70_32, hc.r70_33, hc.r70_36, hc.t84, hc.z84]
    rw [e_242_16]
    simp (disch := first | assumption | omega) only [e_242_17, onI_s, onR_s, onL_s, gl_0, gl_n, gl_1, gl_2, gl_3, gl_4, gl_5, gl_6, gl_7, gl_8, gl_9, gl_10, gl_11, gl_12, gl_13, gl_14, gl_15, gl_16, gl_17, sk0i, sk0r, sk0n, sk1i, sk1r, sk1n, sk_2, sk_3, sk_4, sk_5, sk_6, sk_7, sk_8, sk_9, sk_10, sk_11, sk_12, sk_13, sk_14, sk_15, sk_16, sk_17, ls_0, ls_1, ls_2, ls_3, ls_4, ls_5, ls_6, ls_7, ls_8, ls_9, ls_10, ls_11, ls_12, ls_13, ls_14, ls_15, ls_16, ls_17, ct1_i, ct1_r, wd8_0, wd8_i1, wd8_r1, wd8_i2, wd8_r2, wd8_i3, wd8_r3, wd8_i4, wd8_r4, wd8_i5, wd8_r5, wd8_i6, wd8_r6, wd8_i7, wd8_r7, wd8_i8, wd8_r8, wd8_l2, wd8_l3, wd8_l4, wd8_l5, wd8_l6, wd8_l7, wd8_l8, tl_s, tl_n, inR_t, bd_t, true_and, and_true, true_or, or_true, if_true_x, if_false_x, if_pos, if_neg, Int.toNat_natCast, natL, bI_0, bI_1, bI_ft, eq_self, b_tf, b_ft, not_true_eq_false, not_false_eq_true, cast_s]
    have := ih (done ++ [c]) (lsV u c) _ (by rw [← eq]; simp) (vs.gv hc c20 (r := -1) (t := -1)) (fun j h1 h2 => by rw [lsV_o ⟨h1, h2⟩]; exact sj j h1 h2) (lsV_rg w c) ((ls_ag ag c).mono (fun d p => by simpa using p)) hq
    rw [List.length_append, List.length_singleton] at this
    exact this
set_option maxHeartbeats 16000000 in
theorem l_242 (hc : CT X ns nb ln) {u v : Nat → Nat → Int} (w : RGv v) (wu : RGv u) (sj : SJ u v) {tl : Int} (t0 : 0 ≤ tl) (t1 : tl ≤ 8) {h0 : xH} (ev : vm h0 = u) (et : h0.1 72 4 = tl) {q : List Nat} (q20 : q.length ≤ 20) (qc : ∀ c, c ∈ q → c < 20) (qn : q.Nodup) (r84 : R1 (h0.1 84) q) (n22 : h0.2 70 22 = q.length) : ∀ (rest : List Nat) (go : List (Nat × Nat)) (h : xH) (x2 : Option xV), go.map (fun x => x.1) ++ rest = q → PM h v go → FT v go → NZ X h → G7 h0 h → h.1 73 = h0.1 73 → (asg v tl rest go = none → ∀ h2, NZ X h2 → G7 h0 h2 → h2.1 73 = h0.1 73 → Q (some (vi 0)) h2) → (∀ go2, asg v tl rest go = some go2 → go2.map (fun x => x.1) = q → FT v go2 → ∀ h2 x1 x2, NZ X h2 → G7 h0 h2 → h2.1 73 = h0.1 73 → PM h2 v go2 → Ev X 242 47 [some (vr 70), x1, x2] [] h2 Q) → Ev X 242 20 [some (vr 70), some (vi (go.length : Int)), x2] [] h Q := by
  intro rest
  induction rest with
  | nil =>
    intro go h x2 eq pm ft z g e73 hN hS
    rw [List.append_nil] at eq
    have e22 : h.2 70 22 = go.length := by rw [g.2 70 22 (by omega), n22, ← eq, List.length_map]
    rw [e_242_20]
    simp (disch := first | assumption | omega) only [e_242_21, e_242_22, e_242_23, onI_s, onR_s, onL_s, gl_0, gl_n, gl_1, gl_2, gl_3, gl_4, gl_5, gl_6, gl_7, gl_8, gl_9, gl_10, gl_11, gl_12, gl_13, gl_14, gl_15, gl_16, gl_17, sk0i, sk0r, sk0n, sk1i, sk1r, sk1n, sk_2, sk_3, sk_4, sk_5, sk_6, sk_7, sk_8, sk_9, sk_10, sk_11, sk_12, sk_13, sk_14, sk_15, sk_16, sk_17, ls_0, ls_1, ls_2, ls_3, ls_4, ls_5, ls_6, ls_7, ls_8, ls_9, ls_10, ls_11, ls_12, ls_13, ls_14, ls_15, ls_16, ls_17, ct1_i, ct1_r, wd8_0, wd8_i1, wd8_r1, wd8_i2, wd8_r2, wd8_i3, wd8_r3, wd8_i4, wd8_r4, wd8_i5, wd8_r5, wd8_i6, wd8_r6, wd8_i7, wd8_r7, wd8_i8, wd8_r8, wd8_l2, wd8_l3, wd8_l4, wd8_l5, wd8_l6, wd8_l7, wd8_l8, tl_s, tl_n, inR_t, bd_t, true_and, and_true, true_or, or_true, if_true_x, if_false_x, if_pos, if_neg, Int.toNat_natCast, natL, bI_0, bI_1, bI_ft, eq_self, b_tf, b_ft, not_true_eq_false, not_false_eq_true, e22, hc.t70, hc.r70_4, hc.r70_5, hc.r70_6, hc.r70_7, hc.r70_8, hc.r70_10, hc.r70_11, hc.r70_12, hc.r70_14, hc.r70_15, hc.r70_16, hc.r70_17, hc.r70_19, hc.r70_21, hc.r70_23, hc.r70_24, hc.r70_26, hc.r70_27, hc.r70_28, hc.r70_29, hc.r70_30, hc.r70_31, hc.r70_32, hc.r70_33, hc.r70_36]
    exact hS go rfl eq ft h _ _ z g e73 pm
  | cons c rest ih =>
    intro go h x2 eq pm ft z g e73 hN hS
    have lq : go.length + (rest.length + 1) = q.length := by rw [← eq]; simp
    have e22 : h.2 70 22 = q.length := by rw [g.2 70 22 (by omega), n22]
    have hcq : q[go.length]? = some c := by rw [← eq, List.getElem?_append_right (by simp)]; simp
    have c20 := qc c (List.mem_of_getElem? hcq)
    have cng : ∀ x, x ∈ go → x.1 ≠ c := fun x hx e => by
      rw [← eq, List.nodup_append] at qn
      exact qn.2.2 x.1 (List.mem_map.mpr ⟨x, hx, rfl⟩) c (by simp) e
    have e84 : h.1 84 go.length = c := by rw [g.1 84 (by omega) (by omega) (by omega) (by omega)]; exact r84 _ c hcq
    have evh : vm h = u := by
      rw [← ev]
      show rv (h.1 73) (h.2 70 2) (h.2 70 3) = rv (h0.1 73) (h0.2 70 2) (h0.2 70 3)
      rw [e73, g.2 70 2 (by decide), g.2 70 3 (by decide)]
    have eth : h.1 72 4 = tl := by rw [g.1 72 (by omega) (by omega) (by omega) (by omega)]; exact et
    rw [asg] at hN hS
    rw [e_242_20]
    simp (disch := first | assumption | omega) only [e_242_21, e_242_22, e_242_23, e_242_24, e_242_25, e_242_26, e_242_27, e_242_28, e_242_29, onI_s, onR_s, onL_s, gl_0, gl_n, gl_1, gl_2, gl_3, gl_4, gl_5, gl_6, gl_7, gl_8, gl_9, gl_10, gl_11, gl_12, gl_13, gl_14, gl_15, gl_16, gl_17, sk0i, sk0r, sk0n, sk1i, sk1r, sk1n, sk_2, sk_3, sk_4, sk_5, sk_6, sk_7, sk_8, sk_9, sk_10, sk_11, sk_12, sk_13, sk_14, sk_15, sk_16, sk_17, ls_0, ls_1, ls_2, ls_3, ls_4, ls_5, ls_6, ls_7, ls_8, ls_9, ls_10, ls_11, ls_12, ls_13, ls_14, ls_15, ls_16, ls_17, ct1_i, ct1_r, wd8_0, wd8_i1, wd8_r1, wd8_i2, wd8_r2, wd8_i3, wd8_r3, wd8_i4, wd8_r4, wd8_i5, wd8_r5, wd8_i6, wd8_r6, wd8_i7, wd8_r7, wd8_i8, wd8_r8, wd8_l2, wd8_l3, wd8_l4, wd8_l5, wd8_l6, wd8_l7, wd8_l8, tl_s, tl_n, inR_t, bd_t, true_and, and_true, true_or, or_true, if_true_x, if_false_x, if_pos, if_neg, Int.toNat_natCast, natL, bI_0, bI_1, bI_ft, eq_self, b_tf, b_ft, not_true_eq_false, not_false_eq_true, e22, e84, hc.t70, hc.r70_4, hc.r70_5, hc.r70_6, hc.r70_7, hc.r70_8, hc.r70_10, hc.r70_11, hc.r70_12, hc.r70_14, hc.r70_15, hc.r70_16, hc.r70_17, hc.r70_19, hc.r70_21, hc.r70_23, hc.r70_24, hc.r70_26, hc.r70_27, hc.r70_28, hc.r70_29, hc.r70_30, hc.r70_31, hc.r70_32, hc.r70_33, hc.r70_36, hc.t84, hc.z84]
    (rw [e_242_30]; refine ⟨⟨hc.t70, by simp [wd_i, wd_r, wd_l, wd_0]⟩, ?_⟩)
    refine m_240 hc w wu sj t0 t1 (by omega) ft c20 evh pm eth z (fun h1 z1 g1 => ?_)
    have e731 : h1.1 73 = h0.1 73 := by rw [g1.1 73 (by omega) (by omega)]; exact e73
    by_cases ch : chR v tl go c = -1
    · rw [if_pos ch] at hN
      simp (disch := first | assumption | omega) only [e_242_31, e_242_32, e_242_33, e_242_34, e_242_35, e_242_36, onI_s, onR_s, onL_s, gl_0, gl_n, gl_1, gl_2, gl_3, gl_4, gl_5, gl_6, gl_7, gl_8, gl_9, gl_10, gl_11, gl_12, gl_13, gl_14, gl_15, gl_16, gl_17, sk0i, sk0r, sk0n, sk1i, sk1r, sk1n, sk_2, sk_3, sk_4, sk_5, sk_6, sk_7, sk_8, sk_9, sk_10, sk_11, sk_12, sk_13, sk_14, sk_15, sk_16, sk_17, ls_0, ls_1, ls_2, ls_3, ls_4, ls_5, ls_6, ls_7, ls_8, ls_9, ls_10, ls_11, ls_12, ls_13, ls_14, ls_15, ls_16, ls_17, ct1_i, ct1_r, wd8_0, wd8_i1, wd8_r1, wd8_i2, wd8_r2, wd8_i3, wd8_r3, wd8_i4, wd8_r4, wd8_i5, wd8_r5, wd8_i6, wd8_r6, wd8_i7, wd8_r7, wd8_i8, wd8_r8, wd8_l2, wd8_l3, wd8_l4, wd8_l5, wd8_l6, wd8_l7, wd8_l8, tl_s, tl_n, inR_t, bd_t, true_and, and_true, true_or, or_true, if_true_x, if_false_x, if_pos, if_neg, Int.toNat_natCast, natL, bI_0, bI_1, bI_ft, eq_self, b_tf, b_ft, not_true_eq_false, not_false_eq_true, ch]
      exact hN rfl h1 z1 (g.tr g1.g7) e731
    · rw [if_neg ch] at hN hS
      obtain ⟨k, x, hk, hx, xf, xs⟩ := chR_in ch
      rw [hk] at ch hN hS ⊢
      rw [Int.toNat_natCast] at hN hS
      have q84 : h1.1 84 go.length = c := by rw [g1.1 84 (by omega) (by omega)]; exact e84
      have p1 := pm.gn g1
      have lg : (go ++ [(c, k)]).length = go.length + 1 := by simp
      simp (disch := first | assumption | omega) only [e_242_31, e_242_32, e_242_33, e_242_34, e_242_37, e_242_38, e_242_39, e_242_40, e_242_41, e_242_42, e_242_43, e_242_44, e_242_45, e_242_46, onI_s, onR_s, onL_s, gl_0, gl_n, gl_1, gl_2, gl_3, gl_4, gl_5, gl_6, gl_7, gl_8, gl_9, gl_10, gl_11, gl_12, gl_13, gl_14, gl_15, gl_16, gl_17, sk0i, sk0r, sk0n, sk1i, sk1r, sk1n, sk_2, sk_3, sk_4, sk_5, sk_6, sk_7, sk_8, sk_9, sk_10, sk_11, sk_12, sk_13, sk_14, sk_15, sk_16, sk_17, ls_0, ls_1, ls_2, ls_3, ls_4, ls_5, ls_6, ls_7, ls_8, ls_9, ls_10, ls_11, ls_12, ls_13, ls_14, ls_15, ls_16, ls_17, ct1_i, ct1_r, wd8_0, wd8_i1, wd8_r1, wd8_i2, wd8_r2, wd8_i3, wd8_r3, wd8_i4, wd8_r4, wd8_i5, wd8_r5, wd8_i6, wd8_r6, wd8_i7, wd8_r7, wd8_i8, wd8_r8, wd8_l2, wd8_l3, wd8_l4, wd8_l5, wd8_l6, wd8_l7, wd8_l8, tl_s, tl_n, inR_t, bd_t, true_and, and_true, true_or, or_true, if_true_x, if_false_x, if_pos, if_neg, Int.toNat_natCast, natL, bI_0, bI_1, bI_ft, eq_self, b_tf, b_ft, not_true_eq_false, not_false_eq_true, ch, q84, cast_s, hc.t70, hc.r70_4, hc.r70_5, hc.r70_6, hc.r70_7, hc.r70_8, hc.r70_10, hc.r70_11, hc.r70_12, hc.r70_14, hc.r70_15, hc.r70_16, hc.r70_17, hc.r70_19, hc.r70_21, hc.r70_23, hc.r70_24, hc.r70_26, hc.r70_27, hc.r70_28, hc.r70_29, hc.r70_30, hc.r70_31, hc.r70_32, hc.r70_33, hc.r70_36, hc.t84, hc.z84, hc.t85, hc.z85]
      obtain ⟨h2, e2⟩ : ∃ h2 : xH, h2 = (up2 h1.1 85 c (k : Int), h1.2) := ⟨_, rfl⟩
      rw [← e2]
      have z2 : NZ X h2 := by rw [e2]; exact NZ.up (I := h1.1) (F := h1.2) z1 (by rw [hc.z85]; omega)
      have o2 : ∀ a, a ≠ 85 → h2.1 a = h1.1 a := fun a q => by rw [e2]; exact up2_of q
      have f2 : h2.2 = h1.2 := by rw [e2]
      have pm2 : PM h2 v (go ++ [(c, k)]) := by
        refine ⟨by rw [f2]; exact p1.1, ?_, ?_⟩
        · rw [o2 79 (by omega), o2 80 (by omega), o2 81 (by omega), o2 82 (by omega)]
          exact p1.2.1
        · intro i y hy
          rw [o2 84 (by omega), e2]
          dsimp only
          rw [up2_same]
          rcases snoc_get hy with ⟨d, hy⟩ | ⟨d, hy⟩
          · have := p1.2.2 i y hy
            rw [if_neg (cng y (List.mem_of_getElem? hy))]
            exact this
          · rw [hy, d]
            dsimp only
            rw [if_pos rfl]
            exact ⟨q84, rfl, c20⟩
      have := ih (go ++ [(c, k)]) h2 (some (vi k)) (by rw [← eq]; simp) pm2 (ft.snoc hx xs) z2 (g.tr (g1.g7.tr ⟨fun a _ q _ _ => o2 a q, fun a k _ => by rw [f2]⟩)) (by rw [o2 73 (by omega)]; exact e731) hN hS
      rw [lg] at this
      exact this
set_option maxHeartbeats 8000000 in
theorem pl_242 (hc : CT X ns nb ln) {v : Nat → Nat → Int} (wv : RGv v) {go : List (Nat × Nat)} (g20 : go.length ≤ 20) (ft : FT v go) (gN : ∀ x, x ∈ go → 1 ≤ v 12 x.1) {h0 : xH} (pm : PM h0 v go) (n22 : h0.2 70 22 = go.length) : ∀ (M : List Rn) (k : Nat) (u : Nat → Nat → Int) (h : xH) (x2 : Option xV), (rnL v).drop k = M → k + M.length = (rnL v).length → NZ X h → G7 h0 h → h.1 85 = h0.1 85 → vm h = u → RBr (h.1 73) → SJ u v → RGv u → (∀ h2, NZ X h2 → G7 h0 h2 → vm h2 = plA v go M k u → RBr (h2.1 73) → SJ (plA v go M k u) v → RGv (plA v go M k u) → Q (some (vi 1)) h2) → Ev X 242 49 [some (vr 70), some (vi k), x2] [] h Q := by
  have l256 := rnL_len wv
  have pmH : ∀ h, G7 h0 h → h.1 85 = h0.1 85 → PM h v go := fun h g e => by
    unfold PM
    rw [g.1 79 (by omega) (by omega) (by omega) (by omega), g.1 80 (by omega) (by omega) (by omega) (by omega), g.1 81 (by omega) (by omega) (by omega) (by omega), g.1 82 (by omega) (by omega) (by omega) (by omega), g.1 84 (by omega) (by omega) (by omega) (by omega), e, g.2 70 18 (by omega)]
    exact pm
  intro M
  induction M with
  | nil =>
    intro k u h x2 hd hk z g e85 ev rb sj w hq
    simp at hk
    have n7 := (pmH h g e85).1
    rw [e_242_49]
    simp (disch := first | assumption | omega) only [e_242_50, e_242_51, e_242_52, e_242_58, e_242_59, onI_s, onR_s, onL_s, gl_0, gl_n, gl_1, gl_2, gl_3, gl_4, gl_5, gl_6, gl_7, gl_8, gl_9, gl_10, gl_11, gl_12, gl_13, gl_14, gl_15, gl_16, gl_17, sk0i, sk0r, sk0n, sk1i, sk1r, sk1n, sk_2, sk_3, sk_4, sk_5, sk_6, sk_7, sk_8, sk_9, sk_10, sk_11, sk_12, sk_13, sk_14, sk_15, sk_16, sk_17, ls_0, ls_1, ls_2, ls_3, ls_4, ls_5, ls_6, ls_7, ls_8, ls_9, ls_10, ls_11, ls_12, ls_13, ls_14, ls_15, ls_16, ls_17, ct1_i, ct1_r, wd8_0, wd8_i1, wd8_r1, wd8_i2, wd8_r2, wd8_i3, wd8_r3, wd8_i4, wd8_r4, wd8_i5, wd8_r5, wd8_i6, wd8_r6, wd8_i7, wd8_r7, wd8_i8, wd8_r8, wd8_l2, wd8_l3, wd8_l4, wd8_l5, wd8_l6, wd8_l7, wd8_l8, tl_s, tl_n, inR_t, bd_t, true_and, and_true, true_or, or_true, if_true_x, if_false_x, if_pos, if_neg, Int.toNat_natCast, natL, bI_0, bI_1, bI_ft, eq_self, b_tf, b_ft, not_true_eq_false, not_false_eq_true, n7, hc.t70, hc.r70_4, hc.r70_5, hc.r70_6, hc.r70_7, hc.r70_8, hc.r70_10, hc.r70_11, hc.r70_12, hc.r70_14, hc.r70_15, hc.r70_16, hc.r70_17, hc.r70_19, hc.r70_21, hc.r70_23, hc.r70_24, hc.r70_26, hc.r70_27, hc.r70_28, hc.r70_29, hc.r70_30, hc.r70_31, hc.r70_32, hc.r70_33, hc.r70_36]
    exact hq h z g ev rb sj w
  | cons x M ih =>
    intro k u h x2 hd hk z g e85 ev rb sj w hq
    rw [List.length_cons] at hk
    have hx : (rnL v)[k]? = some x := by
      have := List.getElem?_drop (xs := rnL v) (i := k) (j := 0)
      rw [hd] at this
      simpa using this.symm
    have hd2 : (rnL v).drop (k + 1) = M := by
      rw [← List.drop_drop, hd]
      rfl
    have p := pmH h g e85
    have n7 := p.1
    rw [plA] at hq
    rw [e_242_49]
    simp (disch := first | assumption | omega) only [e_242_50, e_242_51, e_242_52, e_242_53, e_242_54, onI_s, onR_s, onL_s, gl_0, gl_n, gl_1, gl_2, gl_3, gl_4, gl_5, gl_6, gl_7, gl_8, gl_9, gl_10, gl_11, gl_12, gl_13, gl_14, gl_15, gl_16, gl_17, sk0i, sk0r, sk0n, sk1i, sk1r, sk1n, sk_2, sk_3, sk_4, sk_5, sk_6, sk_7, sk_8, sk_9, sk_10, sk_11, sk_12, sk_13, sk_14, sk_15, sk_16, sk_17, ls_0, ls_1, ls_2, ls_3, ls_4, ls_5, ls_6, ls_7, ls_8, ls_9, ls_10, ls_11, ls_12, ls_13, ls_14, ls_15, ls_16, ls_17, ct1_i, ct1_r, wd8_0, wd8_i1, wd8_r1, wd8_i2, wd8_r2, wd8_i3, wd8_r3, wd8_i4, wd8_r4, wd8_i5, wd8_r5, wd8_i6, wd8_r6, wd8_i7, wd8_r7, wd8_i8, wd8_r8, wd8_l2, wd8_l3, wd8_l4, wd8_l5, wd8_l6, wd8_l7, wd8_l8, tl_s, tl_n, inR_t, bd_t, true_and, and_true, true_or, or_true, if_true_x, if_false_x, if_pos, if_neg, Int.toNat_natCast, natL, bI_0, bI_1, bI_ft, eq_self, b_tf, b_ft, not_true_eq_false, not_false_eq_true, n7, hc.t70, hc.r70_4, hc.r70_5, hc.r70_6, hc.r70_7, hc.r70_8, hc.r70_10, hc.r70_11, hc.r70_12, hc.r70_14, hc.r70_15, hc.r70_16, hc.r70_17, hc.r70_19, hc.r70_21, hc.r70_23, hc.r70_24, hc.r70_26, hc.r70_27, hc.r70_28, hc.r70_29, hc.r70_30, hc.r70_31, hc.r70_32, hc.r70_33, hc.r70_36]
    (rw [e_242_55]; refine ⟨⟨hc.t70, by simp [wd_i, wd_r, wd_l, wd_0]⟩, ?_⟩)
    refine m_241 hc wv g20 ft gN hx p (by rw [g.2 70 22 (by omega)]; exact n22) z ev rb sj w (fun h1 h2 g1 vs sj2 w2 => ?_)
    simp (disch := first | assumption | omega) only [e_242_56, e_242_57, onI_s, onR_s, onL_s, gl_0, gl_n, gl_1, gl_2, gl_3, gl_4, gl_5, gl_6, gl_7, gl_8, gl_9, gl_10, gl_11, gl_12, gl_13, gl_14, gl_15, gl_16, gl_17, sk0i, sk0r, sk0n, sk1i, sk1r, sk1n, sk_2, sk_3, sk_4, sk_5, sk_6, sk_7, sk_8, sk_9, sk_10, sk_11, sk_12, sk_13, sk_14, sk_15, sk_16, sk_17, ls_0, ls_1, ls_2, ls_3, ls_4, ls_5, ls_6, ls_7, ls_8, ls_9, ls_10, ls_11, ls_12, ls_13, ls_14, ls_15, ls_16, ls_17, ct1_i, ct1_r, wd8_0, wd8_i1, wd8_r1, wd8_i2, wd8_r2, wd8_i3, wd8_r3, wd8_i4, wd8_r4, wd8_i5, wd8_r5, wd8_i6, wd8_r6, wd8_i7, wd8_r7, wd8_i8, wd8_r8, wd8_l2, wd8_l3, wd8_l4, wd8_l5, wd8_l6, wd8_l7, wd8_l8, tl_s, tl_n, inR_t, bd_t, true_and, and_true, true_or, or_true, if_true_x, if_false_x, if_pos, if_neg, Int.toNat_natCast, natL, bI_0, bI_1, bI_ft, eq_self, b_tf, b_ft, not_true_eq_false, not_false_eq_true, cast_s]
    exact ih (k + 1) _ h2 _ hd2 (by omega) vs.1 (g.tr (g1.g7.tr vs.2.1.g7)) (by rw [vs.2.1.1 85 (by omega), g1.1 85 (by omega) (by omega)]; exact e85) vs.2.2.1 vs.2.2.2 sj2 w2 hq
set_option maxHeartbeats 8000000 in
theorem m_242 (hc : CT X ns nb ln) {h0 : xH} {v : Nat → Nat → Int} (ev : vm h0 = v) (g : Gd v) (rb : RBr (h0.1 73)) (z : NZ X h0) (tm : TMb (h0.1 72)) (hN : mkV v (h0.1 72 4) = none → ∀ h2 u, SX X h0 h2 u → Q (some (vi 0)) h2) (hS : ∀ u, mkV v (h0.1 72 4) = some u → ∀ h2, SX X h0 h2 u → SJ u v → RGv u → Q (some (vi 1)) h2) : Cl X 242 [vr 70] h0 Q := by
  have hw := g.rg
  have nC := hw.nC
  have tt := tm.tall
  rw [c_242]
  simp (disch := first | assumption | omega) only [e_242_0, onI_s, onR_s, onL_s, gl_0, gl_n, gl_1, gl_2, gl_3, gl_4, gl_5, gl_6, gl_7, gl_8, gl_9, gl_10, gl_11, gl_12, gl_13, gl_14, gl_15, gl_16, gl_17, sk0i, sk0r, sk0n, sk1i, sk1r, sk1n, sk_2, sk_3, sk_4, sk_5, sk_6, sk_7, sk_8, sk_9, sk_10, sk_11, sk_12, sk_13, sk_14, sk_15, sk_16, sk_17, ls_0, ls_1, ls_2, ls_3, ls_4, ls_5, ls_6, ls_7, ls_8, ls_9, ls_10, ls_11, ls_12, ls_13, ls_14, ls_15, ls_16, ls_17, ct1_i, ct1_r, wd8_0, wd8_i1, wd8_r1, wd8_i2, wd8_r2, wd8_i3, wd8_r3, wd8_i4, wd8_r4, wd8_i5, wd8_r5, wd8_i6, wd8_r6, wd8_i7, wd8_r7, wd8_i8, wd8_r8, wd8_l2, wd8_l3, wd8_l4, wd8_l5, wd8_l6, wd8_l7, wd8_l8, tl_s, tl_n, inR_t, bd_t, true_and, and_true, true_or, or_true, if_true_x, if_false_x, if_pos, if_neg, Int.toNat_natCast, natL, bI_0, bI_1, bI_ft, eq_self, b_tf, b_ft, not_true_eq_false, not_false_eq_true]
  (rw [e_242_1]; refine ⟨⟨hc.t70, by simp [wd_i, wd_r, wd_l, wd_0]⟩, ?_⟩)
  refine m_231 hc ev hw rb z (fun h1 s1 => ?_)
  have ev1 : vm h1 = v := s1.2.1.vm.trans ev
  simp (disch := first | assumption | omega) only [e_242_2, onI_s, onR_s, onL_s, gl_0, gl_n, gl_1, gl_2, gl_3, gl_4, gl_5, gl_6, gl_7, gl_8, gl_9, gl_10, gl_11, gl_12, gl_13, gl_14, gl_15, gl_16, gl_17, sk0i, sk0r, sk0n, sk1i, sk1r, sk1n, sk_2, sk_3, sk_4, sk_5, sk_6, sk_7, sk_8, sk_9, sk_10, sk_11, sk_12, sk_13, sk_14, sk_15, sk_16, sk_17, ls_0, ls_1, ls_2, ls_3, ls_4, ls_5, ls_6, ls_7, ls_8, ls_9, ls_10, ls_11, ls_12, ls_13, ls_14, ls_15, ls_16, ls_17, ct1_i, ct1_r, wd8_0, wd8_i1, wd8_r1, wd8_i2, wd8_r2, wd8_i3, wd8_r3, wd8_i4, wd8_r4, wd8_i5, wd8_r5, wd8_i6, wd8_r6, wd8_i7, wd8_r7, wd8_i8, wd8_r8, wd8_l2, wd8_l3, wd8_l4, wd8_l5, wd8_l6, wd8_l7, wd8_l8, tl_s, tl_n, inR_t, bd_t, true_and, and_true, true_or, or_true, if_true_x, if_false_x, if_pos, if_neg, Int.toNat_natCast, natL, bI_0, bI_1, bI_ft, eq_self, b_tf, b_ft, not_true_eq_false, not_false_eq_true]
  (rw [e_242_3]; refine ⟨⟨hc.t70, by simp [wd_i, wd_r, wd_l, wd_0]⟩, ?_⟩)
  refine m_239 hc ev1 hw s1.1 (fun h2 s2 => ?_)
  have g02 : GY h0 h2 := s1.2.1.gy.tr s2.2.1.gy
  have ev2 : vm h2 = v := g02.vm.trans ev
  obtain ⟨q, eq⟩ : ∃ q, q = ordQ v (v 11 0).toNat := ⟨_, rfl⟩
  rw [← eq] at s2
  obtain ⟨z2, g2, n2, r2⟩ := s2
  have qm : ∀ c, c ∈ q → c < (v 11 0).toNat ∧ v 14 c = 0 := fun c hc => by rw [eq] at hc; exact (ordQ_mem _).mp hc
  have ql : q.length ≤ 20 := by have := ordQ_len (v := v) (v 11 0).toNat; rw [eq]; omega
  have qn : q.Nodup := by rw [eq]; exact ordQ_nd _
  have qc : ∀ c, c ∈ q → c < 20 := fun c hc => by have := qm c hc; omega
  have rb2 : RBr (h2.1 73) := by rw [g02.1 73 (by omega)]; exact rb
  unfold mkV at hN hS
  rw [← eq] at hN hS
  simp (disch := first | assumption | omega) only [e_242_4, e_242_5, onI_s, onR_s, onL_s, gl_0, gl_n, gl_1, gl_2, gl_3, gl_4, gl_5, gl_6, gl_7, gl_8, gl_9, gl_10, gl_11, gl_12, gl_13, gl_14, gl_15, gl_16, gl_17, sk0i, sk0r, sk0n, sk1i, sk1r, sk1n, sk_2, sk_3, sk_4, sk_5, sk_6, sk_7, sk_8, sk_9, sk_10, sk_11, sk_12, sk_13, sk_14, sk_15, sk_16, sk_17, ls_0, ls_1, ls_2, ls_3, ls_4, ls_5, ls_6, ls_7, ls_8, ls_9, ls_10, ls_11, ls_12, ls_13, ls_14, ls_15, ls_16, ls_17, ct1_i, ct1_r, wd8_0, wd8_i1, wd8_r1, wd8_i2, wd8_r2, wd8_i3, wd8_r3, wd8_i4, wd8_r4, wd8_i5, wd8_r5, wd8_i6, wd8_r6, wd8_i7, wd8_r7, wd8_i8, wd8_r8, wd8_l2, wd8_l3, wd8_l4, wd8_l5, wd8_l6, wd8_l7, wd8_l8, tl_s, tl_n, inR_t, bd_t, true_and, and_true, true_or, or_true, if_true_x, if_false_x, if_pos, if_neg, Int.toNat_natCast, natL, bI_0, bI_1, bI_ft, eq_self, b_tf, b_ft, not_true_eq_false, not_false_eq_true]
  refine ls_242 hc (v := v) ql qc r2 n2 q [] v h2 rfl ⟨z2, M73.refl, ev2, rb2⟩ SJ.refl hw (fun _ _ _ => rfl) (fun h3 u3 x1 vs sj3 w3 ag => ?_)
  have e724 : h3.1 72 4 = h0.1 72 4 := by rw [vs.2.1.1 72 (by omega), g02.1 72 (by omega)]
  have pm3 : PM h3 v [] := by
    refine ⟨?_, ?_, fun i x hx => by simp at hx⟩
    · rw [vs.2.1.2, g2.2 70 18 (by omega)]
      exact s1.2.2.1
    · rw [vs.2.1.1 79 (by omega), vs.2.1.1 80 (by omega), vs.2.1.1 81 (by omega), vs.2.1.1 82 (by omega), g2.1 79 (by omega), g2.1 80 (by omega), g2.1 81 (by omega), g2.1 82 (by omega)]
      exact s1.2.2.2
  have gx3 : GX h0 h3 := g02.gx.tr vs.2.1.gx
  have n3 : h3.2 70 22 = q.length := by rw [vs.2.1.2]; exact n2
  rw [e_242_18]
  simp (disch := first | assumption | omega) only [e_242_19, onI_s, onR_s, onL_s, gl_0, gl_n, gl_1, gl_2, gl_3, gl_4, gl_5, gl_6, gl_7, gl_8, gl_9, gl_10, gl_11, gl_12, gl_13, gl_14, gl_15, gl_16, gl_17, sk0i, sk0r, sk0n, sk1i, sk1r, sk1n, sk_2, sk_3, sk_4, sk_5, sk_6, sk_7, sk_8, sk_9, sk_10, sk_11, sk_12, sk_13, sk_14, sk_15, sk_16, sk_17, ls_0, ls_1, ls_2, ls_3, ls_4, ls_5, ls_6, ls_7, ls_8, ls_9, ls_10, ls_11, ls_12, ls_13, ls_14, ls_15, ls_16, ls_17, ct1_i, ct1_r, wd8_0, wd8_i1, wd8_r1, wd8_i2, wd8_r2, wd8_i3, wd8_r3, wd8_i4, wd8_r4, wd8_i5, wd8_r5, wd8_i6, wd8_r6, wd8_i7, wd8_r7, wd8_i8, wd8_r8, wd8_l2, wd8_l3, wd8_l4, wd8_l5, wd8_l6, wd8_l7, wd8_l8, tl_s, tl_n, inR_t, bd_t, true_and, and_true, true_or, or_true, if_true_x, if_false_x, if_pos, if_neg, Int.toNat_natCast, natL, bI_0, bI_1, bI_ft, eq_self, b_tf, b_ft, not_true_eq_false, not_false_eq_true]
  refine l_242 (go := []) (rest := q) hc hw w3 sj3 tt.1 tt.2 vs.2.2.1 e724 ql qc qn (by rw [vs.2.1.1 84 (by omega)]; exact r2) n3 h3 none rfl pm3 (fun k x hx => by show (0 : Int) ≤ _; omega) vs.1 G7.refl rfl (fun a h5 z5 g5 e5 => ?_) (fun go2 a e2 ft2 h5 x1 x2 z5 g5 e5 p5 => ?_)
  · rw [a] at hN
    exact hN rfl h5 _ ⟨z5, gx3.tr g5.gx, rfl, by rw [e5]; exact vs.2.2.2⟩
  · have pe := plA_ls a ag
    rw [a] at hS
    dsimp only at hS
    have gl : go2.length = q.length := by rw [← e2, List.length_map]
    have ev5 : vm h5 = u3 := by
      rw [← vs.2.2.1]
      show rv (h5.1 73) (h5.2 70 2) (h5.2 70 3) = rv (h3.1 73) (h3.2 70 2) (h3.2 70 3)
      rw [e5, g5.2 70 2 (by decide), g5.2 70 3 (by decide)]
    rw [e_242_47]
    simp (disch := first | assumption | omega) only [e_242_48, onI_s, onR_s, onL_s, gl_0, gl_n, gl_1, gl_2, gl_3, gl_4, gl_5, gl_6, gl_7, gl_8, gl_9, gl_10, gl_11, gl_12, gl_13, gl_14, gl_15, gl_16, gl_17, sk0i, sk0r, sk0n, sk1i, sk1r, sk1n, sk_2, sk_3, sk_4, sk_5, sk_6, sk_7, sk_8, sk_9, sk_10, sk_11, sk_12, sk_13, sk_14, sk_15, sk_16, sk_17, ls_0, ls_1, ls_2, ls_3, ls_4, ls_5, ls_6, ls_7, ls_8, ls_9, ls_10, ls_11, ls_12, ls_13, ls_14, ls_15, ls_16, ls_17, ct1_i, ct1_r, wd8_0, wd8_i1, wd8_r1, wd8_i2, wd8_r2, wd8_i3, wd8_r3, wd8_i4, wd8_r4, wd8_i5, wd8_r5, wd8_i6, wd8_r6, wd8_i7, wd8_r7, wd8_i8, wd8_r8, wd8_l2, wd8_l3, wd8_l4, wd8_l5, wd8_l6, wd8_l7, wd8_l8, tl_s, tl_n, inR_t, bd_t, true_and, and_true, true_or, or_true, if_true_x, if_false_x, if_pos, if_neg, Int.toNat_natCast, natL, bI_0, bI_1, bI_ft, eq_self, b_tf, b_ft, not_true_eq_false, not_false_eq_true]
    refine pl_242 hc hw (by omega) ft2 (fun x hx => by
      have := qm x.1 (by rw [← e2]; exact List.mem_map.mpr ⟨x, hx, rfl⟩)
      exact (g.geo.cel (by omega)).1) p5 (by rw [g5.2 70 22 (by omega), n3, gl]) (rnL v) 0 u3 h5 _ (by simp) (by omega) z5 G7.refl rfl ev5 (by rw [e5]; exact vs.2.2.2) sj3 w3 (fun h6 z6 g6 ev6 rb6 sj6 w6 => ?_)
    rw [pe] at ev6 sj6 w6
    exact hS _ rfl h6 ⟨z6, (gx3.tr g5.gx).tr g6.gx, ev6, rb6⟩ sj6 w6
set_option maxHeartbeats 4000000 in
theorem m_243u (hc : CT X ns nb ln) {u : Nat → Nat → Int} (ev : vm h = u) (w : RGv u) (fx : FX u) (tm : TMb (h.1 72)) : Cl X 243 [vr 70] h Q ↔ Q (some (vi (mvs u (h.1 72 4)))) h := by
  have nC := w.nC
  have tt := tm.tall
  have wh : RGv (vm h) := by rw [ev]; exact w
  have lp : ∀ (m c : Nat) (a : Int), c + m = (u 11 0).toNat → 0 ≤ a → a ≤ 10080 * c → (Ev X 243 4 [some (vr 70), some (vi a), some (vi c)] [] h Q ↔ Q (some (vi (a + sumF (msF u (h.1 72 4)) m c))) h) := by
    intro m
    induction m with
    | zero =>
      intro c a hm a0 a1
      rw [e_243_4]
      simp (disch := first | assumption | omega) only [e_243_5, e_243_6, e_243_7, e_243_8, e_243_9, e_243_24, e_243_25, onI_s, onR_s, onL_s, gl_0, gl_n, gl_1, gl_2, gl_3, gl_4, gl_5, gl_6, gl_7, gl_8, gl_9, gl_10, gl_11, gl_12, gl_13, gl_14, gl_15, gl_16, gl_17, sk0i, sk0r, sk0n, sk1i, sk1r, sk1n, sk_2, sk_3, sk_4, sk_5, sk_6, sk_7, sk_8, sk_9, sk_10, sk_11, sk_12, sk_13, sk_14, sk_15, sk_16, sk_17, ls_0, ls_1, ls_2, ls_3, ls_4, ls_5, ls_6, ls_7, ls_8, ls_9, ls_10, ls_11, ls_12, ls_13, ls_14, ls_15, ls_16, ls_17, ct1_i, ct1_r, wd8_0, wd8_i1, wd8_r1, wd8_i2, wd8_r2, wd8_i3, wd8_r3, wd8_i4, wd8_r4, wd8_i5, wd8_r5, wd8_i6, wd8_r6, wd8_i7, wd8_r7, wd8_i8, wd8_r8, wd8_l2, wd8_l3, wd8_l4, wd8_l5, wd8_l6, wd8_l7, wd8_l8, tl_s, tl_n, inR_t, bd_t, true_and, and_true, true_or, or_true, if_true_x, if_false_x, if_pos, if_neg, Int.toNat_natCast, natL, bI_0, bI_1, bI_ft, eq_self, b_tf, b_ft, not_true_eq_false, not_false_eq_true, tn_2, vm_nC, ev, hc.t70, hc.r70_4, hc.r70_5, hc.r70_6, hc.r70_7, hc.r70_8, hc.r70_10, hc.r70_11, hc.r70_12, hc.r70_14, hc.r70_15, hc.r70_16, hc.r70_17, hc.r70_19, hc.r70_21, hc.r70_23, hc.r70_24, hc.r70_26, hc.r70_27, hc.r70_28, hc.r70_29, hc.r70_30, hc.r70_31, hc.r70_32, hc.r70_33, hc.r70_36, hc.t73, hc.z73]
      rw [sumF, Int.add_zero]
    | succ m ih =>
      intro c a hm a0 a1
      have c20 : c < 20 := by omega
      have mb := moV_bd w (c := c) tt.1 tt.2
      rw [e_243_4, sumF, ← Int.add_assoc]
      by_cases l : lpB u c = true
      · have ms : msF u (h.1 72 4) c = moV u (h.1 72 4) c := by
          unfold lpB at l
          unfold msF
          rw [if_neg (by
            simp only [Bool.and_eq_true, Bool.not_eq_true', decide_eq_true_eq, decide_eq_false_iff_not] at l
            omega)]
        rw [ms, ← ih (c + 1) (a + moV u (h.1 72 4) c) (by omega) (by omega) (by omega)]
        simp (disch := first | assumption | omega) only [e_243_5, e_243_6, e_243_7, e_243_8, e_243_9, e_243_10, e_243_11, e_243_12, e_243_13, e_243_14, e_243_15, e_243_16, e_243_17, e_243_18, e_243_20, e_243_21, e_243_22, e_243_23, onI_s, onR_s, onL_s, gl_0, gl_n, gl_1, gl_2, gl_3, gl_4, gl_5, gl_6, gl_7, gl_8, gl_9, gl_10, gl_11, gl_12, gl_13, gl_14, gl_15, gl_16, gl_17, sk0i, sk0r, sk0n, sk1i, sk1r, sk1n, sk_2, sk_3, sk_4, sk_5, sk_6, sk_7, sk_8, sk_9, sk_10, sk_11, sk_12, sk_13, sk_14, sk_15, sk_16, sk_17, ls_0, ls_1, ls_2, ls_3, ls_4, ls_5, ls_6, ls_7, ls_8, ls_9, ls_10, ls_11, ls_12, ls_13, ls_14, ls_15, ls_16, ls_17, ct1_i, ct1_r, wd8_0, wd8_i1, wd8_r1, wd8_i2, wd8_r2, wd8_i3, wd8_r3, wd8_i4, wd8_r4, wd8_i5, wd8_r5, wd8_i6, wd8_r6, wd8_i7, wd8_r7, wd8_i8, wd8_r8, wd8_l2, wd8_l3, wd8_l4, wd8_l5, wd8_l6, wd8_l7, wd8_l8, tl_s, tl_n, inR_t, bd_t, true_and, and_true, true_or, or_true, if_true_x, if_false_x, if_pos, if_neg, Int.toNat_natCast, natL, bI_0, bI_1, bI_ft, eq_self, b_tf, b_ft, not_true_eq_false, not_false_eq_true, tn_2, vm_nC, ev, m_164 hc wh, m_220 hc wh tm, l, Int.toNat_natCast, cast_s, hc.t70, hc.r70_4, hc.r70_5, hc.r70_6, hc.r70_7, hc.r70_8, hc.r70_10, hc.r70_11, hc.r70_12, hc.r70_14, hc.r70_15, hc.r70_16, hc.r70_17, hc.r70_19, hc.r70_21, hc.r70_23, hc.r70_24, hc.r70_26, hc.r70_27, hc.r70_28, hc.r70_29, hc.r70_30, hc.r70_31, hc.r70_32, hc.r70_33, hc.r70_36, hc.t73, hc.z73]
      · have l' : lpB u c = false := by simpa using l
        have ms : msF u (h.1 72 4) c = 0 := by
          unfold msF
          by_cases p : u 17 c = -1
          · rw [if_pos p]
          · rw [if_neg p]
            have f1 : u 14 c = 1 := by
              rcases w.fix c with q | q
              · exfalso
                apply l
                unfold lpB
                simp only [Bool.and_eq_true, Bool.not_eq_true', decide_eq_true_eq, decide_eq_false_iff_not]
                omega
              · exact q
            have := fx c (by omega) f1
            unfold moV
            rw [show (16 * u 18 c - u 15 c).natAbs = 0 by omega, show (16 * u 17 c - u 16 c).natAbs = 0 by omega]
            simp
        rw [ms, Int.add_zero, ← ih (c + 1) a (by omega) (by omega) (by omega)]
        simp (disch := first | assumption | omega) only [e_243_5, e_243_6, e_243_7, e_243_8, e_243_9, e_243_10, e_243_11, e_243_12, e_243_13, e_243_14, e_243_19, e_243_20, e_243_21, e_243_22, e_243_23, onI_s, onR_s, onL_s, gl_0, gl_n, gl_1, gl_2, gl_3, gl_4, gl_5, gl_6, gl_7, gl_8, gl_9, gl_10, gl_11, gl_12, gl_13, gl_14, gl_15, gl_16, gl_17, sk0i, sk0r, sk0n, sk1i, sk1r, sk1n, sk_2, sk_3, sk_4, sk_5, sk_6, sk_7, sk_8, sk_9, sk_10, sk_11, sk_12, sk_13, sk_14, sk_15, sk_16, sk_17, ls_0, ls_1, ls_2, ls_3, ls_4, ls_5, ls_6, ls_7, ls_8, ls_9, ls_10, ls_11, ls_12, ls_13, ls_14, ls_15, ls_16, ls_17, ct1_i, ct1_r, wd8_0, wd8_i1, wd8_r1, wd8_i2, wd8_r2, wd8_i3, wd8_r3, wd8_i4, wd8_r4, wd8_i5, wd8_r5, wd8_i6, wd8_r6, wd8_i7, wd8_r7, wd8_i8, wd8_r8, wd8_l2, wd8_l3, wd8_l4, wd8_l5, wd8_l6, wd8_l7, wd8_l8, tl_s, tl_n, inR_t, bd_t, true_and, and_true, true_or, or_true, if_true_x, if_false_x, if_pos, if_neg, Int.toNat_natCast, natL, bI_0, bI_1, bI_ft, eq_self, b_tf, b_ft, not_true_eq_false, not_false_eq_true, tn_2, vm_nC, ev, m_164 hc wh, l', Int.toNat_natCast, Int.add_zero, cast_s, hc.t70, hc.r70_4, hc.r70_5, hc.r70_6, hc.r70_7, hc.r70_8, hc.r70_10, hc.r70_11, hc.r70_12, hc.r70_14, hc.r70_15, hc.r70_16, hc.r70_17, hc.r70_19, hc.r70_21, hc.r70_23, hc.r70_24, hc.r70_26, hc.r70_27, hc.r70_28, hc.r70_29, hc.r70_30, hc.r70_31, hc.r70_32, hc.r70_33, hc.r70_36, hc.t73, hc.z73]
  rw [c_243]
  simp (disch := first | assumption | omega) only [e_243_0, e_243_1, e_243_2, e_243_3, onI_s, onR_s, onL_s, gl_0, gl_n, gl_1, gl_2, gl_3, gl_4, gl_5, gl_6, gl_7, gl_8, gl_9, gl_10, gl_11, gl_12, gl_13, gl_14, gl_15, gl_16, gl_17, sk0i, sk0r, sk0n, sk1i, sk1r, sk1n, sk_2, sk_3, sk_4, sk_5, sk_6, sk_7, sk_8, sk_9, sk_10, sk_11, sk_12, sk_13, sk_14, sk_15, sk_16, sk_17, ls_0, ls_1, ls_2, ls_3, ls_4, ls_5, ls_6, ls_7, ls_8, ls_9, ls_10, ls_11, ls_12, ls_13, ls_14, ls_15, ls_16, ls_17, ct1_i, ct1_r, wd8_0, wd8_i1, wd8_r1, wd8_i2, wd8_r2, wd8_i3, wd8_r3, wd8_i4, wd8_r4, wd8_i5, wd8_r5, wd8_i6, wd8_r6, wd8_i7, wd8_r7, wd8_i8, wd8_r8, wd8_l2, wd8_l3, wd8_l4, wd8_l5, wd8_l6, wd8_l7, wd8_l8, tl_s, tl_n, inR_t, bd_t, true_and, and_true, true_or, or_true, if_true_x, if_false_x, if_pos, if_neg, Int.toNat_natCast, natL, bI_0, bI_1, bI_ft, eq_self, b_tf, b_ft, not_true_eq_false, not_false_eq_true]
  have := lp (u 11 0).toNat 0 0 (by omega) (by omega) (by omega)
  rw [Int.zero_add] at this
  exact this
end PKU
