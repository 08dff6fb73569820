/-! PACKING in the class: to make lawful -/
def GH (b : Nat) (h h2 : xH) : Prop := (∀ a, a < 8 ∨ (13 < a ∧ a < 30) ∨ 56 < a → a ≠ b + 17 → a ≠ b + 18 → h2.1 a = h.1 a) ∧ (∀ a k, ¬ (a = 7 ∧ k = 3) ∧ ¬ (a = 29 ∧ k = 3) → h2.2 a k = h.2 a k)
theorem GH.tr {b : Nat} {h h2 h3 : xH} (g : GH b h h2) (k : GH b h2 h3) : GH b h h3 := ⟨fun a q r s => (k.1 a q r s).trans (g.1 a q r s), fun a j q => (k.2 a j q).trans (g.2 a j q)⟩
theorem GZ.gh {b : Nat} {h h2 : xH} (g : GZ h h2) : GH b h h2 := ⟨fun a q _ _ => g.1 a q, g.2⟩
theorem GV.gh {b : Nat} {h h2 : xH} (g : GV b h h2) : GH b h h2 := ⟨fun a q r s => g.1 a (by omega) (by omega) r s, fun a k _ => by rw [g.2]⟩
/-- rows of the packing that change while runs are chosen -/
def GI (h h2 : xH) : Prop := (∀ a, a < 31 ∨ 56 < a → h2.1 a = h.1 a) ∧ h2.2 = h.2
theorem GI.refl {h : xH} : GI h h := ⟨fun _ _ => rfl, rfl⟩
theorem GI.tr {h h2 h3 : xH} (g : GI h h2) (k : GI h2 h3) : GI h h3 := ⟨fun a q => (k.1 a q).trans (g.1 a q), k.2.trans g.2⟩
theorem GI.cv {h h2 : xH} {b : Nat} (g : GI h h2) (hb : 200 ≤ b) : cv h2 b = cv h b := cv_congr (fun j q1 q2 => ⟨g.1 j (by omega), by rw [g.2]⟩)
theorem GI.gz {h h2 : xH} (g : GI h h2) : GZ h h2 := ⟨fun a q => g.1 a (by omega), fun a k q => by rw [g.2]⟩
theorem GP.gi {h h2 : xH} (g : GP h h2) : GI h h2 := ⟨fun a q => g.1 a (by omega) (by omega), g.2⟩
theorem sW_pos {v : Nat → Nat → Int} : ∀ L : List Nat, (∀ c, c ∈ L → 1 ≤ v 12 c) → sW v L ≤ 0 → L = []
  | [], _, _ => rfl
  | c :: L, h, h2 => by
    exfalso
    have h1 := h c (by simp)
    have : 0 ≤ sW v L := by
      have : ∀ L : List Nat, (∀ c, c ∈ L → 1 ≤ v 12 c) → 0 ≤ sW v L := by
        intro L
        induction L with
        | nil => intro _; exact Int.le_refl _
        | cons d L ih =>
          intro h
          have := h d (by simp)
          have := ih (fun c hc => h c (by simp [hc]))
          rw [sW]
          omega
      exact this L (fun c hc => h c (by simp [hc]))
    rw [sW] at h2
    omega
section PKM
variable {X : xL} {Q : Option xV → xH → Prop} {ns nb ln b : Nat} {h : xH}
set_option maxHeartbeats 8000000 in
theorem z_50 (hc : CT X ns nb ln) {h0 : xH} {N : Nat} {x1 : Option xV} (hN : h0.2 7 3 = N) (Nn : N ≤ ns) (n256 : ns ≤ 256) : ∀ (m k : Nat) (h : xH) (x4 : Option xV), k + m = N → NZ X h → (∀ a, a ≠ 32 → a ≠ 33 → h.1 a = h0.1 a) → h.2 = h0.2 → (∀ j, j < k → h.1 32 j = 0 ∧ h.1 33 j = 0) → (∀ h2 x3 x4, NZ X h2 → (∀ a, a ≠ 32 → a ≠ 33 → h2.1 a = h0.1 a) → h2.2 = h0.2 → (∀ j, j < N → h2.1 32 j = 0 ∧ h2.1 33 j = 0) → Ev X 50 32 [some (vr 29), x1, some (vr (b + 11)), x3, x4] [] h2 Q) → Ev X 50 15 [some (vr 29), x1, some (vr (b + 11)), some (vi k), x4] [] h Q := by
  intro m
  induction m with
  | zero =>
    intro k h x4 hm z g1 g2 p hq
    have e3 : h.2 7 3 = N := by rw [g2]; exact hN
    rw [e_50_15]
    simp (disch := first | assumption | omega) only [e_50_16, e_50_17, e_50_18, e_50_19, onI_s, onR_s, onL_s, gl_0, gl_n, gl_1, gl_2, gl_3, gl_4, gl_5, gl_6, gl_7, gl_8, gl_9, gl_10, gl_11, gl_12, gl_13, gl_14, gl_15, gl_16, gl_17, sk0i, sk0r, sk0n, sk1i, sk1r, sk1n, sk_2, sk_3, sk_4, sk_5, sk_6, sk_7, sk_8, sk_9, sk_10, sk_11, sk_12, sk_13, sk_14, sk_15, sk_16, sk_17, ls_0, ls_1, ls_2, ls_3, ls_4, ls_5, ls_6, ls_7, ls_8, ls_9, ls_10, ls_11, ls_12, ls_13, ls_14, ls_15, ls_16, ls_17, ct1_i, ct1_r, wd8_0, wd8_i1, wd8_r1, wd8_i2, wd8_r2, wd8_i3, wd8_r3, wd8_i4, wd8_r4, wd8_i5, wd8_r5, wd8_i6, wd8_r6, wd8_i7, wd8_r7, wd8_i8, wd8_r8, wd8_l2, wd8_l3, wd8_l4, wd8_l5, wd8_l6, wd8_l7, wd8_l8, tl_s, tl_n, inR_t, bd_t, true_and, and_true, true_or, or_true, if_true_x, if_false_x, if_pos, if_neg, Int.toNat_natCast, natL, bI_0, bI_1, bI_ft, eq_self, b_tf, b_ft, not_true_eq_false, not_false_eq_true, e3, hc.t29, hc.r29_0, hc.r29_1, hc.r29_2, hc.r29_4, hc.r29_5, hc.r29_6, hc.r29_7, hc.r29_8, hc.t7, hc.r7_2, hc.r7_4, hc.r7_5, hc.r7_6, hc.r7_7, hc.r7_8]
    exact hq h _ _ z g1 g2 (fun j hj => p j (by omega))
  | succ m ih =>
    intro k h x4 hm z g1 g2 p hq
    have e3 : h.2 7 3 = N := by rw [g2]; exact hN
    rw [e_50_15]
    simp (disch := first | assumption | omega) only [e_50_16, e_50_17, e_50_18, e_50_19, e_50_20, e_50_21, e_50_22, e_50_23, e_50_24, e_50_25, e_50_26, e_50_27, e_50_28, e_50_29, e_50_30, e_50_31, onI_s, onR_s, onL_s, gl_0, gl_n, gl_1, gl_2, gl_3, gl_4, gl_5, gl_6, gl_7, gl_8, gl_9, gl_10, gl_11, gl_12, gl_13, gl_14, gl_15, gl_16, gl_17, sk0i, sk0r, sk0n, sk1i, sk1r, sk1n, sk_2, sk_3, sk_4, sk_5, sk_6, sk_7, sk_8, sk_9, sk_10, sk_11, sk_12, sk_13, sk_14, sk_15, sk_16, sk_17, ls_0, ls_1, ls_2, ls_3, ls_4, ls_5, ls_6, ls_7, ls_8, ls_9, ls_10, ls_11, ls_12, ls_13, ls_14, ls_15, ls_16, ls_17, ct1_i, ct1_r, wd8_0, wd8_i1, wd8_r1, wd8_i2, wd8_r2, wd8_i3, wd8_r3, wd8_i4, wd8_r4, wd8_i5, wd8_r5, wd8_i6, wd8_r6, wd8_i7, wd8_r7, wd8_i8, wd8_r8, wd8_l2, wd8_l3, wd8_l4, wd8_l5, wd8_l6, wd8_l7, wd8_l8, tl_s, tl_n, inR_t, bd_t, true_and, and_true, true_or, or_true, if_true_x, if_false_x, if_pos, if_neg, Int.toNat_natCast, natL, bI_0, bI_1, bI_ft, eq_self, b_tf, b_ft, not_true_eq_false, not_false_eq_true, e3, cast_s, hc.t29, hc.r29_0, hc.r29_1, hc.r29_2, hc.r29_4, hc.r29_5, hc.r29_6, hc.r29_7, hc.r29_8, hc.t7, hc.r7_2, hc.r7_4, hc.r7_5, hc.r7_6, hc.r7_7, hc.r7_8, hc.t32, hc.z32, hc.t33, hc.z33]
    refine ih (k + 1) (up2 (up2 h.1 32 k 0) 33 k 0, h.2) x4 (by omega) (NZ.up (F := h.2) (NZ.up (I := h.1) (F := h.2) z (by rw [hc.z32]; omega)) (by rw [hc.z33]; omega)) (fun a q1 q2 => by dsimp only; rw [up2_of q2, up2_of q1]; exact g1 a q1 q2) g2 (fun j hj => ?_) hq
    dsimp only
    rw [up2_of (by decide), up2_same, up2_same, up2_of (by decide)]
    by_cases e : j = k
    · rw [if_pos e, if_pos e]
      exact ⟨rfl, rfl⟩
    · rw [if_neg e, if_neg e]
      exact p j (by omega)
set_option maxHeartbeats 16000000 in
theorem l_50 (hp : PL X b) (b200 : 200 ≤ b) (hc : CT X ns nb ln) {v : Nat → Nat → Int} (w : RGv v) {tl : Int} (t0 : 0 ≤ tl) (t1 : tl ≤ 8) (ns256 : ns ≤ 256) (lns : (rnL v).length ≤ ns) {h0 : xH} (ev : cv h0 b = v) (et : h0.1 1 4 = tl) {q : List Nat} (q20 : q.length ≤ 20) (qc : ∀ c, c ∈ q → c < 20) (qn : q.Nodup) (r30 : R1 (h0.1 30) q) (n3 : h0.2 29 3 = q.length) : ∀ (rest : List Nat) (go : List (Nat × Nat)) (h : xH) (x4 : Option xV), go.map (fun x => x.1) ++ rest = q → PS h v go → FT v go → NZ X h → GI h0 h → (asg v tl rest go = none → ∀ h2, NZ X h2 → GI h0 h2 → Q (some (vi 0)) h2) → (∀ go2, asg v tl rest go = some go2 → go2.map (fun x => x.1) = q → FT v go2 → ∀ h2 x3 x4, NZ X h2 → GI h0 h2 → PS h2 v go2 → Ev X 50 91 [some (vr 29), some (vr b), some (vr (b + 11)), x3, x4] [] h2 Q) → Ev X 50 37 [some (vr 29), some (vr b), some (vr (b + 11)), some (vi (go.length : Int)), x4] [] h Q := by
  intro rest
  induction rest with
  | nil =>
    intro go h x4 eq ps ft z g hN hS
    rw [List.append_nil] at eq
    have e3 : h.2 29 3 = go.length := by rw [g.2, n3, ← eq, List.length_map]
    rw [e_50_37]
    simp (disch := first | assumption | omega) only [e_50_38, e_50_39, e_50_40, onI_s, onR_s, onL_s, gl_0, gl_n, gl_1, gl_2, gl_3, gl_4, gl_5, gl_6, gl_7, gl_8, gl_9, gl_10, gl_11, gl_12, gl_13, gl_14, gl_15, gl_16, gl_17, sk0i, sk0r, sk0n, sk1i, sk1r, sk1n, sk_2, sk_3, sk_4, sk_5, sk_6, sk_7, sk_8, sk_9, sk_10, sk_11, sk_12, sk_13, sk_14, sk_15, sk_16, sk_17, ls_0, ls_1, ls_2, ls_3, ls_4, ls_5, ls_6, ls_7, ls_8, ls_9, ls_10, ls_11, ls_12, ls_13, ls_14, ls_15, ls_16, ls_17, ct1_i, ct1_r, wd8_0, wd8_i1, wd8_r1, wd8_i2, wd8_r2, wd8_i3, wd8_r3, wd8_i4, wd8_r4, wd8_i5, wd8_r5, wd8_i6, wd8_r6, wd8_i7, wd8_r7, wd8_i8, wd8_r8, wd8_l2, wd8_l3, wd8_l4, wd8_l5, wd8_l6, wd8_l7, wd8_l8, tl_s, tl_n, inR_t, bd_t, true_and, and_true, true_or, or_true, if_true_x, if_false_x, if_pos, if_neg, Int.toNat_natCast, natL, bI_0, bI_1, bI_ft, eq_self, b_tf, b_ft, not_true_eq_false, not_false_eq_true, e3, hc.t29, hc.r29_0, hc.r29_1, hc.r29_2, hc.r29_4, hc.r29_5, hc.r29_6, hc.r29_7, hc.r29_8]
    exact hS go rfl eq ft h _ _ z g ps
  | cons c rest ih =>
    intro go h x4 eq ps ft z g hN hS
    have lq : go.length + (rest.length + 1) = q.length := by rw [← eq]; simp
    have e3 : h.2 29 3 = q.length := by rw [g.2, n3]
    have hcq : q[go.length]? = some c := by rw [← eq, List.getElem?_append_right (by simp)]; simp
    have c20 := qc c (List.mem_of_getElem? hcq)
    have cng : ∀ x, x ∈ go → x.1 ≠ c := fun x hx e => by
      rw [← eq, List.nodup_append] at qn
      exact qn.2.2 x.1 (List.mem_map.mpr ⟨x, hx, rfl⟩) c (by simp) e
    have e30 : h.1 30 go.length = c := by rw [g.1 30 (by omega)]; exact r30 _ c hcq
    have cvh : cv h b = v := (g.cv b200).trans ev
    have eth : h.1 1 4 = tl := by rw [g.1 1 (by omega)]; exact et
    rw [asg] at hN hS
    rw [e_50_37]
    simp (disch := first | assumption | omega) only [e_50_38, e_50_39, e_50_40, e_50_41, e_50_42, e_50_43, onI_s, onR_s, onL_s, gl_0, gl_n, gl_1, gl_2, gl_3, gl_4, gl_5, gl_6, gl_7, gl_8, gl_9, gl_10, gl_11, gl_12, gl_13, gl_14, gl_15, gl_16, gl_17, sk0i, sk0r, sk0n, sk1i, sk1r, sk1n, sk_2, sk_3, sk_4, sk_5, sk_6, sk_7, sk_8, sk_9, sk_10, sk_11, sk_12, sk_13, sk_14, sk_15, sk_16, sk_17, ls_0, ls_1, ls_2, ls_3, ls_4, ls_5, ls_6, ls_7, ls_8, ls_9, ls_10, ls_11, ls_12, ls_13, ls_14, ls_15, ls_16, ls_17, ct1_i, ct1_r, wd8_0, wd8_i1, wd8_r1, wd8_i2, wd8_r2, wd8_i3, wd8_r3, wd8_i4, wd8_r4, wd8_i5, wd8_r5, wd8_i6, wd8_r6, wd8_i7, wd8_r7, wd8_i8, wd8_r8, wd8_l2, wd8_l3, wd8_l4, wd8_l5, wd8_l6, wd8_l7, wd8_l8, tl_s, tl_n, inR_t, bd_t, true_and, and_true, true_or, or_true, if_true_x, if_false_x, if_pos, if_neg, Int.toNat_natCast, natL, bI_0, bI_1, bI_ft, eq_self, b_tf, b_ft, not_true_eq_false, not_false_eq_true, e3, hc.t29, hc.r29_0, hc.r29_1, hc.r29_2, hc.r29_4, hc.r29_5, hc.r29_6, hc.r29_7, hc.r29_8]
    (rw [e_50_44]; refine ⟨⟨hc.t29, by simp [wd_i, wd_r, wd_l, wd_0]⟩, ?_⟩)
    refine m_53 hp b200 hc w t0 t1 ns256 lns (by omega) ft c20 cvh ps eth z e30 (fun h1 z1 g1 => ?_)
    by_cases ch : chR v tl go c = -1
    · rw [if_pos ch] at hN
      simp (disch := first | assumption | omega) only [e_50_45, e_50_46, e_50_47, e_50_48, e_50_49, e_50_50, onI_s, onR_s, onL_s, gl_0, gl_n, gl_1, gl_2, gl_3, gl_4, gl_5, gl_6, gl_7, gl_8, gl_9, gl_10, gl_11, gl_12, gl_13, gl_14, gl_15, gl_16, gl_17, sk0i, sk0r, sk0n, sk1i, sk1r, sk1n, sk_2, sk_3, sk_4, sk_5, sk_6, sk_7, sk_8, sk_9, sk_10, sk_11, sk_12, sk_13, sk_14, sk_15, sk_16, sk_17, ls_0, ls_1, ls_2, ls_3, ls_4, ls_5, ls_6, ls_7, ls_8, ls_9, ls_10, ls_11, ls_12, ls_13, ls_14, ls_15, ls_16, ls_17, ct1_i, ct1_r, wd8_0, wd8_i1, wd8_r1, wd8_i2, wd8_r2, wd8_i3, wd8_r3, wd8_i4, wd8_r4, wd8_i5, wd8_r5, wd8_i6, wd8_r6, wd8_i7, wd8_r7, wd8_i8, wd8_r8, wd8_l2, wd8_l3, wd8_l4, wd8_l5, wd8_l6, wd8_l7, wd8_l8, tl_s, tl_n, inR_t, bd_t, true_and, and_true, true_or, or_true, if_true_x, if_false_x, if_pos, if_neg, Int.toNat_natCast, natL, bI_0, bI_1, bI_ft, eq_self, b_tf, b_ft, not_true_eq_false, not_false_eq_true, ch]
      exact hN rfl h1 z1 (g.tr g1.gi)
    · rw [if_neg ch] at hN hS
      obtain ⟨k, x, hk, hx, xf, xs⟩ := chR_in ch
      rw [hk] at ch hN hS ⊢
      rw [Int.toNat_natCast] at hN hS
      have kl : k < (rnL v).length := by
        rcases Nat.lt_or_ge k (rnL v).length with d | d
        · exact d
        · rw [List.getElem?_eq_none d] at hx
          cases hx
      have kns : k < ns := by omega
      obtain ⟨r8, an⟩ := rnL_ok w x (List.mem_of_getElem? hx)
      have p1 := ps.gp g1
      have q30 : h1.1 30 go.length = c := by rw [g1.1 30 (by omega) (by omega)]; exact e30
      have wc := w.wid c
      have sg := sW_ge w (smK go k)
      have cv1 : cv h1 b = v := (g1.cv b200).trans cvh
      have e12 : h1.1 (b + 12) c = v 12 c := by rw [← cv1]; rfl
      have u1 := (p1.2.2.2 k x hx).1
      simp (disch := first | assumption | omega) only [e_50_45, e_50_46, e_50_47, e_50_48, e_50_51, e_50_52, e_50_53, e_50_54, e_50_55, e_50_56, e_50_57, e_50_58, onI_s, onR_s, onL_s, gl_0, gl_n, gl_1, gl_2, gl_3, gl_4, gl_5, gl_6, gl_7, gl_8, gl_9, gl_10, gl_11, gl_12, gl_13, gl_14, gl_15, gl_16, gl_17, sk0i, sk0r, sk0n, sk1i, sk1r, sk1n, sk_2, sk_3, sk_4, sk_5, sk_6, sk_7, sk_8, sk_9, sk_10, sk_11, sk_12, sk_13, sk_14, sk_15, sk_16, sk_17, ls_0, ls_1, ls_2, ls_3, ls_4, ls_5, ls_6, ls_7, ls_8, ls_9, ls_10, ls_11, ls_12, ls_13, ls_14, ls_15, ls_16, ls_17, ct1_i, ct1_r, wd8_0, wd8_i1, wd8_r1, wd8_i2, wd8_r2, wd8_i3, wd8_r3, wd8_i4, wd8_r4, wd8_i5, wd8_r5, wd8_i6, wd8_r6, wd8_i7, wd8_r7, wd8_i8, wd8_r8, wd8_l2, wd8_l3, wd8_l4, wd8_l5, wd8_l6, wd8_l7, wd8_l8, tl_s, tl_n, inR_t, bd_t, true_and, and_true, true_or, or_true, if_true_x, if_false_x, if_pos, if_neg, Int.toNat_natCast, natL, bI_0, bI_1, bI_ft, eq_self, b_tf, b_ft, not_true_eq_false, not_false_eq_true, ch, q30, hc.t29, hc.r29_0, hc.r29_1, hc.r29_2, hc.r29_4, hc.r29_5, hc.r29_6, hc.r29_7, hc.r29_8, hc.t30, hc.z30, hc.t31, hc.z31]
      obtain ⟨h2, e2⟩ : ∃ h2 : xH, h2 = (up2 h1.1 31 c (k : Int), h1.2) := ⟨_, rfl⟩
      rw [← e2]
      have z2 : NZ X h2 := by rw [e2]; exact NZ.up (I := h1.1) (F := h1.2) z1 (by rw [hc.z31]; omega)
      have o2 : ∀ a, a ≠ 31 → h2.1 a = h1.1 a := fun a q => by rw [e2]; exact up2_of q
      have f2 : h2.2 = h1.2 := by rw [e2]
      have a33 : h2.1 33 k = sW v (smK go k) := by rw [o2 33 (by omega)]; exact u1
      have a30 : h2.1 30 go.length = c := by rw [o2 30 (by omega)]; exact q30
      have a12 : h2.1 (b + 12) c = v 12 c := by rw [o2 (b + 12) (by omega)]; exact e12
      simp (disch := first | assumption | omega) only [e_50_59, e_50_60, e_50_61, e_50_62, e_50_63, e_50_64, e_50_65, e_50_66, e_50_67, e_50_68, e_50_69, e_50_70, e_50_71, e_50_72, onI_s, onR_s, onL_s, gl_0, gl_n, gl_1, gl_2, gl_3, gl_4, gl_5, gl_6, gl_7, gl_8, gl_9, gl_10, gl_11, gl_12, gl_13, gl_14, gl_15, gl_16, gl_17, sk0i, sk0r, sk0n, sk1i, sk1r, sk1n, sk_2, sk_3, sk_4, sk_5, sk_6, sk_7, sk_8, sk_9, sk_10, sk_11, sk_12, sk_13, sk_14, sk_15, sk_16, sk_17, ls_0, ls_1, ls_2, ls_3, ls_4, ls_5, ls_6, ls_7, ls_8, ls_9, ls_10, ls_11, ls_12, ls_13, ls_14, ls_15, ls_16, ls_17, ct1_i, ct1_r, wd8_0, wd8_i1, wd8_r1, wd8_i2, wd8_r2, wd8_i3, wd8_r3, wd8_i4, wd8_r4, wd8_i5, wd8_r5, wd8_i6, wd8_r6, wd8_i7, wd8_r7, wd8_i8, wd8_r8, wd8_l2, wd8_l3, wd8_l4, wd8_l5, wd8_l6, wd8_l7, wd8_l8, tl_s, tl_n, inR_t, bd_t, true_and, and_true, true_or, or_true, if_true_x, if_false_x, if_pos, if_neg, Int.toNat_natCast, natL, bI_0, bI_1, bI_ft, eq_self, b_tf, b_ft, not_true_eq_false, not_false_eq_true, a33, a30, a12, hc.t29, hc.r29_0, hc.r29_1, hc.r29_2, hc.r29_4, hc.r29_5, hc.r29_6, hc.r29_7, hc.r29_8, hc.t30, hc.z30, hc.t33, hc.z33, hp.t0, hp.t1, hp.t2, hp.t3, hp.t4, hp.t5, hp.t6, hp.t7, hp.t8, hp.t9, hp.t10, hp.t11, hp.t12, hp.t13, hp.t14, hp.t15, hp.t16, hp.t17, hp.t18, hp.t19, hp.t20, hp.t21, hp.t22, hp.t23, hp.z2, hp.z3, hp.z4, hp.z5, hp.z7, hp.z8, hp.z9, hp.z10, hp.z12, hp.z13, hp.z14, hp.z15, hp.z16, hp.z17, hp.z18, hp.z20, hp.z21, hp.z22, hp.z23, hp.r0_2, hp.r0_3, hp.r0_4, hp.r0_5, hp.r1_1, hp.r1_2, hp.r1_3, hp.r1_4, hp.r6_1, hp.r6_2, hp.r6_3, hp.r6_4, hp.r11_1, hp.r11_2, hp.r11_3, hp.r11_4, hp.r11_5, hp.r11_6, hp.r11_7, hp.r19_1, hp.r19_2, hp.r19_3, hp.r19_4]
      obtain ⟨h3, e4⟩ : ∃ h3 : xH, h3 = (up2 h2.1 33 k (sW v (smK go k) + v 12 c), h2.2) := ⟨_, rfl⟩
      rw [← e4]
      have z3 : NZ X h3 := by rw [e4]; exact NZ.up (I := h2.1) (F := h2.2) z2 (by rw [hc.z33]; omega)
      have o3 : ∀ a, a ≠ 31 → a ≠ 33 → h3.1 a = h1.1 a := fun a q q2 => by rw [e4]; dsimp only; rw [up2_of q2]; exact o2 a q
      have f3 : h3.2 = h1.2 := by rw [e4]; exact f2
      have lg : (go ++ [(c, k)]).length = go.length + 1 := by simp
      have gw3 : GW (h3.1 30) (h3.1 31) (go ++ [(c, k)]) := by
        intro i y hy
        rw [o3 30 (by omega) (by omega), e4]
        dsimp only
        rw [up2_of (by omega), e2]
        dsimp only
        rw [up2_same]
        rcases snoc_get hy with ⟨d, hy⟩ | ⟨d, hy⟩
        · have := p1.2.2.1 i y hy
          rw [if_neg (cng y (List.mem_of_getElem? hy))]
          exact this
        · rw [hy, d]
          dsimp only
          rw [if_pos rfl]
          exact ⟨q30, rfl, c20⟩
      simp (disch := first | assumption | omega) only [e_50_73, e_50_74, e_50_75, e_50_76, e_50_77, e_50_78, e_50_79, e_50_80, e_50_81, e_50_82, e_50_83, e_50_84, onI_s, onR_s, onL_s, gl_0, gl_n, gl_1, gl_2, gl_3, gl_4, gl_5, gl_6, gl_7, gl_8, gl_9, gl_10, gl_11, gl_12, gl_13, gl_14, gl_15, gl_16, gl_17, sk0i, sk0r, sk0n, sk1i, sk1r, sk1n, sk_2, sk_3, sk_4, sk_5, sk_6, sk_7, sk_8, sk_9, sk_10, sk_11, sk_12, sk_13, sk_14, sk_15, sk_16, sk_17, ls_0, ls_1, ls_2, ls_3, ls_4, ls_5, ls_6, ls_7, ls_8, ls_9, ls_10, ls_11, ls_12, ls_13, ls_14, ls_15, ls_16, ls_17, ct1_i, ct1_r, wd8_0, wd8_i1, wd8_r1, wd8_i2, wd8_r2, wd8_i3, wd8_r3, wd8_i4, wd8_r4, wd8_i5, wd8_r5, wd8_i6, wd8_r6, wd8_i7, wd8_r7, wd8_i8, wd8_r8, wd8_l2, wd8_l3, wd8_l4, wd8_l5, wd8_l6, wd8_l7, wd8_l8, tl_s, tl_n, inR_t, bd_t, true_and, and_true, true_or, or_true, if_true_x, if_false_x, if_pos, if_neg, Int.toNat_natCast, natL, bI_0, bI_1, bI_ft, eq_self, b_tf, b_ft, not_true_eq_false, not_false_eq_true, cast_s, hc.t29, hc.r29_0, hc.r29_1, hc.r29_2, hc.r29_4, hc.r29_5, hc.r29_6, hc.r29_7, hc.r29_8]
      rw [← lg]
      (rw [e_50_85]; refine ⟨⟨hc.t29, by simp [wd_i, wd_r, wd_l, wd_0]⟩, ?_⟩)
      refine m_52 hc (by rw [lg]; omega) gw3 z3 (fun h5 z5 g5 r5 => ?_)
      have sm' : smK (go ++ [(c, k)]) k = smK go k ++ [c] := by rw [smK_app, if_pos rfl]
      have sl := smK_len (go := go) (k := k)
      have cv5 : cv h5 b = v := by
        refine Eq.trans (cv_congr (fun a q1 q2 => ⟨?_, ?_⟩)) cv1
        · rw [g5.1 a (by omega), o3 a (by omega) (by omega)]
        · rw [g5.2, f3]
      have w3 : h5.1 11 k = x.2.2.1 := by rw [g5.1 11 (by omega), o3 11 (by omega) (by omega)]; exact (p1.2.1 k x hx).2.2.1
      have w4 : h5.1 12 k = x.2.2.2 := by rw [g5.1 12 (by omega), o3 12 (by omega) (by omega)]; exact (p1.2.1 k x hx).2.2.2
      rw [sm'] at r5 ⊢
      simp (disch := first | assumption | omega) only [e_50_86, onI_s, onR_s, onL_s, gl_0, gl_n, gl_1, gl_2, gl_3, gl_4, gl_5, gl_6, gl_7, gl_8, gl_9, gl_10, gl_11, gl_12, gl_13, gl_14, gl_15, gl_16, gl_17, sk0i, sk0r, sk0n, sk1i, sk1r, sk1n, sk_2, sk_3, sk_4, sk_5, sk_6, sk_7, sk_8, sk_9, sk_10, sk_11, sk_12, sk_13, sk_14, sk_15, sk_16, sk_17, ls_0, ls_1, ls_2, ls_3, ls_4, ls_5, ls_6, ls_7, ls_8, ls_9, ls_10, ls_11, ls_12, ls_13, ls_14, ls_15, ls_16, ls_17, ct1_i, ct1_r, wd8_0, wd8_i1, wd8_r1, wd8_i2, wd8_r2, wd8_i3, wd8_r3, wd8_i4, wd8_r4, wd8_i5, wd8_r5, wd8_i6, wd8_r6, wd8_i7, wd8_r7, wd8_i8, wd8_r8, wd8_l2, wd8_l3, wd8_l4, wd8_l5, wd8_l6, wd8_l7, wd8_l8, tl_s, tl_n, inR_t, bd_t, true_and, and_true, true_or, or_true, if_true_x, if_false_x, if_pos, if_neg, Int.toNat_natCast, natL, bI_0, bI_1, bI_ft, eq_self, b_tf, b_ft, not_true_eq_false, not_false_eq_true]
      (rw [e_50_87]; refine ⟨⟨hc.t29, by simp [wd_i, wd_r, wd_l, wd_0]⟩, ?_⟩)
      refine m_48 hp b200 hc cv5 w z5 hc.t34 hc.z34 (by omega) r5 (by simp; omega) (by simp; omega) (fun d hd => by
        rcases List.mem_append.mp hd with q | q
        · exact smK_20 p1.2.2.1 d q
        · simp at q; omega) kns ns256 w3 w4 an (fun h6 z6 g6 tr => ?_)
      have s1 := tb_same (F := fC) (G := fRp) w an (by decide) (by decide) (L := smK go k ++ [c]) (s := 0) (by simp; omega) (by rw [sW_app]; show _ + (_ + (v 12 c + 0)) ≤ _; omega)
      rw [s1]
      simp (disch := first | assumption | omega) only [e_50_88, e_50_89, e_50_90, onI_s, onR_s, onL_s, gl_0, gl_n, gl_1, gl_2, gl_3, gl_4, gl_5, gl_6, gl_7, gl_8, gl_9, gl_10, gl_11, gl_12, gl_13, gl_14, gl_15, gl_16, gl_17, sk0i, sk0r, sk0n, sk1i, sk1r, sk1n, sk_2, sk_3, sk_4, sk_5, sk_6, sk_7, sk_8, sk_9, sk_10, sk_11, sk_12, sk_13, sk_14, sk_15, sk_16, sk_17, ls_0, ls_1, ls_2, ls_3, ls_4, ls_5, ls_6, ls_7, ls_8, ls_9, ls_10, ls_11, ls_12, ls_13, ls_14, ls_15, ls_16, ls_17, ct1_i, ct1_r, wd8_0, wd8_i1, wd8_r1, wd8_i2, wd8_r2, wd8_i3, wd8_r3, wd8_i4, wd8_r4, wd8_i5, wd8_r5, wd8_i6, wd8_r6, wd8_i7, wd8_r7, wd8_i8, wd8_r8, wd8_l2, wd8_l3, wd8_l4, wd8_l5, wd8_l6, wd8_l7, wd8_l8, tl_s, tl_n, inR_t, bd_t, true_and, and_true, true_or, or_true, if_true_x, if_false_x, if_pos, if_neg, Int.toNat_natCast, natL, bI_0, bI_1, bI_ft, eq_self, b_tf, b_ft, not_true_eq_false, not_false_eq_true, cast_s, hc.t32, hc.z32]
      obtain ⟨h7, e7⟩ : ∃ h7 : xH, h7 = (up2 h6.1 32 k (tb v x.2.2.1 x.2.2.2 fRp (smK go k ++ [c]) 0), h6.2) := ⟨_, rfl⟩
      rw [← e7]
      have z7 : NZ X h7 := by rw [e7]; exact NZ.up (I := h6.1) (F := h6.2) z6 (by rw [hc.z32]; omega)
      have o7 : ∀ a, a ≠ 31 → a ≠ 32 → a ≠ 33 → a ≠ 34 → a < 36 ∨ 56 < a → h7.1 a = h1.1 a := fun a q1 q2 q3 q4 q5 => by
        rw [e7]
        dsimp only
        rw [up2_of q2, g6.1 a q5, g5.1 a q4, o3 a q1 q3]
      have f7 : h7.2 = h1.2 := by rw [e7]; dsimp only; rw [g6.2, g5.2, f3]
      have ps7 : PS h7 v (go ++ [(c, k)]) := by
        refine ⟨by rw [f7]; exact p1.1, ?_, ?_, ?_⟩
        · rw [o7 9 (by omega) (by omega) (by omega) (by omega) (by omega), o7 10 (by omega) (by omega) (by omega) (by omega) (by omega), o7 11 (by omega) (by omega) (by omega) (by omega) (by omega), o7 12 (by omega) (by omega) (by omega) (by omega) (by omega)]
          exact p1.2.1
        · rw [e7]
          dsimp only
          rw [up2_of (by omega), up2_of (by omega), g6.1 30 (by omega), g6.1 31 (by omega), g5.1 30 (by omega), g5.1 31 (by omega)]
          exact gw3
        · intro j y hy
          have pj := p1.2.2.2 j y hy
          rw [smK_app]
          constructor
          · rw [e7]
            dsimp only
            rw [up2_of (by omega), g6.1 33 (by omega), g5.1 33 (by omega), e4]
            dsimp only
            rw [up2_same, o2 33 (by omega)]
            by_cases d : k = j
            · rw [if_pos d.symm, if_pos d, sW_app, d]
              show _ = _ + (v 12 c + 0)
              omega
            · rw [if_neg (fun q => d q.symm), if_neg d]
              exact pj.1
          · rw [e7]
            dsimp only
            rw [up2_same]
            by_cases d : k = j
            · subst d
              rw [if_pos rfl, if_pos rfl]
              rw [hx] at hy
              cases hy
              rfl
            · rw [if_neg (fun q => d q.symm), if_neg d, g6.1 32 (by omega), g5.1 32 (by omega), o3 32 (by omega) (by omega)]
              exact pj.2
      have g7 : GI h0 h7 := g.tr (g1.gi.tr ⟨fun a q => o7 a (by omega) (by omega) (by omega) (by omega) (by omega), f7⟩)
      have := ih (go ++ [(c, k)]) h7 (some (vi k)) (by rw [← eq]; simp) ps7 (ft.snoc hx xs) z7 g7 hN hS
      rw [lg] at this
      exact this
end PKM
