/-! THE BEGINNING, V: what holds of the state when both objects are new -/
theorem CT_XX (ns nb ln : Nat) : CT (XX ns nb ln) ns nb ln := by
  refine ⟨fun a h => if_pos h, fun a h => if_pos h, fun a ha k hk _ => ?_, fun k _ => rfl, fun k hk => ?_, fun j _ => rfl⟩
  · show XXr a k = _
    by_cases h5 : a = 5
    · subst h5
      exact absurd (show k < 0 from hk) (Nat.not_lt_zero k)
    · by_cases h35 : a = 35
      · subst h35
        exact absurd (show k < 0 from hk) (Nat.not_lt_zero k)
      · unfold XXr
        rw [if_neg h5, if_neg h35, if_pos ha]
  · show (if k < 21 then 36 + k else 537 + 24 * k) = 36 + k
    rw [if_pos hk]
theorem PL_XX (ns nb ln p : Nat) (hp : p < 14) : PL (XX ns nb ln) (200 + 24 * p) := by
  refine ⟨fun j hj => ?_, fun j hj => ?_, ⟨?_, ?_, ?_, ?_⟩, fun k h1 h2 => ?_, fun k h1 h2 => ?_, fun k h1 h2 => ?_, fun k h1 h2 => ?_⟩
  · show XXt (200 + 24 * p + j) = _
    unfold XXt
    rw [if_neg (by omega), if_pos (by omega), show (200 + 24 * p + j - 200) % 24 = j by omega]
  · show (if 200 + 24 * p + j < 102 then _ else if 200 ≤ 200 + 24 * p + j ∧ 200 + 24 * p + j < 536 then PLz.getD ((200 + 24 * p + j - 200) % 24) 0 else 0) = _
    rw [if_neg (by omega), if_pos (by omega), show (200 + 24 * p + j - 200) % 24 = j by omega]
  · show XXr (200 + 24 * p) 2 = _
    unfold XXr
    rw [if_neg (by omega), if_neg (by omega), if_neg (by omega), if_pos (by omega)]
    rfl
  · show XXr (200 + 24 * p) 3 = _
    unfold XXr
    rw [if_neg (by omega), if_neg (by omega), if_neg (by omega), if_pos (by omega)]
    rfl
  · show XXr (200 + 24 * p) 4 = _
    unfold XXr
    rw [if_neg (by omega), if_neg (by omega), if_neg (by omega), if_pos (by omega)]
    rfl
  · show XXr (200 + 24 * p) 5 = _
    unfold XXr
    rw [if_neg (by omega), if_neg (by omega), if_neg (by omega), if_pos (by omega)]
    rfl
  · show XXr (200 + 24 * p + 1) k = _
    unfold XXr
    rw [if_neg (by omega), if_neg (by omega), if_neg (by omega), if_neg (by omega)]
    omega
  · show XXr (200 + 24 * p + 6) k = _
    unfold XXr
    rw [if_neg (by omega), if_neg (by omega), if_neg (by omega), if_neg (by omega)]
    omega
  · show XXr (200 + 24 * p + 11) k = _
    unfold XXr
    rw [if_neg (by omega), if_neg (by omega), if_neg (by omega), if_neg (by omega)]
    omega
  · show XXr (200 + 24 * p + 19) k = _
    unfold XXr
    rw [if_neg (by omega), if_neg (by omega), if_neg (by omega), if_neg (by omega)]
    omega
section INI
variable {ro si : Int} {xs : Nat → Int32} {ns nb ln : Nat}
theorem HH2_p (a k : Nat) (h : 200 ≤ a ∧ a < 536 ∧ (a - 200) % 24 = 0) : HH2 ro si a k = [ro, si].getD k 0 := if_pos (Or.inr h)
theorem HH2_z (a k : Nat) (h : 200 ≤ a ∧ (a - 200) % 24 ≠ 0) : HH2 ro si a k = 0 := by
  unfold HH2
  rw [if_neg (by omega), if_neg (by omega), if_neg (by omega)]
theorem tm0_z (j : Nat) (h : 6 ≤ j) : tm0 j = 0 := by
  unfold tm0
  rw [if_neg (by omega), if_neg (by omega), if_neg (by omega), if_neg (by omega), if_neg (by omega), if_neg (by omega)]
theorem NZ_is : NZ (XX ns nb ln) (HH ro si xs) := by
  intro a j ht hz
  show HH1 xs a j = 0
  by_cases h1 : a = 1 ∨ a = 72
  · have e1 : HH1 xs a j = tm0 j := if_pos h1
    rw [e1]
    refine tm0_z j ?_
    rcases h1 with rfl | rfl
    · exact hz
    · exact hz
  · by_cases h2 : a < 96
    · unfold HH1
      rw [if_neg h1, if_pos h2]
    · by_cases h3 : a < 102
      · have h4 : ∀ a, a < 102 → ¬ a < 96 → XXt a = 20 := by decide +kernel
        have h5 := h4 a h3 h2
        have ht2 : XXt a = 13 ∨ XXt a = 14 := ht
        omega
      · exact HH1_hi a j (by omega)
theorem OkS_is : OkS (HH ro si xs) := by
  refine ⟨fun w hw => ?_, fun k hk => ?_⟩
  · have h9 : w = 0 ∨ w = 1 ∨ w = 2 ∨ w = 3 ∨ w = 4 ∨ w = 5 := by omega
    rcases h9 with rfl | rfl | rfl | rfl | rfl | rfl <;> exact ⟨rfl, rfl⟩
  · have h9 : k = 0 ∨ k = 1 ∨ k = 2 ∨ k = 3 ∨ k = 4 := by omega
    rcases h9 with rfl | rfl | rfl | rfl | rfl <;> exact ⟨rfl, rfl⟩
theorem OkJ_is : OkJ (HH ro si xs) := by
  intro p hp
  refine ⟨fun i => ?_, fun j hj i _ => ?_⟩
  · show HH2 ro si (200 + 24 * p) i = HH2 ro si 200 i
    rw [HH2_p _ _ (by omega), HH2_p _ _ (by omega)]
  · show HH2 ro si (200 + 24 * p + j) i = HH2 ro si (200 + j) i
    rw [HH2_z _ _ (by omega), HH2_z _ _ (by omega)]
theorem OkC_is : OkC (XX ns nb ln) (HH ro si xs) := by
  refine ⟨⟨Int.le_refl 0, show (0 : Int) ≤ 12 by decide⟩, ⟨Int.le_refl 0, show (0 : Int) ≤ 11 by decide⟩, ⟨rfl, rfl⟩, ⟨?_, ?_⟩, OkJ_is⟩
  · show ((si + 8) - 1).tdiv 8 = (si + 7).tdiv 8
    rw [show si + 8 - 1 = si + 7 by omega]
  · show (((si + 8) - 1).tdiv 8) * (((ro + 2) - 1).tdiv 2) = (si + 7).tdiv 8 * (ro + 1).tdiv 2
    rw [show si + 8 - 1 = si + 7 by omega, show ro + 2 - 1 = ro + 1 by omega]
theorem OkM_is : OkM (HH ro si xs) := by
  refine ⟨⟨Int.le_refl 0, show (0 : Int) ≤ 12 by decide⟩, fun k _ => ⟨⟨Int.le_refl 0, show (0 : Int) ≤ 31 by decide⟩, ⟨Int.le_refl 0, show (0 : Int) ≤ 31 by decide⟩, ⟨Int.le_refl 0, show (0 : Int) ≤ 4 by decide⟩⟩, fun j hj => ?_⟩
  exact absurd (show j < 0 from hj) (Nat.not_lt_zero j)
theorem LO_is (r1 : 1 ≤ ro ∧ ro ≤ 8) (s1 : 8 ≤ si ∧ si ≤ 32) : LO (XX (ro * si).toNat (bnB ro si).toNat ln) (HH ro si xs) := by
  refine ⟨⟨(bnB ro si).toNat, ln, CT_XX _ _ _, ?_⟩, fun p hp => PL_XX _ _ _ p hp⟩
  show ((bnB ro si).toNat : Int) = bnB ro si
  exact Int.toNat_of_nonneg (bnB_bd r1 s1).1
theorem Ok_is (r1 : 1 ≤ ro ∧ ro ≤ 8) (s1 : 8 ≤ si ∧ si ≤ 32) : Ok (XX (ro * si).toNat (bnB ro si).toNat ln) (HH ro si xs) := ⟨NZ_is, OkS_is, OkC_is, OkM_is, LO_is r1 s1⟩
theorem cv_z (j i : Nat) (h : j ≠ 0) : cv (HH ro si xs) 200 j i = 0 := by
  unfold cv
  split
  · show HH2 ro si (200 + j) i = 0
    exact HH2_z _ _ (by omega)
  · split
    · exact HH1_hi _ _ (by omega)
    · rfl
theorem cv_ro : cv (HH ro si xs) 200 0 0 = ro := rfl
theorem cv_si : cv (HH ro si xs) 200 0 1 = si := rfl
theorem rv_z (s1 : 8 ≤ si ∧ si ≤ 32) (j i : Nat) (h : j ≠ 0) : rv (fun _ => 0) ro si j i = 0 := by
  unfold rv
  rw [if_neg h]
  repeat' split
  all_goals first | rfl | (dsimp only; omega)
theorem cv_vm (s1 : 8 ≤ si ∧ si ≤ 32) : cv (HH ro si xs) 200 = vm (HH ro si xs) := by
  have z : (HH ro si xs).1 73 = fun _ => 0 := funext fun j => rfl
  funext j i
  unfold vm
  rw [z]
  show _ = rv (fun _ => 0) ro si j i
  by_cases h : j = 0
  · subst h
    show HH2 ro si 200 i = (if i = 0 then ro else if i = 1 then si else 0)
    rw [HH2_p _ _ (by omega)]
    by_cases h0 : i = 0
    · subst h0
      rfl
    · by_cases h1 : i = 1
      · subst h1
        rfl
      · rw [if_neg h0, if_neg h1, List.getD_eq_getElem?_getD, List.getElem?_eq_none (by show 2 ≤ i; omega)]
        rfl
  · rw [cv_z j i h, rv_z s1 j i h]
theorem hC_0 {h : xH} (e : (h.2 4 0).toNat = 0) : hC h = (0, (fun _ _ _ => 0), fun _ => 0) := by
  unfold hC
  rw [e]
  simp
theorem hM_0 {h : xH} (e : (h.2 70 9).toNat = 0) : hM h = (0, (fun _ _ _ => 0), fun _ => 0) := by
  unfold hM
  rw [e]
  simp
theorem cS_mS (s1 : 8 ≤ si ∧ si ≤ 32) : cS (HH ro si xs) = mS (HH ro si xs) := by
  have e1 : (HH ro si xs).1 1 = (HH ro si xs).1 72 := funext fun j => rfl
  have e2 : (HH ro si xs).1 2 = (HH ro si xs).1 78 := funext fun j => rfl
  have e3 : (HH ro si xs).1 3 = (HH ro si xs).1 71 := funext fun j => rfl
  have f1 : (HH ro si xs).2 0 2 = (HH ro si xs).2 70 13 := rfl
  have f2 : (HH ro si xs).2 0 4 = (HH ro si xs).2 70 1 := rfl
  have g1 : ((HH ro si xs).2 4 0).toNat = 0 := rfl
  have g2 : ((HH ro si xs).2 70 9).toNat = 0 := rfl
  unfold cS mS
  rw [cv_vm s1, hC_0 g1, hM_0 g2, e1, e2, e3, f1, f2]
theorem Gd_new {v : Nat → Nat → Int} (r1 : 1 ≤ v 0 0 ∧ v 0 0 ≤ 8) (s1 : 8 ≤ v 0 1 ∧ v 0 1 ≤ 32) (hz : ∀ j i : Nat, j ≠ 0 → v j i = 0) : Gd v := by
  have z1 := hz 1 0 (by decide)
  have z6 := hz 6 0 (by decide)
  have z11 := hz 11 0 (by decide)
  have z19 := hz 19 0 (by decide)
  refine ⟨⟨⟨fun c => by rw [hz 12 c (by decide)]; omega, fun c => by rw [hz 13 c (by decide)]; omega, fun c => Or.inl (hz 14 c (by decide)), fun c => by rw [hz 15 c (by decide)]; omega, fun c => by rw [hz 16 c (by decide)]; omega, fun c => by rw [hz 17 c (by decide)]; omega, fun c => by rw [hz 18 c (by decide)]; omega⟩, ⟨fun n => by rw [hz 20 n (by decide)]; omega, fun n => by rw [hz 21 n (by decide)]; omega, fun i => by rw [hz 22 i (by decide)]; omega, fun i => by rw [hz 23 i (by decide)]; omega⟩, by omega, by omega, by omega, by omega, r1, s1, fun j i h => by rw [hz j i (by omega)]; omega⟩, fun n h => by omega, fun n k l h => by omega, fun n k h => by omega, fun c h => by omega, fun c h => by omega, fun c h => by omega, fun c d h => by omega, fun c h => by omega, fun f h => by omega, fun f g h => by omega, fun b h => by omega⟩
theorem GSt_is (r1 : 1 ≤ ro ∧ ro ≤ 8) (s1 : 8 ≤ si ∧ si ≤ 32) : GSt 0 (cS (HH ro si xs)) := by
  refine ⟨Gd_new (v := cv (HH ro si xs) 200) r1 s1 (fun j i h => cv_z j i h), fun w hw => ?_, fun i => ⟨Int.le_refl 0, show (0 : Int) ≤ 255 by decide⟩, ⟨Int.le_refl 0, show (0 : Int) ≤ 100 by decide⟩, fun j _ => ⟨Int.le_refl 0, Int.le_refl 0⟩, show (0 : Nat) ≤ 12 by decide, fun j hj => absurd (show j < 0 from hj) (Nat.not_lt_zero j)⟩
  show tlo w ≤ tm0 w ∧ tm0 w ≤ thi w
  have h9 : w = 0 ∨ w = 1 ∨ w = 2 ∨ w = 3 ∨ w = 4 ∨ w = 5 := by omega
  rcases h9 with rfl | rfl | rfl | rfl | rfl | rfl <;> decide
theorem h_pure (r1 : 1 ≤ ro ∧ ro ≤ 8) (s1 : 8 ≤ si ∧ si ≤ 32) (hL : ln ≤ 3074) : Ev (XX (ro * si).toNat (bnB ro si).toNat ln) 287 22 [some (vr 101), some (vr 0), some (vr 70), some (vi 2)] [] (HH ro si xs) (fun r _ => r = some (vi 1)) :=
  law_loop (CT_XX _ _ _) hL 1000 2 0 _ (by omega) (by omega) (by omega) ⟨Ok_is r1 s1, cS_mS s1, GSt_is r1 s1⟩ (fun j => (i32_any (xs j)).2)
end INI
