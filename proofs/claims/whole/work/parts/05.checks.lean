/-! WHAT THE TABLES MUST BE, and that they are: each tuple is the machine's instruction, each link a word of the tables -/
def tblG : List Cond := lw_tbl.filter goodWord
/-- the tables' words in pieces: a word's place is 256 times its piece and its place there -/
def xwp (c : Nat) : List Cond := if c = 0 then k2_sels lw_privs_1 else if c = 1 then k2_sels lw_privs_2 else if c = 2 then k2_sels lw_privs_3 else if c = 3 then k2_sels lw_privs_4 else if c = 4 then k2_sels lw_privs_5 else if c = 5 then k2_sels lw_privs_6 else if c = 6 then k2_sels lw_privs_7 else if c = 7 then k2_sels lw_privs_8
  else if c = 8 then tables_1_1 else if c = 9 then tables_1_2 else if c = 10 then tables_1_3 else if c = 11 then tables_1_4 else if c = 12 then tables_1_5 else if c = 13 then tables_1_6 else if c = 14 then tables_1_7 else if c = 15 then tables_1_8 else []
theorem k2s_l {a b : List (MethodName × Nat)} {w : Cond} (h : w ∈ k2_sels a) : w ∈ k2_sels (a ++ b) := by
  unfold k2_sels at *
  rw [List.map_append]
  exact List.mem_append_left _ h
theorem k2s_r {a b : List (MethodName × Nat)} {w : Cond} (h : w ∈ k2_sels b) : w ∈ k2_sels (a ++ b) := by
  unfold k2_sels at *
  rw [List.map_append]
  exact List.mem_append_right _ h
theorem xwp_in {c : Nat} {w : Cond} (h : w ∈ xwp c) : w ∈ lw_tbl := match c, h with
  | 0, h => List.mem_append_left _ (show w ∈ k2_sels lw_privs from (k2s_l h))
  | 1, h => List.mem_append_left _ (show w ∈ k2_sels lw_privs from (k2s_r (k2s_l h)))
  | 2, h => List.mem_append_left _ (show w ∈ k2_sels lw_privs from (k2s_r (k2s_r (k2s_l h))))
  | 3, h => List.mem_append_left _ (show w ∈ k2_sels lw_privs from (k2s_r (k2s_r (k2s_r (k2s_l h)))))
  | 4, h => List.mem_append_left _ (show w ∈ k2_sels lw_privs from (k2s_r (k2s_r (k2s_r (k2s_r (k2s_l h))))))
  | 5, h => List.mem_append_left _ (show w ∈ k2_sels lw_privs from (k2s_r (k2s_r (k2s_r (k2s_r (k2s_r (k2s_l h)))))))
  | 6, h => List.mem_append_left _ (show w ∈ k2_sels lw_privs from (k2s_r (k2s_r (k2s_r (k2s_r (k2s_r (k2s_r (k2s_l h))))))))
  | 7, h => List.mem_append_left _ (show w ∈ k2_sels lw_privs from (k2s_r (k2s_r (k2s_r (k2s_r (k2s_r (k2s_r (k2s_r h))))))))
  | 8, h => List.mem_append_right _ (show w ∈ tables_1 from (List.mem_append_left _ h))
  | 9, h => List.mem_append_right _ (show w ∈ tables_1 from (List.mem_append_right _ (List.mem_append_left _ h)))
  | 10, h => List.mem_append_right _ (show w ∈ tables_1 from (List.mem_append_right _ (List.mem_append_right _ (List.mem_append_left _ h))))
  | 11, h => List.mem_append_right _ (show w ∈ tables_1 from (List.mem_append_right _ (List.mem_append_right _ (List.mem_append_right _ (List.mem_append_left _ h)))))
  | 12, h => List.mem_append_right _ (show w ∈ tables_1 from (List.mem_append_right _ (List.mem_append_right _ (List.mem_append_right _ (List.mem_append_right _ (List.mem_append_left _ h))))))
  | 13, h => List.mem_append_right _ (show w ∈ tables_1 from (List.mem_append_right _ (List.mem_append_right _ (List.mem_append_right _ (List.mem_append_right _ (List.mem_append_right _ (List.mem_append_left _ h)))))))
  | 14, h => List.mem_append_right _ (show w ∈ tables_1 from (List.mem_append_right _ (List.mem_append_right _ (List.mem_append_right _ (List.mem_append_right _ (List.mem_append_right _ (List.mem_append_right _ (List.mem_append_left _ h))))))))
  | 15, h => List.mem_append_right _ (show w ∈ tables_1 from (List.mem_append_right _ (List.mem_append_right _ (List.mem_append_right _ (List.mem_append_right _ (List.mem_append_right _ (List.mem_append_right _ (List.mem_append_right _ h))))))))
  | n + 16, h => by
    unfold xwp at h
    rw [if_neg (by omega), if_neg (by omega), if_neg (by omega), if_neg (by omega), if_neg (by omega), if_neg (by omega), if_neg (by omega), if_neg (by omega), if_neg (by omega), if_neg (by omega), if_neg (by omega), if_neg (by omega), if_neg (by omega), if_neg (by omega), if_neg (by omega), if_neg (by omega)] at h
    cases h
def wAt (p : Nat) (w : Cond) : Bool := decide ((xwp (p / 256))[p % 256]? = some w) && goodWord w
theorem wAt_in {p : Nat} {w : Cond} (h : wAt p w = true) : w ∈ tblG := by
  unfold wAt at h
  rw [Bool.and_eq_true] at h
  exact List.mem_filter.mpr ⟨xwp_in (List.mem_of_getElem? (of_decide_eq_true h.1)), h.2⟩
def jmp (k ip t : Nat) : Int := (pcs k t : Int) - (pcs k ip : Int)
def rawA (i : xI) : Instr × Nat :=
  if i.1 = 0 then (.iload_n (Fin.ofNat 4 i.2.1), 1) else if i.1 = 1 then (.iload i.2.1, 2) else if i.1 = 2 then (.aload_n (Fin.ofNat 4 i.2.1), 1) else if i.1 = 3 then (.aload i.2.1, 2)
  else if i.1 = 4 then (.lload_n (Fin.ofNat 4 i.2.1), 1) else if i.1 = 5 then (.lload i.2.1, 2) else if i.1 = 6 then (.istore_n (Fin.ofNat 4 i.2.1), 1) else if i.1 = 7 then (.istore i.2.1, 2)
  else if i.1 = 8 then (.astore_n (Fin.ofNat 4 i.2.1), 1) else (.astore i.2.1, 2)
def rawB (i : xI) : Instr × Nat :=
  if i.1 = 11 then (.iconst i.2.2.2.1, 1) else if i.1 = 12 then (.bipush i.2.2.2.1, 2) else if i.1 = 13 then (.sipush i.2.2.2.1, 3) else if i.1 = 14 then (.ldc i.2.1, 2)
  else if i.1 = 15 then (.ldc_w i.2.1, 3) else if i.1 = 16 then (.lconst (Fin.ofNat 2 i.2.2.2.1.toNat), 1) else (.ldc2_w i.2.1, 3)
def rawC (i : xI) : Instr × Nat :=
  if i.1 = 18 then (.iadd, 1) else if i.1 = 19 then (.isub, 1) else if i.1 = 20 then (.imul, 1) else if i.1 = 21 then (.idiv, 1) else if i.1 = 22 then (.irem, 1)
  else if i.1 = 23 then (.ineg, 1) else if i.1 = 24 then (.iand, 1) else if i.1 = 25 then (.ishr, 1) else if i.1 = 26 then (.iushr, 1) else (.ixor, 1)
def rawD (i : xI) : Instr × Nat :=
  if i.1 = 28 then (.i2l, 1) else if i.1 = 29 then (.l2i, 1) else if i.1 = 30 then (.ladd, 1) else if i.1 = 31 then (.lsub, 1) else if i.1 = 32 then (.lmul, 1) else if i.1 = 33 then (.lrem, 1) else (.lcmp, 1)
def rawE (k ip : Nat) (i : xI) : Instr × Nat :=
  if i.1 = 35 then (.dup, 1) else if i.1 = 36 then (.dup2, 1) else if i.1 = 37 then (.pop, 1) else if i.1 = 38 then (.iinc i.2.1 i.2.2.2.1, 3) else if i.1 = 39 then (.goto (jmp k ip i.2.2.1), 3)
  else if i.1 = 40 then (.ifCond (if i.2.1 = 0 then .eq else if i.2.1 = 1 then .ne else if i.2.1 = 2 then .lt else if i.2.1 = 3 then .ge else if i.2.1 = 4 then .gt else .le) (jmp k ip i.2.2.1), 3)
  else if i.1 = 41 then (.if_icmp (if i.2.1 = 0 then .eq else if i.2.1 = 1 then .ne else if i.2.1 = 2 then .lt else if i.2.1 = 3 then .ge else if i.2.1 = 4 then .gt else .le) (jmp k ip i.2.2.1), 3)
  else (.tableswitch (jmp k ip (i.2.2.2.2.getD 0 0)) i.2.2.2.1 (i.2.2.2.1 + (i.2.2.2.2.length : Int) - 2) ((i.2.2.2.2.drop 1).map (jmp k ip)).toArray, pcs k (ip + 1) - pcs k ip)
def rawF (i : xI) : Instr × Nat :=
  if i.1 = 50 ∨ i.1 = 51 ∨ i.1 = 52 then (.getfield i.2.2.2.1.toNat, 3) else if i.1 = 53 ∨ i.1 = 54 then (.putfield i.2.2.2.1.toNat, 3) else if i.1 = 55 then (.iaload, 1) else if i.1 = 56 then (.iastore, 1)
  else if i.1 = 57 then (.baload, 1) else if i.1 = 58 then (.bastore, 1) else if i.1 = 59 then (.arraylength, 1) else if i.1 = 60 ∨ i.1 = 66 then (.aaload, 1) else if i.1 = 61 then (.getstatic i.2.2.2.1.toNat, 3)
  else if i.1 = 62 ∨ i.1 = 74 then (.invokestatic i.2.2.2.1.toNat, 3) else if i.1 = 73 then (.invokevirtual i.2.2.2.1.toNat, 3) else if i.1 = 71 then (.return_, 1) else (.ireturn, 1)
def rawI (k ip : Nat) (i : xI) : Instr × Nat :=
  if i.1 < 10 then rawA i else if i.1 < 18 then rawB i else if i.1 < 28 then rawC i else if i.1 < 35 then rawD i else if i.1 < 50 then rawE k ip i else rawF i
def xfl (ci k : Nat) : String × String × String × Bool := (xFl.getD ci []).getD k ("", "", "", true)
def sts : List (String × String) := [("CellRows", "TERM_FIRST"), ("CellRows", "TERM_LEAST"), ("CellRows", "TERM_MOST"), ("CellRows$Analytic", "TRY_X"), ("CellRows$Analytic", "TRY_Y")]
def okW (k : Nat) (i : xI) : Bool :=
  if i.1 = 0 ∨ i.1 = 2 ∨ i.1 = 4 ∨ i.1 = 6 ∨ i.1 = 8 then decide (i.2.1 < 4)
  else if i.1 = 14 ∨ i.1 = 15 then wAt (i.2.2.2.2.getD 0 0) (.constant (ym k).cls i.2.1 (Int32.ofInt i.2.2.2.1))
  else if i.1 = 16 then decide (i.2.2.2.1 = 0 ∨ i.2.2.2.1 = 1)
  else if i.1 = 17 then wAt (i.2.2.2.2.getD 0 0) (.constantLong (ym k).cls i.2.1 (Int64.ofInt i.2.2.2.1))
  else if i.1 = 50 ∨ i.1 = 51 ∨ i.1 = 52 then decide (i.2.1 < 13) && decide (i.2.2.1 < (xFl.getD i.2.1 []).length) && decide (fkd i.2.1 i.2.2.1 = i.1 - 50) && wAt (i.2.2.2.2.getD 0 0) (.fieldLink (ym k).cls i.2.2.2.1.toNat (xfl i.2.1 i.2.2.1).1 (xfl i.2.1 i.2.2.1).2.1 (xfl i.2.1 i.2.2.1).2.2.1)
  else if i.1 = 53 ∨ i.1 = 54 then decide (i.2.1 < 13) && decide (i.2.2.1 < (xFl.getD i.2.1 []).length) && decide (fkd i.2.1 i.2.2.1 = (if i.1 = 53 then 0 else 2)) && decide ((xfl i.2.1 i.2.2.1).2.2.2 = false) && decide ((xfl i.2.1 i.2.2.1).2.2.1 = (if i.1 = 53 then "I" else "J")) && wAt (i.2.2.2.2.getD 0 0) (.fieldLink (ym k).cls i.2.2.2.1.toNat (xfl i.2.1 i.2.2.1).1 (xfl i.2.1 i.2.2.1).2.1 (xfl i.2.1 i.2.2.1).2.2.1)
  else if i.1 = 61 then decide (i.2.1 < 5) && wAt (i.2.2.2.2.getD 0 0) (.fieldLink (ym k).cls i.2.2.2.1.toNat (sts.getD i.2.1 ("", "")).1 (sts.getD i.2.1 ("", "")).2 "[I")
  else if i.1 = 62 then decide (1 ≤ rmF k) && decide (40 ≤ rmL k) && wAt (i.2.2.2.2.getD 0 0) (.methodLink (ym k).cls i.2.2.2.1.toNat arraycopyName)
  else if i.1 = 70 then decide (rtt k = some .int) else if i.1 = 75 then decide (rtt k = some .boolean) else if i.1 = 71 then decide (rtt k = none)
  else if i.1 = 73 ∨ i.1 = 74 then decide (i.2.1 < 288) && decide (npm i.2.1 = i.2.2.1) && decide (rmF i.2.1 + 1 ≤ rmF k) && decide (8 + (mxl i.2.1 + 11) + rmL i.2.1 ≤ rmL k) && decide (if i.1 = 73 then cnm i.2.1 < 13 else cnm i.2.1 = 99) && wAt (i.2.2.2.2.getD 0 0) (.methodLink (ym k).cls i.2.2.2.1.toNat (ym i.2.1))
  else true
def okI (k ip : Nat) (i : xI) : Bool := i.1 == 99 || (decide (decode (byt k) (pcs k ip) = .ok (rawI k ip i)) && decide (pcs k (ip + 1) = pcs k ip + (rawI k ip i).2) && okW k i)
/-- the same, read off the lists one by one -/
def okS (k : Nat) : Nat → List xI → Bool
  | _, [] => true
  | ip, i :: is => okI k ip i && okS k (ip + 1) is
/-- a method's own words; the law itself is called by none -/
def okC (k : Nat) : Bool := (ym k).cls == "CellRowsLaw" && (ym k).name == "law" || (wAt ((plc k).getD 0 0) (.code (ym k) (byt k) (mxl k) (rtt k)) && wAt ((plc k).getD 3 0) (.initialized (ym k).cls) && decide ((ym k).cls ≠ "java/lang/invoke/MethodHandle") && decide ((ym k).cls ≠ "java/lang/invoke/VarHandle") && decide ((parseMethodDescriptor (ym k).desc).map (fun d => d.parameters.length) = some (npm k)) && plainName (ym k).cls &&
  (if cnm k = 99 then wAt ((plc k).getD 1 0) (.static (ym k)) else decide (cnm k < 13) && decide (xcnL.getD (cnm k) "" = (ym k).cls) && wAt ((plc k).getD 1 0) (.instanceMethod (ym k)) && wAt ((plc k).getD 2 0) (.selects (ym k).cls (ym k) (ym k))))
def okM (k : Nat) : Bool := okS k 0 ((xcd.getD (k / 32) []).getD (k % 32) []) && okC k
theorem okS_at (k : Nat) : ∀ (l : List xI) (ip : Nat), okS k ip l = true → ∀ (j : Nat) (i : xI), l[j]? = some i → okI k (ip + j) i = true
  | [], _, _, j, i, h => by simp at h
  | i0 :: l, ip, h, 0, i, hi => by
    have h : (okI k ip i0 && okS k (ip + 1) l) = true := h
    rw [Bool.and_eq_true] at h
    cases hi
    exact h.1
  | i0 :: l, ip, h, j + 1, i, hi => by
    have h : (okI k ip i0 && okS k (ip + 1) l) = true := h
    rw [Bool.and_eq_true] at h
    rw [show ip + (j + 1) = (ip + 1) + j by omega]
    exact okS_at k l (ip + 1) h.2 j i hi
