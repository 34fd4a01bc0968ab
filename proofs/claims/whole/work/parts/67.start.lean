/-! ===== the start: what every method may count on, out of what the Statement gives (written by wip/whole/gen/spec13.py) ===== -/
/-- what the Statement gives of the start, word by word -/
def nwL : List Cond := flatC (Jvm.Cond.and given_1 narrow_1)
theorem st_m {L : List Cond} {N : Nat} {f : Nat → Cond} (qs : List Nat) (h : (List.range N).map f = qs.filterMap (fun i => L[i]?)) (i : Nat) (hi : i < N) : f i ∈ L := mem_ps qs h _ (List.mem_map.mpr ⟨i, List.mem_range.mpr hi, rfl⟩)
theorem st_p {L : List Cond} {f : Nat × Nat → Cond} (pr : List (Nat × Nat)) (qs : List Nat) (h : pr.map f = qs.filterMap (fun i => L[i]?)) (x : Nat × Nat) (hx : x ∈ pr) : f x ∈ L := mem_ps qs h _ (List.mem_map.mpr ⟨x, hx, rfl⟩)
abbrev zkE : String := "StepperHearts$Kind"
abbrev zkD : String := "LStepperHearts$Kind;"
abbrev zkT (i : Nat) : Term := .static zkE (kNm.getD i "") zkD
/-- where Kind's constants spell their words -/
def zkStr : List Nat := [91, 97, 100, 103, 106, 109, 112, 115, 118, 121, 124, 127, 130, 133, 136]
abbrev zkS (i : Nat) : Term := .string zkE (zkStr.getD i 0)
abbrev zkV (i : Nat) : Term := .field (zkS i) "java/lang/String" "value" "[B"
set_option maxRecDepth 100000 in
theorem st_e1 : ∀ i, i < 15 → (Cond.laysStatic zkE (kNm.getD i "") zkD) ∈ lw_tbl := st_m (N := 15) (f := fun i => Cond.laysStatic zkE (kNm.getD i "") zkD) [1419, 1420, 1421, 1422, 1423, 1424, 1425, 1426, 1427, 1428, 1429, 1430, 725, 1431, 537] rfl
set_option maxRecDepth 100000 in
theorem st_e2 : ∀ i, i < 15 → (Cond.exactly (zkT i) zkE) ∈ nwL := st_m (N := 15) (f := fun i => Cond.exactly (zkT i) zkE) [102, 112, 123, 135, 148, 162, 177, 193, 210, 228, 247, 267, 55, 288, 29] rfl
set_option maxRecDepth 100000 in
theorem st_f0 : ∀ i, i < 15 → (Cond.eq (.field (zkT i) "StepperHearts$Kind" "number" "I") (.int (kNo.getD i 0))) ∈ nwL := st_m (N := 15) (f := fun i => Cond.eq (.field (zkT i) "StepperHearts$Kind" "number" "I") (.int (kNo.getD i 0))) [104, 114, 125, 137, 150, 164, 179, 195, 212, 230, 249, 269, 57, 290, 31] rfl
set_option maxRecDepth 100000 in
theorem st_f1 : ∀ i, i < 15 → (Cond.eq (.field (zkT i) "StepperHearts$Kind" "takes" "I") (.int (kTk.getD i 0))) ∈ nwL := st_m (N := 15) (f := fun i => Cond.eq (.field (zkT i) "StepperHearts$Kind" "takes" "I") (.int (kTk.getD i 0))) [106, 116, 127, 139, 152, 166, 181, 197, 214, 232, 251, 271, 59, 292, 33] rfl
set_option maxRecDepth 100000 in
theorem st_f2 : ∀ i, i < 15 → (Cond.eq (.field (zkT i) "StepperHearts$Kind" "puts" "I") (.int (kPt.getD i 0))) ∈ nwL := st_m (N := 15) (f := fun i => Cond.eq (.field (zkT i) "StepperHearts$Kind" "puts" "I") (.int (kPt.getD i 0))) [107, 117, 128, 140, 153, 167, 182, 198, 215, 233, 252, 272, 60, 293, 34] rfl
set_option maxRecDepth 100000 in
theorem st_f3 : ∀ i, i < 15 → (Cond.eq (.field (zkT i) "StepperHearts$Kind" "work" "I") (.int (kWk.getD i 0))) ∈ nwL := st_m (N := 15) (f := fun i => Cond.eq (.field (zkT i) "StepperHearts$Kind" "work" "I") (.int (kWk.getD i 0))) [108, 118, 129, 141, 154, 168, 183, 199, 216, 234, 253, 273, 61, 294, 35] rfl
set_option maxRecDepth 100000 in
theorem st_f4 : ∀ i, i < 15 → (Cond.eq (.field (zkT i) "StepperHearts$Kind" "operandKind" "I") (.int (kOk.getD i 0))) ∈ nwL := st_m (N := 15) (f := fun i => Cond.eq (.field (zkT i) "StepperHearts$Kind" "operandKind" "I") (.int (kOk.getD i 0))) [109, 119, 130, 142, 155, 169, 184, 200, 217, 235, 254, 274, 62, 295, 36] rfl
set_option maxRecDepth 100000 in
theorem st_f5 : ∀ i, i < 15 → (Cond.eq (.field (zkT i) "java/lang/Enum" "ordinal" "I") (.int (kNo.getD i 0))) ∈ nwL := st_m (N := 15) (f := fun i => Cond.eq (.field (zkT i) "java/lang/Enum" "ordinal" "I") (.int (kNo.getD i 0))) [103, 113, 124, 136, 149, 163, 178, 194, 211, 229, 248, 268, 56, 289, 30] rfl
theorem st_fs : ∀ q ∈ kFl, ∀ i, i < 15 → Cond.eq (.field (zkT i) q.1 q.2.1 q.2.2.1) (.int (q.2.2.2.getD i 0)) ∈ nwL := by
  intro q hq
  simp only [kFl, List.mem_cons, List.not_mem_nil, or_false] at hq
  rcases hq with rfl | rfl | rfl | rfl | rfl | rfl
  · exact st_f0
  · exact st_f1
  · exact st_f2
  · exact st_f3
  · exact st_f4
  · exact st_f5
def zkPr : List (Nat × Nat) := [(0, 1), (0, 2), (0, 3), (0, 4), (0, 5), (0, 6), (0, 7), (0, 8), (0, 9), (0, 10), (0, 11), (0, 13), (1, 2), (1, 3), (1, 4), (1, 5), (1, 6), (1, 7), (1, 8), (1, 9), (1, 10), (1, 11), (1, 13), (2, 3), (2, 4), (2, 5), (2, 6), (2, 7), (2, 8), (2, 9), (2, 10), (2, 11), (2, 13), (3, 4), (3, 5), (3, 6), (3, 7), (3, 8), (3, 9), (3, 10), (3, 11), (3, 13), (4, 5), (4, 6), (4, 7), (4, 8), (4, 9), (4, 10), (4, 11), (4, 13), (5, 6), (5, 7), (5, 8), (5, 9), (5, 10), (5, 11), (5, 13), (6, 7), (6, 8), (6, 9), (6, 10), (6, 11), (6, 13), (7, 8), (7, 9), (7, 10), (7, 11), (7, 13), (8, 9), (8, 10), (8, 11), (8, 13), (9, 10), (9, 11), (9, 13), (10, 11), (10, 13), (11, 13), (12, 0), (12, 1), (12, 2), (12, 3), (12, 4), (12, 5), (12, 6), (12, 7), (12, 8), (12, 9), (12, 10), (12, 11), (12, 13), (14, 0), (14, 1), (14, 2), (14, 3), (14, 4), (14, 5), (14, 6), (14, 7), (14, 8), (14, 9), (14, 10), (14, 11), (14, 12), (14, 13)]
set_option maxRecDepth 100000 in
theorem st_d : ∀ x ∈ zkPr, Cond.not (.eq (zkT x.1) (zkT x.2)) ∈ nwL := st_p (f := fun x => Cond.not (.eq (zkT x.1) (zkT x.2))) zkPr [122, 133, 145, 158, 172, 187, 203, 220, 238, 257, 277, 298, 134, 146, 159, 173, 188, 204, 221, 239, 258, 278, 299, 147, 160, 174, 189, 205, 222, 240, 259, 279, 300, 161, 175, 190, 206, 223, 241, 260, 280, 301, 176, 191, 207, 224, 242, 261, 281, 302, 192, 208, 225, 243, 262, 282, 303, 209, 226, 244, 263, 283, 304, 227, 245, 264, 284, 305, 246, 265, 285, 306, 266, 286, 307, 287, 308, 309, 111, 121, 132, 144, 157, 171, 186, 202, 219, 237, 256, 276, 297, 110, 120, 131, 143, 156, 170, 185, 201, 218, 236, 255, 275, 63, 296] rfl
theorem st_dd0 : ∀ i, i < 15 → ∀ j, j < 15 → ((i == j) || zkPr.any (fun q => q.1 == i && q.2 == j) || zkPr.any (fun q => q.1 == j && q.2 == i)) = true := by decide +kernel
theorem st_any {i j : Nat} (h : (zkPr.any (fun q => q.1 == i && q.2 == j)) = true) : (i, j) ∈ zkPr := by
  obtain ⟨q, hq, h2⟩ := List.any_eq_true.mp h
  simp only [Bool.and_eq_true, beq_iff_eq] at h2
  have e : q = (i, j) := Prod.ext h2.1 h2.2
  rw [← e]
  exact hq
theorem st_dd : ∀ i, i < 15 → ∀ j, j < 15 → i ≠ j → (i, j) ∈ zkPr ∨ (j, i) ∈ zkPr := fun i hi j hj hij => by
  have h := st_dd0 i hi j hj
  simp only [Bool.or_eq_true, beq_iff_eq] at h
  rcases h with (h | h) | h
  · exact absurd h hij
  · exact Or.inl (st_any h)
  · exact Or.inr (st_any h)
set_option maxRecDepth 100000 in
theorem st_w : ∀ i, i < 15 → (Cond.eq (.field (zkT i) zkE "word" "Ljava/lang/String;") (zkS i)) ∈ nwL := st_m (N := 15) (f := fun i => Cond.eq (.field (zkT i) zkE "word" "Ljava/lang/String;") (zkS i)) [105, 115, 126, 138, 151, 165, 180, 196, 213, 231, 250, 270, 58, 291, 32] rfl
set_option maxRecDepth 100000 in
theorem st_s1 : ∀ i, i < 15 → (Cond.exactly (zkS i) "java/lang/String") ∈ nwL := st_m (N := 15) (f := fun i => Cond.exactly (zkS i) "java/lang/String") [512, 521, 530, 538, 547, 556, 564, 572, 580, 589, 597, 605, 503, 614, 494] rfl
set_option maxRecDepth 100000 in
theorem st_s2 : ∀ i, i < 15 → (Cond.eq (.field (zkS i) "java/lang/String" "coder" "B") (.int 0)) ∈ nwL := st_m (N := 15) (f := fun i => Cond.eq (.field (zkS i) "java/lang/String" "coder" "B") (.int 0)) [513, 522, 531, 539, 548, 557, 565, 573, 581, 590, 598, 606, 504, 615, 495] rfl
set_option maxRecDepth 100000 in
theorem st_s3 : ∀ i, i < 15 → (Cond.arrayOf (zkV i) .byte) ∈ nwL := st_m (N := 15) (f := fun i => Cond.arrayOf (zkV i) .byte) [514, 523, 532, 540, 549, 558, 566, 574, 582, 591, 599, 607, 505, 616, 496] rfl
set_option maxRecDepth 100000 in
theorem st_s4 : ∀ i, i < 15 → (Cond.eq (.length (zkV i)) (.int (Int32.ofNat (kLen.getD i 0)))) ∈ nwL := st_m (N := 15) (f := fun i => Cond.eq (.length (zkV i)) (.int (Int32.ofNat (kLen.getD i 0)))) [515, 524, 533, 541, 550, 559, 567, 575, 583, 592, 600, 608, 506, 617, 497] rfl
def zkEl : List (Nat × Nat) := [(0, 0), (0, 1), (0, 2), (0, 3), (1, 0), (1, 1), (1, 2), (1, 3), (2, 0), (2, 1), (2, 2), (3, 0), (3, 1), (3, 2), (3, 3), (4, 0), (4, 1), (4, 2), (4, 3), (5, 0), (5, 1), (5, 2), (6, 0), (6, 1), (6, 2), (7, 0), (7, 1), (7, 2), (8, 0), (8, 1), (8, 2), (8, 3), (9, 0), (9, 1), (9, 2), (10, 0), (10, 1), (10, 2), (11, 0), (11, 1), (11, 2), (11, 3), (12, 0), (12, 1), (12, 2), (12, 3), (13, 0), (13, 1), (13, 2), (14, 0), (14, 1), (14, 2), (14, 3)]
set_option maxRecDepth 100000 in
theorem st_s5 : ∀ x ∈ zkEl, Cond.eq (.elem (zkV x.1) (.int (Int32.ofNat x.2))) (.int ((kByt.getD x.1 []).getD x.2 0)) ∈ nwL := st_p (f := fun x => Cond.eq (.elem (zkV x.1) (.int (Int32.ofNat x.2))) (.int ((kByt.getD x.1 []).getD x.2 0))) zkEl [516, 517, 518, 519, 525, 526, 527, 528, 534, 535, 536, 542, 543, 544, 545, 551, 552, 553, 554, 560, 561, 562, 568, 569, 570, 576, 577, 578, 584, 585, 586, 587, 593, 594, 595, 601, 602, 603, 609, 610, 611, 612, 507, 508, 509, 510, 618, 619, 620, 498, 499, 500, 501] rfl
theorem st_s6 : ∀ i, i < 15 → ∀ j, j < kLen.getD i 0 → (i, j) ∈ zkEl := by decide +kernel
set_option maxRecDepth 100000 in
theorem st_s7 : ∀ i, i < 15 → (Cond.eq (.string "StepperHeartsModel" (36 + 2 * i)) (zkS i)) ∈ nwL := st_m (N := 15) (f := fun i => Cond.eq (.string "StepperHeartsModel" (36 + 2 * i)) (zkS i)) [520, 529, 537, 546, 555, 563, 571, 579, 588, 596, 604, 613, 511, 621, 502] rfl
set_option maxRecDepth 100000 in
theorem st_s8 : ∀ i, i < 15 → (Cond.stringRef "StepperHeartsModel" (36 + 2 * i) (["push", "drop", "dup", "swap", "over", "add", "sub", "mul", "less", "get", "set", "jump", "zero", "out", "halt"].getD i "")) ∈ lw_tbl := st_m (N := 15) (f := fun i => Cond.stringRef "StepperHeartsModel" (36 + 2 * i) (["push", "drop", "dup", "swap", "over", "add", "sub", "mul", "less", "get", "set", "jump", "zero", "out", "halt"].getD i "")) [999, 1000, 1001, 1002, 1003, 1004, 1005, 1006, 1007, 1008, 1009, 1010, 1011, 1012, 1013] rfl
theorem st_len : ∀ i, i < 15 → kLen.getD i 0 ≤ 4 := by decide +kernel
theorem st_ne : ∀ i, i < 15 → ∀ j, j < 15 → (kLen.getD i 0 = kLen.getD j 0 ∧ ∀ k, k < kLen.getD i 0 → (kByt.getD i []).getD k 0 = (kByt.getD j []).getD k 0) → i = j := by decide +kernel
set_option maxRecDepth 100000 in
theorem st_rk : ∀ i, i < 15 → (Cond.eq (.elem (.static "StepperHearts" "KINDS" "[LStepperHearts$Kind;") (.int (Int32.ofNat i))) (zkT i)) ∈ nwL := st_m (N := 15) (f := fun i => Cond.eq (.elem (.static "StepperHearts" "KINDS" "[LStepperHearts$Kind;") (.int (Int32.ofNat i))) (zkT i)) [9, 10, 11, 12, 13, 14, 15, 16, 17, 18, 19, 20, 21, 22, 23] rfl
set_option maxRecDepth 100000 in
theorem st_rt : ∀ i, i < 15 → (Cond.eq (.elem (.static "StepperHearts$1" "$SwitchMap$StepperHearts$Kind" "[I") (.int (Int32.ofNat i))) (.int (kSw.getD i 0))) ∈ nwL := st_m (N := 15) (f := fun i => Cond.eq (.elem (.static "StepperHearts$1" "$SwitchMap$StepperHearts$Kind" "[I") (.int (Int32.ofNat i))) (.int (kSw.getD i 0))) [40, 41, 42, 43, 44, 45, 46, 47, 48, 49, 50, 51, 52, 53, 54] rfl
set_option maxRecDepth 100000 in
theorem st_ra : ∀ i, i < 15 → (Cond.eq (.elem (.static "StepperHeartsModel" "TAKES" "[I") (.int (Int32.ofNat i))) (.int (kTk.getD i 0))) ∈ nwL := st_m (N := 15) (f := fun i => Cond.eq (.elem (.static "StepperHeartsModel" "TAKES" "[I") (.int (Int32.ofNat i))) (.int (kTk.getD i 0))) [69, 70, 71, 72, 73, 74, 75, 76, 77, 78, 79, 80, 81, 82, 83] rfl
set_option maxRecDepth 100000 in
theorem st_rb : ∀ i, i < 15 → (Cond.eq (.elem (.static "StepperHeartsModel" "PUTS" "[I") (.int (Int32.ofNat i))) (.int (kPt.getD i 0))) ∈ nwL := st_m (N := 15) (f := fun i => Cond.eq (.elem (.static "StepperHeartsModel" "PUTS" "[I") (.int (Int32.ofNat i))) (.int (kPt.getD i 0))) [87, 88, 89, 90, 91, 92, 93, 94, 95, 96, 97, 98, 99, 100, 101] rfl
abbrev zstA (s : State) : Nat → Prop := fun q => s.heap.size ≤ q
theorem st_hA {s : State} : ∀ a : Nat, a < s.heap.size → ¬ zstA s a := fun _ h1 h2 => Nat.not_lt.mpr h2 h1
section START
variable {s : State} {b : Nat}
theorem st_K (hts : ∀ w ∈ lw_tbl, w.before #[Value.ref b] s = true) : ∃ (D : va_G) (cid : Nat → ClassId), va_K D vwCl [(cid 0, .int), (cid 1, .boolean), (cid 2, .long), (cid 3, .byte), (cid 4, .object "java/lang/String")] s := by
  have h : ∀ c : Nat, ∃ x : ClassId × (Nat → Nat), ∀ q, vwCl[c]? = some q → u_Kn s q.1 q.2.1 q.2.2 x.1 x.2 := by
    intro c
    match c with
    | 0 =>
      obtain ⟨cC, iS, hK⟩ := u_known (C := RX2) (T := TX2) (N := 4) (n := 4) hts inX2 (hts (Cond.instantiable RX2 4) (List.mem_of_getElem? (i := 169) (by decide +kernel)))
      exact ⟨(cC, iS), fun q hq => by cases hq; exact hK⟩
    | 1 =>
      obtain ⟨cC, iS, hK⟩ := u_known (C := RX3) (T := TX3) (N := 2) (n := 2) hts inX3 (hts (Cond.instantiable RX3 2) (List.mem_of_getElem? (i := 141) (by decide +kernel)))
      exact ⟨(cC, iS), fun q hq => by cases hq; exact hK⟩
    | 2 =>
      obtain ⟨cC, iS, hK⟩ := u_known (C := RX4) (T := TX4) (N := 1) (n := 1) hts inX4 (hts (Cond.instantiable RX4 1) (List.mem_of_getElem? (i := 188) (by decide +kernel)))
      exact ⟨(cC, iS), fun q hq => by cases hq; exact hK⟩
    | 3 =>
      obtain ⟨cC, iS, hK⟩ := u_known (C := RX6) (T := TX6) (N := 17) (n := 17) hts inX6 (hts (Cond.instantiable RX6 17) (List.mem_of_getElem? (i := 229) (by decide +kernel)))
      exact ⟨(cC, iS), fun q hq => by cases hq; exact hK⟩
    | 4 =>
      obtain ⟨cC, iS, hK⟩ := u_known (C := RX7) (T := TX7) (N := 1) (n := 1) hts inX7 (hts (Cond.instantiable RX7 1) (List.mem_of_getElem? (i := 156) (by decide +kernel)))
      exact ⟨(cC, iS), fun q hq => by cases hq; exact hK⟩
    | 5 =>
      obtain ⟨cC, iS, hK⟩ := u_known (C := RX8) (T := TX8) (N := 4) (n := 4) hts inX8 (hts (Cond.instantiable RX8 4) (List.mem_of_getElem? (i := 302) (by decide +kernel)))
      exact ⟨(cC, iS), fun q hq => by cases hq; exact hK⟩
    | 6 =>
      obtain ⟨cC, iS, hK⟩ := u_known (C := RX9) (T := TX9) (N := 13) (n := 13) hts inX9 (hts (Cond.instantiable RX9 13) (List.mem_of_getElem? (i := 93) (by decide +kernel)))
      exact ⟨(cC, iS), fun q hq => by cases hq; exact hK⟩
    | 7 =>
      obtain ⟨cC, iS, hK⟩ := u_known (C := RX10) (T := TX10) (N := 8) (n := 8) hts inX10 (hts (Cond.instantiable RX10 8) (List.mem_of_getElem? (i := 198) (by decide +kernel)))
      exact ⟨(cC, iS), fun q hq => by cases hq; exact hK⟩
    | 8 =>
      obtain ⟨cC, iS, hK⟩ := u_known (C := RX11) (T := TX11) (N := 17) (n := 17) hts inX11 (hts (Cond.instantiable RX11 17) (List.mem_of_getElem? (i := 85) (by decide +kernel)))
      exact ⟨(cC, iS), fun q hq => by cases hq; exact hK⟩
    | 9 =>
      obtain ⟨cC, iS, hK⟩ := u_known (C := RX12) (T := TX12) (N := 9) (n := 9) hts inX12 (hts (Cond.instantiable RX12 9) (List.mem_of_getElem? (i := 926) (by decide +kernel)))
      exact ⟨(cC, iS), fun q hq => by cases hq; exact hK⟩
    | 10 =>
      obtain ⟨cC, iS, hK⟩ := u_known (C := RX13) (T := TX13) (N := 8) (n := 8) hts inX13 (hts (Cond.instantiable RX13 8) (List.mem_of_getElem? (i := 969) (by decide +kernel)))
      exact ⟨(cC, iS), fun q hq => by cases hq; exact hK⟩
    | 11 =>
      obtain ⟨cC, iS, hK⟩ := u_known (C := RX14) (T := TX14) (N := 55) (n := 55) hts inX14 (hts (Cond.instantiable RX14 55) (List.mem_of_getElem? (i := 920) (by decide +kernel)))
      exact ⟨(cC, iS), fun q hq => by cases hq; exact hK⟩
    | k + 12 => exact ⟨(0, fun _ => 0), fun q hq => by rw [List.getElem?_eq_none (show vwCl.length ≤ k + 12 from Nat.le_add_left 12 k)] at hq; cases hq⟩
  obtain ⟨f, hf⟩ := Classical.axiomOfChoice h
  obtain ⟨c0, k0, m0, a0, b0, e0⟩ := Cond.arrayClass_spec (hts (Cond.arrayClass .int) (List.mem_of_getElem? (i := 139) (by decide +kernel)))
  obtain ⟨c1, k1, m1, a1, b1, e1⟩ := Cond.arrayClass_spec (hts (Cond.arrayClass .boolean) (List.mem_of_getElem? (i := 154) (by decide +kernel)))
  obtain ⟨c2, k2, m2, a2, b2, e2⟩ := Cond.arrayClass_spec (hts (Cond.arrayClass .long) (List.mem_of_getElem? (i := 967) (by decide +kernel)))
  obtain ⟨c3, k3, m3, a3, b3, e3⟩ := Cond.arrayClass_spec (hts (Cond.arrayClass .byte) (List.mem_of_getElem? (i := 910) (by decide +kernel)))
  obtain ⟨m4, c4, k4, a4, d4, b4, e4, g4⟩ := Cond.arrayOver_spec (hts (Cond.arrayOver (.object "java/lang/String")) (List.mem_of_getElem? (i := 998) (by decide +kernel)))
  refine ⟨(fun c => (f c).1, fun c => (f c).2), fun k => match k with | 0 => c0 | 1 => c1 | 2 => c2 | 3 => c3 | _ => c4, ⟨fun c q hq => hf c q hq, fun k q hk => ?_⟩⟩
  match k, hk with
  | 0, hk =>
    cases hk
    exact ⟨fun n z => ⟨fun k h => (by cases h), k0, b0, m0, e0⟩, a0⟩
  | 1, hk =>
    cases hk
    exact ⟨fun n z => ⟨fun k h => (by cases h), k1, b1, m1, e1⟩, a1⟩
  | 2, hk =>
    cases hk
    exact ⟨fun n z => ⟨fun k h => (by cases h), k2, b2, m2, e2⟩, a2⟩
  | 3, hk =>
    cases hk
    exact ⟨fun n z => ⟨fun k h => (by cases h), k3, b3, m3, e3⟩, a3⟩
  | 4, hk =>
    cases hk
    exact ⟨fun n z => ⟨fun k h => (by cases h), k4, b4, m4, e4⟩, k4, m4, b4, e4, a4, g4⟩
  | k + 5, hk =>
    rw [List.getElem?_eq_none (by exact Nat.le_add_left 5 k)] at hk
    cases hk

theorem st_En (hts : ∀ w ∈ lw_tbl, w.before #[Value.ref b] s = true) (hs : ∀ w ∈ nwL, w.before #[Value.ref b] s = true) : ∃ ad : Nat → Nat, va_En zkE zkD kNm kFl ad (zstA s) s s.heap ∧ ∀ i, i < kNm.length → (zkT i).eval #[Value.ref b] s none [] s = some (.ref (ad i)) :=
  va_Enof2 (fun i hi => hts _ (st_e1 i hi)) (hts (Cond.initialized "StepperHearts$Kind") (List.mem_of_getElem? (i := 80) (by decide +kernel))) (fun i hi => hs _ (st_e2 i hi)) (fun q hq i hi => hs _ (st_fs q hq i hi))
    (fun i j hi hj hij => (st_dd i hi j hj hij).elim (fun h => Or.inl (hs _ (st_d _ h))) (fun h => Or.inr (hs _ (st_d _ h)))) st_hA
theorem st_one {P : Nat → Prop} (h : P 0) : ∀ i, i < 1 → P i := fun i hi => by
  have e : i = 0 := by omega
  rw [e]
  exact h
/-- the words' strings -/
theorem st_St (hts : ∀ w ∈ lw_tbl, w.before #[Value.ref b] s = true) (hs : ∀ w ∈ nwL, w.before #[Value.ref b] s = true) : ∃ n v : Nat → Nat, ∀ i, i < 15 → (va_O "java/lang/String" (n i) (zstA s) s s.heap ∧ va_OF "java/lang/String" "coder" "B" (.int 0) (n i) (zstA s) s s.heap ∧ va_OF "java/lang/String" "value" "[B" (.ref (v i)) (n i) (zstA s) s s.heap ∧ va_T .byte (v i) (kLen.getD i 0) (fun j => .int ((kByt.getD i []).getD j 0)) (zstA s) s s.heap) ∧ (zkS i).eval #[Value.ref b] s none [] s = some (.ref (n i)) := by
  have h0 : ∀ i : Nat, ∃ q : Nat × Nat, i < 15 → (va_O "java/lang/String" q.1 (zstA s) s s.heap ∧ va_OF "java/lang/String" "coder" "B" (.int 0) q.1 (zstA s) s s.heap ∧ va_OF "java/lang/String" "value" "[B" (.ref q.2) q.1 (zstA s) s s.heap ∧ va_T .byte q.2 (kLen.getD i 0) (fun j => .int ((kByt.getD i []).getD j 0)) (zstA s) s s.heap) ∧ (zkS i).eval #[Value.ref b] s none [] s = some (.ref q.1) := by
    intro i
    by_cases hi : i < 15
    · have hl := st_len i hi
      obtain ⟨aK, aV, h1, h2⟩ := vk_Sof (args := #[Value.ref b]) (s := s) (N := 1) (tm := fun _ => zkS i) (len := [kLen.getD i 0]) (byt := [kByt.getD i []]) (A := zstA s) (st_one (show kLen.getD i 0 < 2 ^ 31 by omega)) (fun _ _ => hs _ (st_s1 i hi)) (fun _ _ => hs _ (st_s2 i hi)) (fun _ _ => hs _ (st_s3 i hi)) (st_one (hs _ (st_s4 i hi))) (st_one (P := fun k => ∀ j : Nat, j < [kLen.getD i 0].getD k 0 → (Cond.eq (.elem (zkV i) (.int (Int32.ofNat j))) (.int (([kByt.getD i []].getD k []).getD j 0))).before #[Value.ref b] s = true) (fun j hj => hs _ (st_s5 (i, j) (st_s6 i hi j hj)))) (fun x y hx hy hxy => absurd (show x = y by omega) hxy) st_hA
      exact ⟨(aK 0, aV 0), fun _ => ⟨h1.1 0 Nat.zero_lt_one, h2 0 Nat.zero_lt_one⟩⟩
    · exact ⟨(0, 0), fun h => absurd h hi⟩
  obtain ⟨ad, had⟩ := Classical.axiomOfChoice h0
  exact ⟨fun i => (ad i).1, fun i => (ad i).2, had⟩
theorem st_nI {a c : Nat} (ha : a < 2 ^ 31) (hc : c < 2 ^ 31) (h : Int32.ofNat a = Int32.ofNat c) : a = c := by
  have h1 := nI_toInt ha
  have h2 := nI_toInt hc
  have h3 : (nI a).toInt = (nI c).toInt := congrArg Int32.toInt h
  omega
theorem st_in {n v : Nat → Nat} (h : ∀ i, i < 15 → va_OF "java/lang/String" "value" "[B" (.ref (v i)) (n i) (zstA s) s s.heap ∧ va_T .byte (v i) (kLen.getD i 0) (fun j => .int ((kByt.getD i []).getD j 0)) (zstA s) s s.heap) : ∀ i j : Nat, i < 15 → j < 15 → n i = n j → i = j := by
  intro i j hi hj e
  obtain ⟨⟨cf, k, fi, f, cell, p1, -, p3, -, p5, -⟩, ⟨q, q1, -, -, q4, q5, q6, -⟩⟩ := h i hi
  obtain ⟨⟨cf', k', fi', f', cell', r1, -, r3, -, r5, -⟩, ⟨u, u1, -, -, u4, u5, u6, -⟩⟩ := h j hj
  have e1 := p1.symm.trans r1
  simp only [Option.some.injEq, Prod.mk.injEq] at e1
  obtain ⟨-, -, -, rfl⟩ := e1
  rw [e] at p3
  have e2 : cell = cell' := Option.some.inj (p3.symm.trans r3)
  subst e2
  have e3 := Option.some.inj (p5.symm.trans r5)
  have e4 : v i = v j := Value.ref.inj e3
  rw [e4] at q1
  have e5 : q = u := Option.some.inj (q1.symm.trans u1)
  subst e5
  have li := st_len i hi
  have lj := st_len j hj
  have e6 : kLen.getD i 0 = kLen.getD j 0 := st_nI (by omega) (by omega) (q5.symm.trans u5)
  refine st_ne i hi j hj ⟨e6, fun x hx => ?_⟩
  have e7 := Option.some.inj ((q6 x hx).symm.trans (u6 x (by omega)))
  exact Value.int.inj e7
/-- the addresses, in one row -/
def mkAd (e n v : Nat → Nat) (k t a c x y : Nat) : Nat → Nat := fun i => if i < 15 then e i else if i < 20 then (if i = 15 then k else if i = 16 then t else if i = 17 then a else c) else if i < 40 then n (i - 20) else if i < 60 then v (i - 40) else if i = 60 then x else y
theorem mk_e {e n v : Nat → Nat} {k t a c x y i : Nat} (hi : i < 15) : mkAd e n v k t a c x y i = e i := if_pos hi
theorem mk_n {e n v : Nat → Nat} {k t a c x y i : Nat} (hi : i < 15) : mkAd e n v k t a c x y (20 + i) = n i := by
  unfold mkAd
  rw [if_neg (by omega), if_neg (by omega), if_pos (by omega), Nat.add_sub_cancel_left]
theorem mk_v {e n v : Nat → Nat} {k t a c x y i : Nat} (hi : i < 15) : mkAd e n v k t a c x y (40 + i) = v i := by
  unfold mkAd
  rw [if_neg (by omega), if_neg (by omega), if_neg (by omega), if_pos (by omega), Nat.add_sub_cancel_left]
theorem st_Tc {ty : FieldType} {t N : Nat} {f f' : Nat → Value} {A : Nat → Prop} {U : State} {H : Heap} (h : va_T ty t N f A U H) (hf : ∀ j, j < N → f j = f' j) : va_T ty t N f' A U H := by
  obtain ⟨cell, h1, h2, h3, h4, h5, h6, h7⟩ := h
  exact ⟨cell, h1, h2, h3, h4, h5, fun j hj => by rw [← hf j hj]; exact h6 j hj, h7⟩
theorem st_At (hts : ∀ w ∈ lw_tbl, w.before #[Value.ref b] s = true) (hs : ∀ w ∈ nwL, w.before #[Value.ref b] s = true) : ∃ t : Nat, va_Z "StepperHearts$1" "$SwitchMap$StepperHearts$Kind" "[I" (.ref t) (zstA s) s s.heap ∧ va_T .int t 15 (fun j => .int (kSw.getD j 0)) (zstA s) s s.heap := by
  obtain ⟨t, h1, h2⟩ := va_Tof (args := #[Value.ref b]) (s := s) (tm := (.static "StepperHearts$1" "$SwitchMap$StepperHearts$Kind" "[I" : Term)) (ty := .int) (N := 15) (f := fun j => .int (kSw.getD j 0)) (A := zstA s) (by decide) (hs (Cond.arrayOf (.static "StepperHearts$1" "$SwitchMap$StepperHearts$Kind" "[I" : Term) .int) (List.mem_of_getElem? (i := 38) (by decide +kernel))) (va_eqt (hs (Cond.eq (.length (.static "StepperHearts$1" "$SwitchMap$StepperHearts$Kind" "[I" : Term)) (.int 15)) (List.mem_of_getElem? (i := 39) (by decide +kernel)))) (fun j hj => va_eqt (hs _ (st_rt j hj))) st_hA
  exact ⟨t, va_Zref (hts (Cond.laysStatic "StepperHearts$1" "$SwitchMap$StepperHearts$Kind" "[I") (List.mem_of_getElem? (i := 675) (by decide +kernel))) (hts (Cond.initialized "StepperHearts$1") (List.mem_of_getElem? (i := 82) (by decide +kernel))) h1 st_hA, h2⟩
theorem st_Aa (hts : ∀ w ∈ lw_tbl, w.before #[Value.ref b] s = true) (hs : ∀ w ∈ nwL, w.before #[Value.ref b] s = true) : ∃ t : Nat, va_Z "StepperHeartsModel" "TAKES" "[I" (.ref t) (zstA s) s s.heap ∧ va_T .int t 15 (fun j => .int (kTk.getD j 0)) (zstA s) s s.heap := by
  obtain ⟨t, h1, h2⟩ := va_Tof (args := #[Value.ref b]) (s := s) (tm := (.static "StepperHeartsModel" "TAKES" "[I" : Term)) (ty := .int) (N := 15) (f := fun j => .int (kTk.getD j 0)) (A := zstA s) (by decide) (hs (Cond.arrayOf (.static "StepperHeartsModel" "TAKES" "[I" : Term) .int) (List.mem_of_getElem? (i := 67) (by decide +kernel))) (va_eqt (hs (Cond.eq (.length (.static "StepperHeartsModel" "TAKES" "[I" : Term)) (.int 15)) (List.mem_of_getElem? (i := 68) (by decide +kernel)))) (fun j hj => va_eqt (hs _ (st_ra j hj))) st_hA
  exact ⟨t, va_Zref (hts (Cond.laysStatic "StepperHeartsModel" "TAKES" "[I") (List.mem_of_getElem? (i := 1296) (by decide +kernel))) (hts (Cond.initialized "StepperHeartsModel") (List.mem_of_getElem? (i := 67) (by decide +kernel))) h1 st_hA, h2⟩
theorem st_Ab (hts : ∀ w ∈ lw_tbl, w.before #[Value.ref b] s = true) (hs : ∀ w ∈ nwL, w.before #[Value.ref b] s = true) : ∃ t : Nat, va_Z "StepperHeartsModel" "PUTS" "[I" (.ref t) (zstA s) s s.heap ∧ va_T .int t 15 (fun j => .int (kPt.getD j 0)) (zstA s) s s.heap := by
  obtain ⟨t, h1, h2⟩ := va_Tof (args := #[Value.ref b]) (s := s) (tm := (.static "StepperHeartsModel" "PUTS" "[I" : Term)) (ty := .int) (N := 15) (f := fun j => .int (kPt.getD j 0)) (A := zstA s) (by decide) (hs (Cond.arrayOf (.static "StepperHeartsModel" "PUTS" "[I" : Term) .int) (List.mem_of_getElem? (i := 85) (by decide +kernel))) (va_eqt (hs (Cond.eq (.length (.static "StepperHeartsModel" "PUTS" "[I" : Term)) (.int 15)) (List.mem_of_getElem? (i := 86) (by decide +kernel)))) (fun j hj => va_eqt (hs _ (st_rb j hj))) st_hA
  exact ⟨t, va_Zref (hts (Cond.laysStatic "StepperHeartsModel" "PUTS" "[I") (List.mem_of_getElem? (i := 1298) (by decide +kernel))) (hts (Cond.initialized "StepperHeartsModel") (List.mem_of_getElem? (i := 67) (by decide +kernel))) h1 st_hA, h2⟩
theorem st_Ak (hts : ∀ w ∈ lw_tbl, w.before #[Value.ref b] s = true) (hs : ∀ w ∈ nwL, w.before #[Value.ref b] s = true) {e : Nat → Nat} (he : ∀ i, i < kNm.length → (zkT i).eval #[Value.ref b] s none [] s = some (.ref (e i))) : ∃ t : Nat, va_Z "StepperHearts" "KINDS" "[LStepperHearts$Kind;" (.ref t) (zstA s) s s.heap ∧ va_T (.object "StepperHearts$Kind") t 15 (fun j => .ref (e j)) (zstA s) s s.heap := by
  obtain ⟨t, h1, h2⟩ := va_Tof (args := #[Value.ref b]) (s := s) (tm := (.static "StepperHearts" "KINDS" "[LStepperHearts$Kind;" : Term)) (ty := .object "StepperHearts$Kind") (N := 15) (f := fun j => .ref (e j)) (A := zstA s) (by decide) (hs (Cond.arrayOf (.static "StepperHearts" "KINDS" "[LStepperHearts$Kind;" : Term) (.object "StepperHearts$Kind")) (List.mem_of_getElem? (i := 6) (by decide +kernel))) (va_eqt (hs (Cond.eq (.length (.static "StepperHearts" "KINDS" "[LStepperHearts$Kind;" : Term)) (.int 15)) (List.mem_of_getElem? (i := 7) (by decide +kernel)))) (fun j hj => va_eqv (hs _ (st_rk j hj)) (he j hj)) st_hA
  exact ⟨t, va_Zref (hts (Cond.laysStatic "StepperHearts" "KINDS" "[LStepperHearts$Kind;") (List.mem_of_getElem? (i := 458) (by decide +kernel))) (hts (Cond.initialized "StepperHearts") (List.mem_of_getElem? (i := 57) (by decide +kernel))) h1 st_hA, h2⟩
set_option maxRecDepth 100000 in
theorem st_gNF : ∀ w ∈ gNF.map (fun x => Cond.fieldLinkNest x.1 x.2.1 x.2.2.1 x.2.2.2.1 x.2.2.2.2.1 x.2.2.2.2.2), w ∈ lw_tbl := mem_ps [111, 148, 235, 238, 240, 242, 244, 246, 248, 250, 252, 254, 256, 258, 260, 262, 265, 311, 312, 313, 457, 535, 931, 933, 935, 937, 939, 941, 943, 945, 947, 989, 990] rfl
set_option maxRecDepth 100000 in
theorem st_gNM : ∀ w ∈ gNM.map (fun x => Cond.methodLinkNest x.1 x.2.1 x.2.2.1 x.2.2.2), w ∈ lw_tbl := mem_ps [94, 142, 160, 173, 189, 192, 199, 202, 230, 303, 612, 751, 752, 927] rfl
set_option maxRecDepth 100000 in
theorem st_gND : ∀ w ∈ gND.map (fun x => Cond.declares x), w ∈ lw_tbl := mem_ps [703, 642, 848, 850, 852] rfl
set_option maxRecDepth 100000 in
theorem st_gNC : ∀ w ∈ gNC.map (fun x => Cond.castable x.1 x.2), w ∈ lw_tbl := mem_ps [846, 970] rfl
theorem st_r0 (hts : ∀ w ∈ lw_tbl, w.before #[Value.ref b] s = true) (hs : ∀ w ∈ nwL, w.before #[Value.ref b] s = true) : ∃ x : Nat, vk_R "StepperHearts" 191 "no such out" x s := by
  obtain ⟨a, c, cell, k, q1, -⟩ := Cond.exactly_spec (hs (Cond.exactly (.string "StepperHearts" 191) "java/lang/String") (List.mem_of_getElem? (i := 336) (by decide +kernel)))
  exact ⟨a, vk_R.of (hts (Cond.stringRef "StepperHearts" 191 "no such out") (List.mem_of_getElem? (i := 884) (by decide +kernel))) q1⟩
theorem st_r1 (hts : ∀ w ∈ lw_tbl, w.before #[Value.ref b] s = true) (hs : ∀ w ∈ nwL, w.before #[Value.ref b] s = true) : ∃ x : Nat, vk_R "StepperHearts" 199 "no such number on the pile" x s := by
  obtain ⟨a, c, cell, k, q1, -⟩ := Cond.exactly_spec (hs (Cond.exactly (.string "StepperHearts" 199) "java/lang/String") (List.mem_of_getElem? (i := 351) (by decide +kernel)))
  exact ⟨a, vk_R.of (hts (Cond.stringRef "StepperHearts" 199 "no such number on the pile") (List.mem_of_getElem? (i := 918) (by decide +kernel))) q1⟩
theorem st_r2 (hts : ∀ w ∈ lw_tbl, w.before #[Value.ref b] s = true) (hs : ∀ w ∈ nwL, w.before #[Value.ref b] s = true) {i a : Nat} (hi : i < 15) (ha : (zkS i).eval #[Value.ref b] s none [] s = some (.ref a)) : vk_R "StepperHeartsModel" (36 + 2 * i) (["push", "drop", "dup", "swap", "over", "add", "sub", "mul", "less", "get", "set", "jump", "zero", "out", "halt"].getD i "") a s :=
  vk_R.of (hts _ (st_s8 i hi)) (va_eqv (hs _ (st_s7 i hi)) ha)
theorem st_AO (hts : ∀ w ∈ lw_tbl, w.before #[Value.ref b] s = true) : va_AO "java/lang/String" s := va_AO.of (hts (Cond.arrayOver (.object "java/lang/String")) (List.mem_of_getElem? (i := 998) (by decide +kernel)))
theorem st_Z1 (hts : ∀ w ∈ lw_tbl, w.before #[Value.ref b] s = true) (hs : ∀ w ∈ nwL, w.before #[Value.ref b] s = true) : vx_Zq Bundle.tN "UNASSIGNED_STACK" Bundle.steD (zstA s) s s.heap := (vx_Zqof (hts (Cond.laysStatic Bundle.tN "UNASSIGNED_STACK" Bundle.steD) (List.mem_of_getElem? (i := 871) (by decide +kernel))) (hts (Cond.initialized Bundle.tN) (List.mem_of_getElem? (i := 69) (by decide +kernel))) (hs (Cond.isRef (.static Bundle.tN "UNASSIGNED_STACK" Bundle.steD)) (List.mem_of_getElem? (i := 64) (by decide +kernel))) st_hA)
theorem st_Z2 (hts : ∀ w ∈ lw_tbl, w.before #[Value.ref b] s = true) (hs : ∀ w ∈ nwL, w.before #[Value.ref b] s = true) : vx_Zq Bundle.tN "SUPPRESSED_SENTINEL" Bundle.listD (zstA s) s s.heap := (vx_Zqof (hts (Cond.laysStatic Bundle.tN "SUPPRESSED_SENTINEL" Bundle.listD) (List.mem_of_getElem? (i := 873) (by decide +kernel))) (hts (Cond.initialized Bundle.tN) (List.mem_of_getElem? (i := 69) (by decide +kernel))) (hs (Cond.isRef (.static Bundle.tN "SUPPRESSED_SENTINEL" Bundle.listD)) (List.mem_of_getElem? (i := 65) (by decide +kernel))) st_hA)
theorem st_Z3 (hts : ∀ w ∈ lw_tbl, w.before #[Value.ref b] s = true) (hs : ∀ w ∈ nwL, w.before #[Value.ref b] s = true) : va_Z "java/lang/String" "COMPACT_STRINGS" "Z" (.int 1) (zstA s) s s.heap := va_Zof (hts (Cond.laysStatic "java/lang/String" "COMPACT_STRINGS" "Z") (List.mem_of_getElem? (i := 472) (by decide +kernel))) (hts (Cond.initialized "java/lang/String") (List.mem_of_getElem? (i := 75) (by decide +kernel))) (va_eqt (hs (Cond.eq (.static "java/lang/String" "COMPACT_STRINGS" "Z") (.int 1)) (List.mem_of_getElem? (i := 24) (by decide +kernel)))) st_hA
theorem st_Z4 (hts : ∀ w ∈ lw_tbl, w.before #[Value.ref b] s = true) (hs : ∀ w ∈ nwL, w.before #[Value.ref b] s = true) : va_Zq "jdk/internal/util/Preconditions" "SIOOBE_FORMATTER" "Ljava/util/function/BiFunction;" (zstA s) s s.heap := va_Zqof (hts (Cond.laysStatic "jdk/internal/util/Preconditions" "SIOOBE_FORMATTER" "Ljava/util/function/BiFunction;") (List.mem_of_getElem? (i := 488) (by decide +kernel))) (hts (Cond.initialized "jdk/internal/util/Preconditions") (List.mem_of_getElem? (i := 77) (by decide +kernel))) (hs (Cond.isRef (.static "jdk/internal/util/Preconditions" "SIOOBE_FORMATTER" "Ljava/util/function/BiFunction;")) (List.mem_of_getElem? (i := 25) (by decide +kernel))) st_hA
theorem st_U (hts : ∀ w ∈ lw_tbl, w.before #[Value.ref b] s = true) (hs : ∀ w ∈ nwL, w.before #[Value.ref b] s = true) : ∃ g : gC, gU g s ∧ g.2.2.1 = s.heap.size := by
  obtain ⟨D, cid, hK⟩ := st_K hts
  obtain ⟨e, hE, hev⟩ := st_En hts hs
  obtain ⟨n, v, hn⟩ := st_St hts hs
  obtain ⟨k, hk1, hk2⟩ := st_Ak hts hs hev
  obtain ⟨t, ht1, ht2⟩ := st_At hts hs
  obtain ⟨a, ha1, ha2⟩ := st_Aa hts hs
  obtain ⟨c, hc1, hc2⟩ := st_Ab hts hs
  obtain ⟨x, hx⟩ := st_r0 hts hs
  obtain ⟨y, hy⟩ := st_r1 hts hs
  have hW : va_Ef 15 zkE "word" "Ljava/lang/String;" (fun i => .ref (n i)) e (zstA s) s s.heap := va_Efof (tm := zkS) hev (fun i hi => hs _ (st_w i hi)) (fun i hi => (hn i hi).2) st_hA
  refine ⟨(D, cid, s.heap.size, mkAd e n v k t a c x y), ⟨Nat.le_refl _, hK, ?_, ?_⟩, rfl⟩
  · show gS (D, cid, s.heap.size, mkAd e n v k t a c x y) (zstA s) s s.heap
    refine ⟨⟨fun i hi => ?_, fun i j hi hj h => ?_⟩, fun i hi => ?_, hk1, st_Tc hk2 (fun j hj => ?_), ht1, ht2, ha1, ha2, hc1, hc2, ⟨fun i hi => ?_, fun i j hi hj h => ?_⟩, st_Z1 hts hs, st_Z2 hts hs, st_Z3 hts hs, st_Z4 hts hs⟩
    · show va_Z zkE (kNm.getD i "") zkD (.ref (mkAd e n v k t a c x y i)) (zstA s) s s.heap ∧ va_O zkE (mkAd e n v k t a c x y i) (zstA s) s s.heap ∧ ∀ q ∈ kFl, va_OF q.1 q.2.1 q.2.2.1 (.int (q.2.2.2.getD i 0)) (mkAd e n v k t a c x y i) (zstA s) s s.heap
      rw [mk_e (show i < 15 from hi)]
      exact hE.1 i hi
    · have h' : mkAd e n v k t a c x y i = mkAd e n v k t a c x y j := h
      rw [mk_e (show i < 15 from hi), mk_e (show j < 15 from hj)] at h'
      exact hE.2 i j hi hj h'
    · show va_OF zkE "word" "Ljava/lang/String;" (.ref (mkAd e n v k t a c x y (20 + i))) (mkAd e n v k t a c x y i) (zstA s) s s.heap
      rw [mk_e hi, mk_n hi]
      exact hW i hi
    · show Value.ref (e j) = .ref (mkAd e n v k t a c x y j)
      rw [mk_e hj]
    · show va_O "java/lang/String" (mkAd e n v k t a c x y (20 + i)) (zstA s) s s.heap ∧ va_OF "java/lang/String" "coder" "B" (.int 0) (mkAd e n v k t a c x y (20 + i)) (zstA s) s s.heap ∧ va_OF "java/lang/String" "value" "[B" (.ref (mkAd e n v k t a c x y (40 + i))) (mkAd e n v k t a c x y (20 + i)) (zstA s) s s.heap ∧ va_T .byte (mkAd e n v k t a c x y (40 + i)) (kLen.getD i 0) (fun j => .int ((kByt.getD i []).getD j 0)) (zstA s) s s.heap
      rw [mk_n hi, mk_v hi]
      exact (hn i hi).1
    · have h' : mkAd e n v k t a c x y (20 + i) = mkAd e n v k t a c x y (20 + j) := h
      rw [mk_n hi, mk_n hj] at h'
      exact st_in (fun i hi => ⟨(hn i hi).1.2.2.1, (hn i hi).1.2.2.2⟩) i j hi hj h'
  · refine ⟨fun x hx => va_Nw.of rfl (hts _ (st_gND _ (List.mem_map_of_mem hx))), fun x hx => va_Nw.of rfl (hts _ (st_gNF _ (List.mem_map_of_mem hx))), fun x hx => va_Nw.of rfl (hts _ (st_gNM _ (List.mem_map_of_mem hx))), ?_, fun x hx => va_Nw.of rfl (hts _ (st_gNC _ (List.mem_map_of_mem hx)))⟩
    intro z hz
    show vk_R z.1 z.2.1 z.2.2.1 (mkAd e n v k t a c x y z.2.2.2) s
    simp only [gKR, List.mem_cons, List.not_mem_nil, or_false] at hz
    rcases hz with rfl | rfl | rfl | rfl | rfl | rfl | rfl | rfl | rfl | rfl | rfl | rfl | rfl | rfl | rfl | rfl | rfl
    · exact hx
    · exact hy
    · exact st_r2 (i := 0) hts hs (by decide) (hn 0 (by decide)).2
    · exact st_r2 (i := 1) hts hs (by decide) (hn 1 (by decide)).2
    · exact st_r2 (i := 2) hts hs (by decide) (hn 2 (by decide)).2
    · exact st_r2 (i := 3) hts hs (by decide) (hn 3 (by decide)).2
    · exact st_r2 (i := 4) hts hs (by decide) (hn 4 (by decide)).2
    · exact st_r2 (i := 5) hts hs (by decide) (hn 5 (by decide)).2
    · exact st_r2 (i := 6) hts hs (by decide) (hn 6 (by decide)).2
    · exact st_r2 (i := 7) hts hs (by decide) (hn 7 (by decide)).2
    · exact st_r2 (i := 8) hts hs (by decide) (hn 8 (by decide)).2
    · exact st_r2 (i := 9) hts hs (by decide) (hn 9 (by decide)).2
    · exact st_r2 (i := 10) hts hs (by decide) (hn 10 (by decide)).2
    · exact st_r2 (i := 11) hts hs (by decide) (hn 11 (by decide)).2
    · exact st_r2 (i := 12) hts hs (by decide) (hn 12 (by decide)).2
    · exact st_r2 (i := 13) hts hs (by decide) (hn 13 (by decide)).2
    · exact st_r2 (i := 14) hts hs (by decide) (hn 14 (by decide)).2
end START
