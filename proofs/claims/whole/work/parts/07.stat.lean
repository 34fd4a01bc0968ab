/-! ===== the statics (written by wip/whole/gen/mkstat.py) ===== -/
def kT (k : Nat) : Nat := [0, 1, 1, 2, 2, 2, 2, 2, 2, 0, 1, 0, 1, 1, 0].getD k 0
def kP (k : Nat) : Nat := [1, 0, 2, 2, 3, 1, 1, 1, 1, 1, 0, 0, 0, 0, 0].getD k 0
def kW (k : Nat) : Nat := [1, 1, 1, 1, 1, 1, 1, 3, 1, 1, 1, 1, 1, 1, 1].getD k 0
def kO (k : Nat) : Nat := [1, 0, 0, 0, 0, 0, 0, 0, 0, 2, 2, 3, 3, 0, 0].getD k 0
def kS (k : Nat) : Nat := [1, 0, 8, 9, 10, 11, 12, 13, 14, 2, 3, 5, 6, 4, 7].getD k 0
def kId (k : Nat) : Nat := k
theorem kT_ok : ∀ i, i < 15 → kTk.getD i 0 = nI (kT i) := by decide +kernel
theorem kP_ok : ∀ i, i < 15 → kPt.getD i 0 = nI (kP i) := by decide +kernel
theorem kW_ok : ∀ i, i < 15 → kWk.getD i 0 = nI (kW i) := by decide +kernel
theorem kO_ok : ∀ i, i < 15 → kOk.getD i 0 = nI (kO i) := by decide +kernel
theorem kN_ok : ∀ i, i < 15 → kNo.getD i 0 = nI (kId i) := by decide +kernel
theorem kS_ok : ∀ i, i < 15 → kSw.getD i 0 = nI (kS i) := by decide +kernel
theorem kT_lt : ∀ i, kT i ≤ 2 := by
  intro i
  rcases Nat.lt_or_ge i 15 with h | h
  · revert i; decide
  · unfold kT; rw [List.getD_eq_getElem?_getD, List.getElem?_eq_none (by simpa using h)]; decide
theorem kP_lt : ∀ i, kP i ≤ 3 := by
  intro i
  rcases Nat.lt_or_ge i 15 with h | h
  · revert i; decide
  · unfold kP; rw [List.getD_eq_getElem?_getD, List.getElem?_eq_none (by simpa using h)]; decide
theorem kW_lt : ∀ i, kW i ≤ 3 := by
  intro i
  rcases Nat.lt_or_ge i 15 with h | h
  · revert i; decide
  · unfold kW; rw [List.getD_eq_getElem?_getD, List.getElem?_eq_none (by simpa using h)]; decide
section GSTAT
variable {p : Program} {l : Launch} {e : Env} {R : Room} {s : State} {m : MethodId} {args : Array Value} {below : List Frame} {meth : Method} {c : Code} {H : Heap} {locs : List Loc} {cells slots : Nat} {Q : State → Prop}
variable {ws : List Cond} {y : MethodName} {cc : ByteArray} {maxL : Nat} {ret : Option FieldType} {pc : Nat} {ls : Array Slot} {rest : List Value} {g : gC} {w : va_W} {a : Nat}
theorem gsKinds {index : Nat} (F : gF p s m meth c args ws y cc maxL ret) (hG : gU g s) (hS : va_S (gA g) s.heap H locs) (hlink : Cond.fieldLink y.cls index "StepperHearts" "KINDS" "[LStepperHearts$Kind;" ∈ ws) (hd : decode cc pc = .ok (.getstatic index, 3)) (kk : W p l e R s m args below meth c H locs cells slots Q (F0 m (pc + 3) ls (.ref (g.2.2.2 15) :: rest))) : W p l e R s m args below meth c H locs cells slots Q (F0 m pc ls (rest)) :=
  va_gets F.1 F.2.1 hG.2.2.1.2.2.1 hS F.2.2.2.2.2.1 (F.2.2.2.2.1 _ hlink) (fun _ h => h) hd kk
theorem gsKindsN {index : Nat} (F : gF p s m meth c args ws y cc maxL ret) (hG : gU g s) (hS : va_S (gA g) s.heap H locs) {host : String} (hlink : (y.cls, index, "StepperHearts", "KINDS", "[LStepperHearts$Kind;", host) ∈ gNF) (hd : decode cc pc = .ok (.getstatic index, 3)) (kk : W p l e R s m args below meth c H locs cells slots Q (F0 m (pc + 3) ls (.ref (g.2.2.2 15) :: rest))) : W p l e R s m args below meth c H locs cells slots Q (F0 m pc ls (rest)) :=
  va_getsN F.1 F.2.1 hG.2.2.1.2.2.1 hS F.2.2.2.2.2.1 (va_Nw.use rfl (hG.2.2.2.2.1 _ hlink)) (fun _ h => h) hd kk
theorem gsSwitch {index : Nat} (F : gF p s m meth c args ws y cc maxL ret) (hG : gU g s) (hS : va_S (gA g) s.heap H locs) (hlink : Cond.fieldLink y.cls index "StepperHearts$1" "$SwitchMap$StepperHearts$Kind" "[I" ∈ ws) (hd : decode cc pc = .ok (.getstatic index, 3)) (kk : W p l e R s m args below meth c H locs cells slots Q (F0 m (pc + 3) ls (.ref (g.2.2.2 16) :: rest))) : W p l e R s m args below meth c H locs cells slots Q (F0 m pc ls (rest)) :=
  va_gets F.1 F.2.1 hG.2.2.1.2.2.2.2.1 hS F.2.2.2.2.2.1 (F.2.2.2.2.1 _ hlink) (fun _ h => h) hd kk
theorem gsTakes {index : Nat} (F : gF p s m meth c args ws y cc maxL ret) (hG : gU g s) (hS : va_S (gA g) s.heap H locs) (hlink : Cond.fieldLink y.cls index "StepperHeartsModel" "TAKES" "[I" ∈ ws) (hd : decode cc pc = .ok (.getstatic index, 3)) (kk : W p l e R s m args below meth c H locs cells slots Q (F0 m (pc + 3) ls (.ref (g.2.2.2 17) :: rest))) : W p l e R s m args below meth c H locs cells slots Q (F0 m pc ls (rest)) :=
  va_gets F.1 F.2.1 hG.2.2.1.2.2.2.2.2.2.1 hS F.2.2.2.2.2.1 (F.2.2.2.2.1 _ hlink) (fun _ h => h) hd kk
theorem gsPuts {index : Nat} (F : gF p s m meth c args ws y cc maxL ret) (hG : gU g s) (hS : va_S (gA g) s.heap H locs) (hlink : Cond.fieldLink y.cls index "StepperHeartsModel" "PUTS" "[I" ∈ ws) (hd : decode cc pc = .ok (.getstatic index, 3)) (kk : W p l e R s m args below meth c H locs cells slots Q (F0 m (pc + 3) ls (.ref (g.2.2.2 18) :: rest))) : W p l e R s m args below meth c H locs cells slots Q (F0 m pc ls (rest)) :=
  va_gets F.1 F.2.1 hG.2.2.1.2.2.2.2.2.2.2.2.1 hS F.2.2.2.2.2.1 (F.2.2.2.2.1 _ hlink) (fun _ h => h) hd kk
theorem gsCompact {index : Nat} (F : gF p s m meth c args ws y cc maxL ret) (hG : gU g s) (hS : va_S (gA g) s.heap H locs) (hlink : Cond.fieldLink y.cls index "java/lang/String" "COMPACT_STRINGS" "Z" ∈ ws) (hd : decode cc pc = .ok (.getstatic index, 3)) (kk : W p l e R s m args below meth c H locs cells slots Q (F0 m (pc + 3) ls (.int (nI 1) :: rest))) : W p l e R s m args below meth c H locs cells slots Q (F0 m pc ls (rest)) :=
  va_gets F.1 F.2.1 hG.2.2.1.2.2.2.2.2.2.2.2.2.2.2.2.2.1 hS F.2.2.2.2.2.1 (F.2.2.2.2.1 _ hlink) (fun _ h => h) hd kk
theorem gsHalt {index : Nat} (F : gF p s m meth c args ws y cc maxL ret) (hG : gU g s) (hS : va_S (gA g) s.heap H locs) (hlink : Cond.fieldLink y.cls index "StepperHearts$Kind" "HALT" "LStepperHearts$Kind;" ∈ ws) (hd : decode cc pc = .ok (.getstatic index, 3)) (kk : W p l e R s m args below meth c H locs cells slots Q (F0 m (pc + 3) ls (.ref (g.2.2.2 14) :: rest))) : W p l e R s m args below meth c H locs cells slots Q (F0 m pc ls (rest)) :=
  va_gets F.1 F.2.1 (hG.2.2.1.1.1 14 (by decide)).1 hS F.2.2.2.2.2.1 (F.2.2.2.2.1 _ hlink) (fun _ h => h) hd kk
theorem gsZero {index : Nat} (F : gF p s m meth c args ws y cc maxL ret) (hG : gU g s) (hS : va_S (gA g) s.heap H locs) (hlink : Cond.fieldLink y.cls index "StepperHearts$Kind" "ZERO" "LStepperHearts$Kind;" ∈ ws) (hd : decode cc pc = .ok (.getstatic index, 3)) (kk : W p l e R s m args below meth c H locs cells slots Q (F0 m (pc + 3) ls (.ref (g.2.2.2 12) :: rest))) : W p l e R s m args below meth c H locs cells slots Q (F0 m pc ls (rest)) :=
  va_gets F.1 F.2.1 (hG.2.2.1.1.1 12 (by decide)).1 hS F.2.2.2.2.2.1 (F.2.2.2.2.1 _ hlink) (fun _ h => h) hd kk
theorem gLdKind {i : Nat} (F : gF p s m meth c args ws y cc maxL ret) (hG : gU g s) (hS : va_S (gA g) s.heap H locs) (hi : i < 15) (hd : decode cc pc = .ok (.aaload, 1)) (kk : W p l e R s m args below meth c H locs cells slots Q (F0 m (pc + 1) ls (.ref (g.2.2.2 i) :: rest))) : W p l e R s m args below meth c H locs cells slots Q (F0 m pc ls (.int (nI i) :: .ref (g.2.2.2 15) :: rest)) :=
  vb_tq F.1 F.2.1 hG.2.2.1.2.2.2.1 hS (vp_in_nI hi (by decide)) (by rw [nI_clamp (by omega)]) hd kk
theorem gLenKinds  (F : gF p s m meth c args ws y cc maxL ret) (hG : gU g s) (hS : va_S (gA g) s.heap H locs) (hd : decode cc pc = .ok (.arraylength, 1)) (kk : W p l e R s m args below meth c H locs cells slots Q (F0 m (pc + 1) ls (.int (nI 15) :: rest))) : W p l e R s m args below meth c H locs cells slots Q (F0 m pc ls (.ref (g.2.2.2 15) :: rest)) :=
  va_tlen F.1 F.2.1 hG.2.2.1.2.2.2.1 hS rfl hd kk
theorem gLdSwitch {i : Nat} (F : gF p s m meth c args ws y cc maxL ret) (hG : gU g s) (hS : va_S (gA g) s.heap H locs) (hi : i < 15) (hd : decode cc pc = .ok (.iaload, 1)) (kk : W p l e R s m args below meth c H locs cells slots Q (F0 m (pc + 1) ls (.int (nI (kS i)) :: rest))) : W p l e R s m args below meth c H locs cells slots Q (F0 m pc ls (.int (nI i) :: .ref (g.2.2.2 16) :: rest)) :=
  va_ti F.1 F.2.1 hG.2.2.1.2.2.2.2.2.1 hS (vp_in_nI hi (by decide)) (by show Value.int _ = _; rw [nI_clamp (by omega), kS_ok i hi]) hd kk
theorem gLdTakes {i : Nat} (F : gF p s m meth c args ws y cc maxL ret) (hG : gU g s) (hS : va_S (gA g) s.heap H locs) (hi : i < 15) (hd : decode cc pc = .ok (.iaload, 1)) (kk : W p l e R s m args below meth c H locs cells slots Q (F0 m (pc + 1) ls (.int (nI (kT i)) :: rest))) : W p l e R s m args below meth c H locs cells slots Q (F0 m pc ls (.int (nI i) :: .ref (g.2.2.2 17) :: rest)) :=
  va_ti F.1 F.2.1 hG.2.2.1.2.2.2.2.2.2.2.1 hS (vp_in_nI hi (by decide)) (by show Value.int _ = _; rw [nI_clamp (by omega), kT_ok i hi]) hd kk
theorem gLdPuts {i : Nat} (F : gF p s m meth c args ws y cc maxL ret) (hG : gU g s) (hS : va_S (gA g) s.heap H locs) (hi : i < 15) (hd : decode cc pc = .ok (.iaload, 1)) (kk : W p l e R s m args below meth c H locs cells slots Q (F0 m (pc + 1) ls (.int (nI (kP i)) :: rest))) : W p l e R s m args below meth c H locs cells slots Q (F0 m pc ls (.int (nI i) :: .ref (g.2.2.2 18) :: rest)) :=
  va_ti F.1 F.2.1 hG.2.2.1.2.2.2.2.2.2.2.2.2.1 hS (vp_in_nI hi (by decide)) (by show Value.int _ = _; rw [nI_clamp (by omega), kP_ok i hi]) hd kk
theorem gKnumber {i index : Nat} (F : gF p s m meth c args ws y cc maxL ret) (hG : gU g s) (hS : va_S (gA g) s.heap H locs) (hi : i < 15) (hlink : Cond.fieldLink y.cls index "StepperHearts$Kind" "number" "I" ∈ ws) (hd : decode cc pc = .ok (.getfield index, 3)) (kk : W p l e R s m args below meth c H locs cells slots Q (F0 m (pc + 3) ls (.int (nI i) :: rest))) : W p l e R s m args below meth c H locs cells slots Q (F0 m pc ls (.ref (g.2.2.2 i) :: rest)) :=
  va_getE F.1 F.2.1 hG.2.2.1.1 (by exact hi) hS F.2.2.2.2.2.1 (q := kFl[0]) (List.getElem_mem (by decide)) (F.2.2.2.2.1 _ hlink) (fun _ h => h) hd (gTop (kN_ok i hi) kk)
theorem gKtakes {i index : Nat} (F : gF p s m meth c args ws y cc maxL ret) (hG : gU g s) (hS : va_S (gA g) s.heap H locs) (hi : i < 15) (hlink : Cond.fieldLink y.cls index "StepperHearts$Kind" "takes" "I" ∈ ws) (hd : decode cc pc = .ok (.getfield index, 3)) (kk : W p l e R s m args below meth c H locs cells slots Q (F0 m (pc + 3) ls (.int (nI (kT i)) :: rest))) : W p l e R s m args below meth c H locs cells slots Q (F0 m pc ls (.ref (g.2.2.2 i) :: rest)) :=
  va_getE F.1 F.2.1 hG.2.2.1.1 (by exact hi) hS F.2.2.2.2.2.1 (q := kFl[1]) (List.getElem_mem (by decide)) (F.2.2.2.2.1 _ hlink) (fun _ h => h) hd (gTop (kT_ok i hi) kk)
theorem gKputs {i index : Nat} (F : gF p s m meth c args ws y cc maxL ret) (hG : gU g s) (hS : va_S (gA g) s.heap H locs) (hi : i < 15) (hlink : Cond.fieldLink y.cls index "StepperHearts$Kind" "puts" "I" ∈ ws) (hd : decode cc pc = .ok (.getfield index, 3)) (kk : W p l e R s m args below meth c H locs cells slots Q (F0 m (pc + 3) ls (.int (nI (kP i)) :: rest))) : W p l e R s m args below meth c H locs cells slots Q (F0 m pc ls (.ref (g.2.2.2 i) :: rest)) :=
  va_getE F.1 F.2.1 hG.2.2.1.1 (by exact hi) hS F.2.2.2.2.2.1 (q := kFl[2]) (List.getElem_mem (by decide)) (F.2.2.2.2.1 _ hlink) (fun _ h => h) hd (gTop (kP_ok i hi) kk)
theorem gKwork {i index : Nat} (F : gF p s m meth c args ws y cc maxL ret) (hG : gU g s) (hS : va_S (gA g) s.heap H locs) (hi : i < 15) (hlink : Cond.fieldLink y.cls index "StepperHearts$Kind" "work" "I" ∈ ws) (hd : decode cc pc = .ok (.getfield index, 3)) (kk : W p l e R s m args below meth c H locs cells slots Q (F0 m (pc + 3) ls (.int (nI (kW i)) :: rest))) : W p l e R s m args below meth c H locs cells slots Q (F0 m pc ls (.ref (g.2.2.2 i) :: rest)) :=
  va_getE F.1 F.2.1 hG.2.2.1.1 (by exact hi) hS F.2.2.2.2.2.1 (q := kFl[3]) (List.getElem_mem (by decide)) (F.2.2.2.2.1 _ hlink) (fun _ h => h) hd (gTop (kW_ok i hi) kk)
theorem gKoperandKind {i index : Nat} (F : gF p s m meth c args ws y cc maxL ret) (hG : gU g s) (hS : va_S (gA g) s.heap H locs) (hi : i < 15) (hlink : Cond.fieldLink y.cls index "StepperHearts$Kind" "operandKind" "I" ∈ ws) (hd : decode cc pc = .ok (.getfield index, 3)) (kk : W p l e R s m args below meth c H locs cells slots Q (F0 m (pc + 3) ls (.int (nI (kO i)) :: rest))) : W p l e R s m args below meth c H locs cells slots Q (F0 m pc ls (.ref (g.2.2.2 i) :: rest)) :=
  va_getE F.1 F.2.1 hG.2.2.1.1 (by exact hi) hS F.2.2.2.2.2.1 (q := kFl[4]) (List.getElem_mem (by decide)) (F.2.2.2.2.1 _ hlink) (fun _ h => h) hd (gTop (kO_ok i hi) kk)
theorem gKordinal {i index : Nat} (F : gF p s m meth c args ws y cc maxL ret) (hG : gU g s) (hS : va_S (gA g) s.heap H locs) (hi : i < 15) (hlink : Cond.fieldLink y.cls index "java/lang/Enum" "ordinal" "I" ∈ ws) (hd : decode cc pc = .ok (.getfield index, 3)) (kk : W p l e R s m args below meth c H locs cells slots Q (F0 m (pc + 3) ls (.int (nI i) :: rest))) : W p l e R s m args below meth c H locs cells slots Q (F0 m pc ls (.ref (g.2.2.2 i) :: rest)) :=
  va_getE F.1 F.2.1 hG.2.2.1.1 (by exact hi) hS F.2.2.2.2.2.1 (q := kFl[5]) (List.getElem_mem (by decide)) (F.2.2.2.2.1 _ hlink) (fun _ h => h) hd (gTop (kN_ok i hi) kk)
theorem gKword {i index : Nat} (F : gF p s m meth c args ws y cc maxL ret) (hG : gU g s) (hS : va_S (gA g) s.heap H locs) (hi : i < 15) (hlink : Cond.fieldLink y.cls index "StepperHearts$Kind" "word" "Ljava/lang/String;" ∈ ws) (hd : decode cc pc = .ok (.getfield index, 3)) (kk : W p l e R s m args below meth c H locs cells slots Q (F0 m (pc + 3) ls (.ref (g.2.2.2 (20 + i)) :: rest))) : W p l e R s m args below meth c H locs cells slots Q (F0 m pc ls (.ref (g.2.2.2 i) :: rest)) :=
  va_getX (v := fun i => .ref (g.2.2.2 (20 + i))) F.1 F.2.1 hG.2.2.1.2.1 hi hS F.2.2.2.2.2.1 (F.2.2.2.2.1 _ hlink) (fun _ h => h) hd kk
def kL (i : Nat) : Nat := kLen.getD i 0
def kC (i j : Nat) : Nat := ([[112, 117, 115, 104], [100, 114, 111, 112], [100, 117, 112], [115, 119, 97, 112], [111, 118, 101, 114], [97, 100, 100], [115, 117, 98], [109, 117, 108], [108, 101, 115, 115], [103, 101, 116], [115, 101, 116], [106, 117, 109, 112], [122, 101, 114, 111], [111, 117, 116], [104, 97, 108, 116]].getD i []).getD j 0
theorem kL_lt : ∀ i, i < 15 → kL i ≤ 4 := by decide
theorem kC_ok : ∀ i, i < 15 → ∀ j, j < kL i → (kByt.getD i []).getD j 0 = nI (kC i j) := by decide +kernel
theorem kC_ch : ∀ i, i < 15 → ∀ j, j < kL i → ((nI (kC i j) &&& nI 255).toUInt32 % 65536).toInt32 = nI (kC i j) := by decide +kernel
theorem kC_nar : ∀ i, i < 15 → ∀ j, j < kL i → narrow .char (.int (nI (kC i j))) = .int (nI (kC i j)) := by decide +kernel
theorem kC_lt : ∀ i, i < 15 → ∀ j, j < kL i → 97 ≤ kC i j ∧ kC i j ≤ 122 := by decide +kernel
theorem shr0 (x : Int32) : x >>> (nI 0 &&& 31) = x := by
  have : (nI 0 &&& 31 : Int32) = 0 := by decide
  rw [this]
  exact sb_shr0 x
theorem gTvalue {i index : Nat} (F : gF p s m meth c args ws y cc maxL ret) (hG : gU g s) (hS : va_S (gA g) s.heap H locs) (hi : i < 15) (hlink : Cond.fieldLink y.cls index "java/lang/String" "value" "[B" ∈ ws) (hd : decode cc pc = .ok (.getfield index, 3)) (kk : W p l e R s m args below meth c H locs cells slots Q (F0 m (pc + 3) ls (.ref (g.2.2.2 (40 + i)) :: rest))) : W p l e R s m args below meth c H locs cells slots Q (F0 m pc ls (.ref (g.2.2.2 (20 + i)) :: rest)) :=
  vk_getf F.1 F.2.1 (hG.2.2.1.2.2.2.2.2.2.2.2.2.2.1.1 i hi).2.2.1 hS F.2.2.2.2.2.1 (F.2.2.2.2.1 _ hlink) (fun _ h => h) hd kk
theorem gTcoder {i index : Nat} (F : gF p s m meth c args ws y cc maxL ret) (hG : gU g s) (hS : va_S (gA g) s.heap H locs) (hi : i < 15) (hlink : Cond.fieldLink y.cls index "java/lang/String" "coder" "B" ∈ ws) (hd : decode cc pc = .ok (.getfield index, 3)) (kk : W p l e R s m args below meth c H locs cells slots Q (F0 m (pc + 3) ls (.int (nI 0) :: rest))) : W p l e R s m args below meth c H locs cells slots Q (F0 m pc ls (.ref (g.2.2.2 (20 + i)) :: rest)) :=
  vk_getf (v := .int 0) F.1 F.2.1 (hG.2.2.1.2.2.2.2.2.2.2.2.2.2.1.1 i hi).2.1 hS F.2.2.2.2.2.1 (F.2.2.2.2.1 _ hlink) (fun _ h => h) hd kk
theorem gTlen {i : Nat} (F : gF p s m meth c args ws y cc maxL ret) (hG : gU g s) (hS : va_S (gA g) s.heap H locs) (hi : i < 15) (hd : decode cc pc = .ok (.arraylength, 1)) (kk : W p l e R s m args below meth c H locs cells slots Q (F0 m (pc + 1) ls (.int (nI (kL i)) :: rest))) : W p l e R s m args below meth c H locs cells slots Q (F0 m pc ls (.ref (g.2.2.2 (40 + i)) :: rest)) :=
  va_tlen F.1 F.2.1 (hG.2.2.1.2.2.2.2.2.2.2.2.2.2.1.1 i hi).2.2.2 hS rfl hd kk
theorem gTld {i j : Nat} (F : gF p s m meth c args ws y cc maxL ret) (hG : gU g s) (hS : va_S (gA g) s.heap H locs) (hi : i < 15) (hj : j < kL i) (hd : decode cc pc = .ok (.baload, 1)) (kk : W p l e R s m args below meth c H locs cells slots Q (F0 m (pc + 1) ls (.int (nI (kC i j)) :: rest))) : W p l e R s m args below meth c H locs cells slots Q (F0 m pc ls (.int (nI j) :: .ref (g.2.2.2 (40 + i)) :: rest)) :=
  va_tb F.1 F.2.1 (hG.2.2.1.2.2.2.2.2.2.2.2.2.2.1.1 i hi).2.2.2 hS (vp_in_nI hj (Nat.lt_of_le_of_lt (show kLen.getD i 0 ≤ 4 from kL_lt i hi) (by decide))) (by show Value.int _ = _; rw [nI_clamp (by have := kL_lt i hi; omega), kC_ok i hi j hj]) hd kk
theorem gKne {i j : Nat} {off : Int} {tgt : Nat} (F : gF p s m meth c args ws y cc maxL ret) (hG : gU g s) (hi : i < 15) (hj : j < 15) (hd : decode cc pc = .ok (.if_acmp .ne off, 3)) (ht : (pc : Int) + off = (tgt : Int)) (kt : i ≠ j → W p l e R s m args below meth c H locs cells slots Q (F0 m tgt ls (rest))) (kf : i = j → W p l e R s m args below meth c H locs cells slots Q (F0 m (pc + 3) ls (rest))) : W p l e R s m args below meth c H locs cells slots Q (F0 m pc ls (.ref (g.2.2.2 j) :: .ref (g.2.2.2 i) :: rest)) :=
  lv_acmp_ne (rx := some (g.2.2.2 i)) (ry := some (g.2.2.2 j)) F.1 F.2.1 hd ht (fun q => kt (fun z => q (by rw [z]))) (fun q => kf (hG.2.2.1.1.2 i j (by exact hi) (by exact hj) (Option.some.inj q)))
end GSTAT
