/-! ===== the frame of all contracts: one context g, one world a method, every cell from B0 on may be written ===== -/
abbrev gC : Type := va_G × (Nat → ClassId) × Nat × (Nat → Nat)
def gTy (g : gC) : List (ClassId × FieldType) := [(g.2.1 0, .int), (g.2.1 1, .boolean), (g.2.1 2, .long), (g.2.1 3, .byte), (g.2.1 4, .object "java/lang/String")]
def gA (g : gC) : Nat → Prop := fun q => g.2.2.1 ≤ q
def kNm : List String := ["PUSH", "DROP", "DUP", "SWAP", "OVER", "ADD", "SUB", "MUL", "LESS", "GET", "SET", "JUMP", "ZERO", "OUT", "HALT"]
def kTk : List Int32 := [0, 1, 1, 2, 2, 2, 2, 2, 2, 0, 1, 0, 1, 1, 0]
def kPt : List Int32 := [1, 0, 2, 2, 3, 1, 1, 1, 1, 1, 0, 0, 0, 0, 0]
def kWk : List Int32 := [1, 1, 1, 1, 1, 1, 1, 3, 1, 1, 1, 1, 1, 1, 1]
def kOk : List Int32 := [1, 0, 0, 0, 0, 0, 0, 0, 0, 2, 2, 3, 3, 0, 0]
def kNo : List Int32 := [0, 1, 2, 3, 4, 5, 6, 7, 8, 9, 10, 11, 12, 13, 14]
def kFl : List (String × String × String × List Int32) := [("StepperHearts$Kind", "number", "I", kNo), ("StepperHearts$Kind", "takes", "I", kTk), ("StepperHearts$Kind", "puts", "I", kPt), ("StepperHearts$Kind", "work", "I", kWk), ("StepperHearts$Kind", "operandKind", "I", kOk), ("java/lang/Enum", "ordinal", "I", kNo)]
def kLen : List Nat := [4, 4, 3, 4, 4, 3, 3, 3, 4, 3, 3, 4, 4, 3, 4]
def kByt : List (List Int32) := [[112, 117, 115, 104], [100, 114, 111, 112], [100, 117, 112], [115, 119, 97, 112], [111, 118, 101, 114], [97, 100, 100], [115, 117, 98], [109, 117, 108], [108, 101, 115, 115], [103, 101, 116], [115, 101, 116], [106, 117, 109, 112], [122, 101, 114, 111], [111, 117, 116], [104, 97, 108, 116]]
/-- the table of the switch over kinds -/
def kSw : List Int32 := [1, 0, 8, 9, 10, 11, 12, 13, 14, 2, 3, 5, 6, 4, 7]
/-- what the statics hold: sa 0 .. 14 the kinds, 15 their array, 16 the switch's table, 17, 18 what they take and put, 20 + i the names, 40 + i the names' bytes -/
def gS (g : gC) (A : Nat → Prop) (U : State) (H : Heap) : Prop :=
  va_En "StepperHearts$Kind" "LStepperHearts$Kind;" kNm kFl g.2.2.2 A U H ∧
  va_Ef 15 "StepperHearts$Kind" "word" "Ljava/lang/String;" (fun i => .ref (g.2.2.2 (20 + i))) g.2.2.2 A U H ∧
  va_Z "StepperHearts" "KINDS" "[LStepperHearts$Kind;" (.ref (g.2.2.2 15)) A U H ∧
  va_T (.object "StepperHearts$Kind") (g.2.2.2 15) 15 (fun j => .ref (g.2.2.2 j)) A U H ∧
  va_Z "StepperHearts$1" "$SwitchMap$StepperHearts$Kind" "[I" (.ref (g.2.2.2 16)) A U H ∧
  va_T .int (g.2.2.2 16) 15 (fun j => .int (kSw.getD j 0)) A U H ∧
  va_Z "StepperHeartsModel" "TAKES" "[I" (.ref (g.2.2.2 17)) A U H ∧
  va_T .int (g.2.2.2 17) 15 (fun j => .int (kTk.getD j 0)) A U H ∧
  va_Z "StepperHeartsModel" "PUTS" "[I" (.ref (g.2.2.2 18)) A U H ∧
  va_T .int (g.2.2.2 18) 15 (fun j => .int (kPt.getD j 0)) A U H ∧
  vk_S 15 kLen kByt (fun i => g.2.2.2 (20 + i)) (fun i => g.2.2.2 (40 + i)) A U H ∧
  vx_Zq Bundle.tN "UNASSIGNED_STACK" Bundle.steD A U H ∧ vx_Zq Bundle.tN "SUPPRESSED_SENTINEL" Bundle.listD A U H ∧
  va_Z "java/lang/String" "COMPACT_STRINGS" "Z" (.int 1) A U H ∧
  va_Zq "jdk/internal/util/Preconditions" "SIOOBE_FORMATTER" "Ljava/util/function/BiFunction;" A U H
theorem gS.moved {g : gC} {A : Nat → Prop} {u U : State} {H : Heap} (hvm : u.vm.Alike U.vm) (h : gS g A u H) : gS g A U H :=
  ⟨va_En.moved hvm h.1, va_Ef.moved hvm h.2.1, va_Z.moved hvm h.2.2.1, va_T.moved hvm h.2.2.2.1, va_Z.moved hvm h.2.2.2.2.1, va_T.moved hvm h.2.2.2.2.2.1, va_Z.moved hvm h.2.2.2.2.2.2.1, va_T.moved hvm h.2.2.2.2.2.2.2.1, va_Z.moved hvm h.2.2.2.2.2.2.2.2.1, va_T.moved hvm h.2.2.2.2.2.2.2.2.2.1, vk_S.moved hvm h.2.2.2.2.2.2.2.2.2.2.1, vx_Zq.moved hvm h.2.2.2.2.2.2.2.2.2.2.2.1, vx_Zq.moved hvm h.2.2.2.2.2.2.2.2.2.2.2.2.1, va_Z.moved hvm h.2.2.2.2.2.2.2.2.2.2.2.2.2.1, va_Zq.moved hvm h.2.2.2.2.2.2.2.2.2.2.2.2.2.2⟩
theorem gS.kept {g : gC} {A : Nat → Prop} {U : State} {H H1 : Heap} (h : gS g A U H) (hq : ∀ a : Nat, a < H.size → ¬ A a → H1[a]? = H[a]?) : gS g A U H1 :=
  ⟨h.1.kept hq, h.2.1.kept hq, h.2.2.1.kept hq, h.2.2.2.1.kept hq, h.2.2.2.2.1.kept hq, h.2.2.2.2.2.1.kept hq, h.2.2.2.2.2.2.1.kept hq, h.2.2.2.2.2.2.2.1.kept hq, h.2.2.2.2.2.2.2.2.1.kept hq, h.2.2.2.2.2.2.2.2.2.1.kept hq, h.2.2.2.2.2.2.2.2.2.2.1.kept hq, h.2.2.2.2.2.2.2.2.2.2.2.1.kept hq, h.2.2.2.2.2.2.2.2.2.2.2.2.1.kept hq, h.2.2.2.2.2.2.2.2.2.2.2.2.2.1.kept hq, h.2.2.2.2.2.2.2.2.2.2.2.2.2.2.kept hq⟩
/-- the links of private members of nest mates, and the texts, that methods count on -/
def gNF : List (String × Nat × String × String × String × String) := [("StepperHearts", 113, "StepperHearts$Reader", "faultPlace", "I", "StepperHearts"), ("StepperHearts", 139, "StepperHearts$Joins", "size", "I", "StepperHearts"), ("StepperHearts", 201, "StepperHearts$Machine", "numbers", "[I", "StepperHearts"), ("StepperHearts", 196, "StepperHearts$Machine", "outs", "[I", "StepperHearts"), ("StepperHearts", 207, "StepperHearts$Machine", "done", "[I", "StepperHearts"), ("StepperHearts", 210, "StepperHearts$Machine", "followed", "[I", "StepperHearts"), ("StepperHearts", 226, "StepperHearts$Machine", "traceLengths", "[I", "StepperHearts"), ("StepperHearts", 167, "StepperHearts$Machine", "hasRun", "Z", "StepperHearts"), ("StepperHearts", 223, "StepperHearts$Machine", "places", "I", "StepperHearts"), ("StepperHearts", 164, "StepperHearts$Machine", "ending", "I", "StepperHearts"), ("StepperHearts", 171, "StepperHearts$Machine", "steps", "I", "StepperHearts"), ("StepperHearts", 174, "StepperHearts$Machine", "spent", "I", "StepperHearts"), ("StepperHearts", 177, "StepperHearts$Machine", "height", "I", "StepperHearts"), ("StepperHearts", 186, "StepperHearts$Machine", "highest", "I", "StepperHearts"), ("StepperHearts", 180, "StepperHearts$Machine", "outCount", "I", "StepperHearts"), ("StepperHearts", 183, "StepperHearts$Machine", "place", "I", "StepperHearts"), ("StepperHearts", 220, "StepperHearts$Machine", "traceCount", "I", "StepperHearts"), ("StepperHearts$Machine", 68, "StepperHearts$Program", "size", "I", "StepperHearts"), ("StepperHearts", 107, "StepperHearts$Program", "size", "I", "StepperHearts"), ("StepperHearts$Reader", 87, "StepperHearts$Program", "size", "I", "StepperHearts"), ("StepperHearts$Reader", 110, "StepperHearts", "KINDS", "[LStepperHearts$Kind;", "StepperHearts"), ("StepperHearts$Program", 30, "StepperHearts", "KINDS", "[LStepperHearts$Kind;", "StepperHearts"), ("StepperHeartsModel", 186, "StepperHeartsModel$Program", "orders", "I", "StepperHeartsModel"), ("StepperHeartsModel", 189, "StepperHeartsModel$Program", "marks", "I", "StepperHeartsModel"), ("StepperHeartsModel", 201, "StepperHeartsModel$Program", "kind", "[I", "StepperHeartsModel"), ("StepperHeartsModel", 203, "StepperHeartsModel$Program", "value", "[I", "StepperHeartsModel"), ("StepperHeartsModel", 214, "StepperHeartsModel$Program", "place", "[I", "StepperHeartsModel"), ("StepperHeartsModel", 225, "StepperHeartsModel$Program", "markAt", "[I", "StepperHeartsModel"), ("StepperHeartsModel", 206, "StepperHeartsModel$Program", "target", "[J", "StepperHeartsModel"), ("StepperHeartsModel", 222, "StepperHeartsModel$Program", "mark", "[J", "StepperHeartsModel"), ("StepperHeartsModel", 192, "StepperHeartsModel$Program", "isMarked", "[Z", "StepperHeartsModel"), ("StepperHeartsModel", 135, "StepperHeartsModel$Stop", "kind", "I", "StepperHeartsModel"), ("StepperHeartsModel", 138, "StepperHeartsModel$Stop", "place", "I", "StepperHeartsModel")]
def gNM : List (String × Nat × MethodName × String) := [("StepperHearts", 15, ⟨"StepperHearts$Reader", "<init>", "()V"⟩, "StepperHearts"), ("StepperHearts", 22, ⟨"StepperHearts$Joins", "<init>", "()V"⟩, "StepperHearts"), ("StepperHearts$PlainHeart", 1, ⟨"StepperHearts$Heart", "<init>", "()V"⟩, "StepperHearts"), ("StepperHearts$JoinedHeart", 3, ⟨"StepperHearts$Heart", "<init>", "()V"⟩, "StepperHearts"), ("StepperHearts", 50, ⟨"StepperHearts$KeptHeart", "<init>", "()V"⟩, "StepperHearts"), ("StepperHearts$KeptHeart", 3, ⟨"StepperHearts$Heart", "<init>", "()V"⟩, "StepperHearts"), ("StepperHearts", 56, ⟨"StepperHearts$TraceHeart", "<init>", "()V"⟩, "StepperHearts"), ("StepperHearts$TraceHeart", 3, ⟨"StepperHearts$Heart", "<init>", "()V"⟩, "StepperHearts"), ("StepperHearts", 62, ⟨"StepperHearts$Machine", "<init>", "()V"⟩, "StepperHearts"), ("StepperHearts", 72, ⟨"StepperHearts$Program", "<init>", "()V"⟩, "StepperHearts"), ("StepperHearts$JoinedHeart", 59, ⟨"StepperHearts", "pairOf", "(II)I"⟩, "StepperHearts"), ("StepperHearts$Machine", 149, ⟨"StepperHearts", "isKind", "(I)Z"⟩, "StepperHearts"), ("StepperHearts$Machine", 152, ⟨"StepperHearts", "pairOf", "(II)I"⟩, "StepperHearts"), ("StepperHeartsModel", 15, ⟨"StepperHeartsModel$Program", "<init>", "()V"⟩, "StepperHeartsModel")]
def gKR : List (String × Nat × String × Nat) := [("StepperHearts", 191, "no such out", 60), ("StepperHearts", 199, "no such number on the pile", 61), ("StepperHeartsModel", 36, "push", 20), ("StepperHeartsModel", 38, "drop", 21), ("StepperHeartsModel", 40, "dup", 22), ("StepperHeartsModel", 42, "swap", 23), ("StepperHeartsModel", 44, "over", 24), ("StepperHeartsModel", 46, "add", 25), ("StepperHeartsModel", 48, "sub", 26), ("StepperHeartsModel", 50, "mul", 27), ("StepperHeartsModel", 52, "less", 28), ("StepperHeartsModel", 54, "get", 29), ("StepperHeartsModel", 56, "set", 30), ("StepperHeartsModel", 58, "jump", 31), ("StepperHeartsModel", 60, "zero", 32), ("StepperHeartsModel", 62, "out", 33), ("StepperHeartsModel", 64, "halt", 34)]
def gND : List MethodName := [⟨"StepperHearts$Heart", "price", "(ILStepperHearts$Kind;I)I"⟩, ⟨"StepperHearts$Heart", "begin", "(LStepperHearts$Program;)V"⟩, ⟨"java/lang/RuntimeException", "<init>", "(Ljava/lang/String;)V"⟩, ⟨"java/lang/Exception", "<init>", "(Ljava/lang/String;)V"⟩, ⟨"java/lang/Throwable", "<init>", "(Ljava/lang/String;)V"⟩]
def gNC : List (String × String) := [("java/util/NoSuchElementException", "java/util/NoSuchElementException"), ("StepperHeartsModel$Stop", "StepperHeartsModel$Stop")]
def gN (g : gC) (U : State) : Prop := (∀ x ∈ gND, va_Nw (.declares x) U) ∧ (∀ x ∈ gNF, va_Nw (.fieldLinkNest x.1 x.2.1 x.2.2.1 x.2.2.2.1 x.2.2.2.2.1 x.2.2.2.2.2) U) ∧ (∀ x ∈ gNM, va_Nw (.methodLinkNest x.1 x.2.1 x.2.2.1 x.2.2.2) U) ∧ (∀ x ∈ gKR, vk_R x.1 x.2.1 x.2.2.1 (g.2.2.2 x.2.2.2) U) ∧ (∀ x ∈ gNC, va_Nw (.castable x.1 x.2) U)
theorem gN.warm {g : gC} {s U : State} (hW : s.WarmedH U.vm) (h : gN g s) : gN g U := ⟨fun x hx => va_Nw.warmD hW (h.1 x hx), fun x hx => va_Nw.warmF hW (h.2.1 x hx), fun x hx => va_Nw.warmM hW (h.2.2.1 x hx), fun x hx => vk_R.warm hW (h.2.2.2.1 x hx), fun x hx => va_Nw.warmC hW (h.2.2.2.2 x hx)⟩
theorem gN.same {g : gC} {s U : State} (hv : U.vm = s.vm) (h : gN g s) : gN g U := ⟨fun x hx => va_Nw.same rfl hv.symm (h.1 x hx), fun x hx => va_Nw.same rfl hv.symm (h.2.1 x hx), fun x hx => va_Nw.same rfl hv.symm (h.2.2.1 x hx), fun x hx => vk_R.same hv (h.2.2.2.1 x hx), fun x hx => va_Nw.same rfl hv.symm (h.2.2.2.2 x hx)⟩
/-- what every method may count on -/
def gU (g : gC) (U : State) : Prop := g.2.2.1 ≤ U.heap.size ∧ va_K g.1 vwCl (gTy g) U ∧ gS g (gA g) U U.heap ∧ gN g U
theorem gU.go {g : gC} {s U : State} {H : Heap} {locs : List Loc} (h : gU g s) (hS : va_S (gA g) s.heap H locs) (hU : U.heap = H) (hw : s.WarmedH U.vm) : gU g U := by
  subst hU
  exact ⟨Nat.le_trans h.1 hS.1, va_K.moved hw.alike h.2.1, gS.moved hw.alike (h.2.2.1.kept hS.2.1), gN.warm hw h.2.2.2⟩
theorem gU.calling {g : gC} {U : State} {f : JFrame} {mk : MethodId} {a : Array Value} (h : gU g U) : gU g (U.calling f mk a) :=
  ⟨h.1, va_K.moved (u := U) (U := U.calling f mk a) (Vm.Alike.refl U.vm) h.2.1, gS.moved (u := U) (U := U.calling f mk a) (Vm.Alike.refl U.vm) h.2.2.1, gN.same (s := U) (U := U.calling f mk a) rfl h.2.2.2⟩
/-- a world -/
def gW (g : gC) (w : va_W) (H : Heap) : Prop := va_P g.1 vwCl w H ∧ va_D (gA g) w
theorem gW.sub {g : gC} {w w' : va_W} {H : Heap} (h : gW g w H) (is : List Nat) (hn : va_nd is = true) (hs : is.map (fun i => w[i]?) = w'.map some) : gW g w' H := by
  refine ⟨fun k q hq => ?_, h.2.sub is hn hs⟩
  have h1 : (is.map (fun i => w[i]?))[k]? = some (some q) := by rw [hs, List.getElem?_map, hq]; rfl
  rw [List.getElem?_map] at h1
  cases hi : is[k]? with
  | none => rw [hi] at h1; cases h1
  | some i => rw [hi] at h1; exact h.1 i q (Option.some.inj h1)
theorem gW.mem {g : gC} {w : va_W} {H : Heap} (h : gW g w H) {q : Nat × va_E} (hq : q ∈ w) : va_at g.1 vwCl q H := by
  obtain ⟨k, hk⟩ := List.mem_iff_getElem?.mp hq
  exact h.1 k q hk
theorem va_D_iff {A : Nat → Prop} {w : va_W} : va_D A w ↔ (w.map Prod.fst).Nodup ∧ ∀ q ∈ w, A q.1 := by
  constructor
  · intro h
    refine ⟨?_, fun q hq => ?_⟩
    · rw [List.nodup_iff_pairwise_ne, List.pairwise_iff_getElem]
      intro i j hi hj hij e
      rw [List.length_map] at hi hj
      rw [List.getElem_map, List.getElem_map] at e
      have := h.1 i j w[i] w[j] (List.getElem?_eq_getElem hi) (List.getElem?_eq_getElem hj) e
      omega
    · obtain ⟨k, hk⟩ := List.mem_iff_getElem?.mp hq
      exact h.2 k q hk
  · intro h
    refine ⟨fun i j p q hi hj e => ?_, fun k q hk => h.2 q (List.mem_of_getElem? hk)⟩
    have hn := h.1
    rw [List.nodup_iff_pairwise_ne, List.pairwise_iff_getElem] at hn
    obtain ⟨hi1, hi2⟩ := List.getElem?_eq_some_iff.mp hi
    obtain ⟨hj1, hj2⟩ := List.getElem?_eq_some_iff.mp hj
    rcases Nat.lt_trichotomy i j with q1 | q1 | q1
    · exact absurd (by rw [List.getElem_map, List.getElem_map, hi2, hj2]; exact e) (hn i j (by rw [List.length_map]; exact hi1) (by rw [List.length_map]; exact hj1) q1)
    · exact q1
    · exact absurd (by rw [List.getElem_map, List.getElem_map, hi2, hj2]; exact e.symm) (hn j i (by rw [List.length_map]; exact hj1) (by rw [List.length_map]; exact hi1) q1)
/-- the order of a world's cells is free -/
theorem gW.perm {g : gC} {w w' : va_W} {H : Heap} (h : gW g w H) (hp : w.Perm w') : gW g w' H := by
  refine ⟨fun k q hq => h.mem (hp.mem_iff.mpr (List.mem_of_getElem? hq)), ?_⟩
  obtain ⟨h1, h2⟩ := va_D_iff.mp h.2
  exact va_D_iff.mpr ⟨(hp.map Prod.fst).nodup_iff.mp h1, fun q hq => h2 q (hp.mem_iff.mpr hq)⟩
theorem gW.re {g : gC} {l l' R : va_W} {H : Heap} (h : gW g (l ++ R) H) (is : List Nat) (n : Nat) (hn : l.length = n) (hp : is.Perm (List.range n)) (hs : is.map (fun i => l[i]?) = l'.map some) : gW g (l' ++ R) H := by
  subst hn
  refine h.perm (List.Perm.append_right R ?_)
  have h1 : (l'.map some).Perm ((List.range l.length).map (fun i => l[i]?)) := hs ▸ hp.map _
  have h2 : (List.range l.length).map (fun i => l[i]?) = l.map some := by
    apply List.ext_getElem
    · simp
    · intro i h1 h2
      simp at h1
      simp [h1]
  rw [h2] at h1
  have h3 := h1.symm.filterMap id
  simpa [List.filterMap_map] using h3
/-- contracts: an int (or boolean ..), nothing, a reference, a long -/
def cI (g : gC) (l : Launch) (y : MethodName) (ws : List Cond) (rm : Room) (mc ms : Nat) (as : List Value) (w : va_W) (Q : Int32 → va_W → Prop) : Prop :=
  Met l y ws rm (va_Pc as (fun U => gU g U ∧ gW g w U.heap)) (va_Qi Q (fun u t => gW g u t.heap) (gA g)) mc ms (gA g)
def cV (g : gC) (l : Launch) (y : MethodName) (ws : List Cond) (rm : Room) (mc ms : Nat) (as : List Value) (w : va_W) (Q : va_W → Prop) : Prop :=
  Met l y ws rm (va_Pc as (fun U => gU g U ∧ gW g w U.heap)) (va_Qv Q (fun u t => gW g u t.heap) (gA g)) mc ms (gA g)
def cR (g : gC) (l : Launch) (y : MethodName) (ws : List Cond) (rm : Room) (mc ms : Nat) (as : List Value) (w : va_W) (Q : Nat → va_W → Prop) : Prop :=
  Met l y ws rm (va_Pc as (fun U => gU g U ∧ gW g w U.heap)) (va_Qr (fun u : Nat × va_W => Q u.1 u.2) (fun u a t => a = u.1 ∧ gW g u.2 t.heap) (gA g)) mc ms (gA g)
def cL (g : gC) (l : Launch) (y : MethodName) (ws : List Cond) (rm : Room) (mc ms : Nat) (as : List Value) (w : va_W) (Q : Int64 → va_W → Prop) : Prop :=
  Met l y ws rm (va_Pc as (fun U => gU g U ∧ gW g w U.heap)) (va_Ql Q (fun u t => gW g u t.heap) (gA g)) mc ms (gA g)
theorem gBlind {g : gC} {as : List Value} {w : va_W} : FrameBlind (va_Pc as (fun U => gU g U ∧ gW g w U.heap)) := fun _ _ _ _ q => ⟨q.1, q.2.1.calling, q.2.2⟩
theorem gPreV {g : gC} {s : State} {H : Heap} {locs : List Loc} {b : Addr} {As : List Value} {w ws : va_W} (hG : gU g s) (hS : va_S (gA g) s.heap H locs) (hw : gW g w H) (hP : va_P g.1 vwCl ws H) {q0 ci : Nat} {q : vw_C} {fs : List Value} (hc : vwCl[ci]? = some q) (he : ws[q0]? = some (b, .inr (ci, fs))) :
    PreV s H q.1 b (va_Pc (Value.ref b :: As) (fun U => gU g U ∧ gW g w U.heap)) As :=
  ⟨gBlind, va_recv hG.2.1 hP hc he, fun _ hU hW => ⟨rfl, hG.go hS hU hW, by rw [hU]; exact hw⟩⟩
theorem gPreE {g : gC} {s : State} {H : Heap} {locs : List Loc} {As : List Value} {w : va_W} {i : Nat} (hG : gU g s) (hS : va_S (gA g) s.heap H locs) (hw : gW g w H) (hi : i < 15) :
    PreV s H "StepperHearts$Kind" (g.2.2.2 i) (va_Pc (Value.ref (g.2.2.2 i) :: As) (fun U => gU g U ∧ gW g w U.heap)) As :=
  ⟨gBlind, va_recvE hG.2.2.1.1 (by exact hi) hS, fun _ hU hW => ⟨rfl, hG.go hS hU hW, by rw [hU]; exact hw⟩⟩
theorem gPreT {g : gC} {s : State} {H : Heap} {locs : List Loc} {As : List Value} {w : va_W} {i : Nat} (hG : gU g s) (hS : va_S (gA g) s.heap H locs) (hw : gW g w H) (hi : i < 15) :
    PreV s H "java/lang/String" (g.2.2.2 (20 + i)) (va_Pc (Value.ref (g.2.2.2 (20 + i)) :: As) (fun U => gU g U ∧ gW g w U.heap)) As :=
  ⟨gBlind, vk_recv (adK := fun i => g.2.2.2 (20 + i)) hG.2.2.1.2.2.2.2.2.2.2.2.2.2.1 hi hS, fun _ hU hW => ⟨rfl, hG.go hS hU hW, by rw [hU]; exact hw⟩⟩
theorem gPreS {g : gC} {s : State} {H : Heap} {locs : List Loc} {As : List Value} {w : va_W} (hG : gU g s) (hS : va_S (gA g) s.heap H locs) (hw : gW g w H) :
    PreS s H (va_Pc As (fun U => gU g U ∧ gW g w U.heap)) As :=
  ⟨gBlind, fun _ hU hW => ⟨rfl, hG.go hS hU hW, by rw [hU]; exact hw⟩⟩
section GCALL
variable {p : Program} {l : Launch} {e : Env} {R : Room} {s : State} {m : MethodId} {args : Array Value} {below : List Frame} {meth : Method} {c : Code} {H : Heap} {locs : List Loc} {cells slots : Nat} {Q : State → Prop}
variable {pc : Nat} {ls : Array Slot} {rest st0 : List Value} {a : Array Value} {H0 : Heap} {mc ms : Nat} {g : gC}
theorem gCi {Qr : Int32 → va_W → Prop} (hr : va_Run p l e R s m args below meth c H locs cells slots mc ms (F0 m pc ls st0) rest (va_Qi Qr (fun u t => gW g u t.heap) (gA g) a) (gA g)) (hS : va_S (gA g) H0 H locs)
    (kk : ∀ (r : Int32) (u : va_W) (H1 : Heap) (locs1 : List Loc), Qr r u → gW g u H1 → va_S (gA g) H0 H1 locs1 → W p l e R s m args below meth c H1 locs1 (cells + mc) (slots + ms) Q (F0 m (pc + 3) ls (.int r :: rest))) : W p l e R s m args below meth c H locs cells slots Q (F0 m pc ls st0) :=
  va_calli hr hS (fun _ _ h => h) (fun _ h => h) (fun r u t H1 locs1 ht hvm hp hb hz hk hS1 => kk r u H1 locs1 hp (by rw [← ht]; exact hb) hS1)
theorem gCv {Qr : va_W → Prop} (hr : va_Run p l e R s m args below meth c H locs cells slots mc ms (F0 m pc ls st0) rest (va_Qv Qr (fun u t => gW g u t.heap) (gA g) a) (gA g)) (hS : va_S (gA g) H0 H locs)
    (kk : ∀ (u : va_W) (H1 : Heap) (locs1 : List Loc), Qr u → gW g u H1 → va_S (gA g) H0 H1 locs1 → W p l e R s m args below meth c H1 locs1 (cells + mc) (slots + ms) Q (F0 m (pc + 3) ls rest)) : W p l e R s m args below meth c H locs cells slots Q (F0 m pc ls st0) :=
  va_callv hr hS (fun _ _ h => h) (fun _ h => h) (fun u t H1 locs1 ht hvm hp hb hz hk hS1 => kk u H1 locs1 hp (by rw [← ht]; exact hb) hS1)
theorem gCr {Qr : Nat → va_W → Prop} (hr : va_Run p l e R s m args below meth c H locs cells slots mc ms (F0 m pc ls st0) rest (va_Qr (fun u : Nat × va_W => Qr u.1 u.2) (fun u a t => a = u.1 ∧ gW g u.2 t.heap) (gA g) a) (gA g)) (hS : va_S (gA g) H0 H locs)
    (kk : ∀ (r : Nat) (u : va_W) (H1 : Heap) (locs1 : List Loc), Qr r u → gW g u H1 → va_S (gA g) H0 H1 locs1 → W p l e R s m args below meth c H1 locs1 (cells + mc) (slots + ms) Q (F0 m (pc + 3) ls (.ref r :: rest))) : W p l e R s m args below meth c H locs cells slots Q (F0 m pc ls st0) :=
  va_callr hr hS (fun _ _ h => h) (fun _ h => h) (fun u r t H1 locs1 ht hvm hp hb hz hk hS1 => by obtain ⟨rfl, hb⟩ := hb; exact kk u.1 u.2 H1 locs1 hp (by rw [← ht]; exact hb) hS1)
theorem gCl {Qr : Int64 → va_W → Prop} (hr : va_Run p l e R s m args below meth c H locs cells slots mc ms (F0 m pc ls st0) rest (va_Ql Qr (fun u t => gW g u t.heap) (gA g) a) (gA g)) (hS : va_S (gA g) H0 H locs)
    (kk : ∀ (r : Int64) (u : va_W) (H1 : Heap) (locs1 : List Loc), Qr r u → gW g u H1 → va_S (gA g) H0 H1 locs1 → W p l e R s m args below meth c H1 locs1 (cells + mc) (slots + ms) Q (F0 m (pc + 3) ls (.long r :: rest))) : W p l e R s m args below meth c H locs cells slots Q (F0 m pc ls st0) :=
  va_calll hr hS (fun _ _ h => h) (fun _ h => h) (fun r u t H1 locs1 ht hvm hp hb hz hk hS1 => kk r u H1 locs1 hp (by rw [← ht]; exact hb) hS1)
/-- a value on top by another name -/
theorem gTop {x y : Int32} (h : x = y) (k : W p l e R s m args below meth c H locs cells slots Q (F0 m pc ls (.int y :: rest))) : W p l e R s m args below meth c H locs cells slots Q (F0 m pc ls (.int x :: rest)) := h ▸ k
theorem gTopL {x y : Int64} (h : x = y) (k : W p l e R s m args below meth c H locs cells slots Q (F0 m pc ls (.long y :: rest))) : W p l e R s m args below meth c H locs cells slots Q (F0 m pc ls (.long x :: rest)) := h ▸ k
end GCALL
/-- the facts that a body stands on -/
def gF (p : Program) (s : State) (m : MethodId) (meth : Method) (c : Code) (args : Array Value) (ws : List Cond) (y : MethodName) (cc : ByteArray) (maxL : Nat) (ret : Option FieldType) : Prop :=
  p.tables.exec = Jvm.exec ∧ c.code = cc ∧ meth.sig.returnType = ret ∧ c.maxLocals = maxL ∧ (∀ w ∈ ws, w.before args s = true) ∧ s.vm.findClass y.cls = some m.cls ∧ meth.locks = false ∧ meth.name = y.name
def gEnd (below : List Frame) (Qc : Array Value → State → Outcome → State → Prop) (as : List Value) (s : State) (mc ms : Nat) (g : gC) : State → Prop := MQ below Qc as.toArray s mc ms (gA g)
section GENTER
variable {g : gC} {l : Launch} {y : MethodName} {ws ws' : List Cond} {rm : Room} {mc ms : Nat} {as : List Value} {w : va_W} {cc : ByteArray} {maxL : Nat} {ret : Option FieldType}
theorem gEnterQ {Qc : Array Value → State → Outcome → State → Prop} (hy : plainName y.cls = true) (hw : ws = Cond.code y cc maxL ret :: ws') (hl : (lg_sl as).length ≤ maxL)
    (body : ∀ (p : Program) (e : Env) (s : State) (m : MethodId) (below : List Frame) (meth : Method) (c : Code), gF p s m meth c as.toArray ws y cc maxL ret → gU g s → gW g w s.heap → ∀ ls : Array Slot, lv_has ls maxL (lv_args 0 as) →
      W p l e (headSpec ws rm).room s m as.toArray below meth c s.heap [] 0 0 (MQ below Qc as.toArray s mc ms (gA g)) (F0 m 0 ls [])) :
    Met l y ws rm (va_Pc as (fun U => gU g U ∧ gW g w U.heap)) Qc mc ms (gA g) := by
  refine Met.ofW (cc := cc) (maxL := maxL) (ret := ret) hy hw ?_
  intro p e s m args below meth c s₁ B hml hv
  obtain ⟨rfl, hG, hW⟩ := hv
  have h1 := lv_entry as (n := maxL) hl
  rw [lg_entry_eq]
  exact body p e s m below meth c ⟨B.exec, B.bytes, B.returns, hml, atoms_spec (ws := ws) B.pre, findClass_of_methodNamed B.named, B.notSynchronized, (name_of_methodNamed B.named B.method).1⟩ hG hW _ h1
end GENTER
section GRET
variable {p : Program} {l : Launch} {e : Env} {R : Room} {s : State} {m : MethodId} {below : List Frame} {meth : Method} {c : Code} {H : Heap} {locs : List Loc} {mc ms : Nat} {as : List Value} {ws : List Cond} {y : MethodName} {cc : ByteArray} {maxL : Nat} {ret : Option FieldType} {pc : Nat} {ls : Array Slot} {g : gC} {w : va_W}
theorem gRi {Q : Int32 → va_W → Prop} {v : Int32} (F : gF p s m meth c as.toArray ws y cc maxL (some .int)) (hW : gW g w H) (hS : va_S (gA g) s.heap H locs) (hd : decode cc pc = .ok (.ireturn, 1)) (hq : Q v w) :
    W p l e R s m as.toArray below meth c H locs mc ms (MQ below (va_Qi Q (fun u t => gW g u t.heap) (gA g)) as.toArray s mc ms (gA g)) (F0 m pc ls [.int v]) :=
  W.iret F.1 F.2.1 F.2.2.1 (fun t ht _ => ⟨⟨v, w, rfl, hq, by show gW g w t.heap; rw [ht]; exact hW⟩, hS.F ht⟩) hS.2.2 hd F.2.2.2.2.2.2.1
theorem gRz {Q : Int32 → va_W → Prop} {v : Int32} {ty : FieldType} (hn : narrow ty (.int v) = .int v) (F : gF p s m meth c as.toArray ws y cc maxL (some ty)) (hW : gW g w H) (hS : va_S (gA g) s.heap H locs) (hd : decode cc pc = .ok (.ireturn, 1)) (hq : Q v w) :
    W p l e R s m as.toArray below meth c H locs mc ms (MQ below (va_Qi Q (fun u t => gW g u t.heap) (gA g)) as.toArray s mc ms (gA g)) (F0 m pc ls [.int v]) :=
  W.zret F.1 F.2.1 F.2.2.1 hn (fun t ht _ => ⟨⟨v, w, rfl, hq, by show gW g w t.heap; rw [ht]; exact hW⟩, hS.F ht⟩) hS.2.2 hd F.2.2.2.2.2.2.1
theorem gRv {Q : va_W → Prop} (F : gF p s m meth c as.toArray ws y cc maxL none) (hW : gW g w H) (hS : va_S (gA g) s.heap H locs) (hd : decode cc pc = .ok (.return_, 1)) (hq : Q w) :
    W p l e R s m as.toArray below meth c H locs mc ms (MQ below (va_Qv Q (fun u t => gW g u t.heap) (gA g)) as.toArray s mc ms (gA g)) (F0 m pc ls []) :=
  W.vret F.1 F.2.1 F.2.2.1 (fun t ht _ => ⟨⟨w, rfl, hq, by show gW g w t.heap; rw [ht]; exact hW⟩, hS.F ht⟩) hS.2.2 hd F.2.2.2.2.2.2.1
theorem gRr {Q : Nat → va_W → Prop} {v : Nat} {rt : FieldType} (hrt : (∃ n, rt = .object n) ∨ ∃ t, rt = .array t) (F : gF p s m meth c as.toArray ws y cc maxL (some rt)) (hW : gW g w H) (hS : va_S (gA g) s.heap H locs) (hd : decode cc pc = .ok (.areturn, 1)) (hq : Q v w) :
    W p l e R s m as.toArray below meth c H locs mc ms (MQ below (va_Qr (fun u : Nat × va_W => Q u.1 u.2) (fun u a t => a = u.1 ∧ gW g u.2 t.heap) (gA g)) as.toArray s mc ms (gA g)) (F0 m pc ls [.ref v]) :=
  W.aret F.1 F.2.1 F.2.2.1 hrt (Or.inr ⟨v, rfl⟩) (fun t ht _ => ⟨⟨(v, w), v, rfl, hq, rfl, by show gW g w t.heap; rw [ht]; exact hW⟩, hS.F ht⟩) hS.2.2 hd F.2.2.2.2.2.2.1
end GRET
/-! ===== numbers ===== -/
def bI (b : Bool) : Int32 := if b then 1 else 0
theorem bI_t : bI true = 1 := rfl
theorem bI_f : bI false = 0 := rfl
theorem nI_1' : nI 1 = 1 := rfl
theorem bI_n {b : Bool} : bI b = nI (if b then 1 else 0) := by cases b <;> rfl
theorem bI_e {b : Bool} : (bI b = 0) = (b = false) := by cases b <;> simp [bI]
theorem bI_ne {b : Bool} : (¬ bI b = 0) = (b = true) := by cases b <;> simp [bI]
theorem bI_nar {b : Bool} : vp_nar .boolean (bI b) = bI b := by cases b <;> rfl
theorem bI_nr {b : Bool} : narrow .boolean (.int (bI b)) = .int (bI b) := by cases b <;> rfl
theorem bI_ft {b : Bool} : fits .boolean (.int (bI b)) = true := by cases b <;> rfl
theorem bI_inj {a b : Bool} : bI a = bI b ↔ a = b := by cases a <;> cases b <;> simp [bI]
theorem nI_e0 {a : Nat} (h : a < 2 ^ 31) : nI a = 0 ↔ a = 0 := nI_eq (b := 0) h (by decide)
theorem nI_n1 {a : Nat} (h : a < 2 ^ 31) : ¬ nI a = -1 := fun q => nI_pos h (by rw [q]; decide)
theorem nI_n1' {a : Nat} (h : a < 2 ^ 31) : ¬ (-1 : Int32) = nI a := fun q => nI_n1 h q.symm
theorem nI_m1 {a : Nat} (h : 0 < a) : nI a - 1 = nI (a - 1) := pk_sub (b := 1) h
theorem nI_sub {a b : Nat} (h : b ≤ a) : nI a - nI b = nI (a - b) := pk_sub h
theorem nI_mul (a b : Nat) : nI a * nI b = nI (a * b) := pk_mul a b
theorem nI_lt0 {a : Nat} (h : a < 2 ^ 31) : ¬ nI a < 0 := nI_pos h
/-! ===== arrays of counted numbers, and of truths ===== -/
def nA (f : Nat → Nat) : Nat → Int32 := fun j => nI (f j)
def bA (f : Nat → Bool) : Nat → Int32 := fun j => bI (f j)
def updN (f : Nat → Nat) (k x : Nat) : Nat → Nat := fun j => if j = k then x else f j
def updB (f : Nat → Bool) (k : Nat) (x : Bool) : Nat → Bool := fun j => if j = k then x else f j
theorem nA_upd (f : Nat → Nat) (k x : Nat) : upd (nA f) k (nI x) = nA (updN f k x) := by
  funext j; simp only [upd, nA, updN]; split <;> rfl
theorem bA_upd (f : Nat → Bool) (k : Nat) (x : Bool) : upd (bA f) k (bI x) = bA (updB f k x) := by
  funext j; simp only [upd, bA, updB]; split <;> rfl
theorem updN_s (f : Nat → Nat) (k x : Nat) : updN f k x k = x := if_pos rfl
theorem updB_s (f : Nat → Bool) (k : Nat) (x : Bool) : updB f k x k = x := if_pos rfl
theorem updN_n {f : Nat → Nat} {k x j : Nat} (h : j ≠ k) : updN f k x j = f j := if_neg h
theorem updB_n {f : Nat → Bool} {k : Nat} {x : Bool} {j : Nat} (h : j ≠ k) : updB f k x j = f j := if_neg h
theorem upd_s (f : Nat → Int32) (k : Nat) (x : Int32) : upd f k x k = x := if_pos rfl
theorem upd_n {f : Nat → Int32} {k : Nat} {x : Int32} {j : Nat} (h : j ≠ k) : upd f k x j = f j := if_neg h
theorem maxN {a b : Nat} (ha : a < 2 ^ 31) (hb : b < 2 ^ 31) : (if nI a < nI b then nI b else nI a) = nI (max a b) := by
  split
  · next h => rw [Nat.max_eq_right (Nat.le_of_lt ((nI_ltI ha hb).mp h))]
  · next h => rw [Nat.max_eq_left (Nat.not_lt.mp (fun z => h ((nI_ltI ha hb).mpr z)))]
theorem minN {a b : Nat} (ha : a < 2 ^ 31) (hb : b < 2 ^ 31) : (if nI b < nI a then nI b else nI a) = nI (min a b) := by
  split
  · next h => rw [Nat.min_eq_right (Nat.le_of_lt ((nI_ltI hb ha).mp h))]
  · next h => rw [Nat.min_eq_left (Nat.not_lt.mp (fun z => h ((nI_ltI hb ha).mpr z)))]
def fillA (f : Nat → Int32) (n : Nat) (v : Int32) : Nat → Int32 := fun j => if j < n then v else f j
