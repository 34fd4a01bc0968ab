/-! ===== what is made: rows of new things (written by wip/whole/gen/spec10.py) ===== -/
section GNEW
variable {p : Program} {l : Launch} {e : Env} {R : Room} {s : State} {m : MethodId} {args : Array Value} {below : List Frame} {meth : Method} {c : Code} {H : Heap} {locs : List Loc} {cells slots : Nat} {Q : State → Prop}
variable {ws : List Cond} {y : MethodName} {cc : ByteArray} {maxL : Nat} {ret : Option FieldType} {pc : Nat} {ls : Array Slot} {rest : List Value} {g : gC} {w : va_W} {a : Nat}
theorem gAll (hG : gU g s) : ∀ q, s.heap.size ≤ q → gA g q := fun _ h => Nat.le_trans hG.1 h
theorem gPush {x : Nat × va_E} (hP : va_P g.1 vwCl (w ++ [x]) H) (hD : va_D (gA g) (w ++ [x])) : gW g (x :: w) H := gW.perm ⟨hP, hD⟩ (List.perm_append_singleton x w)
theorem gNew {C : String} {T : u_T} {N ci index c2 s2 : Nat} {fs : List Value} (F : gF p s m meth c args ws y cc maxL ret) (hG : gU g s) (hS : va_S (gA g) s.heap H locs) (hW : gW g w H) (hin : ∀ x ∈ u_ws C T N, x ∈ ws) (hc : vwCl[ci]? = some (C, T, N)) (ty0 : Nat → FieldType) (hty : ∀ k, k < N → parseFieldDescriptor (T k).2.2.1 = some (ty0 k)) (h1 : Cond.classLink y.cls index C ∈ ws) (h2 : Cond.instantiable C N ∈ ws) (h3 : Cond.initialized C ∈ ws) (hfs : ∀ j, j < N → defaultValue (ty0 j) = vp_V fs j) (hcs : cells + 1 = c2 ∧ slots + N = s2) (hr : c2 ≤ R.cells ∧ s2 ≤ R.slots) (hd : decode cc pc = .ok (.new index, 3)) (kk : ∀ (q : Nat) (H1 : Heap), gW g ((q, .inr (ci, fs)) :: w) H1 → va_S (gA g) s.heap H1 locs → W p l e R s m args below meth c H1 locs c2 s2 Q (F0 m (pc + 3) ls (.ref q :: rest))) : W p l e R s m args below meth c H locs cells slots Q (F0 m pc ls (rest)) := by
  obtain ⟨rfl, rfl⟩ := hcs
  exact va_new F.1 F.2.1 F.2.2.2.2.1 hin ty0 hty F.2.2.2.2.2.1 (F.2.2.2.2.1 _ h1) (F.2.2.2.2.1 _ h2) (F.2.2.2.2.1 _ h3) hG.2.1 hW.1 hW.2 hS (gAll hG) hc hfs hr.1 hr.2 hd (fun q H1 hP hD hS1 => kk q H1 (gPush hP hD) hS1)
theorem gNewA {atype : ArrayType} {ty : FieldType} {N t0 c2 s2 : Nat} {x : (Nat → Int32) ⊕ (Nat → Int64) ⊕ (Nat → UInt32) ⊕ (Nat → UInt64) ⊕ (Nat → Option Nat)} (F : gF p s m meth c args ws y cc maxL ret) (hG : gU g s) (hS : va_S (gA g) s.heap H locs) (hW : gW g w H) (harr : Cond.arrayClass (newarray.typeOf atype) ∈ ws) (hty : newarray.typeOf atype = ty) (ht : (gTy g)[t0]? = some (g.2.1 t0, ty)) (hp : ∀ C, ty ≠ .object C) (hx : ∀ cA, vp_cell cA (N, x) = arrV cA N (fun _ => defaultValue ty)) (hN : N * componentBytes ty ≤ 536870912 ∧ N < 2 ^ 31) (hcs : cells + 1 = c2 ∧ slots + N = s2) (hr : c2 ≤ R.cells ∧ s2 ≤ R.slots) (hd : decode cc pc = .ok (.newarray atype, 2)) (kk : ∀ (q : Nat) (H1 : Heap), gW g ((q, .inl (g.2.1 t0, N, x)) :: w) H1 → va_S (gA g) s.heap H1 locs → W p l e R s m args below meth c H1 locs c2 s2 Q (F0 m (pc + 2) ls (.ref q :: rest))) : W p l e R s m args below meth c H locs cells slots Q (F0 m pc ls (.int (nI N) :: rest)) := by
  obtain ⟨rfl, rfl⟩ := hcs
  refine va_newa F.1 F.2.1 (F.2.2.2.2.1 _ harr) hty hG.2.1 hW.1 hW.2 hS (gAll hG) (a0 := (N, x)) (N' := N) hx (nI_lt0 hN.2) (nI_clamp hN.2) hN.1 hr.1 hr.2 hd (fun q cA H1 hK hP hD hS1 => ?_)
  have h1 := (hK.2 (gTy g).length (cA, ty) (by rw [List.getElem?_append_right (Nat.le_refl _), Nat.sub_self]; rfl)).2
  have h2 := (hG.2.1.2 t0 _ ht).2
  have h3 : cA = g.2.1 t0 := by
    cases ty with
    | object C => exact absurd rfl (hp C)
    | _ => exact Option.some.inj (h1.symm.trans h2)
  subst h3
  exact kk q H1 (gPush hP hD) hS1
theorem gNewI {N c2 s2 : Nat} (F : gF p s m meth c args ws y cc maxL ret) (hG : gU g s) (hS : va_S (gA g) s.heap H locs) (hW : gW g w H) (harr : Cond.arrayClass .int ∈ ws) (hN : N * 4 ≤ 536870912 ∧ N < 2 ^ 31) (hcs : cells + 1 = c2 ∧ slots + N = s2) (hr : c2 ≤ R.cells ∧ s2 ≤ R.slots) (hd : decode cc pc = .ok (.newarray .int, 2)) (kk : ∀ (q : Nat) (H1 : Heap), gW g ((q, .inl (g.2.1 0, N, .inl (nA (fun _ => 0)))) :: w) H1 → va_S (gA g) s.heap H1 locs → W p l e R s m args below meth c H1 locs c2 s2 Q (F0 m (pc + 2) ls (.ref q :: rest))) : W p l e R s m args below meth c H locs cells slots Q (F0 m pc ls (.int (nI N) :: rest)) :=
  gNewA (atype := .int) (ty := .int) (t0 := 0) F hG hS hW harr rfl rfl (fun _ h => by cases h) (fun _ => rfl) hN hcs hr hd kk
theorem gNewIR {N c2 s2 : Nat} (F : gF p s m meth c args ws y cc maxL ret) (hG : gU g s) (hS : va_S (gA g) s.heap H locs) (hW : gW g w H) (harr : Cond.arrayClass .int ∈ ws) (hN : N * 4 ≤ 536870912 ∧ N < 2 ^ 31) (hcs : cells + 1 = c2 ∧ slots + N = s2) (hr : c2 ≤ R.cells ∧ s2 ≤ R.slots) (hd : decode cc pc = .ok (.newarray .int, 2)) (kk : ∀ (q : Nat) (H1 : Heap), gW g ((q, .inl (g.2.1 0, N, .inl (fun _ => nI 0))) :: w) H1 → va_S (gA g) s.heap H1 locs → W p l e R s m args below meth c H1 locs c2 s2 Q (F0 m (pc + 2) ls (.ref q :: rest))) : W p l e R s m args below meth c H locs cells slots Q (F0 m pc ls (.int (nI N) :: rest)) :=
  gNewA (atype := .int) (ty := .int) (t0 := 0) F hG hS hW harr rfl rfl (fun _ h => by cases h) (fun _ => rfl) hN hcs hr hd kk
theorem gNewZ {N c2 s2 : Nat} (F : gF p s m meth c args ws y cc maxL ret) (hG : gU g s) (hS : va_S (gA g) s.heap H locs) (hW : gW g w H) (harr : Cond.arrayClass .boolean ∈ ws) (hN : N * 1 ≤ 536870912 ∧ N < 2 ^ 31) (hcs : cells + 1 = c2 ∧ slots + N = s2) (hr : c2 ≤ R.cells ∧ s2 ≤ R.slots) (hd : decode cc pc = .ok (.newarray .boolean, 2)) (kk : ∀ (q : Nat) (H1 : Heap), gW g ((q, .inl (g.2.1 1, N, .inl (bA (fun _ => false)))) :: w) H1 → va_S (gA g) s.heap H1 locs → W p l e R s m args below meth c H1 locs c2 s2 Q (F0 m (pc + 2) ls (.ref q :: rest))) : W p l e R s m args below meth c H locs cells slots Q (F0 m pc ls (.int (nI N) :: rest)) :=
  gNewA (atype := .boolean) (ty := .boolean) (t0 := 1) F hG hS hW harr rfl rfl (fun _ h => by cases h) (fun _ => rfl) hN hcs hr hd kk
theorem gNewJ {N c2 s2 : Nat} (F : gF p s m meth c args ws y cc maxL ret) (hG : gU g s) (hS : va_S (gA g) s.heap H locs) (hW : gW g w H) (harr : Cond.arrayClass .long ∈ ws) (hN : N * 8 ≤ 536870912 ∧ N < 2 ^ 31) (hcs : cells + 1 = c2 ∧ slots + N = s2) (hr : c2 ≤ R.cells ∧ s2 ≤ R.slots) (hd : decode cc pc = .ok (.newarray .long, 2)) (kk : ∀ (q : Nat) (H1 : Heap), gW g ((q, .inl (g.2.1 2, N, .inr (.inl (lA (fun _ => 0))))) :: w) H1 → va_S (gA g) s.heap H1 locs → W p l e R s m args below meth c H1 locs c2 s2 Q (F0 m (pc + 2) ls (.ref q :: rest))) : W p l e R s m args below meth c H locs cells slots Q (F0 m pc ls (.int (nI N) :: rest)) :=
  gNewA (atype := .long) (ty := .long) (t0 := 2) F hG hS hW harr rfl rfl (fun _ h => by cases h) (fun _ => rfl) hN hcs hr hd kk
theorem gNewB {N c2 s2 : Nat} (F : gF p s m meth c args ws y cc maxL ret) (hG : gU g s) (hS : va_S (gA g) s.heap H locs) (hW : gW g w H) (harr : Cond.arrayClass .byte ∈ ws) (hN : N * 1 ≤ 536870912 ∧ N < 2 ^ 31) (hcs : cells + 1 = c2 ∧ slots + N = s2) (hr : c2 ≤ R.cells ∧ s2 ≤ R.slots) (hd : decode cc pc = .ok (.newarray .byte, 2)) (kk : ∀ (q : Nat) (H1 : Heap), gW g ((q, .inl (g.2.1 3, N, .inl (yA (fun _ => 0)))) :: w) H1 → va_S (gA g) s.heap H1 locs → W p l e R s m args below meth c H1 locs c2 s2 Q (F0 m (pc + 2) ls (.ref q :: rest))) : W p l e R s m args below meth c H locs cells slots Q (F0 m pc ls (.int (nI N) :: rest)) :=
  gNewA (atype := .byte) (ty := .byte) (t0 := 3) F hG hS hW harr rfl rfl (fun _ h => by cases h) (fun _ => rfl) hN hcs hr hd kk
/-- the first k names -/
def nmK (g : gC) (k : Nat) : Nat → Option Nat := fun j => if j < k then some (g.2.2.2 (20 + j)) else none
theorem nmK_0 : nmK g 0 = fun _ => none := funext fun j => if_neg (Nat.not_lt_zero j)
theorem nmK_s (k : Nat) : va_up (nmK g k) k (some (g.2.2.2 (20 + k))) = nmK g (k + 1) := by
  funext j
  unfold va_up nmK
  by_cases h : j = k
  · rw [if_pos h, if_pos (by omega), h]
  · rw [if_neg h]
    by_cases h2 : j < k
    · rw [if_pos h2, if_pos (by omega)]
    · rw [if_neg h2, if_neg (by omega)]
theorem gNewNm {index c2 s2 : Nat} (F : gF p s m meth c args ws y cc maxL ret) (hG : gU g s) (hE : va_AO "java/lang/String" s) (hS : va_S (gA g) s.heap H locs) (hW : gW g w H) (h1 : Cond.classLink y.cls index "java/lang/String" ∈ ws) (hcs : cells + 1 = c2 ∧ slots + 15 = s2) (hr : c2 ≤ R.cells ∧ s2 ≤ R.slots) (hd : decode cc pc = .ok (.anewarray index, 3)) (kk : ∀ (q : Nat) (H1 : Heap), gW g ((q, .inl (g.2.1 4, 15, .inr (.inr (.inr (.inr (nmK g 0)))))) :: w) H1 → va_S (gA g) s.heap H1 locs → W p l e R s m args below meth c H1 locs c2 s2 Q (F0 m (pc + 3) ls (.ref q :: rest))) : W p l e R s m args below meth c H locs cells slots Q (F0 m pc ls (.int (nI 15) :: rest)) := by
  obtain ⟨rfl, rfl⟩ := hcs
  rw [nmK_0] at kk
  refine va_newq F.1 F.2.1 F.2.2.2.2.2.1 (F.2.2.2.2.1 _ h1) hE hG.2.1 hW.1 hW.2 hS (gAll hG) (N' := 15) (by decide) (by decide) (by decide) hr.1 hr.2 hd (fun q cA H1 hK hP hD hS1 => ?_)
  have h1 := (hK.2 (gTy g).length (cA, .object "java/lang/String") (by rw [List.getElem?_append_right (Nat.le_refl _), Nat.sub_self]; rfl)).2
  have h2 := (hG.2.1.2 4 _ rfl).2
  obtain ⟨-, -, -, -, -, e1⟩ := h1
  obtain ⟨-, -, -, -, -, e2⟩ := h2
  have h3 : cA = g.2.1 4 := Option.some.inj (e1.symm.trans e2)
  subst h3
  exact kk q H1 (gPush hP hD) hS1
theorem gStrAny {k : Nat} (hG : gU g s) (hS : va_S (gA g) s.heap H locs) (hk : k < 15) : va_Any "java/lang/String" s H (g.2.2.2 (20 + k)) := by
  obtain ⟨cell, h1, h2, h3⟩ := vk_recv (adK := fun i => g.2.2.2 (20 + i)) hG.2.2.1.2.2.2.2.2.2.2.2.2.2.1 hk hS
  obtain ⟨kC, hkC, -⟩ := Vm.findClass_spec h3
  refine ⟨cell, h1, h2, ⟨kC, hkC⟩, fun comp hc => ?_⟩
  have e : comp = cell.cls := Option.some.inj (hc.symm.trans h3)
  subst e
  show s.vm.assignableAux (255 + 1) _ _ = true
  unfold Vm.assignableAux
  simp only [beq_self_eq_true, Bool.true_or]
theorem gStNm {k : Nat} (F : gF p s m meth c args ws y cc maxL ret) (hG : gU g s) (hS : va_S (gA g) s.heap H locs) (hW : gW g w H) (q0 : Nat) (ha : w[q0]? = some (a, .inl (g.2.1 4, 15, .inr (.inr (.inr (.inr (nmK g k))))))) (hk : k < 15) {w2 : va_W} (hw2 : w.set q0 (a, .inl (g.2.1 4, 15, .inr (.inr (.inr (.inr (nmK g (k + 1))))))) = w2) (hd : decode cc pc = .ok (.aastore, 1)) (kk : ∀ (H1 : Heap) (locs1 : List Loc), gW g w2 H1 → va_S (gA g) s.heap H1 locs1 → W p l e R s m args below meth c H1 locs1 cells slots Q (F0 m (pc + 1) ls (rest))) : W p l e R s m args below meth c H locs cells slots Q (F0 m pc ls (.ref (g.2.2.2 (20 + k)) :: .int (nI k) :: .ref a :: rest)) := by
  refine va_astqM F.1 F.2.1 hG.2.1 hW.1 hW.2 hS q0 4 ha rfl (gStrAny hG hS hk) (vp_in_nI hk (by decide)) hd (fun H1 locs1 hP hD hS1 => ?_)
  rw [nI_clamp (by omega), nmK_s, hw2] at hP hD
  exact kk H1 locs1 ⟨hP, hD⟩ hS1
theorem gLdc {index k : Nat} {tx : String} (F : gF p s m meth c args ws y cc maxL ret) (hG : gU g s) (hk : (y.cls, index, tx, k) ∈ gKR) (hd : decode cc pc = .ok (.ldc index, 2)) (kk : W p l e R s m args below meth c H locs cells slots Q (F0 m (pc + 2) ls (.ref (g.2.2.2 k) :: rest))) : W p l e R s m args below meth c H locs cells slots Q (F0 m pc ls (rest)) :=
  va_ldcS F.1 F.2.1 F.2.2.2.2.2.1 (hG.2.2.2.2.2.2.1 _ hk) hd kk
theorem gsQ {index : Nat} {C n d : String} (F : gF p s m meth c args ws y cc maxL ret) (hS : va_S (gA g) s.heap H locs) (hZ : va_Zq C n d (gA g) s s.heap) (hlink : Cond.fieldLink y.cls index C n d ∈ ws) (hd : decode cc pc = .ok (.getstatic index, 3)) (kk : ∀ v : Value, (v = .null ∨ ∃ t, v = .ref t) → W p l e R s m args below meth c H locs cells slots Q (F0 m (pc + 3) ls (v :: rest))) : W p l e R s m args below meth c H locs cells slots Q (F0 m pc ls (rest)) := by
  rcases hZ with h | ⟨t, h⟩
  · exact va_gets F.1 F.2.1 h hS F.2.2.2.2.2.1 (F.2.2.2.2.1 _ hlink) (fun _ h => h) hd (kk _ (Or.inl rfl))
  · exact va_gets F.1 F.2.1 h hS F.2.2.2.2.2.1 (F.2.2.2.2.1 _ hlink) (fun _ h => h) hd (kk _ (Or.inr ⟨t, rfl⟩))
theorem gW.arrQ {w' : va_W} {t n : Nat} {f f' : Nat → Option Nat} (h : gW g w H) (q0 : Nat) (he : w[q0]? = some (a, .inl (g.2.1 t, n, .inr (.inr (.inr (.inr f)))))) (hf : ∀ j, j < n → f j = f' j) (hw : w.set q0 (a, .inl (g.2.1 t, n, .inr (.inr (.inr (.inr f'))))) = w') : gW g w' H := by
  subst hw
  refine ⟨fun k q hk => ?_, h.2.set he⟩
  rw [List.getElem?_set] at hk
  split at hk
  · next e =>
    split at hk
    · cases hk
      have h1 := h.1 q0 _ he
      show H[a]? = some (vp_cell _ _)
      have h2 : vp_cell (g.2.1 t) (n, .inr (.inr (.inr (.inr f')))) = vp_cell (g.2.1 t) (n, .inr (.inr (.inr (.inr f)))) := by
        rw [vp_cell_q, vp_cell_q]
        unfold arrV
        congr 2
        funext j
        show va_rf (f' j.val) = va_rf (f j.val)
        rw [hf j.val j.isLt]
      rw [h2]
      exact h1
    · cases hk
  · exact h.1 k q hk
theorem gI_v {y2 : MethodName} {ws2 ws3 : List Cond} {rm : Room} {mc ms n index ml2 c2 s2 : Nat} {bytes : ByteArray} {w2 : va_W} {As : List Value} {b : Nat} {Qr : va_W → Prop} (F : gF p s m meth c args ws y cc maxL ret) (hG : gU g s) (hS : va_S (gA g) s.heap H locs) (hW : gW g w2 H) (hC : cV g l y2 ws2 rm mc ms (.ref b :: As) w2 Qr) (hw : ws2 = Cond.code y2 bytes ml2 none :: ws3) (hT : GoodIn ws ws2) (hini : Cond.initialized y2.cls ∈ ws) (hl : Cond.methodLink y.cls index y2 ∈ ws) (hin : Cond.instanceMethod y2 ∈ ws) (hy1 : y2.name = "<init>") (hy2 : y2.cls ≠ "java/lang/invoke/MethodHandle" ∧ y2.cls ≠ "java/lang/invoke/VarHandle" ∧ (parseMethodDescriptor y2.desc).map (fun d => d.parameters.length) = some n) (hRm : rm.cells = mc ∧ rm.slots = ms ∧ rm.frames + 1 ≤ R.frames ∧ 8 + (ml2 + 11) + rm.locals ≤ R.locals) (hsz : ls.size = maxL) (hW8 : (rest.map fun v => v.category).sum ≤ 8) (hcs : cells + mc ≤ R.cells ∧ slots + ms ≤ R.slots) (hc2 : cells + mc = c2 ∧ slots + ms = s2) (hn : As.length = n) {st : List Value} (hst : st = As.reverse ++ .ref b :: rest) (hd : decode cc pc = .ok (.invokespecial index, 3)) (kk : ∀ (u : va_W) (H1 : Heap) (locs1 : List Loc), Qr u → gW g u H1 → va_S (gA g) s.heap H1 locs1 → W p l e R s m args below meth c H1 locs1 c2 s2 Q (F0 m (pc + 3) ls (rest))) : W p l e R s m args below meth c H locs cells slots Q (F0 m pc ls (st)) := by
  obtain ⟨rfl, rfl⟩ := hc2
  exact gCv (va_runI (As := As) (rest := rest) ⟨F.1, F.2.1, F.2.2.2.1, F.2.2.2.2.2.1, F.2.2.2.2.1⟩ hC (cwI n F.2.2.2.2.1 hT hw hRm.1 hRm.2.1 (F.2.2.2.2.1 _ hini) (F.2.2.2.2.1 _ hl) (F.2.2.2.2.1 _ hin) hy1 hy2 hRm.2.2) (gPreS hG hS hW) rfl hn hsz hst (lv_room hW8) hd hcs) hS kk
theorem gIN_v {y2 : MethodName} {ws2 ws3 : List Cond} {rm : Room} {mc ms n index ml2 c2 s2 : Nat} {bytes : ByteArray} {host : String} {w2 : va_W} {As : List Value} {b : Nat} {Qr : va_W → Prop} (F : gF p s m meth c args ws y cc maxL ret) (hG : gU g s) (hS : va_S (gA g) s.heap H locs) (hW : gW g w2 H) (hC : cV g l y2 ws2 rm mc ms (.ref b :: As) w2 Qr) (hw : ws2 = Cond.code y2 bytes ml2 none :: ws3) (hT : GoodIn ws ws2) (hN : (y.cls, index, y2, host) ∈ gNM) (hini : Cond.initialized y2.cls ∈ ws) (hin : Cond.instanceMethod y2 ∈ ws) (hy1 : y2.name = "<init>") (hy2 : y2.cls ≠ "java/lang/invoke/MethodHandle" ∧ y2.cls ≠ "java/lang/invoke/VarHandle" ∧ (parseMethodDescriptor y2.desc).map (fun d => d.parameters.length) = some n) (hRm : rm.cells = mc ∧ rm.slots = ms ∧ rm.frames + 1 ≤ R.frames ∧ 8 + (ml2 + 11) + rm.locals ≤ R.locals) (hsz : ls.size = maxL) (hW8 : (rest.map fun v => v.category).sum ≤ 8) (hcs : cells + mc ≤ R.cells ∧ slots + ms ≤ R.slots) (hc2 : cells + mc = c2 ∧ slots + ms = s2) (hn : As.length = n) {st : List Value} (hst : st = As.reverse ++ .ref b :: rest) (hd : decode cc pc = .ok (.invokespecial index, 3)) (kk : ∀ (u : va_W) (H1 : Heap) (locs1 : List Loc), Qr u → gW g u H1 → va_S (gA g) s.heap H1 locs1 → W p l e R s m args below meth c H1 locs1 c2 s2 Q (F0 m (pc + 3) ls (rest))) : W p l e R s m args below meth c H locs cells slots Q (F0 m pc ls (st)) := by
  obtain ⟨rfl, rfl⟩ := hc2
  exact gCv (va_runIN (As := As) (rest := rest) ⟨F.1, F.2.1, F.2.2.2.1, F.2.2.2.2.2.1, F.2.2.2.2.1⟩ hC ⟨va_cnB n F.2.2.2.2.1 hT hw hRm.1 hRm.2.1 (hG.2.2.2.2.2.1 _ hN) (F.2.2.2.2.1 _ hini) hy2 hRm.2.2, hy1, F.2.2.2.2.1 _ hin⟩ (gPreS hG hS hW) rfl hn hsz hst (lv_room hW8) hd hcs) hS kk
end GNEW
/-- a contract with a premise of its own -/
def cVE (g : gC) (l : Launch) (y : MethodName) (ws : List Cond) (rm : Room) (mc ms : Nat) (as : List Value) (E : State → Prop) (w : va_W) (Q : va_W → Prop) : Prop :=
  Met l y ws rm (va_Pc as (fun U => (gU g U ∧ E U) ∧ gW g w U.heap)) (va_Qv Q (fun u t => gW g u t.heap) (gA g)) mc ms (gA g)
theorem gEnterE {g : gC} {l : Launch} {y : MethodName} {ws ws' : List Cond} {rm : Room} {mc ms : Nat} {as : List Value} {w : va_W} {cc : ByteArray} {maxL : Nat} {ret : Option FieldType} {E : State → Prop} {Qc : Array Value → State → Outcome → State → Prop} (hy : plainName y.cls = true) (hw : ws = Cond.code y cc maxL ret :: ws') (hl : (lg_sl as).length ≤ maxL)
    (body : ∀ (p : Program) (e : Env) (s : State) (m : MethodId) (below : List Frame) (meth : Method) (c : Code), gF p s m meth c as.toArray ws y cc maxL ret → gU g s → E s → gW g w s.heap → ∀ ls : Array Slot, lv_has ls maxL (lv_args 0 as) →
      W p l e (headSpec ws rm).room s m as.toArray below meth c s.heap [] 0 0 (MQ below Qc as.toArray s mc ms (gA g)) (F0 m 0 ls [])) :
    Met l y ws rm (va_Pc as (fun U => (gU g U ∧ E U) ∧ gW g w U.heap)) Qc mc ms (gA g) := by
  refine Met.ofW (cc := cc) (maxL := maxL) (ret := ret) hy hw ?_
  intro p e s m args below meth c s₁ B hml hv
  obtain ⟨rfl, ⟨hG, hE⟩, hW⟩ := hv
  have h1 := lv_entry as (n := maxL) hl
  rw [lg_entry_eq]
  exact body p e s m below meth c ⟨B.exec, B.bytes, B.returns, hml, atoms_spec (ws := ws) B.pre, findClass_of_methodNamed B.named, B.notSynchronized, (name_of_methodNamed B.named B.method).1⟩ hG hE hW _ h1

