/-! ===== the class's own calls (written by wip/whole/gen/spec8.py) ===== -/
theorem ixo {x : Int32} {n : Nat} (h : x < 0 ∨ nI n ≤ x) (h1 : ¬ x < 0) (h2 : x < nI n) : False := h.elim h1 (fun z => Int32.not_lt.mpr z h2)
theorem ixo2 {x : Int32} {n : Nat} (h : x < 0 ∨ nI n ≤ x) (h1 : ¬ x < 0) (h2 : ¬ nI n ≤ x) : False := h.elim h1 h2
/-- an int among 0, 1, .. below n, or not: for a switch -/
theorem swc {x : Int32} {n : Nat} (h : x < 0 ∨ nI n ≤ x) (hn : n < 2 ^ 31) : x.toInt < 0 ∨ (n : Int) - 1 < x.toInt := by
  rcases h with h | h
  · have := Int32.lt_iff_toInt_lt.mp h
    rw [show (0 : Int32).toInt = 0 from rfl] at this
    omega
  · have := Int32.le_iff_toInt_le.mp h
    rw [nI_toInt hn] at this
    omega
theorem sw3 (x : Int32) : (x < 0 ∨ nI 3 ≤ x) ∨ x = nI 0 ∨ x = nI 1 ∨ x = nI 2 := by
  rcases ixc x (n := 3) (by decide) with h | ⟨j, hj, rfl⟩
  · exact Or.inl h
  · rcases (show j = 0 ∨ j = 1 ∨ j = 2 by omega) with rfl | rfl | rfl
    · exact Or.inr (Or.inl rfl)
    · exact Or.inr (Or.inr (Or.inl rfl))
    · exact Or.inr (Or.inr (Or.inr rfl))
theorem sw5 (x : Int32) : (x < 0 ∨ nI 5 ≤ x) ∨ x = nI 0 ∨ x = nI 1 ∨ x = nI 2 ∨ x = nI 3 ∨ x = nI 4 := by
  rcases ixc x (n := 5) (by decide) with h | ⟨j, hj, rfl⟩
  · exact Or.inl h
  · rcases (show j = 0 ∨ j = 1 ∨ j = 2 ∨ j = 3 ∨ j = 4 by omega) with rfl | rfl | rfl | rfl | rfl
    · exact Or.inr (Or.inl rfl)
    · exact Or.inr (Or.inr (Or.inl rfl))
    · exact Or.inr (Or.inr (Or.inr (Or.inl rfl)))
    · exact Or.inr (Or.inr (Or.inr (Or.inr (Or.inl rfl))))
    · exact Or.inr (Or.inr (Or.inr (Or.inr (Or.inr rfl))))
theorem sw6 (x : Int32) : (x < 0 ∨ nI 6 ≤ x) ∨ x = nI 0 ∨ x = nI 1 ∨ x = nI 2 ∨ x = nI 3 ∨ x = nI 4 ∨ x = nI 5 := by
  rcases ixc x (n := 6) (by decide) with h | ⟨j, hj, rfl⟩
  · exact Or.inl h
  · rcases (show j = 0 ∨ j = 1 ∨ j = 2 ∨ j = 3 ∨ j = 4 ∨ j = 5 by omega) with rfl | rfl | rfl | rfl | rfl | rfl
    · exact Or.inr (Or.inl rfl)
    · exact Or.inr (Or.inr (Or.inl rfl))
    · exact Or.inr (Or.inr (Or.inr (Or.inl rfl)))
    · exact Or.inr (Or.inr (Or.inr (Or.inr (Or.inl rfl))))
    · exact Or.inr (Or.inr (Or.inr (Or.inr (Or.inr (Or.inl rfl)))))
    · exact Or.inr (Or.inr (Or.inr (Or.inr (Or.inr (Or.inr rfl)))))
/-- one of three, or none -/
def selS {α : Type} (x : Int32) (a b c d : α) : α := ixS x 3 (fun j => if j = 0 then a else if j = 1 then b else c) d
def sel6 {α : Type} (x : Int32) (a0 a1 a2 a3 a4 a5 d : α) : α := ixS x 6 (fun j => if j = 0 then a0 else if j = 1 then a1 else if j = 2 then a2 else if j = 3 then a3 else if j = 4 then a4 else a5) d
def isKd (x : Int32) : Bool := ixS x 15 (fun _ => true) false
theorem isKd_n {k : Nat} (h : k < 15) : isKd (nI k) = true := ixS_in h (by decide)
theorem isKd_o {x : Int32} (h : x < 0 ∨ nI 15 ≤ x) : isKd x = false := (ixS_out h (by decide) : ixS x 15 (fun _ => true) false = false)
def okS (t : Nat) (r : Int32) : Int32 := if t = 0 then r else -1
/-- join: what it is refused by -/
def jnT (sz : Nat) (P : Nat → Bool) (x y : Int32) : Nat := ixS x 15 (fun j => ixS y 15 (fun k => if 10 ≤ sz ∨ P (j * 15 + k) = true then 2 else 0) 1) 1
def jnP (sz : Nat) (P : Nat → Bool) (x y : Int32) : Nat → Bool := if jnT sz P x y = 0 then updB P (x.toInt.toNat * 15 + y.toInt.toNat) true else P
theorem nI_nat {j : Nat} (h : j < 2 ^ 31) : (nI j).toInt.toNat = j := by rw [nI_toInt h]; rfl
def mxS (fw : Nat → Nat) : Nat → Option Nat × Nat
  | 0 => (none, 0)
  | q + 1 => if (mxS fw q).2 < fw q then (some q, fw q) else mxS fw q
theorem mxS_lt {fw : Nat → Nat} : ∀ {m q : Nat}, (mxS fw m).1 = some q → q < m
  | 0, _, h => by cases h
  | m + 1, q, h => by
    unfold mxS at h
    split at h
    · cases h; exact Nat.lt_succ_self _
    · exact Nat.lt_succ_of_lt (mxS_lt h)
def mostS (fw : Nat → Nat) : Int32 := match (mxS fw 225).1 with | none => -2 | some q => nI (q / 15 * 100 + q % 15)
def betS : Option Nat → Int32 | none => -1 | some q => nI (q / 15 * 100 + q % 15)
/-- the heart's number and the fuel: 1 where they are refused -/
def rfS (n : Nat) (x f : Int32) : Nat := if n = 0 then 4 else ixS x 5 (fun _ => if f < nI 1 ∨ nI 5000 < f then 1 else 0) 1

abbrev rm_X11_isKind_o : Room := ({ frames := 0, cells := 0, slots := 0, locals := 0 } : Room)
set_option maxRecDepth 100000 in
set_option maxHeartbeats 4000000 in
theorem c_X11_isKind_o (g : gC) (l : Launch) {x : Int32} {R : va_W} (hx : x < 0 ∨ nI 15 ≤ x) : cI g l yX11_isKind wsX11_isKind rm_X11_isKind_o 0 0 [.int x] (R) (fun r u => (bI false) = r ∧ R = u) := by
  refine gEnterQ (cc := cX11_isKind) (maxL := 1) (ret := (some (.boolean))) (by decide +kernel) rfl (Nat.le_of_ble_eq_true rfl) ?_
  intro p e s m below meth c F hG hW ls hl
  have hS : va_S (gA g) s.heap s.heap [] := va_S.rf
  have hl : lv_has ls 1 [(0, .int x)] := hl
  have hW : gW g (R) s.heap := hW
  refine lv_iload_n F.1 F.2.1 dX11_isKind_0 rfl (lv_at hl 0 rfl) ?_
  refine lv_if_lt (tgt := 14) F.1 F.2.1 dX11_isKind_1 (by decide) (fun c_1 => ?_) (fun c_1 => ?_)
  · refine lv_iconst (v := nI 0) F.1 F.2.1 dX11_isKind_14 rfl ?_
    refine gRz rfl F hW hS dX11_isKind_15 ?_
    exact ⟨rfl, rfl⟩
  · refine lv_iload_n F.1 F.2.1 dX11_isKind_4 rfl (lv_at hl 0 rfl) ?_
    refine lv_bipush (v := nI 15) F.1 F.2.1 dX11_isKind_5 (by decide) ?_
    refine lv_icmp_ge (tgt := 14) F.1 F.2.1 dX11_isKind_7 (by decide) (fun c_7 => ?_) (fun q => (ixo2 hx c_1 q).elim)
    refine lv_iconst (v := nI 0) F.1 F.2.1 dX11_isKind_14 rfl ?_
    refine gRz rfl F hW hS dX11_isKind_15 ?_
    exact ⟨rfl, rfl⟩

abbrev rm_X11_count : Room := ({ frames := 0, cells := 0, slots := 0, locals := 0 } : Room)
theorem mX11_count_1 : Cond.fieldLink RX11 73 "StepperHearts" "current" "LStepperHearts$Program;" ∈ wsX11_count := List.mem_of_getElem? (i := 1) rfl
theorem nX11_count_X11 : ∀ w ∈ wsX110, w ∈ wsX11_count := fun _ h => List.mem_cons_of_mem _ (List.mem_append_left _ (List.mem_append_left _ (List.mem_append_right _ (h))))
theorem fX11_count_107 : (yX11_count.cls, 107, "StepperHearts$Program", "size", "I", "StepperHearts") ∈ gNF := List.mem_of_getElem? (i := 18) rfl
theorem nX11_count_X8 : ∀ w ∈ wsX80, w ∈ wsX11_count := fun _ h => List.mem_cons_of_mem _ (List.mem_append_left _ (List.mem_append_right _ (h)))
theorem mX11_count_2 : Cond.fieldLink RX11 23 "StepperHearts" "joins" "LStepperHearts$Joins;" ∈ wsX11_count := List.mem_of_getElem? (i := 2) rfl
theorem fX11_count_139 : (yX11_count.cls, 139, "StepperHearts$Joins", "size", "I", "StepperHearts") ∈ gNF := List.mem_of_getElem? (i := 1) rfl
theorem nX11_count_X3 : ∀ w ∈ wsX30, w ∈ wsX11_count := fun _ h => List.mem_cons_of_mem _ (List.mem_append_right _ (h))
theorem mX11_count_3 : Cond.fieldLink RX11 80 "StepperHearts" "tapeLength" "I" ∈ wsX11_count := List.mem_of_getElem? (i := 3) rfl
set_option maxRecDepth 100000 in
set_option maxHeartbeats 4000000 in
theorem c_X11_count (g : gC) (l : Launch) {o : Nat} {ta : Nat} {rd : Nat} {jn : Nat} {jp : Nat} {sw : Nat} {rt : Nat} {jh : Nat} {kh : Nat} {th : Nat} {la : Nat} {lb : Nat} {cu : Nat} {pk : Nat} {po : Nat} {pm : Nat} {sq : Nat} {tl : Nat} {lf : Nat} {lt : Nat} {sz : Nat} {n : Nat} {inp : Int32} {bp : Int32} {x : Int32} {R : va_W} : cI g l yX11_count wsX11_count rm_X11_count 0 0 [.ref o, .int x] ((o, .inr (8, [.ref ta, .ref rd, .ref jn, .ref sw, .ref rt, .ref jh, .ref kh, .ref th, .ref la, .ref lb, .ref cu, .ref sq, .int (nI tl), .int (nI lf), .int inp, .int bp, .int (nI lt)])) :: (cu, .inr (5, [.ref pk, .ref po, .ref pm, .int (nI n)])) :: (jn, .inr (1, [.ref jp, .int (nI sz)])) :: R) (fun r u => (selS x (nI n) (nI sz) (nI tl) (-1)) = r ∧ (o, .inr (8, [.ref ta, .ref rd, .ref jn, .ref sw, .ref rt, .ref jh, .ref kh, .ref th, .ref la, .ref lb, .ref cu, .ref sq, .int (nI tl), .int (nI lf), .int inp, .int bp, .int (nI lt)])) :: (cu, .inr (5, [.ref pk, .ref po, .ref pm, .int (nI n)])) :: (jn, .inr (1, [.ref jp, .int (nI sz)])) :: R = u) := by
  refine gEnterQ (cc := cX11_count) (maxL := 2) (ret := (some (.int))) (by decide +kernel) rfl (Nat.le_of_ble_eq_true rfl) ?_
  intro p e s m below meth c F hG hW ls hl
  have hS : va_S (gA g) s.heap s.heap [] := va_S.rf
  have hl : lv_has ls 2 [(0, .ref o), (1, .int x)] := hl
  have hW : gW g ((o, .inr (8, [.ref ta, .ref rd, .ref jn, .ref sw, .ref rt, .ref jh, .ref kh, .ref th, .ref la, .ref lb, .ref cu, .ref sq, .int (nI tl), .int (nI lf), .int inp, .int bp, .int (nI lt)])) :: (cu, .inr (5, [.ref pk, .ref po, .ref pm, .int (nI n)])) :: (jn, .inr (1, [.ref jp, .int (nI sz)])) :: R) s.heap := hW
  rcases sw3 x with hx | rfl | rfl | rfl
  · have hl : lv_has ls 2 [(0, .ref o), (1, .int x)] := hl
    have hW : gW g ((o, .inr (8, [.ref ta, .ref rd, .ref jn, .ref sw, .ref rt, .ref jh, .ref kh, .ref th, .ref la, .ref lb, .ref cu, .ref sq, .int (nI tl), .int (nI lf), .int inp, .int bp, .int (nI lt)])) :: (cu, .inr (5, [.ref pk, .ref po, .ref pm, .int (nI n)])) :: (jn, .inr (1, [.ref jp, .int (nI sz)])) :: R) s.heap := hW
    refine lv_iload_n F.1 F.2.1 dX11_count_0 rfl (lv_at hl 1 rfl) ?_
    refine lv_tableOut (tgt := 49) F.1 F.2.1 dX11_count_1 (swc hx (by decide)) (by decide) ?_
    refine lv_iconst (v := -1) F.1 F.2.1 dX11_count_49 rfl ?_
    refine gRi F hW hS dX11_count_50 ?_
    exact ⟨ixS_out hx (by decide), rfl⟩
  · have hl : lv_has ls 2 [(0, .ref o), (1, .int (nI 0))] := hl
    have hW : gW g ((o, .inr (8, [.ref ta, .ref rd, .ref jn, .ref sw, .ref rt, .ref jh, .ref kh, .ref th, .ref la, .ref lb, .ref cu, .ref sq, .int (nI tl), .int (nI lf), .int inp, .int bp, .int (nI lt)])) :: (cu, .inr (5, [.ref pk, .ref po, .ref pm, .int (nI n)])) :: (jn, .inr (1, [.ref jp, .int (nI sz)])) :: R) s.heap := hW
    refine lv_iload_n F.1 F.2.1 dX11_count_0 rfl (lv_at hl 1 rfl) ?_
    refine lv_tableIn (tgt := 28) F.1 F.2.1 dX11_count_1 (by decide) (by decide) rfl (by decide) ?_
    refine lv_aload_n F.1 F.2.1 dX11_count_28 rfl (lv_at hl 0 rfl) ?_
    refine gGet F hG hW nX11_count_X11 0 rfl rfl 10 (by decide) mX11_count_1 rfl dX11_count_29 ?_
    refine gGetN F hG hW nX11_count_X8 1 rfl rfl 3 (by decide) fX11_count_107 rfl dX11_count_32 ?_
    refine gRi F hW hS dX11_count_35 ?_
    exact ⟨rfl, rfl⟩
  · have hl : lv_has ls 2 [(0, .ref o), (1, .int (nI 1))] := hl
    have hW : gW g ((o, .inr (8, [.ref ta, .ref rd, .ref jn, .ref sw, .ref rt, .ref jh, .ref kh, .ref th, .ref la, .ref lb, .ref cu, .ref sq, .int (nI tl), .int (nI lf), .int inp, .int bp, .int (nI lt)])) :: (cu, .inr (5, [.ref pk, .ref po, .ref pm, .int (nI n)])) :: (jn, .inr (1, [.ref jp, .int (nI sz)])) :: R) s.heap := hW
    refine lv_iload_n F.1 F.2.1 dX11_count_0 rfl (lv_at hl 1 rfl) ?_
    refine lv_tableIn (tgt := 36) F.1 F.2.1 dX11_count_1 (by decide) (by decide) rfl (by decide) ?_
    refine lv_aload_n F.1 F.2.1 dX11_count_36 rfl (lv_at hl 0 rfl) ?_
    refine gGet F hG hW nX11_count_X11 0 rfl rfl 2 (by decide) mX11_count_2 rfl dX11_count_37 ?_
    refine gGetN F hG hW nX11_count_X3 2 rfl rfl 1 (by decide) fX11_count_139 rfl dX11_count_40 ?_
    refine gRi F hW hS dX11_count_43 ?_
    exact ⟨rfl, rfl⟩
  · have hl : lv_has ls 2 [(0, .ref o), (1, .int (nI 2))] := hl
    have hW : gW g ((o, .inr (8, [.ref ta, .ref rd, .ref jn, .ref sw, .ref rt, .ref jh, .ref kh, .ref th, .ref la, .ref lb, .ref cu, .ref sq, .int (nI tl), .int (nI lf), .int inp, .int bp, .int (nI lt)])) :: (cu, .inr (5, [.ref pk, .ref po, .ref pm, .int (nI n)])) :: (jn, .inr (1, [.ref jp, .int (nI sz)])) :: R) s.heap := hW
    refine lv_iload_n F.1 F.2.1 dX11_count_0 rfl (lv_at hl 1 rfl) ?_
    refine lv_tableIn (tgt := 44) F.1 F.2.1 dX11_count_1 (by decide) (by decide) rfl (by decide) ?_
    refine lv_aload_n F.1 F.2.1 dX11_count_44 rfl (lv_at hl 0 rfl) ?_
    refine gGet F hG hW nX11_count_X11 0 rfl rfl 12 (by decide) mX11_count_3 rfl dX11_count_45 ?_
    refine gRi F hW hS dX11_count_48 ?_
    exact ⟨rfl, rfl⟩

abbrev rm_X11_order : Room := ({ frames := 2, cells := 0, slots := 0, locals := 43 } : Room)
theorem mX11_order_1 : Cond.fieldLink RX11 73 "StepperHearts" "current" "LStepperHearts$Program;" ∈ wsX11_order := List.mem_of_getElem? (i := 1) rfl
theorem nX11_order_X11 : ∀ w ∈ wsX110, w ∈ wsX11_order := fun _ h => List.mem_cons_of_mem _ (List.mem_append_left _ (List.mem_append_right _ (h)))
theorem fX11_order_107 : (yX11_order.cls, 107, "StepperHearts$Program", "size", "I", "StepperHearts") ∈ gNF := List.mem_of_getElem? (i := 18) rfl
theorem nX11_order_X8 : ∀ w ∈ wsX80, w ∈ wsX11_order := fun _ h => List.mem_cons_of_mem _ (List.mem_append_right _ (h))
theorem mX11_order_2 : Cond.fieldLink RX11 120 "StepperHearts$Kind" "number" "I" ∈ wsX11_order := List.mem_of_getElem? (i := 2) rfl
set_option maxRecDepth 100000 in
set_option maxHeartbeats 4000000 in
theorem c_X11_order (g : gC) (l : Launch) {o : Nat} {ta : Nat} {rd : Nat} {jn : Nat} {sw : Nat} {rt : Nat} {jh : Nat} {kh : Nat} {th : Nat} {la : Nat} {lb : Nat} {cu : Nat} {pk : Nat} {po : Nat} {pm : Nat} {sq : Nat} {tl : Nat} {lf : Nat} {lt : Nat} {n : Nat} {inp : Int32} {bp : Int32} {kd : Nat → Nat} {vl : Nat → Nat} {mk : Nat → Bool} {x : Int32} {y : Int32} {R : va_W} (hn : n ≤ 100) (hK : ∀ j, j < n → kd j < 15) : cI g l yX11_order wsX11_order rm_X11_order 0 0 [.ref o, .int x, .int y] ((o, .inr (8, [.ref ta, .ref rd, .ref jn, .ref sw, .ref rt, .ref jh, .ref kh, .ref th, .ref la, .ref lb, .ref cu, .ref sq, .int (nI tl), .int (nI lf), .int inp, .int bp, .int (nI lt)])) :: (cu, .inr (5, [.ref pk, .ref po, .ref pm, .int (nI n)])) :: (pk, .inl (g.2.1 0, 100, .inl (nA kd))) :: (po, .inl (g.2.1 0, 100, .inl (nA vl))) :: (pm, .inl (g.2.1 1, 100, .inl (bA mk))) :: R) (fun r u => (ixS x n (fun j => selS y (nI (kd j)) (nI (vl j)) (bI (mk j)) (-1)) (-1)) = r ∧ (o, .inr (8, [.ref ta, .ref rd, .ref jn, .ref sw, .ref rt, .ref jh, .ref kh, .ref th, .ref la, .ref lb, .ref cu, .ref sq, .int (nI tl), .int (nI lf), .int inp, .int bp, .int (nI lt)])) :: (cu, .inr (5, [.ref pk, .ref po, .ref pm, .int (nI n)])) :: (pk, .inl (g.2.1 0, 100, .inl (nA kd))) :: (po, .inl (g.2.1 0, 100, .inl (nA vl))) :: (pm, .inl (g.2.1 1, 100, .inl (bA mk))) :: R = u) := by
  refine gEnterQ (cc := cX11_order) (maxL := 3) (ret := (some (.int))) (by decide +kernel) rfl (Nat.le_of_ble_eq_true rfl) ?_
  intro p e s m below meth c F hG hW ls hl
  have hS : va_S (gA g) s.heap s.heap [] := va_S.rf
  have hl : lv_has ls 3 [(0, .ref o), (1, .int x), (2, .int y)] := hl
  have hW : gW g ((o, .inr (8, [.ref ta, .ref rd, .ref jn, .ref sw, .ref rt, .ref jh, .ref kh, .ref th, .ref la, .ref lb, .ref cu, .ref sq, .int (nI tl), .int (nI lf), .int inp, .int bp, .int (nI lt)])) :: (cu, .inr (5, [.ref pk, .ref po, .ref pm, .int (nI n)])) :: (pk, .inl (g.2.1 0, 100, .inl (nA kd))) :: (po, .inl (g.2.1 0, 100, .inl (nA vl))) :: (pm, .inl (g.2.1 1, 100, .inl (bA mk))) :: R) s.heap := hW
  rcases ixc x (n := n) (by omega) with hx | ⟨j, hj, rfl⟩
  · have hl : lv_has ls 3 [(0, .ref o), (1, .int x), (2, .int y)] := hl
    have hW : gW g ((o, .inr (8, [.ref ta, .ref rd, .ref jn, .ref sw, .ref rt, .ref jh, .ref kh, .ref th, .ref la, .ref lb, .ref cu, .ref sq, .int (nI tl), .int (nI lf), .int inp, .int bp, .int (nI lt)])) :: (cu, .inr (5, [.ref pk, .ref po, .ref pm, .int (nI n)])) :: (pk, .inl (g.2.1 0, 100, .inl (nA kd))) :: (po, .inl (g.2.1 0, 100, .inl (nA vl))) :: (pm, .inl (g.2.1 1, 100, .inl (bA mk))) :: R) s.heap := hW
    refine lv_iload_n F.1 F.2.1 dX11_order_0 rfl (lv_at hl 1 rfl) ?_
    refine lv_if_lt (tgt := 15) F.1 F.2.1 dX11_order_1 (by decide) (fun c_1 => ?_) (fun c_1 => ?_)
    · refine lv_iconst (v := -1) F.1 F.2.1 dX11_order_15 rfl ?_
      refine gRi F hW hS dX11_order_16 ?_
      exact ⟨ixS_out hx (by omega), rfl⟩
    · refine lv_iload_n F.1 F.2.1 dX11_order_4 rfl (lv_at hl 1 rfl) ?_
      refine lv_aload_n F.1 F.2.1 dX11_order_5 rfl (lv_at hl 0 rfl) ?_
      refine gGet F hG hW nX11_order_X11 0 rfl rfl 10 (by decide) mX11_order_1 rfl dX11_order_6 ?_
      refine gGetN F hG hW nX11_order_X8 1 rfl rfl 3 (by decide) fX11_order_107 rfl dX11_order_9 ?_
      refine lv_icmp_lt (tgt := 17) F.1 F.2.1 dX11_order_12 (by decide) (fun q => (ixo hx c_1 q).elim) (fun c_12 => ?_)
      refine lv_iconst (v := -1) F.1 F.2.1 dX11_order_15 rfl ?_
      refine gRi F hW hS dX11_order_16 ?_
      exact ⟨ixS_out hx (by omega), rfl⟩
  · have hl : lv_has ls 3 [(0, .ref o), (1, .int (nI j)), (2, .int y)] := hl
    have hW : gW g ((o, .inr (8, [.ref ta, .ref rd, .ref jn, .ref sw, .ref rt, .ref jh, .ref kh, .ref th, .ref la, .ref lb, .ref cu, .ref sq, .int (nI tl), .int (nI lf), .int inp, .int bp, .int (nI lt)])) :: (cu, .inr (5, [.ref pk, .ref po, .ref pm, .int (nI n)])) :: (pk, .inl (g.2.1 0, 100, .inl (nA kd))) :: (po, .inl (g.2.1 0, 100, .inl (nA vl))) :: (pm, .inl (g.2.1 1, 100, .inl (bA mk))) :: R) s.heap := hW
    rcases sw3 y with hx | rfl | rfl | rfl
    · have hKj := hK j hj
      have hl : lv_has ls 3 [(0, .ref o), (1, .int (nI j)), (2, .int y)] := hl
      have hW : gW g ((o, .inr (8, [.ref ta, .ref rd, .ref jn, .ref sw, .ref rt, .ref jh, .ref kh, .ref th, .ref la, .ref lb, .ref cu, .ref sq, .int (nI tl), .int (nI lf), .int inp, .int bp, .int (nI lt)])) :: (cu, .inr (5, [.ref pk, .ref po, .ref pm, .int (nI n)])) :: (pk, .inl (g.2.1 0, 100, .inl (nA kd))) :: (po, .inl (g.2.1 0, 100, .inl (nA vl))) :: (pm, .inl (g.2.1 1, 100, .inl (bA mk))) :: R) s.heap := hW
      refine lv_iload_n F.1 F.2.1 dX11_order_0 rfl (lv_at hl 1 rfl) ?_
      refine gIfLt (tgt := 15) F (by omega) dX11_order_1 (by decide) (fun c_1 => by exfalso; omega) (fun c_1 => ?_)
      refine lv_iload_n F.1 F.2.1 dX11_order_4 rfl (lv_at hl 1 rfl) ?_
      refine lv_aload_n F.1 F.2.1 dX11_order_5 rfl (lv_at hl 0 rfl) ?_
      refine gGet F hG hW nX11_order_X11 0 rfl rfl 10 (by decide) mX11_order_1 rfl dX11_order_6 ?_
      refine gGetN F hG hW nX11_order_X8 1 rfl rfl 3 (by decide) fX11_order_107 rfl dX11_order_9 ?_
      refine gLt (tgt := 17) F (by omega) (by omega) dX11_order_12 (by decide) (fun c_12 => ?_) (fun c_12 => by exfalso; omega)
      refine lv_iload_n F.1 F.2.1 dX11_order_17 rfl (lv_at hl 2 rfl) ?_
      refine lv_tableOut (tgt := 82) F.1 F.2.1 dX11_order_18 (swc hx (by decide)) (by decide) ?_
      refine lv_iconst (v := -1) F.1 F.2.1 dX11_order_82 rfl ?_
      refine gRi F hW hS dX11_order_83 ?_
      exact ⟨(ixS_in hj (by omega)).trans (ixS_out hx (by decide)), rfl⟩
    · have hKj := hK j hj
      have hl : lv_has ls 3 [(0, .ref o), (1, .int (nI j)), (2, .int (nI 0))] := hl
      have hW : gW g ((o, .inr (8, [.ref ta, .ref rd, .ref jn, .ref sw, .ref rt, .ref jh, .ref kh, .ref th, .ref la, .ref lb, .ref cu, .ref sq, .int (nI tl), .int (nI lf), .int inp, .int bp, .int (nI lt)])) :: (cu, .inr (5, [.ref pk, .ref po, .ref pm, .int (nI n)])) :: (pk, .inl (g.2.1 0, 100, .inl (nA kd))) :: (po, .inl (g.2.1 0, 100, .inl (nA vl))) :: (pm, .inl (g.2.1 1, 100, .inl (bA mk))) :: R) s.heap := hW
      refine lv_iload_n F.1 F.2.1 dX11_order_0 rfl (lv_at hl 1 rfl) ?_
      refine gIfLt (tgt := 15) F (by omega) dX11_order_1 (by decide) (fun c_1 => by exfalso; omega) (fun c_1 => ?_)
      refine lv_iload_n F.1 F.2.1 dX11_order_4 rfl (lv_at hl 1 rfl) ?_
      refine lv_aload_n F.1 F.2.1 dX11_order_5 rfl (lv_at hl 0 rfl) ?_
      refine gGet F hG hW nX11_order_X11 0 rfl rfl 10 (by decide) mX11_order_1 rfl dX11_order_6 ?_
      refine gGetN F hG hW nX11_order_X8 1 rfl rfl 3 (by decide) fX11_order_107 rfl dX11_order_9 ?_
      refine gLt (tgt := 17) F (by omega) (by omega) dX11_order_12 (by decide) (fun c_12 => ?_) (fun c_12 => by exfalso; omega)
      refine lv_iload_n F.1 F.2.1 dX11_order_17 rfl (lv_at hl 2 rfl) ?_
      refine lv_tableIn (tgt := 44) F.1 F.2.1 dX11_order_18 (by decide) (by decide) rfl (by decide) ?_
      refine lv_aload_n F.1 F.2.1 dX11_order_44 rfl (lv_at hl 0 rfl) ?_
      refine gGet F hG hW nX11_order_X11 0 rfl rfl 10 (by decide) mX11_order_1 rfl dX11_order_45 ?_
      refine lv_iload_n F.1 F.2.1 dX11_order_48 rfl (lv_at hl 1 rfl) ?_
      have hW := gW.re (l := [(o, .inr (8, [.ref ta, .ref rd, .ref jn, .ref sw, .ref rt, .ref jh, .ref kh, .ref th, .ref la, .ref lb, .ref cu, .ref sq, .int (nI tl), .int (nI lf), .int inp, .int bp, .int (nI lt)])), (cu, .inr (5, [.ref pk, .ref po, .ref pm, .int (nI n)])), (pk, .inl (g.2.1 0, 100, .inl (nA kd)))]) (l' := [(cu, .inr (5, [.ref pk, .ref po, .ref pm, .int (nI n)])), (pk, .inl (g.2.1 0, 100, .inl (nA kd))), (o, .inr (8, [.ref ta, .ref rd, .ref jn, .ref sw, .ref rt, .ref jh, .ref kh, .ref th, .ref la, .ref lb, .ref cu, .ref sq, .int (nI tl), .int (nI lf), .int inp, .int bp, .int (nI lt)]))]) (R := (po, .inl (g.2.1 0, 100, .inl (nA vl))) :: (pm, .inl (g.2.1 1, 100, .inl (bA mk))) :: R) hW [1, 2, 0] 3 rfl (by decide) rfl
      have hW : gW g ((cu, .inr (5, [.ref pk, .ref po, .ref pm, .int (nI n)])) :: (pk, .inl (g.2.1 0, 100, .inl (nA kd))) :: (o, .inr (8, [.ref ta, .ref rd, .ref jn, .ref sw, .ref rt, .ref jh, .ref kh, .ref th, .ref la, .ref lb, .ref cu, .ref sq, .int (nI tl), .int (nI lf), .int inp, .int bp, .int (nI lt)])) :: (po, .inl (g.2.1 0, 100, .inl (nA vl))) :: (pm, .inl (g.2.1 1, 100, .inl (bA mk))) :: R) _ := hW
      refine gVr (n := 1) (q := (RX8, TX8, 4)) (q0 := 0) (As := [.int (nI j)]) F hG hS hW (c_X8_kindAt g l  (by omega) hj (hK j hj)) rfl gX11_order_X8_kindAt rfl rfl rfl (by decide +kernel) ⟨rfl, rfl, Nat.le_of_ble_eq_true rfl, Nat.le_of_ble_eq_true rfl⟩ hl.1 (Nat.le_of_ble_eq_true rfl) ⟨Nat.le_of_ble_eq_true rfl, Nat.le_of_ble_eq_true rfl⟩ rfl rfl dX11_order_49 (fun r u H locs hq hW hS => ?_)
      obtain ⟨rfl, rfl⟩ := hq
      have hW : gW g ((cu, .inr (5, [.ref pk, .ref po, .ref pm, .int (nI n)])) :: (pk, .inl (g.2.1 0, 100, .inl (nA kd))) :: (o, .inr (8, [.ref ta, .ref rd, .ref jn, .ref sw, .ref rt, .ref jh, .ref kh, .ref th, .ref la, .ref lb, .ref cu, .ref sq, .int (nI tl), .int (nI lf), .int inp, .int bp, .int (nI lt)])) :: (po, .inl (g.2.1 0, 100, .inl (nA vl))) :: (pm, .inl (g.2.1 1, 100, .inl (bA mk))) :: R) _ := hW
      refine gKnumber F hG hS (by omega) mX11_order_2 dX11_order_52 ?_
      have hW := gW.re (l := [(cu, .inr (5, [.ref pk, .ref po, .ref pm, .int (nI n)])), (pk, .inl (g.2.1 0, 100, .inl (nA kd))), (o, .inr (8, [.ref ta, .ref rd, .ref jn, .ref sw, .ref rt, .ref jh, .ref kh, .ref th, .ref la, .ref lb, .ref cu, .ref sq, .int (nI tl), .int (nI lf), .int inp, .int bp, .int (nI lt)]))]) (l' := [(o, .inr (8, [.ref ta, .ref rd, .ref jn, .ref sw, .ref rt, .ref jh, .ref kh, .ref th, .ref la, .ref lb, .ref cu, .ref sq, .int (nI tl), .int (nI lf), .int inp, .int bp, .int (nI lt)])), (cu, .inr (5, [.ref pk, .ref po, .ref pm, .int (nI n)])), (pk, .inl (g.2.1 0, 100, .inl (nA kd)))]) (R := (po, .inl (g.2.1 0, 100, .inl (nA vl))) :: (pm, .inl (g.2.1 1, 100, .inl (bA mk))) :: R) hW [2, 0, 1] 3 rfl (by decide) rfl
      have hW : gW g ((o, .inr (8, [.ref ta, .ref rd, .ref jn, .ref sw, .ref rt, .ref jh, .ref kh, .ref th, .ref la, .ref lb, .ref cu, .ref sq, .int (nI tl), .int (nI lf), .int inp, .int bp, .int (nI lt)])) :: (cu, .inr (5, [.ref pk, .ref po, .ref pm, .int (nI n)])) :: (pk, .inl (g.2.1 0, 100, .inl (nA kd))) :: (po, .inl (g.2.1 0, 100, .inl (nA vl))) :: (pm, .inl (g.2.1 1, 100, .inl (bA mk))) :: R) _ := hW
      refine gRi F hW hS dX11_order_55 ?_
      exact ⟨ixS_in hj (by omega), rfl⟩
    · have hKj := hK j hj
      have hl : lv_has ls 3 [(0, .ref o), (1, .int (nI j)), (2, .int (nI 1))] := hl
      have hW : gW g ((o, .inr (8, [.ref ta, .ref rd, .ref jn, .ref sw, .ref rt, .ref jh, .ref kh, .ref th, .ref la, .ref lb, .ref cu, .ref sq, .int (nI tl), .int (nI lf), .int inp, .int bp, .int (nI lt)])) :: (cu, .inr (5, [.ref pk, .ref po, .ref pm, .int (nI n)])) :: (pk, .inl (g.2.1 0, 100, .inl (nA kd))) :: (po, .inl (g.2.1 0, 100, .inl (nA vl))) :: (pm, .inl (g.2.1 1, 100, .inl (bA mk))) :: R) s.heap := hW
      refine lv_iload_n F.1 F.2.1 dX11_order_0 rfl (lv_at hl 1 rfl) ?_
      refine gIfLt (tgt := 15) F (by omega) dX11_order_1 (by decide) (fun c_1 => by exfalso; omega) (fun c_1 => ?_)
      refine lv_iload_n F.1 F.2.1 dX11_order_4 rfl (lv_at hl 1 rfl) ?_
      refine lv_aload_n F.1 F.2.1 dX11_order_5 rfl (lv_at hl 0 rfl) ?_
      refine gGet F hG hW nX11_order_X11 0 rfl rfl 10 (by decide) mX11_order_1 rfl dX11_order_6 ?_
      refine gGetN F hG hW nX11_order_X8 1 rfl rfl 3 (by decide) fX11_order_107 rfl dX11_order_9 ?_
      refine gLt (tgt := 17) F (by omega) (by omega) dX11_order_12 (by decide) (fun c_12 => ?_) (fun c_12 => by exfalso; omega)
      refine lv_iload_n F.1 F.2.1 dX11_order_17 rfl (lv_at hl 2 rfl) ?_
      refine lv_tableIn (tgt := 56) F.1 F.2.1 dX11_order_18 (by decide) (by decide) rfl (by decide) ?_
      refine lv_aload_n F.1 F.2.1 dX11_order_56 rfl (lv_at hl 0 rfl) ?_
      refine gGet F hG hW nX11_order_X11 0 rfl rfl 10 (by decide) mX11_order_1 rfl dX11_order_57 ?_
      refine lv_iload_n F.1 F.2.1 dX11_order_60 rfl (lv_at hl 1 rfl) ?_
      have hW := gW.re (l := [(o, .inr (8, [.ref ta, .ref rd, .ref jn, .ref sw, .ref rt, .ref jh, .ref kh, .ref th, .ref la, .ref lb, .ref cu, .ref sq, .int (nI tl), .int (nI lf), .int inp, .int bp, .int (nI lt)])), (cu, .inr (5, [.ref pk, .ref po, .ref pm, .int (nI n)])), (pk, .inl (g.2.1 0, 100, .inl (nA kd))), (po, .inl (g.2.1 0, 100, .inl (nA vl)))]) (l' := [(cu, .inr (5, [.ref pk, .ref po, .ref pm, .int (nI n)])), (po, .inl (g.2.1 0, 100, .inl (nA vl))), (o, .inr (8, [.ref ta, .ref rd, .ref jn, .ref sw, .ref rt, .ref jh, .ref kh, .ref th, .ref la, .ref lb, .ref cu, .ref sq, .int (nI tl), .int (nI lf), .int inp, .int bp, .int (nI lt)])), (pk, .inl (g.2.1 0, 100, .inl (nA kd)))]) (R := (pm, .inl (g.2.1 1, 100, .inl (bA mk))) :: R) hW [1, 3, 0, 2] 4 rfl (by decide) rfl
      have hW : gW g ((cu, .inr (5, [.ref pk, .ref po, .ref pm, .int (nI n)])) :: (po, .inl (g.2.1 0, 100, .inl (nA vl))) :: (o, .inr (8, [.ref ta, .ref rd, .ref jn, .ref sw, .ref rt, .ref jh, .ref kh, .ref th, .ref la, .ref lb, .ref cu, .ref sq, .int (nI tl), .int (nI lf), .int inp, .int bp, .int (nI lt)])) :: (pk, .inl (g.2.1 0, 100, .inl (nA kd))) :: (pm, .inl (g.2.1 1, 100, .inl (bA mk))) :: R) _ := hW
      refine gVi (n := 1) (q := (RX8, TX8, 4)) (q0 := 0) (As := [.int (nI j)]) F hG hS hW (c_X8_operandAt g l  (by omega) hj) rfl gX11_order_X8_operandAt rfl rfl rfl (by decide +kernel) ⟨rfl, rfl, Nat.le_of_ble_eq_true rfl, Nat.le_of_ble_eq_true rfl⟩ hl.1 (Nat.le_of_ble_eq_true rfl) ⟨Nat.le_of_ble_eq_true rfl, Nat.le_of_ble_eq_true rfl⟩ rfl rfl dX11_order_61 (fun r u H locs hq hW hS => ?_)
      obtain ⟨rfl, rfl⟩ := hq
      have hW : gW g ((cu, .inr (5, [.ref pk, .ref po, .ref pm, .int (nI n)])) :: (po, .inl (g.2.1 0, 100, .inl (nA vl))) :: (o, .inr (8, [.ref ta, .ref rd, .ref jn, .ref sw, .ref rt, .ref jh, .ref kh, .ref th, .ref la, .ref lb, .ref cu, .ref sq, .int (nI tl), .int (nI lf), .int inp, .int bp, .int (nI lt)])) :: (pk, .inl (g.2.1 0, 100, .inl (nA kd))) :: (pm, .inl (g.2.1 1, 100, .inl (bA mk))) :: R) _ := hW
      have hW := gW.re (l := [(cu, .inr (5, [.ref pk, .ref po, .ref pm, .int (nI n)])), (po, .inl (g.2.1 0, 100, .inl (nA vl))), (o, .inr (8, [.ref ta, .ref rd, .ref jn, .ref sw, .ref rt, .ref jh, .ref kh, .ref th, .ref la, .ref lb, .ref cu, .ref sq, .int (nI tl), .int (nI lf), .int inp, .int bp, .int (nI lt)])), (pk, .inl (g.2.1 0, 100, .inl (nA kd)))]) (l' := [(o, .inr (8, [.ref ta, .ref rd, .ref jn, .ref sw, .ref rt, .ref jh, .ref kh, .ref th, .ref la, .ref lb, .ref cu, .ref sq, .int (nI tl), .int (nI lf), .int inp, .int bp, .int (nI lt)])), (cu, .inr (5, [.ref pk, .ref po, .ref pm, .int (nI n)])), (pk, .inl (g.2.1 0, 100, .inl (nA kd))), (po, .inl (g.2.1 0, 100, .inl (nA vl)))]) (R := (pm, .inl (g.2.1 1, 100, .inl (bA mk))) :: R) hW [2, 0, 3, 1] 4 rfl (by decide) rfl
      have hW : gW g ((o, .inr (8, [.ref ta, .ref rd, .ref jn, .ref sw, .ref rt, .ref jh, .ref kh, .ref th, .ref la, .ref lb, .ref cu, .ref sq, .int (nI tl), .int (nI lf), .int inp, .int bp, .int (nI lt)])) :: (cu, .inr (5, [.ref pk, .ref po, .ref pm, .int (nI n)])) :: (pk, .inl (g.2.1 0, 100, .inl (nA kd))) :: (po, .inl (g.2.1 0, 100, .inl (nA vl))) :: (pm, .inl (g.2.1 1, 100, .inl (bA mk))) :: R) _ := hW
      refine gRi F hW hS dX11_order_64 ?_
      exact ⟨ixS_in hj (by omega), rfl⟩
    · have hKj := hK j hj
      have hl : lv_has ls 3 [(0, .ref o), (1, .int (nI j)), (2, .int (nI 2))] := hl
      have hW : gW g ((o, .inr (8, [.ref ta, .ref rd, .ref jn, .ref sw, .ref rt, .ref jh, .ref kh, .ref th, .ref la, .ref lb, .ref cu, .ref sq, .int (nI tl), .int (nI lf), .int inp, .int bp, .int (nI lt)])) :: (cu, .inr (5, [.ref pk, .ref po, .ref pm, .int (nI n)])) :: (pk, .inl (g.2.1 0, 100, .inl (nA kd))) :: (po, .inl (g.2.1 0, 100, .inl (nA vl))) :: (pm, .inl (g.2.1 1, 100, .inl (bA mk))) :: R) s.heap := hW
      refine lv_iload_n F.1 F.2.1 dX11_order_0 rfl (lv_at hl 1 rfl) ?_
      refine gIfLt (tgt := 15) F (by omega) dX11_order_1 (by decide) (fun c_1 => by exfalso; omega) (fun c_1 => ?_)
      refine lv_iload_n F.1 F.2.1 dX11_order_4 rfl (lv_at hl 1 rfl) ?_
      refine lv_aload_n F.1 F.2.1 dX11_order_5 rfl (lv_at hl 0 rfl) ?_
      refine gGet F hG hW nX11_order_X11 0 rfl rfl 10 (by decide) mX11_order_1 rfl dX11_order_6 ?_
      refine gGetN F hG hW nX11_order_X8 1 rfl rfl 3 (by decide) fX11_order_107 rfl dX11_order_9 ?_
      refine gLt (tgt := 17) F (by omega) (by omega) dX11_order_12 (by decide) (fun c_12 => ?_) (fun c_12 => by exfalso; omega)
      refine lv_iload_n F.1 F.2.1 dX11_order_17 rfl (lv_at hl 2 rfl) ?_
      refine lv_tableIn (tgt := 65) F.1 F.2.1 dX11_order_18 (by decide) (by decide) rfl (by decide) ?_
      refine lv_aload_n F.1 F.2.1 dX11_order_65 rfl (lv_at hl 0 rfl) ?_
      refine gGet F hG hW nX11_order_X11 0 rfl rfl 10 (by decide) mX11_order_1 rfl dX11_order_66 ?_
      refine lv_iload_n F.1 F.2.1 dX11_order_69 rfl (lv_at hl 1 rfl) ?_
      have hW := gW.re (l := [(o, .inr (8, [.ref ta, .ref rd, .ref jn, .ref sw, .ref rt, .ref jh, .ref kh, .ref th, .ref la, .ref lb, .ref cu, .ref sq, .int (nI tl), .int (nI lf), .int inp, .int bp, .int (nI lt)])), (cu, .inr (5, [.ref pk, .ref po, .ref pm, .int (nI n)])), (pk, .inl (g.2.1 0, 100, .inl (nA kd))), (po, .inl (g.2.1 0, 100, .inl (nA vl))), (pm, .inl (g.2.1 1, 100, .inl (bA mk)))]) (l' := [(cu, .inr (5, [.ref pk, .ref po, .ref pm, .int (nI n)])), (pm, .inl (g.2.1 1, 100, .inl (bA mk))), (o, .inr (8, [.ref ta, .ref rd, .ref jn, .ref sw, .ref rt, .ref jh, .ref kh, .ref th, .ref la, .ref lb, .ref cu, .ref sq, .int (nI tl), .int (nI lf), .int inp, .int bp, .int (nI lt)])), (pk, .inl (g.2.1 0, 100, .inl (nA kd))), (po, .inl (g.2.1 0, 100, .inl (nA vl)))]) (R := R) hW [1, 4, 0, 2, 3] 5 rfl (by decide) rfl
      have hW : gW g ((cu, .inr (5, [.ref pk, .ref po, .ref pm, .int (nI n)])) :: (pm, .inl (g.2.1 1, 100, .inl (bA mk))) :: (o, .inr (8, [.ref ta, .ref rd, .ref jn, .ref sw, .ref rt, .ref jh, .ref kh, .ref th, .ref la, .ref lb, .ref cu, .ref sq, .int (nI tl), .int (nI lf), .int inp, .int bp, .int (nI lt)])) :: (pk, .inl (g.2.1 0, 100, .inl (nA kd))) :: (po, .inl (g.2.1 0, 100, .inl (nA vl))) :: R) _ := hW
      refine gVi (n := 1) (q := (RX8, TX8, 4)) (q0 := 0) (As := [.int (nI j)]) F hG hS hW (c_X8_isMarked g l  (by omega) hj) rfl gX11_order_X8_isMarked rfl rfl rfl (by decide +kernel) ⟨rfl, rfl, Nat.le_of_ble_eq_true rfl, Nat.le_of_ble_eq_true rfl⟩ hl.1 (Nat.le_of_ble_eq_true rfl) ⟨Nat.le_of_ble_eq_true rfl, Nat.le_of_ble_eq_true rfl⟩ rfl rfl dX11_order_70 (fun r u H locs hq hW hS => ?_)
      obtain ⟨rfl, rfl⟩ := hq
      have hW : gW g ((cu, .inr (5, [.ref pk, .ref po, .ref pm, .int (nI n)])) :: (pm, .inl (g.2.1 1, 100, .inl (bA mk))) :: (o, .inr (8, [.ref ta, .ref rd, .ref jn, .ref sw, .ref rt, .ref jh, .ref kh, .ref th, .ref la, .ref lb, .ref cu, .ref sq, .int (nI tl), .int (nI lf), .int inp, .int bp, .int (nI lt)])) :: (pk, .inl (g.2.1 0, 100, .inl (nA kd))) :: (po, .inl (g.2.1 0, 100, .inl (nA vl))) :: R) _ := hW
      refine gIfEqB (tgt := 80) F dX11_order_73 (by decide) (fun c_73 => ?_) (fun c_73 => ?_)
      · refine lv_iconst (v := nI 0) F.1 F.2.1 dX11_order_80 rfl ?_
        have hW := gW.re (l := [(cu, .inr (5, [.ref pk, .ref po, .ref pm, .int (nI n)])), (pm, .inl (g.2.1 1, 100, .inl (bA mk))), (o, .inr (8, [.ref ta, .ref rd, .ref jn, .ref sw, .ref rt, .ref jh, .ref kh, .ref th, .ref la, .ref lb, .ref cu, .ref sq, .int (nI tl), .int (nI lf), .int inp, .int bp, .int (nI lt)])), (pk, .inl (g.2.1 0, 100, .inl (nA kd))), (po, .inl (g.2.1 0, 100, .inl (nA vl)))]) (l' := [(o, .inr (8, [.ref ta, .ref rd, .ref jn, .ref sw, .ref rt, .ref jh, .ref kh, .ref th, .ref la, .ref lb, .ref cu, .ref sq, .int (nI tl), .int (nI lf), .int inp, .int bp, .int (nI lt)])), (cu, .inr (5, [.ref pk, .ref po, .ref pm, .int (nI n)])), (pk, .inl (g.2.1 0, 100, .inl (nA kd))), (po, .inl (g.2.1 0, 100, .inl (nA vl))), (pm, .inl (g.2.1 1, 100, .inl (bA mk)))]) (R := R) hW [2, 0, 3, 4, 1] 5 rfl (by decide) rfl
        have hW : gW g ((o, .inr (8, [.ref ta, .ref rd, .ref jn, .ref sw, .ref rt, .ref jh, .ref kh, .ref th, .ref la, .ref lb, .ref cu, .ref sq, .int (nI tl), .int (nI lf), .int inp, .int bp, .int (nI lt)])) :: (cu, .inr (5, [.ref pk, .ref po, .ref pm, .int (nI n)])) :: (pk, .inl (g.2.1 0, 100, .inl (nA kd))) :: (po, .inl (g.2.1 0, 100, .inl (nA vl))) :: (pm, .inl (g.2.1 1, 100, .inl (bA mk))) :: R) _ := hW
        refine gRi F hW hS dX11_order_81 ?_
        exact ⟨by rw [ixS_in hj (by omega)]; show bI (mk j) = _; rw [c_73]; rfl, rfl⟩
      · refine lv_iconst (v := nI 1) F.1 F.2.1 dX11_order_76 rfl ?_
        refine lv_goto (tgt := 81) F.1 F.2.1 dX11_order_77 (by decide) ?_
        have hW := gW.re (l := [(cu, .inr (5, [.ref pk, .ref po, .ref pm, .int (nI n)])), (pm, .inl (g.2.1 1, 100, .inl (bA mk))), (o, .inr (8, [.ref ta, .ref rd, .ref jn, .ref sw, .ref rt, .ref jh, .ref kh, .ref th, .ref la, .ref lb, .ref cu, .ref sq, .int (nI tl), .int (nI lf), .int inp, .int bp, .int (nI lt)])), (pk, .inl (g.2.1 0, 100, .inl (nA kd))), (po, .inl (g.2.1 0, 100, .inl (nA vl)))]) (l' := [(o, .inr (8, [.ref ta, .ref rd, .ref jn, .ref sw, .ref rt, .ref jh, .ref kh, .ref th, .ref la, .ref lb, .ref cu, .ref sq, .int (nI tl), .int (nI lf), .int inp, .int bp, .int (nI lt)])), (cu, .inr (5, [.ref pk, .ref po, .ref pm, .int (nI n)])), (pk, .inl (g.2.1 0, 100, .inl (nA kd))), (po, .inl (g.2.1 0, 100, .inl (nA vl))), (pm, .inl (g.2.1 1, 100, .inl (bA mk)))]) (R := R) hW [2, 0, 3, 4, 1] 5 rfl (by decide) rfl
        have hW : gW g ((o, .inr (8, [.ref ta, .ref rd, .ref jn, .ref sw, .ref rt, .ref jh, .ref kh, .ref th, .ref la, .ref lb, .ref cu, .ref sq, .int (nI tl), .int (nI lf), .int inp, .int bp, .int (nI lt)])) :: (cu, .inr (5, [.ref pk, .ref po, .ref pm, .int (nI n)])) :: (pk, .inl (g.2.1 0, 100, .inl (nA kd))) :: (po, .inl (g.2.1 0, 100, .inl (nA vl))) :: (pm, .inl (g.2.1 1, 100, .inl (bA mk))) :: R) _ := hW
        refine gRi F hW hS dX11_order_81 ?_
        exact ⟨by rw [ixS_in hj (by omega)]; show bI (mk j) = _; rw [c_73]; rfl, rfl⟩

abbrev rm_X11_join : Room := ({ frames := 1, cells := 0, slots := 0, locals := 21 } : Room)
theorem mX11_join_1 : Cond.fieldLink RX11 23 "StepperHearts" "joins" "LStepperHearts$Joins;" ∈ wsX11_join := List.mem_of_getElem? (i := 1) rfl
theorem nX11_join_X11 : ∀ w ∈ wsX110, w ∈ wsX11_join := fun _ h => List.mem_cons_of_mem _ (List.mem_append_left _ (List.mem_append_right _ (h)))
theorem fX11_join_139 : (yX11_join.cls, 139, "StepperHearts$Joins", "size", "I", "StepperHearts") ∈ gNF := List.mem_of_getElem? (i := 1) rfl
theorem nX11_join_X3 : ∀ w ∈ wsX30, w ∈ wsX11_join := fun _ h => List.mem_cons_of_mem _ (List.mem_append_right _ (h))
set_option maxRecDepth 100000 in
set_option maxHeartbeats 4000000 in
theorem c_X11_join (g : gC) (l : Launch) {o : Nat} {ta : Nat} {rd : Nat} {jn : Nat} {jp : Nat} {sw : Nat} {rt : Nat} {jh : Nat} {kh : Nat} {th : Nat} {la : Nat} {lb : Nat} {cu : Nat} {sq : Nat} {tl : Nat} {lf : Nat} {lt : Nat} {sz : Nat} {inp : Int32} {bp : Int32} {Pj : Nat → Bool} {x : Int32} {y : Int32} {R : va_W} (hsz : sz ≤ 10) : cI g l yX11_join wsX11_join rm_X11_join 0 0 [.ref o, .int x, .int y] ((o, .inr (8, [.ref ta, .ref rd, .ref jn, .ref sw, .ref rt, .ref jh, .ref kh, .ref th, .ref la, .ref lb, .ref cu, .ref sq, .int (nI tl), .int (nI lf), .int inp, .int bp, .int (nI lt)])) :: (jn, .inr (1, [.ref jp, .int (nI sz)])) :: (jp, .inl (g.2.1 1, 225, .inl (bA Pj))) :: R) (fun r u => (okS (jnT sz Pj x y) (nI (sz + 1))) = r ∧ (o, .inr (8, [.ref ta, .ref rd, .ref jn, .ref sw, .ref rt, .ref jh, .ref kh, .ref th, .ref la, .ref lb, .ref cu, .ref sq, .int (nI tl), .int (nI lf), .int inp, .int bp, .int (nI (jnT sz Pj x y))])) :: (jn, .inr (1, [.ref jp, .int (nI (if jnT sz Pj x y = 0 then sz + 1 else sz))])) :: (jp, .inl (g.2.1 1, 225, .inl (bA (jnP sz Pj x y)))) :: R = u) := by
  refine gEnterQ (cc := cX11_join) (maxL := 4) (ret := (some (.int))) (by decide +kernel) rfl (Nat.le_of_ble_eq_true rfl) ?_
  intro p e s m below meth c F hG hW ls hl
  have hS : va_S (gA g) s.heap s.heap [] := va_S.rf
  have hl : lv_has ls 4 [(0, .ref o), (1, .int x), (2, .int y)] := hl
  have hW : gW g ((o, .inr (8, [.ref ta, .ref rd, .ref jn, .ref sw, .ref rt, .ref jh, .ref kh, .ref th, .ref la, .ref lb, .ref cu, .ref sq, .int (nI tl), .int (nI lf), .int inp, .int bp, .int (nI lt)])) :: (jn, .inr (1, [.ref jp, .int (nI sz)])) :: (jp, .inl (g.2.1 1, 225, .inl (bA Pj))) :: R) s.heap := hW
  rcases ixc x (n := 15) (by decide) with hx | ⟨j, hj, rfl⟩
  · have hl : lv_has ls 4 [(0, .ref o), (1, .int x), (2, .int y)] := hl
    have hW : gW g ((o, .inr (8, [.ref ta, .ref rd, .ref jn, .ref sw, .ref rt, .ref jh, .ref kh, .ref th, .ref la, .ref lb, .ref cu, .ref sq, .int (nI tl), .int (nI lf), .int inp, .int bp, .int (nI lt)])) :: (jn, .inr (1, [.ref jp, .int (nI sz)])) :: (jp, .inl (g.2.1 1, 225, .inl (bA Pj))) :: R) s.heap := hW
    refine lv_iload_n F.1 F.2.1 dX11_join_0 rfl (lv_at hl 1 rfl) ?_
    refine gS_i (n := 1) (As := [.int x]) F hG hS hW (c_X11_isKind_o g l  hx) rfl gX11_join_X11_isKind (by decide +kernel) ⟨rfl, rfl, Nat.le_of_ble_eq_true rfl, Nat.le_of_ble_eq_true rfl⟩ hl.1 (Nat.le_of_ble_eq_true rfl) ⟨Nat.le_of_ble_eq_true rfl, Nat.le_of_ble_eq_true rfl⟩ rfl rfl dX11_join_1 (fun r u H locs hq hW hS => ?_)
    obtain ⟨rfl, rfl⟩ := hq
    have hW : gW g ((o, .inr (8, [.ref ta, .ref rd, .ref jn, .ref sw, .ref rt, .ref jh, .ref kh, .ref th, .ref la, .ref lb, .ref cu, .ref sq, .int (nI tl), .int (nI lf), .int inp, .int bp, .int (nI lt)])) :: (jn, .inr (1, [.ref jp, .int (nI sz)])) :: (jp, .inl (g.2.1 1, 225, .inl (bA Pj))) :: R) _ := hW
    refine gIfEqB (tgt := 14) F dX11_join_4 (by decide) (fun c_4 => ?_) (fun q => by simp at q)
    refine lv_aload_n F.1 F.2.1 dX11_join_14 rfl (lv_at hl 0 rfl) ?_
    refine lv_iconst (v := nI 1) F.1 F.2.1 dX11_join_15 rfl ?_
    refine gVi (n := 1) (q := (RX11, TX11, 17)) (q0 := 0) (As := [.int (nI 1)]) F hG hS hW (c_X11_refuse g l  ) rfl gX11_join_X11_refuse rfl rfl rfl (by decide +kernel) ⟨rfl, rfl, Nat.le_of_ble_eq_true rfl, Nat.le_of_ble_eq_true rfl⟩ hl.1 (Nat.le_of_ble_eq_true rfl) ⟨Nat.le_of_ble_eq_true rfl, Nat.le_of_ble_eq_true rfl⟩ rfl rfl dX11_join_16 (fun r u H locs hq hW hS => ?_)
    obtain ⟨rfl, rfl⟩ := hq
    have hW : gW g ((o, .inr (8, [.ref ta, .ref rd, .ref jn, .ref sw, .ref rt, .ref jh, .ref kh, .ref th, .ref la, .ref lb, .ref cu, .ref sq, .int (nI tl), .int (nI lf), .int inp, .int bp, .int (nI 1)])) :: (jn, .inr (1, [.ref jp, .int (nI sz)])) :: (jp, .inl (g.2.1 1, 225, .inl (bA Pj))) :: R) _ := hW
    refine gRi F hW hS dX11_join_19 ?_
    have e9 : jnT sz Pj x y = 1 := ixS_out hx (by decide)
    have e8 : jnP sz Pj x y = Pj := by rw [jnP, e9]; rfl
    rw [e8, e9]
    exact ⟨rfl, rfl⟩
  · have hl : lv_has ls 4 [(0, .ref o), (1, .int (nI j)), (2, .int y)] := hl
    have hW : gW g ((o, .inr (8, [.ref ta, .ref rd, .ref jn, .ref sw, .ref rt, .ref jh, .ref kh, .ref th, .ref la, .ref lb, .ref cu, .ref sq, .int (nI tl), .int (nI lf), .int inp, .int bp, .int (nI lt)])) :: (jn, .inr (1, [.ref jp, .int (nI sz)])) :: (jp, .inl (g.2.1 1, 225, .inl (bA Pj))) :: R) s.heap := hW
    rcases ixc y (n := 15) (by decide) with hx | ⟨k, hk, rfl⟩
    · have hl : lv_has ls 4 [(0, .ref o), (1, .int (nI j)), (2, .int y)] := hl
      have hW : gW g ((o, .inr (8, [.ref ta, .ref rd, .ref jn, .ref sw, .ref rt, .ref jh, .ref kh, .ref th, .ref la, .ref lb, .ref cu, .ref sq, .int (nI tl), .int (nI lf), .int inp, .int bp, .int (nI lt)])) :: (jn, .inr (1, [.ref jp, .int (nI sz)])) :: (jp, .inl (g.2.1 1, 225, .inl (bA Pj))) :: R) s.heap := hW
      refine lv_iload_n F.1 F.2.1 dX11_join_0 rfl (lv_at hl 1 rfl) ?_
      refine gS_i (n := 1) (As := [.int (nI j)]) F hG hS hW (c_X11_isKind_n g l  hj) rfl gX11_join_X11_isKind (by decide +kernel) ⟨rfl, rfl, Nat.le_of_ble_eq_true rfl, Nat.le_of_ble_eq_true rfl⟩ hl.1 (Nat.le_of_ble_eq_true rfl) ⟨Nat.le_of_ble_eq_true rfl, Nat.le_of_ble_eq_true rfl⟩ rfl rfl dX11_join_1 (fun r u H locs hq hW hS => ?_)
      obtain ⟨rfl, rfl⟩ := hq
      have hW : gW g ((o, .inr (8, [.ref ta, .ref rd, .ref jn, .ref sw, .ref rt, .ref jh, .ref kh, .ref th, .ref la, .ref lb, .ref cu, .ref sq, .int (nI tl), .int (nI lf), .int inp, .int bp, .int (nI lt)])) :: (jn, .inr (1, [.ref jp, .int (nI sz)])) :: (jp, .inl (g.2.1 1, 225, .inl (bA Pj))) :: R) _ := hW
      refine gIfEqB (tgt := 14) F dX11_join_4 (by decide) (fun q => by simp at q) (fun c_4 => ?_)
      refine lv_iload_n F.1 F.2.1 dX11_join_7 rfl (lv_at hl 2 rfl) ?_
      refine gS_i (n := 1) (As := [.int y]) F hG hS hW (c_X11_isKind_o g l  hx) rfl gX11_join_X11_isKind (by decide +kernel) ⟨rfl, rfl, Nat.le_of_ble_eq_true rfl, Nat.le_of_ble_eq_true rfl⟩ hl.1 (Nat.le_of_ble_eq_true rfl) ⟨Nat.le_of_ble_eq_true rfl, Nat.le_of_ble_eq_true rfl⟩ rfl rfl dX11_join_8 (fun r u H locs hq hW hS => ?_)
      obtain ⟨rfl, rfl⟩ := hq
      have hW : gW g ((o, .inr (8, [.ref ta, .ref rd, .ref jn, .ref sw, .ref rt, .ref jh, .ref kh, .ref th, .ref la, .ref lb, .ref cu, .ref sq, .int (nI tl), .int (nI lf), .int inp, .int bp, .int (nI lt)])) :: (jn, .inr (1, [.ref jp, .int (nI sz)])) :: (jp, .inl (g.2.1 1, 225, .inl (bA Pj))) :: R) _ := hW
      refine gIfNeB (tgt := 20) F dX11_join_11 (by decide) (fun q => by simp at q) (fun c_11 => ?_)
      refine lv_aload_n F.1 F.2.1 dX11_join_14 rfl (lv_at hl 0 rfl) ?_
      refine lv_iconst (v := nI 1) F.1 F.2.1 dX11_join_15 rfl ?_
      refine gVi (n := 1) (q := (RX11, TX11, 17)) (q0 := 0) (As := [.int (nI 1)]) F hG hS hW (c_X11_refuse g l  ) rfl gX11_join_X11_refuse rfl rfl rfl (by decide +kernel) ⟨rfl, rfl, Nat.le_of_ble_eq_true rfl, Nat.le_of_ble_eq_true rfl⟩ hl.1 (Nat.le_of_ble_eq_true rfl) ⟨Nat.le_of_ble_eq_true rfl, Nat.le_of_ble_eq_true rfl⟩ rfl rfl dX11_join_16 (fun r u H locs hq hW hS => ?_)
      obtain ⟨rfl, rfl⟩ := hq
      have hW : gW g ((o, .inr (8, [.ref ta, .ref rd, .ref jn, .ref sw, .ref rt, .ref jh, .ref kh, .ref th, .ref la, .ref lb, .ref cu, .ref sq, .int (nI tl), .int (nI lf), .int inp, .int bp, .int (nI 1)])) :: (jn, .inr (1, [.ref jp, .int (nI sz)])) :: (jp, .inl (g.2.1 1, 225, .inl (bA Pj))) :: R) _ := hW
      refine gRi F hW hS dX11_join_19 ?_
      have e9 : jnT sz Pj (nI j) y = 1 := (ixS_in hj (by decide)).trans (ixS_out hx (by decide))
      have e8 : jnP sz Pj (nI j) y = Pj := by rw [jnP, e9]; rfl
      rw [e8, e9]
      exact ⟨rfl, rfl⟩
    · have hl : lv_has ls 4 [(0, .ref o), (1, .int (nI j)), (2, .int (nI k))] := hl
      have hW : gW g ((o, .inr (8, [.ref ta, .ref rd, .ref jn, .ref sw, .ref rt, .ref jh, .ref kh, .ref th, .ref la, .ref lb, .ref cu, .ref sq, .int (nI tl), .int (nI lf), .int inp, .int bp, .int (nI lt)])) :: (jn, .inr (1, [.ref jp, .int (nI sz)])) :: (jp, .inl (g.2.1 1, 225, .inl (bA Pj))) :: R) s.heap := hW
      refine lv_iload_n F.1 F.2.1 dX11_join_0 rfl (lv_at hl 1 rfl) ?_
      refine gS_i (n := 1) (As := [.int (nI j)]) F hG hS hW (c_X11_isKind_n g l  hj) rfl gX11_join_X11_isKind (by decide +kernel) ⟨rfl, rfl, Nat.le_of_ble_eq_true rfl, Nat.le_of_ble_eq_true rfl⟩ hl.1 (Nat.le_of_ble_eq_true rfl) ⟨Nat.le_of_ble_eq_true rfl, Nat.le_of_ble_eq_true rfl⟩ rfl rfl dX11_join_1 (fun r u H locs hq hW hS => ?_)
      obtain ⟨rfl, rfl⟩ := hq
      have hW : gW g ((o, .inr (8, [.ref ta, .ref rd, .ref jn, .ref sw, .ref rt, .ref jh, .ref kh, .ref th, .ref la, .ref lb, .ref cu, .ref sq, .int (nI tl), .int (nI lf), .int inp, .int bp, .int (nI lt)])) :: (jn, .inr (1, [.ref jp, .int (nI sz)])) :: (jp, .inl (g.2.1 1, 225, .inl (bA Pj))) :: R) _ := hW
      refine gIfEqB (tgt := 14) F dX11_join_4 (by decide) (fun q => by simp at q) (fun c_4 => ?_)
      refine lv_iload_n F.1 F.2.1 dX11_join_7 rfl (lv_at hl 2 rfl) ?_
      refine gS_i (n := 1) (As := [.int (nI k)]) F hG hS hW (c_X11_isKind_n g l  hk) rfl gX11_join_X11_isKind (by decide +kernel) ⟨rfl, rfl, Nat.le_of_ble_eq_true rfl, Nat.le_of_ble_eq_true rfl⟩ hl.1 (Nat.le_of_ble_eq_true rfl) ⟨Nat.le_of_ble_eq_true rfl, Nat.le_of_ble_eq_true rfl⟩ rfl rfl dX11_join_8 (fun r u H locs hq hW hS => ?_)
      obtain ⟨rfl, rfl⟩ := hq
      have hW : gW g ((o, .inr (8, [.ref ta, .ref rd, .ref jn, .ref sw, .ref rt, .ref jh, .ref kh, .ref th, .ref la, .ref lb, .ref cu, .ref sq, .int (nI tl), .int (nI lf), .int inp, .int bp, .int (nI lt)])) :: (jn, .inr (1, [.ref jp, .int (nI sz)])) :: (jp, .inl (g.2.1 1, 225, .inl (bA Pj))) :: R) _ := hW
      refine gIfNeB (tgt := 20) F dX11_join_11 (by decide) (fun c_11 => ?_) (fun q => by simp at q)
      refine lv_iload_n F.1 F.2.1 dX11_join_20 rfl (lv_at hl 1 rfl) ?_
      refine lv_iload_n F.1 F.2.1 dX11_join_21 rfl (lv_at hl 2 rfl) ?_
      refine gS_i (n := 2) (As := [.int (nI j), .int (nI k)]) F hG hS hW (c_X11_pairOf g l  ) rfl gX11_join_X11_pairOf (by decide +kernel) ⟨rfl, rfl, Nat.le_of_ble_eq_true rfl, Nat.le_of_ble_eq_true rfl⟩ hl.1 (Nat.le_of_ble_eq_true rfl) ⟨Nat.le_of_ble_eq_true rfl, Nat.le_of_ble_eq_true rfl⟩ rfl rfl dX11_join_22 (fun r u H locs hq hW hS => ?_)
      obtain ⟨rfl, rfl⟩ := hq
      have hW : gW g ((o, .inr (8, [.ref ta, .ref rd, .ref jn, .ref sw, .ref rt, .ref jh, .ref kh, .ref th, .ref la, .ref lb, .ref cu, .ref sq, .int (nI tl), .int (nI lf), .int inp, .int bp, .int (nI lt)])) :: (jn, .inr (1, [.ref jp, .int (nI sz)])) :: (jp, .inl (g.2.1 1, 225, .inl (bA Pj))) :: R) _ := hW
      refine lv_istore_n (lv' := [(3, .int (nI (j * 15 + k))), (0, .ref o), (1, .int (nI j)), (2, .int (nI k))]) F.1 F.2.1 dX11_join_25 rfl hl (by decide) rfl (fun ls hl => ?_)
      refine lv_aload_n F.1 F.2.1 dX11_join_26 rfl (lv_at hl 1 rfl) ?_
      refine gGet F hG hW nX11_join_X11 0 rfl rfl 2 (by decide) mX11_join_1 rfl dX11_join_27 ?_
      refine gGetN F hG hW nX11_join_X3 1 rfl rfl 1 (by decide) fX11_join_139 rfl dX11_join_30 ?_
      refine lv_bipush (v := nI 10) F.1 F.2.1 dX11_join_33 (by decide) ?_
      refine gGe (tgt := 49) F (by omega) (by omega) dX11_join_35 (by decide) (fun c_35 => ?_) (fun c_35 => ?_)
      · refine lv_aload_n F.1 F.2.1 dX11_join_49 rfl (lv_at hl 1 rfl) ?_
        refine lv_iconst (v := nI 2) F.1 F.2.1 dX11_join_50 rfl ?_
        refine gVi (n := 1) (q := (RX11, TX11, 17)) (q0 := 0) (As := [.int (nI 2)]) F hG hS hW (c_X11_refuse g l  ) rfl gX11_join_X11_refuse rfl rfl rfl (by decide +kernel) ⟨rfl, rfl, Nat.le_of_ble_eq_true rfl, Nat.le_of_ble_eq_true rfl⟩ hl.1 (Nat.le_of_ble_eq_true rfl) ⟨Nat.le_of_ble_eq_true rfl, Nat.le_of_ble_eq_true rfl⟩ rfl rfl dX11_join_51 (fun r u H locs hq hW hS => ?_)
        obtain ⟨rfl, rfl⟩ := hq
        have hW : gW g ((o, .inr (8, [.ref ta, .ref rd, .ref jn, .ref sw, .ref rt, .ref jh, .ref kh, .ref th, .ref la, .ref lb, .ref cu, .ref sq, .int (nI tl), .int (nI lf), .int inp, .int bp, .int (nI 2)])) :: (jn, .inr (1, [.ref jp, .int (nI sz)])) :: (jp, .inl (g.2.1 1, 225, .inl (bA Pj))) :: R) _ := hW
        refine gRi F hW hS dX11_join_54 ?_
        have e9 : jnT sz Pj (nI j) (nI k) = 2 := (ixS_in hj (by decide)).trans ((ixS_in hk (by decide)).trans (if_pos (Or.inl c_35)))
        have e8 : jnP sz Pj (nI j) (nI k) = Pj := by rw [jnP, e9]; rfl
        rw [e8, e9]
        exact ⟨rfl, rfl⟩
      · refine lv_aload_n F.1 F.2.1 dX11_join_38 rfl (lv_at hl 1 rfl) ?_
        refine gGet F hG hW nX11_join_X11 0 rfl rfl 2 (by decide) mX11_join_1 rfl dX11_join_39 ?_
        refine lv_iload_n F.1 F.2.1 dX11_join_42 rfl (lv_at hl 0 rfl) ?_
        have hW := gW.re (l := [(o, .inr (8, [.ref ta, .ref rd, .ref jn, .ref sw, .ref rt, .ref jh, .ref kh, .ref th, .ref la, .ref lb, .ref cu, .ref sq, .int (nI tl), .int (nI lf), .int inp, .int bp, .int (nI lt)])), (jn, .inr (1, [.ref jp, .int (nI sz)])), (jp, .inl (g.2.1 1, 225, .inl (bA Pj)))]) (l' := [(jn, .inr (1, [.ref jp, .int (nI sz)])), (jp, .inl (g.2.1 1, 225, .inl (bA Pj))), (o, .inr (8, [.ref ta, .ref rd, .ref jn, .ref sw, .ref rt, .ref jh, .ref kh, .ref th, .ref la, .ref lb, .ref cu, .ref sq, .int (nI tl), .int (nI lf), .int inp, .int bp, .int (nI lt)]))]) (R := R) hW [1, 2, 0] 3 rfl (by decide) rfl
        have hW : gW g ((jn, .inr (1, [.ref jp, .int (nI sz)])) :: (jp, .inl (g.2.1 1, 225, .inl (bA Pj))) :: (o, .inr (8, [.ref ta, .ref rd, .ref jn, .ref sw, .ref rt, .ref jh, .ref kh, .ref th, .ref la, .ref lb, .ref cu, .ref sq, .int (nI tl), .int (nI lf), .int inp, .int bp, .int (nI lt)])) :: R) _ := hW
        refine gVi (n := 1) (q := (RX3, TX3, 2)) (q0 := 0) (As := [.int (nI (j * 15 + k))]) F hG hS hW (c_X3_has g l  (by omega)) rfl gX11_join_X3_has rfl rfl rfl (by decide +kernel) ⟨rfl, rfl, Nat.le_of_ble_eq_true rfl, Nat.le_of_ble_eq_true rfl⟩ hl.1 (Nat.le_of_ble_eq_true rfl) ⟨Nat.le_of_ble_eq_true rfl, Nat.le_of_ble_eq_true rfl⟩ rfl rfl dX11_join_43 (fun r u H locs hq hW hS => ?_)
        obtain ⟨rfl, rfl⟩ := hq
        have hW : gW g ((jn, .inr (1, [.ref jp, .int (nI sz)])) :: (jp, .inl (g.2.1 1, 225, .inl (bA Pj))) :: (o, .inr (8, [.ref ta, .ref rd, .ref jn, .ref sw, .ref rt, .ref jh, .ref kh, .ref th, .ref la, .ref lb, .ref cu, .ref sq, .int (nI tl), .int (nI lf), .int inp, .int bp, .int (nI lt)])) :: R) _ := hW
        refine gIfEqB (tgt := 55) F dX11_join_46 (by decide) (fun c_46 => ?_) (fun c_46 => ?_)
        · refine lv_aload_n F.1 F.2.1 dX11_join_55 rfl (lv_at hl 1 rfl) ?_
          refine gGet F hG hW nX11_join_X11 2 rfl rfl 2 (by decide) mX11_join_1 rfl dX11_join_56 ?_
          refine lv_iload_n F.1 F.2.1 dX11_join_59 rfl (lv_at hl 0 rfl) ?_
          refine gVv (n := 1) (q := (RX3, TX3, 2)) (q0 := 0) (As := [.int (nI (j * 15 + k))]) F hG hS hW (c_X3_add g l  (by omega) c_46) rfl gX11_join_X3_add rfl rfl rfl (by decide +kernel) ⟨rfl, rfl, Nat.le_of_ble_eq_true rfl, Nat.le_of_ble_eq_true rfl⟩ hl.1 (Nat.le_of_ble_eq_true rfl) ⟨Nat.le_of_ble_eq_true rfl, Nat.le_of_ble_eq_true rfl⟩ rfl rfl dX11_join_60 (fun u H locs hq hW hS => ?_)
          obtain rfl := hq
          have hW : gW g ((jn, .inr (1, [.ref jp, .int (nI (sz + 1))])) :: (jp, .inl (g.2.1 1, 225, .inl (bA (updB Pj (j * 15 + k) true)))) :: (o, .inr (8, [.ref ta, .ref rd, .ref jn, .ref sw, .ref rt, .ref jh, .ref kh, .ref th, .ref la, .ref lb, .ref cu, .ref sq, .int (nI tl), .int (nI lf), .int inp, .int bp, .int (nI lt)])) :: R) _ := hW
          refine lv_aload_n F.1 F.2.1 dX11_join_63 rfl (lv_at hl 1 rfl) ?_
          refine lv_aload_n F.1 F.2.1 dX11_join_64 rfl (lv_at hl 1 rfl) ?_
          refine gGet F hG hW nX11_join_X11 2 rfl rfl 2 (by decide) mX11_join_1 rfl dX11_join_65 ?_
          refine gGetN F hG hW nX11_join_X3 0 rfl rfl 1 (by decide) fX11_join_139 rfl dX11_join_68 ?_
          have hW := gW.re (l := [(jn, .inr (1, [.ref jp, .int (nI (sz + 1))])), (jp, .inl (g.2.1 1, 225, .inl (bA (updB Pj (j * 15 + k) true)))), (o, .inr (8, [.ref ta, .ref rd, .ref jn, .ref sw, .ref rt, .ref jh, .ref kh, .ref th, .ref la, .ref lb, .ref cu, .ref sq, .int (nI tl), .int (nI lf), .int inp, .int bp, .int (nI lt)]))]) (l' := [(o, .inr (8, [.ref ta, .ref rd, .ref jn, .ref sw, .ref rt, .ref jh, .ref kh, .ref th, .ref la, .ref lb, .ref cu, .ref sq, .int (nI tl), .int (nI lf), .int inp, .int bp, .int (nI lt)])), (jn, .inr (1, [.ref jp, .int (nI (sz + 1))])), (jp, .inl (g.2.1 1, 225, .inl (bA (updB Pj (j * 15 + k) true))))]) (R := R) hW [2, 0, 1] 3 rfl (by decide) rfl
          have hW : gW g ((o, .inr (8, [.ref ta, .ref rd, .ref jn, .ref sw, .ref rt, .ref jh, .ref kh, .ref th, .ref la, .ref lb, .ref cu, .ref sq, .int (nI tl), .int (nI lf), .int inp, .int bp, .int (nI lt)])) :: (jn, .inr (1, [.ref jp, .int (nI (sz + 1))])) :: (jp, .inl (g.2.1 1, 225, .inl (bA (updB Pj (j * 15 + k) true)))) :: R) _ := hW
          refine gVi (n := 1) (q := (RX11, TX11, 17)) (q0 := 0) (As := [.int (nI (sz + 1))]) F hG hS hW (c_X11_accept g l  ) rfl gX11_join_X11_accept rfl rfl rfl (by decide +kernel) ⟨rfl, rfl, Nat.le_of_ble_eq_true rfl, Nat.le_of_ble_eq_true rfl⟩ hl.1 (Nat.le_of_ble_eq_true rfl) ⟨Nat.le_of_ble_eq_true rfl, Nat.le_of_ble_eq_true rfl⟩ rfl rfl dX11_join_71 (fun r u H locs hq hW hS => ?_)
          obtain ⟨rfl, rfl⟩ := hq
          have hW : gW g ((o, .inr (8, [.ref ta, .ref rd, .ref jn, .ref sw, .ref rt, .ref jh, .ref kh, .ref th, .ref la, .ref lb, .ref cu, .ref sq, .int (nI tl), .int (nI lf), .int inp, .int bp, .int (nI 0)])) :: (jn, .inr (1, [.ref jp, .int (nI (sz + 1))])) :: (jp, .inl (g.2.1 1, 225, .inl (bA (updB Pj (j * 15 + k) true)))) :: R) _ := hW
          refine gRi F hW hS dX11_join_74 ?_
          have e9 : jnT sz Pj (nI j) (nI k) = 0 := (ixS_in hj (by decide)).trans ((ixS_in hk (by decide)).trans (if_neg (fun z => z.elim (Nat.not_le.mpr c_35) (fun z => by rw [c_46] at z; cases z))))
          have e8 : jnP sz Pj (nI j) (nI k) = updB Pj (j * 15 + k) true := by rw [jnP, e9]; rw [nI_nat (by omega), nI_nat (by omega)]; rfl
          rw [e8, e9]
          exact ⟨rfl, rfl⟩
        · refine lv_aload_n F.1 F.2.1 dX11_join_49 rfl (lv_at hl 1 rfl) ?_
          refine lv_iconst (v := nI 2) F.1 F.2.1 dX11_join_50 rfl ?_
          have hW := gW.re (l := [(jn, .inr (1, [.ref jp, .int (nI sz)])), (jp, .inl (g.2.1 1, 225, .inl (bA Pj))), (o, .inr (8, [.ref ta, .ref rd, .ref jn, .ref sw, .ref rt, .ref jh, .ref kh, .ref th, .ref la, .ref lb, .ref cu, .ref sq, .int (nI tl), .int (nI lf), .int inp, .int bp, .int (nI lt)]))]) (l' := [(o, .inr (8, [.ref ta, .ref rd, .ref jn, .ref sw, .ref rt, .ref jh, .ref kh, .ref th, .ref la, .ref lb, .ref cu, .ref sq, .int (nI tl), .int (nI lf), .int inp, .int bp, .int (nI lt)])), (jn, .inr (1, [.ref jp, .int (nI sz)])), (jp, .inl (g.2.1 1, 225, .inl (bA Pj)))]) (R := R) hW [2, 0, 1] 3 rfl (by decide) rfl
          have hW : gW g ((o, .inr (8, [.ref ta, .ref rd, .ref jn, .ref sw, .ref rt, .ref jh, .ref kh, .ref th, .ref la, .ref lb, .ref cu, .ref sq, .int (nI tl), .int (nI lf), .int inp, .int bp, .int (nI lt)])) :: (jn, .inr (1, [.ref jp, .int (nI sz)])) :: (jp, .inl (g.2.1 1, 225, .inl (bA Pj))) :: R) _ := hW
          refine gVi (n := 1) (q := (RX11, TX11, 17)) (q0 := 0) (As := [.int (nI 2)]) F hG hS hW (c_X11_refuse g l  ) rfl gX11_join_X11_refuse rfl rfl rfl (by decide +kernel) ⟨rfl, rfl, Nat.le_of_ble_eq_true rfl, Nat.le_of_ble_eq_true rfl⟩ hl.1 (Nat.le_of_ble_eq_true rfl) ⟨Nat.le_of_ble_eq_true rfl, Nat.le_of_ble_eq_true rfl⟩ rfl rfl dX11_join_51 (fun r u H locs hq hW hS => ?_)
          obtain ⟨rfl, rfl⟩ := hq
          have hW : gW g ((o, .inr (8, [.ref ta, .ref rd, .ref jn, .ref sw, .ref rt, .ref jh, .ref kh, .ref th, .ref la, .ref lb, .ref cu, .ref sq, .int (nI tl), .int (nI lf), .int inp, .int bp, .int (nI 2)])) :: (jn, .inr (1, [.ref jp, .int (nI sz)])) :: (jp, .inl (g.2.1 1, 225, .inl (bA Pj))) :: R) _ := hW
          refine gRi F hW hS dX11_join_54 ?_
          have e9 : jnT sz Pj (nI j) (nI k) = 2 := (ixS_in hj (by decide)).trans ((ixS_in hk (by decide)).trans (if_pos (Or.inr c_46)))
          have e8 : jnP sz Pj (nI j) (nI k) = Pj := by rw [jnP, e9]; rfl
          rw [e8, e9]
          exact ⟨rfl, rfl⟩

abbrev rm_X11_part : Room := ({ frames := 1, cells := 0, slots := 0, locals := 21 } : Room)
theorem mX11_part_1 : Cond.fieldLink RX11 23 "StepperHearts" "joins" "LStepperHearts$Joins;" ∈ wsX11_part := List.mem_of_getElem? (i := 1) rfl
theorem nX11_part_X11 : ∀ w ∈ wsX110, w ∈ wsX11_part := fun _ h => List.mem_cons_of_mem _ (List.mem_append_left _ (List.mem_append_right _ (h)))
theorem fX11_part_139 : (yX11_part.cls, 139, "StepperHearts$Joins", "size", "I", "StepperHearts") ∈ gNF := List.mem_of_getElem? (i := 1) rfl
theorem nX11_part_X3 : ∀ w ∈ wsX30, w ∈ wsX11_part := fun _ h => List.mem_cons_of_mem _ (List.mem_append_right _ (h))
set_option maxRecDepth 100000 in
set_option maxHeartbeats 4000000 in
theorem c_X11_part (g : gC) (l : Launch) {o : Nat} {ta : Nat} {rd : Nat} {jn : Nat} {jp : Nat} {sw : Nat} {rt : Nat} {jh : Nat} {kh : Nat} {th : Nat} {la : Nat} {lb : Nat} {cu : Nat} {sq : Nat} {tl : Nat} {lf : Nat} {lt : Nat} {sz : Nat} {inp : Int32} {bp : Int32} {Pj : Nat → Bool} {R : va_W} : cI g l yX11_part wsX11_part rm_X11_part 0 0 [.ref o] ((o, .inr (8, [.ref ta, .ref rd, .ref jn, .ref sw, .ref rt, .ref jh, .ref kh, .ref th, .ref la, .ref lb, .ref cu, .ref sq, .int (nI tl), .int (nI lf), .int inp, .int bp, .int (nI lt)])) :: (jn, .inr (1, [.ref jp, .int (nI sz)])) :: (jp, .inl (g.2.1 1, 225, .inl (bA Pj))) :: R) (fun r u => (nI sz) = r ∧ (o, .inr (8, [.ref ta, .ref rd, .ref jn, .ref sw, .ref rt, .ref jh, .ref kh, .ref th, .ref la, .ref lb, .ref cu, .ref sq, .int (nI tl), .int (nI lf), .int inp, .int bp, .int (nI lt)])) :: (jn, .inr (1, [.ref jp, .int (nI 0)])) :: (jp, .inl (g.2.1 1, 225, .inl (bA (fun _ => false)))) :: R = u) := by
  refine gEnterQ (cc := cX11_part) (maxL := 2) (ret := (some (.int))) (by decide +kernel) rfl (Nat.le_of_ble_eq_true rfl) ?_
  intro p e s m below meth c F hG hW ls hl
  have hS : va_S (gA g) s.heap s.heap [] := va_S.rf
  have hl : lv_has ls 2 [(0, .ref o)] := hl
  have hW : gW g ((o, .inr (8, [.ref ta, .ref rd, .ref jn, .ref sw, .ref rt, .ref jh, .ref kh, .ref th, .ref la, .ref lb, .ref cu, .ref sq, .int (nI tl), .int (nI lf), .int inp, .int bp, .int (nI lt)])) :: (jn, .inr (1, [.ref jp, .int (nI sz)])) :: (jp, .inl (g.2.1 1, 225, .inl (bA Pj))) :: R) s.heap := hW
  refine lv_aload_n F.1 F.2.1 dX11_part_0 rfl (lv_at hl 0 rfl) ?_
  refine gGet F hG hW nX11_part_X11 0 rfl rfl 2 (by decide) mX11_part_1 rfl dX11_part_1 ?_
  refine gGetN F hG hW nX11_part_X3 1 rfl rfl 1 (by decide) fX11_part_139 rfl dX11_part_4 ?_
  refine lv_istore_n (lv' := [(1, .int (nI sz)), (0, .ref o)]) F.1 F.2.1 dX11_part_7 rfl hl (by decide) rfl (fun ls hl => ?_)
  refine lv_aload_n F.1 F.2.1 dX11_part_8 rfl (lv_at hl 1 rfl) ?_
  refine gGet F hG hW nX11_part_X11 0 rfl rfl 2 (by decide) mX11_part_1 rfl dX11_part_9 ?_
  have hW := gW.re (l := [(o, .inr (8, [.ref ta, .ref rd, .ref jn, .ref sw, .ref rt, .ref jh, .ref kh, .ref th, .ref la, .ref lb, .ref cu, .ref sq, .int (nI tl), .int (nI lf), .int inp, .int bp, .int (nI lt)])), (jn, .inr (1, [.ref jp, .int (nI sz)])), (jp, .inl (g.2.1 1, 225, .inl (bA Pj)))]) (l' := [(jn, .inr (1, [.ref jp, .int (nI sz)])), (jp, .inl (g.2.1 1, 225, .inl (bA Pj))), (o, .inr (8, [.ref ta, .ref rd, .ref jn, .ref sw, .ref rt, .ref jh, .ref kh, .ref th, .ref la, .ref lb, .ref cu, .ref sq, .int (nI tl), .int (nI lf), .int inp, .int bp, .int (nI lt)]))]) (R := R) hW [1, 2, 0] 3 rfl (by decide) rfl
  have hW : gW g ((jn, .inr (1, [.ref jp, .int (nI sz)])) :: (jp, .inl (g.2.1 1, 225, .inl (bA Pj))) :: (o, .inr (8, [.ref ta, .ref rd, .ref jn, .ref sw, .ref rt, .ref jh, .ref kh, .ref th, .ref la, .ref lb, .ref cu, .ref sq, .int (nI tl), .int (nI lf), .int inp, .int bp, .int (nI lt)])) :: R) _ := hW
  refine gVv (n := 0) (q := (RX3, TX3, 2)) (q0 := 0) (As := []) F hG hS hW (c_X3_clear g l  ) rfl gX11_part_X3_clear rfl rfl rfl (by decide +kernel) ⟨rfl, rfl, Nat.le_of_ble_eq_true rfl, Nat.le_of_ble_eq_true rfl⟩ hl.1 (Nat.le_of_ble_eq_true rfl) ⟨Nat.le_of_ble_eq_true rfl, Nat.le_of_ble_eq_true rfl⟩ rfl rfl dX11_part_12 (fun u H locs hq hW hS => ?_)
  obtain rfl := hq
  have hW : gW g ((jn, .inr (1, [.ref jp, .int (nI 0)])) :: (jp, .inl (g.2.1 1, 225, .inl (bA (fun _ => false)))) :: (o, .inr (8, [.ref ta, .ref rd, .ref jn, .ref sw, .ref rt, .ref jh, .ref kh, .ref th, .ref la, .ref lb, .ref cu, .ref sq, .int (nI tl), .int (nI lf), .int inp, .int bp, .int (nI lt)])) :: R) _ := hW
  refine lv_iload_n F.1 F.2.1 dX11_part_15 rfl (lv_at hl 0 rfl) ?_
  have hW := gW.re (l := [(jn, .inr (1, [.ref jp, .int (nI 0)])), (jp, .inl (g.2.1 1, 225, .inl (bA (fun _ => false)))), (o, .inr (8, [.ref ta, .ref rd, .ref jn, .ref sw, .ref rt, .ref jh, .ref kh, .ref th, .ref la, .ref lb, .ref cu, .ref sq, .int (nI tl), .int (nI lf), .int inp, .int bp, .int (nI lt)]))]) (l' := [(o, .inr (8, [.ref ta, .ref rd, .ref jn, .ref sw, .ref rt, .ref jh, .ref kh, .ref th, .ref la, .ref lb, .ref cu, .ref sq, .int (nI tl), .int (nI lf), .int inp, .int bp, .int (nI lt)])), (jn, .inr (1, [.ref jp, .int (nI 0)])), (jp, .inl (g.2.1 1, 225, .inl (bA (fun _ => false))))]) (R := R) hW [2, 0, 1] 3 rfl (by decide) rfl
  have hW : gW g ((o, .inr (8, [.ref ta, .ref rd, .ref jn, .ref sw, .ref rt, .ref jh, .ref kh, .ref th, .ref la, .ref lb, .ref cu, .ref sq, .int (nI tl), .int (nI lf), .int inp, .int bp, .int (nI lt)])) :: (jn, .inr (1, [.ref jp, .int (nI 0)])) :: (jp, .inl (g.2.1 1, 225, .inl (bA (fun _ => false)))) :: R) _ := hW
  refine gRi F hW hS dX11_part_16 ?_
  exact ⟨rfl, rfl⟩

abbrev rm_X11_joined : Room := ({ frames := 4, cells := 0, slots := 0, locals := 91 } : Room)
theorem mX11_joined_1 : Cond.fieldLink RX11 73 "StepperHearts" "current" "LStepperHearts$Program;" ∈ wsX11_joined := List.mem_of_getElem? (i := 1) rfl
theorem nX11_joined_X11 : ∀ w ∈ wsX110, w ∈ wsX11_joined := fun _ h => List.mem_cons_of_mem _ (List.mem_append_left _ (List.mem_append_left _ (List.mem_append_left _ (List.mem_append_right _ (h)))))
theorem fX11_joined_107 : (yX11_joined.cls, 107, "StepperHearts$Program", "size", "I", "StepperHearts") ∈ gNF := List.mem_of_getElem? (i := 18) rfl
theorem nX11_joined_X8 : ∀ w ∈ wsX80, w ∈ wsX11_joined := fun _ h => List.mem_cons_of_mem _ (List.mem_append_left _ (List.mem_append_left _ (List.mem_append_right _ (h))))
theorem mX11_joined_2 : Cond.fieldLink RX11 44 "StepperHearts" "joinedHeart" "LStepperHearts$JoinedHeart;" ∈ wsX11_joined := List.mem_of_getElem? (i := 2) rfl
set_option maxRecDepth 100000 in
set_option maxHeartbeats 4000000 in
theorem c_X11_joined (g : gC) (l : Launch) {o : Nat} {ta : Nat} {rd : Nat} {jn : Nat} {jp : Nat} {sw : Nat} {rt : Nat} {jh : Nat} {js : Nat} {jc : Nat} {kh : Nat} {th : Nat} {la : Nat} {lb : Nat} {cu : Nat} {pk : Nat} {po : Nat} {pm : Nat} {sq : Nat} {tl : Nat} {lf : Nat} {lt : Nat} {sz : Nat} {n : Nat} {inp : Int32} {bp : Int32} {jf : Int32} {co : Nat → Nat} {kd : Nat → Nat} {vl : Nat → Nat} {Pj : Nat → Bool} {sec : Nat → Bool} {mk : Nat → Bool} {R : va_W} (hn : n ≤ 100) (hK : ∀ j, j < n → kd j < 15) : cI g l yX11_joined wsX11_joined rm_X11_joined 0 0 [.ref o] ((o, .inr (8, [.ref ta, .ref rd, .ref jn, .ref sw, .ref rt, .ref jh, .ref kh, .ref th, .ref la, .ref lb, .ref cu, .ref sq, .int (nI tl), .int (nI lf), .int inp, .int bp, .int (nI lt)])) :: (jn, .inr (1, [.ref jp, .int (nI sz)])) :: (jp, .inl (g.2.1 1, 225, .inl (bA Pj))) :: (jh, .inr (0, [.ref jn, .ref js, .ref jc, .int jf])) :: (js, .inl (g.2.1 1, 100, .inl (bA sec))) :: (jc, .inl (g.2.1 0, 100, .inl (nA co))) :: (cu, .inr (5, [.ref pk, .ref po, .ref pm, .int (nI n)])) :: (pk, .inl (g.2.1 0, 100, .inl (nA kd))) :: (po, .inl (g.2.1 0, 100, .inl (nA vl))) :: (pm, .inl (g.2.1 1, 100, .inl (bA mk))) :: R) (fun r u => (okS (if n = 0 then 4 else 0) (nI (cntB (secS (canJ n kd mk Pj none)) 100))) = r ∧ (o, .inr (8, [.ref ta, .ref rd, .ref jn, .ref sw, .ref rt, .ref jh, .ref kh, .ref th, .ref la, .ref lb, .ref cu, .ref sq, .int (nI tl), .int (nI lf), .int inp, .int bp, .int (nI (if n = 0 then 4 else 0))])) :: (jn, .inr (1, [.ref jp, .int (nI sz)])) :: (jp, .inl (g.2.1 1, 225, .inl (bA Pj))) :: (jh, .inr (0, [.ref jn, .ref js, .ref jc, .int jf])) :: (js, .inl (g.2.1 1, 100, .inl (bA (if n = 0 then sec else secS (canJ n kd mk Pj none))))) :: (jc, .inl (g.2.1 0, 100, .inl (nA co))) :: (cu, .inr (5, [.ref pk, .ref po, .ref pm, .int (nI n)])) :: (pk, .inl (g.2.1 0, 100, .inl (nA kd))) :: (po, .inl (g.2.1 0, 100, .inl (nA vl))) :: (pm, .inl (g.2.1 1, 100, .inl (bA mk))) :: R = u) := by
  refine gEnterQ (cc := cX11_joined) (maxL := 1) (ret := (some (.int))) (by decide +kernel) rfl (Nat.le_of_ble_eq_true rfl) ?_
  intro p e s m below meth c F hG hW ls hl
  have hS : va_S (gA g) s.heap s.heap [] := va_S.rf
  have hl : lv_has ls 1 [(0, .ref o)] := hl
  have hW : gW g ((o, .inr (8, [.ref ta, .ref rd, .ref jn, .ref sw, .ref rt, .ref jh, .ref kh, .ref th, .ref la, .ref lb, .ref cu, .ref sq, .int (nI tl), .int (nI lf), .int inp, .int bp, .int (nI lt)])) :: (jn, .inr (1, [.ref jp, .int (nI sz)])) :: (jp, .inl (g.2.1 1, 225, .inl (bA Pj))) :: (jh, .inr (0, [.ref jn, .ref js, .ref jc, .int jf])) :: (js, .inl (g.2.1 1, 100, .inl (bA sec))) :: (jc, .inl (g.2.1 0, 100, .inl (nA co))) :: (cu, .inr (5, [.ref pk, .ref po, .ref pm, .int (nI n)])) :: (pk, .inl (g.2.1 0, 100, .inl (nA kd))) :: (po, .inl (g.2.1 0, 100, .inl (nA vl))) :: (pm, .inl (g.2.1 1, 100, .inl (bA mk))) :: R) s.heap := hW
  refine lv_aload_n F.1 F.2.1 dX11_joined_0 rfl (lv_at hl 0 rfl) ?_
  refine gGet F hG hW nX11_joined_X11 0 rfl rfl 10 (by decide) mX11_joined_1 rfl dX11_joined_1 ?_
  refine gGetN F hG hW nX11_joined_X8 6 rfl rfl 3 (by decide) fX11_joined_107 rfl dX11_joined_4 ?_
  refine gIfNe (tgt := 16) F (by omega) dX11_joined_7 (by decide) (fun c_7 => ?_) (fun c_7 => ?_)
  · refine lv_aload_n F.1 F.2.1 dX11_joined_16 rfl (lv_at hl 0 rfl) ?_
    refine lv_aload_n F.1 F.2.1 dX11_joined_17 rfl (lv_at hl 0 rfl) ?_
    refine gGet F hG hW nX11_joined_X11 0 rfl rfl 5 (by decide) mX11_joined_2 rfl dX11_joined_18 ?_
    refine lv_aload_n F.1 F.2.1 dX11_joined_21 rfl (lv_at hl 0 rfl) ?_
    refine gGet F hG hW nX11_joined_X11 0 rfl rfl 10 (by decide) mX11_joined_1 rfl dX11_joined_22 ?_
    refine lv_iconst (v := -1) F.1 F.2.1 dX11_joined_25 rfl ?_
    have hW := gW.re (l := [(o, .inr (8, [.ref ta, .ref rd, .ref jn, .ref sw, .ref rt, .ref jh, .ref kh, .ref th, .ref la, .ref lb, .ref cu, .ref sq, .int (nI tl), .int (nI lf), .int inp, .int bp, .int (nI lt)])), (jn, .inr (1, [.ref jp, .int (nI sz)])), (jp, .inl (g.2.1 1, 225, .inl (bA Pj))), (jh, .inr (0, [.ref jn, .ref js, .ref jc, .int jf])), (js, .inl (g.2.1 1, 100, .inl (bA sec))), (jc, .inl (g.2.1 0, 100, .inl (nA co))), (cu, .inr (5, [.ref pk, .ref po, .ref pm, .int (nI n)])), (pk, .inl (g.2.1 0, 100, .inl (nA kd))), (po, .inl (g.2.1 0, 100, .inl (nA vl))), (pm, .inl (g.2.1 1, 100, .inl (bA mk)))]) (l' := [(jh, .inr (0, [.ref jn, .ref js, .ref jc, .int jf])), (js, .inl (g.2.1 1, 100, .inl (bA sec))), (jn, .inr (1, [.ref jp, .int (nI sz)])), (jp, .inl (g.2.1 1, 225, .inl (bA Pj))), (cu, .inr (5, [.ref pk, .ref po, .ref pm, .int (nI n)])), (pk, .inl (g.2.1 0, 100, .inl (nA kd))), (pm, .inl (g.2.1 1, 100, .inl (bA mk))), (o, .inr (8, [.ref ta, .ref rd, .ref jn, .ref sw, .ref rt, .ref jh, .ref kh, .ref th, .ref la, .ref lb, .ref cu, .ref sq, .int (nI tl), .int (nI lf), .int inp, .int bp, .int (nI lt)])), (jc, .inl (g.2.1 0, 100, .inl (nA co))), (po, .inl (g.2.1 0, 100, .inl (nA vl)))]) (R := R) hW [3, 4, 1, 2, 6, 7, 9, 0, 5, 8] 10 rfl (by decide) rfl
    have hW : gW g ((jh, .inr (0, [.ref jn, .ref js, .ref jc, .int jf])) :: (js, .inl (g.2.1 1, 100, .inl (bA sec))) :: (jn, .inr (1, [.ref jp, .int (nI sz)])) :: (jp, .inl (g.2.1 1, 225, .inl (bA Pj))) :: (cu, .inr (5, [.ref pk, .ref po, .ref pm, .int (nI n)])) :: (pk, .inl (g.2.1 0, 100, .inl (nA kd))) :: (pm, .inl (g.2.1 1, 100, .inl (bA mk))) :: (o, .inr (8, [.ref ta, .ref rd, .ref jn, .ref sw, .ref rt, .ref jh, .ref kh, .ref th, .ref la, .ref lb, .ref cu, .ref sq, .int (nI tl), .int (nI lf), .int inp, .int bp, .int (nI lt)])) :: (jc, .inl (g.2.1 0, 100, .inl (nA co))) :: (po, .inl (g.2.1 0, 100, .inl (nA vl))) :: R) _ := hW
    refine gVi (n := 2) (q := (RX2, TX2, 4)) (q0 := 0) (As := [.ref cu, .int (-1)]) F hG hS hW (c_X2_pairUp g l (ex := none) (by omega) hK (fun q z => by cases z)) rfl gX11_joined_X2_pairUp rfl rfl rfl (by decide +kernel) ⟨rfl, rfl, Nat.le_of_ble_eq_true rfl, Nat.le_of_ble_eq_true rfl⟩ hl.1 (Nat.le_of_ble_eq_true rfl) ⟨Nat.le_of_ble_eq_true rfl, Nat.le_of_ble_eq_true rfl⟩ rfl rfl dX11_joined_26 (fun r u H locs hq hW hS => ?_)
    obtain ⟨rfl, rfl⟩ := hq
    have hW : gW g ((jh, .inr (0, [.ref jn, .ref js, .ref jc, .int jf])) :: (js, .inl (g.2.1 1, 100, .inl (bA (secS (canJ n kd mk Pj none))))) :: (jn, .inr (1, [.ref jp, .int (nI sz)])) :: (jp, .inl (g.2.1 1, 225, .inl (bA Pj))) :: (cu, .inr (5, [.ref pk, .ref po, .ref pm, .int (nI n)])) :: (pk, .inl (g.2.1 0, 100, .inl (nA kd))) :: (pm, .inl (g.2.1 1, 100, .inl (bA mk))) :: (o, .inr (8, [.ref ta, .ref rd, .ref jn, .ref sw, .ref rt, .ref jh, .ref kh, .ref th, .ref la, .ref lb, .ref cu, .ref sq, .int (nI tl), .int (nI lf), .int inp, .int bp, .int (nI lt)])) :: (jc, .inl (g.2.1 0, 100, .inl (nA co))) :: (po, .inl (g.2.1 0, 100, .inl (nA vl))) :: R) _ := hW
    have hW := gW.re (l := [(jh, .inr (0, [.ref jn, .ref js, .ref jc, .int jf])), (js, .inl (g.2.1 1, 100, .inl (bA (secS (canJ n kd mk Pj none))))), (jn, .inr (1, [.ref jp, .int (nI sz)])), (jp, .inl (g.2.1 1, 225, .inl (bA Pj))), (cu, .inr (5, [.ref pk, .ref po, .ref pm, .int (nI n)])), (pk, .inl (g.2.1 0, 100, .inl (nA kd))), (pm, .inl (g.2.1 1, 100, .inl (bA mk))), (o, .inr (8, [.ref ta, .ref rd, .ref jn, .ref sw, .ref rt, .ref jh, .ref kh, .ref th, .ref la, .ref lb, .ref cu, .ref sq, .int (nI tl), .int (nI lf), .int inp, .int bp, .int (nI lt)]))]) (l' := [(o, .inr (8, [.ref ta, .ref rd, .ref jn, .ref sw, .ref rt, .ref jh, .ref kh, .ref th, .ref la, .ref lb, .ref cu, .ref sq, .int (nI tl), .int (nI lf), .int inp, .int bp, .int (nI lt)])), (jh, .inr (0, [.ref jn, .ref js, .ref jc, .int jf])), (js, .inl (g.2.1 1, 100, .inl (bA (secS (canJ n kd mk Pj none))))), (jn, .inr (1, [.ref jp, .int (nI sz)])), (jp, .inl (g.2.1 1, 225, .inl (bA Pj))), (cu, .inr (5, [.ref pk, .ref po, .ref pm, .int (nI n)])), (pk, .inl (g.2.1 0, 100, .inl (nA kd))), (pm, .inl (g.2.1 1, 100, .inl (bA mk)))]) (R := (jc, .inl (g.2.1 0, 100, .inl (nA co))) :: (po, .inl (g.2.1 0, 100, .inl (nA vl))) :: R) hW [7, 0, 1, 2, 3, 4, 5, 6] 8 rfl (by decide) rfl
    have hW : gW g ((o, .inr (8, [.ref ta, .ref rd, .ref jn, .ref sw, .ref rt, .ref jh, .ref kh, .ref th, .ref la, .ref lb, .ref cu, .ref sq, .int (nI tl), .int (nI lf), .int inp, .int bp, .int (nI lt)])) :: (jh, .inr (0, [.ref jn, .ref js, .ref jc, .int jf])) :: (js, .inl (g.2.1 1, 100, .inl (bA (secS (canJ n kd mk Pj none))))) :: (jn, .inr (1, [.ref jp, .int (nI sz)])) :: (jp, .inl (g.2.1 1, 225, .inl (bA Pj))) :: (cu, .inr (5, [.ref pk, .ref po, .ref pm, .int (nI n)])) :: (pk, .inl (g.2.1 0, 100, .inl (nA kd))) :: (pm, .inl (g.2.1 1, 100, .inl (bA mk))) :: (jc, .inl (g.2.1 0, 100, .inl (nA co))) :: (po, .inl (g.2.1 0, 100, .inl (nA vl))) :: R) _ := hW
    refine gVi (n := 1) (q := (RX11, TX11, 17)) (q0 := 0) (As := [.int (nI (cntB (secS (canJ n kd mk Pj none)) 100))]) F hG hS hW (c_X11_accept g l  ) rfl gX11_joined_X11_accept rfl rfl rfl (by decide +kernel) ⟨rfl, rfl, Nat.le_of_ble_eq_true rfl, Nat.le_of_ble_eq_true rfl⟩ hl.1 (Nat.le_of_ble_eq_true rfl) ⟨Nat.le_of_ble_eq_true rfl, Nat.le_of_ble_eq_true rfl⟩ rfl rfl dX11_joined_29 (fun r u H locs hq hW hS => ?_)
    obtain ⟨rfl, rfl⟩ := hq
    have hW : gW g ((o, .inr (8, [.ref ta, .ref rd, .ref jn, .ref sw, .ref rt, .ref jh, .ref kh, .ref th, .ref la, .ref lb, .ref cu, .ref sq, .int (nI tl), .int (nI lf), .int inp, .int bp, .int (nI 0)])) :: (jh, .inr (0, [.ref jn, .ref js, .ref jc, .int jf])) :: (js, .inl (g.2.1 1, 100, .inl (bA (secS (canJ n kd mk Pj none))))) :: (jn, .inr (1, [.ref jp, .int (nI sz)])) :: (jp, .inl (g.2.1 1, 225, .inl (bA Pj))) :: (cu, .inr (5, [.ref pk, .ref po, .ref pm, .int (nI n)])) :: (pk, .inl (g.2.1 0, 100, .inl (nA kd))) :: (pm, .inl (g.2.1 1, 100, .inl (bA mk))) :: (jc, .inl (g.2.1 0, 100, .inl (nA co))) :: (po, .inl (g.2.1 0, 100, .inl (nA vl))) :: R) _ := hW
    have hW := gW.re (l := [(o, .inr (8, [.ref ta, .ref rd, .ref jn, .ref sw, .ref rt, .ref jh, .ref kh, .ref th, .ref la, .ref lb, .ref cu, .ref sq, .int (nI tl), .int (nI lf), .int inp, .int bp, .int (nI 0)])), (jh, .inr (0, [.ref jn, .ref js, .ref jc, .int jf])), (js, .inl (g.2.1 1, 100, .inl (bA (secS (canJ n kd mk Pj none))))), (jn, .inr (1, [.ref jp, .int (nI sz)])), (jp, .inl (g.2.1 1, 225, .inl (bA Pj))), (cu, .inr (5, [.ref pk, .ref po, .ref pm, .int (nI n)])), (pk, .inl (g.2.1 0, 100, .inl (nA kd))), (pm, .inl (g.2.1 1, 100, .inl (bA mk))), (jc, .inl (g.2.1 0, 100, .inl (nA co))), (po, .inl (g.2.1 0, 100, .inl (nA vl)))]) (l' := [(o, .inr (8, [.ref ta, .ref rd, .ref jn, .ref sw, .ref rt, .ref jh, .ref kh, .ref th, .ref la, .ref lb, .ref cu, .ref sq, .int (nI tl), .int (nI lf), .int inp, .int bp, .int (nI 0)])), (jn, .inr (1, [.ref jp, .int (nI sz)])), (jp, .inl (g.2.1 1, 225, .inl (bA Pj))), (jh, .inr (0, [.ref jn, .ref js, .ref jc, .int jf])), (js, .inl (g.2.1 1, 100, .inl (bA (secS (canJ n kd mk Pj none))))), (jc, .inl (g.2.1 0, 100, .inl (nA co))), (cu, .inr (5, [.ref pk, .ref po, .ref pm, .int (nI n)])), (pk, .inl (g.2.1 0, 100, .inl (nA kd))), (po, .inl (g.2.1 0, 100, .inl (nA vl))), (pm, .inl (g.2.1 1, 100, .inl (bA mk)))]) (R := R) hW [0, 3, 4, 1, 2, 8, 5, 6, 9, 7] 10 rfl (by decide) rfl
    have hW : gW g ((o, .inr (8, [.ref ta, .ref rd, .ref jn, .ref sw, .ref rt, .ref jh, .ref kh, .ref th, .ref la, .ref lb, .ref cu, .ref sq, .int (nI tl), .int (nI lf), .int inp, .int bp, .int (nI 0)])) :: (jn, .inr (1, [.ref jp, .int (nI sz)])) :: (jp, .inl (g.2.1 1, 225, .inl (bA Pj))) :: (jh, .inr (0, [.ref jn, .ref js, .ref jc, .int jf])) :: (js, .inl (g.2.1 1, 100, .inl (bA (secS (canJ n kd mk Pj none))))) :: (jc, .inl (g.2.1 0, 100, .inl (nA co))) :: (cu, .inr (5, [.ref pk, .ref po, .ref pm, .int (nI n)])) :: (pk, .inl (g.2.1 0, 100, .inl (nA kd))) :: (po, .inl (g.2.1 0, 100, .inl (nA vl))) :: (pm, .inl (g.2.1 1, 100, .inl (bA mk))) :: R) _ := hW
    refine gRi F hW hS dX11_joined_32 ?_
    rw [if_neg c_7, if_neg c_7]
    exact ⟨rfl, rfl⟩
  · refine lv_aload_n F.1 F.2.1 dX11_joined_10 rfl (lv_at hl 0 rfl) ?_
    refine lv_iconst (v := nI 4) F.1 F.2.1 dX11_joined_11 rfl ?_
    refine gVi (n := 1) (q := (RX11, TX11, 17)) (q0 := 0) (As := [.int (nI 4)]) F hG hS hW (c_X11_refuse g l  ) rfl gX11_joined_X11_refuse rfl rfl rfl (by decide +kernel) ⟨rfl, rfl, Nat.le_of_ble_eq_true rfl, Nat.le_of_ble_eq_true rfl⟩ hl.1 (Nat.le_of_ble_eq_true rfl) ⟨Nat.le_of_ble_eq_true rfl, Nat.le_of_ble_eq_true rfl⟩ rfl rfl dX11_joined_12 (fun r u H locs hq hW hS => ?_)
    obtain ⟨rfl, rfl⟩ := hq
    have hW : gW g ((o, .inr (8, [.ref ta, .ref rd, .ref jn, .ref sw, .ref rt, .ref jh, .ref kh, .ref th, .ref la, .ref lb, .ref cu, .ref sq, .int (nI tl), .int (nI lf), .int inp, .int bp, .int (nI 4)])) :: (jn, .inr (1, [.ref jp, .int (nI sz)])) :: (jp, .inl (g.2.1 1, 225, .inl (bA Pj))) :: (jh, .inr (0, [.ref jn, .ref js, .ref jc, .int jf])) :: (js, .inl (g.2.1 1, 100, .inl (bA sec))) :: (jc, .inl (g.2.1 0, 100, .inl (nA co))) :: (cu, .inr (5, [.ref pk, .ref po, .ref pm, .int (nI n)])) :: (pk, .inl (g.2.1 0, 100, .inl (nA kd))) :: (po, .inl (g.2.1 0, 100, .inl (nA vl))) :: (pm, .inl (g.2.1 1, 100, .inl (bA mk))) :: R) _ := hW
    refine gRi F hW hS dX11_joined_15 ?_
    rw [if_pos c_7, if_pos c_7]
    exact ⟨rfl, rfl⟩

