/-! ===== methods that throw NoSuchElementException (hand-written) ===== -/
abbrev gNo : String := "java/util/NoSuchElementException"
def gNoN : List String := ["java/lang/RuntimeException", "java/lang/Exception"]
def gXC (g : gC) (PX : Prop) (w : va_W) : String → State → State → Prop := vx_X (fun u : va_W => PX ∧ w = u) (fun E u t => E = gNo ∧ gW g u t.heap) (gA g)
def cE (g : gC) (l : Launch) (y : MethodName) (ws : List Cond) (rm : Room) (mc ms : Nat) (as : List Value) (w : va_W) (Q : Int32 → va_W → Prop) (PX : Prop) : Prop :=
  vx_Met l y ws rm (va_Pc as (fun U => gU g U ∧ gW g w U.heap)) (va_Qi Q (fun u t => gW g u t.heap) (gA g)) (gXC g PX w) mc ms (gA g)
theorem gEnterX {g : gC} {l : Launch} {y : MethodName} {ws ws' : List Cond} {rm : Room} {mc ms : Nat} {as : List Value} {w : va_W} {cc : ByteArray} {maxL : Nat} {ret : Option FieldType} {Qc : Array Value → State → Outcome → State → Prop} {XC : String → State → State → Prop}
    (hy : plainName y.cls = true) (hw : ws = Cond.code y cc maxL ret :: ws') (hl : (lg_sl as).length ≤ maxL)
    (body : ∀ (p : Program) (e : Env) (s : State) (m : MethodId) (below : List Frame) (meth : Method) (c : Code), gF p s m meth c as.toArray ws y cc maxL ret → (∀ x ∈ c.exceptionTable.toList, False) → gU g s → gW g w s.heap → ∀ ls : Array Slot, lv_has ls maxL (lv_args 0 as) →
      W p l e (headSpec ws rm).room s m as.toArray below meth c s.heap [] 0 0 (vx_MQ below Qc XC as.toArray s mc ms (gA g)) (F0 m 0 ls [])) :
    vx_Met l y ws rm (va_Pc as (fun U => gU g U ∧ gW g w U.heap)) Qc XC mc ms (gA g) := by
  refine vx_ofW (cc := cc) (maxL := maxL) (ret := ret) hy hw ?_
  intro p e s m args below meth c s₁ B hml hx hv
  obtain ⟨rfl, hG, hW⟩ := hv
  have h1 := lv_entry as (n := maxL) hl
  rw [lg_entry_eq]
  exact body p e s m below meth c ⟨B.exec, B.bytes, B.returns, hml, atoms_spec (ws := ws) B.pre, findClass_of_methodNamed B.named, B.notSynchronized, (name_of_methodNamed B.named B.method).1⟩ hx hG hW _ h1
theorem gBad : (vx_atS RX11 193 gNo gNoN).filter (fun w => !goodWord w) = [.declares (Bundle.initS "java/lang/RuntimeException"), .declares (Bundle.initS "java/lang/Exception"), .declares (Bundle.initS Bundle.tN), .castable gNo gNo] := by decide +kernel
theorem gOt : (Cond.classLink RX11 189 gNo :: Cond.initialized gNo :: vx_atS RX11 193 gNo gNoN).all vx_ot = true := by decide +kernel
theorem gF_S {A : Nat → Prop} {s t : State} {H : Heap} {locs : List Loc} (hS : va_S A s.heap H locs) (h1 : H.size ≤ t.heap.size) (h2 : ∀ q : Nat, q < H.size → t.heap[q]? = H[q]?) : va_F A s t :=
  ⟨Nat.le_trans hS.1 h1, fun q hq hn => (h2 q (Nat.lt_of_lt_of_le hq hS.1)).trans (hS.2.1 q hq hn)⟩
theorem gW.grow {g : gC} {w : va_W} {H H1 : Heap} (h : gW g w H) (h2 : ∀ q : Nat, q < H.size → H1[q]? = H[q]?) : gW g w H1 := ⟨h.1.kept (fun k q hk => h2 q.1 (h.1 k q hk).lt), h.2⟩
section GTHROW
variable {p : Program} {l : Launch} {e : Env} {R : Room} {s : State} {m : MethodId} {below : List Frame} {meth : Method} {c : Code} {H : Heap} {locs : List Loc} {cells slots mc ms : Nat} {as : List Value} {ws : List Cond} {y : MethodName} {cc : ByteArray} {maxL : Nat} {ret : Option FieldType} {pc : Nat} {ls : Array Slot} {g : gC} {w : va_W} {Qc : Array Value → State → Outcome → State → Prop} {PX : Prop}
theorem gThrow (F : gF p s m meth c as.toArray ws y cc maxL ret) (hx0 : ∀ x ∈ c.exceptionTable.toList, False) (hG : gU g s) (hW : gW g w H) (hS : va_S (gA g) s.heap H locs) (hsz : ls.size = maxL) (hlt : l.stackTraces = false) (hy : y.cls = RX11)
    {is i : Nat} {text : String} (hk : (RX11, is, text, i) ∈ gKR) (h1 : Cond.classLink RX11 189 gNo ∈ ws) (h2 : Cond.initialized gNo ∈ ws) (h3 : ∀ w ∈ (vx_atS RX11 193 gNo gNoN).filter goodWord, w ∈ ws)
    (d0 : decode cc pc = .ok (.new 189, 3)) (d3 : decode cc (pc + 3) = .ok (.dup, 1)) (d4 : decode cc (pc + 4) = .ok (.ldc is, 2)) (d6 : decode cc (pc + 6) = .ok (.invokespecial 193, 3)) (d9 : decode cc (pc + 9) = .ok (.athrow, 1))
    (hRf : 5 < R.frames) (hRl : 82 ≤ R.locals) (hRc : cells + 1 ≤ R.cells) (hRs : slots + 6 ≤ R.slots) (hc : cells + 1 ≤ mc) (hs : slots + 6 ≤ ms) (hp : PX) :
    W p l e R s m as.toArray below meth c H locs cells slots (vx_MQ below Qc (gXC g PX w) as.toArray s mc ms (gA g)) (F0 m pc ls []) := by
  have hown : s.vm.findClass RX11 = some m.cls := by rw [← hy]; exact F.2.2.2.2.2.1
  refine vx_throwS (A := gA g) (sa := g.2.2.2 i) (cls := gNo) (text := text) (names := gNoN) (ik := 189) (is := is) (ic := 193) F.1 F.2.1 hlt hown (by decide +kernel) (by decide +kernel) (F.2.2.2.2.1 _ h1) (F.2.2.2.2.1 _ h2) (hG.2.2.2.2.2.2.1 _ hk) ?_ ?_ hG.2.2.1.2.2.2.2.2.2.2.2.2.2.2.1 hG.2.2.1.2.2.2.2.2.2.2.2.2.2.2.2.1 hS (hsz.trans F.2.2.2.1.symm) d0 d3 d4 d6 d9 (fun x hx => (hx0 x hx).elim) hRf hRl hRc hRs F.2.2.2.2.2.2.1 ?_ hS.2.2 hc hs
  · refine vx_hat (B := [.declares (Bundle.initS "java/lang/RuntimeException"), .declares (Bundle.initS "java/lang/Exception"), .declares (Bundle.initS Bundle.tN), .castable gNo gNo]) (fun w hw => F.2.2.2.2.1 _ (h3 w hw)) (fun w hw => by rw [gBad] at hw; exact hw) ?_
    exact vx_c (va_Nw.use rfl (hG.2.2.2.1 _ (List.mem_of_getElem? (i := 2) rfl))) (vx_c (va_Nw.use rfl (hG.2.2.2.1 _ (List.mem_of_getElem? (i := 3) rfl))) (vx_c (va_Nw.use rfl (hG.2.2.2.1 _ (List.mem_of_getElem? (i := 4) rfl))) (vx_c (va_Nw.use rfl (hG.2.2.2.2.2.2.2 (gNo, gNo) (List.mem_of_getElem? (i := 0) rfl))) vx_n)))
  · exact List.all_eq_true.mp gOt
  · intro t ht h5 h6
    exact ⟨w, ⟨hp, rfl⟩, ⟨rfl, hW.grow h6⟩, gF_S hS h5 h6⟩
end GTHROW
theorem gWiden {p : Program} {l : Launch} {e : Env} {R : Room} {s : State} {m : MethodId} {args : Array Value} {below : List Frame} {meth : Method} {c : Code} {H : Heap} {locs : List Loc} {cells slots k n : Nat} {Q : State → Prop} {f : JFrame} (h1 : cells ≤ k) (h2 : slots ≤ n) (kk : W p l e R s m args below meth c H locs k n Q f) : W p l e R s m args below meth c H locs cells slots Q f := fun T hT X => kk T hT (stand_widen X h1 h2)
theorem ixo4 {x : Int32} {a b : Nat} (h : x < 0 ∨ nI (min a b) ≤ x) (h1 : ¬ x < 0) (h2 : ¬ nI a ≤ x) (h3 : x < nI b) (ha : a < 2 ^ 31) (hb : b < 2 ^ 31) : False := by
  rcases h with h | h
  · exact h1 h
  · rcases Nat.le_total a b with q | q
    · rw [Nat.min_eq_left q] at h; exact h2 h
    · rw [Nat.min_eq_right q] at h; exact Int32.not_lt.mpr h h3

abbrev rm_X11_out : Room := ({ frames := 6, cells := 1, slots := 6, locals := 82 } : Room)
theorem mX11_out_1 : Cond.classLink RX11 189 "java/util/NoSuchElementException" ∈ wsX11_out := List.mem_of_getElem? (i := 1) rfl
theorem mX11_out_2 : Cond.initialized "java/util/NoSuchElementException" ∈ wsX11_out := List.mem_of_getElem? (i := 2) rfl
theorem mX11_out_3 : Cond.fieldLink RX11 63 "StepperHearts" "latest" "LStepperHearts$Machine;" ∈ wsX11_out := List.mem_of_getElem? (i := 3) rfl
theorem nX11_out_X11 : ∀ w ∈ wsX110, w ∈ wsX11_out := fun _ h => List.mem_cons_of_mem _ (List.mem_append_left _ (List.mem_append_left _ (List.mem_append_right _ (h))))
theorem fX11_out_180 : (yX11_out.cls, 180, "StepperHearts$Machine", "outCount", "I", "StepperHearts") ∈ gNF := List.mem_of_getElem? (i := 14) rfl
theorem nX11_out_X6 : ∀ w ∈ wsX60, w ∈ wsX11_out := fun _ h => List.mem_cons_of_mem _ (List.mem_append_left _ (List.mem_append_right _ (h)))
theorem fX11_out_196 : (yX11_out.cls, 196, "StepperHearts$Machine", "outs", "[I", "StepperHearts") ∈ gNF := List.mem_of_getElem? (i := 3) rfl
set_option maxRecDepth 100000 in
set_option maxHeartbeats 4000000 in
theorem c_X11_out (g : gC) (l : Launch) {o : Nat} {ta : Nat} {rd : Nat} {jn : Nat} {sw : Nat} {rt : Nat} {jh : Nat} {kh : Nat} {th : Nat} {la : Nat} {a0 : Nat} {a1 : Nat} {a2 : Nat} {a3 : Nat} {a4 : Nat} {a5 : Nat} {lb : Nat} {cu : Nat} {sq : Nat} {tl : Nat} {lf : Nat} {lt : Nat} {inp : Int32} {bp : Int32} {hr : Bool} {pn : Nat} {en : Int32} {st : Nat} {sp : Nat} {ht : Nat} {hi : Nat} {oc : Nat} {pl : Nat} {fk : Int32} {tc : Nat} {ou : Nat → Int32} {x : Int32} {R : va_W} (hlt : l.stackTraces = false) (hb : oc < 2 ^ 31) : cE g l yX11_out wsX11_out rm_X11_out 1 6 [.ref o, .int x] ((o, .inr (8, [.ref ta, .ref rd, .ref jn, .ref sw, .ref rt, .ref jh, .ref kh, .ref th, .ref la, .ref lb, .ref cu, .ref sq, .int (nI tl), .int (nI lf), .int inp, .int bp, .int (nI lt)])) :: (la, .inr (3, [.ref a0, .ref a1, .ref a2, .ref a3, .ref a4, .ref a5, .int (bI hr), .int (nI pn), .int en, .int (nI st), .int (nI sp), .int (nI ht), .int (nI hi), .int (nI oc), .int (nI pl), .int fk, .int (nI tc)])) :: (a2, .inl (g.2.1 0, 60, .inl ou)) :: R) (fun r u => (ixS x (min oc 60) ou (nI 0)) = r ∧ (o, .inr (8, [.ref ta, .ref rd, .ref jn, .ref sw, .ref rt, .ref jh, .ref kh, .ref th, .ref la, .ref lb, .ref cu, .ref sq, .int (nI tl), .int (nI lf), .int inp, .int bp, .int (nI lt)])) :: (la, .inr (3, [.ref a0, .ref a1, .ref a2, .ref a3, .ref a4, .ref a5, .int (bI hr), .int (nI pn), .int en, .int (nI st), .int (nI sp), .int (nI ht), .int (nI hi), .int (nI oc), .int (nI pl), .int fk, .int (nI tc)])) :: (a2, .inl (g.2.1 0, 60, .inl ou)) :: R = u ∧ ∃ j, j < min oc 60 ∧ x = nI j) (x < 0 ∨ nI (min oc 60) ≤ x) := by
  refine gEnterX (cc := cX11_out) (maxL := 2) (ret := (some (.int))) (by decide +kernel) rfl (Nat.le_of_ble_eq_true rfl) ?_
  intro p e s m below meth c F hx0 hG hW ls hl
  have hS : va_S (gA g) s.heap s.heap [] := va_S.rf
  have hl : lv_has ls 2 [(0, .ref o), (1, .int x)] := hl
  have hW : gW g ((o, .inr (8, [.ref ta, .ref rd, .ref jn, .ref sw, .ref rt, .ref jh, .ref kh, .ref th, .ref la, .ref lb, .ref cu, .ref sq, .int (nI tl), .int (nI lf), .int inp, .int bp, .int (nI lt)])) :: (la, .inr (3, [.ref a0, .ref a1, .ref a2, .ref a3, .ref a4, .ref a5, .int (bI hr), .int (nI pn), .int en, .int (nI st), .int (nI sp), .int (nI ht), .int (nI hi), .int (nI oc), .int (nI pl), .int fk, .int (nI tc)])) :: (a2, .inl (g.2.1 0, 60, .inl ou)) :: R) s.heap := hW
  rcases ixc x (n := (min oc 60)) (by omega) with hx | ⟨j, hj, rfl⟩
  · have hl : lv_has ls 2 [(0, .ref o), (1, .int x)] := hl
    have hW : gW g ((o, .inr (8, [.ref ta, .ref rd, .ref jn, .ref sw, .ref rt, .ref jh, .ref kh, .ref th, .ref la, .ref lb, .ref cu, .ref sq, .int (nI tl), .int (nI lf), .int inp, .int bp, .int (nI lt)])) :: (la, .inr (3, [.ref a0, .ref a1, .ref a2, .ref a3, .ref a4, .ref a5, .int (bI hr), .int (nI pn), .int en, .int (nI st), .int (nI sp), .int (nI ht), .int (nI hi), .int (nI oc), .int (nI pl), .int fk, .int (nI tc)])) :: (a2, .inl (g.2.1 0, 60, .inl ou)) :: R) s.heap := hW
    refine lv_iload_n F.1 F.2.1 dX11_out_0 rfl (lv_at hl 1 rfl) ?_
    refine lv_if_lt (tgt := 21) F.1 F.2.1 dX11_out_1 (by decide) (fun c_1 => ?_) (fun c_1 => ?_)
    · refine gThrow (is := 191) (i := 60) (PX := x < 0 ∨ nI (min oc 60) ≤ x) F hx0 hG hW hS hl.1 hlt rfl (List.mem_of_getElem? (i := 0) rfl) mX11_out_1 mX11_out_2 (fun w hw => List.mem_cons_of_mem _ (List.mem_append_right _ hw)) dX11_out_21 dX11_out_24 dX11_out_25 dX11_out_27 dX11_out_30 (Nat.le_of_ble_eq_true rfl) (Nat.le_of_ble_eq_true rfl) (Nat.le_of_ble_eq_true rfl) (Nat.le_of_ble_eq_true rfl) (Nat.le_refl _) (Nat.le_refl _) hx
    · refine lv_iload_n F.1 F.2.1 dX11_out_4 rfl (lv_at hl 1 rfl) ?_
      refine lv_aload_n F.1 F.2.1 dX11_out_5 rfl (lv_at hl 0 rfl) ?_
      refine gGet F hG hW nX11_out_X11 0 rfl rfl 8 (by decide) mX11_out_3 rfl dX11_out_6 ?_
      refine gGetN F hG hW nX11_out_X6 1 rfl rfl 13 (by decide) fX11_out_180 rfl dX11_out_9 ?_
      refine lv_icmp_ge (tgt := 21) F.1 F.2.1 dX11_out_12 (by decide) (fun c_12 => ?_) (fun c_12 => ?_)
      · refine gThrow (is := 191) (i := 60) (PX := x < 0 ∨ nI (min oc 60) ≤ x) F hx0 hG hW hS hl.1 hlt rfl (List.mem_of_getElem? (i := 0) rfl) mX11_out_1 mX11_out_2 (fun w hw => List.mem_cons_of_mem _ (List.mem_append_right _ hw)) dX11_out_21 dX11_out_24 dX11_out_25 dX11_out_27 dX11_out_30 (Nat.le_of_ble_eq_true rfl) (Nat.le_of_ble_eq_true rfl) (Nat.le_of_ble_eq_true rfl) (Nat.le_of_ble_eq_true rfl) (Nat.le_refl _) (Nat.le_refl _) hx
      · refine lv_iload_n F.1 F.2.1 dX11_out_15 rfl (lv_at hl 1 rfl) ?_
        refine lv_bipush (v := nI 60) F.1 F.2.1 dX11_out_16 (by decide) ?_
        refine lv_icmp_lt (tgt := 31) F.1 F.2.1 dX11_out_18 (by decide) (fun q => (ixo4 hx c_1 c_12 q hb (by decide)).elim) (fun c_18 => ?_)
        refine gThrow (is := 191) (i := 60) (PX := x < 0 ∨ nI (min oc 60) ≤ x) F hx0 hG hW hS hl.1 hlt rfl (List.mem_of_getElem? (i := 0) rfl) mX11_out_1 mX11_out_2 (fun w hw => List.mem_cons_of_mem _ (List.mem_append_right _ hw)) dX11_out_21 dX11_out_24 dX11_out_25 dX11_out_27 dX11_out_30 (Nat.le_of_ble_eq_true rfl) (Nat.le_of_ble_eq_true rfl) (Nat.le_of_ble_eq_true rfl) (Nat.le_of_ble_eq_true rfl) (Nat.le_refl _) (Nat.le_refl _) hx
  · have hl : lv_has ls 2 [(0, .ref o), (1, .int (nI j))] := hl
    have hW : gW g ((o, .inr (8, [.ref ta, .ref rd, .ref jn, .ref sw, .ref rt, .ref jh, .ref kh, .ref th, .ref la, .ref lb, .ref cu, .ref sq, .int (nI tl), .int (nI lf), .int inp, .int bp, .int (nI lt)])) :: (la, .inr (3, [.ref a0, .ref a1, .ref a2, .ref a3, .ref a4, .ref a5, .int (bI hr), .int (nI pn), .int en, .int (nI st), .int (nI sp), .int (nI ht), .int (nI hi), .int (nI oc), .int (nI pl), .int fk, .int (nI tc)])) :: (a2, .inl (g.2.1 0, 60, .inl ou)) :: R) s.heap := hW
    refine lv_iload_n F.1 F.2.1 dX11_out_0 rfl (lv_at hl 1 rfl) ?_
    refine gIfLt (tgt := 21) F (by omega) dX11_out_1 (by decide) (fun c_1 => by exfalso; omega) (fun c_1 => ?_)
    refine lv_iload_n F.1 F.2.1 dX11_out_4 rfl (lv_at hl 1 rfl) ?_
    refine lv_aload_n F.1 F.2.1 dX11_out_5 rfl (lv_at hl 0 rfl) ?_
    refine gGet F hG hW nX11_out_X11 0 rfl rfl 8 (by decide) mX11_out_3 rfl dX11_out_6 ?_
    refine gGetN F hG hW nX11_out_X6 1 rfl rfl 13 (by decide) fX11_out_180 rfl dX11_out_9 ?_
    refine gGe (tgt := 21) F (by omega) (by omega) dX11_out_12 (by decide) (fun c_12 => by exfalso; omega) (fun c_12 => ?_)
    refine lv_iload_n F.1 F.2.1 dX11_out_15 rfl (lv_at hl 1 rfl) ?_
    refine lv_bipush (v := nI 60) F.1 F.2.1 dX11_out_16 (by decide) ?_
    refine gLt (tgt := 31) F (by omega) (by omega) dX11_out_18 (by decide) (fun c_18 => ?_) (fun c_18 => by exfalso; omega)
    refine lv_aload_n F.1 F.2.1 dX11_out_31 rfl (lv_at hl 0 rfl) ?_
    refine gGet F hG hW nX11_out_X11 0 rfl rfl 8 (by decide) mX11_out_3 rfl dX11_out_32 ?_
    refine gGetN F hG hW nX11_out_X6 1 rfl rfl 2 (by decide) fX11_out_196 rfl dX11_out_35 ?_
    refine lv_iload_n F.1 F.2.1 dX11_out_38 rfl (lv_at hl 1 rfl) ?_
    refine gLdI F hG hW 2 rfl (by omega) (by decide) dX11_out_39 ?_
    refine vx_ret ?_
    refine gWiden (k := 1) (n := 6) (Nat.zero_le _) (Nat.zero_le _) ?_
    refine gRi F hW hS dX11_out_40 ?_
    exact ⟨ixS_in hj (by omega), rfl, j, hj, rfl⟩

abbrev rm_X11_pile : Room := ({ frames := 6, cells := 1, slots := 6, locals := 82 } : Room)
theorem mX11_pile_1 : Cond.classLink RX11 189 "java/util/NoSuchElementException" ∈ wsX11_pile := List.mem_of_getElem? (i := 1) rfl
theorem mX11_pile_2 : Cond.initialized "java/util/NoSuchElementException" ∈ wsX11_pile := List.mem_of_getElem? (i := 2) rfl
theorem mX11_pile_3 : Cond.fieldLink RX11 63 "StepperHearts" "latest" "LStepperHearts$Machine;" ∈ wsX11_pile := List.mem_of_getElem? (i := 3) rfl
theorem nX11_pile_X11 : ∀ w ∈ wsX110, w ∈ wsX11_pile := fun _ h => List.mem_cons_of_mem _ (List.mem_append_left _ (List.mem_append_left _ (List.mem_append_right _ (h))))
theorem fX11_pile_177 : (yX11_pile.cls, 177, "StepperHearts$Machine", "height", "I", "StepperHearts") ∈ gNF := List.mem_of_getElem? (i := 12) rfl
theorem nX11_pile_X6 : ∀ w ∈ wsX60, w ∈ wsX11_pile := fun _ h => List.mem_cons_of_mem _ (List.mem_append_left _ (List.mem_append_right _ (h)))
theorem fX11_pile_201 : (yX11_pile.cls, 201, "StepperHearts$Machine", "numbers", "[I", "StepperHearts") ∈ gNF := List.mem_of_getElem? (i := 2) rfl
set_option maxRecDepth 100000 in
set_option maxHeartbeats 4000000 in
theorem c_X11_pile (g : gC) (l : Launch) {o : Nat} {ta : Nat} {rd : Nat} {jn : Nat} {sw : Nat} {rt : Nat} {jh : Nat} {kh : Nat} {th : Nat} {la : Nat} {a0 : Nat} {a1 : Nat} {a2 : Nat} {a3 : Nat} {a4 : Nat} {a5 : Nat} {lb : Nat} {cu : Nat} {sq : Nat} {tl : Nat} {lf : Nat} {lt : Nat} {inp : Int32} {bp : Int32} {hr : Bool} {pn : Nat} {en : Int32} {st : Nat} {sp : Nat} {ht : Nat} {hi : Nat} {oc : Nat} {pl : Nat} {fk : Int32} {tc : Nat} {nu : Nat → Int32} {x : Int32} {R : va_W} (hlt : l.stackTraces = false) (hb : ht < 2 ^ 31) : cE g l yX11_pile wsX11_pile rm_X11_pile 1 6 [.ref o, .int x] ((o, .inr (8, [.ref ta, .ref rd, .ref jn, .ref sw, .ref rt, .ref jh, .ref kh, .ref th, .ref la, .ref lb, .ref cu, .ref sq, .int (nI tl), .int (nI lf), .int inp, .int bp, .int (nI lt)])) :: (la, .inr (3, [.ref a0, .ref a1, .ref a2, .ref a3, .ref a4, .ref a5, .int (bI hr), .int (nI pn), .int en, .int (nI st), .int (nI sp), .int (nI ht), .int (nI hi), .int (nI oc), .int (nI pl), .int fk, .int (nI tc)])) :: (a0, .inl (g.2.1 0, 32, .inl nu)) :: R) (fun r u => (ixS x (min ht 32) nu (nI 0)) = r ∧ (o, .inr (8, [.ref ta, .ref rd, .ref jn, .ref sw, .ref rt, .ref jh, .ref kh, .ref th, .ref la, .ref lb, .ref cu, .ref sq, .int (nI tl), .int (nI lf), .int inp, .int bp, .int (nI lt)])) :: (la, .inr (3, [.ref a0, .ref a1, .ref a2, .ref a3, .ref a4, .ref a5, .int (bI hr), .int (nI pn), .int en, .int (nI st), .int (nI sp), .int (nI ht), .int (nI hi), .int (nI oc), .int (nI pl), .int fk, .int (nI tc)])) :: (a0, .inl (g.2.1 0, 32, .inl nu)) :: R = u ∧ ∃ j, j < min ht 32 ∧ x = nI j) (x < 0 ∨ nI (min ht 32) ≤ x) := by
  refine gEnterX (cc := cX11_pile) (maxL := 2) (ret := (some (.int))) (by decide +kernel) rfl (Nat.le_of_ble_eq_true rfl) ?_
  intro p e s m below meth c F hx0 hG hW ls hl
  have hS : va_S (gA g) s.heap s.heap [] := va_S.rf
  have hl : lv_has ls 2 [(0, .ref o), (1, .int x)] := hl
  have hW : gW g ((o, .inr (8, [.ref ta, .ref rd, .ref jn, .ref sw, .ref rt, .ref jh, .ref kh, .ref th, .ref la, .ref lb, .ref cu, .ref sq, .int (nI tl), .int (nI lf), .int inp, .int bp, .int (nI lt)])) :: (la, .inr (3, [.ref a0, .ref a1, .ref a2, .ref a3, .ref a4, .ref a5, .int (bI hr), .int (nI pn), .int en, .int (nI st), .int (nI sp), .int (nI ht), .int (nI hi), .int (nI oc), .int (nI pl), .int fk, .int (nI tc)])) :: (a0, .inl (g.2.1 0, 32, .inl nu)) :: R) s.heap := hW
  rcases ixc x (n := (min ht 32)) (by omega) with hx | ⟨j, hj, rfl⟩
  · have hl : lv_has ls 2 [(0, .ref o), (1, .int x)] := hl
    have hW : gW g ((o, .inr (8, [.ref ta, .ref rd, .ref jn, .ref sw, .ref rt, .ref jh, .ref kh, .ref th, .ref la, .ref lb, .ref cu, .ref sq, .int (nI tl), .int (nI lf), .int inp, .int bp, .int (nI lt)])) :: (la, .inr (3, [.ref a0, .ref a1, .ref a2, .ref a3, .ref a4, .ref a5, .int (bI hr), .int (nI pn), .int en, .int (nI st), .int (nI sp), .int (nI ht), .int (nI hi), .int (nI oc), .int (nI pl), .int fk, .int (nI tc)])) :: (a0, .inl (g.2.1 0, 32, .inl nu)) :: R) s.heap := hW
    refine lv_iload_n F.1 F.2.1 dX11_pile_0 rfl (lv_at hl 1 rfl) ?_
    refine lv_if_lt (tgt := 21) F.1 F.2.1 dX11_pile_1 (by decide) (fun c_1 => ?_) (fun c_1 => ?_)
    · refine gThrow (is := 199) (i := 61) (PX := x < 0 ∨ nI (min ht 32) ≤ x) F hx0 hG hW hS hl.1 hlt rfl (List.mem_of_getElem? (i := 1) rfl) mX11_pile_1 mX11_pile_2 (fun w hw => List.mem_cons_of_mem _ (List.mem_append_right _ hw)) dX11_pile_21 dX11_pile_24 dX11_pile_25 dX11_pile_27 dX11_pile_30 (Nat.le_of_ble_eq_true rfl) (Nat.le_of_ble_eq_true rfl) (Nat.le_of_ble_eq_true rfl) (Nat.le_of_ble_eq_true rfl) (Nat.le_refl _) (Nat.le_refl _) hx
    · refine lv_iload_n F.1 F.2.1 dX11_pile_4 rfl (lv_at hl 1 rfl) ?_
      refine lv_aload_n F.1 F.2.1 dX11_pile_5 rfl (lv_at hl 0 rfl) ?_
      refine gGet F hG hW nX11_pile_X11 0 rfl rfl 8 (by decide) mX11_pile_3 rfl dX11_pile_6 ?_
      refine gGetN F hG hW nX11_pile_X6 1 rfl rfl 11 (by decide) fX11_pile_177 rfl dX11_pile_9 ?_
      refine lv_icmp_ge (tgt := 21) F.1 F.2.1 dX11_pile_12 (by decide) (fun c_12 => ?_) (fun c_12 => ?_)
      · refine gThrow (is := 199) (i := 61) (PX := x < 0 ∨ nI (min ht 32) ≤ x) F hx0 hG hW hS hl.1 hlt rfl (List.mem_of_getElem? (i := 1) rfl) mX11_pile_1 mX11_pile_2 (fun w hw => List.mem_cons_of_mem _ (List.mem_append_right _ hw)) dX11_pile_21 dX11_pile_24 dX11_pile_25 dX11_pile_27 dX11_pile_30 (Nat.le_of_ble_eq_true rfl) (Nat.le_of_ble_eq_true rfl) (Nat.le_of_ble_eq_true rfl) (Nat.le_of_ble_eq_true rfl) (Nat.le_refl _) (Nat.le_refl _) hx
      · refine lv_iload_n F.1 F.2.1 dX11_pile_15 rfl (lv_at hl 1 rfl) ?_
        refine lv_bipush (v := nI 32) F.1 F.2.1 dX11_pile_16 (by decide) ?_
        refine lv_icmp_lt (tgt := 31) F.1 F.2.1 dX11_pile_18 (by decide) (fun q => (ixo4 hx c_1 c_12 q hb (by decide)).elim) (fun c_18 => ?_)
        refine gThrow (is := 199) (i := 61) (PX := x < 0 ∨ nI (min ht 32) ≤ x) F hx0 hG hW hS hl.1 hlt rfl (List.mem_of_getElem? (i := 1) rfl) mX11_pile_1 mX11_pile_2 (fun w hw => List.mem_cons_of_mem _ (List.mem_append_right _ hw)) dX11_pile_21 dX11_pile_24 dX11_pile_25 dX11_pile_27 dX11_pile_30 (Nat.le_of_ble_eq_true rfl) (Nat.le_of_ble_eq_true rfl) (Nat.le_of_ble_eq_true rfl) (Nat.le_of_ble_eq_true rfl) (Nat.le_refl _) (Nat.le_refl _) hx
  · have hl : lv_has ls 2 [(0, .ref o), (1, .int (nI j))] := hl
    have hW : gW g ((o, .inr (8, [.ref ta, .ref rd, .ref jn, .ref sw, .ref rt, .ref jh, .ref kh, .ref th, .ref la, .ref lb, .ref cu, .ref sq, .int (nI tl), .int (nI lf), .int inp, .int bp, .int (nI lt)])) :: (la, .inr (3, [.ref a0, .ref a1, .ref a2, .ref a3, .ref a4, .ref a5, .int (bI hr), .int (nI pn), .int en, .int (nI st), .int (nI sp), .int (nI ht), .int (nI hi), .int (nI oc), .int (nI pl), .int fk, .int (nI tc)])) :: (a0, .inl (g.2.1 0, 32, .inl nu)) :: R) s.heap := hW
    refine lv_iload_n F.1 F.2.1 dX11_pile_0 rfl (lv_at hl 1 rfl) ?_
    refine gIfLt (tgt := 21) F (by omega) dX11_pile_1 (by decide) (fun c_1 => by exfalso; omega) (fun c_1 => ?_)
    refine lv_iload_n F.1 F.2.1 dX11_pile_4 rfl (lv_at hl 1 rfl) ?_
    refine lv_aload_n F.1 F.2.1 dX11_pile_5 rfl (lv_at hl 0 rfl) ?_
    refine gGet F hG hW nX11_pile_X11 0 rfl rfl 8 (by decide) mX11_pile_3 rfl dX11_pile_6 ?_
    refine gGetN F hG hW nX11_pile_X6 1 rfl rfl 11 (by decide) fX11_pile_177 rfl dX11_pile_9 ?_
    refine gGe (tgt := 21) F (by omega) (by omega) dX11_pile_12 (by decide) (fun c_12 => by exfalso; omega) (fun c_12 => ?_)
    refine lv_iload_n F.1 F.2.1 dX11_pile_15 rfl (lv_at hl 1 rfl) ?_
    refine lv_bipush (v := nI 32) F.1 F.2.1 dX11_pile_16 (by decide) ?_
    refine gLt (tgt := 31) F (by omega) (by omega) dX11_pile_18 (by decide) (fun c_18 => ?_) (fun c_18 => by exfalso; omega)
    refine lv_aload_n F.1 F.2.1 dX11_pile_31 rfl (lv_at hl 0 rfl) ?_
    refine gGet F hG hW nX11_pile_X11 0 rfl rfl 8 (by decide) mX11_pile_3 rfl dX11_pile_32 ?_
    refine gGetN F hG hW nX11_pile_X6 1 rfl rfl 0 (by decide) fX11_pile_201 rfl dX11_pile_35 ?_
    refine lv_iload_n F.1 F.2.1 dX11_pile_38 rfl (lv_at hl 1 rfl) ?_
    refine gLdI F hG hW 2 rfl (by omega) (by decide) dX11_pile_39 ?_
    refine vx_ret ?_
    refine gWiden (k := 1) (n := 6) (Nat.zero_le _) (Nat.zero_le _) ?_
    refine gRi F hW hS dX11_pile_40 ?_
    exact ⟨ixS_in hj (by omega), rfl, j, hj, rfl⟩

