/-! ===== the JDK's exceptions: names, and word lists that hold them (written by wip/whole/gen/spec10.py) ===== -/
def RJre : String := "java/lang/RuntimeException"
abbrev cJre_init : ByteArray := prog_23_method_5_code
def yJre_init : MethodName := ⟨RJre, "<init>", "(Ljava/lang/String;Ljava/lang/Throwable;ZZ)V"⟩
theorem dJre_init_0 : decode cJre_init 0 = .ok (.aload_n 0, 1) := by decide +kernel
theorem dJre_init_1 : decode cJre_init 1 = .ok (.aload_n 1, 1) := by decide +kernel
theorem dJre_init_2 : decode cJre_init 2 = .ok (.aload_n 2, 1) := by decide +kernel
theorem dJre_init_3 : decode cJre_init 3 = .ok (.iload_n 3, 1) := by decide +kernel
theorem dJre_init_4 : decode cJre_init 4 = .ok (.iload 4, 2) := by decide +kernel
theorem dJre_init_6 : decode cJre_init 6 = .ok (.invokespecial 16, 3) := by decide +kernel
theorem dJre_init_9 : decode cJre_init 9 = .ok (.return_, 1) := by decide +kernel
def RJex : String := "java/lang/Exception"
abbrev cJex_init : ByteArray := prog_21_method_5_code
def yJex_init : MethodName := ⟨RJex, "<init>", "(Ljava/lang/String;Ljava/lang/Throwable;ZZ)V"⟩
theorem dJex_init_0 : decode cJex_init 0 = .ok (.aload_n 0, 1) := by decide +kernel
theorem dJex_init_1 : decode cJex_init 1 = .ok (.aload_n 1, 1) := by decide +kernel
theorem dJex_init_2 : decode cJex_init 2 = .ok (.aload_n 2, 1) := by decide +kernel
theorem dJex_init_3 : decode cJex_init 3 = .ok (.iload_n 3, 1) := by decide +kernel
theorem dJex_init_4 : decode cJex_init 4 = .ok (.iload 4, 2) := by decide +kernel
theorem dJex_init_6 : decode cJex_init 6 = .ok (.invokespecial 16, 3) := by decide +kernel
theorem dJex_init_9 : decode cJex_init 9 = .ok (.return_, 1) := by decide +kernel
def RJth : String := "java/lang/Throwable"
abbrev cJth_init : ByteArray := prog_28_method_5_code
def yJth_init : MethodName := ⟨RJth, "<init>", "(Ljava/lang/String;Ljava/lang/Throwable;ZZ)V"⟩
theorem dJth_init_0 : decode cJth_init 0 = .ok (.aload_n 0, 1) := by decide +kernel
theorem dJth_init_1 : decode cJth_init 1 = .ok (.invokespecial 1, 3) := by decide +kernel
theorem dJth_init_4 : decode cJth_init 4 = .ok (.aload_n 0, 1) := by decide +kernel
theorem dJth_init_5 : decode cJth_init 5 = .ok (.aload_n 0, 1) := by decide +kernel
theorem dJth_init_6 : decode cJth_init 6 = .ok (.putfield 7, 3) := by decide +kernel
theorem dJth_init_9 : decode cJth_init 9 = .ok (.aload_n 0, 1) := by decide +kernel
theorem dJth_init_10 : decode cJth_init 10 = .ok (.getstatic 13, 3) := by decide +kernel
theorem dJth_init_13 : decode cJth_init 13 = .ok (.putfield 17, 3) := by decide +kernel
theorem dJth_init_16 : decode cJth_init 16 = .ok (.aload_n 0, 1) := by decide +kernel
theorem dJth_init_17 : decode cJth_init 17 = .ok (.getstatic 20, 3) := by decide +kernel
theorem dJth_init_20 : decode cJth_init 20 = .ok (.putfield 24, 3) := by decide +kernel
theorem dJth_init_23 : decode cJth_init 23 = .ok (.iload 4, 2) := by decide +kernel
theorem dJth_init_25 : decode cJth_init 25 = .ok (.ifCond .eq 11, 3) := by decide +kernel
theorem dJth_init_36 : decode cJth_init 36 = .ok (.aload_n 0, 1) := by decide +kernel
theorem dJth_init_37 : decode cJth_init 37 = .ok (.aconst_null, 1) := by decide +kernel
theorem dJth_init_38 : decode cJth_init 38 = .ok (.putfield 17, 3) := by decide +kernel
theorem dJth_init_41 : decode cJth_init 41 = .ok (.aload_n 0, 1) := by decide +kernel
theorem dJth_init_42 : decode cJth_init 42 = .ok (.aload_n 1, 1) := by decide +kernel
theorem dJth_init_43 : decode cJth_init 43 = .ok (.putfield 31, 3) := by decide +kernel
theorem dJth_init_46 : decode cJth_init 46 = .ok (.aload_n 0, 1) := by decide +kernel
theorem dJth_init_47 : decode cJth_init 47 = .ok (.aload_n 2, 1) := by decide +kernel
theorem dJth_init_48 : decode cJth_init 48 = .ok (.putfield 7, 3) := by decide +kernel
theorem dJth_init_51 : decode cJth_init 51 = .ok (.iload_n 3, 1) := by decide +kernel
theorem dJth_init_52 : decode cJth_init 52 = .ok (.ifCond .ne 8, 3) := by decide +kernel
theorem dJth_init_55 : decode cJth_init 55 = .ok (.aload_n 0, 1) := by decide +kernel
theorem dJth_init_56 : decode cJth_init 56 = .ok (.aconst_null, 1) := by decide +kernel
theorem dJth_init_57 : decode cJth_init 57 = .ok (.putfield 24, 3) := by decide +kernel
theorem dJth_init_60 : decode cJth_init 60 = .ok (.return_, 1) := by decide +kernel
def wsJth_init : List Cond := [Cond.code yJth_init cJth_init 5 none, Cond.methodLink RJth 1 objectInit, Cond.instanceMethod objectInit, Cond.code objectInit ⟨#[0xb1]⟩ 1 none, Cond.fieldLink RJth 7 "java/lang/Throwable" "cause" "Ljava/lang/Throwable;", Cond.fieldLink RJth 13 "java/lang/Throwable" "UNASSIGNED_STACK" "[Ljava/lang/StackTraceElement;", Cond.fieldLink RJth 17 "java/lang/Throwable" "stackTrace" "[Ljava/lang/StackTraceElement;", Cond.fieldLink RJth 20 "java/lang/Throwable" "SUPPRESSED_SENTINEL" "Ljava/util/List;", Cond.fieldLink RJth 24 "java/lang/Throwable" "suppressedExceptions" "Ljava/util/List;", Cond.fieldLink RJth 31 "java/lang/Throwable" "detailMessage" "Ljava/lang/String;"] ++ wsX130
def wsJex_init : List Cond := [Cond.code yJex_init cJex_init 5 none, Cond.methodLink RJex 16 yJth_init, Cond.instanceMethod yJth_init, Cond.initialized RJth] ++ wsJth_init
def wsJre_init : List Cond := [Cond.code yJre_init cJre_init 5 none, Cond.methodLink RJre 16 yJex_init, Cond.instanceMethod yJex_init, Cond.initialized RJex] ++ wsJex_init
def wsStopI : List Cond := [Cond.methodLink RX13 1 yJre_init, Cond.instanceMethod yJre_init, Cond.initialized RJre] ++ wsJre_init
def wq_X13_init : List Cond := wsX13_init ++ wsStopI
def wq_X14_init : List Cond := wsX14_init ++ wsStopI
theorem gJre_init_Jex_init : GoodIn wsJre_init (wsJex_init) := goodIn_of _ (by decide +kernel)
theorem gJex_init_Jth_init : GoodIn wsJex_init (wsJth_init) := goodIn_of _ (by decide +kernel)
theorem gqX13_init_Jre_init : GoodIn wq_X13_init (wsJre_init) := goodIn_of _ (by decide +kernel)
theorem gqX14_init_X13_init : GoodIn wq_X14_init (wq_X13_init) := goodIn_of _ (by decide +kernel)
theorem gqX14_init_X12_init_n15 : GoodIn wq_X14_init (wsX12_init) := goodIn_l gX14_init_X12_init_n15

/-! ===== constructors (written by wip/whole/gen/spec10.py) ===== -/

abbrev rm_X1_init : Room := ({ frames := 1, cells := 0, slots := 0, locals := 12 } : Room)
theorem mX1_init_1 : Cond.methodLink RX1 1 objectInit ∈ wsX1_init := List.mem_of_getElem? (i := 1) rfl
theorem mX1_init_2 : Cond.instanceMethod objectInit ∈ wsX1_init := List.mem_of_getElem? (i := 2) rfl
theorem mX1_init_3 : Cond.code objectInit ⟨#[0xb1]⟩ 1 none ∈ wsX1_init := List.mem_of_getElem? (i := 3) rfl
set_option maxRecDepth 100000 in
set_option maxHeartbeats 4000000 in
theorem c_X1_init (g : gC) (l : Launch) {hh : Nat} {R : va_W} : cV g l yX1_init wsX1_init rm_X1_init 0 0 [.ref hh] (R) (fun u => R = u) := by
  refine gEnterQ (cc := cX1_init) (maxL := 1) (ret := none) (by decide +kernel) rfl (Nat.le_of_ble_eq_true rfl) ?_
  intro p e s m below meth c F hG hW ls hl
  have hS : va_S (gA g) s.heap s.heap [] := va_S.rf
  have hl : lv_has ls 1 [(0, .ref hh)] := hl
  have hW : gW g (R) s.heap := hW
  refine lv_aload_n F.1 F.2.1 dX1_init_0 rfl (lv_at hl 0 rfl) ?_
  refine W.objInit F.1 F.2.1 F.2.2.2.2.2.1 (F.2.2.2.2.1 _ mX1_init_1) (F.2.2.2.2.1 _ mX1_init_2) (F.2.2.2.2.1 _ mX1_init_3) rfl (hl.1.trans F.2.2.2.1.symm) rfl dX1_init_1 (Nat.le_of_ble_eq_true rfl) (Nat.le_of_ble_eq_true rfl) ?_
  refine W.eq (g2 := F0 m 4 ls []) rfl ?_
  refine gRv F hW hS dX1_init_4 ?_
  exact rfl

abbrev rm_X2_init : Room := ({ frames := 2, cells := 2, slots := 200, locals := 32 } : Room)
theorem fX2_init_m3 : (yX2_init.cls, 3, yX1_init, "StepperHearts") ∈ gNM := List.mem_of_getElem? (i := 3) rfl
theorem mX2_init_8 : Cond.initialized RX1 ∈ wsX2_init := List.mem_of_getElem? (i := 8) rfl
theorem mX2_init_7 : Cond.instanceMethod yX1_init ∈ wsX2_init := List.mem_of_getElem? (i := 7) rfl
theorem mX2_init_1 : Cond.arrayClass .boolean ∈ wsX2_init := List.mem_of_getElem? (i := 1) rfl
theorem mX2_init_2 : Cond.fieldLink RX2 9 "StepperHearts$JoinedHeart" "isSecond" "[Z" ∈ wsX2_init := List.mem_of_getElem? (i := 2) rfl
theorem nX2_init_X2 : ∀ w ∈ wsX20, w ∈ wsX2_init := fun _ h => List.mem_cons_of_mem _ (List.mem_append_right _ (h))
theorem mX2_init_3 : Cond.arrayClass .int ∈ wsX2_init := List.mem_of_getElem? (i := 3) rfl
theorem mX2_init_4 : Cond.fieldLink RX2 15 "StepperHearts$JoinedHeart" "cameOver" "[I" ∈ wsX2_init := List.mem_of_getElem? (i := 4) rfl
theorem mX2_init_5 : Cond.fieldLink RX2 19 "StepperHearts$JoinedHeart" "formerPlace" "I" ∈ wsX2_init := List.mem_of_getElem? (i := 5) rfl
theorem mX2_init_6 : Cond.fieldLink RX2 23 "StepperHearts$JoinedHeart" "joins" "LStepperHearts$Joins;" ∈ wsX2_init := List.mem_of_getElem? (i := 6) rfl
set_option maxRecDepth 100000 in
set_option maxHeartbeats 4000000 in
theorem c_X2_init (g : gC) (l : Launch) {jh : Nat} {jn : Nat} {R : va_W} : cV g l yX2_init wsX2_init rm_X2_init 2 200 [.ref jh, .ref jn] ((jh, .inr (0, [.null, .null, .null, .int (nI 0)])) :: R) (fun u => ∃ (js : Nat), ∃ (jc : Nat), (jh, .inr (0, [.ref jn, .ref js, .ref jc, .int (-1)])) :: (js, .inl (g.2.1 1, 100, .inl (bA (fun _ => false)))) :: (jc, .inl (g.2.1 0, 100, .inl (nA (fun _ => 0)))) :: R = u) := by
  refine gEnterQ (cc := cX2_init) (maxL := 2) (ret := none) (by decide +kernel) rfl (Nat.le_of_ble_eq_true rfl) ?_
  intro p e s m below meth c F hG hW ls hl
  have hS : va_S (gA g) s.heap s.heap [] := va_S.rf
  have hl : lv_has ls 2 [(0, .ref jh), (1, .ref jn)] := hl
  have hW : gW g ((jh, .inr (0, [.null, .null, .null, .int (nI 0)])) :: R) s.heap := hW
  refine lv_aload_n F.1 F.2.1 dX2_init_0 rfl (lv_at hl 0 rfl) ?_
  refine gIN_v (c2 := 0) (s2 := 0) (n := 0) (As := []) F hG hS hW (c_X1_init g l  ) rfl gX2_init_X1_init_n3 fX2_init_m3 mX2_init_8 mX2_init_7 rfl (by decide +kernel) ⟨rfl, rfl, Nat.le_of_ble_eq_true rfl, Nat.le_of_ble_eq_true rfl⟩ hl.1 (Nat.le_of_ble_eq_true rfl) ⟨Nat.le_of_ble_eq_true rfl, Nat.le_of_ble_eq_true rfl⟩ ⟨rfl, rfl⟩ rfl rfl dX2_init_1 (fun u H locs hq hW hS => ?_)
  obtain rfl := hq
  have hW : gW g ((jh, .inr (0, [.null, .null, .null, .int (nI 0)])) :: R) _ := hW
  refine lv_aload_n F.1 F.2.1 dX2_init_4 rfl (lv_at hl 0 rfl) ?_
  refine lv_bipush (v := nI 100) F.1 F.2.1 dX2_init_5 (by decide) ?_
  refine gNewZ (N := 100) (c2 := 1) (s2 := 100) F hG hS hW mX2_init_1 ⟨Nat.le_of_ble_eq_true rfl, Nat.le_of_ble_eq_true rfl⟩ ⟨rfl, rfl⟩ ⟨Nat.le_of_ble_eq_true rfl, Nat.le_of_ble_eq_true rfl⟩ dX2_init_7 (fun q_7 H hW hS => ?_)
  have hW : gW g ((q_7, .inl (g.2.1 1, 100, .inl (bA (fun _ => false)))) :: (jh, .inr (0, [.null, .null, .null, .int (nI 0)])) :: R) _ := hW
  refine gPutF (w2 := (q_7, .inl (g.2.1 1, 100, .inl (bA (fun _ => false)))) :: (jh, .inr (0, [.null, .ref q_7, .null, .int (nI 0)])) :: R) F hS hG hW nX2_init_X2 1 rfl rfl 1 (by decide) tyX2 tyX2_ok nmX2 mX2_init_2 rfl rfl rfl rfl rfl rfl (Nat.le_of_ble_eq_true rfl) rfl dX2_init_9 (fun H locs hW hS => ?_)
  refine lv_aload_n F.1 F.2.1 dX2_init_12 rfl (lv_at hl 0 rfl) ?_
  refine lv_bipush (v := nI 100) F.1 F.2.1 dX2_init_13 (by decide) ?_
  refine gNewI (N := 100) (c2 := 2) (s2 := 200) F hG hS hW mX2_init_3 ⟨Nat.le_of_ble_eq_true rfl, Nat.le_of_ble_eq_true rfl⟩ ⟨rfl, rfl⟩ ⟨Nat.le_of_ble_eq_true rfl, Nat.le_of_ble_eq_true rfl⟩ dX2_init_15 (fun q_15 H hW hS => ?_)
  have hW : gW g ((q_15, .inl (g.2.1 0, 100, .inl (nA (fun _ => 0)))) :: (q_7, .inl (g.2.1 1, 100, .inl (bA (fun _ => false)))) :: (jh, .inr (0, [.null, .ref q_7, .null, .int (nI 0)])) :: R) _ := hW
  refine gPutF (w2 := (q_15, .inl (g.2.1 0, 100, .inl (nA (fun _ => 0)))) :: (q_7, .inl (g.2.1 1, 100, .inl (bA (fun _ => false)))) :: (jh, .inr (0, [.null, .ref q_7, .ref q_15, .int (nI 0)])) :: R) F hS hG hW nX2_init_X2 2 rfl rfl 2 (by decide) tyX2 tyX2_ok nmX2 mX2_init_4 rfl rfl rfl rfl rfl rfl (Nat.le_of_ble_eq_true rfl) rfl dX2_init_17 (fun H locs hW hS => ?_)
  refine lv_aload_n F.1 F.2.1 dX2_init_20 rfl (lv_at hl 0 rfl) ?_
  refine lv_iconst (v := -1) F.1 F.2.1 dX2_init_21 rfl ?_
  refine gPut (w2 := (q_15, .inl (g.2.1 0, 100, .inl (nA (fun _ => 0)))) :: (q_7, .inl (g.2.1 1, 100, .inl (bA (fun _ => false)))) :: (jh, .inr (0, [.null, .ref q_7, .ref q_15, .int (-1)])) :: R) F hS hG hW nX2_init_X2 2 rfl rfl 3 (by decide) tyX2 tyX2_ok nmX2 mX2_init_5 rfl rfl rfl rfl (Nat.le_of_ble_eq_true rfl) rfl dX2_init_22 (fun H locs hW hS => ?_)
  refine lv_aload_n F.1 F.2.1 dX2_init_25 rfl (lv_at hl 0 rfl) ?_
  refine lv_aload_n F.1 F.2.1 dX2_init_26 rfl (lv_at hl 1 rfl) ?_
  refine gPutF (w2 := (q_15, .inl (g.2.1 0, 100, .inl (nA (fun _ => 0)))) :: (q_7, .inl (g.2.1 1, 100, .inl (bA (fun _ => false)))) :: (jh, .inr (0, [.ref jn, .ref q_7, .ref q_15, .int (-1)])) :: R) F hS hG hW nX2_init_X2 2 rfl rfl 0 (by decide) tyX2 tyX2_ok nmX2 mX2_init_6 rfl rfl rfl rfl rfl rfl (Nat.le_of_ble_eq_true rfl) rfl dX2_init_27 (fun H locs hW hS => ?_)
  have hW := gW.re (l := [(q_15, .inl (g.2.1 0, 100, .inl (nA (fun _ => 0)))), (q_7, .inl (g.2.1 1, 100, .inl (bA (fun _ => false)))), (jh, .inr (0, [.ref jn, .ref q_7, .ref q_15, .int (-1)]))]) (l' := [(jh, .inr (0, [.ref jn, .ref q_7, .ref q_15, .int (-1)])), (q_7, .inl (g.2.1 1, 100, .inl (bA (fun _ => false)))), (q_15, .inl (g.2.1 0, 100, .inl (nA (fun _ => 0))))]) (R := R) hW [2, 1, 0] 3 rfl (by decide) rfl
  have hW : gW g ((jh, .inr (0, [.ref jn, .ref q_7, .ref q_15, .int (-1)])) :: (q_7, .inl (g.2.1 1, 100, .inl (bA (fun _ => false)))) :: (q_15, .inl (g.2.1 0, 100, .inl (nA (fun _ => 0)))) :: R) _ := hW
  refine gRv F hW hS dX2_init_30 ?_
  exact ⟨q_7, q_15, rfl⟩

abbrev rm_X3_init : Room := ({ frames := 1, cells := 1, slots := 225, locals := 12 } : Room)
theorem mX3_init_1 : Cond.methodLink RX3 3 objectInit ∈ wsX3_init := List.mem_of_getElem? (i := 1) rfl
theorem mX3_init_2 : Cond.instanceMethod objectInit ∈ wsX3_init := List.mem_of_getElem? (i := 2) rfl
theorem mX3_init_3 : Cond.code objectInit ⟨#[0xb1]⟩ 1 none ∈ wsX3_init := List.mem_of_getElem? (i := 3) rfl
theorem mX3_init_4 : Cond.arrayClass .boolean ∈ wsX3_init := List.mem_of_getElem? (i := 4) rfl
theorem mX3_init_5 : Cond.fieldLink RX3 9 "StepperHearts$Joins" "pairs" "[Z" ∈ wsX3_init := List.mem_of_getElem? (i := 5) rfl
theorem nX3_init_X3 : ∀ w ∈ wsX30, w ∈ wsX3_init := fun _ h => List.mem_cons_of_mem _ (List.mem_append_right _ (h))
theorem mX3_init_6 : Cond.fieldLink RX3 15 "StepperHearts$Joins" "size" "I" ∈ wsX3_init := List.mem_of_getElem? (i := 6) rfl
set_option maxRecDepth 100000 in
set_option maxHeartbeats 4000000 in
theorem c_X3_init (g : gC) (l : Launch) {jn : Nat} {R : va_W} : cV g l yX3_init wsX3_init rm_X3_init 1 225 [.ref jn] ((jn, .inr (1, [.null, .int (nI 0)])) :: R) (fun u => ∃ (jp : Nat), (jn, .inr (1, [.ref jp, .int (nI 0)])) :: (jp, .inl (g.2.1 1, 225, .inl (bA (fun _ => false)))) :: R = u) := by
  refine gEnterQ (cc := cX3_init) (maxL := 1) (ret := none) (by decide +kernel) rfl (Nat.le_of_ble_eq_true rfl) ?_
  intro p e s m below meth c F hG hW ls hl
  have hS : va_S (gA g) s.heap s.heap [] := va_S.rf
  have hl : lv_has ls 1 [(0, .ref jn)] := hl
  have hW : gW g ((jn, .inr (1, [.null, .int (nI 0)])) :: R) s.heap := hW
  refine lv_aload_n F.1 F.2.1 dX3_init_0 rfl (lv_at hl 0 rfl) ?_
  refine W.objInit F.1 F.2.1 F.2.2.2.2.2.1 (F.2.2.2.2.1 _ mX3_init_1) (F.2.2.2.2.1 _ mX3_init_2) (F.2.2.2.2.1 _ mX3_init_3) rfl (hl.1.trans F.2.2.2.1.symm) rfl dX3_init_1 (Nat.le_of_ble_eq_true rfl) (Nat.le_of_ble_eq_true rfl) ?_
  refine W.eq (g2 := F0 m 4 ls []) rfl ?_
  refine lv_aload_n F.1 F.2.1 dX3_init_4 rfl (lv_at hl 0 rfl) ?_
  refine lv_sipush (v := nI 225) F.1 F.2.1 dX3_init_5 (by decide) ?_
  refine gNewZ (N := 225) (c2 := 1) (s2 := 225) F hG hS hW mX3_init_4 ⟨Nat.le_of_ble_eq_true rfl, Nat.le_of_ble_eq_true rfl⟩ ⟨rfl, rfl⟩ ⟨Nat.le_of_ble_eq_true rfl, Nat.le_of_ble_eq_true rfl⟩ dX3_init_8 (fun q_8 H hW hS => ?_)
  have hW : gW g ((q_8, .inl (g.2.1 1, 225, .inl (bA (fun _ => false)))) :: (jn, .inr (1, [.null, .int (nI 0)])) :: R) _ := hW
  refine gPutF (w2 := (q_8, .inl (g.2.1 1, 225, .inl (bA (fun _ => false)))) :: (jn, .inr (1, [.ref q_8, .int (nI 0)])) :: R) F hS hG hW nX3_init_X3 1 rfl rfl 0 (by decide) tyX3 tyX3_ok nmX3 mX3_init_5 rfl rfl rfl rfl rfl rfl (Nat.le_of_ble_eq_true rfl) rfl dX3_init_10 (fun H locs hW hS => ?_)
  refine lv_aload_n F.1 F.2.1 dX3_init_13 rfl (lv_at hl 0 rfl) ?_
  refine lv_iconst (v := nI 0) F.1 F.2.1 dX3_init_14 rfl ?_
  refine gPut (w2 := (q_8, .inl (g.2.1 1, 225, .inl (bA (fun _ => false)))) :: (jn, .inr (1, [.ref q_8, .int (nI 0)])) :: R) F hS hG hW nX3_init_X3 1 rfl rfl 1 (by decide) tyX3 tyX3_ok nmX3 mX3_init_6 rfl rfl rfl rfl (Nat.le_of_ble_eq_true rfl) rfl dX3_init_15 (fun H locs hW hS => ?_)
  have hW := gW.re (l := [(q_8, .inl (g.2.1 1, 225, .inl (bA (fun _ => false)))), (jn, .inr (1, [.ref q_8, .int (nI 0)]))]) (l' := [(jn, .inr (1, [.ref q_8, .int (nI 0)])), (q_8, .inl (g.2.1 1, 225, .inl (bA (fun _ => false))))]) (R := R) hW [1, 0] 2 rfl (by decide) rfl
  have hW : gW g ((jn, .inr (1, [.ref q_8, .int (nI 0)])) :: (q_8, .inl (g.2.1 1, 225, .inl (bA (fun _ => false)))) :: R) _ := hW
  refine gRv F hW hS dX3_init_18 ?_
  exact ⟨q_8, rfl⟩

abbrev rm_X4_init : Room := ({ frames := 2, cells := 0, slots := 0, locals := 32 } : Room)
theorem fX4_init_m3 : (yX4_init.cls, 3, yX1_init, "StepperHearts") ∈ gNM := List.mem_of_getElem? (i := 5) rfl
theorem mX4_init_3 : Cond.initialized RX1 ∈ wsX4_init := List.mem_of_getElem? (i := 3) rfl
theorem mX4_init_2 : Cond.instanceMethod yX1_init ∈ wsX4_init := List.mem_of_getElem? (i := 2) rfl
theorem mX4_init_1 : Cond.fieldLink RX4 9 "StepperHearts$KeptHeart" "isKept" "Z" ∈ wsX4_init := List.mem_of_getElem? (i := 1) rfl
theorem nX4_init_X4 : ∀ w ∈ wsX40, w ∈ wsX4_init := fun _ h => List.mem_cons_of_mem _ (List.mem_append_right _ (h))
set_option maxRecDepth 100000 in
set_option maxHeartbeats 4000000 in
theorem c_X4_init (g : gC) (l : Launch) {kh : Nat} {R : va_W} : cV g l yX4_init wsX4_init rm_X4_init 0 0 [.ref kh] ((kh, .inr (2, [.int (bI false)])) :: R) (fun u => (kh, .inr (2, [.int (bI false)])) :: R = u) := by
  refine gEnterQ (cc := cX4_init) (maxL := 1) (ret := none) (by decide +kernel) rfl (Nat.le_of_ble_eq_true rfl) ?_
  intro p e s m below meth c F hG hW ls hl
  have hS : va_S (gA g) s.heap s.heap [] := va_S.rf
  have hl : lv_has ls 1 [(0, .ref kh)] := hl
  have hW : gW g ((kh, .inr (2, [.int (bI false)])) :: R) s.heap := hW
  refine lv_aload_n F.1 F.2.1 dX4_init_0 rfl (lv_at hl 0 rfl) ?_
  refine gIN_v (c2 := 0) (s2 := 0) (n := 0) (As := []) F hG hS hW (c_X1_init g l  ) rfl gX4_init_X1_init_n3 fX4_init_m3 mX4_init_3 mX4_init_2 rfl (by decide +kernel) ⟨rfl, rfl, Nat.le_of_ble_eq_true rfl, Nat.le_of_ble_eq_true rfl⟩ hl.1 (Nat.le_of_ble_eq_true rfl) ⟨Nat.le_of_ble_eq_true rfl, Nat.le_of_ble_eq_true rfl⟩ ⟨rfl, rfl⟩ rfl rfl dX4_init_1 (fun u H locs hq hW hS => ?_)
  obtain rfl := hq
  have hW : gW g ((kh, .inr (2, [.int (bI false)])) :: R) _ := hW
  refine lv_aload_n F.1 F.2.1 dX4_init_4 rfl (lv_at hl 0 rfl) ?_
  refine lv_iconst (v := nI 0) F.1 F.2.1 dX4_init_5 rfl ?_
  refine gPut (w2 := (kh, .inr (2, [.int (nI 0)])) :: R) F hS hG hW nX4_init_X4 0 rfl rfl 0 (by decide) tyX4 tyX4_ok nmX4 mX4_init_1 rfl rfl rfl rfl (Nat.le_of_ble_eq_true rfl) rfl dX4_init_6 (fun H locs hW hS => ?_)
  refine gRv F hW hS dX4_init_9 ?_
  exact rfl

abbrev rm_X7_init : Room := ({ frames := 2, cells := 0, slots := 0, locals := 32 } : Room)
theorem fX7_init_m1 : (yX7_init.cls, 1, yX1_init, "StepperHearts") ∈ gNM := List.mem_of_getElem? (i := 2) rfl
theorem mX7_init_3 : Cond.initialized RX1 ∈ wsX7_init := List.mem_of_getElem? (i := 3) rfl
theorem mX7_init_2 : Cond.instanceMethod yX1_init ∈ wsX7_init := List.mem_of_getElem? (i := 2) rfl
theorem mX7_init_1 : Cond.fieldLink RX7 7 "StepperHearts$PlainHeart" "priceOfStep" "I" ∈ wsX7_init := List.mem_of_getElem? (i := 1) rfl
theorem nX7_init_X7 : ∀ w ∈ wsX70, w ∈ wsX7_init := fun _ h => List.mem_cons_of_mem _ (List.mem_append_right _ (h))
set_option maxRecDepth 100000 in
set_option maxHeartbeats 4000000 in
theorem c_X7_init (g : gC) (l : Launch) {ph : Nat} {k : Nat} {R : va_W} : cV g l yX7_init wsX7_init rm_X7_init 0 0 [.ref ph, .int (nI k)] ((ph, .inr (4, [.int (nI 0)])) :: R) (fun u => (ph, .inr (4, [.int (nI k)])) :: R = u) := by
  refine gEnterQ (cc := cX7_init) (maxL := 2) (ret := none) (by decide +kernel) rfl (Nat.le_of_ble_eq_true rfl) ?_
  intro p e s m below meth c F hG hW ls hl
  have hS : va_S (gA g) s.heap s.heap [] := va_S.rf
  have hl : lv_has ls 2 [(0, .ref ph), (1, .int (nI k))] := hl
  have hW : gW g ((ph, .inr (4, [.int (nI 0)])) :: R) s.heap := hW
  refine lv_aload_n F.1 F.2.1 dX7_init_0 rfl (lv_at hl 0 rfl) ?_
  refine gIN_v (c2 := 0) (s2 := 0) (n := 0) (As := []) F hG hS hW (c_X1_init g l  ) rfl gX7_init_X1_init_n1 fX7_init_m1 mX7_init_3 mX7_init_2 rfl (by decide +kernel) ⟨rfl, rfl, Nat.le_of_ble_eq_true rfl, Nat.le_of_ble_eq_true rfl⟩ hl.1 (Nat.le_of_ble_eq_true rfl) ⟨Nat.le_of_ble_eq_true rfl, Nat.le_of_ble_eq_true rfl⟩ ⟨rfl, rfl⟩ rfl rfl dX7_init_1 (fun u H locs hq hW hS => ?_)
  obtain rfl := hq
  have hW : gW g ((ph, .inr (4, [.int (nI 0)])) :: R) _ := hW
  refine lv_aload_n F.1 F.2.1 dX7_init_4 rfl (lv_at hl 0 rfl) ?_
  refine lv_iload_n F.1 F.2.1 dX7_init_5 rfl (lv_at hl 1 rfl) ?_
  refine gPutF (w2 := (ph, .inr (4, [.int (nI k)])) :: R) F hS hG hW nX7_init_X7 0 rfl rfl 0 (by decide) tyX7 tyX7_ok nmX7 mX7_init_1 rfl rfl rfl rfl rfl rfl (Nat.le_of_ble_eq_true rfl) rfl dX7_init_6 (fun H locs hW hS => ?_)
  refine gRv F hW hS dX7_init_9 ?_
  exact rfl

abbrev rm_X8_init : Room := ({ frames := 1, cells := 3, slots := 300, locals := 12 } : Room)
theorem mX8_init_1 : Cond.methodLink RX8 3 objectInit ∈ wsX8_init := List.mem_of_getElem? (i := 1) rfl
theorem mX8_init_2 : Cond.instanceMethod objectInit ∈ wsX8_init := List.mem_of_getElem? (i := 2) rfl
theorem mX8_init_3 : Cond.code objectInit ⟨#[0xb1]⟩ 1 none ∈ wsX8_init := List.mem_of_getElem? (i := 3) rfl
theorem mX8_init_4 : Cond.arrayClass .int ∈ wsX8_init := List.mem_of_getElem? (i := 4) rfl
theorem mX8_init_5 : Cond.fieldLink RX8 9 "StepperHearts$Program" "kinds" "[I" ∈ wsX8_init := List.mem_of_getElem? (i := 5) rfl
theorem nX8_init_X8 : ∀ w ∈ wsX80, w ∈ wsX8_init := fun _ h => List.mem_cons_of_mem _ (List.mem_append_right _ (h))
theorem mX8_init_6 : Cond.fieldLink RX8 15 "StepperHearts$Program" "operands" "[I" ∈ wsX8_init := List.mem_of_getElem? (i := 6) rfl
theorem mX8_init_7 : Cond.arrayClass .boolean ∈ wsX8_init := List.mem_of_getElem? (i := 7) rfl
theorem mX8_init_8 : Cond.fieldLink RX8 18 "StepperHearts$Program" "marks" "[Z" ∈ wsX8_init := List.mem_of_getElem? (i := 8) rfl
theorem mX8_init_9 : Cond.fieldLink RX8 22 "StepperHearts$Program" "size" "I" ∈ wsX8_init := List.mem_of_getElem? (i := 9) rfl
set_option maxRecDepth 100000 in
set_option maxHeartbeats 4000000 in
theorem c_X8_init (g : gC) (l : Launch) {cu : Nat} {R : va_W} : cV g l yX8_init wsX8_init rm_X8_init 3 300 [.ref cu] ((cu, .inr (5, [.null, .null, .null, .int (nI 0)])) :: R) (fun u => ∃ (pk : Nat), ∃ (po : Nat), ∃ (pm : Nat), (cu, .inr (5, [.ref pk, .ref po, .ref pm, .int (nI 0)])) :: (pk, .inl (g.2.1 0, 100, .inl (nA (fun _ => 0)))) :: (po, .inl (g.2.1 0, 100, .inl (nA (fun _ => 0)))) :: (pm, .inl (g.2.1 1, 100, .inl (bA (fun _ => false)))) :: R = u) := by
  refine gEnterQ (cc := cX8_init) (maxL := 1) (ret := none) (by decide +kernel) rfl (Nat.le_of_ble_eq_true rfl) ?_
  intro p e s m below meth c F hG hW ls hl
  have hS : va_S (gA g) s.heap s.heap [] := va_S.rf
  have hl : lv_has ls 1 [(0, .ref cu)] := hl
  have hW : gW g ((cu, .inr (5, [.null, .null, .null, .int (nI 0)])) :: R) s.heap := hW
  refine lv_aload_n F.1 F.2.1 dX8_init_0 rfl (lv_at hl 0 rfl) ?_
  refine W.objInit F.1 F.2.1 F.2.2.2.2.2.1 (F.2.2.2.2.1 _ mX8_init_1) (F.2.2.2.2.1 _ mX8_init_2) (F.2.2.2.2.1 _ mX8_init_3) rfl (hl.1.trans F.2.2.2.1.symm) rfl dX8_init_1 (Nat.le_of_ble_eq_true rfl) (Nat.le_of_ble_eq_true rfl) ?_
  refine W.eq (g2 := F0 m 4 ls []) rfl ?_
  refine lv_aload_n F.1 F.2.1 dX8_init_4 rfl (lv_at hl 0 rfl) ?_
  refine lv_bipush (v := nI 100) F.1 F.2.1 dX8_init_5 (by decide) ?_
  refine gNewI (N := 100) (c2 := 1) (s2 := 100) F hG hS hW mX8_init_4 ⟨Nat.le_of_ble_eq_true rfl, Nat.le_of_ble_eq_true rfl⟩ ⟨rfl, rfl⟩ ⟨Nat.le_of_ble_eq_true rfl, Nat.le_of_ble_eq_true rfl⟩ dX8_init_7 (fun q_7 H hW hS => ?_)
  have hW : gW g ((q_7, .inl (g.2.1 0, 100, .inl (nA (fun _ => 0)))) :: (cu, .inr (5, [.null, .null, .null, .int (nI 0)])) :: R) _ := hW
  refine gPutF (w2 := (q_7, .inl (g.2.1 0, 100, .inl (nA (fun _ => 0)))) :: (cu, .inr (5, [.ref q_7, .null, .null, .int (nI 0)])) :: R) F hS hG hW nX8_init_X8 1 rfl rfl 0 (by decide) tyX8 tyX8_ok nmX8 mX8_init_5 rfl rfl rfl rfl rfl rfl (Nat.le_of_ble_eq_true rfl) rfl dX8_init_9 (fun H locs hW hS => ?_)
  refine lv_aload_n F.1 F.2.1 dX8_init_12 rfl (lv_at hl 0 rfl) ?_
  refine lv_bipush (v := nI 100) F.1 F.2.1 dX8_init_13 (by decide) ?_
  refine gNewI (N := 100) (c2 := 2) (s2 := 200) F hG hS hW mX8_init_4 ⟨Nat.le_of_ble_eq_true rfl, Nat.le_of_ble_eq_true rfl⟩ ⟨rfl, rfl⟩ ⟨Nat.le_of_ble_eq_true rfl, Nat.le_of_ble_eq_true rfl⟩ dX8_init_15 (fun q_15 H hW hS => ?_)
  have hW : gW g ((q_15, .inl (g.2.1 0, 100, .inl (nA (fun _ => 0)))) :: (q_7, .inl (g.2.1 0, 100, .inl (nA (fun _ => 0)))) :: (cu, .inr (5, [.ref q_7, .null, .null, .int (nI 0)])) :: R) _ := hW
  refine gPutF (w2 := (q_15, .inl (g.2.1 0, 100, .inl (nA (fun _ => 0)))) :: (q_7, .inl (g.2.1 0, 100, .inl (nA (fun _ => 0)))) :: (cu, .inr (5, [.ref q_7, .ref q_15, .null, .int (nI 0)])) :: R) F hS hG hW nX8_init_X8 2 rfl rfl 1 (by decide) tyX8 tyX8_ok nmX8 mX8_init_6 rfl rfl rfl rfl rfl rfl (Nat.le_of_ble_eq_true rfl) rfl dX8_init_17 (fun H locs hW hS => ?_)
  refine lv_aload_n F.1 F.2.1 dX8_init_20 rfl (lv_at hl 0 rfl) ?_
  refine lv_bipush (v := nI 100) F.1 F.2.1 dX8_init_21 (by decide) ?_
  refine gNewZ (N := 100) (c2 := 3) (s2 := 300) F hG hS hW mX8_init_7 ⟨Nat.le_of_ble_eq_true rfl, Nat.le_of_ble_eq_true rfl⟩ ⟨rfl, rfl⟩ ⟨Nat.le_of_ble_eq_true rfl, Nat.le_of_ble_eq_true rfl⟩ dX8_init_23 (fun q_23 H hW hS => ?_)
  have hW : gW g ((q_23, .inl (g.2.1 1, 100, .inl (bA (fun _ => false)))) :: (q_15, .inl (g.2.1 0, 100, .inl (nA (fun _ => 0)))) :: (q_7, .inl (g.2.1 0, 100, .inl (nA (fun _ => 0)))) :: (cu, .inr (5, [.ref q_7, .ref q_15, .null, .int (nI 0)])) :: R) _ := hW
  refine gPutF (w2 := (q_23, .inl (g.2.1 1, 100, .inl (bA (fun _ => false)))) :: (q_15, .inl (g.2.1 0, 100, .inl (nA (fun _ => 0)))) :: (q_7, .inl (g.2.1 0, 100, .inl (nA (fun _ => 0)))) :: (cu, .inr (5, [.ref q_7, .ref q_15, .ref q_23, .int (nI 0)])) :: R) F hS hG hW nX8_init_X8 3 rfl rfl 2 (by decide) tyX8 tyX8_ok nmX8 mX8_init_8 rfl rfl rfl rfl rfl rfl (Nat.le_of_ble_eq_true rfl) rfl dX8_init_25 (fun H locs hW hS => ?_)
  refine lv_aload_n F.1 F.2.1 dX8_init_28 rfl (lv_at hl 0 rfl) ?_
  refine lv_iconst (v := nI 0) F.1 F.2.1 dX8_init_29 rfl ?_
  refine gPut (w2 := (q_23, .inl (g.2.1 1, 100, .inl (bA (fun _ => false)))) :: (q_15, .inl (g.2.1 0, 100, .inl (nA (fun _ => 0)))) :: (q_7, .inl (g.2.1 0, 100, .inl (nA (fun _ => 0)))) :: (cu, .inr (5, [.ref q_7, .ref q_15, .ref q_23, .int (nI 0)])) :: R) F hS hG hW nX8_init_X8 3 rfl rfl 3 (by decide) tyX8 tyX8_ok nmX8 mX8_init_9 rfl rfl rfl rfl (Nat.le_of_ble_eq_true rfl) rfl dX8_init_30 (fun H locs hW hS => ?_)
  have hW := gW.re (l := [(q_23, .inl (g.2.1 1, 100, .inl (bA (fun _ => false)))), (q_15, .inl (g.2.1 0, 100, .inl (nA (fun _ => 0)))), (q_7, .inl (g.2.1 0, 100, .inl (nA (fun _ => 0)))), (cu, .inr (5, [.ref q_7, .ref q_15, .ref q_23, .int (nI 0)]))]) (l' := [(cu, .inr (5, [.ref q_7, .ref q_15, .ref q_23, .int (nI 0)])), (q_7, .inl (g.2.1 0, 100, .inl (nA (fun _ => 0)))), (q_15, .inl (g.2.1 0, 100, .inl (nA (fun _ => 0)))), (q_23, .inl (g.2.1 1, 100, .inl (bA (fun _ => false))))]) (R := R) hW [3, 2, 1, 0] 4 rfl (by decide) rfl
  have hW : gW g ((cu, .inr (5, [.ref q_7, .ref q_15, .ref q_23, .int (nI 0)])) :: (q_7, .inl (g.2.1 0, 100, .inl (nA (fun _ => 0)))) :: (q_15, .inl (g.2.1 0, 100, .inl (nA (fun _ => 0)))) :: (q_23, .inl (g.2.1 1, 100, .inl (bA (fun _ => false)))) :: R) _ := hW
  refine gRv F hW hS dX8_init_33 ?_
  exact ⟨q_7, q_15, q_23, rfl⟩

abbrev rm_X9_init : Room := ({ frames := 1, cells := 5, slots := 1000, locals := 12 } : Room)
theorem mX9_init_1 : Cond.methodLink RX9 3 objectInit ∈ wsX9_init := List.mem_of_getElem? (i := 1) rfl
theorem mX9_init_2 : Cond.instanceMethod objectInit ∈ wsX9_init := List.mem_of_getElem? (i := 2) rfl
theorem mX9_init_3 : Cond.code objectInit ⟨#[0xb1]⟩ 1 none ∈ wsX9_init := List.mem_of_getElem? (i := 3) rfl
theorem mX9_init_4 : Cond.arrayClass .int ∈ wsX9_init := List.mem_of_getElem? (i := 4) rfl
theorem mX9_init_5 : Cond.fieldLink RX9 9 "StepperHearts$Reader" "bytes" "[I" ∈ wsX9_init := List.mem_of_getElem? (i := 5) rfl
theorem nX9_init_X9 : ∀ w ∈ wsX90, w ∈ wsX9_init := fun _ h => List.mem_cons_of_mem _ (List.mem_append_right _ (h))
theorem mX9_init_6 : Cond.fieldLink RX9 15 "StepperHearts$Reader" "markStarts" "[I" ∈ wsX9_init := List.mem_of_getElem? (i := 6) rfl
theorem mX9_init_7 : Cond.fieldLink RX9 18 "StepperHearts$Reader" "markEnds" "[I" ∈ wsX9_init := List.mem_of_getElem? (i := 7) rfl
theorem mX9_init_8 : Cond.fieldLink RX9 21 "StepperHearts$Reader" "goalStarts" "[I" ∈ wsX9_init := List.mem_of_getElem? (i := 8) rfl
theorem mX9_init_9 : Cond.fieldLink RX9 24 "StepperHearts$Reader" "goalEnds" "[I" ∈ wsX9_init := List.mem_of_getElem? (i := 9) rfl
theorem mX9_init_10 : Cond.fieldLink RX9 27 "StepperHearts$Reader" "length" "I" ∈ wsX9_init := List.mem_of_getElem? (i := 10) rfl
theorem mX9_init_11 : Cond.fieldLink RX9 31 "StepperHearts$Reader" "token" "I" ∈ wsX9_init := List.mem_of_getElem? (i := 11) rfl
theorem mX9_init_12 : Cond.fieldLink RX9 34 "StepperHearts$Reader" "tokenStart" "I" ∈ wsX9_init := List.mem_of_getElem? (i := 12) rfl
theorem mX9_init_13 : Cond.fieldLink RX9 37 "StepperHearts$Reader" "tokenEnd" "I" ∈ wsX9_init := List.mem_of_getElem? (i := 13) rfl
theorem mX9_init_14 : Cond.fieldLink RX9 40 "StepperHearts$Reader" "wordStart" "I" ∈ wsX9_init := List.mem_of_getElem? (i := 14) rfl
theorem mX9_init_15 : Cond.fieldLink RX9 43 "StepperHearts$Reader" "wordEnd" "I" ∈ wsX9_init := List.mem_of_getElem? (i := 15) rfl
theorem mX9_init_16 : Cond.fieldLink RX9 46 "StepperHearts$Reader" "faultNumber" "I" ∈ wsX9_init := List.mem_of_getElem? (i := 16) rfl
theorem mX9_init_17 : Cond.fieldLink RX9 49 "StepperHearts$Reader" "faultPlace" "I" ∈ wsX9_init := List.mem_of_getElem? (i := 17) rfl
set_option maxRecDepth 100000 in
set_option maxHeartbeats 4000000 in
theorem c_X9_init (g : gC) (l : Launch) {rd : Nat} {R : va_W} : cV g l yX9_init wsX9_init rm_X9_init 5 1000 [.ref rd] ((rd, .inr (6, [.null, .null, .null, .null, .null, .int (nI 0), .int (nI 0), .int (nI 0), .int (nI 0), .int (nI 0), .int (nI 0), .int (nI 0), .int (nI 0)])) :: R) (fun u => ∃ (r0 : Nat), ∃ (r1 : Nat), ∃ (r2 : Nat), ∃ (r3 : Nat), ∃ (r4 : Nat), (rd, .inr (6, [.ref r0, .ref r1, .ref r2, .ref r3, .ref r4, .int (nI 0), .int (nI 5), .int (nI 0), .int (nI 0), .int (nI 0), .int (nI 0), .int (nI 0), .int (-1)])) :: (r0, .inl (g.2.1 0, 600, .inl (nA (fun _ => 0)))) :: (r1, .inl (g.2.1 0, 100, .inl (nA (fun _ => 0)))) :: (r2, .inl (g.2.1 0, 100, .inl (nA (fun _ => 0)))) :: (r3, .inl (g.2.1 0, 100, .inl (nA (fun _ => 0)))) :: (r4, .inl (g.2.1 0, 100, .inl (nA (fun _ => 0)))) :: R = u) := by
  refine gEnterQ (cc := cX9_init) (maxL := 1) (ret := none) (by decide +kernel) rfl (Nat.le_of_ble_eq_true rfl) ?_
  intro p e s m below meth c F hG hW ls hl
  have hS : va_S (gA g) s.heap s.heap [] := va_S.rf
  have hl : lv_has ls 1 [(0, .ref rd)] := hl
  have hW : gW g ((rd, .inr (6, [.null, .null, .null, .null, .null, .int (nI 0), .int (nI 0), .int (nI 0), .int (nI 0), .int (nI 0), .int (nI 0), .int (nI 0), .int (nI 0)])) :: R) s.heap := hW
  refine lv_aload_n F.1 F.2.1 dX9_init_0 rfl (lv_at hl 0 rfl) ?_
  refine W.objInit F.1 F.2.1 F.2.2.2.2.2.1 (F.2.2.2.2.1 _ mX9_init_1) (F.2.2.2.2.1 _ mX9_init_2) (F.2.2.2.2.1 _ mX9_init_3) rfl (hl.1.trans F.2.2.2.1.symm) rfl dX9_init_1 (Nat.le_of_ble_eq_true rfl) (Nat.le_of_ble_eq_true rfl) ?_
  refine W.eq (g2 := F0 m 4 ls []) rfl ?_
  refine lv_aload_n F.1 F.2.1 dX9_init_4 rfl (lv_at hl 0 rfl) ?_
  refine lv_sipush (v := nI 600) F.1 F.2.1 dX9_init_5 (by decide) ?_
  refine gNewI (N := 600) (c2 := 1) (s2 := 600) F hG hS hW mX9_init_4 ⟨Nat.le_of_ble_eq_true rfl, Nat.le_of_ble_eq_true rfl⟩ ⟨rfl, rfl⟩ ⟨Nat.le_of_ble_eq_true rfl, Nat.le_of_ble_eq_true rfl⟩ dX9_init_8 (fun q_8 H hW hS => ?_)
  have hW : gW g ((q_8, .inl (g.2.1 0, 600, .inl (nA (fun _ => 0)))) :: (rd, .inr (6, [.null, .null, .null, .null, .null, .int (nI 0), .int (nI 0), .int (nI 0), .int (nI 0), .int (nI 0), .int (nI 0), .int (nI 0), .int (nI 0)])) :: R) _ := hW
  refine gPutF (w2 := (q_8, .inl (g.2.1 0, 600, .inl (nA (fun _ => 0)))) :: (rd, .inr (6, [.ref q_8, .null, .null, .null, .null, .int (nI 0), .int (nI 0), .int (nI 0), .int (nI 0), .int (nI 0), .int (nI 0), .int (nI 0), .int (nI 0)])) :: R) F hS hG hW nX9_init_X9 1 rfl rfl 0 (by decide) tyX9 tyX9_ok nmX9 mX9_init_5 rfl rfl rfl rfl rfl rfl (Nat.le_of_ble_eq_true rfl) rfl dX9_init_10 (fun H locs hW hS => ?_)
  refine lv_aload_n F.1 F.2.1 dX9_init_13 rfl (lv_at hl 0 rfl) ?_
  refine lv_bipush (v := nI 100) F.1 F.2.1 dX9_init_14 (by decide) ?_
  refine gNewI (N := 100) (c2 := 2) (s2 := 700) F hG hS hW mX9_init_4 ⟨Nat.le_of_ble_eq_true rfl, Nat.le_of_ble_eq_true rfl⟩ ⟨rfl, rfl⟩ ⟨Nat.le_of_ble_eq_true rfl, Nat.le_of_ble_eq_true rfl⟩ dX9_init_16 (fun q_16 H hW hS => ?_)
  have hW : gW g ((q_16, .inl (g.2.1 0, 100, .inl (nA (fun _ => 0)))) :: (q_8, .inl (g.2.1 0, 600, .inl (nA (fun _ => 0)))) :: (rd, .inr (6, [.ref q_8, .null, .null, .null, .null, .int (nI 0), .int (nI 0), .int (nI 0), .int (nI 0), .int (nI 0), .int (nI 0), .int (nI 0), .int (nI 0)])) :: R) _ := hW
  refine gPutF (w2 := (q_16, .inl (g.2.1 0, 100, .inl (nA (fun _ => 0)))) :: (q_8, .inl (g.2.1 0, 600, .inl (nA (fun _ => 0)))) :: (rd, .inr (6, [.ref q_8, .ref q_16, .null, .null, .null, .int (nI 0), .int (nI 0), .int (nI 0), .int (nI 0), .int (nI 0), .int (nI 0), .int (nI 0), .int (nI 0)])) :: R) F hS hG hW nX9_init_X9 2 rfl rfl 1 (by decide) tyX9 tyX9_ok nmX9 mX9_init_6 rfl rfl rfl rfl rfl rfl (Nat.le_of_ble_eq_true rfl) rfl dX9_init_18 (fun H locs hW hS => ?_)
  refine lv_aload_n F.1 F.2.1 dX9_init_21 rfl (lv_at hl 0 rfl) ?_
  refine lv_bipush (v := nI 100) F.1 F.2.1 dX9_init_22 (by decide) ?_
  refine gNewI (N := 100) (c2 := 3) (s2 := 800) F hG hS hW mX9_init_4 ⟨Nat.le_of_ble_eq_true rfl, Nat.le_of_ble_eq_true rfl⟩ ⟨rfl, rfl⟩ ⟨Nat.le_of_ble_eq_true rfl, Nat.le_of_ble_eq_true rfl⟩ dX9_init_24 (fun q_24 H hW hS => ?_)
  have hW : gW g ((q_24, .inl (g.2.1 0, 100, .inl (nA (fun _ => 0)))) :: (q_16, .inl (g.2.1 0, 100, .inl (nA (fun _ => 0)))) :: (q_8, .inl (g.2.1 0, 600, .inl (nA (fun _ => 0)))) :: (rd, .inr (6, [.ref q_8, .ref q_16, .null, .null, .null, .int (nI 0), .int (nI 0), .int (nI 0), .int (nI 0), .int (nI 0), .int (nI 0), .int (nI 0), .int (nI 0)])) :: R) _ := hW
  refine gPutF (w2 := (q_24, .inl (g.2.1 0, 100, .inl (nA (fun _ => 0)))) :: (q_16, .inl (g.2.1 0, 100, .inl (nA (fun _ => 0)))) :: (q_8, .inl (g.2.1 0, 600, .inl (nA (fun _ => 0)))) :: (rd, .inr (6, [.ref q_8, .ref q_16, .ref q_24, .null, .null, .int (nI 0), .int (nI 0), .int (nI 0), .int (nI 0), .int (nI 0), .int (nI 0), .int (nI 0), .int (nI 0)])) :: R) F hS hG hW nX9_init_X9 3 rfl rfl 2 (by decide) tyX9 tyX9_ok nmX9 mX9_init_7 rfl rfl rfl rfl rfl rfl (Nat.le_of_ble_eq_true rfl) rfl dX9_init_26 (fun H locs hW hS => ?_)
  refine lv_aload_n F.1 F.2.1 dX9_init_29 rfl (lv_at hl 0 rfl) ?_
  refine lv_bipush (v := nI 100) F.1 F.2.1 dX9_init_30 (by decide) ?_
  refine gNewI (N := 100) (c2 := 4) (s2 := 900) F hG hS hW mX9_init_4 ⟨Nat.le_of_ble_eq_true rfl, Nat.le_of_ble_eq_true rfl⟩ ⟨rfl, rfl⟩ ⟨Nat.le_of_ble_eq_true rfl, Nat.le_of_ble_eq_true rfl⟩ dX9_init_32 (fun q_32 H hW hS => ?_)
  have hW : gW g ((q_32, .inl (g.2.1 0, 100, .inl (nA (fun _ => 0)))) :: (q_24, .inl (g.2.1 0, 100, .inl (nA (fun _ => 0)))) :: (q_16, .inl (g.2.1 0, 100, .inl (nA (fun _ => 0)))) :: (q_8, .inl (g.2.1 0, 600, .inl (nA (fun _ => 0)))) :: (rd, .inr (6, [.ref q_8, .ref q_16, .ref q_24, .null, .null, .int (nI 0), .int (nI 0), .int (nI 0), .int (nI 0), .int (nI 0), .int (nI 0), .int (nI 0), .int (nI 0)])) :: R) _ := hW
  refine gPutF (w2 := (q_32, .inl (g.2.1 0, 100, .inl (nA (fun _ => 0)))) :: (q_24, .inl (g.2.1 0, 100, .inl (nA (fun _ => 0)))) :: (q_16, .inl (g.2.1 0, 100, .inl (nA (fun _ => 0)))) :: (q_8, .inl (g.2.1 0, 600, .inl (nA (fun _ => 0)))) :: (rd, .inr (6, [.ref q_8, .ref q_16, .ref q_24, .ref q_32, .null, .int (nI 0), .int (nI 0), .int (nI 0), .int (nI 0), .int (nI 0), .int (nI 0), .int (nI 0), .int (nI 0)])) :: R) F hS hG hW nX9_init_X9 4 rfl rfl 3 (by decide) tyX9 tyX9_ok nmX9 mX9_init_8 rfl rfl rfl rfl rfl rfl (Nat.le_of_ble_eq_true rfl) rfl dX9_init_34 (fun H locs hW hS => ?_)
  refine lv_aload_n F.1 F.2.1 dX9_init_37 rfl (lv_at hl 0 rfl) ?_
  refine lv_bipush (v := nI 100) F.1 F.2.1 dX9_init_38 (by decide) ?_
  refine gNewI (N := 100) (c2 := 5) (s2 := 1000) F hG hS hW mX9_init_4 ⟨Nat.le_of_ble_eq_true rfl, Nat.le_of_ble_eq_true rfl⟩ ⟨rfl, rfl⟩ ⟨Nat.le_of_ble_eq_true rfl, Nat.le_of_ble_eq_true rfl⟩ dX9_init_40 (fun q_40 H hW hS => ?_)
  have hW : gW g ((q_40, .inl (g.2.1 0, 100, .inl (nA (fun _ => 0)))) :: (q_32, .inl (g.2.1 0, 100, .inl (nA (fun _ => 0)))) :: (q_24, .inl (g.2.1 0, 100, .inl (nA (fun _ => 0)))) :: (q_16, .inl (g.2.1 0, 100, .inl (nA (fun _ => 0)))) :: (q_8, .inl (g.2.1 0, 600, .inl (nA (fun _ => 0)))) :: (rd, .inr (6, [.ref q_8, .ref q_16, .ref q_24, .ref q_32, .null, .int (nI 0), .int (nI 0), .int (nI 0), .int (nI 0), .int (nI 0), .int (nI 0), .int (nI 0), .int (nI 0)])) :: R) _ := hW
  refine gPutF (w2 := (q_40, .inl (g.2.1 0, 100, .inl (nA (fun _ => 0)))) :: (q_32, .inl (g.2.1 0, 100, .inl (nA (fun _ => 0)))) :: (q_24, .inl (g.2.1 0, 100, .inl (nA (fun _ => 0)))) :: (q_16, .inl (g.2.1 0, 100, .inl (nA (fun _ => 0)))) :: (q_8, .inl (g.2.1 0, 600, .inl (nA (fun _ => 0)))) :: (rd, .inr (6, [.ref q_8, .ref q_16, .ref q_24, .ref q_32, .ref q_40, .int (nI 0), .int (nI 0), .int (nI 0), .int (nI 0), .int (nI 0), .int (nI 0), .int (nI 0), .int (nI 0)])) :: R) F hS hG hW nX9_init_X9 5 rfl rfl 4 (by decide) tyX9 tyX9_ok nmX9 mX9_init_9 rfl rfl rfl rfl rfl rfl (Nat.le_of_ble_eq_true rfl) rfl dX9_init_42 (fun H locs hW hS => ?_)
  refine lv_aload_n F.1 F.2.1 dX9_init_45 rfl (lv_at hl 0 rfl) ?_
  refine lv_iconst (v := nI 0) F.1 F.2.1 dX9_init_46 rfl ?_
  refine gPut (w2 := (q_40, .inl (g.2.1 0, 100, .inl (nA (fun _ => 0)))) :: (q_32, .inl (g.2.1 0, 100, .inl (nA (fun _ => 0)))) :: (q_24, .inl (g.2.1 0, 100, .inl (nA (fun _ => 0)))) :: (q_16, .inl (g.2.1 0, 100, .inl (nA (fun _ => 0)))) :: (q_8, .inl (g.2.1 0, 600, .inl (nA (fun _ => 0)))) :: (rd, .inr (6, [.ref q_8, .ref q_16, .ref q_24, .ref q_32, .ref q_40, .int (nI 0), .int (nI 0), .int (nI 0), .int (nI 0), .int (nI 0), .int (nI 0), .int (nI 0), .int (nI 0)])) :: R) F hS hG hW nX9_init_X9 5 rfl rfl 5 (by decide) tyX9 tyX9_ok nmX9 mX9_init_10 rfl rfl rfl rfl (Nat.le_of_ble_eq_true rfl) rfl dX9_init_47 (fun H locs hW hS => ?_)
  refine lv_aload_n F.1 F.2.1 dX9_init_50 rfl (lv_at hl 0 rfl) ?_
  refine lv_iconst (v := nI 5) F.1 F.2.1 dX9_init_51 rfl ?_
  refine gPut (w2 := (q_40, .inl (g.2.1 0, 100, .inl (nA (fun _ => 0)))) :: (q_32, .inl (g.2.1 0, 100, .inl (nA (fun _ => 0)))) :: (q_24, .inl (g.2.1 0, 100, .inl (nA (fun _ => 0)))) :: (q_16, .inl (g.2.1 0, 100, .inl (nA (fun _ => 0)))) :: (q_8, .inl (g.2.1 0, 600, .inl (nA (fun _ => 0)))) :: (rd, .inr (6, [.ref q_8, .ref q_16, .ref q_24, .ref q_32, .ref q_40, .int (nI 0), .int (nI 5), .int (nI 0), .int (nI 0), .int (nI 0), .int (nI 0), .int (nI 0), .int (nI 0)])) :: R) F hS hG hW nX9_init_X9 5 rfl rfl 6 (by decide) tyX9 tyX9_ok nmX9 mX9_init_11 rfl rfl rfl rfl (Nat.le_of_ble_eq_true rfl) rfl dX9_init_52 (fun H locs hW hS => ?_)
  refine lv_aload_n F.1 F.2.1 dX9_init_55 rfl (lv_at hl 0 rfl) ?_
  refine lv_iconst (v := nI 0) F.1 F.2.1 dX9_init_56 rfl ?_
  refine gPut (w2 := (q_40, .inl (g.2.1 0, 100, .inl (nA (fun _ => 0)))) :: (q_32, .inl (g.2.1 0, 100, .inl (nA (fun _ => 0)))) :: (q_24, .inl (g.2.1 0, 100, .inl (nA (fun _ => 0)))) :: (q_16, .inl (g.2.1 0, 100, .inl (nA (fun _ => 0)))) :: (q_8, .inl (g.2.1 0, 600, .inl (nA (fun _ => 0)))) :: (rd, .inr (6, [.ref q_8, .ref q_16, .ref q_24, .ref q_32, .ref q_40, .int (nI 0), .int (nI 5), .int (nI 0), .int (nI 0), .int (nI 0), .int (nI 0), .int (nI 0), .int (nI 0)])) :: R) F hS hG hW nX9_init_X9 5 rfl rfl 7 (by decide) tyX9 tyX9_ok nmX9 mX9_init_12 rfl rfl rfl rfl (Nat.le_of_ble_eq_true rfl) rfl dX9_init_57 (fun H locs hW hS => ?_)
  refine lv_aload_n F.1 F.2.1 dX9_init_60 rfl (lv_at hl 0 rfl) ?_
  refine lv_iconst (v := nI 0) F.1 F.2.1 dX9_init_61 rfl ?_
  refine gPut (w2 := (q_40, .inl (g.2.1 0, 100, .inl (nA (fun _ => 0)))) :: (q_32, .inl (g.2.1 0, 100, .inl (nA (fun _ => 0)))) :: (q_24, .inl (g.2.1 0, 100, .inl (nA (fun _ => 0)))) :: (q_16, .inl (g.2.1 0, 100, .inl (nA (fun _ => 0)))) :: (q_8, .inl (g.2.1 0, 600, .inl (nA (fun _ => 0)))) :: (rd, .inr (6, [.ref q_8, .ref q_16, .ref q_24, .ref q_32, .ref q_40, .int (nI 0), .int (nI 5), .int (nI 0), .int (nI 0), .int (nI 0), .int (nI 0), .int (nI 0), .int (nI 0)])) :: R) F hS hG hW nX9_init_X9 5 rfl rfl 8 (by decide) tyX9 tyX9_ok nmX9 mX9_init_13 rfl rfl rfl rfl (Nat.le_of_ble_eq_true rfl) rfl dX9_init_62 (fun H locs hW hS => ?_)
  refine lv_aload_n F.1 F.2.1 dX9_init_65 rfl (lv_at hl 0 rfl) ?_
  refine lv_iconst (v := nI 0) F.1 F.2.1 dX9_init_66 rfl ?_
  refine gPut (w2 := (q_40, .inl (g.2.1 0, 100, .inl (nA (fun _ => 0)))) :: (q_32, .inl (g.2.1 0, 100, .inl (nA (fun _ => 0)))) :: (q_24, .inl (g.2.1 0, 100, .inl (nA (fun _ => 0)))) :: (q_16, .inl (g.2.1 0, 100, .inl (nA (fun _ => 0)))) :: (q_8, .inl (g.2.1 0, 600, .inl (nA (fun _ => 0)))) :: (rd, .inr (6, [.ref q_8, .ref q_16, .ref q_24, .ref q_32, .ref q_40, .int (nI 0), .int (nI 5), .int (nI 0), .int (nI 0), .int (nI 0), .int (nI 0), .int (nI 0), .int (nI 0)])) :: R) F hS hG hW nX9_init_X9 5 rfl rfl 9 (by decide) tyX9 tyX9_ok nmX9 mX9_init_14 rfl rfl rfl rfl (Nat.le_of_ble_eq_true rfl) rfl dX9_init_67 (fun H locs hW hS => ?_)
  refine lv_aload_n F.1 F.2.1 dX9_init_70 rfl (lv_at hl 0 rfl) ?_
  refine lv_iconst (v := nI 0) F.1 F.2.1 dX9_init_71 rfl ?_
  refine gPut (w2 := (q_40, .inl (g.2.1 0, 100, .inl (nA (fun _ => 0)))) :: (q_32, .inl (g.2.1 0, 100, .inl (nA (fun _ => 0)))) :: (q_24, .inl (g.2.1 0, 100, .inl (nA (fun _ => 0)))) :: (q_16, .inl (g.2.1 0, 100, .inl (nA (fun _ => 0)))) :: (q_8, .inl (g.2.1 0, 600, .inl (nA (fun _ => 0)))) :: (rd, .inr (6, [.ref q_8, .ref q_16, .ref q_24, .ref q_32, .ref q_40, .int (nI 0), .int (nI 5), .int (nI 0), .int (nI 0), .int (nI 0), .int (nI 0), .int (nI 0), .int (nI 0)])) :: R) F hS hG hW nX9_init_X9 5 rfl rfl 10 (by decide) tyX9 tyX9_ok nmX9 mX9_init_15 rfl rfl rfl rfl (Nat.le_of_ble_eq_true rfl) rfl dX9_init_72 (fun H locs hW hS => ?_)
  refine lv_aload_n F.1 F.2.1 dX9_init_75 rfl (lv_at hl 0 rfl) ?_
  refine lv_iconst (v := nI 0) F.1 F.2.1 dX9_init_76 rfl ?_
  refine gPut (w2 := (q_40, .inl (g.2.1 0, 100, .inl (nA (fun _ => 0)))) :: (q_32, .inl (g.2.1 0, 100, .inl (nA (fun _ => 0)))) :: (q_24, .inl (g.2.1 0, 100, .inl (nA (fun _ => 0)))) :: (q_16, .inl (g.2.1 0, 100, .inl (nA (fun _ => 0)))) :: (q_8, .inl (g.2.1 0, 600, .inl (nA (fun _ => 0)))) :: (rd, .inr (6, [.ref q_8, .ref q_16, .ref q_24, .ref q_32, .ref q_40, .int (nI 0), .int (nI 5), .int (nI 0), .int (nI 0), .int (nI 0), .int (nI 0), .int (nI 0), .int (nI 0)])) :: R) F hS hG hW nX9_init_X9 5 rfl rfl 11 (by decide) tyX9 tyX9_ok nmX9 mX9_init_16 rfl rfl rfl rfl (Nat.le_of_ble_eq_true rfl) rfl dX9_init_77 (fun H locs hW hS => ?_)
  refine lv_aload_n F.1 F.2.1 dX9_init_80 rfl (lv_at hl 0 rfl) ?_
  refine lv_iconst (v := -1) F.1 F.2.1 dX9_init_81 rfl ?_
  refine gPut (w2 := (q_40, .inl (g.2.1 0, 100, .inl (nA (fun _ => 0)))) :: (q_32, .inl (g.2.1 0, 100, .inl (nA (fun _ => 0)))) :: (q_24, .inl (g.2.1 0, 100, .inl (nA (fun _ => 0)))) :: (q_16, .inl (g.2.1 0, 100, .inl (nA (fun _ => 0)))) :: (q_8, .inl (g.2.1 0, 600, .inl (nA (fun _ => 0)))) :: (rd, .inr (6, [.ref q_8, .ref q_16, .ref q_24, .ref q_32, .ref q_40, .int (nI 0), .int (nI 5), .int (nI 0), .int (nI 0), .int (nI 0), .int (nI 0), .int (nI 0), .int (-1)])) :: R) F hS hG hW nX9_init_X9 5 rfl rfl 12 (by decide) tyX9 tyX9_ok nmX9 mX9_init_17 rfl rfl rfl rfl (Nat.le_of_ble_eq_true rfl) rfl dX9_init_82 (fun H locs hW hS => ?_)
  have hW := gW.re (l := [(q_40, .inl (g.2.1 0, 100, .inl (nA (fun _ => 0)))), (q_32, .inl (g.2.1 0, 100, .inl (nA (fun _ => 0)))), (q_24, .inl (g.2.1 0, 100, .inl (nA (fun _ => 0)))), (q_16, .inl (g.2.1 0, 100, .inl (nA (fun _ => 0)))), (q_8, .inl (g.2.1 0, 600, .inl (nA (fun _ => 0)))), (rd, .inr (6, [.ref q_8, .ref q_16, .ref q_24, .ref q_32, .ref q_40, .int (nI 0), .int (nI 5), .int (nI 0), .int (nI 0), .int (nI 0), .int (nI 0), .int (nI 0), .int (-1)]))]) (l' := [(rd, .inr (6, [.ref q_8, .ref q_16, .ref q_24, .ref q_32, .ref q_40, .int (nI 0), .int (nI 5), .int (nI 0), .int (nI 0), .int (nI 0), .int (nI 0), .int (nI 0), .int (-1)])), (q_8, .inl (g.2.1 0, 600, .inl (nA (fun _ => 0)))), (q_16, .inl (g.2.1 0, 100, .inl (nA (fun _ => 0)))), (q_24, .inl (g.2.1 0, 100, .inl (nA (fun _ => 0)))), (q_32, .inl (g.2.1 0, 100, .inl (nA (fun _ => 0)))), (q_40, .inl (g.2.1 0, 100, .inl (nA (fun _ => 0))))]) (R := R) hW [5, 4, 3, 2, 1, 0] 6 rfl (by decide) rfl
  have hW : gW g ((rd, .inr (6, [.ref q_8, .ref q_16, .ref q_24, .ref q_32, .ref q_40, .int (nI 0), .int (nI 5), .int (nI 0), .int (nI 0), .int (nI 0), .int (nI 0), .int (nI 0), .int (-1)])) :: (q_8, .inl (g.2.1 0, 600, .inl (nA (fun _ => 0)))) :: (q_16, .inl (g.2.1 0, 100, .inl (nA (fun _ => 0)))) :: (q_24, .inl (g.2.1 0, 100, .inl (nA (fun _ => 0)))) :: (q_32, .inl (g.2.1 0, 100, .inl (nA (fun _ => 0)))) :: (q_40, .inl (g.2.1 0, 100, .inl (nA (fun _ => 0)))) :: R) _ := hW
  refine gRv F hW hS dX9_init_85 ?_
  exact ⟨q_8, q_16, q_24, q_32, q_40, rfl⟩

abbrev rm_X10_init : Room := ({ frames := 2, cells := 4, slots := 4300, locals := 32 } : Room)
theorem fX10_init_m3 : (yX10_init.cls, 3, yX1_init, "StepperHearts") ∈ gNM := List.mem_of_getElem? (i := 7) rfl
theorem mX10_init_12 : Cond.initialized RX1 ∈ wsX10_init := List.mem_of_getElem? (i := 12) rfl
theorem mX10_init_11 : Cond.instanceMethod yX1_init ∈ wsX10_init := List.mem_of_getElem? (i := 11) rfl
theorem mX10_init_1 : Cond.arrayClass .int ∈ wsX10_init := List.mem_of_getElem? (i := 1) rfl
theorem mX10_init_2 : Cond.fieldLink RX10 11 "StepperHearts$TraceHeart" "rows" "[I" ∈ wsX10_init := List.mem_of_getElem? (i := 2) rfl
theorem nX10_init_X10 : ∀ w ∈ wsX100, w ∈ wsX10_init := fun _ h => List.mem_cons_of_mem _ (List.mem_append_right _ (h))
theorem mX10_init_3 : Cond.fieldLink RX10 15 "StepperHearts$TraceHeart" "lengths" "[I" ∈ wsX10_init := List.mem_of_getElem? (i := 3) rfl
theorem mX10_init_4 : Cond.fieldLink RX10 18 "StepperHearts$TraceHeart" "rounds" "[I" ∈ wsX10_init := List.mem_of_getElem? (i := 4) rfl
theorem mX10_init_5 : Cond.arrayClass .boolean ∈ wsX10_init := List.mem_of_getElem? (i := 5) rfl
theorem mX10_init_6 : Cond.fieldLink RX10 21 "StepperHearts$TraceHeart" "wasBegun" "[Z" ∈ wsX10_init := List.mem_of_getElem? (i := 6) rfl
theorem mX10_init_7 : Cond.fieldLink RX10 25 "StepperHearts$TraceHeart" "writing" "I" ∈ wsX10_init := List.mem_of_getElem? (i := 7) rfl
theorem mX10_init_8 : Cond.fieldLink RX10 29 "StepperHearts$TraceHeart" "written" "I" ∈ wsX10_init := List.mem_of_getElem? (i := 8) rfl
theorem mX10_init_9 : Cond.fieldLink RX10 32 "StepperHearts$TraceHeart" "inside" "I" ∈ wsX10_init := List.mem_of_getElem? (i := 9) rfl
theorem mX10_init_10 : Cond.fieldLink RX10 35 "StepperHearts$TraceHeart" "nextInside" "I" ∈ wsX10_init := List.mem_of_getElem? (i := 10) rfl
set_option maxRecDepth 100000 in
set_option maxHeartbeats 4000000 in
theorem c_X10_init (g : gC) (l : Launch) {th : Nat} {R : va_W} : cV g l yX10_init wsX10_init rm_X10_init 4 4300 [.ref th] ((th, .inr (7, [.null, .null, .null, .null, .int (nI 0), .int (nI 0), .int (nI 0), .int (nI 0)])) :: R) (fun u => ∃ (tr : Nat), ∃ (tq : Nat), ∃ (tn : Nat), ∃ (tb : Nat), (th, .inr (7, [.ref tr, .ref tq, .ref tn, .ref tb, .int (-1), .int (nI 0), .int (-1), .int (nI 0)])) :: (tr, .inl (g.2.1 0, 4000, .inl (nA (fun _ => 0)))) :: (tq, .inl (g.2.1 0, 100, .inl (nA (fun _ => 0)))) :: (tn, .inl (g.2.1 0, 100, .inl (nA (fun _ => 0)))) :: (tb, .inl (g.2.1 1, 100, .inl (bA (fun _ => false)))) :: R = u) := by
  refine gEnterQ (cc := cX10_init) (maxL := 1) (ret := none) (by decide +kernel) rfl (Nat.le_of_ble_eq_true rfl) ?_
  intro p e s m below meth c F hG hW ls hl
  have hS : va_S (gA g) s.heap s.heap [] := va_S.rf
  have hl : lv_has ls 1 [(0, .ref th)] := hl
  have hW : gW g ((th, .inr (7, [.null, .null, .null, .null, .int (nI 0), .int (nI 0), .int (nI 0), .int (nI 0)])) :: R) s.heap := hW
  refine lv_aload_n F.1 F.2.1 dX10_init_0 rfl (lv_at hl 0 rfl) ?_
  refine gIN_v (c2 := 0) (s2 := 0) (n := 0) (As := []) F hG hS hW (c_X1_init g l  ) rfl gX10_init_X1_init_n3 fX10_init_m3 mX10_init_12 mX10_init_11 rfl (by decide +kernel) ⟨rfl, rfl, Nat.le_of_ble_eq_true rfl, Nat.le_of_ble_eq_true rfl⟩ hl.1 (Nat.le_of_ble_eq_true rfl) ⟨Nat.le_of_ble_eq_true rfl, Nat.le_of_ble_eq_true rfl⟩ ⟨rfl, rfl⟩ rfl rfl dX10_init_1 (fun u H locs hq hW hS => ?_)
  obtain rfl := hq
  have hW : gW g ((th, .inr (7, [.null, .null, .null, .null, .int (nI 0), .int (nI 0), .int (nI 0), .int (nI 0)])) :: R) _ := hW
  refine lv_aload_n F.1 F.2.1 dX10_init_4 rfl (lv_at hl 0 rfl) ?_
  refine lv_sipush (v := nI 4000) F.1 F.2.1 dX10_init_5 (by decide) ?_
  refine gNewI (N := 4000) (c2 := 1) (s2 := 4000) F hG hS hW mX10_init_1 ⟨Nat.le_of_ble_eq_true rfl, Nat.le_of_ble_eq_true rfl⟩ ⟨rfl, rfl⟩ ⟨Nat.le_of_ble_eq_true rfl, Nat.le_of_ble_eq_true rfl⟩ dX10_init_8 (fun q_8 H hW hS => ?_)
  have hW : gW g ((q_8, .inl (g.2.1 0, 4000, .inl (nA (fun _ => 0)))) :: (th, .inr (7, [.null, .null, .null, .null, .int (nI 0), .int (nI 0), .int (nI 0), .int (nI 0)])) :: R) _ := hW
  refine gPutF (w2 := (q_8, .inl (g.2.1 0, 4000, .inl (nA (fun _ => 0)))) :: (th, .inr (7, [.ref q_8, .null, .null, .null, .int (nI 0), .int (nI 0), .int (nI 0), .int (nI 0)])) :: R) F hS hG hW nX10_init_X10 1 rfl rfl 0 (by decide) tyX10 tyX10_ok nmX10 mX10_init_2 rfl rfl rfl rfl rfl rfl (Nat.le_of_ble_eq_true rfl) rfl dX10_init_10 (fun H locs hW hS => ?_)
  refine lv_aload_n F.1 F.2.1 dX10_init_13 rfl (lv_at hl 0 rfl) ?_
  refine lv_bipush (v := nI 100) F.1 F.2.1 dX10_init_14 (by decide) ?_
  refine gNewI (N := 100) (c2 := 2) (s2 := 4100) F hG hS hW mX10_init_1 ⟨Nat.le_of_ble_eq_true rfl, Nat.le_of_ble_eq_true rfl⟩ ⟨rfl, rfl⟩ ⟨Nat.le_of_ble_eq_true rfl, Nat.le_of_ble_eq_true rfl⟩ dX10_init_16 (fun q_16 H hW hS => ?_)
  have hW : gW g ((q_16, .inl (g.2.1 0, 100, .inl (nA (fun _ => 0)))) :: (q_8, .inl (g.2.1 0, 4000, .inl (nA (fun _ => 0)))) :: (th, .inr (7, [.ref q_8, .null, .null, .null, .int (nI 0), .int (nI 0), .int (nI 0), .int (nI 0)])) :: R) _ := hW
  refine gPutF (w2 := (q_16, .inl (g.2.1 0, 100, .inl (nA (fun _ => 0)))) :: (q_8, .inl (g.2.1 0, 4000, .inl (nA (fun _ => 0)))) :: (th, .inr (7, [.ref q_8, .ref q_16, .null, .null, .int (nI 0), .int (nI 0), .int (nI 0), .int (nI 0)])) :: R) F hS hG hW nX10_init_X10 2 rfl rfl 1 (by decide) tyX10 tyX10_ok nmX10 mX10_init_3 rfl rfl rfl rfl rfl rfl (Nat.le_of_ble_eq_true rfl) rfl dX10_init_18 (fun H locs hW hS => ?_)
  refine lv_aload_n F.1 F.2.1 dX10_init_21 rfl (lv_at hl 0 rfl) ?_
  refine lv_bipush (v := nI 100) F.1 F.2.1 dX10_init_22 (by decide) ?_
  refine gNewI (N := 100) (c2 := 3) (s2 := 4200) F hG hS hW mX10_init_1 ⟨Nat.le_of_ble_eq_true rfl, Nat.le_of_ble_eq_true rfl⟩ ⟨rfl, rfl⟩ ⟨Nat.le_of_ble_eq_true rfl, Nat.le_of_ble_eq_true rfl⟩ dX10_init_24 (fun q_24 H hW hS => ?_)
  have hW : gW g ((q_24, .inl (g.2.1 0, 100, .inl (nA (fun _ => 0)))) :: (q_16, .inl (g.2.1 0, 100, .inl (nA (fun _ => 0)))) :: (q_8, .inl (g.2.1 0, 4000, .inl (nA (fun _ => 0)))) :: (th, .inr (7, [.ref q_8, .ref q_16, .null, .null, .int (nI 0), .int (nI 0), .int (nI 0), .int (nI 0)])) :: R) _ := hW
  refine gPutF (w2 := (q_24, .inl (g.2.1 0, 100, .inl (nA (fun _ => 0)))) :: (q_16, .inl (g.2.1 0, 100, .inl (nA (fun _ => 0)))) :: (q_8, .inl (g.2.1 0, 4000, .inl (nA (fun _ => 0)))) :: (th, .inr (7, [.ref q_8, .ref q_16, .ref q_24, .null, .int (nI 0), .int (nI 0), .int (nI 0), .int (nI 0)])) :: R) F hS hG hW nX10_init_X10 3 rfl rfl 2 (by decide) tyX10 tyX10_ok nmX10 mX10_init_4 rfl rfl rfl rfl rfl rfl (Nat.le_of_ble_eq_true rfl) rfl dX10_init_26 (fun H locs hW hS => ?_)
  refine lv_aload_n F.1 F.2.1 dX10_init_29 rfl (lv_at hl 0 rfl) ?_
  refine lv_bipush (v := nI 100) F.1 F.2.1 dX10_init_30 (by decide) ?_
  refine gNewZ (N := 100) (c2 := 4) (s2 := 4300) F hG hS hW mX10_init_5 ⟨Nat.le_of_ble_eq_true rfl, Nat.le_of_ble_eq_true rfl⟩ ⟨rfl, rfl⟩ ⟨Nat.le_of_ble_eq_true rfl, Nat.le_of_ble_eq_true rfl⟩ dX10_init_32 (fun q_32 H hW hS => ?_)
  have hW : gW g ((q_32, .inl (g.2.1 1, 100, .inl (bA (fun _ => false)))) :: (q_24, .inl (g.2.1 0, 100, .inl (nA (fun _ => 0)))) :: (q_16, .inl (g.2.1 0, 100, .inl (nA (fun _ => 0)))) :: (q_8, .inl (g.2.1 0, 4000, .inl (nA (fun _ => 0)))) :: (th, .inr (7, [.ref q_8, .ref q_16, .ref q_24, .null, .int (nI 0), .int (nI 0), .int (nI 0), .int (nI 0)])) :: R) _ := hW
  refine gPutF (w2 := (q_32, .inl (g.2.1 1, 100, .inl (bA (fun _ => false)))) :: (q_24, .inl (g.2.1 0, 100, .inl (nA (fun _ => 0)))) :: (q_16, .inl (g.2.1 0, 100, .inl (nA (fun _ => 0)))) :: (q_8, .inl (g.2.1 0, 4000, .inl (nA (fun _ => 0)))) :: (th, .inr (7, [.ref q_8, .ref q_16, .ref q_24, .ref q_32, .int (nI 0), .int (nI 0), .int (nI 0), .int (nI 0)])) :: R) F hS hG hW nX10_init_X10 4 rfl rfl 3 (by decide) tyX10 tyX10_ok nmX10 mX10_init_6 rfl rfl rfl rfl rfl rfl (Nat.le_of_ble_eq_true rfl) rfl dX10_init_34 (fun H locs hW hS => ?_)
  refine lv_aload_n F.1 F.2.1 dX10_init_37 rfl (lv_at hl 0 rfl) ?_
  refine lv_iconst (v := -1) F.1 F.2.1 dX10_init_38 rfl ?_
  refine gPut (w2 := (q_32, .inl (g.2.1 1, 100, .inl (bA (fun _ => false)))) :: (q_24, .inl (g.2.1 0, 100, .inl (nA (fun _ => 0)))) :: (q_16, .inl (g.2.1 0, 100, .inl (nA (fun _ => 0)))) :: (q_8, .inl (g.2.1 0, 4000, .inl (nA (fun _ => 0)))) :: (th, .inr (7, [.ref q_8, .ref q_16, .ref q_24, .ref q_32, .int (-1), .int (nI 0), .int (nI 0), .int (nI 0)])) :: R) F hS hG hW nX10_init_X10 4 rfl rfl 4 (by decide) tyX10 tyX10_ok nmX10 mX10_init_7 rfl rfl rfl rfl (Nat.le_of_ble_eq_true rfl) rfl dX10_init_39 (fun H locs hW hS => ?_)
  refine lv_aload_n F.1 F.2.1 dX10_init_42 rfl (lv_at hl 0 rfl) ?_
  refine lv_iconst (v := nI 0) F.1 F.2.1 dX10_init_43 rfl ?_
  refine gPut (w2 := (q_32, .inl (g.2.1 1, 100, .inl (bA (fun _ => false)))) :: (q_24, .inl (g.2.1 0, 100, .inl (nA (fun _ => 0)))) :: (q_16, .inl (g.2.1 0, 100, .inl (nA (fun _ => 0)))) :: (q_8, .inl (g.2.1 0, 4000, .inl (nA (fun _ => 0)))) :: (th, .inr (7, [.ref q_8, .ref q_16, .ref q_24, .ref q_32, .int (-1), .int (nI 0), .int (nI 0), .int (nI 0)])) :: R) F hS hG hW nX10_init_X10 4 rfl rfl 5 (by decide) tyX10 tyX10_ok nmX10 mX10_init_8 rfl rfl rfl rfl (Nat.le_of_ble_eq_true rfl) rfl dX10_init_44 (fun H locs hW hS => ?_)
  refine lv_aload_n F.1 F.2.1 dX10_init_47 rfl (lv_at hl 0 rfl) ?_
  refine lv_iconst (v := -1) F.1 F.2.1 dX10_init_48 rfl ?_
  refine gPut (w2 := (q_32, .inl (g.2.1 1, 100, .inl (bA (fun _ => false)))) :: (q_24, .inl (g.2.1 0, 100, .inl (nA (fun _ => 0)))) :: (q_16, .inl (g.2.1 0, 100, .inl (nA (fun _ => 0)))) :: (q_8, .inl (g.2.1 0, 4000, .inl (nA (fun _ => 0)))) :: (th, .inr (7, [.ref q_8, .ref q_16, .ref q_24, .ref q_32, .int (-1), .int (nI 0), .int (-1), .int (nI 0)])) :: R) F hS hG hW nX10_init_X10 4 rfl rfl 6 (by decide) tyX10 tyX10_ok nmX10 mX10_init_9 rfl rfl rfl rfl (Nat.le_of_ble_eq_true rfl) rfl dX10_init_49 (fun H locs hW hS => ?_)
  refine lv_aload_n F.1 F.2.1 dX10_init_52 rfl (lv_at hl 0 rfl) ?_
  refine lv_iconst (v := nI 0) F.1 F.2.1 dX10_init_53 rfl ?_
  refine gPut (w2 := (q_32, .inl (g.2.1 1, 100, .inl (bA (fun _ => false)))) :: (q_24, .inl (g.2.1 0, 100, .inl (nA (fun _ => 0)))) :: (q_16, .inl (g.2.1 0, 100, .inl (nA (fun _ => 0)))) :: (q_8, .inl (g.2.1 0, 4000, .inl (nA (fun _ => 0)))) :: (th, .inr (7, [.ref q_8, .ref q_16, .ref q_24, .ref q_32, .int (-1), .int (nI 0), .int (-1), .int (nI 0)])) :: R) F hS hG hW nX10_init_X10 4 rfl rfl 7 (by decide) tyX10 tyX10_ok nmX10 mX10_init_10 rfl rfl rfl rfl (Nat.le_of_ble_eq_true rfl) rfl dX10_init_54 (fun H locs hW hS => ?_)
  have hW := gW.re (l := [(q_32, .inl (g.2.1 1, 100, .inl (bA (fun _ => false)))), (q_24, .inl (g.2.1 0, 100, .inl (nA (fun _ => 0)))), (q_16, .inl (g.2.1 0, 100, .inl (nA (fun _ => 0)))), (q_8, .inl (g.2.1 0, 4000, .inl (nA (fun _ => 0)))), (th, .inr (7, [.ref q_8, .ref q_16, .ref q_24, .ref q_32, .int (-1), .int (nI 0), .int (-1), .int (nI 0)]))]) (l' := [(th, .inr (7, [.ref q_8, .ref q_16, .ref q_24, .ref q_32, .int (-1), .int (nI 0), .int (-1), .int (nI 0)])), (q_8, .inl (g.2.1 0, 4000, .inl (nA (fun _ => 0)))), (q_16, .inl (g.2.1 0, 100, .inl (nA (fun _ => 0)))), (q_24, .inl (g.2.1 0, 100, .inl (nA (fun _ => 0)))), (q_32, .inl (g.2.1 1, 100, .inl (bA (fun _ => false))))]) (R := R) hW [4, 3, 2, 1, 0] 5 rfl (by decide) rfl
  have hW : gW g ((th, .inr (7, [.ref q_8, .ref q_16, .ref q_24, .ref q_32, .int (-1), .int (nI 0), .int (-1), .int (nI 0)])) :: (q_8, .inl (g.2.1 0, 4000, .inl (nA (fun _ => 0)))) :: (q_16, .inl (g.2.1 0, 100, .inl (nA (fun _ => 0)))) :: (q_24, .inl (g.2.1 0, 100, .inl (nA (fun _ => 0)))) :: (q_32, .inl (g.2.1 1, 100, .inl (bA (fun _ => false)))) :: R) _ := hW
  refine gRv F hW hS dX10_init_57 ?_
  exact ⟨q_8, q_16, q_24, q_32, rfl⟩

abbrev rm_X6_init : Room := ({ frames := 1, cells := 6, slots := 440, locals := 12 } : Room)
theorem mX6_init_1 : Cond.methodLink RX6 3 objectInit ∈ wsX6_init := List.mem_of_getElem? (i := 1) rfl
theorem mX6_init_2 : Cond.instanceMethod objectInit ∈ wsX6_init := List.mem_of_getElem? (i := 2) rfl
theorem mX6_init_3 : Cond.code objectInit ⟨#[0xb1]⟩ 1 none ∈ wsX6_init := List.mem_of_getElem? (i := 3) rfl
theorem mX6_init_4 : Cond.arrayClass .int ∈ wsX6_init := List.mem_of_getElem? (i := 4) rfl
theorem mX6_init_5 : Cond.fieldLink RX6 9 "StepperHearts$Machine" "numbers" "[I" ∈ wsX6_init := List.mem_of_getElem? (i := 5) rfl
theorem nX6_init_X6 : ∀ w ∈ wsX60, w ∈ wsX6_init := fun _ h => List.mem_cons_of_mem _ (List.mem_append_right _ (h))
theorem mX6_init_6 : Cond.fieldLink RX6 15 "StepperHearts$Machine" "cells" "[I" ∈ wsX6_init := List.mem_of_getElem? (i := 6) rfl
theorem mX6_init_7 : Cond.fieldLink RX6 18 "StepperHearts$Machine" "outs" "[I" ∈ wsX6_init := List.mem_of_getElem? (i := 7) rfl
theorem mX6_init_8 : Cond.fieldLink RX6 21 "StepperHearts$Machine" "done" "[I" ∈ wsX6_init := List.mem_of_getElem? (i := 8) rfl
theorem mX6_init_9 : Cond.fieldLink RX6 24 "StepperHearts$Machine" "followed" "[I" ∈ wsX6_init := List.mem_of_getElem? (i := 9) rfl
theorem mX6_init_10 : Cond.fieldLink RX6 27 "StepperHearts$Machine" "traceLengths" "[I" ∈ wsX6_init := List.mem_of_getElem? (i := 10) rfl
theorem mX6_init_11 : Cond.fieldLink RX6 30 "StepperHearts$Machine" "hasRun" "Z" ∈ wsX6_init := List.mem_of_getElem? (i := 11) rfl
theorem mX6_init_12 : Cond.fieldLink RX6 34 "StepperHearts$Machine" "places" "I" ∈ wsX6_init := List.mem_of_getElem? (i := 12) rfl
theorem mX6_init_13 : Cond.fieldLink RX6 38 "StepperHearts$Machine" "ending" "I" ∈ wsX6_init := List.mem_of_getElem? (i := 13) rfl
theorem mX6_init_14 : Cond.fieldLink RX6 41 "StepperHearts$Machine" "steps" "I" ∈ wsX6_init := List.mem_of_getElem? (i := 14) rfl
theorem mX6_init_15 : Cond.fieldLink RX6 44 "StepperHearts$Machine" "spent" "I" ∈ wsX6_init := List.mem_of_getElem? (i := 15) rfl
theorem mX6_init_16 : Cond.fieldLink RX6 47 "StepperHearts$Machine" "height" "I" ∈ wsX6_init := List.mem_of_getElem? (i := 16) rfl
theorem mX6_init_17 : Cond.fieldLink RX6 50 "StepperHearts$Machine" "highest" "I" ∈ wsX6_init := List.mem_of_getElem? (i := 17) rfl
theorem mX6_init_18 : Cond.fieldLink RX6 53 "StepperHearts$Machine" "outCount" "I" ∈ wsX6_init := List.mem_of_getElem? (i := 18) rfl
theorem mX6_init_19 : Cond.fieldLink RX6 56 "StepperHearts$Machine" "place" "I" ∈ wsX6_init := List.mem_of_getElem? (i := 19) rfl
theorem mX6_init_20 : Cond.fieldLink RX6 59 "StepperHearts$Machine" "formerKind" "I" ∈ wsX6_init := List.mem_of_getElem? (i := 20) rfl
theorem mX6_init_21 : Cond.fieldLink RX6 62 "StepperHearts$Machine" "traceCount" "I" ∈ wsX6_init := List.mem_of_getElem? (i := 21) rfl
set_option maxRecDepth 100000 in
set_option maxHeartbeats 4000000 in
theorem c_X6_init (g : gC) (l : Launch) {la : Nat} {R : va_W} : cV g l yX6_init wsX6_init rm_X6_init 6 440 [.ref la] ((la, .inr (3, [.null, .null, .null, .null, .null, .null, .int (bI false), .int (nI 0), .int (nI 0), .int (nI 0), .int (nI 0), .int (nI 0), .int (nI 0), .int (nI 0), .int (nI 0), .int (nI 0), .int (nI 0)])) :: R) (fun u => ∃ (a0 : Nat), ∃ (a1 : Nat), ∃ (a2 : Nat), ∃ (a3 : Nat), ∃ (a4 : Nat), ∃ (a5 : Nat), (la, .inr (3, [.ref a0, .ref a1, .ref a2, .ref a3, .ref a4, .ref a5, .int (bI false), .int (nI 0), .int (-1), .int (nI 0), .int (nI 0), .int (nI 0), .int (nI 0), .int (nI 0), .int (nI 0), .int (-1), .int (nI 0)])) :: (a0, .inl (g.2.1 0, 32, .inl (fun _ => nI 0))) :: (a1, .inl (g.2.1 0, 8, .inl (fun _ => nI 0))) :: (a2, .inl (g.2.1 0, 60, .inl (fun _ => nI 0))) :: (a3, .inl (g.2.1 0, 15, .inl (nA (fun _ => 0)))) :: (a4, .inl (g.2.1 0, 225, .inl (nA (fun _ => 0)))) :: (a5, .inl (g.2.1 0, 100, .inl (nA (fun _ => 0)))) :: R = u) := by
  refine gEnterQ (cc := cX6_init) (maxL := 1) (ret := none) (by decide +kernel) rfl (Nat.le_of_ble_eq_true rfl) ?_
  intro p e s m below meth c F hG hW ls hl
  have hS : va_S (gA g) s.heap s.heap [] := va_S.rf
  have hl : lv_has ls 1 [(0, .ref la)] := hl
  have hW : gW g ((la, .inr (3, [.null, .null, .null, .null, .null, .null, .int (bI false), .int (nI 0), .int (nI 0), .int (nI 0), .int (nI 0), .int (nI 0), .int (nI 0), .int (nI 0), .int (nI 0), .int (nI 0), .int (nI 0)])) :: R) s.heap := hW
  refine lv_aload_n F.1 F.2.1 dX6_init_0 rfl (lv_at hl 0 rfl) ?_
  refine W.objInit F.1 F.2.1 F.2.2.2.2.2.1 (F.2.2.2.2.1 _ mX6_init_1) (F.2.2.2.2.1 _ mX6_init_2) (F.2.2.2.2.1 _ mX6_init_3) rfl (hl.1.trans F.2.2.2.1.symm) rfl dX6_init_1 (Nat.le_of_ble_eq_true rfl) (Nat.le_of_ble_eq_true rfl) ?_
  refine W.eq (g2 := F0 m 4 ls []) rfl ?_
  refine lv_aload_n F.1 F.2.1 dX6_init_4 rfl (lv_at hl 0 rfl) ?_
  refine lv_bipush (v := nI 32) F.1 F.2.1 dX6_init_5 (by decide) ?_
  refine gNewIR (N := 32) (c2 := 1) (s2 := 32) F hG hS hW mX6_init_4 ⟨Nat.le_of_ble_eq_true rfl, Nat.le_of_ble_eq_true rfl⟩ ⟨rfl, rfl⟩ ⟨Nat.le_of_ble_eq_true rfl, Nat.le_of_ble_eq_true rfl⟩ dX6_init_7 (fun q_7 H hW hS => ?_)
  have hW : gW g ((q_7, .inl (g.2.1 0, 32, .inl (fun _ => nI 0))) :: (la, .inr (3, [.null, .null, .null, .null, .null, .null, .int (bI false), .int (nI 0), .int (nI 0), .int (nI 0), .int (nI 0), .int (nI 0), .int (nI 0), .int (nI 0), .int (nI 0), .int (nI 0), .int (nI 0)])) :: R) _ := hW
  refine gPutF (w2 := (q_7, .inl (g.2.1 0, 32, .inl (fun _ => nI 0))) :: (la, .inr (3, [.ref q_7, .null, .null, .null, .null, .null, .int (bI false), .int (nI 0), .int (nI 0), .int (nI 0), .int (nI 0), .int (nI 0), .int (nI 0), .int (nI 0), .int (nI 0), .int (nI 0), .int (nI 0)])) :: R) F hS hG hW nX6_init_X6 1 rfl rfl 0 (by decide) tyX6 tyX6_ok nmX6 mX6_init_5 rfl rfl rfl rfl rfl rfl (Nat.le_of_ble_eq_true rfl) rfl dX6_init_9 (fun H locs hW hS => ?_)
  refine lv_aload_n F.1 F.2.1 dX6_init_12 rfl (lv_at hl 0 rfl) ?_
  refine lv_bipush (v := nI 8) F.1 F.2.1 dX6_init_13 (by decide) ?_
  refine gNewIR (N := 8) (c2 := 2) (s2 := 40) F hG hS hW mX6_init_4 ⟨Nat.le_of_ble_eq_true rfl, Nat.le_of_ble_eq_true rfl⟩ ⟨rfl, rfl⟩ ⟨Nat.le_of_ble_eq_true rfl, Nat.le_of_ble_eq_true rfl⟩ dX6_init_15 (fun q_15 H hW hS => ?_)
  have hW : gW g ((q_15, .inl (g.2.1 0, 8, .inl (fun _ => nI 0))) :: (q_7, .inl (g.2.1 0, 32, .inl (fun _ => nI 0))) :: (la, .inr (3, [.ref q_7, .null, .null, .null, .null, .null, .int (bI false), .int (nI 0), .int (nI 0), .int (nI 0), .int (nI 0), .int (nI 0), .int (nI 0), .int (nI 0), .int (nI 0), .int (nI 0), .int (nI 0)])) :: R) _ := hW
  refine gPutF (w2 := (q_15, .inl (g.2.1 0, 8, .inl (fun _ => nI 0))) :: (q_7, .inl (g.2.1 0, 32, .inl (fun _ => nI 0))) :: (la, .inr (3, [.ref q_7, .ref q_15, .null, .null, .null, .null, .int (bI false), .int (nI 0), .int (nI 0), .int (nI 0), .int (nI 0), .int (nI 0), .int (nI 0), .int (nI 0), .int (nI 0), .int (nI 0), .int (nI 0)])) :: R) F hS hG hW nX6_init_X6 2 rfl rfl 1 (by decide) tyX6 tyX6_ok nmX6 mX6_init_6 rfl rfl rfl rfl rfl rfl (Nat.le_of_ble_eq_true rfl) rfl dX6_init_17 (fun H locs hW hS => ?_)
  refine lv_aload_n F.1 F.2.1 dX6_init_20 rfl (lv_at hl 0 rfl) ?_
  refine lv_bipush (v := nI 60) F.1 F.2.1 dX6_init_21 (by decide) ?_
  refine gNewIR (N := 60) (c2 := 3) (s2 := 100) F hG hS hW mX6_init_4 ⟨Nat.le_of_ble_eq_true rfl, Nat.le_of_ble_eq_true rfl⟩ ⟨rfl, rfl⟩ ⟨Nat.le_of_ble_eq_true rfl, Nat.le_of_ble_eq_true rfl⟩ dX6_init_23 (fun q_23 H hW hS => ?_)
  have hW : gW g ((q_23, .inl (g.2.1 0, 60, .inl (fun _ => nI 0))) :: (q_15, .inl (g.2.1 0, 8, .inl (fun _ => nI 0))) :: (q_7, .inl (g.2.1 0, 32, .inl (fun _ => nI 0))) :: (la, .inr (3, [.ref q_7, .ref q_15, .null, .null, .null, .null, .int (bI false), .int (nI 0), .int (nI 0), .int (nI 0), .int (nI 0), .int (nI 0), .int (nI 0), .int (nI 0), .int (nI 0), .int (nI 0), .int (nI 0)])) :: R) _ := hW
  refine gPutF (w2 := (q_23, .inl (g.2.1 0, 60, .inl (fun _ => nI 0))) :: (q_15, .inl (g.2.1 0, 8, .inl (fun _ => nI 0))) :: (q_7, .inl (g.2.1 0, 32, .inl (fun _ => nI 0))) :: (la, .inr (3, [.ref q_7, .ref q_15, .ref q_23, .null, .null, .null, .int (bI false), .int (nI 0), .int (nI 0), .int (nI 0), .int (nI 0), .int (nI 0), .int (nI 0), .int (nI 0), .int (nI 0), .int (nI 0), .int (nI 0)])) :: R) F hS hG hW nX6_init_X6 3 rfl rfl 2 (by decide) tyX6 tyX6_ok nmX6 mX6_init_7 rfl rfl rfl rfl rfl rfl (Nat.le_of_ble_eq_true rfl) rfl dX6_init_25 (fun H locs hW hS => ?_)
  refine lv_aload_n F.1 F.2.1 dX6_init_28 rfl (lv_at hl 0 rfl) ?_
  refine lv_bipush (v := nI 15) F.1 F.2.1 dX6_init_29 (by decide) ?_
  refine gNewI (N := 15) (c2 := 4) (s2 := 115) F hG hS hW mX6_init_4 ⟨Nat.le_of_ble_eq_true rfl, Nat.le_of_ble_eq_true rfl⟩ ⟨rfl, rfl⟩ ⟨Nat.le_of_ble_eq_true rfl, Nat.le_of_ble_eq_true rfl⟩ dX6_init_31 (fun q_31 H hW hS => ?_)
  have hW : gW g ((q_31, .inl (g.2.1 0, 15, .inl (nA (fun _ => 0)))) :: (q_23, .inl (g.2.1 0, 60, .inl (fun _ => nI 0))) :: (q_15, .inl (g.2.1 0, 8, .inl (fun _ => nI 0))) :: (q_7, .inl (g.2.1 0, 32, .inl (fun _ => nI 0))) :: (la, .inr (3, [.ref q_7, .ref q_15, .ref q_23, .null, .null, .null, .int (bI false), .int (nI 0), .int (nI 0), .int (nI 0), .int (nI 0), .int (nI 0), .int (nI 0), .int (nI 0), .int (nI 0), .int (nI 0), .int (nI 0)])) :: R) _ := hW
  refine gPutF (w2 := (q_31, .inl (g.2.1 0, 15, .inl (nA (fun _ => 0)))) :: (q_23, .inl (g.2.1 0, 60, .inl (fun _ => nI 0))) :: (q_15, .inl (g.2.1 0, 8, .inl (fun _ => nI 0))) :: (q_7, .inl (g.2.1 0, 32, .inl (fun _ => nI 0))) :: (la, .inr (3, [.ref q_7, .ref q_15, .ref q_23, .ref q_31, .null, .null, .int (bI false), .int (nI 0), .int (nI 0), .int (nI 0), .int (nI 0), .int (nI 0), .int (nI 0), .int (nI 0), .int (nI 0), .int (nI 0), .int (nI 0)])) :: R) F hS hG hW nX6_init_X6 4 rfl rfl 3 (by decide) tyX6 tyX6_ok nmX6 mX6_init_8 rfl rfl rfl rfl rfl rfl (Nat.le_of_ble_eq_true rfl) rfl dX6_init_33 (fun H locs hW hS => ?_)
  refine lv_aload_n F.1 F.2.1 dX6_init_36 rfl (lv_at hl 0 rfl) ?_
  refine lv_sipush (v := nI 225) F.1 F.2.1 dX6_init_37 (by decide) ?_
  refine gNewI (N := 225) (c2 := 5) (s2 := 340) F hG hS hW mX6_init_4 ⟨Nat.le_of_ble_eq_true rfl, Nat.le_of_ble_eq_true rfl⟩ ⟨rfl, rfl⟩ ⟨Nat.le_of_ble_eq_true rfl, Nat.le_of_ble_eq_true rfl⟩ dX6_init_40 (fun q_40 H hW hS => ?_)
  have hW : gW g ((q_40, .inl (g.2.1 0, 225, .inl (nA (fun _ => 0)))) :: (q_31, .inl (g.2.1 0, 15, .inl (nA (fun _ => 0)))) :: (q_23, .inl (g.2.1 0, 60, .inl (fun _ => nI 0))) :: (q_15, .inl (g.2.1 0, 8, .inl (fun _ => nI 0))) :: (q_7, .inl (g.2.1 0, 32, .inl (fun _ => nI 0))) :: (la, .inr (3, [.ref q_7, .ref q_15, .ref q_23, .ref q_31, .null, .null, .int (bI false), .int (nI 0), .int (nI 0), .int (nI 0), .int (nI 0), .int (nI 0), .int (nI 0), .int (nI 0), .int (nI 0), .int (nI 0), .int (nI 0)])) :: R) _ := hW
  refine gPutF (w2 := (q_40, .inl (g.2.1 0, 225, .inl (nA (fun _ => 0)))) :: (q_31, .inl (g.2.1 0, 15, .inl (nA (fun _ => 0)))) :: (q_23, .inl (g.2.1 0, 60, .inl (fun _ => nI 0))) :: (q_15, .inl (g.2.1 0, 8, .inl (fun _ => nI 0))) :: (q_7, .inl (g.2.1 0, 32, .inl (fun _ => nI 0))) :: (la, .inr (3, [.ref q_7, .ref q_15, .ref q_23, .ref q_31, .ref q_40, .null, .int (bI false), .int (nI 0), .int (nI 0), .int (nI 0), .int (nI 0), .int (nI 0), .int (nI 0), .int (nI 0), .int (nI 0), .int (nI 0), .int (nI 0)])) :: R) F hS hG hW nX6_init_X6 5 rfl rfl 4 (by decide) tyX6 tyX6_ok nmX6 mX6_init_9 rfl rfl rfl rfl rfl rfl (Nat.le_of_ble_eq_true rfl) rfl dX6_init_42 (fun H locs hW hS => ?_)
  refine lv_aload_n F.1 F.2.1 dX6_init_45 rfl (lv_at hl 0 rfl) ?_
  refine lv_bipush (v := nI 100) F.1 F.2.1 dX6_init_46 (by decide) ?_
  refine gNewI (N := 100) (c2 := 6) (s2 := 440) F hG hS hW mX6_init_4 ⟨Nat.le_of_ble_eq_true rfl, Nat.le_of_ble_eq_true rfl⟩ ⟨rfl, rfl⟩ ⟨Nat.le_of_ble_eq_true rfl, Nat.le_of_ble_eq_true rfl⟩ dX6_init_48 (fun q_48 H hW hS => ?_)
  have hW : gW g ((q_48, .inl (g.2.1 0, 100, .inl (nA (fun _ => 0)))) :: (q_40, .inl (g.2.1 0, 225, .inl (nA (fun _ => 0)))) :: (q_31, .inl (g.2.1 0, 15, .inl (nA (fun _ => 0)))) :: (q_23, .inl (g.2.1 0, 60, .inl (fun _ => nI 0))) :: (q_15, .inl (g.2.1 0, 8, .inl (fun _ => nI 0))) :: (q_7, .inl (g.2.1 0, 32, .inl (fun _ => nI 0))) :: (la, .inr (3, [.ref q_7, .ref q_15, .ref q_23, .ref q_31, .ref q_40, .null, .int (bI false), .int (nI 0), .int (nI 0), .int (nI 0), .int (nI 0), .int (nI 0), .int (nI 0), .int (nI 0), .int (nI 0), .int (nI 0), .int (nI 0)])) :: R) _ := hW
  refine gPutF (w2 := (q_48, .inl (g.2.1 0, 100, .inl (nA (fun _ => 0)))) :: (q_40, .inl (g.2.1 0, 225, .inl (nA (fun _ => 0)))) :: (q_31, .inl (g.2.1 0, 15, .inl (nA (fun _ => 0)))) :: (q_23, .inl (g.2.1 0, 60, .inl (fun _ => nI 0))) :: (q_15, .inl (g.2.1 0, 8, .inl (fun _ => nI 0))) :: (q_7, .inl (g.2.1 0, 32, .inl (fun _ => nI 0))) :: (la, .inr (3, [.ref q_7, .ref q_15, .ref q_23, .ref q_31, .ref q_40, .ref q_48, .int (bI false), .int (nI 0), .int (nI 0), .int (nI 0), .int (nI 0), .int (nI 0), .int (nI 0), .int (nI 0), .int (nI 0), .int (nI 0), .int (nI 0)])) :: R) F hS hG hW nX6_init_X6 6 rfl rfl 5 (by decide) tyX6 tyX6_ok nmX6 mX6_init_10 rfl rfl rfl rfl rfl rfl (Nat.le_of_ble_eq_true rfl) rfl dX6_init_50 (fun H locs hW hS => ?_)
  refine lv_aload_n F.1 F.2.1 dX6_init_53 rfl (lv_at hl 0 rfl) ?_
  refine lv_iconst (v := nI 0) F.1 F.2.1 dX6_init_54 rfl ?_
  refine gPut (w2 := (q_48, .inl (g.2.1 0, 100, .inl (nA (fun _ => 0)))) :: (q_40, .inl (g.2.1 0, 225, .inl (nA (fun _ => 0)))) :: (q_31, .inl (g.2.1 0, 15, .inl (nA (fun _ => 0)))) :: (q_23, .inl (g.2.1 0, 60, .inl (fun _ => nI 0))) :: (q_15, .inl (g.2.1 0, 8, .inl (fun _ => nI 0))) :: (q_7, .inl (g.2.1 0, 32, .inl (fun _ => nI 0))) :: (la, .inr (3, [.ref q_7, .ref q_15, .ref q_23, .ref q_31, .ref q_40, .ref q_48, .int (nI 0), .int (nI 0), .int (nI 0), .int (nI 0), .int (nI 0), .int (nI 0), .int (nI 0), .int (nI 0), .int (nI 0), .int (nI 0), .int (nI 0)])) :: R) F hS hG hW nX6_init_X6 6 rfl rfl 6 (by decide) tyX6 tyX6_ok nmX6 mX6_init_11 rfl rfl rfl rfl (Nat.le_of_ble_eq_true rfl) rfl dX6_init_55 (fun H locs hW hS => ?_)
  refine lv_aload_n F.1 F.2.1 dX6_init_58 rfl (lv_at hl 0 rfl) ?_
  refine lv_iconst (v := nI 0) F.1 F.2.1 dX6_init_59 rfl ?_
  refine gPut (w2 := (q_48, .inl (g.2.1 0, 100, .inl (nA (fun _ => 0)))) :: (q_40, .inl (g.2.1 0, 225, .inl (nA (fun _ => 0)))) :: (q_31, .inl (g.2.1 0, 15, .inl (nA (fun _ => 0)))) :: (q_23, .inl (g.2.1 0, 60, .inl (fun _ => nI 0))) :: (q_15, .inl (g.2.1 0, 8, .inl (fun _ => nI 0))) :: (q_7, .inl (g.2.1 0, 32, .inl (fun _ => nI 0))) :: (la, .inr (3, [.ref q_7, .ref q_15, .ref q_23, .ref q_31, .ref q_40, .ref q_48, .int (nI 0), .int (nI 0), .int (nI 0), .int (nI 0), .int (nI 0), .int (nI 0), .int (nI 0), .int (nI 0), .int (nI 0), .int (nI 0), .int (nI 0)])) :: R) F hS hG hW nX6_init_X6 6 rfl rfl 7 (by decide) tyX6 tyX6_ok nmX6 mX6_init_12 rfl rfl rfl rfl (Nat.le_of_ble_eq_true rfl) rfl dX6_init_60 (fun H locs hW hS => ?_)
  refine lv_aload_n F.1 F.2.1 dX6_init_63 rfl (lv_at hl 0 rfl) ?_
  refine lv_iconst (v := -1) F.1 F.2.1 dX6_init_64 rfl ?_
  refine gPut (w2 := (q_48, .inl (g.2.1 0, 100, .inl (nA (fun _ => 0)))) :: (q_40, .inl (g.2.1 0, 225, .inl (nA (fun _ => 0)))) :: (q_31, .inl (g.2.1 0, 15, .inl (nA (fun _ => 0)))) :: (q_23, .inl (g.2.1 0, 60, .inl (fun _ => nI 0))) :: (q_15, .inl (g.2.1 0, 8, .inl (fun _ => nI 0))) :: (q_7, .inl (g.2.1 0, 32, .inl (fun _ => nI 0))) :: (la, .inr (3, [.ref q_7, .ref q_15, .ref q_23, .ref q_31, .ref q_40, .ref q_48, .int (nI 0), .int (nI 0), .int (-1), .int (nI 0), .int (nI 0), .int (nI 0), .int (nI 0), .int (nI 0), .int (nI 0), .int (nI 0), .int (nI 0)])) :: R) F hS hG hW nX6_init_X6 6 rfl rfl 8 (by decide) tyX6 tyX6_ok nmX6 mX6_init_13 rfl rfl rfl rfl (Nat.le_of_ble_eq_true rfl) rfl dX6_init_65 (fun H locs hW hS => ?_)
  refine lv_aload_n F.1 F.2.1 dX6_init_68 rfl (lv_at hl 0 rfl) ?_
  refine lv_iconst (v := nI 0) F.1 F.2.1 dX6_init_69 rfl ?_
  refine gPut (w2 := (q_48, .inl (g.2.1 0, 100, .inl (nA (fun _ => 0)))) :: (q_40, .inl (g.2.1 0, 225, .inl (nA (fun _ => 0)))) :: (q_31, .inl (g.2.1 0, 15, .inl (nA (fun _ => 0)))) :: (q_23, .inl (g.2.1 0, 60, .inl (fun _ => nI 0))) :: (q_15, .inl (g.2.1 0, 8, .inl (fun _ => nI 0))) :: (q_7, .inl (g.2.1 0, 32, .inl (fun _ => nI 0))) :: (la, .inr (3, [.ref q_7, .ref q_15, .ref q_23, .ref q_31, .ref q_40, .ref q_48, .int (nI 0), .int (nI 0), .int (-1), .int (nI 0), .int (nI 0), .int (nI 0), .int (nI 0), .int (nI 0), .int (nI 0), .int (nI 0), .int (nI 0)])) :: R) F hS hG hW nX6_init_X6 6 rfl rfl 9 (by decide) tyX6 tyX6_ok nmX6 mX6_init_14 rfl rfl rfl rfl (Nat.le_of_ble_eq_true rfl) rfl dX6_init_70 (fun H locs hW hS => ?_)
  refine lv_aload_n F.1 F.2.1 dX6_init_73 rfl (lv_at hl 0 rfl) ?_
  refine lv_iconst (v := nI 0) F.1 F.2.1 dX6_init_74 rfl ?_
  refine gPut (w2 := (q_48, .inl (g.2.1 0, 100, .inl (nA (fun _ => 0)))) :: (q_40, .inl (g.2.1 0, 225, .inl (nA (fun _ => 0)))) :: (q_31, .inl (g.2.1 0, 15, .inl (nA (fun _ => 0)))) :: (q_23, .inl (g.2.1 0, 60, .inl (fun _ => nI 0))) :: (q_15, .inl (g.2.1 0, 8, .inl (fun _ => nI 0))) :: (q_7, .inl (g.2.1 0, 32, .inl (fun _ => nI 0))) :: (la, .inr (3, [.ref q_7, .ref q_15, .ref q_23, .ref q_31, .ref q_40, .ref q_48, .int (nI 0), .int (nI 0), .int (-1), .int (nI 0), .int (nI 0), .int (nI 0), .int (nI 0), .int (nI 0), .int (nI 0), .int (nI 0), .int (nI 0)])) :: R) F hS hG hW nX6_init_X6 6 rfl rfl 10 (by decide) tyX6 tyX6_ok nmX6 mX6_init_15 rfl rfl rfl rfl (Nat.le_of_ble_eq_true rfl) rfl dX6_init_75 (fun H locs hW hS => ?_)
  refine lv_aload_n F.1 F.2.1 dX6_init_78 rfl (lv_at hl 0 rfl) ?_
  refine lv_iconst (v := nI 0) F.1 F.2.1 dX6_init_79 rfl ?_
  refine gPut (w2 := (q_48, .inl (g.2.1 0, 100, .inl (nA (fun _ => 0)))) :: (q_40, .inl (g.2.1 0, 225, .inl (nA (fun _ => 0)))) :: (q_31, .inl (g.2.1 0, 15, .inl (nA (fun _ => 0)))) :: (q_23, .inl (g.2.1 0, 60, .inl (fun _ => nI 0))) :: (q_15, .inl (g.2.1 0, 8, .inl (fun _ => nI 0))) :: (q_7, .inl (g.2.1 0, 32, .inl (fun _ => nI 0))) :: (la, .inr (3, [.ref q_7, .ref q_15, .ref q_23, .ref q_31, .ref q_40, .ref q_48, .int (nI 0), .int (nI 0), .int (-1), .int (nI 0), .int (nI 0), .int (nI 0), .int (nI 0), .int (nI 0), .int (nI 0), .int (nI 0), .int (nI 0)])) :: R) F hS hG hW nX6_init_X6 6 rfl rfl 11 (by decide) tyX6 tyX6_ok nmX6 mX6_init_16 rfl rfl rfl rfl (Nat.le_of_ble_eq_true rfl) rfl dX6_init_80 (fun H locs hW hS => ?_)
  refine lv_aload_n F.1 F.2.1 dX6_init_83 rfl (lv_at hl 0 rfl) ?_
  refine lv_iconst (v := nI 0) F.1 F.2.1 dX6_init_84 rfl ?_
  refine gPut (w2 := (q_48, .inl (g.2.1 0, 100, .inl (nA (fun _ => 0)))) :: (q_40, .inl (g.2.1 0, 225, .inl (nA (fun _ => 0)))) :: (q_31, .inl (g.2.1 0, 15, .inl (nA (fun _ => 0)))) :: (q_23, .inl (g.2.1 0, 60, .inl (fun _ => nI 0))) :: (q_15, .inl (g.2.1 0, 8, .inl (fun _ => nI 0))) :: (q_7, .inl (g.2.1 0, 32, .inl (fun _ => nI 0))) :: (la, .inr (3, [.ref q_7, .ref q_15, .ref q_23, .ref q_31, .ref q_40, .ref q_48, .int (nI 0), .int (nI 0), .int (-1), .int (nI 0), .int (nI 0), .int (nI 0), .int (nI 0), .int (nI 0), .int (nI 0), .int (nI 0), .int (nI 0)])) :: R) F hS hG hW nX6_init_X6 6 rfl rfl 12 (by decide) tyX6 tyX6_ok nmX6 mX6_init_17 rfl rfl rfl rfl (Nat.le_of_ble_eq_true rfl) rfl dX6_init_85 (fun H locs hW hS => ?_)
  refine lv_aload_n F.1 F.2.1 dX6_init_88 rfl (lv_at hl 0 rfl) ?_
  refine lv_iconst (v := nI 0) F.1 F.2.1 dX6_init_89 rfl ?_
  refine gPut (w2 := (q_48, .inl (g.2.1 0, 100, .inl (nA (fun _ => 0)))) :: (q_40, .inl (g.2.1 0, 225, .inl (nA (fun _ => 0)))) :: (q_31, .inl (g.2.1 0, 15, .inl (nA (fun _ => 0)))) :: (q_23, .inl (g.2.1 0, 60, .inl (fun _ => nI 0))) :: (q_15, .inl (g.2.1 0, 8, .inl (fun _ => nI 0))) :: (q_7, .inl (g.2.1 0, 32, .inl (fun _ => nI 0))) :: (la, .inr (3, [.ref q_7, .ref q_15, .ref q_23, .ref q_31, .ref q_40, .ref q_48, .int (nI 0), .int (nI 0), .int (-1), .int (nI 0), .int (nI 0), .int (nI 0), .int (nI 0), .int (nI 0), .int (nI 0), .int (nI 0), .int (nI 0)])) :: R) F hS hG hW nX6_init_X6 6 rfl rfl 13 (by decide) tyX6 tyX6_ok nmX6 mX6_init_18 rfl rfl rfl rfl (Nat.le_of_ble_eq_true rfl) rfl dX6_init_90 (fun H locs hW hS => ?_)
  refine lv_aload_n F.1 F.2.1 dX6_init_93 rfl (lv_at hl 0 rfl) ?_
  refine lv_iconst (v := nI 0) F.1 F.2.1 dX6_init_94 rfl ?_
  refine gPut (w2 := (q_48, .inl (g.2.1 0, 100, .inl (nA (fun _ => 0)))) :: (q_40, .inl (g.2.1 0, 225, .inl (nA (fun _ => 0)))) :: (q_31, .inl (g.2.1 0, 15, .inl (nA (fun _ => 0)))) :: (q_23, .inl (g.2.1 0, 60, .inl (fun _ => nI 0))) :: (q_15, .inl (g.2.1 0, 8, .inl (fun _ => nI 0))) :: (q_7, .inl (g.2.1 0, 32, .inl (fun _ => nI 0))) :: (la, .inr (3, [.ref q_7, .ref q_15, .ref q_23, .ref q_31, .ref q_40, .ref q_48, .int (nI 0), .int (nI 0), .int (-1), .int (nI 0), .int (nI 0), .int (nI 0), .int (nI 0), .int (nI 0), .int (nI 0), .int (nI 0), .int (nI 0)])) :: R) F hS hG hW nX6_init_X6 6 rfl rfl 14 (by decide) tyX6 tyX6_ok nmX6 mX6_init_19 rfl rfl rfl rfl (Nat.le_of_ble_eq_true rfl) rfl dX6_init_95 (fun H locs hW hS => ?_)
  refine lv_aload_n F.1 F.2.1 dX6_init_98 rfl (lv_at hl 0 rfl) ?_
  refine lv_iconst (v := -1) F.1 F.2.1 dX6_init_99 rfl ?_
  refine gPut (w2 := (q_48, .inl (g.2.1 0, 100, .inl (nA (fun _ => 0)))) :: (q_40, .inl (g.2.1 0, 225, .inl (nA (fun _ => 0)))) :: (q_31, .inl (g.2.1 0, 15, .inl (nA (fun _ => 0)))) :: (q_23, .inl (g.2.1 0, 60, .inl (fun _ => nI 0))) :: (q_15, .inl (g.2.1 0, 8, .inl (fun _ => nI 0))) :: (q_7, .inl (g.2.1 0, 32, .inl (fun _ => nI 0))) :: (la, .inr (3, [.ref q_7, .ref q_15, .ref q_23, .ref q_31, .ref q_40, .ref q_48, .int (nI 0), .int (nI 0), .int (-1), .int (nI 0), .int (nI 0), .int (nI 0), .int (nI 0), .int (nI 0), .int (nI 0), .int (-1), .int (nI 0)])) :: R) F hS hG hW nX6_init_X6 6 rfl rfl 15 (by decide) tyX6 tyX6_ok nmX6 mX6_init_20 rfl rfl rfl rfl (Nat.le_of_ble_eq_true rfl) rfl dX6_init_100 (fun H locs hW hS => ?_)
  refine lv_aload_n F.1 F.2.1 dX6_init_103 rfl (lv_at hl 0 rfl) ?_
  refine lv_iconst (v := nI 0) F.1 F.2.1 dX6_init_104 rfl ?_
  refine gPut (w2 := (q_48, .inl (g.2.1 0, 100, .inl (nA (fun _ => 0)))) :: (q_40, .inl (g.2.1 0, 225, .inl (nA (fun _ => 0)))) :: (q_31, .inl (g.2.1 0, 15, .inl (nA (fun _ => 0)))) :: (q_23, .inl (g.2.1 0, 60, .inl (fun _ => nI 0))) :: (q_15, .inl (g.2.1 0, 8, .inl (fun _ => nI 0))) :: (q_7, .inl (g.2.1 0, 32, .inl (fun _ => nI 0))) :: (la, .inr (3, [.ref q_7, .ref q_15, .ref q_23, .ref q_31, .ref q_40, .ref q_48, .int (nI 0), .int (nI 0), .int (-1), .int (nI 0), .int (nI 0), .int (nI 0), .int (nI 0), .int (nI 0), .int (nI 0), .int (-1), .int (nI 0)])) :: R) F hS hG hW nX6_init_X6 6 rfl rfl 16 (by decide) tyX6 tyX6_ok nmX6 mX6_init_21 rfl rfl rfl rfl (Nat.le_of_ble_eq_true rfl) rfl dX6_init_105 (fun H locs hW hS => ?_)
  have hW := gW.re (l := [(q_48, .inl (g.2.1 0, 100, .inl (nA (fun _ => 0)))), (q_40, .inl (g.2.1 0, 225, .inl (nA (fun _ => 0)))), (q_31, .inl (g.2.1 0, 15, .inl (nA (fun _ => 0)))), (q_23, .inl (g.2.1 0, 60, .inl (fun _ => nI 0))), (q_15, .inl (g.2.1 0, 8, .inl (fun _ => nI 0))), (q_7, .inl (g.2.1 0, 32, .inl (fun _ => nI 0))), (la, .inr (3, [.ref q_7, .ref q_15, .ref q_23, .ref q_31, .ref q_40, .ref q_48, .int (nI 0), .int (nI 0), .int (-1), .int (nI 0), .int (nI 0), .int (nI 0), .int (nI 0), .int (nI 0), .int (nI 0), .int (-1), .int (nI 0)]))]) (l' := [(la, .inr (3, [.ref q_7, .ref q_15, .ref q_23, .ref q_31, .ref q_40, .ref q_48, .int (nI 0), .int (nI 0), .int (-1), .int (nI 0), .int (nI 0), .int (nI 0), .int (nI 0), .int (nI 0), .int (nI 0), .int (-1), .int (nI 0)])), (q_7, .inl (g.2.1 0, 32, .inl (fun _ => nI 0))), (q_15, .inl (g.2.1 0, 8, .inl (fun _ => nI 0))), (q_23, .inl (g.2.1 0, 60, .inl (fun _ => nI 0))), (q_31, .inl (g.2.1 0, 15, .inl (nA (fun _ => 0)))), (q_40, .inl (g.2.1 0, 225, .inl (nA (fun _ => 0)))), (q_48, .inl (g.2.1 0, 100, .inl (nA (fun _ => 0))))]) (R := R) hW [6, 5, 4, 3, 2, 1, 0] 7 rfl (by decide) rfl
  have hW : gW g ((la, .inr (3, [.ref q_7, .ref q_15, .ref q_23, .ref q_31, .ref q_40, .ref q_48, .int (nI 0), .int (nI 0), .int (-1), .int (nI 0), .int (nI 0), .int (nI 0), .int (nI 0), .int (nI 0), .int (nI 0), .int (-1), .int (nI 0)])) :: (q_7, .inl (g.2.1 0, 32, .inl (fun _ => nI 0))) :: (q_15, .inl (g.2.1 0, 8, .inl (fun _ => nI 0))) :: (q_23, .inl (g.2.1 0, 60, .inl (fun _ => nI 0))) :: (q_31, .inl (g.2.1 0, 15, .inl (nA (fun _ => 0)))) :: (q_40, .inl (g.2.1 0, 225, .inl (nA (fun _ => 0)))) :: (q_48, .inl (g.2.1 0, 100, .inl (nA (fun _ => 0)))) :: R) _ := hW
  refine gRv F hW hS dX6_init_108 ?_
  exact ⟨q_7, q_15, q_23, q_31, q_40, q_48, rfl⟩

abbrev rm_X12_init : Room := ({ frames := 1, cells := 7, slots := 703, locals := 12 } : Room)
theorem mX12_init_1 : Cond.methodLink RX12 3 objectInit ∈ wsX12_init := List.mem_of_getElem? (i := 1) rfl
theorem mX12_init_2 : Cond.instanceMethod objectInit ∈ wsX12_init := List.mem_of_getElem? (i := 2) rfl
theorem mX12_init_3 : Cond.code objectInit ⟨#[0xb1]⟩ 1 none ∈ wsX12_init := List.mem_of_getElem? (i := 3) rfl
theorem mX12_init_4 : Cond.arrayClass .int ∈ wsX12_init := List.mem_of_getElem? (i := 4) rfl
theorem mX12_init_5 : Cond.fieldLink RX12 9 "StepperHeartsModel$Program" "kind" "[I" ∈ wsX12_init := List.mem_of_getElem? (i := 5) rfl
theorem nX12_init_X12 : ∀ w ∈ wsX120, w ∈ wsX12_init := fun _ h => List.mem_cons_of_mem _ (List.mem_append_right _ (h))
theorem mX12_init_6 : Cond.fieldLink RX12 15 "StepperHeartsModel$Program" "value" "[I" ∈ wsX12_init := List.mem_of_getElem? (i := 6) rfl
theorem mX12_init_7 : Cond.fieldLink RX12 18 "StepperHeartsModel$Program" "place" "[I" ∈ wsX12_init := List.mem_of_getElem? (i := 7) rfl
theorem mX12_init_8 : Cond.fieldLink RX12 21 "StepperHeartsModel$Program" "markAt" "[I" ∈ wsX12_init := List.mem_of_getElem? (i := 8) rfl
theorem mX12_init_9 : Cond.arrayClass .long ∈ wsX12_init := List.mem_of_getElem? (i := 9) rfl
theorem mX12_init_10 : Cond.fieldLink RX12 24 "StepperHeartsModel$Program" "target" "[J" ∈ wsX12_init := List.mem_of_getElem? (i := 10) rfl
theorem mX12_init_11 : Cond.fieldLink RX12 28 "StepperHeartsModel$Program" "mark" "[J" ∈ wsX12_init := List.mem_of_getElem? (i := 11) rfl
theorem mX12_init_12 : Cond.arrayClass .boolean ∈ wsX12_init := List.mem_of_getElem? (i := 12) rfl
theorem mX12_init_13 : Cond.fieldLink RX12 31 "StepperHeartsModel$Program" "isMarked" "[Z" ∈ wsX12_init := List.mem_of_getElem? (i := 13) rfl
set_option maxRecDepth 100000 in
set_option maxHeartbeats 4000000 in
theorem c_X12_init (g : gC) (l : Launch) {hp : Nat} {R : va_W} : cV g l yX12_init wsX12_init rm_X12_init 7 703 [.ref hp] ((hp, .inr (9, [.int (nI 0), .int (nI 0), .null, .null, .null, .null, .null, .null, .null])) :: R) (fun u => ∃ (pk : Nat), ∃ (pv : Nat), ∃ (pl : Nat), ∃ (pa : Nat), ∃ (pt : Nat), ∃ (pm : Nat), ∃ (pi : Nat), (hp, .inr (9, [.int (nI 0), .int (nI 0), .ref pk, .ref pv, .ref pl, .ref pa, .ref pt, .ref pm, .ref pi])) :: (pk, .inl (g.2.1 0, 100, .inl (nA (fun _ => 0)))) :: (pv, .inl (g.2.1 0, 100, .inl (nA (fun _ => 0)))) :: (pl, .inl (g.2.1 0, 100, .inl (nA (fun _ => 0)))) :: (pa, .inl (g.2.1 0, 101, .inl (nA (fun _ => 0)))) :: (pt, .inl (g.2.1 2, 100, .inr (.inl (lA (fun _ => 0))))) :: (pm, .inl (g.2.1 2, 101, .inr (.inl (lA (fun _ => 0))))) :: (pi, .inl (g.2.1 1, 101, .inl (bA (fun _ => false)))) :: R = u) := by
  refine gEnterQ (cc := cX12_init) (maxL := 1) (ret := none) (by decide +kernel) rfl (Nat.le_of_ble_eq_true rfl) ?_
  intro p e s m below meth c F hG hW ls hl
  have hS : va_S (gA g) s.heap s.heap [] := va_S.rf
  have hl : lv_has ls 1 [(0, .ref hp)] := hl
  have hW : gW g ((hp, .inr (9, [.int (nI 0), .int (nI 0), .null, .null, .null, .null, .null, .null, .null])) :: R) s.heap := hW
  refine lv_aload_n F.1 F.2.1 dX12_init_0 rfl (lv_at hl 0 rfl) ?_
  refine W.objInit F.1 F.2.1 F.2.2.2.2.2.1 (F.2.2.2.2.1 _ mX12_init_1) (F.2.2.2.2.1 _ mX12_init_2) (F.2.2.2.2.1 _ mX12_init_3) rfl (hl.1.trans F.2.2.2.1.symm) rfl dX12_init_1 (Nat.le_of_ble_eq_true rfl) (Nat.le_of_ble_eq_true rfl) ?_
  refine W.eq (g2 := F0 m 4 ls []) rfl ?_
  refine lv_aload_n F.1 F.2.1 dX12_init_4 rfl (lv_at hl 0 rfl) ?_
  refine lv_bipush (v := nI 100) F.1 F.2.1 dX12_init_5 (by decide) ?_
  refine gNewI (N := 100) (c2 := 1) (s2 := 100) F hG hS hW mX12_init_4 ⟨Nat.le_of_ble_eq_true rfl, Nat.le_of_ble_eq_true rfl⟩ ⟨rfl, rfl⟩ ⟨Nat.le_of_ble_eq_true rfl, Nat.le_of_ble_eq_true rfl⟩ dX12_init_7 (fun q_7 H hW hS => ?_)
  have hW : gW g ((q_7, .inl (g.2.1 0, 100, .inl (nA (fun _ => 0)))) :: (hp, .inr (9, [.int (nI 0), .int (nI 0), .null, .null, .null, .null, .null, .null, .null])) :: R) _ := hW
  refine gPutF (w2 := (q_7, .inl (g.2.1 0, 100, .inl (nA (fun _ => 0)))) :: (hp, .inr (9, [.int (nI 0), .int (nI 0), .ref q_7, .null, .null, .null, .null, .null, .null])) :: R) F hS hG hW nX12_init_X12 1 rfl rfl 2 (by decide) tyX12 tyX12_ok nmX12 mX12_init_5 rfl rfl rfl rfl rfl rfl (Nat.le_of_ble_eq_true rfl) rfl dX12_init_9 (fun H locs hW hS => ?_)
  refine lv_aload_n F.1 F.2.1 dX12_init_12 rfl (lv_at hl 0 rfl) ?_
  refine lv_bipush (v := nI 100) F.1 F.2.1 dX12_init_13 (by decide) ?_
  refine gNewI (N := 100) (c2 := 2) (s2 := 200) F hG hS hW mX12_init_4 ⟨Nat.le_of_ble_eq_true rfl, Nat.le_of_ble_eq_true rfl⟩ ⟨rfl, rfl⟩ ⟨Nat.le_of_ble_eq_true rfl, Nat.le_of_ble_eq_true rfl⟩ dX12_init_15 (fun q_15 H hW hS => ?_)
  have hW : gW g ((q_15, .inl (g.2.1 0, 100, .inl (nA (fun _ => 0)))) :: (q_7, .inl (g.2.1 0, 100, .inl (nA (fun _ => 0)))) :: (hp, .inr (9, [.int (nI 0), .int (nI 0), .ref q_7, .null, .null, .null, .null, .null, .null])) :: R) _ := hW
  refine gPutF (w2 := (q_15, .inl (g.2.1 0, 100, .inl (nA (fun _ => 0)))) :: (q_7, .inl (g.2.1 0, 100, .inl (nA (fun _ => 0)))) :: (hp, .inr (9, [.int (nI 0), .int (nI 0), .ref q_7, .ref q_15, .null, .null, .null, .null, .null])) :: R) F hS hG hW nX12_init_X12 2 rfl rfl 3 (by decide) tyX12 tyX12_ok nmX12 mX12_init_6 rfl rfl rfl rfl rfl rfl (Nat.le_of_ble_eq_true rfl) rfl dX12_init_17 (fun H locs hW hS => ?_)
  refine lv_aload_n F.1 F.2.1 dX12_init_20 rfl (lv_at hl 0 rfl) ?_
  refine lv_bipush (v := nI 100) F.1 F.2.1 dX12_init_21 (by decide) ?_
  refine gNewI (N := 100) (c2 := 3) (s2 := 300) F hG hS hW mX12_init_4 ⟨Nat.le_of_ble_eq_true rfl, Nat.le_of_ble_eq_true rfl⟩ ⟨rfl, rfl⟩ ⟨Nat.le_of_ble_eq_true rfl, Nat.le_of_ble_eq_true rfl⟩ dX12_init_23 (fun q_23 H hW hS => ?_)
  have hW : gW g ((q_23, .inl (g.2.1 0, 100, .inl (nA (fun _ => 0)))) :: (q_15, .inl (g.2.1 0, 100, .inl (nA (fun _ => 0)))) :: (q_7, .inl (g.2.1 0, 100, .inl (nA (fun _ => 0)))) :: (hp, .inr (9, [.int (nI 0), .int (nI 0), .ref q_7, .ref q_15, .null, .null, .null, .null, .null])) :: R) _ := hW
  refine gPutF (w2 := (q_23, .inl (g.2.1 0, 100, .inl (nA (fun _ => 0)))) :: (q_15, .inl (g.2.1 0, 100, .inl (nA (fun _ => 0)))) :: (q_7, .inl (g.2.1 0, 100, .inl (nA (fun _ => 0)))) :: (hp, .inr (9, [.int (nI 0), .int (nI 0), .ref q_7, .ref q_15, .ref q_23, .null, .null, .null, .null])) :: R) F hS hG hW nX12_init_X12 3 rfl rfl 4 (by decide) tyX12 tyX12_ok nmX12 mX12_init_7 rfl rfl rfl rfl rfl rfl (Nat.le_of_ble_eq_true rfl) rfl dX12_init_25 (fun H locs hW hS => ?_)
  refine lv_aload_n F.1 F.2.1 dX12_init_28 rfl (lv_at hl 0 rfl) ?_
  refine lv_bipush (v := nI 101) F.1 F.2.1 dX12_init_29 (by decide) ?_
  refine gNewI (N := 101) (c2 := 4) (s2 := 401) F hG hS hW mX12_init_4 ⟨Nat.le_of_ble_eq_true rfl, Nat.le_of_ble_eq_true rfl⟩ ⟨rfl, rfl⟩ ⟨Nat.le_of_ble_eq_true rfl, Nat.le_of_ble_eq_true rfl⟩ dX12_init_31 (fun q_31 H hW hS => ?_)
  have hW : gW g ((q_31, .inl (g.2.1 0, 101, .inl (nA (fun _ => 0)))) :: (q_23, .inl (g.2.1 0, 100, .inl (nA (fun _ => 0)))) :: (q_15, .inl (g.2.1 0, 100, .inl (nA (fun _ => 0)))) :: (q_7, .inl (g.2.1 0, 100, .inl (nA (fun _ => 0)))) :: (hp, .inr (9, [.int (nI 0), .int (nI 0), .ref q_7, .ref q_15, .ref q_23, .null, .null, .null, .null])) :: R) _ := hW
  refine gPutF (w2 := (q_31, .inl (g.2.1 0, 101, .inl (nA (fun _ => 0)))) :: (q_23, .inl (g.2.1 0, 100, .inl (nA (fun _ => 0)))) :: (q_15, .inl (g.2.1 0, 100, .inl (nA (fun _ => 0)))) :: (q_7, .inl (g.2.1 0, 100, .inl (nA (fun _ => 0)))) :: (hp, .inr (9, [.int (nI 0), .int (nI 0), .ref q_7, .ref q_15, .ref q_23, .ref q_31, .null, .null, .null])) :: R) F hS hG hW nX12_init_X12 4 rfl rfl 5 (by decide) tyX12 tyX12_ok nmX12 mX12_init_8 rfl rfl rfl rfl rfl rfl (Nat.le_of_ble_eq_true rfl) rfl dX12_init_33 (fun H locs hW hS => ?_)
  refine lv_aload_n F.1 F.2.1 dX12_init_36 rfl (lv_at hl 0 rfl) ?_
  refine lv_bipush (v := nI 100) F.1 F.2.1 dX12_init_37 (by decide) ?_
  refine gNewJ (N := 100) (c2 := 5) (s2 := 501) F hG hS hW mX12_init_9 ⟨Nat.le_of_ble_eq_true rfl, Nat.le_of_ble_eq_true rfl⟩ ⟨rfl, rfl⟩ ⟨Nat.le_of_ble_eq_true rfl, Nat.le_of_ble_eq_true rfl⟩ dX12_init_39 (fun q_39 H hW hS => ?_)
  have hW : gW g ((q_39, .inl (g.2.1 2, 100, .inr (.inl (lA (fun _ => 0))))) :: (q_31, .inl (g.2.1 0, 101, .inl (nA (fun _ => 0)))) :: (q_23, .inl (g.2.1 0, 100, .inl (nA (fun _ => 0)))) :: (q_15, .inl (g.2.1 0, 100, .inl (nA (fun _ => 0)))) :: (q_7, .inl (g.2.1 0, 100, .inl (nA (fun _ => 0)))) :: (hp, .inr (9, [.int (nI 0), .int (nI 0), .ref q_7, .ref q_15, .ref q_23, .ref q_31, .null, .null, .null])) :: R) _ := hW
  refine gPutF (w2 := (q_39, .inl (g.2.1 2, 100, .inr (.inl (lA (fun _ => 0))))) :: (q_31, .inl (g.2.1 0, 101, .inl (nA (fun _ => 0)))) :: (q_23, .inl (g.2.1 0, 100, .inl (nA (fun _ => 0)))) :: (q_15, .inl (g.2.1 0, 100, .inl (nA (fun _ => 0)))) :: (q_7, .inl (g.2.1 0, 100, .inl (nA (fun _ => 0)))) :: (hp, .inr (9, [.int (nI 0), .int (nI 0), .ref q_7, .ref q_15, .ref q_23, .ref q_31, .ref q_39, .null, .null])) :: R) F hS hG hW nX12_init_X12 5 rfl rfl 6 (by decide) tyX12 tyX12_ok nmX12 mX12_init_10 rfl rfl rfl rfl rfl rfl (Nat.le_of_ble_eq_true rfl) rfl dX12_init_41 (fun H locs hW hS => ?_)
  refine lv_aload_n F.1 F.2.1 dX12_init_44 rfl (lv_at hl 0 rfl) ?_
  refine lv_bipush (v := nI 101) F.1 F.2.1 dX12_init_45 (by decide) ?_
  refine gNewJ (N := 101) (c2 := 6) (s2 := 602) F hG hS hW mX12_init_9 ⟨Nat.le_of_ble_eq_true rfl, Nat.le_of_ble_eq_true rfl⟩ ⟨rfl, rfl⟩ ⟨Nat.le_of_ble_eq_true rfl, Nat.le_of_ble_eq_true rfl⟩ dX12_init_47 (fun q_47 H hW hS => ?_)
  have hW : gW g ((q_47, .inl (g.2.1 2, 101, .inr (.inl (lA (fun _ => 0))))) :: (q_39, .inl (g.2.1 2, 100, .inr (.inl (lA (fun _ => 0))))) :: (q_31, .inl (g.2.1 0, 101, .inl (nA (fun _ => 0)))) :: (q_23, .inl (g.2.1 0, 100, .inl (nA (fun _ => 0)))) :: (q_15, .inl (g.2.1 0, 100, .inl (nA (fun _ => 0)))) :: (q_7, .inl (g.2.1 0, 100, .inl (nA (fun _ => 0)))) :: (hp, .inr (9, [.int (nI 0), .int (nI 0), .ref q_7, .ref q_15, .ref q_23, .ref q_31, .ref q_39, .null, .null])) :: R) _ := hW
  refine gPutF (w2 := (q_47, .inl (g.2.1 2, 101, .inr (.inl (lA (fun _ => 0))))) :: (q_39, .inl (g.2.1 2, 100, .inr (.inl (lA (fun _ => 0))))) :: (q_31, .inl (g.2.1 0, 101, .inl (nA (fun _ => 0)))) :: (q_23, .inl (g.2.1 0, 100, .inl (nA (fun _ => 0)))) :: (q_15, .inl (g.2.1 0, 100, .inl (nA (fun _ => 0)))) :: (q_7, .inl (g.2.1 0, 100, .inl (nA (fun _ => 0)))) :: (hp, .inr (9, [.int (nI 0), .int (nI 0), .ref q_7, .ref q_15, .ref q_23, .ref q_31, .ref q_39, .ref q_47, .null])) :: R) F hS hG hW nX12_init_X12 6 rfl rfl 7 (by decide) tyX12 tyX12_ok nmX12 mX12_init_11 rfl rfl rfl rfl rfl rfl (Nat.le_of_ble_eq_true rfl) rfl dX12_init_49 (fun H locs hW hS => ?_)
  refine lv_aload_n F.1 F.2.1 dX12_init_52 rfl (lv_at hl 0 rfl) ?_
  refine lv_bipush (v := nI 101) F.1 F.2.1 dX12_init_53 (by decide) ?_
  refine gNewZ (N := 101) (c2 := 7) (s2 := 703) F hG hS hW mX12_init_12 ⟨Nat.le_of_ble_eq_true rfl, Nat.le_of_ble_eq_true rfl⟩ ⟨rfl, rfl⟩ ⟨Nat.le_of_ble_eq_true rfl, Nat.le_of_ble_eq_true rfl⟩ dX12_init_55 (fun q_55 H hW hS => ?_)
  have hW : gW g ((q_55, .inl (g.2.1 1, 101, .inl (bA (fun _ => false)))) :: (q_47, .inl (g.2.1 2, 101, .inr (.inl (lA (fun _ => 0))))) :: (q_39, .inl (g.2.1 2, 100, .inr (.inl (lA (fun _ => 0))))) :: (q_31, .inl (g.2.1 0, 101, .inl (nA (fun _ => 0)))) :: (q_23, .inl (g.2.1 0, 100, .inl (nA (fun _ => 0)))) :: (q_15, .inl (g.2.1 0, 100, .inl (nA (fun _ => 0)))) :: (q_7, .inl (g.2.1 0, 100, .inl (nA (fun _ => 0)))) :: (hp, .inr (9, [.int (nI 0), .int (nI 0), .ref q_7, .ref q_15, .ref q_23, .ref q_31, .ref q_39, .ref q_47, .null])) :: R) _ := hW
  refine gPutF (w2 := (q_55, .inl (g.2.1 1, 101, .inl (bA (fun _ => false)))) :: (q_47, .inl (g.2.1 2, 101, .inr (.inl (lA (fun _ => 0))))) :: (q_39, .inl (g.2.1 2, 100, .inr (.inl (lA (fun _ => 0))))) :: (q_31, .inl (g.2.1 0, 101, .inl (nA (fun _ => 0)))) :: (q_23, .inl (g.2.1 0, 100, .inl (nA (fun _ => 0)))) :: (q_15, .inl (g.2.1 0, 100, .inl (nA (fun _ => 0)))) :: (q_7, .inl (g.2.1 0, 100, .inl (nA (fun _ => 0)))) :: (hp, .inr (9, [.int (nI 0), .int (nI 0), .ref q_7, .ref q_15, .ref q_23, .ref q_31, .ref q_39, .ref q_47, .ref q_55])) :: R) F hS hG hW nX12_init_X12 7 rfl rfl 8 (by decide) tyX12 tyX12_ok nmX12 mX12_init_13 rfl rfl rfl rfl rfl rfl (Nat.le_of_ble_eq_true rfl) rfl dX12_init_57 (fun H locs hW hS => ?_)
  have hW := gW.re (l := [(q_55, .inl (g.2.1 1, 101, .inl (bA (fun _ => false)))), (q_47, .inl (g.2.1 2, 101, .inr (.inl (lA (fun _ => 0))))), (q_39, .inl (g.2.1 2, 100, .inr (.inl (lA (fun _ => 0))))), (q_31, .inl (g.2.1 0, 101, .inl (nA (fun _ => 0)))), (q_23, .inl (g.2.1 0, 100, .inl (nA (fun _ => 0)))), (q_15, .inl (g.2.1 0, 100, .inl (nA (fun _ => 0)))), (q_7, .inl (g.2.1 0, 100, .inl (nA (fun _ => 0)))), (hp, .inr (9, [.int (nI 0), .int (nI 0), .ref q_7, .ref q_15, .ref q_23, .ref q_31, .ref q_39, .ref q_47, .ref q_55]))]) (l' := [(hp, .inr (9, [.int (nI 0), .int (nI 0), .ref q_7, .ref q_15, .ref q_23, .ref q_31, .ref q_39, .ref q_47, .ref q_55])), (q_7, .inl (g.2.1 0, 100, .inl (nA (fun _ => 0)))), (q_15, .inl (g.2.1 0, 100, .inl (nA (fun _ => 0)))), (q_23, .inl (g.2.1 0, 100, .inl (nA (fun _ => 0)))), (q_31, .inl (g.2.1 0, 101, .inl (nA (fun _ => 0)))), (q_39, .inl (g.2.1 2, 100, .inr (.inl (lA (fun _ => 0))))), (q_47, .inl (g.2.1 2, 101, .inr (.inl (lA (fun _ => 0))))), (q_55, .inl (g.2.1 1, 101, .inl (bA (fun _ => false))))]) (R := R) hW [7, 6, 5, 4, 3, 2, 1, 0] 8 rfl (by decide) rfl
  have hW : gW g ((hp, .inr (9, [.int (nI 0), .int (nI 0), .ref q_7, .ref q_15, .ref q_23, .ref q_31, .ref q_39, .ref q_47, .ref q_55])) :: (q_7, .inl (g.2.1 0, 100, .inl (nA (fun _ => 0)))) :: (q_15, .inl (g.2.1 0, 100, .inl (nA (fun _ => 0)))) :: (q_23, .inl (g.2.1 0, 100, .inl (nA (fun _ => 0)))) :: (q_31, .inl (g.2.1 0, 101, .inl (nA (fun _ => 0)))) :: (q_39, .inl (g.2.1 2, 100, .inr (.inl (lA (fun _ => 0))))) :: (q_47, .inl (g.2.1 2, 101, .inr (.inl (lA (fun _ => 0))))) :: (q_55, .inl (g.2.1 1, 101, .inl (bA (fun _ => false)))) :: R) _ := hW
  refine gRv F hW hS dX12_init_60 ?_
  exact ⟨q_7, q_15, q_23, q_31, q_39, q_47, q_55, rfl⟩

abbrev rm_Jth_init : Room := ({ frames := 1, cells := 0, slots := 0, locals := 12 } : Room)
theorem mJth_init_1 : Cond.methodLink RJth 1 objectInit ∈ wsJth_init := List.mem_of_getElem? (i := 1) rfl
theorem mJth_init_2 : Cond.instanceMethod objectInit ∈ wsJth_init := List.mem_of_getElem? (i := 2) rfl
theorem mJth_init_3 : Cond.code objectInit ⟨#[0xb1]⟩ 1 none ∈ wsJth_init := List.mem_of_getElem? (i := 3) rfl
theorem mJth_init_4 : Cond.fieldLink RJth 7 "java/lang/Throwable" "cause" "Ljava/lang/Throwable;" ∈ wsJth_init := List.mem_of_getElem? (i := 4) rfl
theorem nJth_init_X13 : ∀ w ∈ wsX130, w ∈ wsJth_init := fun _ h => List.mem_append_right _ h
theorem mJth_init_5 : Cond.fieldLink RJth 13 "java/lang/Throwable" "UNASSIGNED_STACK" "[Ljava/lang/StackTraceElement;" ∈ wsJth_init := List.mem_of_getElem? (i := 5) rfl
theorem mJth_init_6 : Cond.fieldLink RJth 17 "java/lang/Throwable" "stackTrace" "[Ljava/lang/StackTraceElement;" ∈ wsJth_init := List.mem_of_getElem? (i := 6) rfl
theorem mJth_init_7 : Cond.fieldLink RJth 20 "java/lang/Throwable" "SUPPRESSED_SENTINEL" "Ljava/util/List;" ∈ wsJth_init := List.mem_of_getElem? (i := 7) rfl
theorem mJth_init_8 : Cond.fieldLink RJth 24 "java/lang/Throwable" "suppressedExceptions" "Ljava/util/List;" ∈ wsJth_init := List.mem_of_getElem? (i := 8) rfl
theorem mJth_init_9 : Cond.fieldLink RJth 31 "java/lang/Throwable" "detailMessage" "Ljava/lang/String;" ∈ wsJth_init := List.mem_of_getElem? (i := 9) rfl
set_option maxRecDepth 100000 in
set_option maxHeartbeats 4000000 in
theorem c_Jth_init (g : gC) (l : Launch) {o : Nat} {R : va_W} : cV g l yJth_init wsJth_init rm_Jth_init 0 0 [.ref o, .null, .null, .int (nI 0), .int (nI 0)] ((o, .inr (10, [.null, .null, .null, .null, .null, .int (nI 0), .int (nI 0), .int (nI 0)])) :: R) (fun u => (o, .inr (10, [.null, .null, .null, .null, .null, .int (nI 0), .int (nI 0), .int (nI 0)])) :: R = u) := by
  refine gEnterQ (cc := cJth_init) (maxL := 5) (ret := none) (by decide +kernel) rfl (Nat.le_of_ble_eq_true rfl) ?_
  intro p e s m below meth c F hG hW ls hl
  have hS : va_S (gA g) s.heap s.heap [] := va_S.rf
  have hl : lv_has ls 5 [(0, .ref o), (1, .null), (2, .null), (3, .int (nI 0)), (4, .int (nI 0))] := hl
  have hW : gW g ((o, .inr (10, [.null, .null, .null, .null, .null, .int (nI 0), .int (nI 0), .int (nI 0)])) :: R) s.heap := hW
  refine lv_aload_n F.1 F.2.1 dJth_init_0 rfl (lv_at hl 0 rfl) ?_
  refine W.objInit F.1 F.2.1 F.2.2.2.2.2.1 (F.2.2.2.2.1 _ mJth_init_1) (F.2.2.2.2.1 _ mJth_init_2) (F.2.2.2.2.1 _ mJth_init_3) rfl (hl.1.trans F.2.2.2.1.symm) rfl dJth_init_1 (Nat.le_of_ble_eq_true rfl) (Nat.le_of_ble_eq_true rfl) ?_
  refine W.eq (g2 := F0 m 4 ls []) rfl ?_
  refine lv_aload_n F.1 F.2.1 dJth_init_4 rfl (lv_at hl 0 rfl) ?_
  refine lv_aload_n F.1 F.2.1 dJth_init_5 rfl (lv_at hl 0 rfl) ?_
  refine gPut (w2 := (o, .inr (10, [.ref o, .null, .null, .null, .null, .int (nI 0), .int (nI 0), .int (nI 0)])) :: R) F hS hG hW nJth_init_X13 0 rfl rfl 0 (by decide) tyX13 tyX13_ok nmX13 mJth_init_4 rfl rfl rfl rfl (Nat.le_of_ble_eq_true rfl) rfl dJth_init_6 (fun H locs hW hS => ?_)
  refine lv_aload_n F.1 F.2.1 dJth_init_9 rfl (lv_at hl 0 rfl) ?_
  refine gsQ F hS hG.2.2.1.2.2.2.2.2.2.2.2.2.2.2.1.1 mJth_init_5 dJth_init_10 (fun v_10 h_10 => ?_)
  refine gPut (w2 := (o, .inr (10, [.ref o, v_10, .null, .null, .null, .int (nI 0), .int (nI 0), .int (nI 0)])) :: R) F hS hG hW nJth_init_X13 0 rfl rfl 1 (by decide) tyX13 tyX13_ok nmX13 mJth_init_6 rfl rfl (by rcases h_10 with rfl | ⟨t, rfl⟩ <;> rfl) (by rcases h_10 with rfl | ⟨t, rfl⟩ <;> rfl) (Nat.le_of_ble_eq_true rfl) rfl dJth_init_13 (fun H locs hW hS => ?_)
  refine lv_aload_n F.1 F.2.1 dJth_init_16 rfl (lv_at hl 0 rfl) ?_
  refine gsQ F hS hG.2.2.1.2.2.2.2.2.2.2.2.2.2.2.2.1.1 mJth_init_7 dJth_init_17 (fun v_17 h_17 => ?_)
  refine gPut (w2 := (o, .inr (10, [.ref o, v_10, v_17, .null, .null, .int (nI 0), .int (nI 0), .int (nI 0)])) :: R) F hS hG hW nJth_init_X13 0 rfl rfl 2 (by decide) tyX13 tyX13_ok nmX13 mJth_init_8 rfl rfl (by rcases h_17 with rfl | ⟨t, rfl⟩ <;> rfl) (by rcases h_17 with rfl | ⟨t, rfl⟩ <;> rfl) (Nat.le_of_ble_eq_true rfl) rfl dJth_init_20 (fun H locs hW hS => ?_)
  refine lv_iload F.1 F.2.1 dJth_init_23 (lv_at hl 4 rfl) ?_
  refine gIfEq (tgt := 36) F (by decide) dJth_init_25 (by decide) (fun c_25 => ?_) (fun c_25 => by exfalso; omega)
  refine lv_aload_n F.1 F.2.1 dJth_init_36 rfl (lv_at hl 0 rfl) ?_
  refine lv_null F.1 F.2.1 dJth_init_37 ?_
  refine gPut (w2 := (o, .inr (10, [.ref o, .null, v_17, .null, .null, .int (nI 0), .int (nI 0), .int (nI 0)])) :: R) F hS hG hW nJth_init_X13 0 rfl rfl 1 (by decide) tyX13 tyX13_ok nmX13 mJth_init_6 rfl rfl rfl rfl (Nat.le_of_ble_eq_true rfl) rfl dJth_init_38 (fun H locs hW hS => ?_)
  refine lv_aload_n F.1 F.2.1 dJth_init_41 rfl (lv_at hl 0 rfl) ?_
  refine lv_aload_nN F.1 F.2.1 dJth_init_42 rfl (lv_at hl 1 rfl) ?_
  refine gPut (w2 := (o, .inr (10, [.ref o, .null, v_17, .null, .null, .int (nI 0), .int (nI 0), .int (nI 0)])) :: R) F hS hG hW nJth_init_X13 0 rfl rfl 3 (by decide) tyX13 tyX13_ok nmX13 mJth_init_9 rfl rfl rfl rfl (Nat.le_of_ble_eq_true rfl) rfl dJth_init_43 (fun H locs hW hS => ?_)
  refine lv_aload_n F.1 F.2.1 dJth_init_46 rfl (lv_at hl 0 rfl) ?_
  refine lv_aload_nN F.1 F.2.1 dJth_init_47 rfl (lv_at hl 2 rfl) ?_
  refine gPut (w2 := (o, .inr (10, [.null, .null, v_17, .null, .null, .int (nI 0), .int (nI 0), .int (nI 0)])) :: R) F hS hG hW nJth_init_X13 0 rfl rfl 0 (by decide) tyX13 tyX13_ok nmX13 mJth_init_4 rfl rfl rfl rfl (Nat.le_of_ble_eq_true rfl) rfl dJth_init_48 (fun H locs hW hS => ?_)
  refine lv_iload_n F.1 F.2.1 dJth_init_51 rfl (lv_at hl 3 rfl) ?_
  refine gIfNe (tgt := 60) F (by decide) dJth_init_52 (by decide) (fun c_52 => by exfalso; omega) (fun c_52 => ?_)
  refine lv_aload_n F.1 F.2.1 dJth_init_55 rfl (lv_at hl 0 rfl) ?_
  refine lv_null F.1 F.2.1 dJth_init_56 ?_
  refine gPut (w2 := (o, .inr (10, [.null, .null, .null, .null, .null, .int (nI 0), .int (nI 0), .int (nI 0)])) :: R) F hS hG hW nJth_init_X13 0 rfl rfl 2 (by decide) tyX13 tyX13_ok nmX13 mJth_init_8 rfl rfl rfl rfl (Nat.le_of_ble_eq_true rfl) rfl dJth_init_57 (fun H locs hW hS => ?_)
  refine gRv F hW hS dJth_init_60 ?_
  exact rfl

abbrev rm_Jex_init : Room := ({ frames := 2, cells := 0, slots := 0, locals := 36 } : Room)
theorem mJex_init_3 : Cond.initialized RJth ∈ wsJex_init := List.mem_of_getElem? (i := 3) rfl
theorem mJex_init_1 : Cond.methodLink RJex 16 yJth_init ∈ wsJex_init := List.mem_of_getElem? (i := 1) rfl
theorem mJex_init_2 : Cond.instanceMethod yJth_init ∈ wsJex_init := List.mem_of_getElem? (i := 2) rfl
set_option maxRecDepth 100000 in
set_option maxHeartbeats 4000000 in
theorem c_Jex_init (g : gC) (l : Launch) {o : Nat} {R : va_W} : cV g l yJex_init wsJex_init rm_Jex_init 0 0 [.ref o, .null, .null, .int (nI 0), .int (nI 0)] ((o, .inr (10, [.null, .null, .null, .null, .null, .int (nI 0), .int (nI 0), .int (nI 0)])) :: R) (fun u => (o, .inr (10, [.null, .null, .null, .null, .null, .int (nI 0), .int (nI 0), .int (nI 0)])) :: R = u) := by
  refine gEnterQ (cc := cJex_init) (maxL := 5) (ret := none) (by decide +kernel) rfl (Nat.le_of_ble_eq_true rfl) ?_
  intro p e s m below meth c F hG hW ls hl
  have hS : va_S (gA g) s.heap s.heap [] := va_S.rf
  have hl : lv_has ls 5 [(0, .ref o), (1, .null), (2, .null), (3, .int (nI 0)), (4, .int (nI 0))] := hl
  have hW : gW g ((o, .inr (10, [.null, .null, .null, .null, .null, .int (nI 0), .int (nI 0), .int (nI 0)])) :: R) s.heap := hW
  refine lv_aload_n F.1 F.2.1 dJex_init_0 rfl (lv_at hl 0 rfl) ?_
  refine lv_aload_nN F.1 F.2.1 dJex_init_1 rfl (lv_at hl 1 rfl) ?_
  refine lv_aload_nN F.1 F.2.1 dJex_init_2 rfl (lv_at hl 2 rfl) ?_
  refine lv_iload_n F.1 F.2.1 dJex_init_3 rfl (lv_at hl 3 rfl) ?_
  refine lv_iload F.1 F.2.1 dJex_init_4 (lv_at hl 4 rfl) ?_
  refine gI_v (c2 := 0) (s2 := 0) (n := 4) (As := [.null, .null, .int (nI 0), .int (nI 0)]) F hG hS hW (c_Jth_init g l  ) rfl gJex_init_Jth_init mJex_init_3 mJex_init_1 mJex_init_2 rfl (by decide +kernel) ⟨rfl, rfl, Nat.le_of_ble_eq_true rfl, Nat.le_of_ble_eq_true rfl⟩ hl.1 (Nat.le_of_ble_eq_true rfl) ⟨Nat.le_of_ble_eq_true rfl, Nat.le_of_ble_eq_true rfl⟩ ⟨rfl, rfl⟩ rfl rfl dJex_init_6 (fun u H locs hq hW hS => ?_)
  obtain rfl := hq
  have hW : gW g ((o, .inr (10, [.null, .null, .null, .null, .null, .int (nI 0), .int (nI 0), .int (nI 0)])) :: R) _ := hW
  refine gRv F hW hS dJex_init_9 ?_
  exact rfl

abbrev rm_Jre_init : Room := ({ frames := 3, cells := 0, slots := 0, locals := 60 } : Room)
theorem mJre_init_3 : Cond.initialized RJex ∈ wsJre_init := List.mem_of_getElem? (i := 3) rfl
theorem mJre_init_1 : Cond.methodLink RJre 16 yJex_init ∈ wsJre_init := List.mem_of_getElem? (i := 1) rfl
theorem mJre_init_2 : Cond.instanceMethod yJex_init ∈ wsJre_init := List.mem_of_getElem? (i := 2) rfl
set_option maxRecDepth 100000 in
set_option maxHeartbeats 4000000 in
theorem c_Jre_init (g : gC) (l : Launch) {o : Nat} {R : va_W} : cV g l yJre_init wsJre_init rm_Jre_init 0 0 [.ref o, .null, .null, .int (nI 0), .int (nI 0)] ((o, .inr (10, [.null, .null, .null, .null, .null, .int (nI 0), .int (nI 0), .int (nI 0)])) :: R) (fun u => (o, .inr (10, [.null, .null, .null, .null, .null, .int (nI 0), .int (nI 0), .int (nI 0)])) :: R = u) := by
  refine gEnterQ (cc := cJre_init) (maxL := 5) (ret := none) (by decide +kernel) rfl (Nat.le_of_ble_eq_true rfl) ?_
  intro p e s m below meth c F hG hW ls hl
  have hS : va_S (gA g) s.heap s.heap [] := va_S.rf
  have hl : lv_has ls 5 [(0, .ref o), (1, .null), (2, .null), (3, .int (nI 0)), (4, .int (nI 0))] := hl
  have hW : gW g ((o, .inr (10, [.null, .null, .null, .null, .null, .int (nI 0), .int (nI 0), .int (nI 0)])) :: R) s.heap := hW
  refine lv_aload_n F.1 F.2.1 dJre_init_0 rfl (lv_at hl 0 rfl) ?_
  refine lv_aload_nN F.1 F.2.1 dJre_init_1 rfl (lv_at hl 1 rfl) ?_
  refine lv_aload_nN F.1 F.2.1 dJre_init_2 rfl (lv_at hl 2 rfl) ?_
  refine lv_iload_n F.1 F.2.1 dJre_init_3 rfl (lv_at hl 3 rfl) ?_
  refine lv_iload F.1 F.2.1 dJre_init_4 (lv_at hl 4 rfl) ?_
  refine gI_v (c2 := 0) (s2 := 0) (n := 4) (As := [.null, .null, .int (nI 0), .int (nI 0)]) F hG hS hW (c_Jex_init g l  ) rfl gJre_init_Jex_init mJre_init_3 mJre_init_1 mJre_init_2 rfl (by decide +kernel) ⟨rfl, rfl, Nat.le_of_ble_eq_true rfl, Nat.le_of_ble_eq_true rfl⟩ hl.1 (Nat.le_of_ble_eq_true rfl) ⟨Nat.le_of_ble_eq_true rfl, Nat.le_of_ble_eq_true rfl⟩ ⟨rfl, rfl⟩ rfl rfl dJre_init_6 (fun u H locs hq hW hS => ?_)
  obtain rfl := hq
  have hW : gW g ((o, .inr (10, [.null, .null, .null, .null, .null, .int (nI 0), .int (nI 0), .int (nI 0)])) :: R) _ := hW
  refine gRv F hW hS dJre_init_9 ?_
  exact rfl

abbrev rm_X13_init : Room := ({ frames := 4, cells := 0, slots := 0, locals := 84 } : Room)
theorem mX13_init_3 : Cond.initialized RJre ∈ wq_X13_init := List.mem_of_getElem? (i := 3) rfl
theorem mX13_init_1 : Cond.methodLink RX13 1 yJre_init ∈ wq_X13_init := List.mem_of_getElem? (i := 1) rfl
theorem mX13_init_2 : Cond.instanceMethod yJre_init ∈ wq_X13_init := List.mem_of_getElem? (i := 2) rfl
set_option maxRecDepth 100000 in
set_option maxHeartbeats 4000000 in
theorem c_X13_init (g : gC) (l : Launch) {o : Nat} {R : va_W} : cV g l yX13_init wq_X13_init rm_X13_init 0 0 [.ref o] ((o, .inr (10, [.null, .null, .null, .null, .null, .int (nI 0), .int (nI 0), .int (nI 0)])) :: R) (fun u => (o, .inr (10, [.null, .null, .null, .null, .null, .int (nI 0), .int (nI 0), .int (nI 0)])) :: R = u) := by
  refine gEnterQ (cc := cX13_init) (maxL := 1) (ret := none) (by decide +kernel) rfl (Nat.le_of_ble_eq_true rfl) ?_
  intro p e s m below meth c F hG hW ls hl
  have hS : va_S (gA g) s.heap s.heap [] := va_S.rf
  have hl : lv_has ls 1 [(0, .ref o)] := hl
  have hW : gW g ((o, .inr (10, [.null, .null, .null, .null, .null, .int (nI 0), .int (nI 0), .int (nI 0)])) :: R) s.heap := hW
  refine lv_aload_n F.1 F.2.1 dX13_init_0 rfl (lv_at hl 0 rfl) ?_
  refine lv_null F.1 F.2.1 dX13_init_1 ?_
  refine lv_null F.1 F.2.1 dX13_init_2 ?_
  refine lv_iconst (v := nI 0) F.1 F.2.1 dX13_init_3 rfl ?_
  refine lv_iconst (v := nI 0) F.1 F.2.1 dX13_init_4 rfl ?_
  refine gI_v (c2 := 0) (s2 := 0) (n := 4) (As := [.null, .null, .int (nI 0), .int (nI 0)]) F hG hS hW (c_Jre_init g l  ) rfl gqX13_init_Jre_init mX13_init_3 mX13_init_1 mX13_init_2 rfl (by decide +kernel) ⟨rfl, rfl, Nat.le_of_ble_eq_true rfl, Nat.le_of_ble_eq_true rfl⟩ hl.1 (Nat.le_of_ble_eq_true rfl) ⟨Nat.le_of_ble_eq_true rfl, Nat.le_of_ble_eq_true rfl⟩ ⟨rfl, rfl⟩ rfl rfl dX13_init_5 (fun u H locs hq hW hS => ?_)
  obtain rfl := hq
  have hW : gW g ((o, .inr (10, [.null, .null, .null, .null, .null, .int (nI 0), .int (nI 0), .int (nI 0)])) :: R) _ := hW
  refine gRv F hW hS dX13_init_8 ?_
  exact rfl

