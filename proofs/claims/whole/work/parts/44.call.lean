/-! ===== the model: calls (written by wip/whole/gen/spec9.py) ===== -/
theorem isz {b : Bool} {n : Nat} (h : b = !decide (n = 0)) (hb : b = false) : n = 0 := by
  rw [h] at hb
  simpa using hb
theorem isnz {b : Bool} {n : Nat} (h : b = !decide (n = 0)) (hb : b = true) : n ≠ 0 := by
  rw [h] at hb
  simpa using hb
theorem byS_i2b (x : Int32) (k : Nat) (hk : k < 4) : (x >>> (nI (24 - 8 * k) &&& 31)).toInt8.toInt32 = sB (byS x (24 - 8 * k)) := by
  have h : nI (24 - 8 * k) &&& 31 = nI 24 - nI 8 * nI k := by
    rcases (show k = 0 ∨ k = 1 ∨ k = 2 ∨ k = 3 by omega) with rfl | rfl | rfl | rfl <;> decide
  rw [h]
  exact byS_sB x k hk
theorem cntB_c {s s' : Nat → Bool} : ∀ {m : Nat}, (∀ j, j < m → s j = s' j) → cntB s m = cntB s' m
  | 0, _ => rfl
  | m + 1, h => by rw [cntB, cntB, cntB_c (fun j hj => h j (Nat.lt_succ_of_lt hj)), h m (Nat.lt_succ_self m)]
theorem secS_f {c : Nat → Bool} {n : Nat} (hc : ∀ j, n ≤ j → c j = false) : ∀ j, n ≤ j → secS c j = false
  | 0, _ => rfl
  | j + 1, h => by
    show (!secS c j && c (j + 1)) = false
    rw [hc (j + 1) h, Bool.and_false]
theorem canJ_f {n : Nat} {kd : Nat → Nat} {mk P : Nat → Bool} {ex : Option Nat} : ∀ j, n ≤ j → canJ n kd mk P ex j = false := by
  intro j h
  unfold canJ
  rw [decide_eq_false (Nat.not_lt.mpr h)]
  rfl
theorem cntB_n {n : Nat} {kd : Nat → Nat} {mk P : Nat → Bool} {ex : Option Nat} : ∀ m, n ≤ m → cntB (secS (canJ n kd mk P ex)) m = cntB (secS (canJ n kd mk P ex)) n := by
  intro m h
  obtain ⟨d, rfl⟩ := Nat.exists_eq_add_of_le h
  clear h
  induction d with
  | zero => rfl
  | succ d ih => rw [show n + (d + 1) = n + d + 1 from rfl, cntB, ih, secS_f canJ_f (n + d) (by omega)]; rfl
theorem sumB_n {n : Nat} {kd : Nat → Nat} {mk P : Nat → Bool} {ex : Option Nat} {f : Nat → Nat} : ∀ m, n ≤ m → sumB (secS (canJ n kd mk P ex)) f m = sumB (secS (canJ n kd mk P ex)) f n := by
  intro m h
  obtain ⟨d, rfl⟩ := Nat.exists_eq_add_of_le h
  clear h
  induction d with
  | zero => rfl
  | succ d ih => rw [show n + (d + 1) = n + d + 1 from rfl, sumB, ih, secS_f canJ_f (n + d) (by omega)]; rfl
theorem canJ_t {n : Nat} {kd : Nat → Nat} {mk P : Nat → Bool} {q : Nat} : canJ n kd mk (updB P q true) none = canJ n kd mk P (some q) := by
  funext j
  unfold canJ
  rw [decide_eq_false (show ¬ (none : Option Nat) = some (kd (j - 1) * 15 + kd j) from fun h => by cases h), Bool.false_or]
  by_cases h : kd (j - 1) * 15 + kd j = q
  · rw [h, updB_s, decide_eq_true rfl, Bool.true_or]
  · rw [updB_n h, decide_eq_false (fun z => h (Option.some.inj z).symm), Bool.false_or]
theorem canJ_i {n : Nat} {kd : Nat → Nat} {mk P : Nat → Bool} {j : Nat} (h : j < n) : canJ n kd mk P none j = (!mk j && P (kd (j - 1) * 15 + kd j)) := by
  unfold canJ
  rw [decide_eq_true h, decide_eq_false (show ¬ (none : Option Nat) = some (kd (j - 1) * 15 + kd j) from fun h => by cases h), Bool.false_or, Bool.true_and]

abbrev rm_X14_feed : Room := ({ frames := 0, cells := 0, slots := 0, locals := 0 } : Room)
theorem mX14_feed_1 : Cond.fieldLink RX14 129 "StepperHeartsModel" "thrown" "I" ∈ wsX14_feed := List.mem_of_getElem? (i := 1) rfl
theorem nX14_feed_X14 : ∀ w ∈ wsX140, w ∈ wsX14_feed := fun _ h => List.mem_cons_of_mem _ (List.mem_append_right _ (h))
theorem mX14_feed_2 : Cond.fieldLink RX14 231 "StepperHeartsModel" "taped" "I" ∈ wsX14_feed := List.mem_of_getElem? (i := 2) rfl
theorem mX14_feed_3 : Cond.fieldLink RX14 30 "StepperHeartsModel" "tape" "[B" ∈ wsX14_feed := List.mem_of_getElem? (i := 3) rfl
set_option maxRecDepth 100000 in
set_option maxHeartbeats 4000000 in
theorem c_X14_feed (g : gC) (l : Launch) {o : Nat} {z0 : Nat} {z1 : Nat} {z2 : Int32} {z3 : Nat} {z4 : Nat} {z5 : Nat} {z6 : Bool} {z7 : Nat} {z8 : Nat} {z9 : Nat} {z10 : Nat} {z11 : Nat} {z12 : Nat} {z13 : Nat} {z14 : Nat} {z15 : Nat} {z16 : Nat} {z17 : Nat} {z18 : Int32} {z19 : Nat} {z20 : Nat} {z21 : Nat} {z22 : Nat} {z23 : Nat} {z24 : Nat} {z25 : Nat} {z26 : Nat} {z27 : Nat} {z28 : Nat} {z29 : Int32} {z30 : Nat} {z31 : Nat} {z32 : Nat} {z33 : Nat} {z34 : Nat} {z35 : Nat} {z36 : Nat} {z37 : Bool} {z38 : Nat} {z39 : Nat} {z40 : Nat} {z41 : Nat} {z42 : Nat} {z43 : Nat} {z44 : Nat} {z45 : Nat} {z46 : Nat} {z47 : Nat} {z48 : Nat} {z49 : Nat} {z50 : Nat} {z51 : Nat} {z52 : Nat} {z53 : Int32} {z54 : Nat} {tp : Nat → Nat} {x1 : Int32} {x2 : Int32} {x3 : Int32} {x4 : Int32} {x5 : Int32} {R : va_W} (htl : z9 ≤ 600) : cI g l yX14_feed wsX14_feed rm_X14_feed 0 0 [.ref o, .int x1, .int x2, .int x3, .int x4, .int x5] ((o, .inr (11, [.int (nI z0), .int (nI z1), .int z2, .int (nI z3), .ref z4, .ref z5, .int (bI z6), .ref z7, .ref z8, .int (nI z9), .int (nI z10), .int (nI z11), .int (nI z12), .int (nI z13), .int (nI z14), .int (nI z15), .long (lN z16), .ref z17, .int z18, .int (nI z19), .ref z20, .ref z21, .ref z22, .ref z23, .ref z24, .ref z25, .int (nI z26), .int (nI z27), .int (nI z28), .int z29, .int (nI z30), .int (nI z31), .ref z32, .ref z33, .ref z34, .ref z35, .ref z36, .int (bI z37), .int (nI z38), .int (nI z39), .int (nI z40), .int (nI z41), .int (nI z42), .int (nI z43), .int (nI z44), .int (nI z45), .int (nI z46), .ref z47, .ref z48, .ref z49, .ref z50, .ref z51, .ref z52, .int z53, .ref z54])) :: (z8, .inl (g.2.1 3, 600, .inl (yA tp))) :: R) (fun r u => (if z9 + 20 ≤ 600 then nI (z9 + 20) else -1) = r ∧ (o, .inr (11, [.int (nI 0), .int (nI z1), .int z2, .int (nI z3), .ref z4, .ref z5, .int (bI z6), .ref z7, .ref z8, .int (nI (if z9 + 20 ≤ 600 then z9 + 20 else z9)), .int (nI z10), .int (nI z11), .int (nI z12), .int (nI z13), .int (nI z14), .int (nI z15), .long (lN z16), .ref z17, .int z18, .int (nI z19), .ref z20, .ref z21, .ref z22, .ref z23, .ref z24, .ref z25, .int (nI z26), .int (nI z27), .int (nI z28), .int z29, .int (nI z30), .int (nI z31), .ref z32, .ref z33, .ref z34, .ref z35, .ref z36, .int (bI z37), .int (nI z38), .int (nI z39), .int (nI z40), .int (nI z41), .int (nI z42), .int (nI z43), .int (nI z44), .int (nI z45), .int (nI z46), .ref z47, .ref z48, .ref z49, .ref z50, .ref z51, .ref z52, .int z53, .ref z54])) :: (z8, .inl (g.2.1 3, 600, .inl (yA (if z9 + 20 ≤ 600 then app20 tp z9 x1 x2 x3 x4 x5 else tp)))) :: R = u) := by
  refine gEnterQ (cc := cX14_feed) (maxL := 8) (ret := (some (.int))) (by decide +kernel) rfl (Nat.le_of_ble_eq_true rfl) ?_
  intro p e s m below meth c F hG hW ls hl
  have hS : va_S (gA g) s.heap s.heap [] := va_S.rf
  have hl : lv_has ls 8 [(0, .ref o), (1, .int x1), (2, .int x2), (3, .int x3), (4, .int x4), (5, .int x5)] := hl
  have hW : gW g ((o, .inr (11, [.int (nI z0), .int (nI z1), .int z2, .int (nI z3), .ref z4, .ref z5, .int (bI z6), .ref z7, .ref z8, .int (nI z9), .int (nI z10), .int (nI z11), .int (nI z12), .int (nI z13), .int (nI z14), .int (nI z15), .long (lN z16), .ref z17, .int z18, .int (nI z19), .ref z20, .ref z21, .ref z22, .ref z23, .ref z24, .ref z25, .int (nI z26), .int (nI z27), .int (nI z28), .int z29, .int (nI z30), .int (nI z31), .ref z32, .ref z33, .ref z34, .ref z35, .ref z36, .int (bI z37), .int (nI z38), .int (nI z39), .int (nI z40), .int (nI z41), .int (nI z42), .int (nI z43), .int (nI z44), .int (nI z45), .int (nI z46), .ref z47, .ref z48, .ref z49, .ref z50, .ref z51, .ref z52, .int z53, .ref z54])) :: (z8, .inl (g.2.1 3, 600, .inl (yA tp))) :: R) s.heap := hW
  refine lv_aload_n F.1 F.2.1 dX14_feed_0 rfl (lv_at hl 0 rfl) ?_
  refine lv_iconst (v := nI 0) F.1 F.2.1 dX14_feed_1 rfl ?_
  refine gPut (w2 := (o, .inr (11, [.int (nI 0), .int (nI z1), .int z2, .int (nI z3), .ref z4, .ref z5, .int (bI z6), .ref z7, .ref z8, .int (nI z9), .int (nI z10), .int (nI z11), .int (nI z12), .int (nI z13), .int (nI z14), .int (nI z15), .long (lN z16), .ref z17, .int z18, .int (nI z19), .ref z20, .ref z21, .ref z22, .ref z23, .ref z24, .ref z25, .int (nI z26), .int (nI z27), .int (nI z28), .int z29, .int (nI z30), .int (nI z31), .ref z32, .ref z33, .ref z34, .ref z35, .ref z36, .int (bI z37), .int (nI z38), .int (nI z39), .int (nI z40), .int (nI z41), .int (nI z42), .int (nI z43), .int (nI z44), .int (nI z45), .int (nI z46), .ref z47, .ref z48, .ref z49, .ref z50, .ref z51, .ref z52, .int z53, .ref z54])) :: (z8, .inl (g.2.1 3, 600, .inl (yA tp))) :: R) F hS hG hW nX14_feed_X14 0 rfl rfl 0 (by decide) tyX14 tyX14_ok nmX14 mX14_feed_1 rfl rfl rfl rfl (Nat.le_of_ble_eq_true rfl) rfl dX14_feed_2 (fun H locs hW hS => ?_)
  refine lv_aload_n F.1 F.2.1 dX14_feed_5 rfl (lv_at hl 0 rfl) ?_
  refine gGet F hG hW nX14_feed_X14 0 rfl rfl 9 (by decide) mX14_feed_2 rfl dX14_feed_6 ?_
  refine lv_bipush (v := nI 20) F.1 F.2.1 dX14_feed_9 (by decide) ?_
  refine gAdd F dX14_feed_11 ?_
  refine lv_sipush (v := nI 600) F.1 F.2.1 dX14_feed_12 (by decide) ?_
  refine gLe (tgt := 20) F (by omega) (by omega) dX14_feed_15 (by decide) (fun c_15 => ?_) (fun c_15 => ?_)
  · refine lv_iconst (v := nI 0) F.1 F.2.1 dX14_feed_20 rfl ?_
    refine lv_istore (lv' := [(6, .int (nI 0)), (0, .ref o), (1, .int x1), (2, .int x2), (3, .int x3), (4, .int x4), (5, .int x5)]) F.1 F.2.1 dX14_feed_21 hl (by decide) rfl (fun ls hl => ?_)
    refine lv_iload F.1 F.2.1 dX14_feed_23 (lv_at hl 0 rfl) ?_
    refine lv_bipush (v := nI 20) F.1 F.2.1 dX14_feed_25 (by decide) ?_
    refine gGe (tgt := 117) F (by decide) (by decide) dX14_feed_27 (by decide) (fun c_27 => by exfalso; omega) (fun c_27 => ?_)
    refine lv_iload F.1 F.2.1 dX14_feed_30 (lv_at hl 0 rfl) ?_
    refine lv_iconst (v := nI 4) F.1 F.2.1 dX14_feed_32 rfl ?_
    refine gGe (tgt := 40) F (by decide) (by decide) dX14_feed_33 (by decide) (fun c_33 => by exfalso; omega) (fun c_33 => ?_)
    refine lv_iload_n F.1 F.2.1 dX14_feed_36 rfl (lv_at hl 2 rfl) ?_
    refine lv_goto (tgt := 76) F.1 F.2.1 dX14_feed_37 (by decide) ?_
    refine lv_istore (lv' := [(7, .int x1), (6, .int (nI 0)), (0, .ref o), (1, .int x1), (2, .int x2), (3, .int x3), (4, .int x4), (5, .int x5)]) F.1 F.2.1 dX14_feed_76 hl (by decide) rfl (fun ls hl => ?_)
    refine lv_aload_n F.1 F.2.1 dX14_feed_78 rfl (lv_at hl 2 rfl) ?_
    refine gGet F hG hW nX14_feed_X14 0 rfl rfl 8 (by decide) mX14_feed_3 rfl dX14_feed_79 ?_
    refine lv_aload_n F.1 F.2.1 dX14_feed_82 rfl (lv_at hl 2 rfl) ?_
    refine gGet F hG hW nX14_feed_X14 0 rfl rfl 9 (by decide) mX14_feed_2 rfl dX14_feed_83 ?_
    refine lv_iload F.1 F.2.1 dX14_feed_86 (lv_at hl 0 rfl) ?_
    refine lv_bipush (v := nI 24) F.1 F.2.1 dX14_feed_88 (by decide) ?_
    refine lv_bipush (v := nI 8) F.1 F.2.1 dX14_feed_90 (by decide) ?_
    refine lv_iload F.1 F.2.1 dX14_feed_92 (lv_at hl 1 rfl) ?_
    refine lv_iconst (v := nI 4) F.1 F.2.1 dX14_feed_94 rfl ?_
    refine gRem F (by omega) (by omega) (by omega) dX14_feed_95 ?_
    refine gMul F dX14_feed_96 ?_
    refine gSub F (by omega) dX14_feed_97 ?_
    refine lv_ishr F.1 F.2.1 dX14_feed_98 ?_
    refine lv_i2b (v := sB (byS x1 24)) F.1 F.2.1 dX14_feed_99 (byS_i2b x1 0 (by decide)) ?_
    refine gStBY (w2 := (o, .inr (11, [.int (nI 0), .int (nI z1), .int z2, .int (nI z3), .ref z4, .ref z5, .int (bI z6), .ref z7, .ref z8, .int (nI z9), .int (nI z10), .int (nI z11), .int (nI z12), .int (nI z13), .int (nI z14), .int (nI z15), .long (lN z16), .ref z17, .int z18, .int (nI z19), .ref z20, .ref z21, .ref z22, .ref z23, .ref z24, .ref z25, .int (nI z26), .int (nI z27), .int (nI z28), .int z29, .int (nI z30), .int (nI z31), .ref z32, .ref z33, .ref z34, .ref z35, .ref z36, .int (bI z37), .int (nI z38), .int (nI z39), .int (nI z40), .int (nI z41), .int (nI z42), .int (nI z43), .int (nI z44), .int (nI z45), .int (nI z46), .ref z47, .ref z48, .ref z49, .ref z50, .ref z51, .ref z52, .int z53, .ref z54])) :: (z8, .inl (g.2.1 3, 600, .inl (yA (updN tp z9 (byS x1 24))))) :: R) F hG hW 1 rfl (by omega) (by decide) hS (byS_lt _ _) rfl dX14_feed_100 (fun H locs hW hS => ?_)
    refine lv_aload_n F.1 F.2.1 dX14_feed_101 rfl (lv_at hl 2 rfl) ?_
    refine lv_dup F.1 F.2.1 dX14_feed_102 rfl ?_
    refine gGet F hG hW nX14_feed_X14 0 rfl rfl 9 (by decide) mX14_feed_2 rfl dX14_feed_103 ?_
    refine lv_iconst (v := nI 1) F.1 F.2.1 dX14_feed_106 rfl ?_
    refine gAdd F dX14_feed_107 ?_
    refine gPut (w2 := (o, .inr (11, [.int (nI 0), .int (nI z1), .int z2, .int (nI z3), .ref z4, .ref z5, .int (bI z6), .ref z7, .ref z8, .int (nI (z9 + 1)), .int (nI z10), .int (nI z11), .int (nI z12), .int (nI z13), .int (nI z14), .int (nI z15), .long (lN z16), .ref z17, .int z18, .int (nI z19), .ref z20, .ref z21, .ref z22, .ref z23, .ref z24, .ref z25, .int (nI z26), .int (nI z27), .int (nI z28), .int z29, .int (nI z30), .int (nI z31), .ref z32, .ref z33, .ref z34, .ref z35, .ref z36, .int (bI z37), .int (nI z38), .int (nI z39), .int (nI z40), .int (nI z41), .int (nI z42), .int (nI z43), .int (nI z44), .int (nI z45), .int (nI z46), .ref z47, .ref z48, .ref z49, .ref z50, .ref z51, .ref z52, .int z53, .ref z54])) :: (z8, .inl (g.2.1 3, 600, .inl (yA (updN tp z9 (byS x1 24))))) :: R) F hS hG hW nX14_feed_X14 0 rfl rfl 9 (by decide) tyX14 tyX14_ok nmX14 mX14_feed_2 rfl rfl rfl rfl (Nat.le_of_ble_eq_true rfl) rfl dX14_feed_108 (fun H locs hW hS => ?_)
    refine lv_iinc (v := nI 1) (lv' := [(6, .int (nI 1)), (7, .int x1), (0, .ref o), (1, .int x1), (2, .int x2), (3, .int x3), (4, .int x4), (5, .int x5)]) F.1 F.2.1 dX14_feed_111 hl (k := 1) rfl (by decide) (by decide) rfl (fun ls hl => ?_)
    refine lv_goto (tgt := 23) F.1 F.2.1 dX14_feed_114 (by decide) ?_
    refine lv_iload F.1 F.2.1 dX14_feed_23 (lv_at hl 0 rfl) ?_
    refine lv_bipush (v := nI 20) F.1 F.2.1 dX14_feed_25 (by decide) ?_
    refine gGe (tgt := 117) F (by decide) (by decide) dX14_feed_27 (by decide) (fun c_27 => by exfalso; omega) (fun c_27 => ?_)
    refine lv_iload F.1 F.2.1 dX14_feed_30 (lv_at hl 0 rfl) ?_
    refine lv_iconst (v := nI 4) F.1 F.2.1 dX14_feed_32 rfl ?_
    refine gGe (tgt := 40) F (by decide) (by decide) dX14_feed_33 (by decide) (fun c_33 => by exfalso; omega) (fun c_33 => ?_)
    refine lv_iload_n F.1 F.2.1 dX14_feed_36 rfl (lv_at hl 3 rfl) ?_
    refine lv_goto (tgt := 76) F.1 F.2.1 dX14_feed_37 (by decide) ?_
    refine lv_istore (lv' := [(7, .int x1), (6, .int (nI 1)), (0, .ref o), (1, .int x1), (2, .int x2), (3, .int x3), (4, .int x4), (5, .int x5)]) F.1 F.2.1 dX14_feed_76 hl (by decide) rfl (fun ls hl => ?_)
    refine lv_aload_n F.1 F.2.1 dX14_feed_78 rfl (lv_at hl 2 rfl) ?_
    refine gGet F hG hW nX14_feed_X14 0 rfl rfl 8 (by decide) mX14_feed_3 rfl dX14_feed_79 ?_
    refine lv_aload_n F.1 F.2.1 dX14_feed_82 rfl (lv_at hl 2 rfl) ?_
    refine gGet F hG hW nX14_feed_X14 0 rfl rfl 9 (by decide) mX14_feed_2 rfl dX14_feed_83 ?_
    refine lv_iload F.1 F.2.1 dX14_feed_86 (lv_at hl 0 rfl) ?_
    refine lv_bipush (v := nI 24) F.1 F.2.1 dX14_feed_88 (by decide) ?_
    refine lv_bipush (v := nI 8) F.1 F.2.1 dX14_feed_90 (by decide) ?_
    refine lv_iload F.1 F.2.1 dX14_feed_92 (lv_at hl 1 rfl) ?_
    refine lv_iconst (v := nI 4) F.1 F.2.1 dX14_feed_94 rfl ?_
    refine gRem F (by omega) (by omega) (by omega) dX14_feed_95 ?_
    refine gMul F dX14_feed_96 ?_
    refine gSub F (by omega) dX14_feed_97 ?_
    refine lv_ishr F.1 F.2.1 dX14_feed_98 ?_
    refine lv_i2b (v := sB (byS x1 16)) F.1 F.2.1 dX14_feed_99 (byS_i2b x1 1 (by decide)) ?_
    refine gStBY (w2 := (o, .inr (11, [.int (nI 0), .int (nI z1), .int z2, .int (nI z3), .ref z4, .ref z5, .int (bI z6), .ref z7, .ref z8, .int (nI (z9 + 1)), .int (nI z10), .int (nI z11), .int (nI z12), .int (nI z13), .int (nI z14), .int (nI z15), .long (lN z16), .ref z17, .int z18, .int (nI z19), .ref z20, .ref z21, .ref z22, .ref z23, .ref z24, .ref z25, .int (nI z26), .int (nI z27), .int (nI z28), .int z29, .int (nI z30), .int (nI z31), .ref z32, .ref z33, .ref z34, .ref z35, .ref z36, .int (bI z37), .int (nI z38), .int (nI z39), .int (nI z40), .int (nI z41), .int (nI z42), .int (nI z43), .int (nI z44), .int (nI z45), .int (nI z46), .ref z47, .ref z48, .ref z49, .ref z50, .ref z51, .ref z52, .int z53, .ref z54])) :: (z8, .inl (g.2.1 3, 600, .inl (yA (updN (updN tp z9 (byS x1 24)) (z9 + 1) (byS x1 16))))) :: R) F hG hW 1 rfl (by omega) (by decide) hS (byS_lt _ _) rfl dX14_feed_100 (fun H locs hW hS => ?_)
    refine lv_aload_n F.1 F.2.1 dX14_feed_101 rfl (lv_at hl 2 rfl) ?_
    refine lv_dup F.1 F.2.1 dX14_feed_102 rfl ?_
    refine gGet F hG hW nX14_feed_X14 0 rfl rfl 9 (by decide) mX14_feed_2 rfl dX14_feed_103 ?_
    refine lv_iconst (v := nI 1) F.1 F.2.1 dX14_feed_106 rfl ?_
    refine gAdd F dX14_feed_107 ?_
    refine gPut (w2 := (o, .inr (11, [.int (nI 0), .int (nI z1), .int z2, .int (nI z3), .ref z4, .ref z5, .int (bI z6), .ref z7, .ref z8, .int (nI ((z9 + 1) + 1)), .int (nI z10), .int (nI z11), .int (nI z12), .int (nI z13), .int (nI z14), .int (nI z15), .long (lN z16), .ref z17, .int z18, .int (nI z19), .ref z20, .ref z21, .ref z22, .ref z23, .ref z24, .ref z25, .int (nI z26), .int (nI z27), .int (nI z28), .int z29, .int (nI z30), .int (nI z31), .ref z32, .ref z33, .ref z34, .ref z35, .ref z36, .int (bI z37), .int (nI z38), .int (nI z39), .int (nI z40), .int (nI z41), .int (nI z42), .int (nI z43), .int (nI z44), .int (nI z45), .int (nI z46), .ref z47, .ref z48, .ref z49, .ref z50, .ref z51, .ref z52, .int z53, .ref z54])) :: (z8, .inl (g.2.1 3, 600, .inl (yA (updN (updN tp z9 (byS x1 24)) (z9 + 1) (byS x1 16))))) :: R) F hS hG hW nX14_feed_X14 0 rfl rfl 9 (by decide) tyX14 tyX14_ok nmX14 mX14_feed_2 rfl rfl rfl rfl (Nat.le_of_ble_eq_true rfl) rfl dX14_feed_108 (fun H locs hW hS => ?_)
    refine lv_iinc (v := nI 2) (lv' := [(6, .int (nI 2)), (7, .int x1), (0, .ref o), (1, .int x1), (2, .int x2), (3, .int x3), (4, .int x4), (5, .int x5)]) F.1 F.2.1 dX14_feed_111 hl (k := 1) rfl (by decide) (by decide) rfl (fun ls hl => ?_)
    refine lv_goto (tgt := 23) F.1 F.2.1 dX14_feed_114 (by decide) ?_
    refine lv_iload F.1 F.2.1 dX14_feed_23 (lv_at hl 0 rfl) ?_
    refine lv_bipush (v := nI 20) F.1 F.2.1 dX14_feed_25 (by decide) ?_
    refine gGe (tgt := 117) F (by decide) (by decide) dX14_feed_27 (by decide) (fun c_27 => by exfalso; omega) (fun c_27 => ?_)
    refine lv_iload F.1 F.2.1 dX14_feed_30 (lv_at hl 0 rfl) ?_
    refine lv_iconst (v := nI 4) F.1 F.2.1 dX14_feed_32 rfl ?_
    refine gGe (tgt := 40) F (by decide) (by decide) dX14_feed_33 (by decide) (fun c_33 => by exfalso; omega) (fun c_33 => ?_)
    refine lv_iload_n F.1 F.2.1 dX14_feed_36 rfl (lv_at hl 3 rfl) ?_
    refine lv_goto (tgt := 76) F.1 F.2.1 dX14_feed_37 (by decide) ?_
    refine lv_istore (lv' := [(7, .int x1), (6, .int (nI 2)), (0, .ref o), (1, .int x1), (2, .int x2), (3, .int x3), (4, .int x4), (5, .int x5)]) F.1 F.2.1 dX14_feed_76 hl (by decide) rfl (fun ls hl => ?_)
    refine lv_aload_n F.1 F.2.1 dX14_feed_78 rfl (lv_at hl 2 rfl) ?_
    refine gGet F hG hW nX14_feed_X14 0 rfl rfl 8 (by decide) mX14_feed_3 rfl dX14_feed_79 ?_
    refine lv_aload_n F.1 F.2.1 dX14_feed_82 rfl (lv_at hl 2 rfl) ?_
    refine gGet F hG hW nX14_feed_X14 0 rfl rfl 9 (by decide) mX14_feed_2 rfl dX14_feed_83 ?_
    refine lv_iload F.1 F.2.1 dX14_feed_86 (lv_at hl 0 rfl) ?_
    refine lv_bipush (v := nI 24) F.1 F.2.1 dX14_feed_88 (by decide) ?_
    refine lv_bipush (v := nI 8) F.1 F.2.1 dX14_feed_90 (by decide) ?_
    refine lv_iload F.1 F.2.1 dX14_feed_92 (lv_at hl 1 rfl) ?_
    refine lv_iconst (v := nI 4) F.1 F.2.1 dX14_feed_94 rfl ?_
    refine gRem F (by omega) (by omega) (by omega) dX14_feed_95 ?_
    refine gMul F dX14_feed_96 ?_
    refine gSub F (by omega) dX14_feed_97 ?_
    refine lv_ishr F.1 F.2.1 dX14_feed_98 ?_
    refine lv_i2b (v := sB (byS x1 8)) F.1 F.2.1 dX14_feed_99 (byS_i2b x1 2 (by decide)) ?_
    refine gStBY (w2 := (o, .inr (11, [.int (nI 0), .int (nI z1), .int z2, .int (nI z3), .ref z4, .ref z5, .int (bI z6), .ref z7, .ref z8, .int (nI ((z9 + 1) + 1)), .int (nI z10), .int (nI z11), .int (nI z12), .int (nI z13), .int (nI z14), .int (nI z15), .long (lN z16), .ref z17, .int z18, .int (nI z19), .ref z20, .ref z21, .ref z22, .ref z23, .ref z24, .ref z25, .int (nI z26), .int (nI z27), .int (nI z28), .int z29, .int (nI z30), .int (nI z31), .ref z32, .ref z33, .ref z34, .ref z35, .ref z36, .int (bI z37), .int (nI z38), .int (nI z39), .int (nI z40), .int (nI z41), .int (nI z42), .int (nI z43), .int (nI z44), .int (nI z45), .int (nI z46), .ref z47, .ref z48, .ref z49, .ref z50, .ref z51, .ref z52, .int z53, .ref z54])) :: (z8, .inl (g.2.1 3, 600, .inl (yA (updN (updN (updN tp z9 (byS x1 24)) (z9 + 1) (byS x1 16)) ((z9 + 1) + 1) (byS x1 8))))) :: R) F hG hW 1 rfl (by omega) (by decide) hS (byS_lt _ _) rfl dX14_feed_100 (fun H locs hW hS => ?_)
    refine lv_aload_n F.1 F.2.1 dX14_feed_101 rfl (lv_at hl 2 rfl) ?_
    refine lv_dup F.1 F.2.1 dX14_feed_102 rfl ?_
    refine gGet F hG hW nX14_feed_X14 0 rfl rfl 9 (by decide) mX14_feed_2 rfl dX14_feed_103 ?_
    refine lv_iconst (v := nI 1) F.1 F.2.1 dX14_feed_106 rfl ?_
    refine gAdd F dX14_feed_107 ?_
    refine gPut (w2 := (o, .inr (11, [.int (nI 0), .int (nI z1), .int z2, .int (nI z3), .ref z4, .ref z5, .int (bI z6), .ref z7, .ref z8, .int (nI (((z9 + 1) + 1) + 1)), .int (nI z10), .int (nI z11), .int (nI z12), .int (nI z13), .int (nI z14), .int (nI z15), .long (lN z16), .ref z17, .int z18, .int (nI z19), .ref z20, .ref z21, .ref z22, .ref z23, .ref z24, .ref z25, .int (nI z26), .int (nI z27), .int (nI z28), .int z29, .int (nI z30), .int (nI z31), .ref z32, .ref z33, .ref z34, .ref z35, .ref z36, .int (bI z37), .int (nI z38), .int (nI z39), .int (nI z40), .int (nI z41), .int (nI z42), .int (nI z43), .int (nI z44), .int (nI z45), .int (nI z46), .ref z47, .ref z48, .ref z49, .ref z50, .ref z51, .ref z52, .int z53, .ref z54])) :: (z8, .inl (g.2.1 3, 600, .inl (yA (updN (updN (updN tp z9 (byS x1 24)) (z9 + 1) (byS x1 16)) ((z9 + 1) + 1) (byS x1 8))))) :: R) F hS hG hW nX14_feed_X14 0 rfl rfl 9 (by decide) tyX14 tyX14_ok nmX14 mX14_feed_2 rfl rfl rfl rfl (Nat.le_of_ble_eq_true rfl) rfl dX14_feed_108 (fun H locs hW hS => ?_)
    refine lv_iinc (v := nI 3) (lv' := [(6, .int (nI 3)), (7, .int x1), (0, .ref o), (1, .int x1), (2, .int x2), (3, .int x3), (4, .int x4), (5, .int x5)]) F.1 F.2.1 dX14_feed_111 hl (k := 1) rfl (by decide) (by decide) rfl (fun ls hl => ?_)
    refine lv_goto (tgt := 23) F.1 F.2.1 dX14_feed_114 (by decide) ?_
    refine lv_iload F.1 F.2.1 dX14_feed_23 (lv_at hl 0 rfl) ?_
    refine lv_bipush (v := nI 20) F.1 F.2.1 dX14_feed_25 (by decide) ?_
    refine gGe (tgt := 117) F (by decide) (by decide) dX14_feed_27 (by decide) (fun c_27 => by exfalso; omega) (fun c_27 => ?_)
    refine lv_iload F.1 F.2.1 dX14_feed_30 (lv_at hl 0 rfl) ?_
    refine lv_iconst (v := nI 4) F.1 F.2.1 dX14_feed_32 rfl ?_
    refine gGe (tgt := 40) F (by decide) (by decide) dX14_feed_33 (by decide) (fun c_33 => by exfalso; omega) (fun c_33 => ?_)
    refine lv_iload_n F.1 F.2.1 dX14_feed_36 rfl (lv_at hl 3 rfl) ?_
    refine lv_goto (tgt := 76) F.1 F.2.1 dX14_feed_37 (by decide) ?_
    refine lv_istore (lv' := [(7, .int x1), (6, .int (nI 3)), (0, .ref o), (1, .int x1), (2, .int x2), (3, .int x3), (4, .int x4), (5, .int x5)]) F.1 F.2.1 dX14_feed_76 hl (by decide) rfl (fun ls hl => ?_)
    refine lv_aload_n F.1 F.2.1 dX14_feed_78 rfl (lv_at hl 2 rfl) ?_
    refine gGet F hG hW nX14_feed_X14 0 rfl rfl 8 (by decide) mX14_feed_3 rfl dX14_feed_79 ?_
    refine lv_aload_n F.1 F.2.1 dX14_feed_82 rfl (lv_at hl 2 rfl) ?_
    refine gGet F hG hW nX14_feed_X14 0 rfl rfl 9 (by decide) mX14_feed_2 rfl dX14_feed_83 ?_
    refine lv_iload F.1 F.2.1 dX14_feed_86 (lv_at hl 0 rfl) ?_
    refine lv_bipush (v := nI 24) F.1 F.2.1 dX14_feed_88 (by decide) ?_
    refine lv_bipush (v := nI 8) F.1 F.2.1 dX14_feed_90 (by decide) ?_
    refine lv_iload F.1 F.2.1 dX14_feed_92 (lv_at hl 1 rfl) ?_
    refine lv_iconst (v := nI 4) F.1 F.2.1 dX14_feed_94 rfl ?_
    refine gRem F (by omega) (by omega) (by omega) dX14_feed_95 ?_
    refine gMul F dX14_feed_96 ?_
    refine gSub F (by omega) dX14_feed_97 ?_
    refine lv_ishr F.1 F.2.1 dX14_feed_98 ?_
    refine lv_i2b (v := sB (byS x1 0)) F.1 F.2.1 dX14_feed_99 (byS_i2b x1 3 (by decide)) ?_
    refine gStBY (w2 := (o, .inr (11, [.int (nI 0), .int (nI z1), .int z2, .int (nI z3), .ref z4, .ref z5, .int (bI z6), .ref z7, .ref z8, .int (nI (((z9 + 1) + 1) + 1)), .int (nI z10), .int (nI z11), .int (nI z12), .int (nI z13), .int (nI z14), .int (nI z15), .long (lN z16), .ref z17, .int z18, .int (nI z19), .ref z20, .ref z21, .ref z22, .ref z23, .ref z24, .ref z25, .int (nI z26), .int (nI z27), .int (nI z28), .int z29, .int (nI z30), .int (nI z31), .ref z32, .ref z33, .ref z34, .ref z35, .ref z36, .int (bI z37), .int (nI z38), .int (nI z39), .int (nI z40), .int (nI z41), .int (nI z42), .int (nI z43), .int (nI z44), .int (nI z45), .int (nI z46), .ref z47, .ref z48, .ref z49, .ref z50, .ref z51, .ref z52, .int z53, .ref z54])) :: (z8, .inl (g.2.1 3, 600, .inl (yA (updN (updN (updN (updN tp z9 (byS x1 24)) (z9 + 1) (byS x1 16)) ((z9 + 1) + 1) (byS x1 8)) (((z9 + 1) + 1) + 1) (byS x1 0))))) :: R) F hG hW 1 rfl (by omega) (by decide) hS (byS_lt _ _) rfl dX14_feed_100 (fun H locs hW hS => ?_)
    refine lv_aload_n F.1 F.2.1 dX14_feed_101 rfl (lv_at hl 2 rfl) ?_
    refine lv_dup F.1 F.2.1 dX14_feed_102 rfl ?_
    refine gGet F hG hW nX14_feed_X14 0 rfl rfl 9 (by decide) mX14_feed_2 rfl dX14_feed_103 ?_
    refine lv_iconst (v := nI 1) F.1 F.2.1 dX14_feed_106 rfl ?_
    refine gAdd F dX14_feed_107 ?_
    refine gPut (w2 := (o, .inr (11, [.int (nI 0), .int (nI z1), .int z2, .int (nI z3), .ref z4, .ref z5, .int (bI z6), .ref z7, .ref z8, .int (nI ((((z9 + 1) + 1) + 1) + 1)), .int (nI z10), .int (nI z11), .int (nI z12), .int (nI z13), .int (nI z14), .int (nI z15), .long (lN z16), .ref z17, .int z18, .int (nI z19), .ref z20, .ref z21, .ref z22, .ref z23, .ref z24, .ref z25, .int (nI z26), .int (nI z27), .int (nI z28), .int z29, .int (nI z30), .int (nI z31), .ref z32, .ref z33, .ref z34, .ref z35, .ref z36, .int (bI z37), .int (nI z38), .int (nI z39), .int (nI z40), .int (nI z41), .int (nI z42), .int (nI z43), .int (nI z44), .int (nI z45), .int (nI z46), .ref z47, .ref z48, .ref z49, .ref z50, .ref z51, .ref z52, .int z53, .ref z54])) :: (z8, .inl (g.2.1 3, 600, .inl (yA (updN (updN (updN (updN tp z9 (byS x1 24)) (z9 + 1) (byS x1 16)) ((z9 + 1) + 1) (byS x1 8)) (((z9 + 1) + 1) + 1) (byS x1 0))))) :: R) F hS hG hW nX14_feed_X14 0 rfl rfl 9 (by decide) tyX14 tyX14_ok nmX14 mX14_feed_2 rfl rfl rfl rfl (Nat.le_of_ble_eq_true rfl) rfl dX14_feed_108 (fun H locs hW hS => ?_)
    refine lv_iinc (v := nI 4) (lv' := [(6, .int (nI 4)), (7, .int x1), (0, .ref o), (1, .int x1), (2, .int x2), (3, .int x3), (4, .int x4), (5, .int x5)]) F.1 F.2.1 dX14_feed_111 hl (k := 1) rfl (by decide) (by decide) rfl (fun ls hl => ?_)
    refine lv_goto (tgt := 23) F.1 F.2.1 dX14_feed_114 (by decide) ?_
    refine lv_iload F.1 F.2.1 dX14_feed_23 (lv_at hl 0 rfl) ?_
    refine lv_bipush (v := nI 20) F.1 F.2.1 dX14_feed_25 (by decide) ?_
    refine gGe (tgt := 117) F (by decide) (by decide) dX14_feed_27 (by decide) (fun c_27 => by exfalso; omega) (fun c_27 => ?_)
    refine lv_iload F.1 F.2.1 dX14_feed_30 (lv_at hl 0 rfl) ?_
    refine lv_iconst (v := nI 4) F.1 F.2.1 dX14_feed_32 rfl ?_
    refine gGe (tgt := 40) F (by decide) (by decide) dX14_feed_33 (by decide) (fun c_33 => ?_) (fun c_33 => by exfalso; omega)
    refine lv_iload F.1 F.2.1 dX14_feed_40 (lv_at hl 0 rfl) ?_
    refine lv_bipush (v := nI 8) F.1 F.2.1 dX14_feed_42 (by decide) ?_
    refine gGe (tgt := 51) F (by decide) (by decide) dX14_feed_44 (by decide) (fun c_44 => by exfalso; omega) (fun c_44 => ?_)
    refine lv_iload_n F.1 F.2.1 dX14_feed_47 rfl (lv_at hl 4 rfl) ?_
    refine lv_goto (tgt := 76) F.1 F.2.1 dX14_feed_48 (by decide) ?_
    refine lv_istore (lv' := [(7, .int x2), (6, .int (nI 4)), (0, .ref o), (1, .int x1), (2, .int x2), (3, .int x3), (4, .int x4), (5, .int x5)]) F.1 F.2.1 dX14_feed_76 hl (by decide) rfl (fun ls hl => ?_)
    refine lv_aload_n F.1 F.2.1 dX14_feed_78 rfl (lv_at hl 2 rfl) ?_
    refine gGet F hG hW nX14_feed_X14 0 rfl rfl 8 (by decide) mX14_feed_3 rfl dX14_feed_79 ?_
    refine lv_aload_n F.1 F.2.1 dX14_feed_82 rfl (lv_at hl 2 rfl) ?_
    refine gGet F hG hW nX14_feed_X14 0 rfl rfl 9 (by decide) mX14_feed_2 rfl dX14_feed_83 ?_
    refine lv_iload F.1 F.2.1 dX14_feed_86 (lv_at hl 0 rfl) ?_
    refine lv_bipush (v := nI 24) F.1 F.2.1 dX14_feed_88 (by decide) ?_
    refine lv_bipush (v := nI 8) F.1 F.2.1 dX14_feed_90 (by decide) ?_
    refine lv_iload F.1 F.2.1 dX14_feed_92 (lv_at hl 1 rfl) ?_
    refine lv_iconst (v := nI 4) F.1 F.2.1 dX14_feed_94 rfl ?_
    refine gRem F (by omega) (by omega) (by omega) dX14_feed_95 ?_
    refine gMul F dX14_feed_96 ?_
    refine gSub F (by omega) dX14_feed_97 ?_
    refine lv_ishr F.1 F.2.1 dX14_feed_98 ?_
    refine lv_i2b (v := sB (byS x2 24)) F.1 F.2.1 dX14_feed_99 (byS_i2b x2 0 (by decide)) ?_
    refine gStBY (w2 := (o, .inr (11, [.int (nI 0), .int (nI z1), .int z2, .int (nI z3), .ref z4, .ref z5, .int (bI z6), .ref z7, .ref z8, .int (nI ((((z9 + 1) + 1) + 1) + 1)), .int (nI z10), .int (nI z11), .int (nI z12), .int (nI z13), .int (nI z14), .int (nI z15), .long (lN z16), .ref z17, .int z18, .int (nI z19), .ref z20, .ref z21, .ref z22, .ref z23, .ref z24, .ref z25, .int (nI z26), .int (nI z27), .int (nI z28), .int z29, .int (nI z30), .int (nI z31), .ref z32, .ref z33, .ref z34, .ref z35, .ref z36, .int (bI z37), .int (nI z38), .int (nI z39), .int (nI z40), .int (nI z41), .int (nI z42), .int (nI z43), .int (nI z44), .int (nI z45), .int (nI z46), .ref z47, .ref z48, .ref z49, .ref z50, .ref z51, .ref z52, .int z53, .ref z54])) :: (z8, .inl (g.2.1 3, 600, .inl (yA (updN (updN (updN (updN (updN tp z9 (byS x1 24)) (z9 + 1) (byS x1 16)) ((z9 + 1) + 1) (byS x1 8)) (((z9 + 1) + 1) + 1) (byS x1 0)) ((((z9 + 1) + 1) + 1) + 1) (byS x2 24))))) :: R) F hG hW 1 rfl (by omega) (by decide) hS (byS_lt _ _) rfl dX14_feed_100 (fun H locs hW hS => ?_)
    refine lv_aload_n F.1 F.2.1 dX14_feed_101 rfl (lv_at hl 2 rfl) ?_
    refine lv_dup F.1 F.2.1 dX14_feed_102 rfl ?_
    refine gGet F hG hW nX14_feed_X14 0 rfl rfl 9 (by decide) mX14_feed_2 rfl dX14_feed_103 ?_
    refine lv_iconst (v := nI 1) F.1 F.2.1 dX14_feed_106 rfl ?_
    refine gAdd F dX14_feed_107 ?_
    refine gPut (w2 := (o, .inr (11, [.int (nI 0), .int (nI z1), .int z2, .int (nI z3), .ref z4, .ref z5, .int (bI z6), .ref z7, .ref z8, .int (nI (((((z9 + 1) + 1) + 1) + 1) + 1)), .int (nI z10), .int (nI z11), .int (nI z12), .int (nI z13), .int (nI z14), .int (nI z15), .long (lN z16), .ref z17, .int z18, .int (nI z19), .ref z20, .ref z21, .ref z22, .ref z23, .ref z24, .ref z25, .int (nI z26), .int (nI z27), .int (nI z28), .int z29, .int (nI z30), .int (nI z31), .ref z32, .ref z33, .ref z34, .ref z35, .ref z36, .int (bI z37), .int (nI z38), .int (nI z39), .int (nI z40), .int (nI z41), .int (nI z42), .int (nI z43), .int (nI z44), .int (nI z45), .int (nI z46), .ref z47, .ref z48, .ref z49, .ref z50, .ref z51, .ref z52, .int z53, .ref z54])) :: (z8, .inl (g.2.1 3, 600, .inl (yA (updN (updN (updN (updN (updN tp z9 (byS x1 24)) (z9 + 1) (byS x1 16)) ((z9 + 1) + 1) (byS x1 8)) (((z9 + 1) + 1) + 1) (byS x1 0)) ((((z9 + 1) + 1) + 1) + 1) (byS x2 24))))) :: R) F hS hG hW nX14_feed_X14 0 rfl rfl 9 (by decide) tyX14 tyX14_ok nmX14 mX14_feed_2 rfl rfl rfl rfl (Nat.le_of_ble_eq_true rfl) rfl dX14_feed_108 (fun H locs hW hS => ?_)
    refine lv_iinc (v := nI 5) (lv' := [(6, .int (nI 5)), (7, .int x2), (0, .ref o), (1, .int x1), (2, .int x2), (3, .int x3), (4, .int x4), (5, .int x5)]) F.1 F.2.1 dX14_feed_111 hl (k := 1) rfl (by decide) (by decide) rfl (fun ls hl => ?_)
    refine lv_goto (tgt := 23) F.1 F.2.1 dX14_feed_114 (by decide) ?_
    refine lv_iload F.1 F.2.1 dX14_feed_23 (lv_at hl 0 rfl) ?_
    refine lv_bipush (v := nI 20) F.1 F.2.1 dX14_feed_25 (by decide) ?_
    refine gGe (tgt := 117) F (by decide) (by decide) dX14_feed_27 (by decide) (fun c_27 => by exfalso; omega) (fun c_27 => ?_)
    refine lv_iload F.1 F.2.1 dX14_feed_30 (lv_at hl 0 rfl) ?_
    refine lv_iconst (v := nI 4) F.1 F.2.1 dX14_feed_32 rfl ?_
    refine gGe (tgt := 40) F (by decide) (by decide) dX14_feed_33 (by decide) (fun c_33 => ?_) (fun c_33 => by exfalso; omega)
    refine lv_iload F.1 F.2.1 dX14_feed_40 (lv_at hl 0 rfl) ?_
    refine lv_bipush (v := nI 8) F.1 F.2.1 dX14_feed_42 (by decide) ?_
    refine gGe (tgt := 51) F (by decide) (by decide) dX14_feed_44 (by decide) (fun c_44 => by exfalso; omega) (fun c_44 => ?_)
    refine lv_iload_n F.1 F.2.1 dX14_feed_47 rfl (lv_at hl 4 rfl) ?_
    refine lv_goto (tgt := 76) F.1 F.2.1 dX14_feed_48 (by decide) ?_
    refine lv_istore (lv' := [(7, .int x2), (6, .int (nI 5)), (0, .ref o), (1, .int x1), (2, .int x2), (3, .int x3), (4, .int x4), (5, .int x5)]) F.1 F.2.1 dX14_feed_76 hl (by decide) rfl (fun ls hl => ?_)
    refine lv_aload_n F.1 F.2.1 dX14_feed_78 rfl (lv_at hl 2 rfl) ?_
    refine gGet F hG hW nX14_feed_X14 0 rfl rfl 8 (by decide) mX14_feed_3 rfl dX14_feed_79 ?_
    refine lv_aload_n F.1 F.2.1 dX14_feed_82 rfl (lv_at hl 2 rfl) ?_
    refine gGet F hG hW nX14_feed_X14 0 rfl rfl 9 (by decide) mX14_feed_2 rfl dX14_feed_83 ?_
    refine lv_iload F.1 F.2.1 dX14_feed_86 (lv_at hl 0 rfl) ?_
    refine lv_bipush (v := nI 24) F.1 F.2.1 dX14_feed_88 (by decide) ?_
    refine lv_bipush (v := nI 8) F.1 F.2.1 dX14_feed_90 (by decide) ?_
    refine lv_iload F.1 F.2.1 dX14_feed_92 (lv_at hl 1 rfl) ?_
    refine lv_iconst (v := nI 4) F.1 F.2.1 dX14_feed_94 rfl ?_
    refine gRem F (by omega) (by omega) (by omega) dX14_feed_95 ?_
    refine gMul F dX14_feed_96 ?_
    refine gSub F (by omega) dX14_feed_97 ?_
    refine lv_ishr F.1 F.2.1 dX14_feed_98 ?_
    refine lv_i2b (v := sB (byS x2 16)) F.1 F.2.1 dX14_feed_99 (byS_i2b x2 1 (by decide)) ?_
    refine gStBY (w2 := (o, .inr (11, [.int (nI 0), .int (nI z1), .int z2, .int (nI z3), .ref z4, .ref z5, .int (bI z6), .ref z7, .ref z8, .int (nI (((((z9 + 1) + 1) + 1) + 1) + 1)), .int (nI z10), .int (nI z11), .int (nI z12), .int (nI z13), .int (nI z14), .int (nI z15), .long (lN z16), .ref z17, .int z18, .int (nI z19), .ref z20, .ref z21, .ref z22, .ref z23, .ref z24, .ref z25, .int (nI z26), .int (nI z27), .int (nI z28), .int z29, .int (nI z30), .int (nI z31), .ref z32, .ref z33, .ref z34, .ref z35, .ref z36, .int (bI z37), .int (nI z38), .int (nI z39), .int (nI z40), .int (nI z41), .int (nI z42), .int (nI z43), .int (nI z44), .int (nI z45), .int (nI z46), .ref z47, .ref z48, .ref z49, .ref z50, .ref z51, .ref z52, .int z53, .ref z54])) :: (z8, .inl (g.2.1 3, 600, .inl (yA (updN (updN (updN (updN (updN (updN tp z9 (byS x1 24)) (z9 + 1) (byS x1 16)) ((z9 + 1) + 1) (byS x1 8)) (((z9 + 1) + 1) + 1) (byS x1 0)) ((((z9 + 1) + 1) + 1) + 1) (byS x2 24)) (((((z9 + 1) + 1) + 1) + 1) + 1) (byS x2 16))))) :: R) F hG hW 1 rfl (by omega) (by decide) hS (byS_lt _ _) rfl dX14_feed_100 (fun H locs hW hS => ?_)
    refine lv_aload_n F.1 F.2.1 dX14_feed_101 rfl (lv_at hl 2 rfl) ?_
    refine lv_dup F.1 F.2.1 dX14_feed_102 rfl ?_
    refine gGet F hG hW nX14_feed_X14 0 rfl rfl 9 (by decide) mX14_feed_2 rfl dX14_feed_103 ?_
    refine lv_iconst (v := nI 1) F.1 F.2.1 dX14_feed_106 rfl ?_
    refine gAdd F dX14_feed_107 ?_
    refine gPut (w2 := (o, .inr (11, [.int (nI 0), .int (nI z1), .int z2, .int (nI z3), .ref z4, .ref z5, .int (bI z6), .ref z7, .ref z8, .int (nI ((((((z9 + 1) + 1) + 1) + 1) + 1) + 1)), .int (nI z10), .int (nI z11), .int (nI z12), .int (nI z13), .int (nI z14), .int (nI z15), .long (lN z16), .ref z17, .int z18, .int (nI z19), .ref z20, .ref z21, .ref z22, .ref z23, .ref z24, .ref z25, .int (nI z26), .int (nI z27), .int (nI z28), .int z29, .int (nI z30), .int (nI z31), .ref z32, .ref z33, .ref z34, .ref z35, .ref z36, .int (bI z37), .int (nI z38), .int (nI z39), .int (nI z40), .int (nI z41), .int (nI z42), .int (nI z43), .int (nI z44), .int (nI z45), .int (nI z46), .ref z47, .ref z48, .ref z49, .ref z50, .ref z51, .ref z52, .int z53, .ref z54])) :: (z8, .inl (g.2.1 3, 600, .inl (yA (updN (updN (updN (updN (updN (updN tp z9 (byS x1 24)) (z9 + 1) (byS x1 16)) ((z9 + 1) + 1) (byS x1 8)) (((z9 + 1) + 1) + 1) (byS x1 0)) ((((z9 + 1) + 1) + 1) + 1) (byS x2 24)) (((((z9 + 1) + 1) + 1) + 1) + 1) (byS x2 16))))) :: R) F hS hG hW nX14_feed_X14 0 rfl rfl 9 (by decide) tyX14 tyX14_ok nmX14 mX14_feed_2 rfl rfl rfl rfl (Nat.le_of_ble_eq_true rfl) rfl dX14_feed_108 (fun H locs hW hS => ?_)
    refine lv_iinc (v := nI 6) (lv' := [(6, .int (nI 6)), (7, .int x2), (0, .ref o), (1, .int x1), (2, .int x2), (3, .int x3), (4, .int x4), (5, .int x5)]) F.1 F.2.1 dX14_feed_111 hl (k := 1) rfl (by decide) (by decide) rfl (fun ls hl => ?_)
    refine lv_goto (tgt := 23) F.1 F.2.1 dX14_feed_114 (by decide) ?_
    refine lv_iload F.1 F.2.1 dX14_feed_23 (lv_at hl 0 rfl) ?_
    refine lv_bipush (v := nI 20) F.1 F.2.1 dX14_feed_25 (by decide) ?_
    refine gGe (tgt := 117) F (by decide) (by decide) dX14_feed_27 (by decide) (fun c_27 => by exfalso; omega) (fun c_27 => ?_)
    refine lv_iload F.1 F.2.1 dX14_feed_30 (lv_at hl 0 rfl) ?_
    refine lv_iconst (v := nI 4) F.1 F.2.1 dX14_feed_32 rfl ?_
    refine gGe (tgt := 40) F (by decide) (by decide) dX14_feed_33 (by decide) (fun c_33 => ?_) (fun c_33 => by exfalso; omega)
    refine lv_iload F.1 F.2.1 dX14_feed_40 (lv_at hl 0 rfl) ?_
    refine lv_bipush (v := nI 8) F.1 F.2.1 dX14_feed_42 (by decide) ?_
    refine gGe (tgt := 51) F (by decide) (by decide) dX14_feed_44 (by decide) (fun c_44 => by exfalso; omega) (fun c_44 => ?_)
    refine lv_iload_n F.1 F.2.1 dX14_feed_47 rfl (lv_at hl 4 rfl) ?_
    refine lv_goto (tgt := 76) F.1 F.2.1 dX14_feed_48 (by decide) ?_
    refine lv_istore (lv' := [(7, .int x2), (6, .int (nI 6)), (0, .ref o), (1, .int x1), (2, .int x2), (3, .int x3), (4, .int x4), (5, .int x5)]) F.1 F.2.1 dX14_feed_76 hl (by decide) rfl (fun ls hl => ?_)
    refine lv_aload_n F.1 F.2.1 dX14_feed_78 rfl (lv_at hl 2 rfl) ?_
    refine gGet F hG hW nX14_feed_X14 0 rfl rfl 8 (by decide) mX14_feed_3 rfl dX14_feed_79 ?_
    refine lv_aload_n F.1 F.2.1 dX14_feed_82 rfl (lv_at hl 2 rfl) ?_
    refine gGet F hG hW nX14_feed_X14 0 rfl rfl 9 (by decide) mX14_feed_2 rfl dX14_feed_83 ?_
    refine lv_iload F.1 F.2.1 dX14_feed_86 (lv_at hl 0 rfl) ?_
    refine lv_bipush (v := nI 24) F.1 F.2.1 dX14_feed_88 (by decide) ?_
    refine lv_bipush (v := nI 8) F.1 F.2.1 dX14_feed_90 (by decide) ?_
    refine lv_iload F.1 F.2.1 dX14_feed_92 (lv_at hl 1 rfl) ?_
    refine lv_iconst (v := nI 4) F.1 F.2.1 dX14_feed_94 rfl ?_
    refine gRem F (by omega) (by omega) (by omega) dX14_feed_95 ?_
    refine gMul F dX14_feed_96 ?_
    refine gSub F (by omega) dX14_feed_97 ?_
    refine lv_ishr F.1 F.2.1 dX14_feed_98 ?_
    refine lv_i2b (v := sB (byS x2 8)) F.1 F.2.1 dX14_feed_99 (byS_i2b x2 2 (by decide)) ?_
    refine gStBY (w2 := (o, .inr (11, [.int (nI 0), .int (nI z1), .int z2, .int (nI z3), .ref z4, .ref z5, .int (bI z6), .ref z7, .ref z8, .int (nI ((((((z9 + 1) + 1) + 1) + 1) + 1) + 1)), .int (nI z10), .int (nI z11), .int (nI z12), .int (nI z13), .int (nI z14), .int (nI z15), .long (lN z16), .ref z17, .int z18, .int (nI z19), .ref z20, .ref z21, .ref z22, .ref z23, .ref z24, .ref z25, .int (nI z26), .int (nI z27), .int (nI z28), .int z29, .int (nI z30), .int (nI z31), .ref z32, .ref z33, .ref z34, .ref z35, .ref z36, .int (bI z37), .int (nI z38), .int (nI z39), .int (nI z40), .int (nI z41), .int (nI z42), .int (nI z43), .int (nI z44), .int (nI z45), .int (nI z46), .ref z47, .ref z48, .ref z49, .ref z50, .ref z51, .ref z52, .int z53, .ref z54])) :: (z8, .inl (g.2.1 3, 600, .inl (yA (updN (updN (updN (updN (updN (updN (updN tp z9 (byS x1 24)) (z9 + 1) (byS x1 16)) ((z9 + 1) + 1) (byS x1 8)) (((z9 + 1) + 1) + 1) (byS x1 0)) ((((z9 + 1) + 1) + 1) + 1) (byS x2 24)) (((((z9 + 1) + 1) + 1) + 1) + 1) (byS x2 16)) ((((((z9 + 1) + 1) + 1) + 1) + 1) + 1) (byS x2 8))))) :: R) F hG hW 1 rfl (by omega) (by decide) hS (byS_lt _ _) rfl dX14_feed_100 (fun H locs hW hS => ?_)
    refine lv_aload_n F.1 F.2.1 dX14_feed_101 rfl (lv_at hl 2 rfl) ?_
    refine lv_dup F.1 F.2.1 dX14_feed_102 rfl ?_
    refine gGet F hG hW nX14_feed_X14 0 rfl rfl 9 (by decide) mX14_feed_2 rfl dX14_feed_103 ?_
    refine lv_iconst (v := nI 1) F.1 F.2.1 dX14_feed_106 rfl ?_
    refine gAdd F dX14_feed_107 ?_
    refine gPut (w2 := (o, .inr (11, [.int (nI 0), .int (nI z1), .int z2, .int (nI z3), .ref z4, .ref z5, .int (bI z6), .ref z7, .ref z8, .int (nI (((((((z9 + 1) + 1) + 1) + 1) + 1) + 1) + 1)), .int (nI z10), .int (nI z11), .int (nI z12), .int (nI z13), .int (nI z14), .int (nI z15), .long (lN z16), .ref z17, .int z18, .int (nI z19), .ref z20, .ref z21, .ref z22, .ref z23, .ref z24, .ref z25, .int (nI z26), .int (nI z27), .int (nI z28), .int z29, .int (nI z30), .int (nI z31), .ref z32, .ref z33, .ref z34, .ref z35, .ref z36, .int (bI z37), .int (nI z38), .int (nI z39), .int (nI z40), .int (nI z41), .int (nI z42), .int (nI z43), .int (nI z44), .int (nI z45), .int (nI z46), .ref z47, .ref z48, .ref z49, .ref z50, .ref z51, .ref z52, .int z53, .ref z54])) :: (z8, .inl (g.2.1 3, 600, .inl (yA (updN (updN (updN (updN (updN (updN (updN tp z9 (byS x1 24)) (z9 + 1) (byS x1 16)) ((z9 + 1) + 1) (byS x1 8)) (((z9 + 1) + 1) + 1) (byS x1 0)) ((((z9 + 1) + 1) + 1) + 1) (byS x2 24)) (((((z9 + 1) + 1) + 1) + 1) + 1) (byS x2 16)) ((((((z9 + 1) + 1) + 1) + 1) + 1) + 1) (byS x2 8))))) :: R) F hS hG hW nX14_feed_X14 0 rfl rfl 9 (by decide) tyX14 tyX14_ok nmX14 mX14_feed_2 rfl rfl rfl rfl (Nat.le_of_ble_eq_true rfl) rfl dX14_feed_108 (fun H locs hW hS => ?_)
    refine lv_iinc (v := nI 7) (lv' := [(6, .int (nI 7)), (7, .int x2), (0, .ref o), (1, .int x1), (2, .int x2), (3, .int x3), (4, .int x4), (5, .int x5)]) F.1 F.2.1 dX14_feed_111 hl (k := 1) rfl (by decide) (by decide) rfl (fun ls hl => ?_)
    refine lv_goto (tgt := 23) F.1 F.2.1 dX14_feed_114 (by decide) ?_
    refine lv_iload F.1 F.2.1 dX14_feed_23 (lv_at hl 0 rfl) ?_
    refine lv_bipush (v := nI 20) F.1 F.2.1 dX14_feed_25 (by decide) ?_
    refine gGe (tgt := 117) F (by decide) (by decide) dX14_feed_27 (by decide) (fun c_27 => by exfalso; omega) (fun c_27 => ?_)
    refine lv_iload F.1 F.2.1 dX14_feed_30 (lv_at hl 0 rfl) ?_
    refine lv_iconst (v := nI 4) F.1 F.2.1 dX14_feed_32 rfl ?_
    refine gGe (tgt := 40) F (by decide) (by decide) dX14_feed_33 (by decide) (fun c_33 => ?_) (fun c_33 => by exfalso; omega)
    refine lv_iload F.1 F.2.1 dX14_feed_40 (lv_at hl 0 rfl) ?_
    refine lv_bipush (v := nI 8) F.1 F.2.1 dX14_feed_42 (by decide) ?_
    refine gGe (tgt := 51) F (by decide) (by decide) dX14_feed_44 (by decide) (fun c_44 => by exfalso; omega) (fun c_44 => ?_)
    refine lv_iload_n F.1 F.2.1 dX14_feed_47 rfl (lv_at hl 4 rfl) ?_
    refine lv_goto (tgt := 76) F.1 F.2.1 dX14_feed_48 (by decide) ?_
    refine lv_istore (lv' := [(7, .int x2), (6, .int (nI 7)), (0, .ref o), (1, .int x1), (2, .int x2), (3, .int x3), (4, .int x4), (5, .int x5)]) F.1 F.2.1 dX14_feed_76 hl (by decide) rfl (fun ls hl => ?_)
    refine lv_aload_n F.1 F.2.1 dX14_feed_78 rfl (lv_at hl 2 rfl) ?_
    refine gGet F hG hW nX14_feed_X14 0 rfl rfl 8 (by decide) mX14_feed_3 rfl dX14_feed_79 ?_
    refine lv_aload_n F.1 F.2.1 dX14_feed_82 rfl (lv_at hl 2 rfl) ?_
    refine gGet F hG hW nX14_feed_X14 0 rfl rfl 9 (by decide) mX14_feed_2 rfl dX14_feed_83 ?_
    refine lv_iload F.1 F.2.1 dX14_feed_86 (lv_at hl 0 rfl) ?_
    refine lv_bipush (v := nI 24) F.1 F.2.1 dX14_feed_88 (by decide) ?_
    refine lv_bipush (v := nI 8) F.1 F.2.1 dX14_feed_90 (by decide) ?_
    refine lv_iload F.1 F.2.1 dX14_feed_92 (lv_at hl 1 rfl) ?_
    refine lv_iconst (v := nI 4) F.1 F.2.1 dX14_feed_94 rfl ?_
    refine gRem F (by omega) (by omega) (by omega) dX14_feed_95 ?_
    refine gMul F dX14_feed_96 ?_
    refine gSub F (by omega) dX14_feed_97 ?_
    refine lv_ishr F.1 F.2.1 dX14_feed_98 ?_
    refine lv_i2b (v := sB (byS x2 0)) F.1 F.2.1 dX14_feed_99 (byS_i2b x2 3 (by decide)) ?_
    refine gStBY (w2 := (o, .inr (11, [.int (nI 0), .int (nI z1), .int z2, .int (nI z3), .ref z4, .ref z5, .int (bI z6), .ref z7, .ref z8, .int (nI (((((((z9 + 1) + 1) + 1) + 1) + 1) + 1) + 1)), .int (nI z10), .int (nI z11), .int (nI z12), .int (nI z13), .int (nI z14), .int (nI z15), .long (lN z16), .ref z17, .int z18, .int (nI z19), .ref z20, .ref z21, .ref z22, .ref z23, .ref z24, .ref z25, .int (nI z26), .int (nI z27), .int (nI z28), .int z29, .int (nI z30), .int (nI z31), .ref z32, .ref z33, .ref z34, .ref z35, .ref z36, .int (bI z37), .int (nI z38), .int (nI z39), .int (nI z40), .int (nI z41), .int (nI z42), .int (nI z43), .int (nI z44), .int (nI z45), .int (nI z46), .ref z47, .ref z48, .ref z49, .ref z50, .ref z51, .ref z52, .int z53, .ref z54])) :: (z8, .inl (g.2.1 3, 600, .inl (yA (updN (updN (updN (updN (updN (updN (updN (updN tp z9 (byS x1 24)) (z9 + 1) (byS x1 16)) ((z9 + 1) + 1) (byS x1 8)) (((z9 + 1) + 1) + 1) (byS x1 0)) ((((z9 + 1) + 1) + 1) + 1) (byS x2 24)) (((((z9 + 1) + 1) + 1) + 1) + 1) (byS x2 16)) ((((((z9 + 1) + 1) + 1) + 1) + 1) + 1) (byS x2 8)) (((((((z9 + 1) + 1) + 1) + 1) + 1) + 1) + 1) (byS x2 0))))) :: R) F hG hW 1 rfl (by omega) (by decide) hS (byS_lt _ _) rfl dX14_feed_100 (fun H locs hW hS => ?_)
    refine lv_aload_n F.1 F.2.1 dX14_feed_101 rfl (lv_at hl 2 rfl) ?_
    refine lv_dup F.1 F.2.1 dX14_feed_102 rfl ?_
    refine gGet F hG hW nX14_feed_X14 0 rfl rfl 9 (by decide) mX14_feed_2 rfl dX14_feed_103 ?_
    refine lv_iconst (v := nI 1) F.1 F.2.1 dX14_feed_106 rfl ?_
    refine gAdd F dX14_feed_107 ?_
    refine gPut (w2 := (o, .inr (11, [.int (nI 0), .int (nI z1), .int z2, .int (nI z3), .ref z4, .ref z5, .int (bI z6), .ref z7, .ref z8, .int (nI ((((((((z9 + 1) + 1) + 1) + 1) + 1) + 1) + 1) + 1)), .int (nI z10), .int (nI z11), .int (nI z12), .int (nI z13), .int (nI z14), .int (nI z15), .long (lN z16), .ref z17, .int z18, .int (nI z19), .ref z20, .ref z21, .ref z22, .ref z23, .ref z24, .ref z25, .int (nI z26), .int (nI z27), .int (nI z28), .int z29, .int (nI z30), .int (nI z31), .ref z32, .ref z33, .ref z34, .ref z35, .ref z36, .int (bI z37), .int (nI z38), .int (nI z39), .int (nI z40), .int (nI z41), .int (nI z42), .int (nI z43), .int (nI z44), .int (nI z45), .int (nI z46), .ref z47, .ref z48, .ref z49, .ref z50, .ref z51, .ref z52, .int z53, .ref z54])) :: (z8, .inl (g.2.1 3, 600, .inl (yA (updN (updN (updN (updN (updN (updN (updN (updN tp z9 (byS x1 24)) (z9 + 1) (byS x1 16)) ((z9 + 1) + 1) (byS x1 8)) (((z9 + 1) + 1) + 1) (byS x1 0)) ((((z9 + 1) + 1) + 1) + 1) (byS x2 24)) (((((z9 + 1) + 1) + 1) + 1) + 1) (byS x2 16)) ((((((z9 + 1) + 1) + 1) + 1) + 1) + 1) (byS x2 8)) (((((((z9 + 1) + 1) + 1) + 1) + 1) + 1) + 1) (byS x2 0))))) :: R) F hS hG hW nX14_feed_X14 0 rfl rfl 9 (by decide) tyX14 tyX14_ok nmX14 mX14_feed_2 rfl rfl rfl rfl (Nat.le_of_ble_eq_true rfl) rfl dX14_feed_108 (fun H locs hW hS => ?_)
    refine lv_iinc (v := nI 8) (lv' := [(6, .int (nI 8)), (7, .int x2), (0, .ref o), (1, .int x1), (2, .int x2), (3, .int x3), (4, .int x4), (5, .int x5)]) F.1 F.2.1 dX14_feed_111 hl (k := 1) rfl (by decide) (by decide) rfl (fun ls hl => ?_)
    refine lv_goto (tgt := 23) F.1 F.2.1 dX14_feed_114 (by decide) ?_
    refine lv_iload F.1 F.2.1 dX14_feed_23 (lv_at hl 0 rfl) ?_
    refine lv_bipush (v := nI 20) F.1 F.2.1 dX14_feed_25 (by decide) ?_
    refine gGe (tgt := 117) F (by decide) (by decide) dX14_feed_27 (by decide) (fun c_27 => by exfalso; omega) (fun c_27 => ?_)
    refine lv_iload F.1 F.2.1 dX14_feed_30 (lv_at hl 0 rfl) ?_
    refine lv_iconst (v := nI 4) F.1 F.2.1 dX14_feed_32 rfl ?_
    refine gGe (tgt := 40) F (by decide) (by decide) dX14_feed_33 (by decide) (fun c_33 => ?_) (fun c_33 => by exfalso; omega)
    refine lv_iload F.1 F.2.1 dX14_feed_40 (lv_at hl 0 rfl) ?_
    refine lv_bipush (v := nI 8) F.1 F.2.1 dX14_feed_42 (by decide) ?_
    refine gGe (tgt := 51) F (by decide) (by decide) dX14_feed_44 (by decide) (fun c_44 => ?_) (fun c_44 => by exfalso; omega)
    refine lv_iload F.1 F.2.1 dX14_feed_51 (lv_at hl 0 rfl) ?_
    refine lv_bipush (v := nI 12) F.1 F.2.1 dX14_feed_53 (by decide) ?_
    refine gGe (tgt := 62) F (by decide) (by decide) dX14_feed_55 (by decide) (fun c_55 => by exfalso; omega) (fun c_55 => ?_)
    refine lv_iload_n F.1 F.2.1 dX14_feed_58 rfl (lv_at hl 5 rfl) ?_
    refine lv_goto (tgt := 76) F.1 F.2.1 dX14_feed_59 (by decide) ?_
    refine lv_istore (lv' := [(7, .int x3), (6, .int (nI 8)), (0, .ref o), (1, .int x1), (2, .int x2), (3, .int x3), (4, .int x4), (5, .int x5)]) F.1 F.2.1 dX14_feed_76 hl (by decide) rfl (fun ls hl => ?_)
    refine lv_aload_n F.1 F.2.1 dX14_feed_78 rfl (lv_at hl 2 rfl) ?_
    refine gGet F hG hW nX14_feed_X14 0 rfl rfl 8 (by decide) mX14_feed_3 rfl dX14_feed_79 ?_
    refine lv_aload_n F.1 F.2.1 dX14_feed_82 rfl (lv_at hl 2 rfl) ?_
    refine gGet F hG hW nX14_feed_X14 0 rfl rfl 9 (by decide) mX14_feed_2 rfl dX14_feed_83 ?_
    refine lv_iload F.1 F.2.1 dX14_feed_86 (lv_at hl 0 rfl) ?_
    refine lv_bipush (v := nI 24) F.1 F.2.1 dX14_feed_88 (by decide) ?_
    refine lv_bipush (v := nI 8) F.1 F.2.1 dX14_feed_90 (by decide) ?_
    refine lv_iload F.1 F.2.1 dX14_feed_92 (lv_at hl 1 rfl) ?_
    refine lv_iconst (v := nI 4) F.1 F.2.1 dX14_feed_94 rfl ?_
    refine gRem F (by omega) (by omega) (by omega) dX14_feed_95 ?_
    refine gMul F dX14_feed_96 ?_
    refine gSub F (by omega) dX14_feed_97 ?_
    refine lv_ishr F.1 F.2.1 dX14_feed_98 ?_
    refine lv_i2b (v := sB (byS x3 24)) F.1 F.2.1 dX14_feed_99 (byS_i2b x3 0 (by decide)) ?_
    refine gStBY (w2 := (o, .inr (11, [.int (nI 0), .int (nI z1), .int z2, .int (nI z3), .ref z4, .ref z5, .int (bI z6), .ref z7, .ref z8, .int (nI ((((((((z9 + 1) + 1) + 1) + 1) + 1) + 1) + 1) + 1)), .int (nI z10), .int (nI z11), .int (nI z12), .int (nI z13), .int (nI z14), .int (nI z15), .long (lN z16), .ref z17, .int z18, .int (nI z19), .ref z20, .ref z21, .ref z22, .ref z23, .ref z24, .ref z25, .int (nI z26), .int (nI z27), .int (nI z28), .int z29, .int (nI z30), .int (nI z31), .ref z32, .ref z33, .ref z34, .ref z35, .ref z36, .int (bI z37), .int (nI z38), .int (nI z39), .int (nI z40), .int (nI z41), .int (nI z42), .int (nI z43), .int (nI z44), .int (nI z45), .int (nI z46), .ref z47, .ref z48, .ref z49, .ref z50, .ref z51, .ref z52, .int z53, .ref z54])) :: (z8, .inl (g.2.1 3, 600, .inl (yA (updN (updN (updN (updN (updN (updN (updN (updN (updN tp z9 (byS x1 24)) (z9 + 1) (byS x1 16)) ((z9 + 1) + 1) (byS x1 8)) (((z9 + 1) + 1) + 1) (byS x1 0)) ((((z9 + 1) + 1) + 1) + 1) (byS x2 24)) (((((z9 + 1) + 1) + 1) + 1) + 1) (byS x2 16)) ((((((z9 + 1) + 1) + 1) + 1) + 1) + 1) (byS x2 8)) (((((((z9 + 1) + 1) + 1) + 1) + 1) + 1) + 1) (byS x2 0)) ((((((((z9 + 1) + 1) + 1) + 1) + 1) + 1) + 1) + 1) (byS x3 24))))) :: R) F hG hW 1 rfl (by omega) (by decide) hS (byS_lt _ _) rfl dX14_feed_100 (fun H locs hW hS => ?_)
    refine lv_aload_n F.1 F.2.1 dX14_feed_101 rfl (lv_at hl 2 rfl) ?_
    refine lv_dup F.1 F.2.1 dX14_feed_102 rfl ?_
    refine gGet F hG hW nX14_feed_X14 0 rfl rfl 9 (by decide) mX14_feed_2 rfl dX14_feed_103 ?_
    refine lv_iconst (v := nI 1) F.1 F.2.1 dX14_feed_106 rfl ?_
    refine gAdd F dX14_feed_107 ?_
    refine gPut (w2 := (o, .inr (11, [.int (nI 0), .int (nI z1), .int z2, .int (nI z3), .ref z4, .ref z5, .int (bI z6), .ref z7, .ref z8, .int (nI (((((((((z9 + 1) + 1) + 1) + 1) + 1) + 1) + 1) + 1) + 1)), .int (nI z10), .int (nI z11), .int (nI z12), .int (nI z13), .int (nI z14), .int (nI z15), .long (lN z16), .ref z17, .int z18, .int (nI z19), .ref z20, .ref z21, .ref z22, .ref z23, .ref z24, .ref z25, .int (nI z26), .int (nI z27), .int (nI z28), .int z29, .int (nI z30), .int (nI z31), .ref z32, .ref z33, .ref z34, .ref z35, .ref z36, .int (bI z37), .int (nI z38), .int (nI z39), .int (nI z40), .int (nI z41), .int (nI z42), .int (nI z43), .int (nI z44), .int (nI z45), .int (nI z46), .ref z47, .ref z48, .ref z49, .ref z50, .ref z51, .ref z52, .int z53, .ref z54])) :: (z8, .inl (g.2.1 3, 600, .inl (yA (updN (updN (updN (updN (updN (updN (updN (updN (updN tp z9 (byS x1 24)) (z9 + 1) (byS x1 16)) ((z9 + 1) + 1) (byS x1 8)) (((z9 + 1) + 1) + 1) (byS x1 0)) ((((z9 + 1) + 1) + 1) + 1) (byS x2 24)) (((((z9 + 1) + 1) + 1) + 1) + 1) (byS x2 16)) ((((((z9 + 1) + 1) + 1) + 1) + 1) + 1) (byS x2 8)) (((((((z9 + 1) + 1) + 1) + 1) + 1) + 1) + 1) (byS x2 0)) ((((((((z9 + 1) + 1) + 1) + 1) + 1) + 1) + 1) + 1) (byS x3 24))))) :: R) F hS hG hW nX14_feed_X14 0 rfl rfl 9 (by decide) tyX14 tyX14_ok nmX14 mX14_feed_2 rfl rfl rfl rfl (Nat.le_of_ble_eq_true rfl) rfl dX14_feed_108 (fun H locs hW hS => ?_)
    refine lv_iinc (v := nI 9) (lv' := [(6, .int (nI 9)), (7, .int x3), (0, .ref o), (1, .int x1), (2, .int x2), (3, .int x3), (4, .int x4), (5, .int x5)]) F.1 F.2.1 dX14_feed_111 hl (k := 1) rfl (by decide) (by decide) rfl (fun ls hl => ?_)
    refine lv_goto (tgt := 23) F.1 F.2.1 dX14_feed_114 (by decide) ?_
    refine lv_iload F.1 F.2.1 dX14_feed_23 (lv_at hl 0 rfl) ?_
    refine lv_bipush (v := nI 20) F.1 F.2.1 dX14_feed_25 (by decide) ?_
    refine gGe (tgt := 117) F (by decide) (by decide) dX14_feed_27 (by decide) (fun c_27 => by exfalso; omega) (fun c_27 => ?_)
    refine lv_iload F.1 F.2.1 dX14_feed_30 (lv_at hl 0 rfl) ?_
    refine lv_iconst (v := nI 4) F.1 F.2.1 dX14_feed_32 rfl ?_
    refine gGe (tgt := 40) F (by decide) (by decide) dX14_feed_33 (by decide) (fun c_33 => ?_) (fun c_33 => by exfalso; omega)
    refine lv_iload F.1 F.2.1 dX14_feed_40 (lv_at hl 0 rfl) ?_
    refine lv_bipush (v := nI 8) F.1 F.2.1 dX14_feed_42 (by decide) ?_
    refine gGe (tgt := 51) F (by decide) (by decide) dX14_feed_44 (by decide) (fun c_44 => ?_) (fun c_44 => by exfalso; omega)
    refine lv_iload F.1 F.2.1 dX14_feed_51 (lv_at hl 0 rfl) ?_
    refine lv_bipush (v := nI 12) F.1 F.2.1 dX14_feed_53 (by decide) ?_
    refine gGe (tgt := 62) F (by decide) (by decide) dX14_feed_55 (by decide) (fun c_55 => by exfalso; omega) (fun c_55 => ?_)
    refine lv_iload_n F.1 F.2.1 dX14_feed_58 rfl (lv_at hl 5 rfl) ?_
    refine lv_goto (tgt := 76) F.1 F.2.1 dX14_feed_59 (by decide) ?_
    refine lv_istore (lv' := [(7, .int x3), (6, .int (nI 9)), (0, .ref o), (1, .int x1), (2, .int x2), (3, .int x3), (4, .int x4), (5, .int x5)]) F.1 F.2.1 dX14_feed_76 hl (by decide) rfl (fun ls hl => ?_)
    refine lv_aload_n F.1 F.2.1 dX14_feed_78 rfl (lv_at hl 2 rfl) ?_
    refine gGet F hG hW nX14_feed_X14 0 rfl rfl 8 (by decide) mX14_feed_3 rfl dX14_feed_79 ?_
    refine lv_aload_n F.1 F.2.1 dX14_feed_82 rfl (lv_at hl 2 rfl) ?_
    refine gGet F hG hW nX14_feed_X14 0 rfl rfl 9 (by decide) mX14_feed_2 rfl dX14_feed_83 ?_
    refine lv_iload F.1 F.2.1 dX14_feed_86 (lv_at hl 0 rfl) ?_
    refine lv_bipush (v := nI 24) F.1 F.2.1 dX14_feed_88 (by decide) ?_
    refine lv_bipush (v := nI 8) F.1 F.2.1 dX14_feed_90 (by decide) ?_
    refine lv_iload F.1 F.2.1 dX14_feed_92 (lv_at hl 1 rfl) ?_
    refine lv_iconst (v := nI 4) F.1 F.2.1 dX14_feed_94 rfl ?_
    refine gRem F (by omega) (by omega) (by omega) dX14_feed_95 ?_
    refine gMul F dX14_feed_96 ?_
    refine gSub F (by omega) dX14_feed_97 ?_
    refine lv_ishr F.1 F.2.1 dX14_feed_98 ?_
    refine lv_i2b (v := sB (byS x3 16)) F.1 F.2.1 dX14_feed_99 (byS_i2b x3 1 (by decide)) ?_
    refine gStBY (w2 := (o, .inr (11, [.int (nI 0), .int (nI z1), .int z2, .int (nI z3), .ref z4, .ref z5, .int (bI z6), .ref z7, .ref z8, .int (nI (((((((((z9 + 1) + 1) + 1) + 1) + 1) + 1) + 1) + 1) + 1)), .int (nI z10), .int (nI z11), .int (nI z12), .int (nI z13), .int (nI z14), .int (nI z15), .long (lN z16), .ref z17, .int z18, .int (nI z19), .ref z20, .ref z21, .ref z22, .ref z23, .ref z24, .ref z25, .int (nI z26), .int (nI z27), .int (nI z28), .int z29, .int (nI z30), .int (nI z31), .ref z32, .ref z33, .ref z34, .ref z35, .ref z36, .int (bI z37), .int (nI z38), .int (nI z39), .int (nI z40), .int (nI z41), .int (nI z42), .int (nI z43), .int (nI z44), .int (nI z45), .int (nI z46), .ref z47, .ref z48, .ref z49, .ref z50, .ref z51, .ref z52, .int z53, .ref z54])) :: (z8, .inl (g.2.1 3, 600, .inl (yA (updN (updN (updN (updN (updN (updN (updN (updN (updN (updN tp z9 (byS x1 24)) (z9 + 1) (byS x1 16)) ((z9 + 1) + 1) (byS x1 8)) (((z9 + 1) + 1) + 1) (byS x1 0)) ((((z9 + 1) + 1) + 1) + 1) (byS x2 24)) (((((z9 + 1) + 1) + 1) + 1) + 1) (byS x2 16)) ((((((z9 + 1) + 1) + 1) + 1) + 1) + 1) (byS x2 8)) (((((((z9 + 1) + 1) + 1) + 1) + 1) + 1) + 1) (byS x2 0)) ((((((((z9 + 1) + 1) + 1) + 1) + 1) + 1) + 1) + 1) (byS x3 24)) (((((((((z9 + 1) + 1) + 1) + 1) + 1) + 1) + 1) + 1) + 1) (byS x3 16))))) :: R) F hG hW 1 rfl (by omega) (by decide) hS (byS_lt _ _) rfl dX14_feed_100 (fun H locs hW hS => ?_)
    refine lv_aload_n F.1 F.2.1 dX14_feed_101 rfl (lv_at hl 2 rfl) ?_
    refine lv_dup F.1 F.2.1 dX14_feed_102 rfl ?_
    refine gGet F hG hW nX14_feed_X14 0 rfl rfl 9 (by decide) mX14_feed_2 rfl dX14_feed_103 ?_
    refine lv_iconst (v := nI 1) F.1 F.2.1 dX14_feed_106 rfl ?_
    refine gAdd F dX14_feed_107 ?_
    refine gPut (w2 := (o, .inr (11, [.int (nI 0), .int (nI z1), .int z2, .int (nI z3), .ref z4, .ref z5, .int (bI z6), .ref z7, .ref z8, .int (nI ((((((((((z9 + 1) + 1) + 1) + 1) + 1) + 1) + 1) + 1) + 1) + 1)), .int (nI z10), .int (nI z11), .int (nI z12), .int (nI z13), .int (nI z14), .int (nI z15), .long (lN z16), .ref z17, .int z18, .int (nI z19), .ref z20, .ref z21, .ref z22, .ref z23, .ref z24, .ref z25, .int (nI z26), .int (nI z27), .int (nI z28), .int z29, .int (nI z30), .int (nI z31), .ref z32, .ref z33, .ref z34, .ref z35, .ref z36, .int (bI z37), .int (nI z38), .int (nI z39), .int (nI z40), .int (nI z41), .int (nI z42), .int (nI z43), .int (nI z44), .int (nI z45), .int (nI z46), .ref z47, .ref z48, .ref z49, .ref z50, .ref z51, .ref z52, .int z53, .ref z54])) :: (z8, .inl (g.2.1 3, 600, .inl (yA (updN (updN (updN (updN (updN (updN (updN (updN (updN (updN tp z9 (byS x1 24)) (z9 + 1) (byS x1 16)) ((z9 + 1) + 1) (byS x1 8)) (((z9 + 1) + 1) + 1) (byS x1 0)) ((((z9 + 1) + 1) + 1) + 1) (byS x2 24)) (((((z9 + 1) + 1) + 1) + 1) + 1) (byS x2 16)) ((((((z9 + 1) + 1) + 1) + 1) + 1) + 1) (byS x2 8)) (((((((z9 + 1) + 1) + 1) + 1) + 1) + 1) + 1) (byS x2 0)) ((((((((z9 + 1) + 1) + 1) + 1) + 1) + 1) + 1) + 1) (byS x3 24)) (((((((((z9 + 1) + 1) + 1) + 1) + 1) + 1) + 1) + 1) + 1) (byS x3 16))))) :: R) F hS hG hW nX14_feed_X14 0 rfl rfl 9 (by decide) tyX14 tyX14_ok nmX14 mX14_feed_2 rfl rfl rfl rfl (Nat.le_of_ble_eq_true rfl) rfl dX14_feed_108 (fun H locs hW hS => ?_)
    refine lv_iinc (v := nI 10) (lv' := [(6, .int (nI 10)), (7, .int x3), (0, .ref o), (1, .int x1), (2, .int x2), (3, .int x3), (4, .int x4), (5, .int x5)]) F.1 F.2.1 dX14_feed_111 hl (k := 1) rfl (by decide) (by decide) rfl (fun ls hl => ?_)
    refine lv_goto (tgt := 23) F.1 F.2.1 dX14_feed_114 (by decide) ?_
    refine lv_iload F.1 F.2.1 dX14_feed_23 (lv_at hl 0 rfl) ?_
    refine lv_bipush (v := nI 20) F.1 F.2.1 dX14_feed_25 (by decide) ?_
    refine gGe (tgt := 117) F (by decide) (by decide) dX14_feed_27 (by decide) (fun c_27 => by exfalso; omega) (fun c_27 => ?_)
    refine lv_iload F.1 F.2.1 dX14_feed_30 (lv_at hl 0 rfl) ?_
    refine lv_iconst (v := nI 4) F.1 F.2.1 dX14_feed_32 rfl ?_
    refine gGe (tgt := 40) F (by decide) (by decide) dX14_feed_33 (by decide) (fun c_33 => ?_) (fun c_33 => by exfalso; omega)
    refine lv_iload F.1 F.2.1 dX14_feed_40 (lv_at hl 0 rfl) ?_
    refine lv_bipush (v := nI 8) F.1 F.2.1 dX14_feed_42 (by decide) ?_
    refine gGe (tgt := 51) F (by decide) (by decide) dX14_feed_44 (by decide) (fun c_44 => ?_) (fun c_44 => by exfalso; omega)
    refine lv_iload F.1 F.2.1 dX14_feed_51 (lv_at hl 0 rfl) ?_
    refine lv_bipush (v := nI 12) F.1 F.2.1 dX14_feed_53 (by decide) ?_
    refine gGe (tgt := 62) F (by decide) (by decide) dX14_feed_55 (by decide) (fun c_55 => by exfalso; omega) (fun c_55 => ?_)
    refine lv_iload_n F.1 F.2.1 dX14_feed_58 rfl (lv_at hl 5 rfl) ?_
    refine lv_goto (tgt := 76) F.1 F.2.1 dX14_feed_59 (by decide) ?_
    refine lv_istore (lv' := [(7, .int x3), (6, .int (nI 10)), (0, .ref o), (1, .int x1), (2, .int x2), (3, .int x3), (4, .int x4), (5, .int x5)]) F.1 F.2.1 dX14_feed_76 hl (by decide) rfl (fun ls hl => ?_)
    refine lv_aload_n F.1 F.2.1 dX14_feed_78 rfl (lv_at hl 2 rfl) ?_
    refine gGet F hG hW nX14_feed_X14 0 rfl rfl 8 (by decide) mX14_feed_3 rfl dX14_feed_79 ?_
    refine lv_aload_n F.1 F.2.1 dX14_feed_82 rfl (lv_at hl 2 rfl) ?_
    refine gGet F hG hW nX14_feed_X14 0 rfl rfl 9 (by decide) mX14_feed_2 rfl dX14_feed_83 ?_
    refine lv_iload F.1 F.2.1 dX14_feed_86 (lv_at hl 0 rfl) ?_
    refine lv_bipush (v := nI 24) F.1 F.2.1 dX14_feed_88 (by decide) ?_
    refine lv_bipush (v := nI 8) F.1 F.2.1 dX14_feed_90 (by decide) ?_
    refine lv_iload F.1 F.2.1 dX14_feed_92 (lv_at hl 1 rfl) ?_
    refine lv_iconst (v := nI 4) F.1 F.2.1 dX14_feed_94 rfl ?_
    refine gRem F (by omega) (by omega) (by omega) dX14_feed_95 ?_
    refine gMul F dX14_feed_96 ?_
    refine gSub F (by omega) dX14_feed_97 ?_
    refine lv_ishr F.1 F.2.1 dX14_feed_98 ?_
    refine lv_i2b (v := sB (byS x3 8)) F.1 F.2.1 dX14_feed_99 (byS_i2b x3 2 (by decide)) ?_
    refine gStBY (w2 := (o, .inr (11, [.int (nI 0), .int (nI z1), .int z2, .int (nI z3), .ref z4, .ref z5, .int (bI z6), .ref z7, .ref z8, .int (nI ((((((((((z9 + 1) + 1) + 1) + 1) + 1) + 1) + 1) + 1) + 1) + 1)), .int (nI z10), .int (nI z11), .int (nI z12), .int (nI z13), .int (nI z14), .int (nI z15), .long (lN z16), .ref z17, .int z18, .int (nI z19), .ref z20, .ref z21, .ref z22, .ref z23, .ref z24, .ref z25, .int (nI z26), .int (nI z27), .int (nI z28), .int z29, .int (nI z30), .int (nI z31), .ref z32, .ref z33, .ref z34, .ref z35, .ref z36, .int (bI z37), .int (nI z38), .int (nI z39), .int (nI z40), .int (nI z41), .int (nI z42), .int (nI z43), .int (nI z44), .int (nI z45), .int (nI z46), .ref z47, .ref z48, .ref z49, .ref z50, .ref z51, .ref z52, .int z53, .ref z54])) :: (z8, .inl (g.2.1 3, 600, .inl (yA (updN (updN (updN (updN (updN (updN (updN (updN (updN (updN (updN tp z9 (byS x1 24)) (z9 + 1) (byS x1 16)) ((z9 + 1) + 1) (byS x1 8)) (((z9 + 1) + 1) + 1) (byS x1 0)) ((((z9 + 1) + 1) + 1) + 1) (byS x2 24)) (((((z9 + 1) + 1) + 1) + 1) + 1) (byS x2 16)) ((((((z9 + 1) + 1) + 1) + 1) + 1) + 1) (byS x2 8)) (((((((z9 + 1) + 1) + 1) + 1) + 1) + 1) + 1) (byS x2 0)) ((((((((z9 + 1) + 1) + 1) + 1) + 1) + 1) + 1) + 1) (byS x3 24)) (((((((((z9 + 1) + 1) + 1) + 1) + 1) + 1) + 1) + 1) + 1) (byS x3 16)) ((((((((((z9 + 1) + 1) + 1) + 1) + 1) + 1) + 1) + 1) + 1) + 1) (byS x3 8))))) :: R) F hG hW 1 rfl (by omega) (by decide) hS (byS_lt _ _) rfl dX14_feed_100 (fun H locs hW hS => ?_)
    refine lv_aload_n F.1 F.2.1 dX14_feed_101 rfl (lv_at hl 2 rfl) ?_
    refine lv_dup F.1 F.2.1 dX14_feed_102 rfl ?_
    refine gGet F hG hW nX14_feed_X14 0 rfl rfl 9 (by decide) mX14_feed_2 rfl dX14_feed_103 ?_
    refine lv_iconst (v := nI 1) F.1 F.2.1 dX14_feed_106 rfl ?_
    refine gAdd F dX14_feed_107 ?_
    refine gPut (w2 := (o, .inr (11, [.int (nI 0), .int (nI z1), .int z2, .int (nI z3), .ref z4, .ref z5, .int (bI z6), .ref z7, .ref z8, .int (nI (((((((((((z9 + 1) + 1) + 1) + 1) + 1) + 1) + 1) + 1) + 1) + 1) + 1)), .int (nI z10), .int (nI z11), .int (nI z12), .int (nI z13), .int (nI z14), .int (nI z15), .long (lN z16), .ref z17, .int z18, .int (nI z19), .ref z20, .ref z21, .ref z22, .ref z23, .ref z24, .ref z25, .int (nI z26), .int (nI z27), .int (nI z28), .int z29, .int (nI z30), .int (nI z31), .ref z32, .ref z33, .ref z34, .ref z35, .ref z36, .int (bI z37), .int (nI z38), .int (nI z39), .int (nI z40), .int (nI z41), .int (nI z42), .int (nI z43), .int (nI z44), .int (nI z45), .int (nI z46), .ref z47, .ref z48, .ref z49, .ref z50, .ref z51, .ref z52, .int z53, .ref z54])) :: (z8, .inl (g.2.1 3, 600, .inl (yA (updN (updN (updN (updN (updN (updN (updN (updN (updN (updN (updN tp z9 (byS x1 24)) (z9 + 1) (byS x1 16)) ((z9 + 1) + 1) (byS x1 8)) (((z9 + 1) + 1) + 1) (byS x1 0)) ((((z9 + 1) + 1) + 1) + 1) (byS x2 24)) (((((z9 + 1) + 1) + 1) + 1) + 1) (byS x2 16)) ((((((z9 + 1) + 1) + 1) + 1) + 1) + 1) (byS x2 8)) (((((((z9 + 1) + 1) + 1) + 1) + 1) + 1) + 1) (byS x2 0)) ((((((((z9 + 1) + 1) + 1) + 1) + 1) + 1) + 1) + 1) (byS x3 24)) (((((((((z9 + 1) + 1) + 1) + 1) + 1) + 1) + 1) + 1) + 1) (byS x3 16)) ((((((((((z9 + 1) + 1) + 1) + 1) + 1) + 1) + 1) + 1) + 1) + 1) (byS x3 8))))) :: R) F hS hG hW nX14_feed_X14 0 rfl rfl 9 (by decide) tyX14 tyX14_ok nmX14 mX14_feed_2 rfl rfl rfl rfl (Nat.le_of_ble_eq_true rfl) rfl dX14_feed_108 (fun H locs hW hS => ?_)
    refine lv_iinc (v := nI 11) (lv' := [(6, .int (nI 11)), (7, .int x3), (0, .ref o), (1, .int x1), (2, .int x2), (3, .int x3), (4, .int x4), (5, .int x5)]) F.1 F.2.1 dX14_feed_111 hl (k := 1) rfl (by decide) (by decide) rfl (fun ls hl => ?_)
    refine lv_goto (tgt := 23) F.1 F.2.1 dX14_feed_114 (by decide) ?_
    refine lv_iload F.1 F.2.1 dX14_feed_23 (lv_at hl 0 rfl) ?_
    refine lv_bipush (v := nI 20) F.1 F.2.1 dX14_feed_25 (by decide) ?_
    refine gGe (tgt := 117) F (by decide) (by decide) dX14_feed_27 (by decide) (fun c_27 => by exfalso; omega) (fun c_27 => ?_)
    refine lv_iload F.1 F.2.1 dX14_feed_30 (lv_at hl 0 rfl) ?_
    refine lv_iconst (v := nI 4) F.1 F.2.1 dX14_feed_32 rfl ?_
    refine gGe (tgt := 40) F (by decide) (by decide) dX14_feed_33 (by decide) (fun c_33 => ?_) (fun c_33 => by exfalso; omega)
    refine lv_iload F.1 F.2.1 dX14_feed_40 (lv_at hl 0 rfl) ?_
    refine lv_bipush (v := nI 8) F.1 F.2.1 dX14_feed_42 (by decide) ?_
    refine gGe (tgt := 51) F (by decide) (by decide) dX14_feed_44 (by decide) (fun c_44 => ?_) (fun c_44 => by exfalso; omega)
    refine lv_iload F.1 F.2.1 dX14_feed_51 (lv_at hl 0 rfl) ?_
    refine lv_bipush (v := nI 12) F.1 F.2.1 dX14_feed_53 (by decide) ?_
    refine gGe (tgt := 62) F (by decide) (by decide) dX14_feed_55 (by decide) (fun c_55 => by exfalso; omega) (fun c_55 => ?_)
    refine lv_iload_n F.1 F.2.1 dX14_feed_58 rfl (lv_at hl 5 rfl) ?_
    refine lv_goto (tgt := 76) F.1 F.2.1 dX14_feed_59 (by decide) ?_
    refine lv_istore (lv' := [(7, .int x3), (6, .int (nI 11)), (0, .ref o), (1, .int x1), (2, .int x2), (3, .int x3), (4, .int x4), (5, .int x5)]) F.1 F.2.1 dX14_feed_76 hl (by decide) rfl (fun ls hl => ?_)
    refine lv_aload_n F.1 F.2.1 dX14_feed_78 rfl (lv_at hl 2 rfl) ?_
    refine gGet F hG hW nX14_feed_X14 0 rfl rfl 8 (by decide) mX14_feed_3 rfl dX14_feed_79 ?_
    refine lv_aload_n F.1 F.2.1 dX14_feed_82 rfl (lv_at hl 2 rfl) ?_
    refine gGet F hG hW nX14_feed_X14 0 rfl rfl 9 (by decide) mX14_feed_2 rfl dX14_feed_83 ?_
    refine lv_iload F.1 F.2.1 dX14_feed_86 (lv_at hl 0 rfl) ?_
    refine lv_bipush (v := nI 24) F.1 F.2.1 dX14_feed_88 (by decide) ?_
    refine lv_bipush (v := nI 8) F.1 F.2.1 dX14_feed_90 (by decide) ?_
    refine lv_iload F.1 F.2.1 dX14_feed_92 (lv_at hl 1 rfl) ?_
    refine lv_iconst (v := nI 4) F.1 F.2.1 dX14_feed_94 rfl ?_
    refine gRem F (by omega) (by omega) (by omega) dX14_feed_95 ?_
    refine gMul F dX14_feed_96 ?_
    refine gSub F (by omega) dX14_feed_97 ?_
    refine lv_ishr F.1 F.2.1 dX14_feed_98 ?_
    refine lv_i2b (v := sB (byS x3 0)) F.1 F.2.1 dX14_feed_99 (byS_i2b x3 3 (by decide)) ?_
    refine gStBY (w2 := (o, .inr (11, [.int (nI 0), .int (nI z1), .int z2, .int (nI z3), .ref z4, .ref z5, .int (bI z6), .ref z7, .ref z8, .int (nI (((((((((((z9 + 1) + 1) + 1) + 1) + 1) + 1) + 1) + 1) + 1) + 1) + 1)), .int (nI z10), .int (nI z11), .int (nI z12), .int (nI z13), .int (nI z14), .int (nI z15), .long (lN z16), .ref z17, .int z18, .int (nI z19), .ref z20, .ref z21, .ref z22, .ref z23, .ref z24, .ref z25, .int (nI z26), .int (nI z27), .int (nI z28), .int z29, .int (nI z30), .int (nI z31), .ref z32, .ref z33, .ref z34, .ref z35, .ref z36, .int (bI z37), .int (nI z38), .int (nI z39), .int (nI z40), .int (nI z41), .int (nI z42), .int (nI z43), .int (nI z44), .int (nI z45), .int (nI z46), .ref z47, .ref z48, .ref z49, .ref z50, .ref z51, .ref z52, .int z53, .ref z54])) :: (z8, .inl (g.2.1 3, 600, .inl (yA (updN (updN (updN (updN (updN (updN (updN (updN (updN (updN (updN (updN tp z9 (byS x1 24)) (z9 + 1) (byS x1 16)) ((z9 + 1) + 1) (byS x1 8)) (((z9 + 1) + 1) + 1) (byS x1 0)) ((((z9 + 1) + 1) + 1) + 1) (byS x2 24)) (((((z9 + 1) + 1) + 1) + 1) + 1) (byS x2 16)) ((((((z9 + 1) + 1) + 1) + 1) + 1) + 1) (byS x2 8)) (((((((z9 + 1) + 1) + 1) + 1) + 1) + 1) + 1) (byS x2 0)) ((((((((z9 + 1) + 1) + 1) + 1) + 1) + 1) + 1) + 1) (byS x3 24)) (((((((((z9 + 1) + 1) + 1) + 1) + 1) + 1) + 1) + 1) + 1) (byS x3 16)) ((((((((((z9 + 1) + 1) + 1) + 1) + 1) + 1) + 1) + 1) + 1) + 1) (byS x3 8)) (((((((((((z9 + 1) + 1) + 1) + 1) + 1) + 1) + 1) + 1) + 1) + 1) + 1) (byS x3 0))))) :: R) F hG hW 1 rfl (by omega) (by decide) hS (byS_lt _ _) rfl dX14_feed_100 (fun H locs hW hS => ?_)
    refine lv_aload_n F.1 F.2.1 dX14_feed_101 rfl (lv_at hl 2 rfl) ?_
    refine lv_dup F.1 F.2.1 dX14_feed_102 rfl ?_
    refine gGet F hG hW nX14_feed_X14 0 rfl rfl 9 (by decide) mX14_feed_2 rfl dX14_feed_103 ?_
    refine lv_iconst (v := nI 1) F.1 F.2.1 dX14_feed_106 rfl ?_
    refine gAdd F dX14_feed_107 ?_
    refine gPut (w2 := (o, .inr (11, [.int (nI 0), .int (nI z1), .int z2, .int (nI z3), .ref z4, .ref z5, .int (bI z6), .ref z7, .ref z8, .int (nI ((((((((((((z9 + 1) + 1) + 1) + 1) + 1) + 1) + 1) + 1) + 1) + 1) + 1) + 1)), .int (nI z10), .int (nI z11), .int (nI z12), .int (nI z13), .int (nI z14), .int (nI z15), .long (lN z16), .ref z17, .int z18, .int (nI z19), .ref z20, .ref z21, .ref z22, .ref z23, .ref z24, .ref z25, .int (nI z26), .int (nI z27), .int (nI z28), .int z29, .int (nI z30), .int (nI z31), .ref z32, .ref z33, .ref z34, .ref z35, .ref z36, .int (bI z37), .int (nI z38), .int (nI z39), .int (nI z40), .int (nI z41), .int (nI z42), .int (nI z43), .int (nI z44), .int (nI z45), .int (nI z46), .ref z47, .ref z48, .ref z49, .ref z50, .ref z51, .ref z52, .int z53, .ref z54])) :: (z8, .inl (g.2.1 3, 600, .inl (yA (updN (updN (updN (updN (updN (updN (updN (updN (updN (updN (updN (updN tp z9 (byS x1 24)) (z9 + 1) (byS x1 16)) ((z9 + 1) + 1) (byS x1 8)) (((z9 + 1) + 1) + 1) (byS x1 0)) ((((z9 + 1) + 1) + 1) + 1) (byS x2 24)) (((((z9 + 1) + 1) + 1) + 1) + 1) (byS x2 16)) ((((((z9 + 1) + 1) + 1) + 1) + 1) + 1) (byS x2 8)) (((((((z9 + 1) + 1) + 1) + 1) + 1) + 1) + 1) (byS x2 0)) ((((((((z9 + 1) + 1) + 1) + 1) + 1) + 1) + 1) + 1) (byS x3 24)) (((((((((z9 + 1) + 1) + 1) + 1) + 1) + 1) + 1) + 1) + 1) (byS x3 16)) ((((((((((z9 + 1) + 1) + 1) + 1) + 1) + 1) + 1) + 1) + 1) + 1) (byS x3 8)) (((((((((((z9 + 1) + 1) + 1) + 1) + 1) + 1) + 1) + 1) + 1) + 1) + 1) (byS x3 0))))) :: R) F hS hG hW nX14_feed_X14 0 rfl rfl 9 (by decide) tyX14 tyX14_ok nmX14 mX14_feed_2 rfl rfl rfl rfl (Nat.le_of_ble_eq_true rfl) rfl dX14_feed_108 (fun H locs hW hS => ?_)
    refine lv_iinc (v := nI 12) (lv' := [(6, .int (nI 12)), (7, .int x3), (0, .ref o), (1, .int x1), (2, .int x2), (3, .int x3), (4, .int x4), (5, .int x5)]) F.1 F.2.1 dX14_feed_111 hl (k := 1) rfl (by decide) (by decide) rfl (fun ls hl => ?_)
    refine lv_goto (tgt := 23) F.1 F.2.1 dX14_feed_114 (by decide) ?_
    refine lv_iload F.1 F.2.1 dX14_feed_23 (lv_at hl 0 rfl) ?_
    refine lv_bipush (v := nI 20) F.1 F.2.1 dX14_feed_25 (by decide) ?_
    refine gGe (tgt := 117) F (by decide) (by decide) dX14_feed_27 (by decide) (fun c_27 => by exfalso; omega) (fun c_27 => ?_)
    refine lv_iload F.1 F.2.1 dX14_feed_30 (lv_at hl 0 rfl) ?_
    refine lv_iconst (v := nI 4) F.1 F.2.1 dX14_feed_32 rfl ?_
    refine gGe (tgt := 40) F (by decide) (by decide) dX14_feed_33 (by decide) (fun c_33 => ?_) (fun c_33 => by exfalso; omega)
    refine lv_iload F.1 F.2.1 dX14_feed_40 (lv_at hl 0 rfl) ?_
    refine lv_bipush (v := nI 8) F.1 F.2.1 dX14_feed_42 (by decide) ?_
    refine gGe (tgt := 51) F (by decide) (by decide) dX14_feed_44 (by decide) (fun c_44 => ?_) (fun c_44 => by exfalso; omega)
    refine lv_iload F.1 F.2.1 dX14_feed_51 (lv_at hl 0 rfl) ?_
    refine lv_bipush (v := nI 12) F.1 F.2.1 dX14_feed_53 (by decide) ?_
    refine gGe (tgt := 62) F (by decide) (by decide) dX14_feed_55 (by decide) (fun c_55 => ?_) (fun c_55 => by exfalso; omega)
    refine lv_iload F.1 F.2.1 dX14_feed_62 (lv_at hl 0 rfl) ?_
    refine lv_bipush (v := nI 16) F.1 F.2.1 dX14_feed_64 (by decide) ?_
    refine gGe (tgt := 74) F (by decide) (by decide) dX14_feed_66 (by decide) (fun c_66 => by exfalso; omega) (fun c_66 => ?_)
    refine lv_iload F.1 F.2.1 dX14_feed_69 (lv_at hl 6 rfl) ?_
    refine lv_goto (tgt := 76) F.1 F.2.1 dX14_feed_71 (by decide) ?_
    refine lv_istore (lv' := [(7, .int x4), (6, .int (nI 12)), (0, .ref o), (1, .int x1), (2, .int x2), (3, .int x3), (4, .int x4), (5, .int x5)]) F.1 F.2.1 dX14_feed_76 hl (by decide) rfl (fun ls hl => ?_)
    refine lv_aload_n F.1 F.2.1 dX14_feed_78 rfl (lv_at hl 2 rfl) ?_
    refine gGet F hG hW nX14_feed_X14 0 rfl rfl 8 (by decide) mX14_feed_3 rfl dX14_feed_79 ?_
    refine lv_aload_n F.1 F.2.1 dX14_feed_82 rfl (lv_at hl 2 rfl) ?_
    refine gGet F hG hW nX14_feed_X14 0 rfl rfl 9 (by decide) mX14_feed_2 rfl dX14_feed_83 ?_
    refine lv_iload F.1 F.2.1 dX14_feed_86 (lv_at hl 0 rfl) ?_
    refine lv_bipush (v := nI 24) F.1 F.2.1 dX14_feed_88 (by decide) ?_
    refine lv_bipush (v := nI 8) F.1 F.2.1 dX14_feed_90 (by decide) ?_
    refine lv_iload F.1 F.2.1 dX14_feed_92 (lv_at hl 1 rfl) ?_
    refine lv_iconst (v := nI 4) F.1 F.2.1 dX14_feed_94 rfl ?_
    refine gRem F (by omega) (by omega) (by omega) dX14_feed_95 ?_
    refine gMul F dX14_feed_96 ?_
    refine gSub F (by omega) dX14_feed_97 ?_
    refine lv_ishr F.1 F.2.1 dX14_feed_98 ?_
    refine lv_i2b (v := sB (byS x4 24)) F.1 F.2.1 dX14_feed_99 (byS_i2b x4 0 (by decide)) ?_
    refine gStBY (w2 := (o, .inr (11, [.int (nI 0), .int (nI z1), .int z2, .int (nI z3), .ref z4, .ref z5, .int (bI z6), .ref z7, .ref z8, .int (nI ((((((((((((z9 + 1) + 1) + 1) + 1) + 1) + 1) + 1) + 1) + 1) + 1) + 1) + 1)), .int (nI z10), .int (nI z11), .int (nI z12), .int (nI z13), .int (nI z14), .int (nI z15), .long (lN z16), .ref z17, .int z18, .int (nI z19), .ref z20, .ref z21, .ref z22, .ref z23, .ref z24, .ref z25, .int (nI z26), .int (nI z27), .int (nI z28), .int z29, .int (nI z30), .int (nI z31), .ref z32, .ref z33, .ref z34, .ref z35, .ref z36, .int (bI z37), .int (nI z38), .int (nI z39), .int (nI z40), .int (nI z41), .int (nI z42), .int (nI z43), .int (nI z44), .int (nI z45), .int (nI z46), .ref z47, .ref z48, .ref z49, .ref z50, .ref z51, .ref z52, .int z53, .ref z54])) :: (z8, .inl (g.2.1 3, 600, .inl (yA (updN (updN (updN (updN (updN (updN (updN (updN (updN (updN (updN (updN (updN tp z9 (byS x1 24)) (z9 + 1) (byS x1 16)) ((z9 + 1) + 1) (byS x1 8)) (((z9 + 1) + 1) + 1) (byS x1 0)) ((((z9 + 1) + 1) + 1) + 1) (byS x2 24)) (((((z9 + 1) + 1) + 1) + 1) + 1) (byS x2 16)) ((((((z9 + 1) + 1) + 1) + 1) + 1) + 1) (byS x2 8)) (((((((z9 + 1) + 1) + 1) + 1) + 1) + 1) + 1) (byS x2 0)) ((((((((z9 + 1) + 1) + 1) + 1) + 1) + 1) + 1) + 1) (byS x3 24)) (((((((((z9 + 1) + 1) + 1) + 1) + 1) + 1) + 1) + 1) + 1) (byS x3 16)) ((((((((((z9 + 1) + 1) + 1) + 1) + 1) + 1) + 1) + 1) + 1) + 1) (byS x3 8)) (((((((((((z9 + 1) + 1) + 1) + 1) + 1) + 1) + 1) + 1) + 1) + 1) + 1) (byS x3 0)) ((((((((((((z9 + 1) + 1) + 1) + 1) + 1) + 1) + 1) + 1) + 1) + 1) + 1) + 1) (byS x4 24))))) :: R) F hG hW 1 rfl (by omega) (by decide) hS (byS_lt _ _) rfl dX14_feed_100 (fun H locs hW hS => ?_)
    refine lv_aload_n F.1 F.2.1 dX14_feed_101 rfl (lv_at hl 2 rfl) ?_
    refine lv_dup F.1 F.2.1 dX14_feed_102 rfl ?_
    refine gGet F hG hW nX14_feed_X14 0 rfl rfl 9 (by decide) mX14_feed_2 rfl dX14_feed_103 ?_
    refine lv_iconst (v := nI 1) F.1 F.2.1 dX14_feed_106 rfl ?_
    refine gAdd F dX14_feed_107 ?_
    refine gPut (w2 := (o, .inr (11, [.int (nI 0), .int (nI z1), .int z2, .int (nI z3), .ref z4, .ref z5, .int (bI z6), .ref z7, .ref z8, .int (nI (((((((((((((z9 + 1) + 1) + 1) + 1) + 1) + 1) + 1) + 1) + 1) + 1) + 1) + 1) + 1)), .int (nI z10), .int (nI z11), .int (nI z12), .int (nI z13), .int (nI z14), .int (nI z15), .long (lN z16), .ref z17, .int z18, .int (nI z19), .ref z20, .ref z21, .ref z22, .ref z23, .ref z24, .ref z25, .int (nI z26), .int (nI z27), .int (nI z28), .int z29, .int (nI z30), .int (nI z31), .ref z32, .ref z33, .ref z34, .ref z35, .ref z36, .int (bI z37), .int (nI z38), .int (nI z39), .int (nI z40), .int (nI z41), .int (nI z42), .int (nI z43), .int (nI z44), .int (nI z45), .int (nI z46), .ref z47, .ref z48, .ref z49, .ref z50, .ref z51, .ref z52, .int z53, .ref z54])) :: (z8, .inl (g.2.1 3, 600, .inl (yA (updN (updN (updN (updN (updN (updN (updN (updN (updN (updN (updN (updN (updN tp z9 (byS x1 24)) (z9 + 1) (byS x1 16)) ((z9 + 1) + 1) (byS x1 8)) (((z9 + 1) + 1) + 1) (byS x1 0)) ((((z9 + 1) + 1) + 1) + 1) (byS x2 24)) (((((z9 + 1) + 1) + 1) + 1) + 1) (byS x2 16)) ((((((z9 + 1) + 1) + 1) + 1) + 1) + 1) (byS x2 8)) (((((((z9 + 1) + 1) + 1) + 1) + 1) + 1) + 1) (byS x2 0)) ((((((((z9 + 1) + 1) + 1) + 1) + 1) + 1) + 1) + 1) (byS x3 24)) (((((((((z9 + 1) + 1) + 1) + 1) + 1) + 1) + 1) + 1) + 1) (byS x3 16)) ((((((((((z9 + 1) + 1) + 1) + 1) + 1) + 1) + 1) + 1) + 1) + 1) (byS x3 8)) (((((((((((z9 + 1) + 1) + 1) + 1) + 1) + 1) + 1) + 1) + 1) + 1) + 1) (byS x3 0)) ((((((((((((z9 + 1) + 1) + 1) + 1) + 1) + 1) + 1) + 1) + 1) + 1) + 1) + 1) (byS x4 24))))) :: R) F hS hG hW nX14_feed_X14 0 rfl rfl 9 (by decide) tyX14 tyX14_ok nmX14 mX14_feed_2 rfl rfl rfl rfl (Nat.le_of_ble_eq_true rfl) rfl dX14_feed_108 (fun H locs hW hS => ?_)
    refine lv_iinc (v := nI 13) (lv' := [(6, .int (nI 13)), (7, .int x4), (0, .ref o), (1, .int x1), (2, .int x2), (3, .int x3), (4, .int x4), (5, .int x5)]) F.1 F.2.1 dX14_feed_111 hl (k := 1) rfl (by decide) (by decide) rfl (fun ls hl => ?_)
    refine lv_goto (tgt := 23) F.1 F.2.1 dX14_feed_114 (by decide) ?_
    refine lv_iload F.1 F.2.1 dX14_feed_23 (lv_at hl 0 rfl) ?_
    refine lv_bipush (v := nI 20) F.1 F.2.1 dX14_feed_25 (by decide) ?_
    refine gGe (tgt := 117) F (by decide) (by decide) dX14_feed_27 (by decide) (fun c_27 => by exfalso; omega) (fun c_27 => ?_)
    refine lv_iload F.1 F.2.1 dX14_feed_30 (lv_at hl 0 rfl) ?_
    refine lv_iconst (v := nI 4) F.1 F.2.1 dX14_feed_32 rfl ?_
    refine gGe (tgt := 40) F (by decide) (by decide) dX14_feed_33 (by decide) (fun c_33 => ?_) (fun c_33 => by exfalso; omega)
    refine lv_iload F.1 F.2.1 dX14_feed_40 (lv_at hl 0 rfl) ?_
    refine lv_bipush (v := nI 8) F.1 F.2.1 dX14_feed_42 (by decide) ?_
    refine gGe (tgt := 51) F (by decide) (by decide) dX14_feed_44 (by decide) (fun c_44 => ?_) (fun c_44 => by exfalso; omega)
    refine lv_iload F.1 F.2.1 dX14_feed_51 (lv_at hl 0 rfl) ?_
    refine lv_bipush (v := nI 12) F.1 F.2.1 dX14_feed_53 (by decide) ?_
    refine gGe (tgt := 62) F (by decide) (by decide) dX14_feed_55 (by decide) (fun c_55 => ?_) (fun c_55 => by exfalso; omega)
    refine lv_iload F.1 F.2.1 dX14_feed_62 (lv_at hl 0 rfl) ?_
    refine lv_bipush (v := nI 16) F.1 F.2.1 dX14_feed_64 (by decide) ?_
    refine gGe (tgt := 74) F (by decide) (by decide) dX14_feed_66 (by decide) (fun c_66 => by exfalso; omega) (fun c_66 => ?_)
    refine lv_iload F.1 F.2.1 dX14_feed_69 (lv_at hl 6 rfl) ?_
    refine lv_goto (tgt := 76) F.1 F.2.1 dX14_feed_71 (by decide) ?_
    refine lv_istore (lv' := [(7, .int x4), (6, .int (nI 13)), (0, .ref o), (1, .int x1), (2, .int x2), (3, .int x3), (4, .int x4), (5, .int x5)]) F.1 F.2.1 dX14_feed_76 hl (by decide) rfl (fun ls hl => ?_)
    refine lv_aload_n F.1 F.2.1 dX14_feed_78 rfl (lv_at hl 2 rfl) ?_
    refine gGet F hG hW nX14_feed_X14 0 rfl rfl 8 (by decide) mX14_feed_3 rfl dX14_feed_79 ?_
    refine lv_aload_n F.1 F.2.1 dX14_feed_82 rfl (lv_at hl 2 rfl) ?_
    refine gGet F hG hW nX14_feed_X14 0 rfl rfl 9 (by decide) mX14_feed_2 rfl dX14_feed_83 ?_
    refine lv_iload F.1 F.2.1 dX14_feed_86 (lv_at hl 0 rfl) ?_
    refine lv_bipush (v := nI 24) F.1 F.2.1 dX14_feed_88 (by decide) ?_
    refine lv_bipush (v := nI 8) F.1 F.2.1 dX14_feed_90 (by decide) ?_
    refine lv_iload F.1 F.2.1 dX14_feed_92 (lv_at hl 1 rfl) ?_
    refine lv_iconst (v := nI 4) F.1 F.2.1 dX14_feed_94 rfl ?_
    refine gRem F (by omega) (by omega) (by omega) dX14_feed_95 ?_
    refine gMul F dX14_feed_96 ?_
    refine gSub F (by omega) dX14_feed_97 ?_
    refine lv_ishr F.1 F.2.1 dX14_feed_98 ?_
    refine lv_i2b (v := sB (byS x4 16)) F.1 F.2.1 dX14_feed_99 (byS_i2b x4 1 (by decide)) ?_
    refine gStBY (w2 := (o, .inr (11, [.int (nI 0), .int (nI z1), .int z2, .int (nI z3), .ref z4, .ref z5, .int (bI z6), .ref z7, .ref z8, .int (nI (((((((((((((z9 + 1) + 1) + 1) + 1) + 1) + 1) + 1) + 1) + 1) + 1) + 1) + 1) + 1)), .int (nI z10), .int (nI z11), .int (nI z12), .int (nI z13), .int (nI z14), .int (nI z15), .long (lN z16), .ref z17, .int z18, .int (nI z19), .ref z20, .ref z21, .ref z22, .ref z23, .ref z24, .ref z25, .int (nI z26), .int (nI z27), .int (nI z28), .int z29, .int (nI z30), .int (nI z31), .ref z32, .ref z33, .ref z34, .ref z35, .ref z36, .int (bI z37), .int (nI z38), .int (nI z39), .int (nI z40), .int (nI z41), .int (nI z42), .int (nI z43), .int (nI z44), .int (nI z45), .int (nI z46), .ref z47, .ref z48, .ref z49, .ref z50, .ref z51, .ref z52, .int z53, .ref z54])) :: (z8, .inl (g.2.1 3, 600, .inl (yA (updN (updN (updN (updN (updN (updN (updN (updN (updN (updN (updN (updN (updN (updN tp z9 (byS x1 24)) (z9 + 1) (byS x1 16)) ((z9 + 1) + 1) (byS x1 8)) (((z9 + 1) + 1) + 1) (byS x1 0)) ((((z9 + 1) + 1) + 1) + 1) (byS x2 24)) (((((z9 + 1) + 1) + 1) + 1) + 1) (byS x2 16)) ((((((z9 + 1) + 1) + 1) + 1) + 1) + 1) (byS x2 8)) (((((((z9 + 1) + 1) + 1) + 1) + 1) + 1) + 1) (byS x2 0)) ((((((((z9 + 1) + 1) + 1) + 1) + 1) + 1) + 1) + 1) (byS x3 24)) (((((((((z9 + 1) + 1) + 1) + 1) + 1) + 1) + 1) + 1) + 1) (byS x3 16)) ((((((((((z9 + 1) + 1) + 1) + 1) + 1) + 1) + 1) + 1) + 1) + 1) (byS x3 8)) (((((((((((z9 + 1) + 1) + 1) + 1) + 1) + 1) + 1) + 1) + 1) + 1) + 1) (byS x3 0)) ((((((((((((z9 + 1) + 1) + 1) + 1) + 1) + 1) + 1) + 1) + 1) + 1) + 1) + 1) (byS x4 24)) (((((((((((((z9 + 1) + 1) + 1) + 1) + 1) + 1) + 1) + 1) + 1) + 1) + 1) + 1) + 1) (byS x4 16))))) :: R) F hG hW 1 rfl (by omega) (by decide) hS (byS_lt _ _) rfl dX14_feed_100 (fun H locs hW hS => ?_)
    refine lv_aload_n F.1 F.2.1 dX14_feed_101 rfl (lv_at hl 2 rfl) ?_
    refine lv_dup F.1 F.2.1 dX14_feed_102 rfl ?_
    refine gGet F hG hW nX14_feed_X14 0 rfl rfl 9 (by decide) mX14_feed_2 rfl dX14_feed_103 ?_
    refine lv_iconst (v := nI 1) F.1 F.2.1 dX14_feed_106 rfl ?_
    refine gAdd F dX14_feed_107 ?_
    refine gPut (w2 := (o, .inr (11, [.int (nI 0), .int (nI z1), .int z2, .int (nI z3), .ref z4, .ref z5, .int (bI z6), .ref z7, .ref z8, .int (nI ((((((((((((((z9 + 1) + 1) + 1) + 1) + 1) + 1) + 1) + 1) + 1) + 1) + 1) + 1) + 1) + 1)), .int (nI z10), .int (nI z11), .int (nI z12), .int (nI z13), .int (nI z14), .int (nI z15), .long (lN z16), .ref z17, .int z18, .int (nI z19), .ref z20, .ref z21, .ref z22, .ref z23, .ref z24, .ref z25, .int (nI z26), .int (nI z27), .int (nI z28), .int z29, .int (nI z30), .int (nI z31), .ref z32, .ref z33, .ref z34, .ref z35, .ref z36, .int (bI z37), .int (nI z38), .int (nI z39), .int (nI z40), .int (nI z41), .int (nI z42), .int (nI z43), .int (nI z44), .int (nI z45), .int (nI z46), .ref z47, .ref z48, .ref z49, .ref z50, .ref z51, .ref z52, .int z53, .ref z54])) :: (z8, .inl (g.2.1 3, 600, .inl (yA (updN (updN (updN (updN (updN (updN (updN (updN (updN (updN (updN (updN (updN (updN tp z9 (byS x1 24)) (z9 + 1) (byS x1 16)) ((z9 + 1) + 1) (byS x1 8)) (((z9 + 1) + 1) + 1) (byS x1 0)) ((((z9 + 1) + 1) + 1) + 1) (byS x2 24)) (((((z9 + 1) + 1) + 1) + 1) + 1) (byS x2 16)) ((((((z9 + 1) + 1) + 1) + 1) + 1) + 1) (byS x2 8)) (((((((z9 + 1) + 1) + 1) + 1) + 1) + 1) + 1) (byS x2 0)) ((((((((z9 + 1) + 1) + 1) + 1) + 1) + 1) + 1) + 1) (byS x3 24)) (((((((((z9 + 1) + 1) + 1) + 1) + 1) + 1) + 1) + 1) + 1) (byS x3 16)) ((((((((((z9 + 1) + 1) + 1) + 1) + 1) + 1) + 1) + 1) + 1) + 1) (byS x3 8)) (((((((((((z9 + 1) + 1) + 1) + 1) + 1) + 1) + 1) + 1) + 1) + 1) + 1) (byS x3 0)) ((((((((((((z9 + 1) + 1) + 1) + 1) + 1) + 1) + 1) + 1) + 1) + 1) + 1) + 1) (byS x4 24)) (((((((((((((z9 + 1) + 1) + 1) + 1) + 1) + 1) + 1) + 1) + 1) + 1) + 1) + 1) + 1) (byS x4 16))))) :: R) F hS hG hW nX14_feed_X14 0 rfl rfl 9 (by decide) tyX14 tyX14_ok nmX14 mX14_feed_2 rfl rfl rfl rfl (Nat.le_of_ble_eq_true rfl) rfl dX14_feed_108 (fun H locs hW hS => ?_)
    refine lv_iinc (v := nI 14) (lv' := [(6, .int (nI 14)), (7, .int x4), (0, .ref o), (1, .int x1), (2, .int x2), (3, .int x3), (4, .int x4), (5, .int x5)]) F.1 F.2.1 dX14_feed_111 hl (k := 1) rfl (by decide) (by decide) rfl (fun ls hl => ?_)
    refine lv_goto (tgt := 23) F.1 F.2.1 dX14_feed_114 (by decide) ?_
    refine lv_iload F.1 F.2.1 dX14_feed_23 (lv_at hl 0 rfl) ?_
    refine lv_bipush (v := nI 20) F.1 F.2.1 dX14_feed_25 (by decide) ?_
    refine gGe (tgt := 117) F (by decide) (by decide) dX14_feed_27 (by decide) (fun c_27 => by exfalso; omega) (fun c_27 => ?_)
    refine lv_iload F.1 F.2.1 dX14_feed_30 (lv_at hl 0 rfl) ?_
    refine lv_iconst (v := nI 4) F.1 F.2.1 dX14_feed_32 rfl ?_
    refine gGe (tgt := 40) F (by decide) (by decide) dX14_feed_33 (by decide) (fun c_33 => ?_) (fun c_33 => by exfalso; omega)
    refine lv_iload F.1 F.2.1 dX14_feed_40 (lv_at hl 0 rfl) ?_
    refine lv_bipush (v := nI 8) F.1 F.2.1 dX14_feed_42 (by decide) ?_
    refine gGe (tgt := 51) F (by decide) (by decide) dX14_feed_44 (by decide) (fun c_44 => ?_) (fun c_44 => by exfalso; omega)
    refine lv_iload F.1 F.2.1 dX14_feed_51 (lv_at hl 0 rfl) ?_
    refine lv_bipush (v := nI 12) F.1 F.2.1 dX14_feed_53 (by decide) ?_
    refine gGe (tgt := 62) F (by decide) (by decide) dX14_feed_55 (by decide) (fun c_55 => ?_) (fun c_55 => by exfalso; omega)
    refine lv_iload F.1 F.2.1 dX14_feed_62 (lv_at hl 0 rfl) ?_
    refine lv_bipush (v := nI 16) F.1 F.2.1 dX14_feed_64 (by decide) ?_
    refine gGe (tgt := 74) F (by decide) (by decide) dX14_feed_66 (by decide) (fun c_66 => by exfalso; omega) (fun c_66 => ?_)
    refine lv_iload F.1 F.2.1 dX14_feed_69 (lv_at hl 6 rfl) ?_
    refine lv_goto (tgt := 76) F.1 F.2.1 dX14_feed_71 (by decide) ?_
    refine lv_istore (lv' := [(7, .int x4), (6, .int (nI 14)), (0, .ref o), (1, .int x1), (2, .int x2), (3, .int x3), (4, .int x4), (5, .int x5)]) F.1 F.2.1 dX14_feed_76 hl (by decide) rfl (fun ls hl => ?_)
    refine lv_aload_n F.1 F.2.1 dX14_feed_78 rfl (lv_at hl 2 rfl) ?_
    refine gGet F hG hW nX14_feed_X14 0 rfl rfl 8 (by decide) mX14_feed_3 rfl dX14_feed_79 ?_
    refine lv_aload_n F.1 F.2.1 dX14_feed_82 rfl (lv_at hl 2 rfl) ?_
    refine gGet F hG hW nX14_feed_X14 0 rfl rfl 9 (by decide) mX14_feed_2 rfl dX14_feed_83 ?_
    refine lv_iload F.1 F.2.1 dX14_feed_86 (lv_at hl 0 rfl) ?_
    refine lv_bipush (v := nI 24) F.1 F.2.1 dX14_feed_88 (by decide) ?_
    refine lv_bipush (v := nI 8) F.1 F.2.1 dX14_feed_90 (by decide) ?_
    refine lv_iload F.1 F.2.1 dX14_feed_92 (lv_at hl 1 rfl) ?_
    refine lv_iconst (v := nI 4) F.1 F.2.1 dX14_feed_94 rfl ?_
    refine gRem F (by omega) (by omega) (by omega) dX14_feed_95 ?_
    refine gMul F dX14_feed_96 ?_
    refine gSub F (by omega) dX14_feed_97 ?_
    refine lv_ishr F.1 F.2.1 dX14_feed_98 ?_
    refine lv_i2b (v := sB (byS x4 8)) F.1 F.2.1 dX14_feed_99 (byS_i2b x4 2 (by decide)) ?_
    refine gStBY (w2 := (o, .inr (11, [.int (nI 0), .int (nI z1), .int z2, .int (nI z3), .ref z4, .ref z5, .int (bI z6), .ref z7, .ref z8, .int (nI ((((((((((((((z9 + 1) + 1) + 1) + 1) + 1) + 1) + 1) + 1) + 1) + 1) + 1) + 1) + 1) + 1)), .int (nI z10), .int (nI z11), .int (nI z12), .int (nI z13), .int (nI z14), .int (nI z15), .long (lN z16), .ref z17, .int z18, .int (nI z19), .ref z20, .ref z21, .ref z22, .ref z23, .ref z24, .ref z25, .int (nI z26), .int (nI z27), .int (nI z28), .int z29, .int (nI z30), .int (nI z31), .ref z32, .ref z33, .ref z34, .ref z35, .ref z36, .int (bI z37), .int (nI z38), .int (nI z39), .int (nI z40), .int (nI z41), .int (nI z42), .int (nI z43), .int (nI z44), .int (nI z45), .int (nI z46), .ref z47, .ref z48, .ref z49, .ref z50, .ref z51, .ref z52, .int z53, .ref z54])) :: (z8, .inl (g.2.1 3, 600, .inl (yA (updN (updN (updN (updN (updN (updN (updN (updN (updN (updN (updN (updN (updN (updN (updN tp z9 (byS x1 24)) (z9 + 1) (byS x1 16)) ((z9 + 1) + 1) (byS x1 8)) (((z9 + 1) + 1) + 1) (byS x1 0)) ((((z9 + 1) + 1) + 1) + 1) (byS x2 24)) (((((z9 + 1) + 1) + 1) + 1) + 1) (byS x2 16)) ((((((z9 + 1) + 1) + 1) + 1) + 1) + 1) (byS x2 8)) (((((((z9 + 1) + 1) + 1) + 1) + 1) + 1) + 1) (byS x2 0)) ((((((((z9 + 1) + 1) + 1) + 1) + 1) + 1) + 1) + 1) (byS x3 24)) (((((((((z9 + 1) + 1) + 1) + 1) + 1) + 1) + 1) + 1) + 1) (byS x3 16)) ((((((((((z9 + 1) + 1) + 1) + 1) + 1) + 1) + 1) + 1) + 1) + 1) (byS x3 8)) (((((((((((z9 + 1) + 1) + 1) + 1) + 1) + 1) + 1) + 1) + 1) + 1) + 1) (byS x3 0)) ((((((((((((z9 + 1) + 1) + 1) + 1) + 1) + 1) + 1) + 1) + 1) + 1) + 1) + 1) (byS x4 24)) (((((((((((((z9 + 1) + 1) + 1) + 1) + 1) + 1) + 1) + 1) + 1) + 1) + 1) + 1) + 1) (byS x4 16)) ((((((((((((((z9 + 1) + 1) + 1) + 1) + 1) + 1) + 1) + 1) + 1) + 1) + 1) + 1) + 1) + 1) (byS x4 8))))) :: R) F hG hW 1 rfl (by omega) (by decide) hS (byS_lt _ _) rfl dX14_feed_100 (fun H locs hW hS => ?_)
    refine lv_aload_n F.1 F.2.1 dX14_feed_101 rfl (lv_at hl 2 rfl) ?_
    refine lv_dup F.1 F.2.1 dX14_feed_102 rfl ?_
    refine gGet F hG hW nX14_feed_X14 0 rfl rfl 9 (by decide) mX14_feed_2 rfl dX14_feed_103 ?_
    refine lv_iconst (v := nI 1) F.1 F.2.1 dX14_feed_106 rfl ?_
    refine gAdd F dX14_feed_107 ?_
    refine gPut (w2 := (o, .inr (11, [.int (nI 0), .int (nI z1), .int z2, .int (nI z3), .ref z4, .ref z5, .int (bI z6), .ref z7, .ref z8, .int (nI (((((((((((((((z9 + 1) + 1) + 1) + 1) + 1) + 1) + 1) + 1) + 1) + 1) + 1) + 1) + 1) + 1) + 1)), .int (nI z10), .int (nI z11), .int (nI z12), .int (nI z13), .int (nI z14), .int (nI z15), .long (lN z16), .ref z17, .int z18, .int (nI z19), .ref z20, .ref z21, .ref z22, .ref z23, .ref z24, .ref z25, .int (nI z26), .int (nI z27), .int (nI z28), .int z29, .int (nI z30), .int (nI z31), .ref z32, .ref z33, .ref z34, .ref z35, .ref z36, .int (bI z37), .int (nI z38), .int (nI z39), .int (nI z40), .int (nI z41), .int (nI z42), .int (nI z43), .int (nI z44), .int (nI z45), .int (nI z46), .ref z47, .ref z48, .ref z49, .ref z50, .ref z51, .ref z52, .int z53, .ref z54])) :: (z8, .inl (g.2.1 3, 600, .inl (yA (updN (updN (updN (updN (updN (updN (updN (updN (updN (updN (updN (updN (updN (updN (updN tp z9 (byS x1 24)) (z9 + 1) (byS x1 16)) ((z9 + 1) + 1) (byS x1 8)) (((z9 + 1) + 1) + 1) (byS x1 0)) ((((z9 + 1) + 1) + 1) + 1) (byS x2 24)) (((((z9 + 1) + 1) + 1) + 1) + 1) (byS x2 16)) ((((((z9 + 1) + 1) + 1) + 1) + 1) + 1) (byS x2 8)) (((((((z9 + 1) + 1) + 1) + 1) + 1) + 1) + 1) (byS x2 0)) ((((((((z9 + 1) + 1) + 1) + 1) + 1) + 1) + 1) + 1) (byS x3 24)) (((((((((z9 + 1) + 1) + 1) + 1) + 1) + 1) + 1) + 1) + 1) (byS x3 16)) ((((((((((z9 + 1) + 1) + 1) + 1) + 1) + 1) + 1) + 1) + 1) + 1) (byS x3 8)) (((((((((((z9 + 1) + 1) + 1) + 1) + 1) + 1) + 1) + 1) + 1) + 1) + 1) (byS x3 0)) ((((((((((((z9 + 1) + 1) + 1) + 1) + 1) + 1) + 1) + 1) + 1) + 1) + 1) + 1) (byS x4 24)) (((((((((((((z9 + 1) + 1) + 1) + 1) + 1) + 1) + 1) + 1) + 1) + 1) + 1) + 1) + 1) (byS x4 16)) ((((((((((((((z9 + 1) + 1) + 1) + 1) + 1) + 1) + 1) + 1) + 1) + 1) + 1) + 1) + 1) + 1) (byS x4 8))))) :: R) F hS hG hW nX14_feed_X14 0 rfl rfl 9 (by decide) tyX14 tyX14_ok nmX14 mX14_feed_2 rfl rfl rfl rfl (Nat.le_of_ble_eq_true rfl) rfl dX14_feed_108 (fun H locs hW hS => ?_)
    refine lv_iinc (v := nI 15) (lv' := [(6, .int (nI 15)), (7, .int x4), (0, .ref o), (1, .int x1), (2, .int x2), (3, .int x3), (4, .int x4), (5, .int x5)]) F.1 F.2.1 dX14_feed_111 hl (k := 1) rfl (by decide) (by decide) rfl (fun ls hl => ?_)
    refine lv_goto (tgt := 23) F.1 F.2.1 dX14_feed_114 (by decide) ?_
    refine lv_iload F.1 F.2.1 dX14_feed_23 (lv_at hl 0 rfl) ?_
    refine lv_bipush (v := nI 20) F.1 F.2.1 dX14_feed_25 (by decide) ?_
    refine gGe (tgt := 117) F (by decide) (by decide) dX14_feed_27 (by decide) (fun c_27 => by exfalso; omega) (fun c_27 => ?_)
    refine lv_iload F.1 F.2.1 dX14_feed_30 (lv_at hl 0 rfl) ?_
    refine lv_iconst (v := nI 4) F.1 F.2.1 dX14_feed_32 rfl ?_
    refine gGe (tgt := 40) F (by decide) (by decide) dX14_feed_33 (by decide) (fun c_33 => ?_) (fun c_33 => by exfalso; omega)
    refine lv_iload F.1 F.2.1 dX14_feed_40 (lv_at hl 0 rfl) ?_
    refine lv_bipush (v := nI 8) F.1 F.2.1 dX14_feed_42 (by decide) ?_
    refine gGe (tgt := 51) F (by decide) (by decide) dX14_feed_44 (by decide) (fun c_44 => ?_) (fun c_44 => by exfalso; omega)
    refine lv_iload F.1 F.2.1 dX14_feed_51 (lv_at hl 0 rfl) ?_
    refine lv_bipush (v := nI 12) F.1 F.2.1 dX14_feed_53 (by decide) ?_
    refine gGe (tgt := 62) F (by decide) (by decide) dX14_feed_55 (by decide) (fun c_55 => ?_) (fun c_55 => by exfalso; omega)
    refine lv_iload F.1 F.2.1 dX14_feed_62 (lv_at hl 0 rfl) ?_
    refine lv_bipush (v := nI 16) F.1 F.2.1 dX14_feed_64 (by decide) ?_
    refine gGe (tgt := 74) F (by decide) (by decide) dX14_feed_66 (by decide) (fun c_66 => by exfalso; omega) (fun c_66 => ?_)
    refine lv_iload F.1 F.2.1 dX14_feed_69 (lv_at hl 6 rfl) ?_
    refine lv_goto (tgt := 76) F.1 F.2.1 dX14_feed_71 (by decide) ?_
    refine lv_istore (lv' := [(7, .int x4), (6, .int (nI 15)), (0, .ref o), (1, .int x1), (2, .int x2), (3, .int x3), (4, .int x4), (5, .int x5)]) F.1 F.2.1 dX14_feed_76 hl (by decide) rfl (fun ls hl => ?_)
    refine lv_aload_n F.1 F.2.1 dX14_feed_78 rfl (lv_at hl 2 rfl) ?_
    refine gGet F hG hW nX14_feed_X14 0 rfl rfl 8 (by decide) mX14_feed_3 rfl dX14_feed_79 ?_
    refine lv_aload_n F.1 F.2.1 dX14_feed_82 rfl (lv_at hl 2 rfl) ?_
    refine gGet F hG hW nX14_feed_X14 0 rfl rfl 9 (by decide) mX14_feed_2 rfl dX14_feed_83 ?_
    refine lv_iload F.1 F.2.1 dX14_feed_86 (lv_at hl 0 rfl) ?_
    refine lv_bipush (v := nI 24) F.1 F.2.1 dX14_feed_88 (by decide) ?_
    refine lv_bipush (v := nI 8) F.1 F.2.1 dX14_feed_90 (by decide) ?_
    refine lv_iload F.1 F.2.1 dX14_feed_92 (lv_at hl 1 rfl) ?_
    refine lv_iconst (v := nI 4) F.1 F.2.1 dX14_feed_94 rfl ?_
    refine gRem F (by omega) (by omega) (by omega) dX14_feed_95 ?_
    refine gMul F dX14_feed_96 ?_
    refine gSub F (by omega) dX14_feed_97 ?_
    refine lv_ishr F.1 F.2.1 dX14_feed_98 ?_
    refine lv_i2b (v := sB (byS x4 0)) F.1 F.2.1 dX14_feed_99 (byS_i2b x4 3 (by decide)) ?_
    refine gStBY (w2 := (o, .inr (11, [.int (nI 0), .int (nI z1), .int z2, .int (nI z3), .ref z4, .ref z5, .int (bI z6), .ref z7, .ref z8, .int (nI (((((((((((((((z9 + 1) + 1) + 1) + 1) + 1) + 1) + 1) + 1) + 1) + 1) + 1) + 1) + 1) + 1) + 1)), .int (nI z10), .int (nI z11), .int (nI z12), .int (nI z13), .int (nI z14), .int (nI z15), .long (lN z16), .ref z17, .int z18, .int (nI z19), .ref z20, .ref z21, .ref z22, .ref z23, .ref z24, .ref z25, .int (nI z26), .int (nI z27), .int (nI z28), .int z29, .int (nI z30), .int (nI z31), .ref z32, .ref z33, .ref z34, .ref z35, .ref z36, .int (bI z37), .int (nI z38), .int (nI z39), .int (nI z40), .int (nI z41), .int (nI z42), .int (nI z43), .int (nI z44), .int (nI z45), .int (nI z46), .ref z47, .ref z48, .ref z49, .ref z50, .ref z51, .ref z52, .int z53, .ref z54])) :: (z8, .inl (g.2.1 3, 600, .inl (yA (updN (updN (updN (updN (updN (updN (updN (updN (updN (updN (updN (updN (updN (updN (updN (updN tp z9 (byS x1 24)) (z9 + 1) (byS x1 16)) ((z9 + 1) + 1) (byS x1 8)) (((z9 + 1) + 1) + 1) (byS x1 0)) ((((z9 + 1) + 1) + 1) + 1) (byS x2 24)) (((((z9 + 1) + 1) + 1) + 1) + 1) (byS x2 16)) ((((((z9 + 1) + 1) + 1) + 1) + 1) + 1) (byS x2 8)) (((((((z9 + 1) + 1) + 1) + 1) + 1) + 1) + 1) (byS x2 0)) ((((((((z9 + 1) + 1) + 1) + 1) + 1) + 1) + 1) + 1) (byS x3 24)) (((((((((z9 + 1) + 1) + 1) + 1) + 1) + 1) + 1) + 1) + 1) (byS x3 16)) ((((((((((z9 + 1) + 1) + 1) + 1) + 1) + 1) + 1) + 1) + 1) + 1) (byS x3 8)) (((((((((((z9 + 1) + 1) + 1) + 1) + 1) + 1) + 1) + 1) + 1) + 1) + 1) (byS x3 0)) ((((((((((((z9 + 1) + 1) + 1) + 1) + 1) + 1) + 1) + 1) + 1) + 1) + 1) + 1) (byS x4 24)) (((((((((((((z9 + 1) + 1) + 1) + 1) + 1) + 1) + 1) + 1) + 1) + 1) + 1) + 1) + 1) (byS x4 16)) ((((((((((((((z9 + 1) + 1) + 1) + 1) + 1) + 1) + 1) + 1) + 1) + 1) + 1) + 1) + 1) + 1) (byS x4 8)) (((((((((((((((z9 + 1) + 1) + 1) + 1) + 1) + 1) + 1) + 1) + 1) + 1) + 1) + 1) + 1) + 1) + 1) (byS x4 0))))) :: R) F hG hW 1 rfl (by omega) (by decide) hS (byS_lt _ _) rfl dX14_feed_100 (fun H locs hW hS => ?_)
    refine lv_aload_n F.1 F.2.1 dX14_feed_101 rfl (lv_at hl 2 rfl) ?_
    refine lv_dup F.1 F.2.1 dX14_feed_102 rfl ?_
    refine gGet F hG hW nX14_feed_X14 0 rfl rfl 9 (by decide) mX14_feed_2 rfl dX14_feed_103 ?_
    refine lv_iconst (v := nI 1) F.1 F.2.1 dX14_feed_106 rfl ?_
    refine gAdd F dX14_feed_107 ?_
    refine gPut (w2 := (o, .inr (11, [.int (nI 0), .int (nI z1), .int z2, .int (nI z3), .ref z4, .ref z5, .int (bI z6), .ref z7, .ref z8, .int (nI ((((((((((((((((z9 + 1) + 1) + 1) + 1) + 1) + 1) + 1) + 1) + 1) + 1) + 1) + 1) + 1) + 1) + 1) + 1)), .int (nI z10), .int (nI z11), .int (nI z12), .int (nI z13), .int (nI z14), .int (nI z15), .long (lN z16), .ref z17, .int z18, .int (nI z19), .ref z20, .ref z21, .ref z22, .ref z23, .ref z24, .ref z25, .int (nI z26), .int (nI z27), .int (nI z28), .int z29, .int (nI z30), .int (nI z31), .ref z32, .ref z33, .ref z34, .ref z35, .ref z36, .int (bI z37), .int (nI z38), .int (nI z39), .int (nI z40), .int (nI z41), .int (nI z42), .int (nI z43), .int (nI z44), .int (nI z45), .int (nI z46), .ref z47, .ref z48, .ref z49, .ref z50, .ref z51, .ref z52, .int z53, .ref z54])) :: (z8, .inl (g.2.1 3, 600, .inl (yA (updN (updN (updN (updN (updN (updN (updN (updN (updN (updN (updN (updN (updN (updN (updN (updN tp z9 (byS x1 24)) (z9 + 1) (byS x1 16)) ((z9 + 1) + 1) (byS x1 8)) (((z9 + 1) + 1) + 1) (byS x1 0)) ((((z9 + 1) + 1) + 1) + 1) (byS x2 24)) (((((z9 + 1) + 1) + 1) + 1) + 1) (byS x2 16)) ((((((z9 + 1) + 1) + 1) + 1) + 1) + 1) (byS x2 8)) (((((((z9 + 1) + 1) + 1) + 1) + 1) + 1) + 1) (byS x2 0)) ((((((((z9 + 1) + 1) + 1) + 1) + 1) + 1) + 1) + 1) (byS x3 24)) (((((((((z9 + 1) + 1) + 1) + 1) + 1) + 1) + 1) + 1) + 1) (byS x3 16)) ((((((((((z9 + 1) + 1) + 1) + 1) + 1) + 1) + 1) + 1) + 1) + 1) (byS x3 8)) (((((((((((z9 + 1) + 1) + 1) + 1) + 1) + 1) + 1) + 1) + 1) + 1) + 1) (byS x3 0)) ((((((((((((z9 + 1) + 1) + 1) + 1) + 1) + 1) + 1) + 1) + 1) + 1) + 1) + 1) (byS x4 24)) (((((((((((((z9 + 1) + 1) + 1) + 1) + 1) + 1) + 1) + 1) + 1) + 1) + 1) + 1) + 1) (byS x4 16)) ((((((((((((((z9 + 1) + 1) + 1) + 1) + 1) + 1) + 1) + 1) + 1) + 1) + 1) + 1) + 1) + 1) (byS x4 8)) (((((((((((((((z9 + 1) + 1) + 1) + 1) + 1) + 1) + 1) + 1) + 1) + 1) + 1) + 1) + 1) + 1) + 1) (byS x4 0))))) :: R) F hS hG hW nX14_feed_X14 0 rfl rfl 9 (by decide) tyX14 tyX14_ok nmX14 mX14_feed_2 rfl rfl rfl rfl (Nat.le_of_ble_eq_true rfl) rfl dX14_feed_108 (fun H locs hW hS => ?_)
    refine lv_iinc (v := nI 16) (lv' := [(6, .int (nI 16)), (7, .int x4), (0, .ref o), (1, .int x1), (2, .int x2), (3, .int x3), (4, .int x4), (5, .int x5)]) F.1 F.2.1 dX14_feed_111 hl (k := 1) rfl (by decide) (by decide) rfl (fun ls hl => ?_)
    refine lv_goto (tgt := 23) F.1 F.2.1 dX14_feed_114 (by decide) ?_
    refine lv_iload F.1 F.2.1 dX14_feed_23 (lv_at hl 0 rfl) ?_
    refine lv_bipush (v := nI 20) F.1 F.2.1 dX14_feed_25 (by decide) ?_
    refine gGe (tgt := 117) F (by decide) (by decide) dX14_feed_27 (by decide) (fun c_27 => by exfalso; omega) (fun c_27 => ?_)
    refine lv_iload F.1 F.2.1 dX14_feed_30 (lv_at hl 0 rfl) ?_
    refine lv_iconst (v := nI 4) F.1 F.2.1 dX14_feed_32 rfl ?_
    refine gGe (tgt := 40) F (by decide) (by decide) dX14_feed_33 (by decide) (fun c_33 => ?_) (fun c_33 => by exfalso; omega)
    refine lv_iload F.1 F.2.1 dX14_feed_40 (lv_at hl 0 rfl) ?_
    refine lv_bipush (v := nI 8) F.1 F.2.1 dX14_feed_42 (by decide) ?_
    refine gGe (tgt := 51) F (by decide) (by decide) dX14_feed_44 (by decide) (fun c_44 => ?_) (fun c_44 => by exfalso; omega)
    refine lv_iload F.1 F.2.1 dX14_feed_51 (lv_at hl 0 rfl) ?_
    refine lv_bipush (v := nI 12) F.1 F.2.1 dX14_feed_53 (by decide) ?_
    refine gGe (tgt := 62) F (by decide) (by decide) dX14_feed_55 (by decide) (fun c_55 => ?_) (fun c_55 => by exfalso; omega)
    refine lv_iload F.1 F.2.1 dX14_feed_62 (lv_at hl 0 rfl) ?_
    refine lv_bipush (v := nI 16) F.1 F.2.1 dX14_feed_64 (by decide) ?_
    refine gGe (tgt := 74) F (by decide) (by decide) dX14_feed_66 (by decide) (fun c_66 => ?_) (fun c_66 => by exfalso; omega)
    refine lv_iload F.1 F.2.1 dX14_feed_74 (lv_at hl 7 rfl) ?_
    refine lv_istore (lv' := [(7, .int x5), (6, .int (nI 16)), (0, .ref o), (1, .int x1), (2, .int x2), (3, .int x3), (4, .int x4), (5, .int x5)]) F.1 F.2.1 dX14_feed_76 hl (by decide) rfl (fun ls hl => ?_)
    refine lv_aload_n F.1 F.2.1 dX14_feed_78 rfl (lv_at hl 2 rfl) ?_
    refine gGet F hG hW nX14_feed_X14 0 rfl rfl 8 (by decide) mX14_feed_3 rfl dX14_feed_79 ?_
    refine lv_aload_n F.1 F.2.1 dX14_feed_82 rfl (lv_at hl 2 rfl) ?_
    refine gGet F hG hW nX14_feed_X14 0 rfl rfl 9 (by decide) mX14_feed_2 rfl dX14_feed_83 ?_
    refine lv_iload F.1 F.2.1 dX14_feed_86 (lv_at hl 0 rfl) ?_
    refine lv_bipush (v := nI 24) F.1 F.2.1 dX14_feed_88 (by decide) ?_
    refine lv_bipush (v := nI 8) F.1 F.2.1 dX14_feed_90 (by decide) ?_
    refine lv_iload F.1 F.2.1 dX14_feed_92 (lv_at hl 1 rfl) ?_
    refine lv_iconst (v := nI 4) F.1 F.2.1 dX14_feed_94 rfl ?_
    refine gRem F (by omega) (by omega) (by omega) dX14_feed_95 ?_
    refine gMul F dX14_feed_96 ?_
    refine gSub F (by omega) dX14_feed_97 ?_
    refine lv_ishr F.1 F.2.1 dX14_feed_98 ?_
    refine lv_i2b (v := sB (byS x5 24)) F.1 F.2.1 dX14_feed_99 (byS_i2b x5 0 (by decide)) ?_
    refine gStBY (w2 := (o, .inr (11, [.int (nI 0), .int (nI z1), .int z2, .int (nI z3), .ref z4, .ref z5, .int (bI z6), .ref z7, .ref z8, .int (nI ((((((((((((((((z9 + 1) + 1) + 1) + 1) + 1) + 1) + 1) + 1) + 1) + 1) + 1) + 1) + 1) + 1) + 1) + 1)), .int (nI z10), .int (nI z11), .int (nI z12), .int (nI z13), .int (nI z14), .int (nI z15), .long (lN z16), .ref z17, .int z18, .int (nI z19), .ref z20, .ref z21, .ref z22, .ref z23, .ref z24, .ref z25, .int (nI z26), .int (nI z27), .int (nI z28), .int z29, .int (nI z30), .int (nI z31), .ref z32, .ref z33, .ref z34, .ref z35, .ref z36, .int (bI z37), .int (nI z38), .int (nI z39), .int (nI z40), .int (nI z41), .int (nI z42), .int (nI z43), .int (nI z44), .int (nI z45), .int (nI z46), .ref z47, .ref z48, .ref z49, .ref z50, .ref z51, .ref z52, .int z53, .ref z54])) :: (z8, .inl (g.2.1 3, 600, .inl (yA (updN (updN (updN (updN (updN (updN (updN (updN (updN (updN (updN (updN (updN (updN (updN (updN (updN tp z9 (byS x1 24)) (z9 + 1) (byS x1 16)) ((z9 + 1) + 1) (byS x1 8)) (((z9 + 1) + 1) + 1) (byS x1 0)) ((((z9 + 1) + 1) + 1) + 1) (byS x2 24)) (((((z9 + 1) + 1) + 1) + 1) + 1) (byS x2 16)) ((((((z9 + 1) + 1) + 1) + 1) + 1) + 1) (byS x2 8)) (((((((z9 + 1) + 1) + 1) + 1) + 1) + 1) + 1) (byS x2 0)) ((((((((z9 + 1) + 1) + 1) + 1) + 1) + 1) + 1) + 1) (byS x3 24)) (((((((((z9 + 1) + 1) + 1) + 1) + 1) + 1) + 1) + 1) + 1) (byS x3 16)) ((((((((((z9 + 1) + 1) + 1) + 1) + 1) + 1) + 1) + 1) + 1) + 1) (byS x3 8)) (((((((((((z9 + 1) + 1) + 1) + 1) + 1) + 1) + 1) + 1) + 1) + 1) + 1) (byS x3 0)) ((((((((((((z9 + 1) + 1) + 1) + 1) + 1) + 1) + 1) + 1) + 1) + 1) + 1) + 1) (byS x4 24)) (((((((((((((z9 + 1) + 1) + 1) + 1) + 1) + 1) + 1) + 1) + 1) + 1) + 1) + 1) + 1) (byS x4 16)) ((((((((((((((z9 + 1) + 1) + 1) + 1) + 1) + 1) + 1) + 1) + 1) + 1) + 1) + 1) + 1) + 1) (byS x4 8)) (((((((((((((((z9 + 1) + 1) + 1) + 1) + 1) + 1) + 1) + 1) + 1) + 1) + 1) + 1) + 1) + 1) + 1) (byS x4 0)) ((((((((((((((((z9 + 1) + 1) + 1) + 1) + 1) + 1) + 1) + 1) + 1) + 1) + 1) + 1) + 1) + 1) + 1) + 1) (byS x5 24))))) :: R) F hG hW 1 rfl (by omega) (by decide) hS (byS_lt _ _) rfl dX14_feed_100 (fun H locs hW hS => ?_)
    refine lv_aload_n F.1 F.2.1 dX14_feed_101 rfl (lv_at hl 2 rfl) ?_
    refine lv_dup F.1 F.2.1 dX14_feed_102 rfl ?_
    refine gGet F hG hW nX14_feed_X14 0 rfl rfl 9 (by decide) mX14_feed_2 rfl dX14_feed_103 ?_
    refine lv_iconst (v := nI 1) F.1 F.2.1 dX14_feed_106 rfl ?_
    refine gAdd F dX14_feed_107 ?_
    refine gPut (w2 := (o, .inr (11, [.int (nI 0), .int (nI z1), .int z2, .int (nI z3), .ref z4, .ref z5, .int (bI z6), .ref z7, .ref z8, .int (nI (((((((((((((((((z9 + 1) + 1) + 1) + 1) + 1) + 1) + 1) + 1) + 1) + 1) + 1) + 1) + 1) + 1) + 1) + 1) + 1)), .int (nI z10), .int (nI z11), .int (nI z12), .int (nI z13), .int (nI z14), .int (nI z15), .long (lN z16), .ref z17, .int z18, .int (nI z19), .ref z20, .ref z21, .ref z22, .ref z23, .ref z24, .ref z25, .int (nI z26), .int (nI z27), .int (nI z28), .int z29, .int (nI z30), .int (nI z31), .ref z32, .ref z33, .ref z34, .ref z35, .ref z36, .int (bI z37), .int (nI z38), .int (nI z39), .int (nI z40), .int (nI z41), .int (nI z42), .int (nI z43), .int (nI z44), .int (nI z45), .int (nI z46), .ref z47, .ref z48, .ref z49, .ref z50, .ref z51, .ref z52, .int z53, .ref z54])) :: (z8, .inl (g.2.1 3, 600, .inl (yA (updN (updN (updN (updN (updN (updN (updN (updN (updN (updN (updN (updN (updN (updN (updN (updN (updN tp z9 (byS x1 24)) (z9 + 1) (byS x1 16)) ((z9 + 1) + 1) (byS x1 8)) (((z9 + 1) + 1) + 1) (byS x1 0)) ((((z9 + 1) + 1) + 1) + 1) (byS x2 24)) (((((z9 + 1) + 1) + 1) + 1) + 1) (byS x2 16)) ((((((z9 + 1) + 1) + 1) + 1) + 1) + 1) (byS x2 8)) (((((((z9 + 1) + 1) + 1) + 1) + 1) + 1) + 1) (byS x2 0)) ((((((((z9 + 1) + 1) + 1) + 1) + 1) + 1) + 1) + 1) (byS x3 24)) (((((((((z9 + 1) + 1) + 1) + 1) + 1) + 1) + 1) + 1) + 1) (byS x3 16)) ((((((((((z9 + 1) + 1) + 1) + 1) + 1) + 1) + 1) + 1) + 1) + 1) (byS x3 8)) (((((((((((z9 + 1) + 1) + 1) + 1) + 1) + 1) + 1) + 1) + 1) + 1) + 1) (byS x3 0)) ((((((((((((z9 + 1) + 1) + 1) + 1) + 1) + 1) + 1) + 1) + 1) + 1) + 1) + 1) (byS x4 24)) (((((((((((((z9 + 1) + 1) + 1) + 1) + 1) + 1) + 1) + 1) + 1) + 1) + 1) + 1) + 1) (byS x4 16)) ((((((((((((((z9 + 1) + 1) + 1) + 1) + 1) + 1) + 1) + 1) + 1) + 1) + 1) + 1) + 1) + 1) (byS x4 8)) (((((((((((((((z9 + 1) + 1) + 1) + 1) + 1) + 1) + 1) + 1) + 1) + 1) + 1) + 1) + 1) + 1) + 1) (byS x4 0)) ((((((((((((((((z9 + 1) + 1) + 1) + 1) + 1) + 1) + 1) + 1) + 1) + 1) + 1) + 1) + 1) + 1) + 1) + 1) (byS x5 24))))) :: R) F hS hG hW nX14_feed_X14 0 rfl rfl 9 (by decide) tyX14 tyX14_ok nmX14 mX14_feed_2 rfl rfl rfl rfl (Nat.le_of_ble_eq_true rfl) rfl dX14_feed_108 (fun H locs hW hS => ?_)
    refine lv_iinc (v := nI 17) (lv' := [(6, .int (nI 17)), (7, .int x5), (0, .ref o), (1, .int x1), (2, .int x2), (3, .int x3), (4, .int x4), (5, .int x5)]) F.1 F.2.1 dX14_feed_111 hl (k := 1) rfl (by decide) (by decide) rfl (fun ls hl => ?_)
    refine lv_goto (tgt := 23) F.1 F.2.1 dX14_feed_114 (by decide) ?_
    refine lv_iload F.1 F.2.1 dX14_feed_23 (lv_at hl 0 rfl) ?_
    refine lv_bipush (v := nI 20) F.1 F.2.1 dX14_feed_25 (by decide) ?_
    refine gGe (tgt := 117) F (by decide) (by decide) dX14_feed_27 (by decide) (fun c_27 => by exfalso; omega) (fun c_27 => ?_)
    refine lv_iload F.1 F.2.1 dX14_feed_30 (lv_at hl 0 rfl) ?_
    refine lv_iconst (v := nI 4) F.1 F.2.1 dX14_feed_32 rfl ?_
    refine gGe (tgt := 40) F (by decide) (by decide) dX14_feed_33 (by decide) (fun c_33 => ?_) (fun c_33 => by exfalso; omega)
    refine lv_iload F.1 F.2.1 dX14_feed_40 (lv_at hl 0 rfl) ?_
    refine lv_bipush (v := nI 8) F.1 F.2.1 dX14_feed_42 (by decide) ?_
    refine gGe (tgt := 51) F (by decide) (by decide) dX14_feed_44 (by decide) (fun c_44 => ?_) (fun c_44 => by exfalso; omega)
    refine lv_iload F.1 F.2.1 dX14_feed_51 (lv_at hl 0 rfl) ?_
    refine lv_bipush (v := nI 12) F.1 F.2.1 dX14_feed_53 (by decide) ?_
    refine gGe (tgt := 62) F (by decide) (by decide) dX14_feed_55 (by decide) (fun c_55 => ?_) (fun c_55 => by exfalso; omega)
    refine lv_iload F.1 F.2.1 dX14_feed_62 (lv_at hl 0 rfl) ?_
    refine lv_bipush (v := nI 16) F.1 F.2.1 dX14_feed_64 (by decide) ?_
    refine gGe (tgt := 74) F (by decide) (by decide) dX14_feed_66 (by decide) (fun c_66 => ?_) (fun c_66 => by exfalso; omega)
    refine lv_iload F.1 F.2.1 dX14_feed_74 (lv_at hl 7 rfl) ?_
    refine lv_istore (lv' := [(7, .int x5), (6, .int (nI 17)), (0, .ref o), (1, .int x1), (2, .int x2), (3, .int x3), (4, .int x4), (5, .int x5)]) F.1 F.2.1 dX14_feed_76 hl (by decide) rfl (fun ls hl => ?_)
    refine lv_aload_n F.1 F.2.1 dX14_feed_78 rfl (lv_at hl 2 rfl) ?_
    refine gGet F hG hW nX14_feed_X14 0 rfl rfl 8 (by decide) mX14_feed_3 rfl dX14_feed_79 ?_
    refine lv_aload_n F.1 F.2.1 dX14_feed_82 rfl (lv_at hl 2 rfl) ?_
    refine gGet F hG hW nX14_feed_X14 0 rfl rfl 9 (by decide) mX14_feed_2 rfl dX14_feed_83 ?_
    refine lv_iload F.1 F.2.1 dX14_feed_86 (lv_at hl 0 rfl) ?_
    refine lv_bipush (v := nI 24) F.1 F.2.1 dX14_feed_88 (by decide) ?_
    refine lv_bipush (v := nI 8) F.1 F.2.1 dX14_feed_90 (by decide) ?_
    refine lv_iload F.1 F.2.1 dX14_feed_92 (lv_at hl 1 rfl) ?_
    refine lv_iconst (v := nI 4) F.1 F.2.1 dX14_feed_94 rfl ?_
    refine gRem F (by omega) (by omega) (by omega) dX14_feed_95 ?_
    refine gMul F dX14_feed_96 ?_
    refine gSub F (by omega) dX14_feed_97 ?_
    refine lv_ishr F.1 F.2.1 dX14_feed_98 ?_
    refine lv_i2b (v := sB (byS x5 16)) F.1 F.2.1 dX14_feed_99 (byS_i2b x5 1 (by decide)) ?_
    refine gStBY (w2 := (o, .inr (11, [.int (nI 0), .int (nI z1), .int z2, .int (nI z3), .ref z4, .ref z5, .int (bI z6), .ref z7, .ref z8, .int (nI (((((((((((((((((z9 + 1) + 1) + 1) + 1) + 1) + 1) + 1) + 1) + 1) + 1) + 1) + 1) + 1) + 1) + 1) + 1) + 1)), .int (nI z10), .int (nI z11), .int (nI z12), .int (nI z13), .int (nI z14), .int (nI z15), .long (lN z16), .ref z17, .int z18, .int (nI z19), .ref z20, .ref z21, .ref z22, .ref z23, .ref z24, .ref z25, .int (nI z26), .int (nI z27), .int (nI z28), .int z29, .int (nI z30), .int (nI z31), .ref z32, .ref z33, .ref z34, .ref z35, .ref z36, .int (bI z37), .int (nI z38), .int (nI z39), .int (nI z40), .int (nI z41), .int (nI z42), .int (nI z43), .int (nI z44), .int (nI z45), .int (nI z46), .ref z47, .ref z48, .ref z49, .ref z50, .ref z51, .ref z52, .int z53, .ref z54])) :: (z8, .inl (g.2.1 3, 600, .inl (yA (updN (updN (updN (updN (updN (updN (updN (updN (updN (updN (updN (updN (updN (updN (updN (updN (updN (updN tp z9 (byS x1 24)) (z9 + 1) (byS x1 16)) ((z9 + 1) + 1) (byS x1 8)) (((z9 + 1) + 1) + 1) (byS x1 0)) ((((z9 + 1) + 1) + 1) + 1) (byS x2 24)) (((((z9 + 1) + 1) + 1) + 1) + 1) (byS x2 16)) ((((((z9 + 1) + 1) + 1) + 1) + 1) + 1) (byS x2 8)) (((((((z9 + 1) + 1) + 1) + 1) + 1) + 1) + 1) (byS x2 0)) ((((((((z9 + 1) + 1) + 1) + 1) + 1) + 1) + 1) + 1) (byS x3 24)) (((((((((z9 + 1) + 1) + 1) + 1) + 1) + 1) + 1) + 1) + 1) (byS x3 16)) ((((((((((z9 + 1) + 1) + 1) + 1) + 1) + 1) + 1) + 1) + 1) + 1) (byS x3 8)) (((((((((((z9 + 1) + 1) + 1) + 1) + 1) + 1) + 1) + 1) + 1) + 1) + 1) (byS x3 0)) ((((((((((((z9 + 1) + 1) + 1) + 1) + 1) + 1) + 1) + 1) + 1) + 1) + 1) + 1) (byS x4 24)) (((((((((((((z9 + 1) + 1) + 1) + 1) + 1) + 1) + 1) + 1) + 1) + 1) + 1) + 1) + 1) (byS x4 16)) ((((((((((((((z9 + 1) + 1) + 1) + 1) + 1) + 1) + 1) + 1) + 1) + 1) + 1) + 1) + 1) + 1) (byS x4 8)) (((((((((((((((z9 + 1) + 1) + 1) + 1) + 1) + 1) + 1) + 1) + 1) + 1) + 1) + 1) + 1) + 1) + 1) (byS x4 0)) ((((((((((((((((z9 + 1) + 1) + 1) + 1) + 1) + 1) + 1) + 1) + 1) + 1) + 1) + 1) + 1) + 1) + 1) + 1) (byS x5 24)) (((((((((((((((((z9 + 1) + 1) + 1) + 1) + 1) + 1) + 1) + 1) + 1) + 1) + 1) + 1) + 1) + 1) + 1) + 1) + 1) (byS x5 16))))) :: R) F hG hW 1 rfl (by omega) (by decide) hS (byS_lt _ _) rfl dX14_feed_100 (fun H locs hW hS => ?_)
    refine lv_aload_n F.1 F.2.1 dX14_feed_101 rfl (lv_at hl 2 rfl) ?_
    refine lv_dup F.1 F.2.1 dX14_feed_102 rfl ?_
    refine gGet F hG hW nX14_feed_X14 0 rfl rfl 9 (by decide) mX14_feed_2 rfl dX14_feed_103 ?_
    refine lv_iconst (v := nI 1) F.1 F.2.1 dX14_feed_106 rfl ?_
    refine gAdd F dX14_feed_107 ?_
    refine gPut (w2 := (o, .inr (11, [.int (nI 0), .int (nI z1), .int z2, .int (nI z3), .ref z4, .ref z5, .int (bI z6), .ref z7, .ref z8, .int (nI ((((((((((((((((((z9 + 1) + 1) + 1) + 1) + 1) + 1) + 1) + 1) + 1) + 1) + 1) + 1) + 1) + 1) + 1) + 1) + 1) + 1)), .int (nI z10), .int (nI z11), .int (nI z12), .int (nI z13), .int (nI z14), .int (nI z15), .long (lN z16), .ref z17, .int z18, .int (nI z19), .ref z20, .ref z21, .ref z22, .ref z23, .ref z24, .ref z25, .int (nI z26), .int (nI z27), .int (nI z28), .int z29, .int (nI z30), .int (nI z31), .ref z32, .ref z33, .ref z34, .ref z35, .ref z36, .int (bI z37), .int (nI z38), .int (nI z39), .int (nI z40), .int (nI z41), .int (nI z42), .int (nI z43), .int (nI z44), .int (nI z45), .int (nI z46), .ref z47, .ref z48, .ref z49, .ref z50, .ref z51, .ref z52, .int z53, .ref z54])) :: (z8, .inl (g.2.1 3, 600, .inl (yA (updN (updN (updN (updN (updN (updN (updN (updN (updN (updN (updN (updN (updN (updN (updN (updN (updN (updN tp z9 (byS x1 24)) (z9 + 1) (byS x1 16)) ((z9 + 1) + 1) (byS x1 8)) (((z9 + 1) + 1) + 1) (byS x1 0)) ((((z9 + 1) + 1) + 1) + 1) (byS x2 24)) (((((z9 + 1) + 1) + 1) + 1) + 1) (byS x2 16)) ((((((z9 + 1) + 1) + 1) + 1) + 1) + 1) (byS x2 8)) (((((((z9 + 1) + 1) + 1) + 1) + 1) + 1) + 1) (byS x2 0)) ((((((((z9 + 1) + 1) + 1) + 1) + 1) + 1) + 1) + 1) (byS x3 24)) (((((((((z9 + 1) + 1) + 1) + 1) + 1) + 1) + 1) + 1) + 1) (byS x3 16)) ((((((((((z9 + 1) + 1) + 1) + 1) + 1) + 1) + 1) + 1) + 1) + 1) (byS x3 8)) (((((((((((z9 + 1) + 1) + 1) + 1) + 1) + 1) + 1) + 1) + 1) + 1) + 1) (byS x3 0)) ((((((((((((z9 + 1) + 1) + 1) + 1) + 1) + 1) + 1) + 1) + 1) + 1) + 1) + 1) (byS x4 24)) (((((((((((((z9 + 1) + 1) + 1) + 1) + 1) + 1) + 1) + 1) + 1) + 1) + 1) + 1) + 1) (byS x4 16)) ((((((((((((((z9 + 1) + 1) + 1) + 1) + 1) + 1) + 1) + 1) + 1) + 1) + 1) + 1) + 1) + 1) (byS x4 8)) (((((((((((((((z9 + 1) + 1) + 1) + 1) + 1) + 1) + 1) + 1) + 1) + 1) + 1) + 1) + 1) + 1) + 1) (byS x4 0)) ((((((((((((((((z9 + 1) + 1) + 1) + 1) + 1) + 1) + 1) + 1) + 1) + 1) + 1) + 1) + 1) + 1) + 1) + 1) (byS x5 24)) (((((((((((((((((z9 + 1) + 1) + 1) + 1) + 1) + 1) + 1) + 1) + 1) + 1) + 1) + 1) + 1) + 1) + 1) + 1) + 1) (byS x5 16))))) :: R) F hS hG hW nX14_feed_X14 0 rfl rfl 9 (by decide) tyX14 tyX14_ok nmX14 mX14_feed_2 rfl rfl rfl rfl (Nat.le_of_ble_eq_true rfl) rfl dX14_feed_108 (fun H locs hW hS => ?_)
    refine lv_iinc (v := nI 18) (lv' := [(6, .int (nI 18)), (7, .int x5), (0, .ref o), (1, .int x1), (2, .int x2), (3, .int x3), (4, .int x4), (5, .int x5)]) F.1 F.2.1 dX14_feed_111 hl (k := 1) rfl (by decide) (by decide) rfl (fun ls hl => ?_)
    refine lv_goto (tgt := 23) F.1 F.2.1 dX14_feed_114 (by decide) ?_
    refine lv_iload F.1 F.2.1 dX14_feed_23 (lv_at hl 0 rfl) ?_
    refine lv_bipush (v := nI 20) F.1 F.2.1 dX14_feed_25 (by decide) ?_
    refine gGe (tgt := 117) F (by decide) (by decide) dX14_feed_27 (by decide) (fun c_27 => by exfalso; omega) (fun c_27 => ?_)
    refine lv_iload F.1 F.2.1 dX14_feed_30 (lv_at hl 0 rfl) ?_
    refine lv_iconst (v := nI 4) F.1 F.2.1 dX14_feed_32 rfl ?_
    refine gGe (tgt := 40) F (by decide) (by decide) dX14_feed_33 (by decide) (fun c_33 => ?_) (fun c_33 => by exfalso; omega)
    refine lv_iload F.1 F.2.1 dX14_feed_40 (lv_at hl 0 rfl) ?_
    refine lv_bipush (v := nI 8) F.1 F.2.1 dX14_feed_42 (by decide) ?_
    refine gGe (tgt := 51) F (by decide) (by decide) dX14_feed_44 (by decide) (fun c_44 => ?_) (fun c_44 => by exfalso; omega)
    refine lv_iload F.1 F.2.1 dX14_feed_51 (lv_at hl 0 rfl) ?_
    refine lv_bipush (v := nI 12) F.1 F.2.1 dX14_feed_53 (by decide) ?_
    refine gGe (tgt := 62) F (by decide) (by decide) dX14_feed_55 (by decide) (fun c_55 => ?_) (fun c_55 => by exfalso; omega)
    refine lv_iload F.1 F.2.1 dX14_feed_62 (lv_at hl 0 rfl) ?_
    refine lv_bipush (v := nI 16) F.1 F.2.1 dX14_feed_64 (by decide) ?_
    refine gGe (tgt := 74) F (by decide) (by decide) dX14_feed_66 (by decide) (fun c_66 => ?_) (fun c_66 => by exfalso; omega)
    refine lv_iload F.1 F.2.1 dX14_feed_74 (lv_at hl 7 rfl) ?_
    refine lv_istore (lv' := [(7, .int x5), (6, .int (nI 18)), (0, .ref o), (1, .int x1), (2, .int x2), (3, .int x3), (4, .int x4), (5, .int x5)]) F.1 F.2.1 dX14_feed_76 hl (by decide) rfl (fun ls hl => ?_)
    refine lv_aload_n F.1 F.2.1 dX14_feed_78 rfl (lv_at hl 2 rfl) ?_
    refine gGet F hG hW nX14_feed_X14 0 rfl rfl 8 (by decide) mX14_feed_3 rfl dX14_feed_79 ?_
    refine lv_aload_n F.1 F.2.1 dX14_feed_82 rfl (lv_at hl 2 rfl) ?_
    refine gGet F hG hW nX14_feed_X14 0 rfl rfl 9 (by decide) mX14_feed_2 rfl dX14_feed_83 ?_
    refine lv_iload F.1 F.2.1 dX14_feed_86 (lv_at hl 0 rfl) ?_
    refine lv_bipush (v := nI 24) F.1 F.2.1 dX14_feed_88 (by decide) ?_
    refine lv_bipush (v := nI 8) F.1 F.2.1 dX14_feed_90 (by decide) ?_
    refine lv_iload F.1 F.2.1 dX14_feed_92 (lv_at hl 1 rfl) ?_
    refine lv_iconst (v := nI 4) F.1 F.2.1 dX14_feed_94 rfl ?_
    refine gRem F (by omega) (by omega) (by omega) dX14_feed_95 ?_
    refine gMul F dX14_feed_96 ?_
    refine gSub F (by omega) dX14_feed_97 ?_
    refine lv_ishr F.1 F.2.1 dX14_feed_98 ?_
    refine lv_i2b (v := sB (byS x5 8)) F.1 F.2.1 dX14_feed_99 (byS_i2b x5 2 (by decide)) ?_
    refine gStBY (w2 := (o, .inr (11, [.int (nI 0), .int (nI z1), .int z2, .int (nI z3), .ref z4, .ref z5, .int (bI z6), .ref z7, .ref z8, .int (nI ((((((((((((((((((z9 + 1) + 1) + 1) + 1) + 1) + 1) + 1) + 1) + 1) + 1) + 1) + 1) + 1) + 1) + 1) + 1) + 1) + 1)), .int (nI z10), .int (nI z11), .int (nI z12), .int (nI z13), .int (nI z14), .int (nI z15), .long (lN z16), .ref z17, .int z18, .int (nI z19), .ref z20, .ref z21, .ref z22, .ref z23, .ref z24, .ref z25, .int (nI z26), .int (nI z27), .int (nI z28), .int z29, .int (nI z30), .int (nI z31), .ref z32, .ref z33, .ref z34, .ref z35, .ref z36, .int (bI z37), .int (nI z38), .int (nI z39), .int (nI z40), .int (nI z41), .int (nI z42), .int (nI z43), .int (nI z44), .int (nI z45), .int (nI z46), .ref z47, .ref z48, .ref z49, .ref z50, .ref z51, .ref z52, .int z53, .ref z54])) :: (z8, .inl (g.2.1 3, 600, .inl (yA (updN (updN (updN (updN (updN (updN (updN (updN (updN (updN (updN (updN (updN (updN (updN (updN (updN (updN (updN tp z9 (byS x1 24)) (z9 + 1) (byS x1 16)) ((z9 + 1) + 1) (byS x1 8)) (((z9 + 1) + 1) + 1) (byS x1 0)) ((((z9 + 1) + 1) + 1) + 1) (byS x2 24)) (((((z9 + 1) + 1) + 1) + 1) + 1) (byS x2 16)) ((((((z9 + 1) + 1) + 1) + 1) + 1) + 1) (byS x2 8)) (((((((z9 + 1) + 1) + 1) + 1) + 1) + 1) + 1) (byS x2 0)) ((((((((z9 + 1) + 1) + 1) + 1) + 1) + 1) + 1) + 1) (byS x3 24)) (((((((((z9 + 1) + 1) + 1) + 1) + 1) + 1) + 1) + 1) + 1) (byS x3 16)) ((((((((((z9 + 1) + 1) + 1) + 1) + 1) + 1) + 1) + 1) + 1) + 1) (byS x3 8)) (((((((((((z9 + 1) + 1) + 1) + 1) + 1) + 1) + 1) + 1) + 1) + 1) + 1) (byS x3 0)) ((((((((((((z9 + 1) + 1) + 1) + 1) + 1) + 1) + 1) + 1) + 1) + 1) + 1) + 1) (byS x4 24)) (((((((((((((z9 + 1) + 1) + 1) + 1) + 1) + 1) + 1) + 1) + 1) + 1) + 1) + 1) + 1) (byS x4 16)) ((((((((((((((z9 + 1) + 1) + 1) + 1) + 1) + 1) + 1) + 1) + 1) + 1) + 1) + 1) + 1) + 1) (byS x4 8)) (((((((((((((((z9 + 1) + 1) + 1) + 1) + 1) + 1) + 1) + 1) + 1) + 1) + 1) + 1) + 1) + 1) + 1) (byS x4 0)) ((((((((((((((((z9 + 1) + 1) + 1) + 1) + 1) + 1) + 1) + 1) + 1) + 1) + 1) + 1) + 1) + 1) + 1) + 1) (byS x5 24)) (((((((((((((((((z9 + 1) + 1) + 1) + 1) + 1) + 1) + 1) + 1) + 1) + 1) + 1) + 1) + 1) + 1) + 1) + 1) + 1) (byS x5 16)) ((((((((((((((((((z9 + 1) + 1) + 1) + 1) + 1) + 1) + 1) + 1) + 1) + 1) + 1) + 1) + 1) + 1) + 1) + 1) + 1) + 1) (byS x5 8))))) :: R) F hG hW 1 rfl (by omega) (by decide) hS (byS_lt _ _) rfl dX14_feed_100 (fun H locs hW hS => ?_)
    refine lv_aload_n F.1 F.2.1 dX14_feed_101 rfl (lv_at hl 2 rfl) ?_
    refine lv_dup F.1 F.2.1 dX14_feed_102 rfl ?_
    refine gGet F hG hW nX14_feed_X14 0 rfl rfl 9 (by decide) mX14_feed_2 rfl dX14_feed_103 ?_
    refine lv_iconst (v := nI 1) F.1 F.2.1 dX14_feed_106 rfl ?_
    refine gAdd F dX14_feed_107 ?_
    refine gPut (w2 := (o, .inr (11, [.int (nI 0), .int (nI z1), .int z2, .int (nI z3), .ref z4, .ref z5, .int (bI z6), .ref z7, .ref z8, .int (nI (((((((((((((((((((z9 + 1) + 1) + 1) + 1) + 1) + 1) + 1) + 1) + 1) + 1) + 1) + 1) + 1) + 1) + 1) + 1) + 1) + 1) + 1)), .int (nI z10), .int (nI z11), .int (nI z12), .int (nI z13), .int (nI z14), .int (nI z15), .long (lN z16), .ref z17, .int z18, .int (nI z19), .ref z20, .ref z21, .ref z22, .ref z23, .ref z24, .ref z25, .int (nI z26), .int (nI z27), .int (nI z28), .int z29, .int (nI z30), .int (nI z31), .ref z32, .ref z33, .ref z34, .ref z35, .ref z36, .int (bI z37), .int (nI z38), .int (nI z39), .int (nI z40), .int (nI z41), .int (nI z42), .int (nI z43), .int (nI z44), .int (nI z45), .int (nI z46), .ref z47, .ref z48, .ref z49, .ref z50, .ref z51, .ref z52, .int z53, .ref z54])) :: (z8, .inl (g.2.1 3, 600, .inl (yA (updN (updN (updN (updN (updN (updN (updN (updN (updN (updN (updN (updN (updN (updN (updN (updN (updN (updN (updN tp z9 (byS x1 24)) (z9 + 1) (byS x1 16)) ((z9 + 1) + 1) (byS x1 8)) (((z9 + 1) + 1) + 1) (byS x1 0)) ((((z9 + 1) + 1) + 1) + 1) (byS x2 24)) (((((z9 + 1) + 1) + 1) + 1) + 1) (byS x2 16)) ((((((z9 + 1) + 1) + 1) + 1) + 1) + 1) (byS x2 8)) (((((((z9 + 1) + 1) + 1) + 1) + 1) + 1) + 1) (byS x2 0)) ((((((((z9 + 1) + 1) + 1) + 1) + 1) + 1) + 1) + 1) (byS x3 24)) (((((((((z9 + 1) + 1) + 1) + 1) + 1) + 1) + 1) + 1) + 1) (byS x3 16)) ((((((((((z9 + 1) + 1) + 1) + 1) + 1) + 1) + 1) + 1) + 1) + 1) (byS x3 8)) (((((((((((z9 + 1) + 1) + 1) + 1) + 1) + 1) + 1) + 1) + 1) + 1) + 1) (byS x3 0)) ((((((((((((z9 + 1) + 1) + 1) + 1) + 1) + 1) + 1) + 1) + 1) + 1) + 1) + 1) (byS x4 24)) (((((((((((((z9 + 1) + 1) + 1) + 1) + 1) + 1) + 1) + 1) + 1) + 1) + 1) + 1) + 1) (byS x4 16)) ((((((((((((((z9 + 1) + 1) + 1) + 1) + 1) + 1) + 1) + 1) + 1) + 1) + 1) + 1) + 1) + 1) (byS x4 8)) (((((((((((((((z9 + 1) + 1) + 1) + 1) + 1) + 1) + 1) + 1) + 1) + 1) + 1) + 1) + 1) + 1) + 1) (byS x4 0)) ((((((((((((((((z9 + 1) + 1) + 1) + 1) + 1) + 1) + 1) + 1) + 1) + 1) + 1) + 1) + 1) + 1) + 1) + 1) (byS x5 24)) (((((((((((((((((z9 + 1) + 1) + 1) + 1) + 1) + 1) + 1) + 1) + 1) + 1) + 1) + 1) + 1) + 1) + 1) + 1) + 1) (byS x5 16)) ((((((((((((((((((z9 + 1) + 1) + 1) + 1) + 1) + 1) + 1) + 1) + 1) + 1) + 1) + 1) + 1) + 1) + 1) + 1) + 1) + 1) (byS x5 8))))) :: R) F hS hG hW nX14_feed_X14 0 rfl rfl 9 (by decide) tyX14 tyX14_ok nmX14 mX14_feed_2 rfl rfl rfl rfl (Nat.le_of_ble_eq_true rfl) rfl dX14_feed_108 (fun H locs hW hS => ?_)
    refine lv_iinc (v := nI 19) (lv' := [(6, .int (nI 19)), (7, .int x5), (0, .ref o), (1, .int x1), (2, .int x2), (3, .int x3), (4, .int x4), (5, .int x5)]) F.1 F.2.1 dX14_feed_111 hl (k := 1) rfl (by decide) (by decide) rfl (fun ls hl => ?_)
    refine lv_goto (tgt := 23) F.1 F.2.1 dX14_feed_114 (by decide) ?_
    refine lv_iload F.1 F.2.1 dX14_feed_23 (lv_at hl 0 rfl) ?_
    refine lv_bipush (v := nI 20) F.1 F.2.1 dX14_feed_25 (by decide) ?_
    refine gGe (tgt := 117) F (by decide) (by decide) dX14_feed_27 (by decide) (fun c_27 => by exfalso; omega) (fun c_27 => ?_)
    refine lv_iload F.1 F.2.1 dX14_feed_30 (lv_at hl 0 rfl) ?_
    refine lv_iconst (v := nI 4) F.1 F.2.1 dX14_feed_32 rfl ?_
    refine gGe (tgt := 40) F (by decide) (by decide) dX14_feed_33 (by decide) (fun c_33 => ?_) (fun c_33 => by exfalso; omega)
    refine lv_iload F.1 F.2.1 dX14_feed_40 (lv_at hl 0 rfl) ?_
    refine lv_bipush (v := nI 8) F.1 F.2.1 dX14_feed_42 (by decide) ?_
    refine gGe (tgt := 51) F (by decide) (by decide) dX14_feed_44 (by decide) (fun c_44 => ?_) (fun c_44 => by exfalso; omega)
    refine lv_iload F.1 F.2.1 dX14_feed_51 (lv_at hl 0 rfl) ?_
    refine lv_bipush (v := nI 12) F.1 F.2.1 dX14_feed_53 (by decide) ?_
    refine gGe (tgt := 62) F (by decide) (by decide) dX14_feed_55 (by decide) (fun c_55 => ?_) (fun c_55 => by exfalso; omega)
    refine lv_iload F.1 F.2.1 dX14_feed_62 (lv_at hl 0 rfl) ?_
    refine lv_bipush (v := nI 16) F.1 F.2.1 dX14_feed_64 (by decide) ?_
    refine gGe (tgt := 74) F (by decide) (by decide) dX14_feed_66 (by decide) (fun c_66 => ?_) (fun c_66 => by exfalso; omega)
    refine lv_iload F.1 F.2.1 dX14_feed_74 (lv_at hl 7 rfl) ?_
    refine lv_istore (lv' := [(7, .int x5), (6, .int (nI 19)), (0, .ref o), (1, .int x1), (2, .int x2), (3, .int x3), (4, .int x4), (5, .int x5)]) F.1 F.2.1 dX14_feed_76 hl (by decide) rfl (fun ls hl => ?_)
    refine lv_aload_n F.1 F.2.1 dX14_feed_78 rfl (lv_at hl 2 rfl) ?_
    refine gGet F hG hW nX14_feed_X14 0 rfl rfl 8 (by decide) mX14_feed_3 rfl dX14_feed_79 ?_
    refine lv_aload_n F.1 F.2.1 dX14_feed_82 rfl (lv_at hl 2 rfl) ?_
    refine gGet F hG hW nX14_feed_X14 0 rfl rfl 9 (by decide) mX14_feed_2 rfl dX14_feed_83 ?_
    refine lv_iload F.1 F.2.1 dX14_feed_86 (lv_at hl 0 rfl) ?_
    refine lv_bipush (v := nI 24) F.1 F.2.1 dX14_feed_88 (by decide) ?_
    refine lv_bipush (v := nI 8) F.1 F.2.1 dX14_feed_90 (by decide) ?_
    refine lv_iload F.1 F.2.1 dX14_feed_92 (lv_at hl 1 rfl) ?_
    refine lv_iconst (v := nI 4) F.1 F.2.1 dX14_feed_94 rfl ?_
    refine gRem F (by omega) (by omega) (by omega) dX14_feed_95 ?_
    refine gMul F dX14_feed_96 ?_
    refine gSub F (by omega) dX14_feed_97 ?_
    refine lv_ishr F.1 F.2.1 dX14_feed_98 ?_
    refine lv_i2b (v := sB (byS x5 0)) F.1 F.2.1 dX14_feed_99 (byS_i2b x5 3 (by decide)) ?_
    refine gStBY (w2 := (o, .inr (11, [.int (nI 0), .int (nI z1), .int z2, .int (nI z3), .ref z4, .ref z5, .int (bI z6), .ref z7, .ref z8, .int (nI (((((((((((((((((((z9 + 1) + 1) + 1) + 1) + 1) + 1) + 1) + 1) + 1) + 1) + 1) + 1) + 1) + 1) + 1) + 1) + 1) + 1) + 1)), .int (nI z10), .int (nI z11), .int (nI z12), .int (nI z13), .int (nI z14), .int (nI z15), .long (lN z16), .ref z17, .int z18, .int (nI z19), .ref z20, .ref z21, .ref z22, .ref z23, .ref z24, .ref z25, .int (nI z26), .int (nI z27), .int (nI z28), .int z29, .int (nI z30), .int (nI z31), .ref z32, .ref z33, .ref z34, .ref z35, .ref z36, .int (bI z37), .int (nI z38), .int (nI z39), .int (nI z40), .int (nI z41), .int (nI z42), .int (nI z43), .int (nI z44), .int (nI z45), .int (nI z46), .ref z47, .ref z48, .ref z49, .ref z50, .ref z51, .ref z52, .int z53, .ref z54])) :: (z8, .inl (g.2.1 3, 600, .inl (yA (updN (updN (updN (updN (updN (updN (updN (updN (updN (updN (updN (updN (updN (updN (updN (updN (updN (updN (updN (updN tp z9 (byS x1 24)) (z9 + 1) (byS x1 16)) ((z9 + 1) + 1) (byS x1 8)) (((z9 + 1) + 1) + 1) (byS x1 0)) ((((z9 + 1) + 1) + 1) + 1) (byS x2 24)) (((((z9 + 1) + 1) + 1) + 1) + 1) (byS x2 16)) ((((((z9 + 1) + 1) + 1) + 1) + 1) + 1) (byS x2 8)) (((((((z9 + 1) + 1) + 1) + 1) + 1) + 1) + 1) (byS x2 0)) ((((((((z9 + 1) + 1) + 1) + 1) + 1) + 1) + 1) + 1) (byS x3 24)) (((((((((z9 + 1) + 1) + 1) + 1) + 1) + 1) + 1) + 1) + 1) (byS x3 16)) ((((((((((z9 + 1) + 1) + 1) + 1) + 1) + 1) + 1) + 1) + 1) + 1) (byS x3 8)) (((((((((((z9 + 1) + 1) + 1) + 1) + 1) + 1) + 1) + 1) + 1) + 1) + 1) (byS x3 0)) ((((((((((((z9 + 1) + 1) + 1) + 1) + 1) + 1) + 1) + 1) + 1) + 1) + 1) + 1) (byS x4 24)) (((((((((((((z9 + 1) + 1) + 1) + 1) + 1) + 1) + 1) + 1) + 1) + 1) + 1) + 1) + 1) (byS x4 16)) ((((((((((((((z9 + 1) + 1) + 1) + 1) + 1) + 1) + 1) + 1) + 1) + 1) + 1) + 1) + 1) + 1) (byS x4 8)) (((((((((((((((z9 + 1) + 1) + 1) + 1) + 1) + 1) + 1) + 1) + 1) + 1) + 1) + 1) + 1) + 1) + 1) (byS x4 0)) ((((((((((((((((z9 + 1) + 1) + 1) + 1) + 1) + 1) + 1) + 1) + 1) + 1) + 1) + 1) + 1) + 1) + 1) + 1) (byS x5 24)) (((((((((((((((((z9 + 1) + 1) + 1) + 1) + 1) + 1) + 1) + 1) + 1) + 1) + 1) + 1) + 1) + 1) + 1) + 1) + 1) (byS x5 16)) ((((((((((((((((((z9 + 1) + 1) + 1) + 1) + 1) + 1) + 1) + 1) + 1) + 1) + 1) + 1) + 1) + 1) + 1) + 1) + 1) + 1) (byS x5 8)) (((((((((((((((((((z9 + 1) + 1) + 1) + 1) + 1) + 1) + 1) + 1) + 1) + 1) + 1) + 1) + 1) + 1) + 1) + 1) + 1) + 1) + 1) (byS x5 0))))) :: R) F hG hW 1 rfl (by omega) (by decide) hS (byS_lt _ _) rfl dX14_feed_100 (fun H locs hW hS => ?_)
    refine lv_aload_n F.1 F.2.1 dX14_feed_101 rfl (lv_at hl 2 rfl) ?_
    refine lv_dup F.1 F.2.1 dX14_feed_102 rfl ?_
    refine gGet F hG hW nX14_feed_X14 0 rfl rfl 9 (by decide) mX14_feed_2 rfl dX14_feed_103 ?_
    refine lv_iconst (v := nI 1) F.1 F.2.1 dX14_feed_106 rfl ?_
    refine gAdd F dX14_feed_107 ?_
    refine gPut (w2 := (o, .inr (11, [.int (nI 0), .int (nI z1), .int z2, .int (nI z3), .ref z4, .ref z5, .int (bI z6), .ref z7, .ref z8, .int (nI ((((((((((((((((((((z9 + 1) + 1) + 1) + 1) + 1) + 1) + 1) + 1) + 1) + 1) + 1) + 1) + 1) + 1) + 1) + 1) + 1) + 1) + 1) + 1)), .int (nI z10), .int (nI z11), .int (nI z12), .int (nI z13), .int (nI z14), .int (nI z15), .long (lN z16), .ref z17, .int z18, .int (nI z19), .ref z20, .ref z21, .ref z22, .ref z23, .ref z24, .ref z25, .int (nI z26), .int (nI z27), .int (nI z28), .int z29, .int (nI z30), .int (nI z31), .ref z32, .ref z33, .ref z34, .ref z35, .ref z36, .int (bI z37), .int (nI z38), .int (nI z39), .int (nI z40), .int (nI z41), .int (nI z42), .int (nI z43), .int (nI z44), .int (nI z45), .int (nI z46), .ref z47, .ref z48, .ref z49, .ref z50, .ref z51, .ref z52, .int z53, .ref z54])) :: (z8, .inl (g.2.1 3, 600, .inl (yA (updN (updN (updN (updN (updN (updN (updN (updN (updN (updN (updN (updN (updN (updN (updN (updN (updN (updN (updN (updN tp z9 (byS x1 24)) (z9 + 1) (byS x1 16)) ((z9 + 1) + 1) (byS x1 8)) (((z9 + 1) + 1) + 1) (byS x1 0)) ((((z9 + 1) + 1) + 1) + 1) (byS x2 24)) (((((z9 + 1) + 1) + 1) + 1) + 1) (byS x2 16)) ((((((z9 + 1) + 1) + 1) + 1) + 1) + 1) (byS x2 8)) (((((((z9 + 1) + 1) + 1) + 1) + 1) + 1) + 1) (byS x2 0)) ((((((((z9 + 1) + 1) + 1) + 1) + 1) + 1) + 1) + 1) (byS x3 24)) (((((((((z9 + 1) + 1) + 1) + 1) + 1) + 1) + 1) + 1) + 1) (byS x3 16)) ((((((((((z9 + 1) + 1) + 1) + 1) + 1) + 1) + 1) + 1) + 1) + 1) (byS x3 8)) (((((((((((z9 + 1) + 1) + 1) + 1) + 1) + 1) + 1) + 1) + 1) + 1) + 1) (byS x3 0)) ((((((((((((z9 + 1) + 1) + 1) + 1) + 1) + 1) + 1) + 1) + 1) + 1) + 1) + 1) (byS x4 24)) (((((((((((((z9 + 1) + 1) + 1) + 1) + 1) + 1) + 1) + 1) + 1) + 1) + 1) + 1) + 1) (byS x4 16)) ((((((((((((((z9 + 1) + 1) + 1) + 1) + 1) + 1) + 1) + 1) + 1) + 1) + 1) + 1) + 1) + 1) (byS x4 8)) (((((((((((((((z9 + 1) + 1) + 1) + 1) + 1) + 1) + 1) + 1) + 1) + 1) + 1) + 1) + 1) + 1) + 1) (byS x4 0)) ((((((((((((((((z9 + 1) + 1) + 1) + 1) + 1) + 1) + 1) + 1) + 1) + 1) + 1) + 1) + 1) + 1) + 1) + 1) (byS x5 24)) (((((((((((((((((z9 + 1) + 1) + 1) + 1) + 1) + 1) + 1) + 1) + 1) + 1) + 1) + 1) + 1) + 1) + 1) + 1) + 1) (byS x5 16)) ((((((((((((((((((z9 + 1) + 1) + 1) + 1) + 1) + 1) + 1) + 1) + 1) + 1) + 1) + 1) + 1) + 1) + 1) + 1) + 1) + 1) (byS x5 8)) (((((((((((((((((((z9 + 1) + 1) + 1) + 1) + 1) + 1) + 1) + 1) + 1) + 1) + 1) + 1) + 1) + 1) + 1) + 1) + 1) + 1) + 1) (byS x5 0))))) :: R) F hS hG hW nX14_feed_X14 0 rfl rfl 9 (by decide) tyX14 tyX14_ok nmX14 mX14_feed_2 rfl rfl rfl rfl (Nat.le_of_ble_eq_true rfl) rfl dX14_feed_108 (fun H locs hW hS => ?_)
    refine lv_iinc (v := nI 20) (lv' := [(6, .int (nI 20)), (7, .int x5), (0, .ref o), (1, .int x1), (2, .int x2), (3, .int x3), (4, .int x4), (5, .int x5)]) F.1 F.2.1 dX14_feed_111 hl (k := 1) rfl (by decide) (by decide) rfl (fun ls hl => ?_)
    refine lv_goto (tgt := 23) F.1 F.2.1 dX14_feed_114 (by decide) ?_
    refine lv_iload F.1 F.2.1 dX14_feed_23 (lv_at hl 0 rfl) ?_
    refine lv_bipush (v := nI 20) F.1 F.2.1 dX14_feed_25 (by decide) ?_
    refine gGe (tgt := 117) F (by decide) (by decide) dX14_feed_27 (by decide) (fun c_27 => ?_) (fun c_27 => by exfalso; omega)
    refine lv_aload_n F.1 F.2.1 dX14_feed_117 rfl (lv_at hl 2 rfl) ?_
    refine gGet F hG hW nX14_feed_X14 0 rfl rfl 9 (by decide) mX14_feed_2 rfl dX14_feed_118 ?_
    refine gRi F hW hS dX14_feed_121 ?_
    exact ⟨if_pos c_15, by rw [if_pos c_15, if_pos c_15]; rfl⟩
  · have c_15' : ¬ z9 + 20 ≤ 600 := Nat.not_le.mpr c_15
    refine lv_iconst (v := -1) F.1 F.2.1 dX14_feed_18 rfl ?_
    refine gRi F hW hS dX14_feed_19 ?_
    exact ⟨if_neg c_15', by rw [if_neg c_15', if_neg c_15']⟩

abbrev rm_X14_order : Room := ({ frames := 0, cells := 0, slots := 0, locals := 0 } : Room)
theorem mX14_order_1 : Cond.fieldLink RX14 129 "StepperHeartsModel" "thrown" "I" ∈ wsX14_order := List.mem_of_getElem? (i := 1) rfl
theorem nX14_order_X14 : ∀ w ∈ wsX140, w ∈ wsX14_order := fun _ h => List.mem_cons_of_mem _ (List.mem_append_left _ (List.mem_append_right _ (h)))
theorem mX14_order_2 : Cond.fieldLink RX14 243 "StepperHeartsModel" "is" "Z" ∈ wsX14_order := List.mem_of_getElem? (i := 2) rfl
theorem mX14_order_3 : Cond.fieldLink RX14 16 "StepperHeartsModel" "p" "LStepperHeartsModel$Program;" ∈ wsX14_order := List.mem_of_getElem? (i := 3) rfl
theorem fX14_order_186 : (yX14_order.cls, 186, "StepperHeartsModel$Program", "orders", "I", "StepperHeartsModel") ∈ gNF := List.mem_of_getElem? (i := 22) rfl
theorem nX14_order_X12 : ∀ w ∈ wsX120, w ∈ wsX14_order := fun _ h => List.mem_cons_of_mem _ (List.mem_append_right _ (h))
theorem fX14_order_201 : (yX14_order.cls, 201, "StepperHeartsModel$Program", "kind", "[I", "StepperHeartsModel") ∈ gNF := List.mem_of_getElem? (i := 24) rfl
theorem fX14_order_203 : (yX14_order.cls, 203, "StepperHeartsModel$Program", "value", "[I", "StepperHeartsModel") ∈ gNF := List.mem_of_getElem? (i := 25) rfl
theorem fX14_order_192 : (yX14_order.cls, 192, "StepperHeartsModel$Program", "isMarked", "[Z", "StepperHeartsModel") ∈ gNF := List.mem_of_getElem? (i := 30) rfl
set_option maxRecDepth 100000 in
set_option maxHeartbeats 4000000 in
theorem c_X14_order (g : gC) (l : Launch) {o : Nat} {pk : Nat} {pv : Nat} {pl : Nat} {pa : Nat} {pt : Nat} {pm : Nat} {pi : Nat} {z0 : Nat} {z1 : Nat} {z2 : Int32} {z3 : Nat} {z4 : Nat} {z5 : Nat} {z6 : Bool} {z7 : Nat} {z8 : Nat} {z9 : Nat} {z10 : Nat} {z11 : Nat} {z12 : Nat} {z13 : Nat} {z14 : Nat} {z15 : Nat} {z16 : Nat} {z17 : Nat} {z18 : Int32} {z19 : Nat} {z20 : Nat} {z21 : Nat} {z22 : Nat} {z23 : Nat} {z24 : Nat} {z25 : Nat} {z26 : Nat} {z27 : Nat} {z28 : Nat} {z29 : Int32} {z30 : Nat} {z31 : Nat} {z32 : Nat} {z33 : Nat} {z34 : Nat} {z35 : Nat} {z36 : Nat} {z37 : Bool} {z38 : Nat} {z39 : Nat} {z40 : Nat} {z41 : Nat} {z42 : Nat} {z43 : Nat} {z44 : Nat} {z45 : Nat} {z46 : Nat} {z47 : Nat} {z48 : Nat} {z49 : Nat} {z50 : Nat} {z51 : Nat} {z52 : Nat} {z53 : Int32} {z54 : Nat} {n : Nat} {mm : Nat} {kdm : Nat → Nat} {vlm : Nat → Nat} {kd : Nat → Nat} {vl : Nat → Nat} {mkm : Nat → Bool} {mk : Nat → Bool} {x : Int32} {y : Int32} {R : va_W} (hn : n ≤ 100) (hK : ∀ j, j < n → kd j < 15) (hak : ∀ j, j < n → kdm j = kd j) (hav : ∀ j, j < n → vlm j = vl j) (ham : ∀ j, j < n → mkm j = mk j) (his : z6 = !decide (n = 0)) : cI g l yX14_order wsX14_order rm_X14_order 0 0 [.ref o, .int x, .int y] ((o, .inr (11, [.int (nI z0), .int (nI z1), .int z2, .int (nI z3), .ref z4, .ref z5, .int (bI z6), .ref z7, .ref z8, .int (nI z9), .int (nI z10), .int (nI z11), .int (nI z12), .int (nI z13), .int (nI z14), .int (nI z15), .long (lN z16), .ref z17, .int z18, .int (nI z19), .ref z20, .ref z21, .ref z22, .ref z23, .ref z24, .ref z25, .int (nI z26), .int (nI z27), .int (nI z28), .int z29, .int (nI z30), .int (nI z31), .ref z32, .ref z33, .ref z34, .ref z35, .ref z36, .int (bI z37), .int (nI z38), .int (nI z39), .int (nI z40), .int (nI z41), .int (nI z42), .int (nI z43), .int (nI z44), .int (nI z45), .int (nI z46), .ref z47, .ref z48, .ref z49, .ref z50, .ref z51, .ref z52, .int z53, .ref z54])) :: (z4, .inr (9, [.int (nI n), .int (nI mm), .ref pk, .ref pv, .ref pl, .ref pa, .ref pt, .ref pm, .ref pi])) :: (pk, .inl (g.2.1 0, 100, .inl (nA kdm))) :: (pv, .inl (g.2.1 0, 100, .inl (nA vlm))) :: (pi, .inl (g.2.1 1, 101, .inl (bA mkm))) :: R) (fun r u => (ixS x n (fun j => selS y (nI (kd j)) (nI (vl j)) (bI (mk j)) (-1)) (-1)) = r ∧ (o, .inr (11, [.int (nI 0), .int (nI z1), .int z2, .int (nI z3), .ref z4, .ref z5, .int (bI z6), .ref z7, .ref z8, .int (nI z9), .int (nI z10), .int (nI z11), .int (nI z12), .int (nI z13), .int (nI z14), .int (nI z15), .long (lN z16), .ref z17, .int z18, .int (nI z19), .ref z20, .ref z21, .ref z22, .ref z23, .ref z24, .ref z25, .int (nI z26), .int (nI z27), .int (nI z28), .int z29, .int (nI z30), .int (nI z31), .ref z32, .ref z33, .ref z34, .ref z35, .ref z36, .int (bI z37), .int (nI z38), .int (nI z39), .int (nI z40), .int (nI z41), .int (nI z42), .int (nI z43), .int (nI z44), .int (nI z45), .int (nI z46), .ref z47, .ref z48, .ref z49, .ref z50, .ref z51, .ref z52, .int z53, .ref z54])) :: (z4, .inr (9, [.int (nI n), .int (nI mm), .ref pk, .ref pv, .ref pl, .ref pa, .ref pt, .ref pm, .ref pi])) :: (pk, .inl (g.2.1 0, 100, .inl (nA kdm))) :: (pv, .inl (g.2.1 0, 100, .inl (nA vlm))) :: (pi, .inl (g.2.1 1, 101, .inl (bA mkm))) :: R = u) := by
  refine gEnterQ (cc := cX14_order) (maxL := 3) (ret := (some (.int))) (by decide +kernel) rfl (Nat.le_of_ble_eq_true rfl) ?_
  intro p e s m below meth c F hG hW ls hl
  have hS : va_S (gA g) s.heap s.heap [] := va_S.rf
  have hl : lv_has ls 3 [(0, .ref o), (1, .int x), (2, .int y)] := hl
  have hW : gW g ((o, .inr (11, [.int (nI z0), .int (nI z1), .int z2, .int (nI z3), .ref z4, .ref z5, .int (bI z6), .ref z7, .ref z8, .int (nI z9), .int (nI z10), .int (nI z11), .int (nI z12), .int (nI z13), .int (nI z14), .int (nI z15), .long (lN z16), .ref z17, .int z18, .int (nI z19), .ref z20, .ref z21, .ref z22, .ref z23, .ref z24, .ref z25, .int (nI z26), .int (nI z27), .int (nI z28), .int z29, .int (nI z30), .int (nI z31), .ref z32, .ref z33, .ref z34, .ref z35, .ref z36, .int (bI z37), .int (nI z38), .int (nI z39), .int (nI z40), .int (nI z41), .int (nI z42), .int (nI z43), .int (nI z44), .int (nI z45), .int (nI z46), .ref z47, .ref z48, .ref z49, .ref z50, .ref z51, .ref z52, .int z53, .ref z54])) :: (z4, .inr (9, [.int (nI n), .int (nI mm), .ref pk, .ref pv, .ref pl, .ref pa, .ref pt, .ref pm, .ref pi])) :: (pk, .inl (g.2.1 0, 100, .inl (nA kdm))) :: (pv, .inl (g.2.1 0, 100, .inl (nA vlm))) :: (pi, .inl (g.2.1 1, 101, .inl (bA mkm))) :: R) s.heap := hW
  rcases ixc x (n := n) (by omega) with hx | ⟨j, hj, rfl⟩
  · have hl : lv_has ls 3 [(0, .ref o), (1, .int x), (2, .int y)] := hl
    have hW : gW g ((o, .inr (11, [.int (nI z0), .int (nI z1), .int z2, .int (nI z3), .ref z4, .ref z5, .int (bI z6), .ref z7, .ref z8, .int (nI z9), .int (nI z10), .int (nI z11), .int (nI z12), .int (nI z13), .int (nI z14), .int (nI z15), .long (lN z16), .ref z17, .int z18, .int (nI z19), .ref z20, .ref z21, .ref z22, .ref z23, .ref z24, .ref z25, .int (nI z26), .int (nI z27), .int (nI z28), .int z29, .int (nI z30), .int (nI z31), .ref z32, .ref z33, .ref z34, .ref z35, .ref z36, .int (bI z37), .int (nI z38), .int (nI z39), .int (nI z40), .int (nI z41), .int (nI z42), .int (nI z43), .int (nI z44), .int (nI z45), .int (nI z46), .ref z47, .ref z48, .ref z49, .ref z50, .ref z51, .ref z52, .int z53, .ref z54])) :: (z4, .inr (9, [.int (nI n), .int (nI mm), .ref pk, .ref pv, .ref pl, .ref pa, .ref pt, .ref pm, .ref pi])) :: (pk, .inl (g.2.1 0, 100, .inl (nA kdm))) :: (pv, .inl (g.2.1 0, 100, .inl (nA vlm))) :: (pi, .inl (g.2.1 1, 101, .inl (bA mkm))) :: R) s.heap := hW
    refine lv_aload_n F.1 F.2.1 dX14_order_0 rfl (lv_at hl 0 rfl) ?_
    refine lv_iconst (v := nI 0) F.1 F.2.1 dX14_order_1 rfl ?_
    refine gPut (w2 := (o, .inr (11, [.int (nI 0), .int (nI z1), .int z2, .int (nI z3), .ref z4, .ref z5, .int (bI z6), .ref z7, .ref z8, .int (nI z9), .int (nI z10), .int (nI z11), .int (nI z12), .int (nI z13), .int (nI z14), .int (nI z15), .long (lN z16), .ref z17, .int z18, .int (nI z19), .ref z20, .ref z21, .ref z22, .ref z23, .ref z24, .ref z25, .int (nI z26), .int (nI z27), .int (nI z28), .int z29, .int (nI z30), .int (nI z31), .ref z32, .ref z33, .ref z34, .ref z35, .ref z36, .int (bI z37), .int (nI z38), .int (nI z39), .int (nI z40), .int (nI z41), .int (nI z42), .int (nI z43), .int (nI z44), .int (nI z45), .int (nI z46), .ref z47, .ref z48, .ref z49, .ref z50, .ref z51, .ref z52, .int z53, .ref z54])) :: (z4, .inr (9, [.int (nI n), .int (nI mm), .ref pk, .ref pv, .ref pl, .ref pa, .ref pt, .ref pm, .ref pi])) :: (pk, .inl (g.2.1 0, 100, .inl (nA kdm))) :: (pv, .inl (g.2.1 0, 100, .inl (nA vlm))) :: (pi, .inl (g.2.1 1, 101, .inl (bA mkm))) :: R) F hS hG hW nX14_order_X14 0 rfl rfl 0 (by decide) tyX14 tyX14_ok nmX14 mX14_order_1 rfl rfl rfl rfl (Nat.le_of_ble_eq_true rfl) rfl dX14_order_2 (fun H locs hW hS => ?_)
    refine lv_aload_n F.1 F.2.1 dX14_order_5 rfl (lv_at hl 0 rfl) ?_
    refine gGet F hG hW nX14_order_X14 0 rfl rfl 6 (by decide) mX14_order_2 rfl dX14_order_6 ?_
    refine gIfEqB (tgt := 27) F dX14_order_9 (by decide) (fun c_9 => ?_) (fun c_9 => ?_)
    · refine lv_iconst (v := -1) F.1 F.2.1 dX14_order_27 rfl ?_
      refine gRi F hW hS dX14_order_28 ?_
      exact ⟨ixS_out hx (by omega), rfl⟩
    · refine lv_iload_n F.1 F.2.1 dX14_order_12 rfl (lv_at hl 1 rfl) ?_
      refine lv_if_lt (tgt := 27) F.1 F.2.1 dX14_order_13 (by decide) (fun c_13 => ?_) (fun c_13 => ?_)
      · refine lv_iconst (v := -1) F.1 F.2.1 dX14_order_27 rfl ?_
        refine gRi F hW hS dX14_order_28 ?_
        exact ⟨ixS_out hx (by omega), rfl⟩
      · refine lv_iload_n F.1 F.2.1 dX14_order_16 rfl (lv_at hl 1 rfl) ?_
        refine lv_aload_n F.1 F.2.1 dX14_order_17 rfl (lv_at hl 0 rfl) ?_
        refine gGet F hG hW nX14_order_X14 0 rfl rfl 4 (by decide) mX14_order_3 rfl dX14_order_18 ?_
        refine gGetN F hG hW nX14_order_X12 1 rfl rfl 0 (by decide) fX14_order_186 rfl dX14_order_21 ?_
        refine lv_icmp_lt (tgt := 29) F.1 F.2.1 dX14_order_24 (by decide) (fun q => (ixo hx c_13 q).elim) (fun c_24 => ?_)
        refine lv_iconst (v := -1) F.1 F.2.1 dX14_order_27 rfl ?_
        refine gRi F hW hS dX14_order_28 ?_
        exact ⟨ixS_out hx (by omega), rfl⟩
  · have hl : lv_has ls 3 [(0, .ref o), (1, .int (nI j)), (2, .int y)] := hl
    have hW : gW g ((o, .inr (11, [.int (nI z0), .int (nI z1), .int z2, .int (nI z3), .ref z4, .ref z5, .int (bI z6), .ref z7, .ref z8, .int (nI z9), .int (nI z10), .int (nI z11), .int (nI z12), .int (nI z13), .int (nI z14), .int (nI z15), .long (lN z16), .ref z17, .int z18, .int (nI z19), .ref z20, .ref z21, .ref z22, .ref z23, .ref z24, .ref z25, .int (nI z26), .int (nI z27), .int (nI z28), .int z29, .int (nI z30), .int (nI z31), .ref z32, .ref z33, .ref z34, .ref z35, .ref z36, .int (bI z37), .int (nI z38), .int (nI z39), .int (nI z40), .int (nI z41), .int (nI z42), .int (nI z43), .int (nI z44), .int (nI z45), .int (nI z46), .ref z47, .ref z48, .ref z49, .ref z50, .ref z51, .ref z52, .int z53, .ref z54])) :: (z4, .inr (9, [.int (nI n), .int (nI mm), .ref pk, .ref pv, .ref pl, .ref pa, .ref pt, .ref pm, .ref pi])) :: (pk, .inl (g.2.1 0, 100, .inl (nA kdm))) :: (pv, .inl (g.2.1 0, 100, .inl (nA vlm))) :: (pi, .inl (g.2.1 1, 101, .inl (bA mkm))) :: R) s.heap := hW
    rcases sw3 y with hx | rfl | rfl | rfl
    · have hl : lv_has ls 3 [(0, .ref o), (1, .int (nI j)), (2, .int y)] := hl
      have hW : gW g ((o, .inr (11, [.int (nI z0), .int (nI z1), .int z2, .int (nI z3), .ref z4, .ref z5, .int (bI z6), .ref z7, .ref z8, .int (nI z9), .int (nI z10), .int (nI z11), .int (nI z12), .int (nI z13), .int (nI z14), .int (nI z15), .long (lN z16), .ref z17, .int z18, .int (nI z19), .ref z20, .ref z21, .ref z22, .ref z23, .ref z24, .ref z25, .int (nI z26), .int (nI z27), .int (nI z28), .int z29, .int (nI z30), .int (nI z31), .ref z32, .ref z33, .ref z34, .ref z35, .ref z36, .int (bI z37), .int (nI z38), .int (nI z39), .int (nI z40), .int (nI z41), .int (nI z42), .int (nI z43), .int (nI z44), .int (nI z45), .int (nI z46), .ref z47, .ref z48, .ref z49, .ref z50, .ref z51, .ref z52, .int z53, .ref z54])) :: (z4, .inr (9, [.int (nI n), .int (nI mm), .ref pk, .ref pv, .ref pl, .ref pa, .ref pt, .ref pm, .ref pi])) :: (pk, .inl (g.2.1 0, 100, .inl (nA kdm))) :: (pv, .inl (g.2.1 0, 100, .inl (nA vlm))) :: (pi, .inl (g.2.1 1, 101, .inl (bA mkm))) :: R) s.heap := hW
      refine lv_aload_n F.1 F.2.1 dX14_order_0 rfl (lv_at hl 0 rfl) ?_
      refine lv_iconst (v := nI 0) F.1 F.2.1 dX14_order_1 rfl ?_
      refine gPut (w2 := (o, .inr (11, [.int (nI 0), .int (nI z1), .int z2, .int (nI z3), .ref z4, .ref z5, .int (bI z6), .ref z7, .ref z8, .int (nI z9), .int (nI z10), .int (nI z11), .int (nI z12), .int (nI z13), .int (nI z14), .int (nI z15), .long (lN z16), .ref z17, .int z18, .int (nI z19), .ref z20, .ref z21, .ref z22, .ref z23, .ref z24, .ref z25, .int (nI z26), .int (nI z27), .int (nI z28), .int z29, .int (nI z30), .int (nI z31), .ref z32, .ref z33, .ref z34, .ref z35, .ref z36, .int (bI z37), .int (nI z38), .int (nI z39), .int (nI z40), .int (nI z41), .int (nI z42), .int (nI z43), .int (nI z44), .int (nI z45), .int (nI z46), .ref z47, .ref z48, .ref z49, .ref z50, .ref z51, .ref z52, .int z53, .ref z54])) :: (z4, .inr (9, [.int (nI n), .int (nI mm), .ref pk, .ref pv, .ref pl, .ref pa, .ref pt, .ref pm, .ref pi])) :: (pk, .inl (g.2.1 0, 100, .inl (nA kdm))) :: (pv, .inl (g.2.1 0, 100, .inl (nA vlm))) :: (pi, .inl (g.2.1 1, 101, .inl (bA mkm))) :: R) F hS hG hW nX14_order_X14 0 rfl rfl 0 (by decide) tyX14 tyX14_ok nmX14 mX14_order_1 rfl rfl rfl rfl (Nat.le_of_ble_eq_true rfl) rfl dX14_order_2 (fun H locs hW hS => ?_)
      refine lv_aload_n F.1 F.2.1 dX14_order_5 rfl (lv_at hl 0 rfl) ?_
      refine gGet F hG hW nX14_order_X14 0 rfl rfl 6 (by decide) mX14_order_2 rfl dX14_order_6 ?_
      refine gIfEqB (tgt := 27) F dX14_order_9 (by decide) (fun q => absurd hj (by rw [isz his q]; exact Nat.not_lt_zero _)) (fun c_9 => ?_)
      refine lv_iload_n F.1 F.2.1 dX14_order_12 rfl (lv_at hl 1 rfl) ?_
      refine gIfLt (tgt := 27) F (by omega) dX14_order_13 (by decide) (fun c_13 => by exfalso; omega) (fun c_13 => ?_)
      refine lv_iload_n F.1 F.2.1 dX14_order_16 rfl (lv_at hl 1 rfl) ?_
      refine lv_aload_n F.1 F.2.1 dX14_order_17 rfl (lv_at hl 0 rfl) ?_
      refine gGet F hG hW nX14_order_X14 0 rfl rfl 4 (by decide) mX14_order_3 rfl dX14_order_18 ?_
      refine gGetN F hG hW nX14_order_X12 1 rfl rfl 0 (by decide) fX14_order_186 rfl dX14_order_21 ?_
      refine gLt (tgt := 29) F (by omega) (by omega) dX14_order_24 (by decide) (fun c_24 => ?_) (fun c_24 => by exfalso; omega)
      refine lv_iload_n F.1 F.2.1 dX14_order_29 rfl (lv_at hl 2 rfl) ?_
      refine lv_tableOut (tgt := 94) F.1 F.2.1 dX14_order_30 (swc hx (by decide)) (by decide) ?_
      refine lv_iconst (v := -1) F.1 F.2.1 dX14_order_94 rfl ?_
      refine gRi F hW hS dX14_order_95 ?_
      exact ⟨(ixS_in hj (by omega)).trans (ixS_out hx (by decide)), rfl⟩
    · have hl : lv_has ls 3 [(0, .ref o), (1, .int (nI j)), (2, .int (nI 0))] := hl
      have hW : gW g ((o, .inr (11, [.int (nI z0), .int (nI z1), .int z2, .int (nI z3), .ref z4, .ref z5, .int (bI z6), .ref z7, .ref z8, .int (nI z9), .int (nI z10), .int (nI z11), .int (nI z12), .int (nI z13), .int (nI z14), .int (nI z15), .long (lN z16), .ref z17, .int z18, .int (nI z19), .ref z20, .ref z21, .ref z22, .ref z23, .ref z24, .ref z25, .int (nI z26), .int (nI z27), .int (nI z28), .int z29, .int (nI z30), .int (nI z31), .ref z32, .ref z33, .ref z34, .ref z35, .ref z36, .int (bI z37), .int (nI z38), .int (nI z39), .int (nI z40), .int (nI z41), .int (nI z42), .int (nI z43), .int (nI z44), .int (nI z45), .int (nI z46), .ref z47, .ref z48, .ref z49, .ref z50, .ref z51, .ref z52, .int z53, .ref z54])) :: (z4, .inr (9, [.int (nI n), .int (nI mm), .ref pk, .ref pv, .ref pl, .ref pa, .ref pt, .ref pm, .ref pi])) :: (pk, .inl (g.2.1 0, 100, .inl (nA kdm))) :: (pv, .inl (g.2.1 0, 100, .inl (nA vlm))) :: (pi, .inl (g.2.1 1, 101, .inl (bA mkm))) :: R) s.heap := hW
      refine lv_aload_n F.1 F.2.1 dX14_order_0 rfl (lv_at hl 0 rfl) ?_
      refine lv_iconst (v := nI 0) F.1 F.2.1 dX14_order_1 rfl ?_
      refine gPut (w2 := (o, .inr (11, [.int (nI 0), .int (nI z1), .int z2, .int (nI z3), .ref z4, .ref z5, .int (bI z6), .ref z7, .ref z8, .int (nI z9), .int (nI z10), .int (nI z11), .int (nI z12), .int (nI z13), .int (nI z14), .int (nI z15), .long (lN z16), .ref z17, .int z18, .int (nI z19), .ref z20, .ref z21, .ref z22, .ref z23, .ref z24, .ref z25, .int (nI z26), .int (nI z27), .int (nI z28), .int z29, .int (nI z30), .int (nI z31), .ref z32, .ref z33, .ref z34, .ref z35, .ref z36, .int (bI z37), .int (nI z38), .int (nI z39), .int (nI z40), .int (nI z41), .int (nI z42), .int (nI z43), .int (nI z44), .int (nI z45), .int (nI z46), .ref z47, .ref z48, .ref z49, .ref z50, .ref z51, .ref z52, .int z53, .ref z54])) :: (z4, .inr (9, [.int (nI n), .int (nI mm), .ref pk, .ref pv, .ref pl, .ref pa, .ref pt, .ref pm, .ref pi])) :: (pk, .inl (g.2.1 0, 100, .inl (nA kdm))) :: (pv, .inl (g.2.1 0, 100, .inl (nA vlm))) :: (pi, .inl (g.2.1 1, 101, .inl (bA mkm))) :: R) F hS hG hW nX14_order_X14 0 rfl rfl 0 (by decide) tyX14 tyX14_ok nmX14 mX14_order_1 rfl rfl rfl rfl (Nat.le_of_ble_eq_true rfl) rfl dX14_order_2 (fun H locs hW hS => ?_)
      refine lv_aload_n F.1 F.2.1 dX14_order_5 rfl (lv_at hl 0 rfl) ?_
      refine gGet F hG hW nX14_order_X14 0 rfl rfl 6 (by decide) mX14_order_2 rfl dX14_order_6 ?_
      refine gIfEqB (tgt := 27) F dX14_order_9 (by decide) (fun q => absurd hj (by rw [isz his q]; exact Nat.not_lt_zero _)) (fun c_9 => ?_)
      refine lv_iload_n F.1 F.2.1 dX14_order_12 rfl (lv_at hl 1 rfl) ?_
      refine gIfLt (tgt := 27) F (by omega) dX14_order_13 (by decide) (fun c_13 => by exfalso; omega) (fun c_13 => ?_)
      refine lv_iload_n F.1 F.2.1 dX14_order_16 rfl (lv_at hl 1 rfl) ?_
      refine lv_aload_n F.1 F.2.1 dX14_order_17 rfl (lv_at hl 0 rfl) ?_
      refine gGet F hG hW nX14_order_X14 0 rfl rfl 4 (by decide) mX14_order_3 rfl dX14_order_18 ?_
      refine gGetN F hG hW nX14_order_X12 1 rfl rfl 0 (by decide) fX14_order_186 rfl dX14_order_21 ?_
      refine gLt (tgt := 29) F (by omega) (by omega) dX14_order_24 (by decide) (fun c_24 => ?_) (fun c_24 => by exfalso; omega)
      refine lv_iload_n F.1 F.2.1 dX14_order_29 rfl (lv_at hl 2 rfl) ?_
      refine lv_tableIn (tgt := 56) F.1 F.2.1 dX14_order_30 (by decide) (by decide) rfl (by decide) ?_
      refine lv_aload_n F.1 F.2.1 dX14_order_56 rfl (lv_at hl 0 rfl) ?_
      refine gGet F hG hW nX14_order_X14 0 rfl rfl 4 (by decide) mX14_order_3 rfl dX14_order_57 ?_
      refine gGetN F hG hW nX14_order_X12 1 rfl rfl 2 (by decide) fX14_order_201 rfl dX14_order_60 ?_
      refine lv_iload_n F.1 F.2.1 dX14_order_63 rfl (lv_at hl 1 rfl) ?_
      refine gLdI F hG hW 2 rfl (by omega) (by decide) dX14_order_64 ?_
      refine gTop (y := nI (kdm j)) rfl ?_
      refine gTop (y := nI (kd j)) (congrArg nI (hak j (by omega))) ?_
      refine gRi F hW hS dX14_order_65 ?_
      exact ⟨ixS_in hj (by omega), rfl⟩
    · have hl : lv_has ls 3 [(0, .ref o), (1, .int (nI j)), (2, .int (nI 1))] := hl
      have hW : gW g ((o, .inr (11, [.int (nI z0), .int (nI z1), .int z2, .int (nI z3), .ref z4, .ref z5, .int (bI z6), .ref z7, .ref z8, .int (nI z9), .int (nI z10), .int (nI z11), .int (nI z12), .int (nI z13), .int (nI z14), .int (nI z15), .long (lN z16), .ref z17, .int z18, .int (nI z19), .ref z20, .ref z21, .ref z22, .ref z23, .ref z24, .ref z25, .int (nI z26), .int (nI z27), .int (nI z28), .int z29, .int (nI z30), .int (nI z31), .ref z32, .ref z33, .ref z34, .ref z35, .ref z36, .int (bI z37), .int (nI z38), .int (nI z39), .int (nI z40), .int (nI z41), .int (nI z42), .int (nI z43), .int (nI z44), .int (nI z45), .int (nI z46), .ref z47, .ref z48, .ref z49, .ref z50, .ref z51, .ref z52, .int z53, .ref z54])) :: (z4, .inr (9, [.int (nI n), .int (nI mm), .ref pk, .ref pv, .ref pl, .ref pa, .ref pt, .ref pm, .ref pi])) :: (pk, .inl (g.2.1 0, 100, .inl (nA kdm))) :: (pv, .inl (g.2.1 0, 100, .inl (nA vlm))) :: (pi, .inl (g.2.1 1, 101, .inl (bA mkm))) :: R) s.heap := hW
      refine lv_aload_n F.1 F.2.1 dX14_order_0 rfl (lv_at hl 0 rfl) ?_
      refine lv_iconst (v := nI 0) F.1 F.2.1 dX14_order_1 rfl ?_
      refine gPut (w2 := (o, .inr (11, [.int (nI 0), .int (nI z1), .int z2, .int (nI z3), .ref z4, .ref z5, .int (bI z6), .ref z7, .ref z8, .int (nI z9), .int (nI z10), .int (nI z11), .int (nI z12), .int (nI z13), .int (nI z14), .int (nI z15), .long (lN z16), .ref z17, .int z18, .int (nI z19), .ref z20, .ref z21, .ref z22, .ref z23, .ref z24, .ref z25, .int (nI z26), .int (nI z27), .int (nI z28), .int z29, .int (nI z30), .int (nI z31), .ref z32, .ref z33, .ref z34, .ref z35, .ref z36, .int (bI z37), .int (nI z38), .int (nI z39), .int (nI z40), .int (nI z41), .int (nI z42), .int (nI z43), .int (nI z44), .int (nI z45), .int (nI z46), .ref z47, .ref z48, .ref z49, .ref z50, .ref z51, .ref z52, .int z53, .ref z54])) :: (z4, .inr (9, [.int (nI n), .int (nI mm), .ref pk, .ref pv, .ref pl, .ref pa, .ref pt, .ref pm, .ref pi])) :: (pk, .inl (g.2.1 0, 100, .inl (nA kdm))) :: (pv, .inl (g.2.1 0, 100, .inl (nA vlm))) :: (pi, .inl (g.2.1 1, 101, .inl (bA mkm))) :: R) F hS hG hW nX14_order_X14 0 rfl rfl 0 (by decide) tyX14 tyX14_ok nmX14 mX14_order_1 rfl rfl rfl rfl (Nat.le_of_ble_eq_true rfl) rfl dX14_order_2 (fun H locs hW hS => ?_)
      refine lv_aload_n F.1 F.2.1 dX14_order_5 rfl (lv_at hl 0 rfl) ?_
      refine gGet F hG hW nX14_order_X14 0 rfl rfl 6 (by decide) mX14_order_2 rfl dX14_order_6 ?_
      refine gIfEqB (tgt := 27) F dX14_order_9 (by decide) (fun q => absurd hj (by rw [isz his q]; exact Nat.not_lt_zero _)) (fun c_9 => ?_)
      refine lv_iload_n F.1 F.2.1 dX14_order_12 rfl (lv_at hl 1 rfl) ?_
      refine gIfLt (tgt := 27) F (by omega) dX14_order_13 (by decide) (fun c_13 => by exfalso; omega) (fun c_13 => ?_)
      refine lv_iload_n F.1 F.2.1 dX14_order_16 rfl (lv_at hl 1 rfl) ?_
      refine lv_aload_n F.1 F.2.1 dX14_order_17 rfl (lv_at hl 0 rfl) ?_
      refine gGet F hG hW nX14_order_X14 0 rfl rfl 4 (by decide) mX14_order_3 rfl dX14_order_18 ?_
      refine gGetN F hG hW nX14_order_X12 1 rfl rfl 0 (by decide) fX14_order_186 rfl dX14_order_21 ?_
      refine gLt (tgt := 29) F (by omega) (by omega) dX14_order_24 (by decide) (fun c_24 => ?_) (fun c_24 => by exfalso; omega)
      refine lv_iload_n F.1 F.2.1 dX14_order_29 rfl (lv_at hl 2 rfl) ?_
      refine lv_tableIn (tgt := 66) F.1 F.2.1 dX14_order_30 (by decide) (by decide) rfl (by decide) ?_
      refine lv_aload_n F.1 F.2.1 dX14_order_66 rfl (lv_at hl 0 rfl) ?_
      refine gGet F hG hW nX14_order_X14 0 rfl rfl 4 (by decide) mX14_order_3 rfl dX14_order_67 ?_
      refine gGetN F hG hW nX14_order_X12 1 rfl rfl 3 (by decide) fX14_order_203 rfl dX14_order_70 ?_
      refine lv_iload_n F.1 F.2.1 dX14_order_73 rfl (lv_at hl 1 rfl) ?_
      refine gLdI F hG hW 3 rfl (by omega) (by decide) dX14_order_74 ?_
      refine gTop (y := nI (vlm j)) rfl ?_
      refine gTop (y := nI (vl j)) (congrArg nI (hav j (by omega))) ?_
      refine gRi F hW hS dX14_order_75 ?_
      exact ⟨ixS_in hj (by omega), rfl⟩
    · have hl : lv_has ls 3 [(0, .ref o), (1, .int (nI j)), (2, .int (nI 2))] := hl
      have hW : gW g ((o, .inr (11, [.int (nI z0), .int (nI z1), .int z2, .int (nI z3), .ref z4, .ref z5, .int (bI z6), .ref z7, .ref z8, .int (nI z9), .int (nI z10), .int (nI z11), .int (nI z12), .int (nI z13), .int (nI z14), .int (nI z15), .long (lN z16), .ref z17, .int z18, .int (nI z19), .ref z20, .ref z21, .ref z22, .ref z23, .ref z24, .ref z25, .int (nI z26), .int (nI z27), .int (nI z28), .int z29, .int (nI z30), .int (nI z31), .ref z32, .ref z33, .ref z34, .ref z35, .ref z36, .int (bI z37), .int (nI z38), .int (nI z39), .int (nI z40), .int (nI z41), .int (nI z42), .int (nI z43), .int (nI z44), .int (nI z45), .int (nI z46), .ref z47, .ref z48, .ref z49, .ref z50, .ref z51, .ref z52, .int z53, .ref z54])) :: (z4, .inr (9, [.int (nI n), .int (nI mm), .ref pk, .ref pv, .ref pl, .ref pa, .ref pt, .ref pm, .ref pi])) :: (pk, .inl (g.2.1 0, 100, .inl (nA kdm))) :: (pv, .inl (g.2.1 0, 100, .inl (nA vlm))) :: (pi, .inl (g.2.1 1, 101, .inl (bA mkm))) :: R) s.heap := hW
      refine lv_aload_n F.1 F.2.1 dX14_order_0 rfl (lv_at hl 0 rfl) ?_
      refine lv_iconst (v := nI 0) F.1 F.2.1 dX14_order_1 rfl ?_
      refine gPut (w2 := (o, .inr (11, [.int (nI 0), .int (nI z1), .int z2, .int (nI z3), .ref z4, .ref z5, .int (bI z6), .ref z7, .ref z8, .int (nI z9), .int (nI z10), .int (nI z11), .int (nI z12), .int (nI z13), .int (nI z14), .int (nI z15), .long (lN z16), .ref z17, .int z18, .int (nI z19), .ref z20, .ref z21, .ref z22, .ref z23, .ref z24, .ref z25, .int (nI z26), .int (nI z27), .int (nI z28), .int z29, .int (nI z30), .int (nI z31), .ref z32, .ref z33, .ref z34, .ref z35, .ref z36, .int (bI z37), .int (nI z38), .int (nI z39), .int (nI z40), .int (nI z41), .int (nI z42), .int (nI z43), .int (nI z44), .int (nI z45), .int (nI z46), .ref z47, .ref z48, .ref z49, .ref z50, .ref z51, .ref z52, .int z53, .ref z54])) :: (z4, .inr (9, [.int (nI n), .int (nI mm), .ref pk, .ref pv, .ref pl, .ref pa, .ref pt, .ref pm, .ref pi])) :: (pk, .inl (g.2.1 0, 100, .inl (nA kdm))) :: (pv, .inl (g.2.1 0, 100, .inl (nA vlm))) :: (pi, .inl (g.2.1 1, 101, .inl (bA mkm))) :: R) F hS hG hW nX14_order_X14 0 rfl rfl 0 (by decide) tyX14 tyX14_ok nmX14 mX14_order_1 rfl rfl rfl rfl (Nat.le_of_ble_eq_true rfl) rfl dX14_order_2 (fun H locs hW hS => ?_)
      refine lv_aload_n F.1 F.2.1 dX14_order_5 rfl (lv_at hl 0 rfl) ?_
      refine gGet F hG hW nX14_order_X14 0 rfl rfl 6 (by decide) mX14_order_2 rfl dX14_order_6 ?_
      refine gIfEqB (tgt := 27) F dX14_order_9 (by decide) (fun q => absurd hj (by rw [isz his q]; exact Nat.not_lt_zero _)) (fun c_9 => ?_)
      refine lv_iload_n F.1 F.2.1 dX14_order_12 rfl (lv_at hl 1 rfl) ?_
      refine gIfLt (tgt := 27) F (by omega) dX14_order_13 (by decide) (fun c_13 => by exfalso; omega) (fun c_13 => ?_)
      refine lv_iload_n F.1 F.2.1 dX14_order_16 rfl (lv_at hl 1 rfl) ?_
      refine lv_aload_n F.1 F.2.1 dX14_order_17 rfl (lv_at hl 0 rfl) ?_
      refine gGet F hG hW nX14_order_X14 0 rfl rfl 4 (by decide) mX14_order_3 rfl dX14_order_18 ?_
      refine gGetN F hG hW nX14_order_X12 1 rfl rfl 0 (by decide) fX14_order_186 rfl dX14_order_21 ?_
      refine gLt (tgt := 29) F (by omega) (by omega) dX14_order_24 (by decide) (fun c_24 => ?_) (fun c_24 => by exfalso; omega)
      refine lv_iload_n F.1 F.2.1 dX14_order_29 rfl (lv_at hl 2 rfl) ?_
      refine lv_tableIn (tgt := 76) F.1 F.2.1 dX14_order_30 (by decide) (by decide) rfl (by decide) ?_
      refine lv_aload_n F.1 F.2.1 dX14_order_76 rfl (lv_at hl 0 rfl) ?_
      refine gGet F hG hW nX14_order_X14 0 rfl rfl 4 (by decide) mX14_order_3 rfl dX14_order_77 ?_
      refine gGetN F hG hW nX14_order_X12 1 rfl rfl 8 (by decide) fX14_order_192 rfl dX14_order_80 ?_
      refine lv_iload_n F.1 F.2.1 dX14_order_83 rfl (lv_at hl 1 rfl) ?_
      refine gLdZ F hG hW 4 rfl (by omega) (by decide) dX14_order_84 ?_
      refine gTop (y := bI (mkm j)) rfl ?_
      refine gTop (y := bI (mk j)) (congrArg bI (ham j (by omega))) ?_
      refine gIfEqB (tgt := 92) F dX14_order_85 (by decide) (fun c_85 => ?_) (fun c_85 => ?_)
      · refine lv_iconst (v := nI 0) F.1 F.2.1 dX14_order_92 rfl ?_
        refine gRi F hW hS dX14_order_93 ?_
        exact ⟨by rw [ixS_in hj (by omega)]; show bI (mk j) = _; rw [c_85]; rfl, rfl⟩
      · refine lv_iconst (v := nI 1) F.1 F.2.1 dX14_order_88 rfl ?_
        refine lv_goto (tgt := 93) F.1 F.2.1 dX14_order_89 (by decide) ?_
        refine gRi F hW hS dX14_order_93 ?_
        exact ⟨by rw [ixS_in hj (by omega)]; show bI (mk j) = _; rw [c_85]; rfl, rfl⟩

abbrev rm_X14_join : Room := ({ frames := 1, cells := 0, slots := 0, locals := 22 } : Room)
theorem mX14_join_1 : Cond.fieldLink RX14 129 "StepperHeartsModel" "thrown" "I" ∈ wsX14_join := List.mem_of_getElem? (i := 1) rfl
theorem nX14_join_X14 : ∀ w ∈ wsX140, w ∈ wsX14_join := fun _ h => List.mem_cons_of_mem _ (List.mem_append_right _ (h))
theorem mX14_join_2 : Cond.fieldLink RX14 256 "StepperHeartsModel" "joins" "I" ∈ wsX14_join := List.mem_of_getElem? (i := 2) rfl
theorem mX14_join_3 : Cond.fieldLink RX14 70 "StepperHeartsModel" "isJoin" "[Z" ∈ wsX14_join := List.mem_of_getElem? (i := 3) rfl
set_option maxRecDepth 100000 in
set_option maxHeartbeats 4000000 in
theorem c_X14_join (g : gC) (l : Launch) {o : Nat} {z0 : Nat} {z1 : Nat} {z2 : Int32} {z3 : Nat} {z4 : Nat} {z5 : Nat} {z6 : Bool} {z7 : Nat} {z8 : Nat} {z9 : Nat} {z10 : Nat} {z11 : Nat} {z12 : Nat} {z13 : Nat} {z14 : Nat} {z15 : Nat} {z16 : Nat} {z17 : Nat} {z18 : Int32} {z19 : Nat} {z20 : Nat} {z21 : Nat} {z22 : Nat} {z23 : Nat} {z24 : Nat} {z25 : Nat} {z26 : Nat} {z27 : Nat} {z28 : Nat} {z29 : Int32} {z30 : Nat} {z31 : Nat} {z32 : Nat} {z33 : Nat} {z34 : Nat} {z35 : Nat} {z36 : Nat} {z37 : Bool} {z38 : Nat} {z39 : Nat} {z40 : Nat} {z41 : Nat} {z42 : Nat} {z43 : Nat} {z44 : Nat} {z45 : Nat} {z46 : Nat} {z47 : Nat} {z48 : Nat} {z49 : Nat} {z50 : Nat} {z51 : Nat} {z52 : Nat} {z53 : Int32} {z54 : Nat} {Pj : Nat → Bool} {x : Int32} {y : Int32} {R : va_W} (hsz : z19 ≤ 10) : cI g l yX14_join wsX14_join rm_X14_join 0 0 [.ref o, .int x, .int y] ((o, .inr (11, [.int (nI z0), .int (nI z1), .int z2, .int (nI z3), .ref z4, .ref z5, .int (bI z6), .ref z7, .ref z8, .int (nI z9), .int (nI z10), .int (nI z11), .int (nI z12), .int (nI z13), .int (nI z14), .int (nI z15), .long (lN z16), .ref z17, .int z18, .int (nI z19), .ref z20, .ref z21, .ref z22, .ref z23, .ref z24, .ref z25, .int (nI z26), .int (nI z27), .int (nI z28), .int z29, .int (nI z30), .int (nI z31), .ref z32, .ref z33, .ref z34, .ref z35, .ref z36, .int (bI z37), .int (nI z38), .int (nI z39), .int (nI z40), .int (nI z41), .int (nI z42), .int (nI z43), .int (nI z44), .int (nI z45), .int (nI z46), .ref z47, .ref z48, .ref z49, .ref z50, .ref z51, .ref z52, .int z53, .ref z54])) :: (z20, .inl (g.2.1 1, 225, .inl (bA Pj))) :: R) (fun r u => (okS (jnT z19 Pj x y) (nI (z19 + 1))) = r ∧ (o, .inr (11, [.int (nI 0), .int (nI (jnT z19 Pj x y)), .int (-1), .int (nI z3), .ref z4, .ref z5, .int (bI z6), .ref z7, .ref z8, .int (nI z9), .int (nI z10), .int (nI z11), .int (nI z12), .int (nI z13), .int (nI z14), .int (nI z15), .long (lN z16), .ref z17, .int z18, .int (nI (if jnT z19 Pj x y = 0 then z19 + 1 else z19)), .ref z20, .ref z21, .ref z22, .ref z23, .ref z24, .ref z25, .int (nI z26), .int (nI z27), .int (nI z28), .int z29, .int (nI z30), .int (nI z31), .ref z32, .ref z33, .ref z34, .ref z35, .ref z36, .int (bI z37), .int (nI z38), .int (nI z39), .int (nI z40), .int (nI z41), .int (nI z42), .int (nI z43), .int (nI z44), .int (nI z45), .int (nI z46), .ref z47, .ref z48, .ref z49, .ref z50, .ref z51, .ref z52, .int z53, .ref z54])) :: (z20, .inl (g.2.1 1, 225, .inl (bA (jnP z19 Pj x y)))) :: R = u) := by
  refine gEnterQ (cc := cX14_join) (maxL := 3) (ret := (some (.int))) (by decide +kernel) rfl (Nat.le_of_ble_eq_true rfl) ?_
  intro p e s m below meth c F hG hW ls hl
  have hS : va_S (gA g) s.heap s.heap [] := va_S.rf
  have hl : lv_has ls 3 [(0, .ref o), (1, .int x), (2, .int y)] := hl
  have hW : gW g ((o, .inr (11, [.int (nI z0), .int (nI z1), .int z2, .int (nI z3), .ref z4, .ref z5, .int (bI z6), .ref z7, .ref z8, .int (nI z9), .int (nI z10), .int (nI z11), .int (nI z12), .int (nI z13), .int (nI z14), .int (nI z15), .long (lN z16), .ref z17, .int z18, .int (nI z19), .ref z20, .ref z21, .ref z22, .ref z23, .ref z24, .ref z25, .int (nI z26), .int (nI z27), .int (nI z28), .int z29, .int (nI z30), .int (nI z31), .ref z32, .ref z33, .ref z34, .ref z35, .ref z36, .int (bI z37), .int (nI z38), .int (nI z39), .int (nI z40), .int (nI z41), .int (nI z42), .int (nI z43), .int (nI z44), .int (nI z45), .int (nI z46), .ref z47, .ref z48, .ref z49, .ref z50, .ref z51, .ref z52, .int z53, .ref z54])) :: (z20, .inl (g.2.1 1, 225, .inl (bA Pj))) :: R) s.heap := hW
  rcases ixc x (n := 15) (by decide) with hx | ⟨j, hj, rfl⟩
  · have hl : lv_has ls 3 [(0, .ref o), (1, .int x), (2, .int y)] := hl
    have hW : gW g ((o, .inr (11, [.int (nI z0), .int (nI z1), .int z2, .int (nI z3), .ref z4, .ref z5, .int (bI z6), .ref z7, .ref z8, .int (nI z9), .int (nI z10), .int (nI z11), .int (nI z12), .int (nI z13), .int (nI z14), .int (nI z15), .long (lN z16), .ref z17, .int z18, .int (nI z19), .ref z20, .ref z21, .ref z22, .ref z23, .ref z24, .ref z25, .int (nI z26), .int (nI z27), .int (nI z28), .int z29, .int (nI z30), .int (nI z31), .ref z32, .ref z33, .ref z34, .ref z35, .ref z36, .int (bI z37), .int (nI z38), .int (nI z39), .int (nI z40), .int (nI z41), .int (nI z42), .int (nI z43), .int (nI z44), .int (nI z45), .int (nI z46), .ref z47, .ref z48, .ref z49, .ref z50, .ref z51, .ref z52, .int z53, .ref z54])) :: (z20, .inl (g.2.1 1, 225, .inl (bA Pj))) :: R) s.heap := hW
    refine lv_aload_n F.1 F.2.1 dX14_join_0 rfl (lv_at hl 0 rfl) ?_
    refine lv_iconst (v := nI 0) F.1 F.2.1 dX14_join_1 rfl ?_
    refine gPut (w2 := (o, .inr (11, [.int (nI 0), .int (nI z1), .int z2, .int (nI z3), .ref z4, .ref z5, .int (bI z6), .ref z7, .ref z8, .int (nI z9), .int (nI z10), .int (nI z11), .int (nI z12), .int (nI z13), .int (nI z14), .int (nI z15), .long (lN z16), .ref z17, .int z18, .int (nI z19), .ref z20, .ref z21, .ref z22, .ref z23, .ref z24, .ref z25, .int (nI z26), .int (nI z27), .int (nI z28), .int z29, .int (nI z30), .int (nI z31), .ref z32, .ref z33, .ref z34, .ref z35, .ref z36, .int (bI z37), .int (nI z38), .int (nI z39), .int (nI z40), .int (nI z41), .int (nI z42), .int (nI z43), .int (nI z44), .int (nI z45), .int (nI z46), .ref z47, .ref z48, .ref z49, .ref z50, .ref z51, .ref z52, .int z53, .ref z54])) :: (z20, .inl (g.2.1 1, 225, .inl (bA Pj))) :: R) F hS hG hW nX14_join_X14 0 rfl rfl 0 (by decide) tyX14 tyX14_ok nmX14 mX14_join_1 rfl rfl rfl rfl (Nat.le_of_ble_eq_true rfl) rfl dX14_join_2 (fun H locs hW hS => ?_)
    refine lv_iload_n F.1 F.2.1 dX14_join_5 rfl (lv_at hl 1 rfl) ?_
    refine lv_iconst (v := nI 0) F.1 F.2.1 dX14_join_6 rfl ?_
    refine lv_bipush (v := nI 14) F.1 F.2.1 dX14_join_7 (by decide) ?_
    refine gS_i (n := 3) (As := [.int x, .int (nI 0), .int (nI 14)]) F hG hS hW (c_X14_in g l  ) rfl gX14_join_X14_in (by decide +kernel) ⟨rfl, rfl, Nat.le_of_ble_eq_true rfl, Nat.le_of_ble_eq_true rfl⟩ hl.1 (Nat.le_of_ble_eq_true rfl) ⟨Nat.le_of_ble_eq_true rfl, Nat.le_of_ble_eq_true rfl⟩ rfl rfl dX14_join_9 (fun r u H locs hq hW hS => ?_)
    obtain ⟨rfl, rfl⟩ := hq
    have hW : gW g ((o, .inr (11, [.int (nI 0), .int (nI z1), .int z2, .int (nI z3), .ref z4, .ref z5, .int (bI z6), .ref z7, .ref z8, .int (nI z9), .int (nI z10), .int (nI z11), .int (nI z12), .int (nI z13), .int (nI z14), .int (nI z15), .long (lN z16), .ref z17, .int z18, .int (nI z19), .ref z20, .ref z21, .ref z22, .ref z23, .ref z24, .ref z25, .int (nI z26), .int (nI z27), .int (nI z28), .int z29, .int (nI z30), .int (nI z31), .ref z32, .ref z33, .ref z34, .ref z35, .ref z36, .int (bI z37), .int (nI z38), .int (nI z39), .int (nI z40), .int (nI z41), .int (nI z42), .int (nI z43), .int (nI z44), .int (nI z45), .int (nI z46), .ref z47, .ref z48, .ref z49, .ref z50, .ref z51, .ref z52, .int z53, .ref z54])) :: (z20, .inl (g.2.1 1, 225, .inl (bA Pj))) :: R) _ := hW
    refine gTop (congrArg bI (inS_out (n := 14) (by decide) hx)) ?_
    refine gIfEqB (tgt := 25) F dX14_join_12 (by decide) (fun c_12 => ?_) (fun q => by simp at q)
    refine lv_aload_n F.1 F.2.1 dX14_join_25 rfl (lv_at hl 0 rfl) ?_
    refine lv_iconst (v := nI 1) F.1 F.2.1 dX14_join_26 rfl ?_
    refine gVi (n := 1) (q := (RX14, TX14, 55)) (q0 := 0) (As := [.int (nI 1)]) F hG hS hW (c_X14_refused g l  ) rfl gX14_join_X14_refused rfl rfl rfl (by decide +kernel) ⟨rfl, rfl, Nat.le_of_ble_eq_true rfl, Nat.le_of_ble_eq_true rfl⟩ hl.1 (Nat.le_of_ble_eq_true rfl) ⟨Nat.le_of_ble_eq_true rfl, Nat.le_of_ble_eq_true rfl⟩ rfl rfl dX14_join_27 (fun r u H locs hq hW hS => ?_)
    obtain ⟨rfl, rfl⟩ := hq
    have hW : gW g ((o, .inr (11, [.int (nI 0), .int (nI 1), .int (-1), .int (nI z3), .ref z4, .ref z5, .int (bI z6), .ref z7, .ref z8, .int (nI z9), .int (nI z10), .int (nI z11), .int (nI z12), .int (nI z13), .int (nI z14), .int (nI z15), .long (lN z16), .ref z17, .int z18, .int (nI z19), .ref z20, .ref z21, .ref z22, .ref z23, .ref z24, .ref z25, .int (nI z26), .int (nI z27), .int (nI z28), .int z29, .int (nI z30), .int (nI z31), .ref z32, .ref z33, .ref z34, .ref z35, .ref z36, .int (bI z37), .int (nI z38), .int (nI z39), .int (nI z40), .int (nI z41), .int (nI z42), .int (nI z43), .int (nI z44), .int (nI z45), .int (nI z46), .ref z47, .ref z48, .ref z49, .ref z50, .ref z51, .ref z52, .int z53, .ref z54])) :: (z20, .inl (g.2.1 1, 225, .inl (bA Pj))) :: R) _ := hW
    refine gRi F hW hS dX14_join_30 ?_
    have e9 : jnT z19 Pj x y = 1 := ixS_out hx (by decide)
    have e8 : jnP z19 Pj x y = Pj := by rw [jnP, e9]; rfl
    rw [e8, e9]
    exact ⟨rfl, rfl⟩
  · have hl : lv_has ls 3 [(0, .ref o), (1, .int (nI j)), (2, .int y)] := hl
    have hW : gW g ((o, .inr (11, [.int (nI z0), .int (nI z1), .int z2, .int (nI z3), .ref z4, .ref z5, .int (bI z6), .ref z7, .ref z8, .int (nI z9), .int (nI z10), .int (nI z11), .int (nI z12), .int (nI z13), .int (nI z14), .int (nI z15), .long (lN z16), .ref z17, .int z18, .int (nI z19), .ref z20, .ref z21, .ref z22, .ref z23, .ref z24, .ref z25, .int (nI z26), .int (nI z27), .int (nI z28), .int z29, .int (nI z30), .int (nI z31), .ref z32, .ref z33, .ref z34, .ref z35, .ref z36, .int (bI z37), .int (nI z38), .int (nI z39), .int (nI z40), .int (nI z41), .int (nI z42), .int (nI z43), .int (nI z44), .int (nI z45), .int (nI z46), .ref z47, .ref z48, .ref z49, .ref z50, .ref z51, .ref z52, .int z53, .ref z54])) :: (z20, .inl (g.2.1 1, 225, .inl (bA Pj))) :: R) s.heap := hW
    rcases ixc y (n := 15) (by decide) with hx | ⟨k, hk, rfl⟩
    · have hl : lv_has ls 3 [(0, .ref o), (1, .int (nI j)), (2, .int y)] := hl
      have hW : gW g ((o, .inr (11, [.int (nI z0), .int (nI z1), .int z2, .int (nI z3), .ref z4, .ref z5, .int (bI z6), .ref z7, .ref z8, .int (nI z9), .int (nI z10), .int (nI z11), .int (nI z12), .int (nI z13), .int (nI z14), .int (nI z15), .long (lN z16), .ref z17, .int z18, .int (nI z19), .ref z20, .ref z21, .ref z22, .ref z23, .ref z24, .ref z25, .int (nI z26), .int (nI z27), .int (nI z28), .int z29, .int (nI z30), .int (nI z31), .ref z32, .ref z33, .ref z34, .ref z35, .ref z36, .int (bI z37), .int (nI z38), .int (nI z39), .int (nI z40), .int (nI z41), .int (nI z42), .int (nI z43), .int (nI z44), .int (nI z45), .int (nI z46), .ref z47, .ref z48, .ref z49, .ref z50, .ref z51, .ref z52, .int z53, .ref z54])) :: (z20, .inl (g.2.1 1, 225, .inl (bA Pj))) :: R) s.heap := hW
      refine lv_aload_n F.1 F.2.1 dX14_join_0 rfl (lv_at hl 0 rfl) ?_
      refine lv_iconst (v := nI 0) F.1 F.2.1 dX14_join_1 rfl ?_
      refine gPut (w2 := (o, .inr (11, [.int (nI 0), .int (nI z1), .int z2, .int (nI z3), .ref z4, .ref z5, .int (bI z6), .ref z7, .ref z8, .int (nI z9), .int (nI z10), .int (nI z11), .int (nI z12), .int (nI z13), .int (nI z14), .int (nI z15), .long (lN z16), .ref z17, .int z18, .int (nI z19), .ref z20, .ref z21, .ref z22, .ref z23, .ref z24, .ref z25, .int (nI z26), .int (nI z27), .int (nI z28), .int z29, .int (nI z30), .int (nI z31), .ref z32, .ref z33, .ref z34, .ref z35, .ref z36, .int (bI z37), .int (nI z38), .int (nI z39), .int (nI z40), .int (nI z41), .int (nI z42), .int (nI z43), .int (nI z44), .int (nI z45), .int (nI z46), .ref z47, .ref z48, .ref z49, .ref z50, .ref z51, .ref z52, .int z53, .ref z54])) :: (z20, .inl (g.2.1 1, 225, .inl (bA Pj))) :: R) F hS hG hW nX14_join_X14 0 rfl rfl 0 (by decide) tyX14 tyX14_ok nmX14 mX14_join_1 rfl rfl rfl rfl (Nat.le_of_ble_eq_true rfl) rfl dX14_join_2 (fun H locs hW hS => ?_)
      refine lv_iload_n F.1 F.2.1 dX14_join_5 rfl (lv_at hl 1 rfl) ?_
      refine lv_iconst (v := nI 0) F.1 F.2.1 dX14_join_6 rfl ?_
      refine lv_bipush (v := nI 14) F.1 F.2.1 dX14_join_7 (by decide) ?_
      refine gS_i (n := 3) (As := [.int (nI j), .int (nI 0), .int (nI 14)]) F hG hS hW (c_X14_in g l  ) rfl gX14_join_X14_in (by decide +kernel) ⟨rfl, rfl, Nat.le_of_ble_eq_true rfl, Nat.le_of_ble_eq_true rfl⟩ hl.1 (Nat.le_of_ble_eq_true rfl) ⟨Nat.le_of_ble_eq_true rfl, Nat.le_of_ble_eq_true rfl⟩ rfl rfl dX14_join_9 (fun r u H locs hq hW hS => ?_)
      obtain ⟨rfl, rfl⟩ := hq
      have hW : gW g ((o, .inr (11, [.int (nI 0), .int (nI z1), .int z2, .int (nI z3), .ref z4, .ref z5, .int (bI z6), .ref z7, .ref z8, .int (nI z9), .int (nI z10), .int (nI z11), .int (nI z12), .int (nI z13), .int (nI z14), .int (nI z15), .long (lN z16), .ref z17, .int z18, .int (nI z19), .ref z20, .ref z21, .ref z22, .ref z23, .ref z24, .ref z25, .int (nI z26), .int (nI z27), .int (nI z28), .int z29, .int (nI z30), .int (nI z31), .ref z32, .ref z33, .ref z34, .ref z35, .ref z36, .int (bI z37), .int (nI z38), .int (nI z39), .int (nI z40), .int (nI z41), .int (nI z42), .int (nI z43), .int (nI z44), .int (nI z45), .int (nI z46), .ref z47, .ref z48, .ref z49, .ref z50, .ref z51, .ref z52, .int z53, .ref z54])) :: (z20, .inl (g.2.1 1, 225, .inl (bA Pj))) :: R) _ := hW
      refine gTop (congrArg bI (inS_in (n := 14) (by decide) hj)) ?_
      refine gIfEqB (tgt := 25) F dX14_join_12 (by decide) (fun q => by simp at q) (fun c_12 => ?_)
      refine lv_iload_n F.1 F.2.1 dX14_join_15 rfl (lv_at hl 2 rfl) ?_
      refine lv_iconst (v := nI 0) F.1 F.2.1 dX14_join_16 rfl ?_
      refine lv_bipush (v := nI 14) F.1 F.2.1 dX14_join_17 (by decide) ?_
      refine gS_i (n := 3) (As := [.int y, .int (nI 0), .int (nI 14)]) F hG hS hW (c_X14_in g l  ) rfl gX14_join_X14_in (by decide +kernel) ⟨rfl, rfl, Nat.le_of_ble_eq_true rfl, Nat.le_of_ble_eq_true rfl⟩ hl.1 (Nat.le_of_ble_eq_true rfl) ⟨Nat.le_of_ble_eq_true rfl, Nat.le_of_ble_eq_true rfl⟩ rfl rfl dX14_join_19 (fun r u H locs hq hW hS => ?_)
      obtain ⟨rfl, rfl⟩ := hq
      have hW : gW g ((o, .inr (11, [.int (nI 0), .int (nI z1), .int z2, .int (nI z3), .ref z4, .ref z5, .int (bI z6), .ref z7, .ref z8, .int (nI z9), .int (nI z10), .int (nI z11), .int (nI z12), .int (nI z13), .int (nI z14), .int (nI z15), .long (lN z16), .ref z17, .int z18, .int (nI z19), .ref z20, .ref z21, .ref z22, .ref z23, .ref z24, .ref z25, .int (nI z26), .int (nI z27), .int (nI z28), .int z29, .int (nI z30), .int (nI z31), .ref z32, .ref z33, .ref z34, .ref z35, .ref z36, .int (bI z37), .int (nI z38), .int (nI z39), .int (nI z40), .int (nI z41), .int (nI z42), .int (nI z43), .int (nI z44), .int (nI z45), .int (nI z46), .ref z47, .ref z48, .ref z49, .ref z50, .ref z51, .ref z52, .int z53, .ref z54])) :: (z20, .inl (g.2.1 1, 225, .inl (bA Pj))) :: R) _ := hW
      refine gTop (congrArg bI (inS_out (n := 14) (by decide) hx)) ?_
      refine gIfNeB (tgt := 31) F dX14_join_22 (by decide) (fun q => by simp at q) (fun c_22 => ?_)
      refine lv_aload_n F.1 F.2.1 dX14_join_25 rfl (lv_at hl 0 rfl) ?_
      refine lv_iconst (v := nI 1) F.1 F.2.1 dX14_join_26 rfl ?_
      refine gVi (n := 1) (q := (RX14, TX14, 55)) (q0 := 0) (As := [.int (nI 1)]) F hG hS hW (c_X14_refused g l  ) rfl gX14_join_X14_refused rfl rfl rfl (by decide +kernel) ⟨rfl, rfl, Nat.le_of_ble_eq_true rfl, Nat.le_of_ble_eq_true rfl⟩ hl.1 (Nat.le_of_ble_eq_true rfl) ⟨Nat.le_of_ble_eq_true rfl, Nat.le_of_ble_eq_true rfl⟩ rfl rfl dX14_join_27 (fun r u H locs hq hW hS => ?_)
      obtain ⟨rfl, rfl⟩ := hq
      have hW : gW g ((o, .inr (11, [.int (nI 0), .int (nI 1), .int (-1), .int (nI z3), .ref z4, .ref z5, .int (bI z6), .ref z7, .ref z8, .int (nI z9), .int (nI z10), .int (nI z11), .int (nI z12), .int (nI z13), .int (nI z14), .int (nI z15), .long (lN z16), .ref z17, .int z18, .int (nI z19), .ref z20, .ref z21, .ref z22, .ref z23, .ref z24, .ref z25, .int (nI z26), .int (nI z27), .int (nI z28), .int z29, .int (nI z30), .int (nI z31), .ref z32, .ref z33, .ref z34, .ref z35, .ref z36, .int (bI z37), .int (nI z38), .int (nI z39), .int (nI z40), .int (nI z41), .int (nI z42), .int (nI z43), .int (nI z44), .int (nI z45), .int (nI z46), .ref z47, .ref z48, .ref z49, .ref z50, .ref z51, .ref z52, .int z53, .ref z54])) :: (z20, .inl (g.2.1 1, 225, .inl (bA Pj))) :: R) _ := hW
      refine gRi F hW hS dX14_join_30 ?_
      have e9 : jnT z19 Pj (nI j) y = 1 := (ixS_in hj (by decide)).trans (ixS_out hx (by decide))
      have e8 : jnP z19 Pj (nI j) y = Pj := by rw [jnP, e9]; rfl
      rw [e8, e9]
      exact ⟨rfl, rfl⟩
    · have hl : lv_has ls 3 [(0, .ref o), (1, .int (nI j)), (2, .int (nI k))] := hl
      have hW : gW g ((o, .inr (11, [.int (nI z0), .int (nI z1), .int z2, .int (nI z3), .ref z4, .ref z5, .int (bI z6), .ref z7, .ref z8, .int (nI z9), .int (nI z10), .int (nI z11), .int (nI z12), .int (nI z13), .int (nI z14), .int (nI z15), .long (lN z16), .ref z17, .int z18, .int (nI z19), .ref z20, .ref z21, .ref z22, .ref z23, .ref z24, .ref z25, .int (nI z26), .int (nI z27), .int (nI z28), .int z29, .int (nI z30), .int (nI z31), .ref z32, .ref z33, .ref z34, .ref z35, .ref z36, .int (bI z37), .int (nI z38), .int (nI z39), .int (nI z40), .int (nI z41), .int (nI z42), .int (nI z43), .int (nI z44), .int (nI z45), .int (nI z46), .ref z47, .ref z48, .ref z49, .ref z50, .ref z51, .ref z52, .int z53, .ref z54])) :: (z20, .inl (g.2.1 1, 225, .inl (bA Pj))) :: R) s.heap := hW
      refine lv_aload_n F.1 F.2.1 dX14_join_0 rfl (lv_at hl 0 rfl) ?_
      refine lv_iconst (v := nI 0) F.1 F.2.1 dX14_join_1 rfl ?_
      refine gPut (w2 := (o, .inr (11, [.int (nI 0), .int (nI z1), .int z2, .int (nI z3), .ref z4, .ref z5, .int (bI z6), .ref z7, .ref z8, .int (nI z9), .int (nI z10), .int (nI z11), .int (nI z12), .int (nI z13), .int (nI z14), .int (nI z15), .long (lN z16), .ref z17, .int z18, .int (nI z19), .ref z20, .ref z21, .ref z22, .ref z23, .ref z24, .ref z25, .int (nI z26), .int (nI z27), .int (nI z28), .int z29, .int (nI z30), .int (nI z31), .ref z32, .ref z33, .ref z34, .ref z35, .ref z36, .int (bI z37), .int (nI z38), .int (nI z39), .int (nI z40), .int (nI z41), .int (nI z42), .int (nI z43), .int (nI z44), .int (nI z45), .int (nI z46), .ref z47, .ref z48, .ref z49, .ref z50, .ref z51, .ref z52, .int z53, .ref z54])) :: (z20, .inl (g.2.1 1, 225, .inl (bA Pj))) :: R) F hS hG hW nX14_join_X14 0 rfl rfl 0 (by decide) tyX14 tyX14_ok nmX14 mX14_join_1 rfl rfl rfl rfl (Nat.le_of_ble_eq_true rfl) rfl dX14_join_2 (fun H locs hW hS => ?_)
      refine lv_iload_n F.1 F.2.1 dX14_join_5 rfl (lv_at hl 1 rfl) ?_
      refine lv_iconst (v := nI 0) F.1 F.2.1 dX14_join_6 rfl ?_
      refine lv_bipush (v := nI 14) F.1 F.2.1 dX14_join_7 (by decide) ?_
      refine gS_i (n := 3) (As := [.int (nI j), .int (nI 0), .int (nI 14)]) F hG hS hW (c_X14_in g l  ) rfl gX14_join_X14_in (by decide +kernel) ⟨rfl, rfl, Nat.le_of_ble_eq_true rfl, Nat.le_of_ble_eq_true rfl⟩ hl.1 (Nat.le_of_ble_eq_true rfl) ⟨Nat.le_of_ble_eq_true rfl, Nat.le_of_ble_eq_true rfl⟩ rfl rfl dX14_join_9 (fun r u H locs hq hW hS => ?_)
      obtain ⟨rfl, rfl⟩ := hq
      have hW : gW g ((o, .inr (11, [.int (nI 0), .int (nI z1), .int z2, .int (nI z3), .ref z4, .ref z5, .int (bI z6), .ref z7, .ref z8, .int (nI z9), .int (nI z10), .int (nI z11), .int (nI z12), .int (nI z13), .int (nI z14), .int (nI z15), .long (lN z16), .ref z17, .int z18, .int (nI z19), .ref z20, .ref z21, .ref z22, .ref z23, .ref z24, .ref z25, .int (nI z26), .int (nI z27), .int (nI z28), .int z29, .int (nI z30), .int (nI z31), .ref z32, .ref z33, .ref z34, .ref z35, .ref z36, .int (bI z37), .int (nI z38), .int (nI z39), .int (nI z40), .int (nI z41), .int (nI z42), .int (nI z43), .int (nI z44), .int (nI z45), .int (nI z46), .ref z47, .ref z48, .ref z49, .ref z50, .ref z51, .ref z52, .int z53, .ref z54])) :: (z20, .inl (g.2.1 1, 225, .inl (bA Pj))) :: R) _ := hW
      refine gTop (congrArg bI (inS_in (n := 14) (by decide) hj)) ?_
      refine gIfEqB (tgt := 25) F dX14_join_12 (by decide) (fun q => by simp at q) (fun c_12 => ?_)
      refine lv_iload_n F.1 F.2.1 dX14_join_15 rfl (lv_at hl 2 rfl) ?_
      refine lv_iconst (v := nI 0) F.1 F.2.1 dX14_join_16 rfl ?_
      refine lv_bipush (v := nI 14) F.1 F.2.1 dX14_join_17 (by decide) ?_
      refine gS_i (n := 3) (As := [.int (nI k), .int (nI 0), .int (nI 14)]) F hG hS hW (c_X14_in g l  ) rfl gX14_join_X14_in (by decide +kernel) ⟨rfl, rfl, Nat.le_of_ble_eq_true rfl, Nat.le_of_ble_eq_true rfl⟩ hl.1 (Nat.le_of_ble_eq_true rfl) ⟨Nat.le_of_ble_eq_true rfl, Nat.le_of_ble_eq_true rfl⟩ rfl rfl dX14_join_19 (fun r u H locs hq hW hS => ?_)
      obtain ⟨rfl, rfl⟩ := hq
      have hW : gW g ((o, .inr (11, [.int (nI 0), .int (nI z1), .int z2, .int (nI z3), .ref z4, .ref z5, .int (bI z6), .ref z7, .ref z8, .int (nI z9), .int (nI z10), .int (nI z11), .int (nI z12), .int (nI z13), .int (nI z14), .int (nI z15), .long (lN z16), .ref z17, .int z18, .int (nI z19), .ref z20, .ref z21, .ref z22, .ref z23, .ref z24, .ref z25, .int (nI z26), .int (nI z27), .int (nI z28), .int z29, .int (nI z30), .int (nI z31), .ref z32, .ref z33, .ref z34, .ref z35, .ref z36, .int (bI z37), .int (nI z38), .int (nI z39), .int (nI z40), .int (nI z41), .int (nI z42), .int (nI z43), .int (nI z44), .int (nI z45), .int (nI z46), .ref z47, .ref z48, .ref z49, .ref z50, .ref z51, .ref z52, .int z53, .ref z54])) :: (z20, .inl (g.2.1 1, 225, .inl (bA Pj))) :: R) _ := hW
      refine gTop (congrArg bI (inS_in (n := 14) (by decide) hk)) ?_
      refine gIfNeB (tgt := 31) F dX14_join_22 (by decide) (fun c_22 => ?_) (fun q => by simp at q)
      refine lv_aload_n F.1 F.2.1 dX14_join_31 rfl (lv_at hl 0 rfl) ?_
      refine gGet F hG hW nX14_join_X14 0 rfl rfl 19 (by decide) mX14_join_2 rfl dX14_join_32 ?_
      refine lv_bipush (v := nI 10) F.1 F.2.1 dX14_join_35 (by decide) ?_
      refine gEq (tgt := 54) F (by omega) (by omega) dX14_join_37 (by decide) (fun c_37 => ?_) (fun c_37 => ?_)
      · refine lv_aload_n F.1 F.2.1 dX14_join_54 rfl (lv_at hl 0 rfl) ?_
        refine lv_iconst (v := nI 2) F.1 F.2.1 dX14_join_55 rfl ?_
        refine gVi (n := 1) (q := (RX14, TX14, 55)) (q0 := 0) (As := [.int (nI 2)]) F hG hS hW (c_X14_refused g l  ) rfl gX14_join_X14_refused rfl rfl rfl (by decide +kernel) ⟨rfl, rfl, Nat.le_of_ble_eq_true rfl, Nat.le_of_ble_eq_true rfl⟩ hl.1 (Nat.le_of_ble_eq_true rfl) ⟨Nat.le_of_ble_eq_true rfl, Nat.le_of_ble_eq_true rfl⟩ rfl rfl dX14_join_56 (fun r u H locs hq hW hS => ?_)
        obtain ⟨rfl, rfl⟩ := hq
        have hW : gW g ((o, .inr (11, [.int (nI 0), .int (nI 2), .int (-1), .int (nI z3), .ref z4, .ref z5, .int (bI z6), .ref z7, .ref z8, .int (nI z9), .int (nI z10), .int (nI z11), .int (nI z12), .int (nI z13), .int (nI z14), .int (nI z15), .long (lN z16), .ref z17, .int z18, .int (nI z19), .ref z20, .ref z21, .ref z22, .ref z23, .ref z24, .ref z25, .int (nI z26), .int (nI z27), .int (nI z28), .int z29, .int (nI z30), .int (nI z31), .ref z32, .ref z33, .ref z34, .ref z35, .ref z36, .int (bI z37), .int (nI z38), .int (nI z39), .int (nI z40), .int (nI z41), .int (nI z42), .int (nI z43), .int (nI z44), .int (nI z45), .int (nI z46), .ref z47, .ref z48, .ref z49, .ref z50, .ref z51, .ref z52, .int z53, .ref z54])) :: (z20, .inl (g.2.1 1, 225, .inl (bA Pj))) :: R) _ := hW
        refine gRi F hW hS dX14_join_59 ?_
        have e9 : jnT z19 Pj (nI j) (nI k) = 2 := (ixS_in hj (by decide)).trans ((ixS_in hk (by decide)).trans (if_pos (Or.inl (Nat.le_of_eq c_37.symm))))
        have e8 : jnP z19 Pj (nI j) (nI k) = Pj := by rw [jnP, e9]; rfl
        rw [e8, e9]
        exact ⟨rfl, rfl⟩
      · refine lv_aload_n F.1 F.2.1 dX14_join_40 rfl (lv_at hl 0 rfl) ?_
        refine gGet F hG hW nX14_join_X14 0 rfl rfl 20 (by decide) mX14_join_3 rfl dX14_join_41 ?_
        refine lv_bipush (v := nI 15) F.1 F.2.1 dX14_join_44 (by decide) ?_
        refine lv_iload_n F.1 F.2.1 dX14_join_46 rfl (lv_at hl 1 rfl) ?_
        refine gMul F dX14_join_47 ?_
        refine gTop (congrArg nI (Nat.mul_comm 15 j)) ?_
        refine lv_iload_n F.1 F.2.1 dX14_join_48 rfl (lv_at hl 2 rfl) ?_
        refine gAdd F dX14_join_49 ?_
        refine gLdZ F hG hW 1 rfl (by omega) (by decide) dX14_join_50 ?_
        refine gTop (y := bI (Pj ((j * 15) + k))) rfl ?_
        refine gIfEqB (tgt := 60) F dX14_join_51 (by decide) (fun c_51 => ?_) (fun c_51 => ?_)
        · refine lv_aload_n F.1 F.2.1 dX14_join_60 rfl (lv_at hl 0 rfl) ?_
          refine gGet F hG hW nX14_join_X14 0 rfl rfl 20 (by decide) mX14_join_3 rfl dX14_join_61 ?_
          refine lv_bipush (v := nI 15) F.1 F.2.1 dX14_join_64 (by decide) ?_
          refine lv_iload_n F.1 F.2.1 dX14_join_66 rfl (lv_at hl 1 rfl) ?_
          refine gMul F dX14_join_67 ?_
          refine gTop (congrArg nI (Nat.mul_comm 15 j)) ?_
          refine lv_iload_n F.1 F.2.1 dX14_join_68 rfl (lv_at hl 2 rfl) ?_
          refine gAdd F dX14_join_69 ?_
          refine lv_iconst (v := nI 1) F.1 F.2.1 dX14_join_70 rfl ?_
          refine gTop (y := bI true) rfl ?_
          refine gStZB (w2 := (o, .inr (11, [.int (nI 0), .int (nI z1), .int z2, .int (nI z3), .ref z4, .ref z5, .int (bI z6), .ref z7, .ref z8, .int (nI z9), .int (nI z10), .int (nI z11), .int (nI z12), .int (nI z13), .int (nI z14), .int (nI z15), .long (lN z16), .ref z17, .int z18, .int (nI z19), .ref z20, .ref z21, .ref z22, .ref z23, .ref z24, .ref z25, .int (nI z26), .int (nI z27), .int (nI z28), .int z29, .int (nI z30), .int (nI z31), .ref z32, .ref z33, .ref z34, .ref z35, .ref z36, .int (bI z37), .int (nI z38), .int (nI z39), .int (nI z40), .int (nI z41), .int (nI z42), .int (nI z43), .int (nI z44), .int (nI z45), .int (nI z46), .ref z47, .ref z48, .ref z49, .ref z50, .ref z51, .ref z52, .int z53, .ref z54])) :: (z20, .inl (g.2.1 1, 225, .inl (bA (updB Pj ((j * 15) + k) true)))) :: R) F hG hW 1 rfl (by omega) (by decide) hS rfl dX14_join_71 (fun H locs hW hS => ?_)
          refine lv_aload_n F.1 F.2.1 dX14_join_72 rfl (lv_at hl 0 rfl) ?_
          refine lv_dup F.1 F.2.1 dX14_join_73 rfl ?_
          refine gGet F hG hW nX14_join_X14 0 rfl rfl 19 (by decide) mX14_join_2 rfl dX14_join_74 ?_
          refine lv_iconst (v := nI 1) F.1 F.2.1 dX14_join_77 rfl ?_
          refine gAdd F dX14_join_78 ?_
          refine gPut (w2 := (o, .inr (11, [.int (nI 0), .int (nI z1), .int z2, .int (nI z3), .ref z4, .ref z5, .int (bI z6), .ref z7, .ref z8, .int (nI z9), .int (nI z10), .int (nI z11), .int (nI z12), .int (nI z13), .int (nI z14), .int (nI z15), .long (lN z16), .ref z17, .int z18, .int (nI (z19 + 1)), .ref z20, .ref z21, .ref z22, .ref z23, .ref z24, .ref z25, .int (nI z26), .int (nI z27), .int (nI z28), .int z29, .int (nI z30), .int (nI z31), .ref z32, .ref z33, .ref z34, .ref z35, .ref z36, .int (bI z37), .int (nI z38), .int (nI z39), .int (nI z40), .int (nI z41), .int (nI z42), .int (nI z43), .int (nI z44), .int (nI z45), .int (nI z46), .ref z47, .ref z48, .ref z49, .ref z50, .ref z51, .ref z52, .int z53, .ref z54])) :: (z20, .inl (g.2.1 1, 225, .inl (bA (updB Pj ((j * 15) + k) true)))) :: R) F hS hG hW nX14_join_X14 0 rfl rfl 19 (by decide) tyX14 tyX14_ok nmX14 mX14_join_2 rfl rfl rfl rfl (Nat.le_of_ble_eq_true rfl) rfl dX14_join_79 (fun H locs hW hS => ?_)
          refine lv_aload_n F.1 F.2.1 dX14_join_82 rfl (lv_at hl 0 rfl) ?_
          refine lv_aload_n F.1 F.2.1 dX14_join_83 rfl (lv_at hl 0 rfl) ?_
          refine gGet F hG hW nX14_join_X14 0 rfl rfl 19 (by decide) mX14_join_2 rfl dX14_join_84 ?_
          refine gVi (n := 1) (q := (RX14, TX14, 55)) (q0 := 0) (As := [.int (nI (z19 + 1))]) F hG hS hW (c_X14_done g l  ) rfl gX14_join_X14_done rfl rfl rfl (by decide +kernel) ⟨rfl, rfl, Nat.le_of_ble_eq_true rfl, Nat.le_of_ble_eq_true rfl⟩ hl.1 (Nat.le_of_ble_eq_true rfl) ⟨Nat.le_of_ble_eq_true rfl, Nat.le_of_ble_eq_true rfl⟩ rfl rfl dX14_join_87 (fun r u H locs hq hW hS => ?_)
          obtain ⟨rfl, rfl⟩ := hq
          have hW : gW g ((o, .inr (11, [.int (nI 0), .int (nI 0), .int (-1), .int (nI z3), .ref z4, .ref z5, .int (bI z6), .ref z7, .ref z8, .int (nI z9), .int (nI z10), .int (nI z11), .int (nI z12), .int (nI z13), .int (nI z14), .int (nI z15), .long (lN z16), .ref z17, .int z18, .int (nI (z19 + 1)), .ref z20, .ref z21, .ref z22, .ref z23, .ref z24, .ref z25, .int (nI z26), .int (nI z27), .int (nI z28), .int z29, .int (nI z30), .int (nI z31), .ref z32, .ref z33, .ref z34, .ref z35, .ref z36, .int (bI z37), .int (nI z38), .int (nI z39), .int (nI z40), .int (nI z41), .int (nI z42), .int (nI z43), .int (nI z44), .int (nI z45), .int (nI z46), .ref z47, .ref z48, .ref z49, .ref z50, .ref z51, .ref z52, .int z53, .ref z54])) :: (z20, .inl (g.2.1 1, 225, .inl (bA (updB Pj ((j * 15) + k) true)))) :: R) _ := hW
          refine gRi F hW hS dX14_join_90 ?_
          have e9 : jnT z19 Pj (nI j) (nI k) = 0 := (ixS_in hj (by decide)).trans ((ixS_in hk (by decide)).trans (if_neg (fun z => z.elim (fun z => c_37 (Nat.le_antisymm hsz z)) (fun z => by rw [c_51] at z; cases z))))
          have e8 : jnP z19 Pj (nI j) (nI k) = updB Pj (j * 15 + k) true := by rw [jnP, e9]; rw [nI_nat (by omega), nI_nat (by omega)]; rfl
          rw [e8, e9]
          exact ⟨rfl, rfl⟩
        · refine lv_aload_n F.1 F.2.1 dX14_join_54 rfl (lv_at hl 0 rfl) ?_
          refine lv_iconst (v := nI 2) F.1 F.2.1 dX14_join_55 rfl ?_
          refine gVi (n := 1) (q := (RX14, TX14, 55)) (q0 := 0) (As := [.int (nI 2)]) F hG hS hW (c_X14_refused g l  ) rfl gX14_join_X14_refused rfl rfl rfl (by decide +kernel) ⟨rfl, rfl, Nat.le_of_ble_eq_true rfl, Nat.le_of_ble_eq_true rfl⟩ hl.1 (Nat.le_of_ble_eq_true rfl) ⟨Nat.le_of_ble_eq_true rfl, Nat.le_of_ble_eq_true rfl⟩ rfl rfl dX14_join_56 (fun r u H locs hq hW hS => ?_)
          obtain ⟨rfl, rfl⟩ := hq
          have hW : gW g ((o, .inr (11, [.int (nI 0), .int (nI 2), .int (-1), .int (nI z3), .ref z4, .ref z5, .int (bI z6), .ref z7, .ref z8, .int (nI z9), .int (nI z10), .int (nI z11), .int (nI z12), .int (nI z13), .int (nI z14), .int (nI z15), .long (lN z16), .ref z17, .int z18, .int (nI z19), .ref z20, .ref z21, .ref z22, .ref z23, .ref z24, .ref z25, .int (nI z26), .int (nI z27), .int (nI z28), .int z29, .int (nI z30), .int (nI z31), .ref z32, .ref z33, .ref z34, .ref z35, .ref z36, .int (bI z37), .int (nI z38), .int (nI z39), .int (nI z40), .int (nI z41), .int (nI z42), .int (nI z43), .int (nI z44), .int (nI z45), .int (nI z46), .ref z47, .ref z48, .ref z49, .ref z50, .ref z51, .ref z52, .int z53, .ref z54])) :: (z20, .inl (g.2.1 1, 225, .inl (bA Pj))) :: R) _ := hW
          refine gRi F hW hS dX14_join_59 ?_
          have e9 : jnT z19 Pj (nI j) (nI k) = 2 := (ixS_in hj (by decide)).trans ((ixS_in hk (by decide)).trans (if_pos (Or.inr c_51)))
          have e8 : jnP z19 Pj (nI j) (nI k) = Pj := by rw [jnP, e9]; rfl
          rw [e8, e9]
          exact ⟨rfl, rfl⟩

abbrev rm_X14_part : Room := ({ frames := 0, cells := 0, slots := 0, locals := 0 } : Room)
theorem mX14_part_1 : Cond.fieldLink RX14 129 "StepperHeartsModel" "thrown" "I" ∈ wsX14_part := List.mem_of_getElem? (i := 1) rfl
theorem nX14_part_X14 : ∀ w ∈ wsX140, w ∈ wsX14_part := fun _ h => List.mem_cons_of_mem _ (List.mem_append_right _ (h))
theorem mX14_part_2 : Cond.fieldLink RX14 256 "StepperHeartsModel" "joins" "I" ∈ wsX14_part := List.mem_of_getElem? (i := 2) rfl
theorem mX14_part_3 : Cond.fieldLink RX14 70 "StepperHeartsModel" "isJoin" "[Z" ∈ wsX14_part := List.mem_of_getElem? (i := 3) rfl
set_option maxRecDepth 100000 in
set_option maxHeartbeats 4000000 in
theorem c_X14_part (g : gC) (l : Launch) {o : Nat} {z0 : Nat} {z1 : Nat} {z2 : Int32} {z3 : Nat} {z4 : Nat} {z5 : Nat} {z6 : Bool} {z7 : Nat} {z8 : Nat} {z9 : Nat} {z10 : Nat} {z11 : Nat} {z12 : Nat} {z13 : Nat} {z14 : Nat} {z15 : Nat} {z16 : Nat} {z17 : Nat} {z18 : Int32} {z19 : Nat} {z20 : Nat} {z21 : Nat} {z22 : Nat} {z23 : Nat} {z24 : Nat} {z25 : Nat} {z26 : Nat} {z27 : Nat} {z28 : Nat} {z29 : Int32} {z30 : Nat} {z31 : Nat} {z32 : Nat} {z33 : Nat} {z34 : Nat} {z35 : Nat} {z36 : Nat} {z37 : Bool} {z38 : Nat} {z39 : Nat} {z40 : Nat} {z41 : Nat} {z42 : Nat} {z43 : Nat} {z44 : Nat} {z45 : Nat} {z46 : Nat} {z47 : Nat} {z48 : Nat} {z49 : Nat} {z50 : Nat} {z51 : Nat} {z52 : Nat} {z53 : Int32} {z54 : Nat} {Pj : Nat → Bool} {R : va_W} : cI g l yX14_part wsX14_part rm_X14_part 0 0 [.ref o] ((o, .inr (11, [.int (nI z0), .int (nI z1), .int z2, .int (nI z3), .ref z4, .ref z5, .int (bI z6), .ref z7, .ref z8, .int (nI z9), .int (nI z10), .int (nI z11), .int (nI z12), .int (nI z13), .int (nI z14), .int (nI z15), .long (lN z16), .ref z17, .int z18, .int (nI z19), .ref z20, .ref z21, .ref z22, .ref z23, .ref z24, .ref z25, .int (nI z26), .int (nI z27), .int (nI z28), .int z29, .int (nI z30), .int (nI z31), .ref z32, .ref z33, .ref z34, .ref z35, .ref z36, .int (bI z37), .int (nI z38), .int (nI z39), .int (nI z40), .int (nI z41), .int (nI z42), .int (nI z43), .int (nI z44), .int (nI z45), .int (nI z46), .ref z47, .ref z48, .ref z49, .ref z50, .ref z51, .ref z52, .int z53, .ref z54])) :: (z20, .inl (g.2.1 1, 225, .inl (bA Pj))) :: R) (fun r u => (nI z19) = r ∧ (o, .inr (11, [.int (nI 0), .int (nI z1), .int z2, .int (nI z3), .ref z4, .ref z5, .int (bI z6), .ref z7, .ref z8, .int (nI z9), .int (nI z10), .int (nI z11), .int (nI z12), .int (nI z13), .int (nI z14), .int (nI z15), .long (lN z16), .ref z17, .int z18, .int (nI 0), .ref z20, .ref z21, .ref z22, .ref z23, .ref z24, .ref z25, .int (nI z26), .int (nI z27), .int (nI z28), .int z29, .int (nI z30), .int (nI z31), .ref z32, .ref z33, .ref z34, .ref z35, .ref z36, .int (bI z37), .int (nI z38), .int (nI z39), .int (nI z40), .int (nI z41), .int (nI z42), .int (nI z43), .int (nI z44), .int (nI z45), .int (nI z46), .ref z47, .ref z48, .ref z49, .ref z50, .ref z51, .ref z52, .int z53, .ref z54])) :: (z20, .inl (g.2.1 1, 225, .inl (bA (fun _ => false)))) :: R = u) := by
  refine gEnterQ (cc := cX14_part) (maxL := 3) (ret := (some (.int))) (by decide +kernel) rfl (Nat.le_of_ble_eq_true rfl) ?_
  intro p e s m below meth c F hG hW ls hl
  have hS : va_S (gA g) s.heap s.heap [] := va_S.rf
  have hl : lv_has ls 3 [(0, .ref o)] := hl
  have hW : gW g ((o, .inr (11, [.int (nI z0), .int (nI z1), .int z2, .int (nI z3), .ref z4, .ref z5, .int (bI z6), .ref z7, .ref z8, .int (nI z9), .int (nI z10), .int (nI z11), .int (nI z12), .int (nI z13), .int (nI z14), .int (nI z15), .long (lN z16), .ref z17, .int z18, .int (nI z19), .ref z20, .ref z21, .ref z22, .ref z23, .ref z24, .ref z25, .int (nI z26), .int (nI z27), .int (nI z28), .int z29, .int (nI z30), .int (nI z31), .ref z32, .ref z33, .ref z34, .ref z35, .ref z36, .int (bI z37), .int (nI z38), .int (nI z39), .int (nI z40), .int (nI z41), .int (nI z42), .int (nI z43), .int (nI z44), .int (nI z45), .int (nI z46), .ref z47, .ref z48, .ref z49, .ref z50, .ref z51, .ref z52, .int z53, .ref z54])) :: (z20, .inl (g.2.1 1, 225, .inl (bA Pj))) :: R) s.heap := hW
  refine lv_aload_n F.1 F.2.1 dX14_part_0 rfl (lv_at hl 0 rfl) ?_
  refine lv_iconst (v := nI 0) F.1 F.2.1 dX14_part_1 rfl ?_
  refine gPut (w2 := (o, .inr (11, [.int (nI 0), .int (nI z1), .int z2, .int (nI z3), .ref z4, .ref z5, .int (bI z6), .ref z7, .ref z8, .int (nI z9), .int (nI z10), .int (nI z11), .int (nI z12), .int (nI z13), .int (nI z14), .int (nI z15), .long (lN z16), .ref z17, .int z18, .int (nI z19), .ref z20, .ref z21, .ref z22, .ref z23, .ref z24, .ref z25, .int (nI z26), .int (nI z27), .int (nI z28), .int z29, .int (nI z30), .int (nI z31), .ref z32, .ref z33, .ref z34, .ref z35, .ref z36, .int (bI z37), .int (nI z38), .int (nI z39), .int (nI z40), .int (nI z41), .int (nI z42), .int (nI z43), .int (nI z44), .int (nI z45), .int (nI z46), .ref z47, .ref z48, .ref z49, .ref z50, .ref z51, .ref z52, .int z53, .ref z54])) :: (z20, .inl (g.2.1 1, 225, .inl (bA Pj))) :: R) F hS hG hW nX14_part_X14 0 rfl rfl 0 (by decide) tyX14 tyX14_ok nmX14 mX14_part_1 rfl rfl rfl rfl (Nat.le_of_ble_eq_true rfl) rfl dX14_part_2 (fun H locs hW hS => ?_)
  refine lv_aload_n F.1 F.2.1 dX14_part_5 rfl (lv_at hl 0 rfl) ?_
  refine gGet F hG hW nX14_part_X14 0 rfl rfl 19 (by decide) mX14_part_2 rfl dX14_part_6 ?_
  refine lv_istore_n (lv' := [(1, .int (nI z19)), (0, .ref o)]) F.1 F.2.1 dX14_part_9 rfl hl (by decide) rfl (fun ls hl => ?_)
  refine lv_aload_n F.1 F.2.1 dX14_part_10 rfl (lv_at hl 1 rfl) ?_
  refine lv_iconst (v := nI 0) F.1 F.2.1 dX14_part_11 rfl ?_
  refine gPut (w2 := (o, .inr (11, [.int (nI 0), .int (nI z1), .int z2, .int (nI z3), .ref z4, .ref z5, .int (bI z6), .ref z7, .ref z8, .int (nI z9), .int (nI z10), .int (nI z11), .int (nI z12), .int (nI z13), .int (nI z14), .int (nI z15), .long (lN z16), .ref z17, .int z18, .int (nI 0), .ref z20, .ref z21, .ref z22, .ref z23, .ref z24, .ref z25, .int (nI z26), .int (nI z27), .int (nI z28), .int z29, .int (nI z30), .int (nI z31), .ref z32, .ref z33, .ref z34, .ref z35, .ref z36, .int (bI z37), .int (nI z38), .int (nI z39), .int (nI z40), .int (nI z41), .int (nI z42), .int (nI z43), .int (nI z44), .int (nI z45), .int (nI z46), .ref z47, .ref z48, .ref z49, .ref z50, .ref z51, .ref z52, .int z53, .ref z54])) :: (z20, .inl (g.2.1 1, 225, .inl (bA Pj))) :: R) F hS hG hW nX14_part_X14 0 rfl rfl 19 (by decide) tyX14 tyX14_ok nmX14 mX14_part_2 rfl rfl rfl rfl (Nat.le_of_ble_eq_true rfl) rfl dX14_part_12 (fun H locs hW hS => ?_)
  refine lv_iconst (v := nI 0) F.1 F.2.1 dX14_part_15 rfl ?_
  refine lv_istore_n (lv' := [(2, .int (nI 0)), (1, .int (nI z19)), (0, .ref o)]) F.1 F.2.1 dX14_part_16 rfl hl (by decide) rfl (fun ls hl => ?_)
  have L_17 : ∀ (fz : Nat), ∀ (i : Nat) (Pj : Nat → Bool) (hi : i ≤ 225) (hf : ∀ j, j < i → Pj j = false) (hm_17 : 225 - i < fz) (H : Heap) (locs : List Loc) (ls : Array Slot) (hW : gW g ((o, .inr (11, [.int (nI 0), .int (nI z1), .int z2, .int (nI z3), .ref z4, .ref z5, .int (bI z6), .ref z7, .ref z8, .int (nI z9), .int (nI z10), .int (nI z11), .int (nI z12), .int (nI z13), .int (nI z14), .int (nI z15), .long (lN z16), .ref z17, .int z18, .int (nI 0), .ref z20, .ref z21, .ref z22, .ref z23, .ref z24, .ref z25, .int (nI z26), .int (nI z27), .int (nI z28), .int z29, .int (nI z30), .int (nI z31), .ref z32, .ref z33, .ref z34, .ref z35, .ref z36, .int (bI z37), .int (nI z38), .int (nI z39), .int (nI z40), .int (nI z41), .int (nI z42), .int (nI z43), .int (nI z44), .int (nI z45), .int (nI z46), .ref z47, .ref z48, .ref z49, .ref z50, .ref z51, .ref z52, .int z53, .ref z54])) :: (z20, .inl (g.2.1 1, 225, .inl (bA Pj))) :: R) H) (hS : va_S (gA g) s.heap H locs) (hl : lv_has ls 3 [(0, .ref o), (1, .int (nI z19)), (2, .int (nI i))]), W p l e (headSpec wsX14_part rm_X14_part).room s m ([.ref o] : List Value).toArray below meth c H locs 0 0 (MQ below (va_Qi (fun r u => (nI z19) = r ∧ (o, .inr (11, [.int (nI 0), .int (nI z1), .int z2, .int (nI z3), .ref z4, .ref z5, .int (bI z6), .ref z7, .ref z8, .int (nI z9), .int (nI z10), .int (nI z11), .int (nI z12), .int (nI z13), .int (nI z14), .int (nI z15), .long (lN z16), .ref z17, .int z18, .int (nI 0), .ref z20, .ref z21, .ref z22, .ref z23, .ref z24, .ref z25, .int (nI z26), .int (nI z27), .int (nI z28), .int z29, .int (nI z30), .int (nI z31), .ref z32, .ref z33, .ref z34, .ref z35, .ref z36, .int (bI z37), .int (nI z38), .int (nI z39), .int (nI z40), .int (nI z41), .int (nI z42), .int (nI z43), .int (nI z44), .int (nI z45), .int (nI z46), .ref z47, .ref z48, .ref z49, .ref z50, .ref z51, .ref z52, .int z53, .ref z54])) :: (z20, .inl (g.2.1 1, 225, .inl (bA (fun _ => false)))) :: R = u) (fun u t => gW g u t.heap) (gA g)) ([.ref o] : List Value).toArray s 0 0 (gA g)) (F0 m 17 ls []) := by
    intro fz
    induction fz with
    | zero =>
      intros _ _ _ _ hm_17
      exact absurd hm_17 (Nat.not_lt_zero _)
    | succ fz ih_17 =>
      intro i Pj hi hf hm_17 H locs ls hW hS hl
      refine lv_iload_n F.1 F.2.1 dX14_part_17 rfl (lv_at hl 2 rfl) ?_
      refine lv_sipush (v := nI 225) F.1 F.2.1 dX14_part_18 (by decide) ?_
      refine gGe (tgt := 37) F (by omega) (by omega) dX14_part_21 (by decide) (fun c_21 => ?_) (fun c_21 => ?_)
      · have hW := gW.arr (f' := bA (fun _ => false)) hW 1 rfl (fun j hj => by rw [show bA Pj j = bI (Pj j) from rfl, hf j (by omega)]; rfl) rfl
        have hW : gW g ((o, .inr (11, [.int (nI 0), .int (nI z1), .int z2, .int (nI z3), .ref z4, .ref z5, .int (bI z6), .ref z7, .ref z8, .int (nI z9), .int (nI z10), .int (nI z11), .int (nI z12), .int (nI z13), .int (nI z14), .int (nI z15), .long (lN z16), .ref z17, .int z18, .int (nI 0), .ref z20, .ref z21, .ref z22, .ref z23, .ref z24, .ref z25, .int (nI z26), .int (nI z27), .int (nI z28), .int z29, .int (nI z30), .int (nI z31), .ref z32, .ref z33, .ref z34, .ref z35, .ref z36, .int (bI z37), .int (nI z38), .int (nI z39), .int (nI z40), .int (nI z41), .int (nI z42), .int (nI z43), .int (nI z44), .int (nI z45), .int (nI z46), .ref z47, .ref z48, .ref z49, .ref z50, .ref z51, .ref z52, .int z53, .ref z54])) :: (z20, .inl (g.2.1 1, 225, .inl (bA (fun _ => false)))) :: R) _ := hW
        refine lv_iload_n F.1 F.2.1 dX14_part_37 rfl (lv_at hl 1 rfl) ?_
        refine gRi F hW hS dX14_part_38 ?_
        exact ⟨rfl, rfl⟩
      · refine lv_aload_n F.1 F.2.1 dX14_part_24 rfl (lv_at hl 0 rfl) ?_
        refine gGet F hG hW nX14_part_X14 0 rfl rfl 20 (by decide) mX14_part_3 rfl dX14_part_25 ?_
        refine lv_iload_n F.1 F.2.1 dX14_part_28 rfl (lv_at hl 2 rfl) ?_
        refine lv_iconst (v := nI 0) F.1 F.2.1 dX14_part_29 rfl ?_
        refine gTop (y := bI false) rfl ?_
        refine gStZB (w2 := (o, .inr (11, [.int (nI 0), .int (nI z1), .int z2, .int (nI z3), .ref z4, .ref z5, .int (bI z6), .ref z7, .ref z8, .int (nI z9), .int (nI z10), .int (nI z11), .int (nI z12), .int (nI z13), .int (nI z14), .int (nI z15), .long (lN z16), .ref z17, .int z18, .int (nI 0), .ref z20, .ref z21, .ref z22, .ref z23, .ref z24, .ref z25, .int (nI z26), .int (nI z27), .int (nI z28), .int z29, .int (nI z30), .int (nI z31), .ref z32, .ref z33, .ref z34, .ref z35, .ref z36, .int (bI z37), .int (nI z38), .int (nI z39), .int (nI z40), .int (nI z41), .int (nI z42), .int (nI z43), .int (nI z44), .int (nI z45), .int (nI z46), .ref z47, .ref z48, .ref z49, .ref z50, .ref z51, .ref z52, .int z53, .ref z54])) :: (z20, .inl (g.2.1 1, 225, .inl (bA (updB Pj i false)))) :: R) F hG hW 1 rfl (by omega) (by decide) hS rfl dX14_part_30 (fun H locs hW hS => ?_)
        refine lv_iinc (v := nI (i + 1)) (lv' := [(2, .int (nI (i + 1))), (0, .ref o), (1, .int (nI z19))]) F.1 F.2.1 dX14_part_31 hl (k := 2) rfl (nI_add i 1) (by decide) rfl (fun ls hl => ?_)
        refine lv_goto (tgt := 17) F.1 F.2.1 dX14_part_34 (by decide) ?_
        exact ih_17 (i + 1) (updB Pj i false) (by omega) (fun j hj => (Nat.lt_succ_iff_lt_or_eq.mp hj).elim (fun q => (updB_n (Nat.ne_of_lt q)).trans (hf j q)) (fun q => by rw [q]; exact updB_s _ _ _)) (by omega) _ _ _ hW hS (lv_sub hl [1, 2, 0] rfl)
  exact L_17 _ 0 Pj (by omega) (fun j hj => absurd hj (Nat.not_lt_zero j)) (Nat.lt_succ_self _) _ _ _ hW hS (lv_sub hl [2, 1, 0] rfl)

abbrev rm_X14_pairs : Room := ({ frames := 0, cells := 0, slots := 0, locals := 0 } : Room)
theorem mX14_pairs_1 : Cond.fieldLink RX14 74 "StepperHeartsModel" "isSecond" "[Z" ∈ wsX14_pairs := List.mem_of_getElem? (i := 1) rfl
theorem nX14_pairs_X14 : ∀ w ∈ wsX140, w ∈ wsX14_pairs := fun _ h => List.mem_cons_of_mem _ (List.mem_append_left _ (List.mem_append_right _ (h)))
theorem mX14_pairs_2 : Cond.fieldLink RX14 16 "StepperHeartsModel" "p" "LStepperHeartsModel$Program;" ∈ wsX14_pairs := List.mem_of_getElem? (i := 2) rfl
theorem fX14_pairs_186 : (yX14_pairs.cls, 186, "StepperHeartsModel$Program", "orders", "I", "StepperHeartsModel") ∈ gNF := List.mem_of_getElem? (i := 22) rfl
theorem nX14_pairs_X12 : ∀ w ∈ wsX120, w ∈ wsX14_pairs := fun _ h => List.mem_cons_of_mem _ (List.mem_append_right _ (h))
theorem fX14_pairs_192 : (yX14_pairs.cls, 192, "StepperHeartsModel$Program", "isMarked", "[Z", "StepperHeartsModel") ∈ gNF := List.mem_of_getElem? (i := 30) rfl
theorem mX14_pairs_3 : Cond.fieldLink RX14 70 "StepperHeartsModel" "isJoin" "[Z" ∈ wsX14_pairs := List.mem_of_getElem? (i := 3) rfl
theorem fX14_pairs_201 : (yX14_pairs.cls, 201, "StepperHeartsModel$Program", "kind", "[I", "StepperHeartsModel") ∈ gNF := List.mem_of_getElem? (i := 24) rfl
set_option maxRecDepth 100000 in
set_option maxHeartbeats 4000000 in
theorem c_X14_pairs (g : gC) (l : Launch) {o : Nat} {pk : Nat} {pv : Nat} {pl : Nat} {pa : Nat} {pt : Nat} {pm : Nat} {pi : Nat} {z0 : Nat} {z1 : Nat} {z2 : Int32} {z3 : Nat} {z4 : Nat} {z5 : Nat} {z6 : Bool} {z7 : Nat} {z8 : Nat} {z9 : Nat} {z10 : Nat} {z11 : Nat} {z12 : Nat} {z13 : Nat} {z14 : Nat} {z15 : Nat} {z16 : Nat} {z17 : Nat} {z18 : Int32} {z19 : Nat} {z20 : Nat} {z21 : Nat} {z22 : Nat} {z23 : Nat} {z24 : Nat} {z25 : Nat} {z26 : Nat} {z27 : Nat} {z28 : Nat} {z29 : Int32} {z30 : Nat} {z31 : Nat} {z32 : Nat} {z33 : Nat} {z34 : Nat} {z35 : Nat} {z36 : Nat} {z37 : Bool} {z38 : Nat} {z39 : Nat} {z40 : Nat} {z41 : Nat} {z42 : Nat} {z43 : Nat} {z44 : Nat} {z45 : Nat} {z46 : Nat} {z47 : Nat} {z48 : Nat} {z49 : Nat} {z50 : Nat} {z51 : Nat} {z52 : Nat} {z53 : Int32} {z54 : Nat} {n : Nat} {mm : Nat} {kdm : Nat → Nat} {kd : Nat → Nat} {mkm : Nat → Bool} {mk : Nat → Bool} {Pj : Nat → Bool} {sec : Nat → Bool} {R : va_W} (hn : n ≤ 100) (hK : ∀ j, j < n → kd j < 15) (hak : ∀ j, j < n → kdm j = kd j) (ham : ∀ j, j < n → mkm j = mk j) : cI g l yX14_pairs wsX14_pairs rm_X14_pairs 0 0 [.ref o] ((o, .inr (11, [.int (nI z0), .int (nI z1), .int z2, .int (nI z3), .ref z4, .ref z5, .int (bI z6), .ref z7, .ref z8, .int (nI z9), .int (nI z10), .int (nI z11), .int (nI z12), .int (nI z13), .int (nI z14), .int (nI z15), .long (lN z16), .ref z17, .int z18, .int (nI z19), .ref z20, .ref z21, .ref z22, .ref z23, .ref z24, .ref z25, .int (nI z26), .int (nI z27), .int (nI z28), .int z29, .int (nI z30), .int (nI z31), .ref z32, .ref z33, .ref z34, .ref z35, .ref z36, .int (bI z37), .int (nI z38), .int (nI z39), .int (nI z40), .int (nI z41), .int (nI z42), .int (nI z43), .int (nI z44), .int (nI z45), .int (nI z46), .ref z47, .ref z48, .ref z49, .ref z50, .ref z51, .ref z52, .int z53, .ref z54])) :: (z21, .inl (g.2.1 1, 101, .inl (bA sec))) :: (z20, .inl (g.2.1 1, 225, .inl (bA Pj))) :: (z4, .inr (9, [.int (nI n), .int (nI mm), .ref pk, .ref pv, .ref pl, .ref pa, .ref pt, .ref pm, .ref pi])) :: (pk, .inl (g.2.1 0, 100, .inl (nA kdm))) :: (pi, .inl (g.2.1 1, 101, .inl (bA mkm))) :: R) (fun r u => ∃ (sec9 : Nat → Bool), (nI (cntB (secS (canJ n kd mk Pj none)) n)) = r ∧ (o, .inr (11, [.int (nI z0), .int (nI z1), .int z2, .int (nI z3), .ref z4, .ref z5, .int (bI z6), .ref z7, .ref z8, .int (nI z9), .int (nI z10), .int (nI z11), .int (nI z12), .int (nI z13), .int (nI z14), .int (nI z15), .long (lN z16), .ref z17, .int z18, .int (nI z19), .ref z20, .ref z21, .ref z22, .ref z23, .ref z24, .ref z25, .int (nI z26), .int (nI z27), .int (nI z28), .int z29, .int (nI z30), .int (nI z31), .ref z32, .ref z33, .ref z34, .ref z35, .ref z36, .int (bI z37), .int (nI z38), .int (nI z39), .int (nI z40), .int (nI z41), .int (nI z42), .int (nI z43), .int (nI z44), .int (nI z45), .int (nI z46), .ref z47, .ref z48, .ref z49, .ref z50, .ref z51, .ref z52, .int z53, .ref z54])) :: (z21, .inl (g.2.1 1, 101, .inl (bA sec9))) :: (z20, .inl (g.2.1 1, 225, .inl (bA Pj))) :: (z4, .inr (9, [.int (nI n), .int (nI mm), .ref pk, .ref pv, .ref pl, .ref pa, .ref pt, .ref pm, .ref pi])) :: (pk, .inl (g.2.1 0, 100, .inl (nA kdm))) :: (pi, .inl (g.2.1 1, 101, .inl (bA mkm))) :: R = u ∧ (∀ j, j < n → sec9 j = secS (canJ n kd mk Pj none) j)) := by
  refine gEnterQ (cc := cX14_pairs) (maxL := 3) (ret := (some (.int))) (by decide +kernel) rfl (Nat.le_of_ble_eq_true rfl) ?_
  intro p e s m below meth c F hG hW ls hl
  have hS : va_S (gA g) s.heap s.heap [] := va_S.rf
  have hl : lv_has ls 3 [(0, .ref o)] := hl
  have hW : gW g ((o, .inr (11, [.int (nI z0), .int (nI z1), .int z2, .int (nI z3), .ref z4, .ref z5, .int (bI z6), .ref z7, .ref z8, .int (nI z9), .int (nI z10), .int (nI z11), .int (nI z12), .int (nI z13), .int (nI z14), .int (nI z15), .long (lN z16), .ref z17, .int z18, .int (nI z19), .ref z20, .ref z21, .ref z22, .ref z23, .ref z24, .ref z25, .int (nI z26), .int (nI z27), .int (nI z28), .int z29, .int (nI z30), .int (nI z31), .ref z32, .ref z33, .ref z34, .ref z35, .ref z36, .int (bI z37), .int (nI z38), .int (nI z39), .int (nI z40), .int (nI z41), .int (nI z42), .int (nI z43), .int (nI z44), .int (nI z45), .int (nI z46), .ref z47, .ref z48, .ref z49, .ref z50, .ref z51, .ref z52, .int z53, .ref z54])) :: (z21, .inl (g.2.1 1, 101, .inl (bA sec))) :: (z20, .inl (g.2.1 1, 225, .inl (bA Pj))) :: (z4, .inr (9, [.int (nI n), .int (nI mm), .ref pk, .ref pv, .ref pl, .ref pa, .ref pt, .ref pm, .ref pi])) :: (pk, .inl (g.2.1 0, 100, .inl (nA kdm))) :: (pi, .inl (g.2.1 1, 101, .inl (bA mkm))) :: R) s.heap := hW
  refine lv_iconst (v := nI 0) F.1 F.2.1 dX14_pairs_0 rfl ?_
  refine lv_istore_n (lv' := [(1, .int (nI 0)), (0, .ref o)]) F.1 F.2.1 dX14_pairs_1 rfl hl (by decide) rfl (fun ls hl => ?_)
  refine lv_aload_n F.1 F.2.1 dX14_pairs_2 rfl (lv_at hl 1 rfl) ?_
  refine gGet F hG hW nX14_pairs_X14 0 rfl rfl 21 (by decide) mX14_pairs_1 rfl dX14_pairs_3 ?_
  refine lv_iconst (v := nI 0) F.1 F.2.1 dX14_pairs_6 rfl ?_
  refine lv_iconst (v := nI 0) F.1 F.2.1 dX14_pairs_7 rfl ?_
  refine gTop (y := bI false) rfl ?_
  refine gStZB (w2 := (o, .inr (11, [.int (nI z0), .int (nI z1), .int z2, .int (nI z3), .ref z4, .ref z5, .int (bI z6), .ref z7, .ref z8, .int (nI z9), .int (nI z10), .int (nI z11), .int (nI z12), .int (nI z13), .int (nI z14), .int (nI z15), .long (lN z16), .ref z17, .int z18, .int (nI z19), .ref z20, .ref z21, .ref z22, .ref z23, .ref z24, .ref z25, .int (nI z26), .int (nI z27), .int (nI z28), .int z29, .int (nI z30), .int (nI z31), .ref z32, .ref z33, .ref z34, .ref z35, .ref z36, .int (bI z37), .int (nI z38), .int (nI z39), .int (nI z40), .int (nI z41), .int (nI z42), .int (nI z43), .int (nI z44), .int (nI z45), .int (nI z46), .ref z47, .ref z48, .ref z49, .ref z50, .ref z51, .ref z52, .int z53, .ref z54])) :: (z21, .inl (g.2.1 1, 101, .inl (bA (updB sec 0 false)))) :: (z20, .inl (g.2.1 1, 225, .inl (bA Pj))) :: (z4, .inr (9, [.int (nI n), .int (nI mm), .ref pk, .ref pv, .ref pl, .ref pa, .ref pt, .ref pm, .ref pi])) :: (pk, .inl (g.2.1 0, 100, .inl (nA kdm))) :: (pi, .inl (g.2.1 1, 101, .inl (bA mkm))) :: R) F hG hW 1 rfl (by omega) (by decide) hS rfl dX14_pairs_8 (fun H locs hW hS => ?_)
  refine lv_iconst (v := nI 1) F.1 F.2.1 dX14_pairs_9 rfl ?_
  refine lv_istore_n (lv' := [(2, .int (nI 1)), (1, .int (nI 0)), (0, .ref o)]) F.1 F.2.1 dX14_pairs_10 rfl hl (by decide) rfl (fun ls hl => ?_)
  have L_11 : ∀ (fz : Nat), ∀ (k : Nat) (cn : Nat) (sec : Nat → Bool) (hk : 1 ≤ k ∧ (k ≤ n ∨ k = 1)) (hs : ∀ i, i < k → sec i = secS (canJ n kd mk Pj none) i) (hc : cn = cntB (secS (canJ n kd mk Pj none)) k) (hm_11 : 101 - k < fz) (H : Heap) (locs : List Loc) (ls : Array Slot) (hW : gW g ((o, .inr (11, [.int (nI z0), .int (nI z1), .int z2, .int (nI z3), .ref z4, .ref z5, .int (bI z6), .ref z7, .ref z8, .int (nI z9), .int (nI z10), .int (nI z11), .int (nI z12), .int (nI z13), .int (nI z14), .int (nI z15), .long (lN z16), .ref z17, .int z18, .int (nI z19), .ref z20, .ref z21, .ref z22, .ref z23, .ref z24, .ref z25, .int (nI z26), .int (nI z27), .int (nI z28), .int z29, .int (nI z30), .int (nI z31), .ref z32, .ref z33, .ref z34, .ref z35, .ref z36, .int (bI z37), .int (nI z38), .int (nI z39), .int (nI z40), .int (nI z41), .int (nI z42), .int (nI z43), .int (nI z44), .int (nI z45), .int (nI z46), .ref z47, .ref z48, .ref z49, .ref z50, .ref z51, .ref z52, .int z53, .ref z54])) :: (z21, .inl (g.2.1 1, 101, .inl (bA sec))) :: (z20, .inl (g.2.1 1, 225, .inl (bA Pj))) :: (z4, .inr (9, [.int (nI n), .int (nI mm), .ref pk, .ref pv, .ref pl, .ref pa, .ref pt, .ref pm, .ref pi])) :: (pk, .inl (g.2.1 0, 100, .inl (nA kdm))) :: (pi, .inl (g.2.1 1, 101, .inl (bA mkm))) :: R) H) (hS : va_S (gA g) s.heap H locs) (hl : lv_has ls 3 [(0, .ref o), (1, .int (nI cn)), (2, .int (nI k))]), W p l e (headSpec wsX14_pairs rm_X14_pairs).room s m ([.ref o] : List Value).toArray below meth c H locs 0 0 (MQ below (va_Qi (fun r u => ∃ (sec9 : Nat → Bool), (nI (cntB (secS (canJ n kd mk Pj none)) n)) = r ∧ (o, .inr (11, [.int (nI z0), .int (nI z1), .int z2, .int (nI z3), .ref z4, .ref z5, .int (bI z6), .ref z7, .ref z8, .int (nI z9), .int (nI z10), .int (nI z11), .int (nI z12), .int (nI z13), .int (nI z14), .int (nI z15), .long (lN z16), .ref z17, .int z18, .int (nI z19), .ref z20, .ref z21, .ref z22, .ref z23, .ref z24, .ref z25, .int (nI z26), .int (nI z27), .int (nI z28), .int z29, .int (nI z30), .int (nI z31), .ref z32, .ref z33, .ref z34, .ref z35, .ref z36, .int (bI z37), .int (nI z38), .int (nI z39), .int (nI z40), .int (nI z41), .int (nI z42), .int (nI z43), .int (nI z44), .int (nI z45), .int (nI z46), .ref z47, .ref z48, .ref z49, .ref z50, .ref z51, .ref z52, .int z53, .ref z54])) :: (z21, .inl (g.2.1 1, 101, .inl (bA sec9))) :: (z20, .inl (g.2.1 1, 225, .inl (bA Pj))) :: (z4, .inr (9, [.int (nI n), .int (nI mm), .ref pk, .ref pv, .ref pl, .ref pa, .ref pt, .ref pm, .ref pi])) :: (pk, .inl (g.2.1 0, 100, .inl (nA kdm))) :: (pi, .inl (g.2.1 1, 101, .inl (bA mkm))) :: R = u ∧ (∀ j, j < n → sec9 j = secS (canJ n kd mk Pj none) j)) (fun u t => gW g u t.heap) (gA g)) ([.ref o] : List Value).toArray s 0 0 (gA g)) (F0 m 11 ls []) := by
    intro fz
    induction fz with
    | zero =>
      intros _ _ _ _ _ _ hm_11
      exact absurd hm_11 (Nat.not_lt_zero _)
    | succ fz ih_11 =>
      intro k cn sec hk hs hc hm_11 H locs ls hW hS hl
      refine lv_iload_n F.1 F.2.1 dX14_pairs_11 rfl (lv_at hl 2 rfl) ?_
      refine lv_aload_n F.1 F.2.1 dX14_pairs_12 rfl (lv_at hl 0 rfl) ?_
      refine gGet F hG hW nX14_pairs_X14 0 rfl rfl 4 (by decide) mX14_pairs_2 rfl dX14_pairs_13 ?_
      refine gGetN F hG hW nX14_pairs_X12 3 rfl rfl 0 (by decide) fX14_pairs_186 rfl dX14_pairs_16 ?_
      refine gGe (tgt := 111) F (by omega) (by omega) dX14_pairs_19 (by decide) (fun c_19 => ?_) (fun c_19 => ?_)
      · refine lv_iload_n F.1 F.2.1 dX14_pairs_111 rfl (lv_at hl 1 rfl) ?_
        refine gRi F hW hS dX14_pairs_112 ?_
        have hc9 : cn = cntB (secS (canJ n kd mk Pj none)) n := by
          rcases Nat.lt_or_ge n k with q | q
          · rw [hc, cntB_n k (by omega)]
          · rw [hc, show k = n by omega]
        exact ⟨sec, by rw [hc9], rfl, fun j hj => hs j (by omega)⟩
      · have c_19' : k < n := by omega
        have k1 := hK (k - 1) (by omega)
        have k2 := hK k c_19'
        refine lv_aload_n F.1 F.2.1 dX14_pairs_22 rfl (lv_at hl 0 rfl) ?_
        refine gGet F hG hW nX14_pairs_X14 0 rfl rfl 21 (by decide) mX14_pairs_1 rfl dX14_pairs_23 ?_
        refine lv_iload_n F.1 F.2.1 dX14_pairs_26 rfl (lv_at hl 2 rfl) ?_
        refine lv_aload_n F.1 F.2.1 dX14_pairs_27 rfl (lv_at hl 0 rfl) ?_
        refine gGet F hG hW nX14_pairs_X14 0 rfl rfl 21 (by decide) mX14_pairs_1 rfl dX14_pairs_28 ?_
        refine lv_iload_n F.1 F.2.1 dX14_pairs_31 rfl (lv_at hl 2 rfl) ?_
        refine lv_iconst (v := nI 1) F.1 F.2.1 dX14_pairs_32 rfl ?_
        refine gSub F (by omega) dX14_pairs_33 ?_
        refine gLdZ F hG hW 1 rfl (by omega) (by decide) dX14_pairs_34 ?_
        refine gTop (y := bI (sec (k - 1))) rfl ?_
        refine gIfNeB (tgt := 86) F dX14_pairs_35 (by decide) (fun c_35 => ?_) (fun c_35 => ?_)
        · refine lv_iconst (v := nI 0) F.1 F.2.1 dX14_pairs_86 rfl ?_
          refine gTop (y := bI false) rfl ?_
          refine gStZB (w2 := (o, .inr (11, [.int (nI z0), .int (nI z1), .int z2, .int (nI z3), .ref z4, .ref z5, .int (bI z6), .ref z7, .ref z8, .int (nI z9), .int (nI z10), .int (nI z11), .int (nI z12), .int (nI z13), .int (nI z14), .int (nI z15), .long (lN z16), .ref z17, .int z18, .int (nI z19), .ref z20, .ref z21, .ref z22, .ref z23, .ref z24, .ref z25, .int (nI z26), .int (nI z27), .int (nI z28), .int z29, .int (nI z30), .int (nI z31), .ref z32, .ref z33, .ref z34, .ref z35, .ref z36, .int (bI z37), .int (nI z38), .int (nI z39), .int (nI z40), .int (nI z41), .int (nI z42), .int (nI z43), .int (nI z44), .int (nI z45), .int (nI z46), .ref z47, .ref z48, .ref z49, .ref z50, .ref z51, .ref z52, .int z53, .ref z54])) :: (z21, .inl (g.2.1 1, 101, .inl (bA (updB sec k false)))) :: (z20, .inl (g.2.1 1, 225, .inl (bA Pj))) :: (z4, .inr (9, [.int (nI n), .int (nI mm), .ref pk, .ref pv, .ref pl, .ref pa, .ref pt, .ref pm, .ref pi])) :: (pk, .inl (g.2.1 0, 100, .inl (nA kdm))) :: (pi, .inl (g.2.1 1, 101, .inl (bA mkm))) :: R) F hG hW 1 rfl (by omega) (by decide) hS rfl dX14_pairs_87 (fun H locs hW hS => ?_)
          have hv9 : secS (canJ n kd mk Pj none) k = false := by rw [secS_1 (by omega), ← hs (k - 1) (by omega), c_35]; rfl
          refine lv_iload_n F.1 F.2.1 dX14_pairs_88 rfl (lv_at hl 1 rfl) ?_
          refine lv_aload_n F.1 F.2.1 dX14_pairs_89 rfl (lv_at hl 0 rfl) ?_
          refine gGet F hG hW nX14_pairs_X14 0 rfl rfl 21 (by decide) mX14_pairs_1 rfl dX14_pairs_90 ?_
          refine lv_iload_n F.1 F.2.1 dX14_pairs_93 rfl (lv_at hl 2 rfl) ?_
          refine gLdZ F hG hW 1 rfl (by omega) (by decide) dX14_pairs_94 ?_
          refine gTop (y := bI ((updB sec k false) k)) rfl ?_
          refine gTop (congrArg bI (updB_s _ _ _)) ?_
          refine gIfEqB (tgt := 102) F dX14_pairs_95 (by decide) (fun c_95 => ?_) (fun q => by simp at q)
          refine lv_iconst (v := nI 0) F.1 F.2.1 dX14_pairs_102 rfl ?_
          refine gAdd F dX14_pairs_103 ?_
          refine lv_istore_n (lv' := [(1, .int (nI (cn + 0))), (0, .ref o), (2, .int (nI k))]) F.1 F.2.1 dX14_pairs_104 rfl hl (by decide) rfl (fun ls hl => ?_)
          refine lv_iinc (v := nI (k + 1)) (lv' := [(2, .int (nI (k + 1))), (1, .int (nI (cn + 0))), (0, .ref o)]) F.1 F.2.1 dX14_pairs_105 hl (k := 2) rfl (nI_add k 1) (by decide) rfl (fun ls hl => ?_)
          refine lv_goto (tgt := 11) F.1 F.2.1 dX14_pairs_108 (by decide) ?_
          exact ih_11 (k + 1) (cn + 0) (updB sec k false) (by omega) (fun i hi => (Nat.lt_succ_iff_lt_or_eq.mp hi).elim (fun q => (updB_n (Nat.ne_of_lt q)).trans (hs i q)) (fun q => by rw [q, updB_s]; exact hv9.symm)) (by rw [cntB, hv9, hc]; rfl) (by omega) _ _ _ hW hS (lv_sub hl [2, 1, 0] rfl)
        · refine lv_aload_n F.1 F.2.1 dX14_pairs_38 rfl (lv_at hl 0 rfl) ?_
          refine gGet F hG hW nX14_pairs_X14 0 rfl rfl 4 (by decide) mX14_pairs_2 rfl dX14_pairs_39 ?_
          refine gGetN F hG hW nX14_pairs_X12 3 rfl rfl 8 (by decide) fX14_pairs_192 rfl dX14_pairs_42 ?_
          refine lv_iload_n F.1 F.2.1 dX14_pairs_45 rfl (lv_at hl 2 rfl) ?_
          refine gLdZ F hG hW 5 rfl (by omega) (by decide) dX14_pairs_46 ?_
          refine gTop (y := bI (mkm k)) rfl ?_
          refine gTop (y := bI (mk k)) (congrArg bI (ham k (by omega))) ?_
          refine gIfNeB (tgt := 86) F dX14_pairs_47 (by decide) (fun c_47 => ?_) (fun c_47 => ?_)
          · refine lv_iconst (v := nI 0) F.1 F.2.1 dX14_pairs_86 rfl ?_
            refine gTop (y := bI false) rfl ?_
            refine gStZB (w2 := (o, .inr (11, [.int (nI z0), .int (nI z1), .int z2, .int (nI z3), .ref z4, .ref z5, .int (bI z6), .ref z7, .ref z8, .int (nI z9), .int (nI z10), .int (nI z11), .int (nI z12), .int (nI z13), .int (nI z14), .int (nI z15), .long (lN z16), .ref z17, .int z18, .int (nI z19), .ref z20, .ref z21, .ref z22, .ref z23, .ref z24, .ref z25, .int (nI z26), .int (nI z27), .int (nI z28), .int z29, .int (nI z30), .int (nI z31), .ref z32, .ref z33, .ref z34, .ref z35, .ref z36, .int (bI z37), .int (nI z38), .int (nI z39), .int (nI z40), .int (nI z41), .int (nI z42), .int (nI z43), .int (nI z44), .int (nI z45), .int (nI z46), .ref z47, .ref z48, .ref z49, .ref z50, .ref z51, .ref z52, .int z53, .ref z54])) :: (z21, .inl (g.2.1 1, 101, .inl (bA (updB sec k false)))) :: (z20, .inl (g.2.1 1, 225, .inl (bA Pj))) :: (z4, .inr (9, [.int (nI n), .int (nI mm), .ref pk, .ref pv, .ref pl, .ref pa, .ref pt, .ref pm, .ref pi])) :: (pk, .inl (g.2.1 0, 100, .inl (nA kdm))) :: (pi, .inl (g.2.1 1, 101, .inl (bA mkm))) :: R) F hG hW 1 rfl (by omega) (by decide) hS rfl dX14_pairs_87 (fun H locs hW hS => ?_)
            have hv9 : secS (canJ n kd mk Pj none) k = false := by rw [secS_1 (by omega), canJ_i c_19', c_47, Bool.not_true, Bool.false_and, Bool.and_false]
            refine lv_iload_n F.1 F.2.1 dX14_pairs_88 rfl (lv_at hl 1 rfl) ?_
            refine lv_aload_n F.1 F.2.1 dX14_pairs_89 rfl (lv_at hl 0 rfl) ?_
            refine gGet F hG hW nX14_pairs_X14 0 rfl rfl 21 (by decide) mX14_pairs_1 rfl dX14_pairs_90 ?_
            refine lv_iload_n F.1 F.2.1 dX14_pairs_93 rfl (lv_at hl 2 rfl) ?_
            refine gLdZ F hG hW 1 rfl (by omega) (by decide) dX14_pairs_94 ?_
            refine gTop (y := bI ((updB sec k false) k)) rfl ?_
            refine gTop (congrArg bI (updB_s _ _ _)) ?_
            refine gIfEqB (tgt := 102) F dX14_pairs_95 (by decide) (fun c_95 => ?_) (fun q => by simp at q)
            refine lv_iconst (v := nI 0) F.1 F.2.1 dX14_pairs_102 rfl ?_
            refine gAdd F dX14_pairs_103 ?_
            refine lv_istore_n (lv' := [(1, .int (nI (cn + 0))), (0, .ref o), (2, .int (nI k))]) F.1 F.2.1 dX14_pairs_104 rfl hl (by decide) rfl (fun ls hl => ?_)
            refine lv_iinc (v := nI (k + 1)) (lv' := [(2, .int (nI (k + 1))), (1, .int (nI (cn + 0))), (0, .ref o)]) F.1 F.2.1 dX14_pairs_105 hl (k := 2) rfl (nI_add k 1) (by decide) rfl (fun ls hl => ?_)
            refine lv_goto (tgt := 11) F.1 F.2.1 dX14_pairs_108 (by decide) ?_
            exact ih_11 (k + 1) (cn + 0) (updB sec k false) (by omega) (fun i hi => (Nat.lt_succ_iff_lt_or_eq.mp hi).elim (fun q => (updB_n (Nat.ne_of_lt q)).trans (hs i q)) (fun q => by rw [q, updB_s]; exact hv9.symm)) (by rw [cntB, hv9, hc]; rfl) (by omega) _ _ _ hW hS (lv_sub hl [2, 1, 0] rfl)
          · refine lv_aload_n F.1 F.2.1 dX14_pairs_50 rfl (lv_at hl 0 rfl) ?_
            refine gGet F hG hW nX14_pairs_X14 0 rfl rfl 20 (by decide) mX14_pairs_3 rfl dX14_pairs_51 ?_
            refine lv_bipush (v := nI 15) F.1 F.2.1 dX14_pairs_54 (by decide) ?_
            refine lv_aload_n F.1 F.2.1 dX14_pairs_56 rfl (lv_at hl 0 rfl) ?_
            refine gGet F hG hW nX14_pairs_X14 0 rfl rfl 4 (by decide) mX14_pairs_2 rfl dX14_pairs_57 ?_
            refine gGetN F hG hW nX14_pairs_X12 3 rfl rfl 2 (by decide) fX14_pairs_201 rfl dX14_pairs_60 ?_
            refine lv_iload_n F.1 F.2.1 dX14_pairs_63 rfl (lv_at hl 2 rfl) ?_
            refine lv_iconst (v := nI 1) F.1 F.2.1 dX14_pairs_64 rfl ?_
            refine gSub F (by omega) dX14_pairs_65 ?_
            refine gLdI F hG hW 4 rfl (by omega) (by decide) dX14_pairs_66 ?_
            refine gTop (y := nI (kdm (k - 1))) rfl ?_
            refine gTop (y := nI (kd (k - 1))) (congrArg nI (hak (k - 1) (by omega))) ?_
            refine gMul F dX14_pairs_67 ?_
            refine gTop (congrArg nI (Nat.mul_comm 15 (kd (k - 1)))) ?_
            refine lv_aload_n F.1 F.2.1 dX14_pairs_68 rfl (lv_at hl 0 rfl) ?_
            refine gGet F hG hW nX14_pairs_X14 0 rfl rfl 4 (by decide) mX14_pairs_2 rfl dX14_pairs_69 ?_
            refine gGetN F hG hW nX14_pairs_X12 3 rfl rfl 2 (by decide) fX14_pairs_201 rfl dX14_pairs_72 ?_
            refine lv_iload_n F.1 F.2.1 dX14_pairs_75 rfl (lv_at hl 2 rfl) ?_
            refine gLdI F hG hW 4 rfl (by omega) (by decide) dX14_pairs_76 ?_
            refine gTop (y := nI (kdm k)) rfl ?_
            refine gTop (y := nI (kd k)) (congrArg nI (hak k (by omega))) ?_
            refine gAdd F dX14_pairs_77 ?_
            refine gLdZ F hG hW 2 rfl (by omega) (by decide) dX14_pairs_78 ?_
            refine gTop (y := bI (Pj (((kd (k - 1)) * 15) + (kd k)))) rfl ?_
            refine gIfEqB (tgt := 86) F dX14_pairs_79 (by decide) (fun c_79 => ?_) (fun c_79 => ?_)
            · refine lv_iconst (v := nI 0) F.1 F.2.1 dX14_pairs_86 rfl ?_
              refine gTop (y := bI false) rfl ?_
              refine gStZB (w2 := (o, .inr (11, [.int (nI z0), .int (nI z1), .int z2, .int (nI z3), .ref z4, .ref z5, .int (bI z6), .ref z7, .ref z8, .int (nI z9), .int (nI z10), .int (nI z11), .int (nI z12), .int (nI z13), .int (nI z14), .int (nI z15), .long (lN z16), .ref z17, .int z18, .int (nI z19), .ref z20, .ref z21, .ref z22, .ref z23, .ref z24, .ref z25, .int (nI z26), .int (nI z27), .int (nI z28), .int z29, .int (nI z30), .int (nI z31), .ref z32, .ref z33, .ref z34, .ref z35, .ref z36, .int (bI z37), .int (nI z38), .int (nI z39), .int (nI z40), .int (nI z41), .int (nI z42), .int (nI z43), .int (nI z44), .int (nI z45), .int (nI z46), .ref z47, .ref z48, .ref z49, .ref z50, .ref z51, .ref z52, .int z53, .ref z54])) :: (z21, .inl (g.2.1 1, 101, .inl (bA (updB sec k false)))) :: (z20, .inl (g.2.1 1, 225, .inl (bA Pj))) :: (z4, .inr (9, [.int (nI n), .int (nI mm), .ref pk, .ref pv, .ref pl, .ref pa, .ref pt, .ref pm, .ref pi])) :: (pk, .inl (g.2.1 0, 100, .inl (nA kdm))) :: (pi, .inl (g.2.1 1, 101, .inl (bA mkm))) :: R) F hG hW 1 rfl (by omega) (by decide) hS rfl dX14_pairs_87 (fun H locs hW hS => ?_)
              have hv9 : secS (canJ n kd mk Pj none) k = false := by rw [secS_1 (by omega), ← hs (k - 1) (by omega), canJ_i c_19', c_35, c_47, c_79]; rfl
              refine lv_iload_n F.1 F.2.1 dX14_pairs_88 rfl (lv_at hl 1 rfl) ?_
              refine lv_aload_n F.1 F.2.1 dX14_pairs_89 rfl (lv_at hl 0 rfl) ?_
              refine gGet F hG hW nX14_pairs_X14 0 rfl rfl 21 (by decide) mX14_pairs_1 rfl dX14_pairs_90 ?_
              refine lv_iload_n F.1 F.2.1 dX14_pairs_93 rfl (lv_at hl 2 rfl) ?_
              refine gLdZ F hG hW 1 rfl (by omega) (by decide) dX14_pairs_94 ?_
              refine gTop (y := bI ((updB sec k false) k)) rfl ?_
              refine gTop (congrArg bI (updB_s _ _ _)) ?_
              refine gIfEqB (tgt := 102) F dX14_pairs_95 (by decide) (fun c_95 => ?_) (fun q => by simp at q)
              refine lv_iconst (v := nI 0) F.1 F.2.1 dX14_pairs_102 rfl ?_
              refine gAdd F dX14_pairs_103 ?_
              refine lv_istore_n (lv' := [(1, .int (nI (cn + 0))), (0, .ref o), (2, .int (nI k))]) F.1 F.2.1 dX14_pairs_104 rfl hl (by decide) rfl (fun ls hl => ?_)
              refine lv_iinc (v := nI (k + 1)) (lv' := [(2, .int (nI (k + 1))), (1, .int (nI (cn + 0))), (0, .ref o)]) F.1 F.2.1 dX14_pairs_105 hl (k := 2) rfl (nI_add k 1) (by decide) rfl (fun ls hl => ?_)
              refine lv_goto (tgt := 11) F.1 F.2.1 dX14_pairs_108 (by decide) ?_
              exact ih_11 (k + 1) (cn + 0) (updB sec k false) (by omega) (fun i hi => (Nat.lt_succ_iff_lt_or_eq.mp hi).elim (fun q => (updB_n (Nat.ne_of_lt q)).trans (hs i q)) (fun q => by rw [q, updB_s]; exact hv9.symm)) (by rw [cntB, hv9, hc]; rfl) (by omega) _ _ _ hW hS (lv_sub hl [2, 1, 0] rfl)
            · refine lv_iconst (v := nI 1) F.1 F.2.1 dX14_pairs_82 rfl ?_
              refine lv_goto (tgt := 87) F.1 F.2.1 dX14_pairs_83 (by decide) ?_
              refine gTop (y := bI true) rfl ?_
              refine gStZB (w2 := (o, .inr (11, [.int (nI z0), .int (nI z1), .int z2, .int (nI z3), .ref z4, .ref z5, .int (bI z6), .ref z7, .ref z8, .int (nI z9), .int (nI z10), .int (nI z11), .int (nI z12), .int (nI z13), .int (nI z14), .int (nI z15), .long (lN z16), .ref z17, .int z18, .int (nI z19), .ref z20, .ref z21, .ref z22, .ref z23, .ref z24, .ref z25, .int (nI z26), .int (nI z27), .int (nI z28), .int z29, .int (nI z30), .int (nI z31), .ref z32, .ref z33, .ref z34, .ref z35, .ref z36, .int (bI z37), .int (nI z38), .int (nI z39), .int (nI z40), .int (nI z41), .int (nI z42), .int (nI z43), .int (nI z44), .int (nI z45), .int (nI z46), .ref z47, .ref z48, .ref z49, .ref z50, .ref z51, .ref z52, .int z53, .ref z54])) :: (z21, .inl (g.2.1 1, 101, .inl (bA (updB sec k true)))) :: (z20, .inl (g.2.1 1, 225, .inl (bA Pj))) :: (z4, .inr (9, [.int (nI n), .int (nI mm), .ref pk, .ref pv, .ref pl, .ref pa, .ref pt, .ref pm, .ref pi])) :: (pk, .inl (g.2.1 0, 100, .inl (nA kdm))) :: (pi, .inl (g.2.1 1, 101, .inl (bA mkm))) :: R) F hG hW 1 rfl (by omega) (by decide) hS rfl dX14_pairs_87 (fun H locs hW hS => ?_)
              have hv9 : secS (canJ n kd mk Pj none) k = true := by rw [secS_1 (by omega), ← hs (k - 1) (by omega), canJ_i c_19', c_35, c_47, c_79]; rfl
              refine lv_iload_n F.1 F.2.1 dX14_pairs_88 rfl (lv_at hl 1 rfl) ?_
              refine lv_aload_n F.1 F.2.1 dX14_pairs_89 rfl (lv_at hl 0 rfl) ?_
              refine gGet F hG hW nX14_pairs_X14 0 rfl rfl 21 (by decide) mX14_pairs_1 rfl dX14_pairs_90 ?_
              refine lv_iload_n F.1 F.2.1 dX14_pairs_93 rfl (lv_at hl 2 rfl) ?_
              refine gLdZ F hG hW 1 rfl (by omega) (by decide) dX14_pairs_94 ?_
              refine gTop (y := bI ((updB sec k true) k)) rfl ?_
              refine gTop (congrArg bI (updB_s _ _ _)) ?_
              refine gIfEqB (tgt := 102) F dX14_pairs_95 (by decide) (fun q => by simp at q) (fun c_95 => ?_)
              refine lv_iconst (v := nI 1) F.1 F.2.1 dX14_pairs_98 rfl ?_
              refine lv_goto (tgt := 103) F.1 F.2.1 dX14_pairs_99 (by decide) ?_
              refine gAdd F dX14_pairs_103 ?_
              refine lv_istore_n (lv' := [(1, .int (nI (cn + 1))), (0, .ref o), (2, .int (nI k))]) F.1 F.2.1 dX14_pairs_104 rfl hl (by decide) rfl (fun ls hl => ?_)
              refine lv_iinc (v := nI (k + 1)) (lv' := [(2, .int (nI (k + 1))), (1, .int (nI (cn + 1))), (0, .ref o)]) F.1 F.2.1 dX14_pairs_105 hl (k := 2) rfl (nI_add k 1) (by decide) rfl (fun ls hl => ?_)
              refine lv_goto (tgt := 11) F.1 F.2.1 dX14_pairs_108 (by decide) ?_
              exact ih_11 (k + 1) (cn + 1) (updB sec k true) (by omega) (fun i hi => (Nat.lt_succ_iff_lt_or_eq.mp hi).elim (fun q => (updB_n (Nat.ne_of_lt q)).trans (hs i q)) (fun q => by rw [q, updB_s]; exact hv9.symm)) (by rw [cntB, hv9, hc]; rfl) (by omega) _ _ _ hW hS (lv_sub hl [2, 1, 0] rfl)
  exact L_11 _ 1 0 (updB sec 0 false) (by omega) (fun i hi => by rw [show i = 0 by omega, updB_s]; rfl) rfl (Nat.lt_succ_self _) _ _ _ hW hS (lv_sub hl [2, 1, 0] rfl)

abbrev rm_X14_joined : Room := ({ frames := 1, cells := 0, slots := 0, locals := 22 } : Room)
theorem mX14_joined_1 : Cond.fieldLink RX14 129 "StepperHeartsModel" "thrown" "I" ∈ wsX14_joined := List.mem_of_getElem? (i := 1) rfl
theorem nX14_joined_X14 : ∀ w ∈ wsX140, w ∈ wsX14_joined := fun _ h => List.mem_cons_of_mem _ (List.mem_append_left _ (List.mem_append_right _ (h)))
theorem mX14_joined_2 : Cond.fieldLink RX14 243 "StepperHeartsModel" "is" "Z" ∈ wsX14_joined := List.mem_of_getElem? (i := 2) rfl
set_option maxRecDepth 100000 in
set_option maxHeartbeats 4000000 in
theorem c_X14_joined (g : gC) (l : Launch) {o : Nat} {pk : Nat} {pv : Nat} {pl : Nat} {pa : Nat} {pt : Nat} {pm : Nat} {pi : Nat} {z0 : Nat} {z1 : Nat} {z2 : Int32} {z3 : Nat} {z4 : Nat} {z5 : Nat} {z6 : Bool} {z7 : Nat} {z8 : Nat} {z9 : Nat} {z10 : Nat} {z11 : Nat} {z12 : Nat} {z13 : Nat} {z14 : Nat} {z15 : Nat} {z16 : Nat} {z17 : Nat} {z18 : Int32} {z19 : Nat} {z20 : Nat} {z21 : Nat} {z22 : Nat} {z23 : Nat} {z24 : Nat} {z25 : Nat} {z26 : Nat} {z27 : Nat} {z28 : Nat} {z29 : Int32} {z30 : Nat} {z31 : Nat} {z32 : Nat} {z33 : Nat} {z34 : Nat} {z35 : Nat} {z36 : Nat} {z37 : Bool} {z38 : Nat} {z39 : Nat} {z40 : Nat} {z41 : Nat} {z42 : Nat} {z43 : Nat} {z44 : Nat} {z45 : Nat} {z46 : Nat} {z47 : Nat} {z48 : Nat} {z49 : Nat} {z50 : Nat} {z51 : Nat} {z52 : Nat} {z53 : Int32} {z54 : Nat} {n : Nat} {mm : Nat} {kdm : Nat → Nat} {kd : Nat → Nat} {mkm : Nat → Bool} {mk : Nat → Bool} {Pj : Nat → Bool} {sec : Nat → Bool} {R : va_W} (hn : n ≤ 100) (hK : ∀ j, j < n → kd j < 15) (hak : ∀ j, j < n → kdm j = kd j) (ham : ∀ j, j < n → mkm j = mk j) (his : z6 = !decide (n = 0)) : cI g l yX14_joined wsX14_joined rm_X14_joined 0 0 [.ref o] ((o, .inr (11, [.int (nI z0), .int (nI z1), .int z2, .int (nI z3), .ref z4, .ref z5, .int (bI z6), .ref z7, .ref z8, .int (nI z9), .int (nI z10), .int (nI z11), .int (nI z12), .int (nI z13), .int (nI z14), .int (nI z15), .long (lN z16), .ref z17, .int z18, .int (nI z19), .ref z20, .ref z21, .ref z22, .ref z23, .ref z24, .ref z25, .int (nI z26), .int (nI z27), .int (nI z28), .int z29, .int (nI z30), .int (nI z31), .ref z32, .ref z33, .ref z34, .ref z35, .ref z36, .int (bI z37), .int (nI z38), .int (nI z39), .int (nI z40), .int (nI z41), .int (nI z42), .int (nI z43), .int (nI z44), .int (nI z45), .int (nI z46), .ref z47, .ref z48, .ref z49, .ref z50, .ref z51, .ref z52, .int z53, .ref z54])) :: (z21, .inl (g.2.1 1, 101, .inl (bA sec))) :: (z20, .inl (g.2.1 1, 225, .inl (bA Pj))) :: (z4, .inr (9, [.int (nI n), .int (nI mm), .ref pk, .ref pv, .ref pl, .ref pa, .ref pt, .ref pm, .ref pi])) :: (pk, .inl (g.2.1 0, 100, .inl (nA kdm))) :: (pi, .inl (g.2.1 1, 101, .inl (bA mkm))) :: R) (fun r u => ∃ (sec9 : Nat → Bool), (okS (if n = 0 then 4 else 0) (nI (cntB (secS (canJ n kd mk Pj none)) 100))) = r ∧ (o, .inr (11, [.int (nI 0), .int (nI (if n = 0 then 4 else 0)), .int (-1), .int (nI z3), .ref z4, .ref z5, .int (bI z6), .ref z7, .ref z8, .int (nI z9), .int (nI z10), .int (nI z11), .int (nI z12), .int (nI z13), .int (nI z14), .int (nI z15), .long (lN z16), .ref z17, .int z18, .int (nI z19), .ref z20, .ref z21, .ref z22, .ref z23, .ref z24, .ref z25, .int (nI z26), .int (nI z27), .int (nI z28), .int z29, .int (nI z30), .int (nI z31), .ref z32, .ref z33, .ref z34, .ref z35, .ref z36, .int (bI z37), .int (nI z38), .int (nI z39), .int (nI z40), .int (nI z41), .int (nI z42), .int (nI z43), .int (nI z44), .int (nI z45), .int (nI z46), .ref z47, .ref z48, .ref z49, .ref z50, .ref z51, .ref z52, .int z53, .ref z54])) :: (z21, .inl (g.2.1 1, 101, .inl (bA sec9))) :: (z20, .inl (g.2.1 1, 225, .inl (bA Pj))) :: (z4, .inr (9, [.int (nI n), .int (nI mm), .ref pk, .ref pv, .ref pl, .ref pa, .ref pt, .ref pm, .ref pi])) :: (pk, .inl (g.2.1 0, 100, .inl (nA kdm))) :: (pi, .inl (g.2.1 1, 101, .inl (bA mkm))) :: R = u) := by
  refine gEnterQ (cc := cX14_joined) (maxL := 1) (ret := (some (.int))) (by decide +kernel) rfl (Nat.le_of_ble_eq_true rfl) ?_
  intro p e s m below meth c F hG hW ls hl
  have hS : va_S (gA g) s.heap s.heap [] := va_S.rf
  have hl : lv_has ls 1 [(0, .ref o)] := hl
  have hW : gW g ((o, .inr (11, [.int (nI z0), .int (nI z1), .int z2, .int (nI z3), .ref z4, .ref z5, .int (bI z6), .ref z7, .ref z8, .int (nI z9), .int (nI z10), .int (nI z11), .int (nI z12), .int (nI z13), .int (nI z14), .int (nI z15), .long (lN z16), .ref z17, .int z18, .int (nI z19), .ref z20, .ref z21, .ref z22, .ref z23, .ref z24, .ref z25, .int (nI z26), .int (nI z27), .int (nI z28), .int z29, .int (nI z30), .int (nI z31), .ref z32, .ref z33, .ref z34, .ref z35, .ref z36, .int (bI z37), .int (nI z38), .int (nI z39), .int (nI z40), .int (nI z41), .int (nI z42), .int (nI z43), .int (nI z44), .int (nI z45), .int (nI z46), .ref z47, .ref z48, .ref z49, .ref z50, .ref z51, .ref z52, .int z53, .ref z54])) :: (z21, .inl (g.2.1 1, 101, .inl (bA sec))) :: (z20, .inl (g.2.1 1, 225, .inl (bA Pj))) :: (z4, .inr (9, [.int (nI n), .int (nI mm), .ref pk, .ref pv, .ref pl, .ref pa, .ref pt, .ref pm, .ref pi])) :: (pk, .inl (g.2.1 0, 100, .inl (nA kdm))) :: (pi, .inl (g.2.1 1, 101, .inl (bA mkm))) :: R) s.heap := hW
  refine lv_aload_n F.1 F.2.1 dX14_joined_0 rfl (lv_at hl 0 rfl) ?_
  refine lv_iconst (v := nI 0) F.1 F.2.1 dX14_joined_1 rfl ?_
  refine gPut (w2 := (o, .inr (11, [.int (nI 0), .int (nI z1), .int z2, .int (nI z3), .ref z4, .ref z5, .int (bI z6), .ref z7, .ref z8, .int (nI z9), .int (nI z10), .int (nI z11), .int (nI z12), .int (nI z13), .int (nI z14), .int (nI z15), .long (lN z16), .ref z17, .int z18, .int (nI z19), .ref z20, .ref z21, .ref z22, .ref z23, .ref z24, .ref z25, .int (nI z26), .int (nI z27), .int (nI z28), .int z29, .int (nI z30), .int (nI z31), .ref z32, .ref z33, .ref z34, .ref z35, .ref z36, .int (bI z37), .int (nI z38), .int (nI z39), .int (nI z40), .int (nI z41), .int (nI z42), .int (nI z43), .int (nI z44), .int (nI z45), .int (nI z46), .ref z47, .ref z48, .ref z49, .ref z50, .ref z51, .ref z52, .int z53, .ref z54])) :: (z21, .inl (g.2.1 1, 101, .inl (bA sec))) :: (z20, .inl (g.2.1 1, 225, .inl (bA Pj))) :: (z4, .inr (9, [.int (nI n), .int (nI mm), .ref pk, .ref pv, .ref pl, .ref pa, .ref pt, .ref pm, .ref pi])) :: (pk, .inl (g.2.1 0, 100, .inl (nA kdm))) :: (pi, .inl (g.2.1 1, 101, .inl (bA mkm))) :: R) F hS hG hW nX14_joined_X14 0 rfl rfl 0 (by decide) tyX14 tyX14_ok nmX14 mX14_joined_1 rfl rfl rfl rfl (Nat.le_of_ble_eq_true rfl) rfl dX14_joined_2 (fun H locs hW hS => ?_)
  refine lv_aload_n F.1 F.2.1 dX14_joined_5 rfl (lv_at hl 0 rfl) ?_
  refine gGet F hG hW nX14_joined_X14 0 rfl rfl 6 (by decide) mX14_joined_2 rfl dX14_joined_6 ?_
  refine gIfEqB (tgt := 23) F dX14_joined_9 (by decide) (fun c_9 => ?_) (fun c_9 => ?_)
  · refine lv_aload_n F.1 F.2.1 dX14_joined_23 rfl (lv_at hl 0 rfl) ?_
    refine lv_iconst (v := nI 4) F.1 F.2.1 dX14_joined_24 rfl ?_
    refine gVi (n := 1) (q := (RX14, TX14, 55)) (q0 := 0) (As := [.int (nI 4)]) F hG hS hW (c_X14_refused g l  ) rfl gX14_joined_X14_refused rfl rfl rfl (by decide +kernel) ⟨rfl, rfl, Nat.le_of_ble_eq_true rfl, Nat.le_of_ble_eq_true rfl⟩ hl.1 (Nat.le_of_ble_eq_true rfl) ⟨Nat.le_of_ble_eq_true rfl, Nat.le_of_ble_eq_true rfl⟩ rfl rfl dX14_joined_25 (fun r u H locs hq hW hS => ?_)
    obtain ⟨rfl, rfl⟩ := hq
    have hW : gW g ((o, .inr (11, [.int (nI 0), .int (nI 4), .int (-1), .int (nI z3), .ref z4, .ref z5, .int (bI z6), .ref z7, .ref z8, .int (nI z9), .int (nI z10), .int (nI z11), .int (nI z12), .int (nI z13), .int (nI z14), .int (nI z15), .long (lN z16), .ref z17, .int z18, .int (nI z19), .ref z20, .ref z21, .ref z22, .ref z23, .ref z24, .ref z25, .int (nI z26), .int (nI z27), .int (nI z28), .int z29, .int (nI z30), .int (nI z31), .ref z32, .ref z33, .ref z34, .ref z35, .ref z36, .int (bI z37), .int (nI z38), .int (nI z39), .int (nI z40), .int (nI z41), .int (nI z42), .int (nI z43), .int (nI z44), .int (nI z45), .int (nI z46), .ref z47, .ref z48, .ref z49, .ref z50, .ref z51, .ref z52, .int z53, .ref z54])) :: (z21, .inl (g.2.1 1, 101, .inl (bA sec))) :: (z20, .inl (g.2.1 1, 225, .inl (bA Pj))) :: (z4, .inr (9, [.int (nI n), .int (nI mm), .ref pk, .ref pv, .ref pl, .ref pa, .ref pt, .ref pm, .ref pi])) :: (pk, .inl (g.2.1 0, 100, .inl (nA kdm))) :: (pi, .inl (g.2.1 1, 101, .inl (bA mkm))) :: R) _ := hW
    refine gRi F hW hS dX14_joined_28 ?_
    rw [if_pos (isz his c_9)]
    exact ⟨_, rfl, rfl⟩
  · refine lv_aload_n F.1 F.2.1 dX14_joined_12 rfl (lv_at hl 0 rfl) ?_
    refine lv_aload_n F.1 F.2.1 dX14_joined_13 rfl (lv_at hl 0 rfl) ?_
    refine gVi (n := 0) (q := (RX14, TX14, 55)) (q0 := 0) (As := []) F hG hS hW (c_X14_pairs g l  hn hK hak ham) rfl gX14_joined_X14_pairs rfl rfl rfl (by decide +kernel) ⟨rfl, rfl, Nat.le_of_ble_eq_true rfl, Nat.le_of_ble_eq_true rfl⟩ hl.1 (Nat.le_of_ble_eq_true rfl) ⟨Nat.le_of_ble_eq_true rfl, Nat.le_of_ble_eq_true rfl⟩ rfl rfl dX14_joined_14 (fun r u H locs hq hW hS => ?_)
    obtain ⟨sec9_14, rfl, rfl, p0_14⟩ := hq
    have hW : gW g ((o, .inr (11, [.int (nI 0), .int (nI z1), .int z2, .int (nI z3), .ref z4, .ref z5, .int (bI z6), .ref z7, .ref z8, .int (nI z9), .int (nI z10), .int (nI z11), .int (nI z12), .int (nI z13), .int (nI z14), .int (nI z15), .long (lN z16), .ref z17, .int z18, .int (nI z19), .ref z20, .ref z21, .ref z22, .ref z23, .ref z24, .ref z25, .int (nI z26), .int (nI z27), .int (nI z28), .int z29, .int (nI z30), .int (nI z31), .ref z32, .ref z33, .ref z34, .ref z35, .ref z36, .int (bI z37), .int (nI z38), .int (nI z39), .int (nI z40), .int (nI z41), .int (nI z42), .int (nI z43), .int (nI z44), .int (nI z45), .int (nI z46), .ref z47, .ref z48, .ref z49, .ref z50, .ref z51, .ref z52, .int z53, .ref z54])) :: (z21, .inl (g.2.1 1, 101, .inl (bA sec9_14))) :: (z20, .inl (g.2.1 1, 225, .inl (bA Pj))) :: (z4, .inr (9, [.int (nI n), .int (nI mm), .ref pk, .ref pv, .ref pl, .ref pa, .ref pt, .ref pm, .ref pi])) :: (pk, .inl (g.2.1 0, 100, .inl (nA kdm))) :: (pi, .inl (g.2.1 1, 101, .inl (bA mkm))) :: R) _ := hW
    refine gVi (n := 1) (q := (RX14, TX14, 55)) (q0 := 0) (As := [.int (nI (cntB (secS (canJ n kd mk Pj none)) n))]) F hG hS hW (c_X14_done g l  ) rfl gX14_joined_X14_done rfl rfl rfl (by decide +kernel) ⟨rfl, rfl, Nat.le_of_ble_eq_true rfl, Nat.le_of_ble_eq_true rfl⟩ hl.1 (Nat.le_of_ble_eq_true rfl) ⟨Nat.le_of_ble_eq_true rfl, Nat.le_of_ble_eq_true rfl⟩ rfl rfl dX14_joined_17 (fun r u H locs hq hW hS => ?_)
    obtain ⟨rfl, rfl⟩ := hq
    have hW : gW g ((o, .inr (11, [.int (nI 0), .int (nI 0), .int (-1), .int (nI z3), .ref z4, .ref z5, .int (bI z6), .ref z7, .ref z8, .int (nI z9), .int (nI z10), .int (nI z11), .int (nI z12), .int (nI z13), .int (nI z14), .int (nI z15), .long (lN z16), .ref z17, .int z18, .int (nI z19), .ref z20, .ref z21, .ref z22, .ref z23, .ref z24, .ref z25, .int (nI z26), .int (nI z27), .int (nI z28), .int z29, .int (nI z30), .int (nI z31), .ref z32, .ref z33, .ref z34, .ref z35, .ref z36, .int (bI z37), .int (nI z38), .int (nI z39), .int (nI z40), .int (nI z41), .int (nI z42), .int (nI z43), .int (nI z44), .int (nI z45), .int (nI z46), .ref z47, .ref z48, .ref z49, .ref z50, .ref z51, .ref z52, .int z53, .ref z54])) :: (z21, .inl (g.2.1 1, 101, .inl (bA sec9_14))) :: (z20, .inl (g.2.1 1, 225, .inl (bA Pj))) :: (z4, .inr (9, [.int (nI n), .int (nI mm), .ref pk, .ref pv, .ref pl, .ref pa, .ref pt, .ref pm, .ref pi])) :: (pk, .inl (g.2.1 0, 100, .inl (nA kdm))) :: (pi, .inl (g.2.1 1, 101, .inl (bA mkm))) :: R) _ := hW
    refine lv_goto (tgt := 28) F.1 F.2.1 dX14_joined_20 (by decide) ?_
    refine gRi F hW hS dX14_joined_28 ?_
    rw [if_neg (isnz his c_9)]
    exact ⟨_, by rw [okS, if_pos rfl, cntB_n 100 hn], rfl⟩

abbrev rm_X14_count : Room := ({ frames := 0, cells := 0, slots := 0, locals := 0 } : Room)
theorem mX14_count_1 : Cond.fieldLink RX14 129 "StepperHeartsModel" "thrown" "I" ∈ wsX14_count := List.mem_of_getElem? (i := 1) rfl
theorem nX14_count_X14 : ∀ w ∈ wsX140, w ∈ wsX14_count := fun _ h => List.mem_cons_of_mem _ (List.mem_append_left _ (List.mem_append_right _ (h)))
theorem mX14_count_2 : Cond.fieldLink RX14 243 "StepperHeartsModel" "is" "Z" ∈ wsX14_count := List.mem_of_getElem? (i := 2) rfl
theorem mX14_count_3 : Cond.fieldLink RX14 16 "StepperHeartsModel" "p" "LStepperHeartsModel$Program;" ∈ wsX14_count := List.mem_of_getElem? (i := 3) rfl
theorem fX14_count_186 : (yX14_count.cls, 186, "StepperHeartsModel$Program", "orders", "I", "StepperHeartsModel") ∈ gNF := List.mem_of_getElem? (i := 22) rfl
theorem nX14_count_X12 : ∀ w ∈ wsX120, w ∈ wsX14_count := fun _ h => List.mem_cons_of_mem _ (List.mem_append_right _ (h))
theorem mX14_count_4 : Cond.fieldLink RX14 256 "StepperHeartsModel" "joins" "I" ∈ wsX14_count := List.mem_of_getElem? (i := 4) rfl
theorem mX14_count_5 : Cond.fieldLink RX14 231 "StepperHeartsModel" "taped" "I" ∈ wsX14_count := List.mem_of_getElem? (i := 5) rfl
set_option maxRecDepth 100000 in
set_option maxHeartbeats 4000000 in
theorem c_X14_count (g : gC) (l : Launch) {o : Nat} {pk : Nat} {pv : Nat} {pl : Nat} {pa : Nat} {pt : Nat} {pm : Nat} {pi : Nat} {z0 : Nat} {z1 : Nat} {z2 : Int32} {z3 : Nat} {z4 : Nat} {z5 : Nat} {z6 : Bool} {z7 : Nat} {z8 : Nat} {z9 : Nat} {z10 : Nat} {z11 : Nat} {z12 : Nat} {z13 : Nat} {z14 : Nat} {z15 : Nat} {z16 : Nat} {z17 : Nat} {z18 : Int32} {z19 : Nat} {z20 : Nat} {z21 : Nat} {z22 : Nat} {z23 : Nat} {z24 : Nat} {z25 : Nat} {z26 : Nat} {z27 : Nat} {z28 : Nat} {z29 : Int32} {z30 : Nat} {z31 : Nat} {z32 : Nat} {z33 : Nat} {z34 : Nat} {z35 : Nat} {z36 : Nat} {z37 : Bool} {z38 : Nat} {z39 : Nat} {z40 : Nat} {z41 : Nat} {z42 : Nat} {z43 : Nat} {z44 : Nat} {z45 : Nat} {z46 : Nat} {z47 : Nat} {z48 : Nat} {z49 : Nat} {z50 : Nat} {z51 : Nat} {z52 : Nat} {z53 : Int32} {z54 : Nat} {n : Nat} {mm : Nat} {x : Int32} {R : va_W} (his : z6 = !decide (n = 0)) : cI g l yX14_count wsX14_count rm_X14_count 0 0 [.ref o, .int x] ((o, .inr (11, [.int (nI z0), .int (nI z1), .int z2, .int (nI z3), .ref z4, .ref z5, .int (bI z6), .ref z7, .ref z8, .int (nI z9), .int (nI z10), .int (nI z11), .int (nI z12), .int (nI z13), .int (nI z14), .int (nI z15), .long (lN z16), .ref z17, .int z18, .int (nI z19), .ref z20, .ref z21, .ref z22, .ref z23, .ref z24, .ref z25, .int (nI z26), .int (nI z27), .int (nI z28), .int z29, .int (nI z30), .int (nI z31), .ref z32, .ref z33, .ref z34, .ref z35, .ref z36, .int (bI z37), .int (nI z38), .int (nI z39), .int (nI z40), .int (nI z41), .int (nI z42), .int (nI z43), .int (nI z44), .int (nI z45), .int (nI z46), .ref z47, .ref z48, .ref z49, .ref z50, .ref z51, .ref z52, .int z53, .ref z54])) :: (z4, .inr (9, [.int (nI n), .int (nI mm), .ref pk, .ref pv, .ref pl, .ref pa, .ref pt, .ref pm, .ref pi])) :: R) (fun r u => (selS x (nI n) (nI z19) (nI z9) (-1)) = r ∧ (o, .inr (11, [.int (nI 0), .int (nI z1), .int z2, .int (nI z3), .ref z4, .ref z5, .int (bI z6), .ref z7, .ref z8, .int (nI z9), .int (nI z10), .int (nI z11), .int (nI z12), .int (nI z13), .int (nI z14), .int (nI z15), .long (lN z16), .ref z17, .int z18, .int (nI z19), .ref z20, .ref z21, .ref z22, .ref z23, .ref z24, .ref z25, .int (nI z26), .int (nI z27), .int (nI z28), .int z29, .int (nI z30), .int (nI z31), .ref z32, .ref z33, .ref z34, .ref z35, .ref z36, .int (bI z37), .int (nI z38), .int (nI z39), .int (nI z40), .int (nI z41), .int (nI z42), .int (nI z43), .int (nI z44), .int (nI z45), .int (nI z46), .ref z47, .ref z48, .ref z49, .ref z50, .ref z51, .ref z52, .int z53, .ref z54])) :: (z4, .inr (9, [.int (nI n), .int (nI mm), .ref pk, .ref pv, .ref pl, .ref pa, .ref pt, .ref pm, .ref pi])) :: R = u) := by
  refine gEnterQ (cc := cX14_count) (maxL := 2) (ret := (some (.int))) (by decide +kernel) rfl (Nat.le_of_ble_eq_true rfl) ?_
  intro p e s m below meth c F hG hW ls hl
  have hS : va_S (gA g) s.heap s.heap [] := va_S.rf
  have hl : lv_has ls 2 [(0, .ref o), (1, .int x)] := hl
  have hW : gW g ((o, .inr (11, [.int (nI z0), .int (nI z1), .int z2, .int (nI z3), .ref z4, .ref z5, .int (bI z6), .ref z7, .ref z8, .int (nI z9), .int (nI z10), .int (nI z11), .int (nI z12), .int (nI z13), .int (nI z14), .int (nI z15), .long (lN z16), .ref z17, .int z18, .int (nI z19), .ref z20, .ref z21, .ref z22, .ref z23, .ref z24, .ref z25, .int (nI z26), .int (nI z27), .int (nI z28), .int z29, .int (nI z30), .int (nI z31), .ref z32, .ref z33, .ref z34, .ref z35, .ref z36, .int (bI z37), .int (nI z38), .int (nI z39), .int (nI z40), .int (nI z41), .int (nI z42), .int (nI z43), .int (nI z44), .int (nI z45), .int (nI z46), .ref z47, .ref z48, .ref z49, .ref z50, .ref z51, .ref z52, .int z53, .ref z54])) :: (z4, .inr (9, [.int (nI n), .int (nI mm), .ref pk, .ref pv, .ref pl, .ref pa, .ref pt, .ref pm, .ref pi])) :: R) s.heap := hW
  rcases sw3 x with hx | rfl | rfl | rfl
  · have hl : lv_has ls 2 [(0, .ref o), (1, .int x)] := hl
    have hW : gW g ((o, .inr (11, [.int (nI z0), .int (nI z1), .int z2, .int (nI z3), .ref z4, .ref z5, .int (bI z6), .ref z7, .ref z8, .int (nI z9), .int (nI z10), .int (nI z11), .int (nI z12), .int (nI z13), .int (nI z14), .int (nI z15), .long (lN z16), .ref z17, .int z18, .int (nI z19), .ref z20, .ref z21, .ref z22, .ref z23, .ref z24, .ref z25, .int (nI z26), .int (nI z27), .int (nI z28), .int z29, .int (nI z30), .int (nI z31), .ref z32, .ref z33, .ref z34, .ref z35, .ref z36, .int (bI z37), .int (nI z38), .int (nI z39), .int (nI z40), .int (nI z41), .int (nI z42), .int (nI z43), .int (nI z44), .int (nI z45), .int (nI z46), .ref z47, .ref z48, .ref z49, .ref z50, .ref z51, .ref z52, .int z53, .ref z54])) :: (z4, .inr (9, [.int (nI n), .int (nI mm), .ref pk, .ref pv, .ref pl, .ref pa, .ref pt, .ref pm, .ref pi])) :: R) s.heap := hW
    refine lv_aload_n F.1 F.2.1 dX14_count_0 rfl (lv_at hl 0 rfl) ?_
    refine lv_iconst (v := nI 0) F.1 F.2.1 dX14_count_1 rfl ?_
    refine gPut (w2 := (o, .inr (11, [.int (nI 0), .int (nI z1), .int z2, .int (nI z3), .ref z4, .ref z5, .int (bI z6), .ref z7, .ref z8, .int (nI z9), .int (nI z10), .int (nI z11), .int (nI z12), .int (nI z13), .int (nI z14), .int (nI z15), .long (lN z16), .ref z17, .int z18, .int (nI z19), .ref z20, .ref z21, .ref z22, .ref z23, .ref z24, .ref z25, .int (nI z26), .int (nI z27), .int (nI z28), .int z29, .int (nI z30), .int (nI z31), .ref z32, .ref z33, .ref z34, .ref z35, .ref z36, .int (bI z37), .int (nI z38), .int (nI z39), .int (nI z40), .int (nI z41), .int (nI z42), .int (nI z43), .int (nI z44), .int (nI z45), .int (nI z46), .ref z47, .ref z48, .ref z49, .ref z50, .ref z51, .ref z52, .int z53, .ref z54])) :: (z4, .inr (9, [.int (nI n), .int (nI mm), .ref pk, .ref pv, .ref pl, .ref pa, .ref pt, .ref pm, .ref pi])) :: R) F hS hG hW nX14_count_X14 0 rfl rfl 0 (by decide) tyX14 tyX14_ok nmX14 mX14_count_1 rfl rfl rfl rfl (Nat.le_of_ble_eq_true rfl) rfl dX14_count_2 (fun H locs hW hS => ?_)
    refine lv_iload_n F.1 F.2.1 dX14_count_5 rfl (lv_at hl 1 rfl) ?_
    refine lv_tableOut (tgt := 61) F.1 F.2.1 dX14_count_6 (swc hx (by decide)) (by decide) ?_
    refine lv_iconst (v := -1) F.1 F.2.1 dX14_count_61 rfl ?_
    refine gRi F hW hS dX14_count_62 ?_
    exact ⟨ixS_out hx (by decide), rfl⟩
  · have hl : lv_has ls 2 [(0, .ref o), (1, .int (nI 0))] := hl
    have hW : gW g ((o, .inr (11, [.int (nI z0), .int (nI z1), .int z2, .int (nI z3), .ref z4, .ref z5, .int (bI z6), .ref z7, .ref z8, .int (nI z9), .int (nI z10), .int (nI z11), .int (nI z12), .int (nI z13), .int (nI z14), .int (nI z15), .long (lN z16), .ref z17, .int z18, .int (nI z19), .ref z20, .ref z21, .ref z22, .ref z23, .ref z24, .ref z25, .int (nI z26), .int (nI z27), .int (nI z28), .int z29, .int (nI z30), .int (nI z31), .ref z32, .ref z33, .ref z34, .ref z35, .ref z36, .int (bI z37), .int (nI z38), .int (nI z39), .int (nI z40), .int (nI z41), .int (nI z42), .int (nI z43), .int (nI z44), .int (nI z45), .int (nI z46), .ref z47, .ref z48, .ref z49, .ref z50, .ref z51, .ref z52, .int z53, .ref z54])) :: (z4, .inr (9, [.int (nI n), .int (nI mm), .ref pk, .ref pv, .ref pl, .ref pa, .ref pt, .ref pm, .ref pi])) :: R) s.heap := hW
    refine lv_aload_n F.1 F.2.1 dX14_count_0 rfl (lv_at hl 0 rfl) ?_
    refine lv_iconst (v := nI 0) F.1 F.2.1 dX14_count_1 rfl ?_
    refine gPut (w2 := (o, .inr (11, [.int (nI 0), .int (nI z1), .int z2, .int (nI z3), .ref z4, .ref z5, .int (bI z6), .ref z7, .ref z8, .int (nI z9), .int (nI z10), .int (nI z11), .int (nI z12), .int (nI z13), .int (nI z14), .int (nI z15), .long (lN z16), .ref z17, .int z18, .int (nI z19), .ref z20, .ref z21, .ref z22, .ref z23, .ref z24, .ref z25, .int (nI z26), .int (nI z27), .int (nI z28), .int z29, .int (nI z30), .int (nI z31), .ref z32, .ref z33, .ref z34, .ref z35, .ref z36, .int (bI z37), .int (nI z38), .int (nI z39), .int (nI z40), .int (nI z41), .int (nI z42), .int (nI z43), .int (nI z44), .int (nI z45), .int (nI z46), .ref z47, .ref z48, .ref z49, .ref z50, .ref z51, .ref z52, .int z53, .ref z54])) :: (z4, .inr (9, [.int (nI n), .int (nI mm), .ref pk, .ref pv, .ref pl, .ref pa, .ref pt, .ref pm, .ref pi])) :: R) F hS hG hW nX14_count_X14 0 rfl rfl 0 (by decide) tyX14 tyX14_ok nmX14 mX14_count_1 rfl rfl rfl rfl (Nat.le_of_ble_eq_true rfl) rfl dX14_count_2 (fun H locs hW hS => ?_)
    refine lv_iload_n F.1 F.2.1 dX14_count_5 rfl (lv_at hl 1 rfl) ?_
    refine lv_tableIn (tgt := 32) F.1 F.2.1 dX14_count_6 (by decide) (by decide) rfl (by decide) ?_
    refine lv_aload_n F.1 F.2.1 dX14_count_32 rfl (lv_at hl 0 rfl) ?_
    refine gGet F hG hW nX14_count_X14 0 rfl rfl 6 (by decide) mX14_count_2 rfl dX14_count_33 ?_
    refine gIfEqB (tgt := 49) F dX14_count_36 (by decide) (fun c_36 => ?_) (fun c_36 => ?_)
    · refine lv_iconst (v := nI 0) F.1 F.2.1 dX14_count_49 rfl ?_
      refine gRi F hW hS dX14_count_50 ?_
      exact ⟨by rw [isz his c_36]; rfl, rfl⟩
    · refine lv_aload_n F.1 F.2.1 dX14_count_39 rfl (lv_at hl 0 rfl) ?_
      refine gGet F hG hW nX14_count_X14 0 rfl rfl 4 (by decide) mX14_count_3 rfl dX14_count_40 ?_
      refine gGetN F hG hW nX14_count_X12 1 rfl rfl 0 (by decide) fX14_count_186 rfl dX14_count_43 ?_
      refine lv_goto (tgt := 50) F.1 F.2.1 dX14_count_46 (by decide) ?_
      refine gRi F hW hS dX14_count_50 ?_
      exact ⟨rfl, rfl⟩
  · have hl : lv_has ls 2 [(0, .ref o), (1, .int (nI 1))] := hl
    have hW : gW g ((o, .inr (11, [.int (nI z0), .int (nI z1), .int z2, .int (nI z3), .ref z4, .ref z5, .int (bI z6), .ref z7, .ref z8, .int (nI z9), .int (nI z10), .int (nI z11), .int (nI z12), .int (nI z13), .int (nI z14), .int (nI z15), .long (lN z16), .ref z17, .int z18, .int (nI z19), .ref z20, .ref z21, .ref z22, .ref z23, .ref z24, .ref z25, .int (nI z26), .int (nI z27), .int (nI z28), .int z29, .int (nI z30), .int (nI z31), .ref z32, .ref z33, .ref z34, .ref z35, .ref z36, .int (bI z37), .int (nI z38), .int (nI z39), .int (nI z40), .int (nI z41), .int (nI z42), .int (nI z43), .int (nI z44), .int (nI z45), .int (nI z46), .ref z47, .ref z48, .ref z49, .ref z50, .ref z51, .ref z52, .int z53, .ref z54])) :: (z4, .inr (9, [.int (nI n), .int (nI mm), .ref pk, .ref pv, .ref pl, .ref pa, .ref pt, .ref pm, .ref pi])) :: R) s.heap := hW
    refine lv_aload_n F.1 F.2.1 dX14_count_0 rfl (lv_at hl 0 rfl) ?_
    refine lv_iconst (v := nI 0) F.1 F.2.1 dX14_count_1 rfl ?_
    refine gPut (w2 := (o, .inr (11, [.int (nI 0), .int (nI z1), .int z2, .int (nI z3), .ref z4, .ref z5, .int (bI z6), .ref z7, .ref z8, .int (nI z9), .int (nI z10), .int (nI z11), .int (nI z12), .int (nI z13), .int (nI z14), .int (nI z15), .long (lN z16), .ref z17, .int z18, .int (nI z19), .ref z20, .ref z21, .ref z22, .ref z23, .ref z24, .ref z25, .int (nI z26), .int (nI z27), .int (nI z28), .int z29, .int (nI z30), .int (nI z31), .ref z32, .ref z33, .ref z34, .ref z35, .ref z36, .int (bI z37), .int (nI z38), .int (nI z39), .int (nI z40), .int (nI z41), .int (nI z42), .int (nI z43), .int (nI z44), .int (nI z45), .int (nI z46), .ref z47, .ref z48, .ref z49, .ref z50, .ref z51, .ref z52, .int z53, .ref z54])) :: (z4, .inr (9, [.int (nI n), .int (nI mm), .ref pk, .ref pv, .ref pl, .ref pa, .ref pt, .ref pm, .ref pi])) :: R) F hS hG hW nX14_count_X14 0 rfl rfl 0 (by decide) tyX14 tyX14_ok nmX14 mX14_count_1 rfl rfl rfl rfl (Nat.le_of_ble_eq_true rfl) rfl dX14_count_2 (fun H locs hW hS => ?_)
    refine lv_iload_n F.1 F.2.1 dX14_count_5 rfl (lv_at hl 1 rfl) ?_
    refine lv_tableIn (tgt := 51) F.1 F.2.1 dX14_count_6 (by decide) (by decide) rfl (by decide) ?_
    refine lv_aload_n F.1 F.2.1 dX14_count_51 rfl (lv_at hl 0 rfl) ?_
    refine gGet F hG hW nX14_count_X14 0 rfl rfl 19 (by decide) mX14_count_4 rfl dX14_count_52 ?_
    refine gRi F hW hS dX14_count_55 ?_
    exact ⟨rfl, rfl⟩
  · have hl : lv_has ls 2 [(0, .ref o), (1, .int (nI 2))] := hl
    have hW : gW g ((o, .inr (11, [.int (nI z0), .int (nI z1), .int z2, .int (nI z3), .ref z4, .ref z5, .int (bI z6), .ref z7, .ref z8, .int (nI z9), .int (nI z10), .int (nI z11), .int (nI z12), .int (nI z13), .int (nI z14), .int (nI z15), .long (lN z16), .ref z17, .int z18, .int (nI z19), .ref z20, .ref z21, .ref z22, .ref z23, .ref z24, .ref z25, .int (nI z26), .int (nI z27), .int (nI z28), .int z29, .int (nI z30), .int (nI z31), .ref z32, .ref z33, .ref z34, .ref z35, .ref z36, .int (bI z37), .int (nI z38), .int (nI z39), .int (nI z40), .int (nI z41), .int (nI z42), .int (nI z43), .int (nI z44), .int (nI z45), .int (nI z46), .ref z47, .ref z48, .ref z49, .ref z50, .ref z51, .ref z52, .int z53, .ref z54])) :: (z4, .inr (9, [.int (nI n), .int (nI mm), .ref pk, .ref pv, .ref pl, .ref pa, .ref pt, .ref pm, .ref pi])) :: R) s.heap := hW
    refine lv_aload_n F.1 F.2.1 dX14_count_0 rfl (lv_at hl 0 rfl) ?_
    refine lv_iconst (v := nI 0) F.1 F.2.1 dX14_count_1 rfl ?_
    refine gPut (w2 := (o, .inr (11, [.int (nI 0), .int (nI z1), .int z2, .int (nI z3), .ref z4, .ref z5, .int (bI z6), .ref z7, .ref z8, .int (nI z9), .int (nI z10), .int (nI z11), .int (nI z12), .int (nI z13), .int (nI z14), .int (nI z15), .long (lN z16), .ref z17, .int z18, .int (nI z19), .ref z20, .ref z21, .ref z22, .ref z23, .ref z24, .ref z25, .int (nI z26), .int (nI z27), .int (nI z28), .int z29, .int (nI z30), .int (nI z31), .ref z32, .ref z33, .ref z34, .ref z35, .ref z36, .int (bI z37), .int (nI z38), .int (nI z39), .int (nI z40), .int (nI z41), .int (nI z42), .int (nI z43), .int (nI z44), .int (nI z45), .int (nI z46), .ref z47, .ref z48, .ref z49, .ref z50, .ref z51, .ref z52, .int z53, .ref z54])) :: (z4, .inr (9, [.int (nI n), .int (nI mm), .ref pk, .ref pv, .ref pl, .ref pa, .ref pt, .ref pm, .ref pi])) :: R) F hS hG hW nX14_count_X14 0 rfl rfl 0 (by decide) tyX14 tyX14_ok nmX14 mX14_count_1 rfl rfl rfl rfl (Nat.le_of_ble_eq_true rfl) rfl dX14_count_2 (fun H locs hW hS => ?_)
    refine lv_iload_n F.1 F.2.1 dX14_count_5 rfl (lv_at hl 1 rfl) ?_
    refine lv_tableIn (tgt := 56) F.1 F.2.1 dX14_count_6 (by decide) (by decide) rfl (by decide) ?_
    refine lv_aload_n F.1 F.2.1 dX14_count_56 rfl (lv_at hl 0 rfl) ?_
    refine gGet F hG hW nX14_count_X14 0 rfl rfl 9 (by decide) mX14_count_5 rfl dX14_count_57 ?_
    refine gRi F hW hS dX14_count_60 ?_
    exact ⟨rfl, rfl⟩

