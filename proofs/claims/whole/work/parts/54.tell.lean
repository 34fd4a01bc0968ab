abbrev rm_X14_told : Room := ({ frames := 1, cells := 0, slots := 0, locals := 21 } : Room)
theorem mX14_told_1 : Cond.fieldLink RX14 129 "StepperHeartsModel" "thrown" "I" ∈ wsX14_told := List.mem_of_getElem? (i := 1) rfl
theorem nX14_told_X14 : ∀ w ∈ wsX140, w ∈ wsX14_told := fun _ h => List.mem_cons_of_mem _ (List.mem_append_right _ (h))
theorem mX14_told_2 : Cond.fieldLink RX14 317 "StepperHeartsModel" "hasRun" "Z" ∈ wsX14_told := List.mem_of_getElem? (i := 2) rfl
theorem mX14_told_3 : Cond.fieldLink RX14 332 "StepperHeartsModel" "ranMany" "I" ∈ wsX14_told := List.mem_of_getElem? (i := 3) rfl
theorem mX14_told_4 : Cond.fieldLink RX14 329 "StepperHeartsModel" "ranCost" "I" ∈ wsX14_told := List.mem_of_getElem? (i := 4) rfl
theorem mX14_told_5 : Cond.fieldLink RX14 335 "StepperHeartsModel" "ranPiled" "I" ∈ wsX14_told := List.mem_of_getElem? (i := 5) rfl
theorem mX14_told_6 : Cond.fieldLink RX14 338 "StepperHeartsModel" "ranOuts" "I" ∈ wsX14_told := List.mem_of_getElem? (i := 6) rfl
theorem mX14_told_7 : Cond.fieldLink RX14 341 "StepperHeartsModel" "ranPlace" "I" ∈ wsX14_told := List.mem_of_getElem? (i := 7) rfl
theorem mX14_told_8 : Cond.fieldLink RX14 344 "StepperHeartsModel" "ranMost" "I" ∈ wsX14_told := List.mem_of_getElem? (i := 8) rfl
set_option maxRecDepth 100000 in
set_option maxHeartbeats 4000000 in
theorem c_X14_told (g : gC) (l : Launch) {o : Nat} {z0 : Nat} {z1 : Nat} {z2 : Int32} {z3 : Nat} {z4 : Nat} {z5 : Nat} {z6 : Bool} {z7 : Nat} {z8 : Nat} {z9 : Nat} {z10 : Nat} {z11 : Nat} {z12 : Nat} {z13 : Nat} {z14 : Nat} {z15 : Nat} {z16 : Nat} {z17 : Nat} {z18 : Int32} {z19 : Nat} {z20 : Nat} {z21 : Nat} {z22 : Nat} {z23 : Nat} {z24 : Nat} {z25 : Nat} {z26 : Nat} {z27 : Nat} {z28 : Nat} {z29 : Int32} {z30 : Nat} {z31 : Nat} {z32 : Nat} {z33 : Nat} {z34 : Nat} {z35 : Nat} {z36 : Nat} {z37 : Bool} {z38 : Nat} {z39 : Nat} {z40 : Nat} {z41 : Nat} {z42 : Nat} {z43 : Nat} {z44 : Nat} {z45 : Nat} {z46 : Nat} {z47 : Nat} {z48 : Nat} {z49 : Nat} {z50 : Nat} {z51 : Nat} {z52 : Nat} {z53 : Int32} {z54 : Nat} {x : Int32} {R : va_W} : cI g l yX14_told wsX14_told rm_X14_told 0 0 [.ref o, .int x] ((o, .inr (11, [.int (nI z0), .int (nI z1), .int z2, .int (nI z3), .ref z4, .ref z5, .int (bI z6), .ref z7, .ref z8, .int (nI z9), .int (nI z10), .int (nI z11), .int (nI z12), .int (nI z13), .int (nI z14), .int (nI z15), .long (lN z16), .ref z17, .int z18, .int (nI z19), .ref z20, .ref z21, .ref z22, .ref z23, .ref z24, .ref z25, .int (nI z26), .int (nI z27), .int (nI z28), .int z29, .int (nI z30), .int (nI z31), .ref z32, .ref z33, .ref z34, .ref z35, .ref z36, .int (bI z37), .int (nI z38), .int (nI z39), .int (nI z40), .int (nI z41), .int (nI z42), .int (nI z43), .int (nI z44), .int (nI z45), .int (nI z46), .ref z47, .ref z48, .ref z49, .ref z50, .ref z51, .ref z52, .int z53, .ref z54])) :: R) (fun r u => (okS (if z37 = true then ixS x 6 (fun _ => 0) 1 else 5) (sel6 x (nI z41) (nI z40) (nI z42) (nI z43) (nI z44) (nI z45) (-1))) = r ∧ (o, .inr (11, [.int (nI 0), .int (nI (if z37 = true then ixS x 6 (fun _ => 0) 1 else 5)), .int (-1), .int (nI z3), .ref z4, .ref z5, .int (bI z6), .ref z7, .ref z8, .int (nI z9), .int (nI z10), .int (nI z11), .int (nI z12), .int (nI z13), .int (nI z14), .int (nI z15), .long (lN z16), .ref z17, .int z18, .int (nI z19), .ref z20, .ref z21, .ref z22, .ref z23, .ref z24, .ref z25, .int (nI z26), .int (nI z27), .int (nI z28), .int z29, .int (nI z30), .int (nI z31), .ref z32, .ref z33, .ref z34, .ref z35, .ref z36, .int (bI z37), .int (nI z38), .int (nI z39), .int (nI z40), .int (nI z41), .int (nI z42), .int (nI z43), .int (nI z44), .int (nI z45), .int (nI z46), .ref z47, .ref z48, .ref z49, .ref z50, .ref z51, .ref z52, .int z53, .ref z54])) :: R = u) := by
  refine gEnterQ (cc := cX14_told) (maxL := 2) (ret := (some (.int))) (by decide +kernel) rfl (Nat.le_of_ble_eq_true rfl) ?_
  intro p e s m below meth c F hG hW ls hl
  have hS : va_S (gA g) s.heap s.heap [] := va_S.rf
  have hl : lv_has ls 2 [(0, .ref o), (1, .int x)] := hl
  have hW : gW g ((o, .inr (11, [.int (nI z0), .int (nI z1), .int z2, .int (nI z3), .ref z4, .ref z5, .int (bI z6), .ref z7, .ref z8, .int (nI z9), .int (nI z10), .int (nI z11), .int (nI z12), .int (nI z13), .int (nI z14), .int (nI z15), .long (lN z16), .ref z17, .int z18, .int (nI z19), .ref z20, .ref z21, .ref z22, .ref z23, .ref z24, .ref z25, .int (nI z26), .int (nI z27), .int (nI z28), .int z29, .int (nI z30), .int (nI z31), .ref z32, .ref z33, .ref z34, .ref z35, .ref z36, .int (bI z37), .int (nI z38), .int (nI z39), .int (nI z40), .int (nI z41), .int (nI z42), .int (nI z43), .int (nI z44), .int (nI z45), .int (nI z46), .ref z47, .ref z48, .ref z49, .ref z50, .ref z51, .ref z52, .int z53, .ref z54])) :: R) s.heap := hW
  rcases sw6 x with hx | rfl | rfl | rfl | rfl | rfl | rfl
  · have hl : lv_has ls 2 [(0, .ref o), (1, .int x)] := hl
    have hW : gW g ((o, .inr (11, [.int (nI z0), .int (nI z1), .int z2, .int (nI z3), .ref z4, .ref z5, .int (bI z6), .ref z7, .ref z8, .int (nI z9), .int (nI z10), .int (nI z11), .int (nI z12), .int (nI z13), .int (nI z14), .int (nI z15), .long (lN z16), .ref z17, .int z18, .int (nI z19), .ref z20, .ref z21, .ref z22, .ref z23, .ref z24, .ref z25, .int (nI z26), .int (nI z27), .int (nI z28), .int z29, .int (nI z30), .int (nI z31), .ref z32, .ref z33, .ref z34, .ref z35, .ref z36, .int (bI z37), .int (nI z38), .int (nI z39), .int (nI z40), .int (nI z41), .int (nI z42), .int (nI z43), .int (nI z44), .int (nI z45), .int (nI z46), .ref z47, .ref z48, .ref z49, .ref z50, .ref z51, .ref z52, .int z53, .ref z54])) :: R) s.heap := hW
    refine lv_aload_n F.1 F.2.1 dX14_told_0 rfl (lv_at hl 0 rfl) ?_
    refine lv_iconst (v := nI 0) F.1 F.2.1 dX14_told_1 rfl ?_
    refine gPut (w2 := (o, .inr (11, [.int (nI 0), .int (nI z1), .int z2, .int (nI z3), .ref z4, .ref z5, .int (bI z6), .ref z7, .ref z8, .int (nI z9), .int (nI z10), .int (nI z11), .int (nI z12), .int (nI z13), .int (nI z14), .int (nI z15), .long (lN z16), .ref z17, .int z18, .int (nI z19), .ref z20, .ref z21, .ref z22, .ref z23, .ref z24, .ref z25, .int (nI z26), .int (nI z27), .int (nI z28), .int z29, .int (nI z30), .int (nI z31), .ref z32, .ref z33, .ref z34, .ref z35, .ref z36, .int (bI z37), .int (nI z38), .int (nI z39), .int (nI z40), .int (nI z41), .int (nI z42), .int (nI z43), .int (nI z44), .int (nI z45), .int (nI z46), .ref z47, .ref z48, .ref z49, .ref z50, .ref z51, .ref z52, .int z53, .ref z54])) :: R) F hS hG hW nX14_told_X14 0 rfl rfl 0 (by decide) tyX14 tyX14_ok nmX14 mX14_told_1 rfl rfl rfl rfl (Nat.le_of_ble_eq_true rfl) rfl dX14_told_2 (fun H locs hW hS => ?_)
    refine lv_aload_n F.1 F.2.1 dX14_told_5 rfl (lv_at hl 0 rfl) ?_
    refine gGet F hG hW nX14_told_X14 0 rfl rfl 37 (by decide) mX14_told_2 rfl dX14_told_6 ?_
    refine gIfNeB (tgt := 18) F dX14_told_9 (by decide) (fun c_9 => ?_) (fun c_9 => ?_)
    · refine lv_iload_n F.1 F.2.1 dX14_told_18 rfl (lv_at hl 1 rfl) ?_
      refine lv_tableOut (tgt := 110) F.1 F.2.1 dX14_told_19 (swc hx (by decide)) (by decide) ?_
      refine lv_aload_n F.1 F.2.1 dX14_told_110 rfl (lv_at hl 0 rfl) ?_
      refine lv_iconst (v := nI 1) F.1 F.2.1 dX14_told_111 rfl ?_
      refine gVi (n := 1) (q := (RX14, TX14, 55)) (q0 := 0) (As := [.int (nI 1)]) F hG hS hW (c_X14_refused g l  ) rfl gX14_told_X14_refused rfl rfl rfl (by decide +kernel) ⟨rfl, rfl, Nat.le_of_ble_eq_true rfl, Nat.le_of_ble_eq_true rfl⟩ hl.1 (Nat.le_of_ble_eq_true rfl) ⟨Nat.le_of_ble_eq_true rfl, Nat.le_of_ble_eq_true rfl⟩ rfl rfl dX14_told_112 (fun r u H locs hq hW hS => ?_)
      obtain ⟨rfl, rfl⟩ := hq
      have hW : gW g ((o, .inr (11, [.int (nI 0), .int (nI 1), .int (-1), .int (nI z3), .ref z4, .ref z5, .int (bI z6), .ref z7, .ref z8, .int (nI z9), .int (nI z10), .int (nI z11), .int (nI z12), .int (nI z13), .int (nI z14), .int (nI z15), .long (lN z16), .ref z17, .int z18, .int (nI z19), .ref z20, .ref z21, .ref z22, .ref z23, .ref z24, .ref z25, .int (nI z26), .int (nI z27), .int (nI z28), .int z29, .int (nI z30), .int (nI z31), .ref z32, .ref z33, .ref z34, .ref z35, .ref z36, .int (bI z37), .int (nI z38), .int (nI z39), .int (nI z40), .int (nI z41), .int (nI z42), .int (nI z43), .int (nI z44), .int (nI z45), .int (nI z46), .ref z47, .ref z48, .ref z49, .ref z50, .ref z51, .ref z52, .int z53, .ref z54])) :: R) _ := hW
      refine gRi F hW hS dX14_told_115 ?_
      rw [c_9, if_pos rfl, ixS_out hx (by decide)]
      exact ⟨rfl, rfl⟩
    · refine lv_aload_n F.1 F.2.1 dX14_told_12 rfl (lv_at hl 0 rfl) ?_
      refine lv_iconst (v := nI 5) F.1 F.2.1 dX14_told_13 rfl ?_
      refine gVi (n := 1) (q := (RX14, TX14, 55)) (q0 := 0) (As := [.int (nI 5)]) F hG hS hW (c_X14_refused g l  ) rfl gX14_told_X14_refused rfl rfl rfl (by decide +kernel) ⟨rfl, rfl, Nat.le_of_ble_eq_true rfl, Nat.le_of_ble_eq_true rfl⟩ hl.1 (Nat.le_of_ble_eq_true rfl) ⟨Nat.le_of_ble_eq_true rfl, Nat.le_of_ble_eq_true rfl⟩ rfl rfl dX14_told_14 (fun r u H locs hq hW hS => ?_)
      obtain ⟨rfl, rfl⟩ := hq
      have hW : gW g ((o, .inr (11, [.int (nI 0), .int (nI 5), .int (-1), .int (nI z3), .ref z4, .ref z5, .int (bI z6), .ref z7, .ref z8, .int (nI z9), .int (nI z10), .int (nI z11), .int (nI z12), .int (nI z13), .int (nI z14), .int (nI z15), .long (lN z16), .ref z17, .int z18, .int (nI z19), .ref z20, .ref z21, .ref z22, .ref z23, .ref z24, .ref z25, .int (nI z26), .int (nI z27), .int (nI z28), .int z29, .int (nI z30), .int (nI z31), .ref z32, .ref z33, .ref z34, .ref z35, .ref z36, .int (bI z37), .int (nI z38), .int (nI z39), .int (nI z40), .int (nI z41), .int (nI z42), .int (nI z43), .int (nI z44), .int (nI z45), .int (nI z46), .ref z47, .ref z48, .ref z49, .ref z50, .ref z51, .ref z52, .int z53, .ref z54])) :: R) _ := hW
      refine gRi F hW hS dX14_told_17 ?_
      rw [c_9]
      exact ⟨rfl, rfl⟩
  · have hl : lv_has ls 2 [(0, .ref o), (1, .int (nI 0))] := hl
    have hW : gW g ((o, .inr (11, [.int (nI z0), .int (nI z1), .int z2, .int (nI z3), .ref z4, .ref z5, .int (bI z6), .ref z7, .ref z8, .int (nI z9), .int (nI z10), .int (nI z11), .int (nI z12), .int (nI z13), .int (nI z14), .int (nI z15), .long (lN z16), .ref z17, .int z18, .int (nI z19), .ref z20, .ref z21, .ref z22, .ref z23, .ref z24, .ref z25, .int (nI z26), .int (nI z27), .int (nI z28), .int z29, .int (nI z30), .int (nI z31), .ref z32, .ref z33, .ref z34, .ref z35, .ref z36, .int (bI z37), .int (nI z38), .int (nI z39), .int (nI z40), .int (nI z41), .int (nI z42), .int (nI z43), .int (nI z44), .int (nI z45), .int (nI z46), .ref z47, .ref z48, .ref z49, .ref z50, .ref z51, .ref z52, .int z53, .ref z54])) :: R) s.heap := hW
    refine lv_aload_n F.1 F.2.1 dX14_told_0 rfl (lv_at hl 0 rfl) ?_
    refine lv_iconst (v := nI 0) F.1 F.2.1 dX14_told_1 rfl ?_
    refine gPut (w2 := (o, .inr (11, [.int (nI 0), .int (nI z1), .int z2, .int (nI z3), .ref z4, .ref z5, .int (bI z6), .ref z7, .ref z8, .int (nI z9), .int (nI z10), .int (nI z11), .int (nI z12), .int (nI z13), .int (nI z14), .int (nI z15), .long (lN z16), .ref z17, .int z18, .int (nI z19), .ref z20, .ref z21, .ref z22, .ref z23, .ref z24, .ref z25, .int (nI z26), .int (nI z27), .int (nI z28), .int z29, .int (nI z30), .int (nI z31), .ref z32, .ref z33, .ref z34, .ref z35, .ref z36, .int (bI z37), .int (nI z38), .int (nI z39), .int (nI z40), .int (nI z41), .int (nI z42), .int (nI z43), .int (nI z44), .int (nI z45), .int (nI z46), .ref z47, .ref z48, .ref z49, .ref z50, .ref z51, .ref z52, .int z53, .ref z54])) :: R) F hS hG hW nX14_told_X14 0 rfl rfl 0 (by decide) tyX14 tyX14_ok nmX14 mX14_told_1 rfl rfl rfl rfl (Nat.le_of_ble_eq_true rfl) rfl dX14_told_2 (fun H locs hW hS => ?_)
    refine lv_aload_n F.1 F.2.1 dX14_told_5 rfl (lv_at hl 0 rfl) ?_
    refine gGet F hG hW nX14_told_X14 0 rfl rfl 37 (by decide) mX14_told_2 rfl dX14_told_6 ?_
    refine gIfNeB (tgt := 18) F dX14_told_9 (by decide) (fun c_9 => ?_) (fun c_9 => ?_)
    · refine lv_iload_n F.1 F.2.1 dX14_told_18 rfl (lv_at hl 1 rfl) ?_
      refine lv_tableIn (tgt := 56) F.1 F.2.1 dX14_told_19 (by decide) (by decide) rfl (by decide) ?_
      refine lv_aload_n F.1 F.2.1 dX14_told_56 rfl (lv_at hl 0 rfl) ?_
      refine lv_aload_n F.1 F.2.1 dX14_told_57 rfl (lv_at hl 0 rfl) ?_
      refine gGet F hG hW nX14_told_X14 0 rfl rfl 41 (by decide) mX14_told_3 rfl dX14_told_58 ?_
      refine gVi (n := 1) (q := (RX14, TX14, 55)) (q0 := 0) (As := [.int (nI z41)]) F hG hS hW (c_X14_done g l  ) rfl gX14_told_X14_done rfl rfl rfl (by decide +kernel) ⟨rfl, rfl, Nat.le_of_ble_eq_true rfl, Nat.le_of_ble_eq_true rfl⟩ hl.1 (Nat.le_of_ble_eq_true rfl) ⟨Nat.le_of_ble_eq_true rfl, Nat.le_of_ble_eq_true rfl⟩ rfl rfl dX14_told_61 (fun r u H locs hq hW hS => ?_)
      obtain ⟨rfl, rfl⟩ := hq
      have hW : gW g ((o, .inr (11, [.int (nI 0), .int (nI 0), .int (-1), .int (nI z3), .ref z4, .ref z5, .int (bI z6), .ref z7, .ref z8, .int (nI z9), .int (nI z10), .int (nI z11), .int (nI z12), .int (nI z13), .int (nI z14), .int (nI z15), .long (lN z16), .ref z17, .int z18, .int (nI z19), .ref z20, .ref z21, .ref z22, .ref z23, .ref z24, .ref z25, .int (nI z26), .int (nI z27), .int (nI z28), .int z29, .int (nI z30), .int (nI z31), .ref z32, .ref z33, .ref z34, .ref z35, .ref z36, .int (bI z37), .int (nI z38), .int (nI z39), .int (nI z40), .int (nI z41), .int (nI z42), .int (nI z43), .int (nI z44), .int (nI z45), .int (nI z46), .ref z47, .ref z48, .ref z49, .ref z50, .ref z51, .ref z52, .int z53, .ref z54])) :: R) _ := hW
      refine gRi F hW hS dX14_told_64 ?_
      rw [c_9]
      exact ⟨rfl, rfl⟩
    · refine lv_aload_n F.1 F.2.1 dX14_told_12 rfl (lv_at hl 0 rfl) ?_
      refine lv_iconst (v := nI 5) F.1 F.2.1 dX14_told_13 rfl ?_
      refine gVi (n := 1) (q := (RX14, TX14, 55)) (q0 := 0) (As := [.int (nI 5)]) F hG hS hW (c_X14_refused g l  ) rfl gX14_told_X14_refused rfl rfl rfl (by decide +kernel) ⟨rfl, rfl, Nat.le_of_ble_eq_true rfl, Nat.le_of_ble_eq_true rfl⟩ hl.1 (Nat.le_of_ble_eq_true rfl) ⟨Nat.le_of_ble_eq_true rfl, Nat.le_of_ble_eq_true rfl⟩ rfl rfl dX14_told_14 (fun r u H locs hq hW hS => ?_)
      obtain ⟨rfl, rfl⟩ := hq
      have hW : gW g ((o, .inr (11, [.int (nI 0), .int (nI 5), .int (-1), .int (nI z3), .ref z4, .ref z5, .int (bI z6), .ref z7, .ref z8, .int (nI z9), .int (nI z10), .int (nI z11), .int (nI z12), .int (nI z13), .int (nI z14), .int (nI z15), .long (lN z16), .ref z17, .int z18, .int (nI z19), .ref z20, .ref z21, .ref z22, .ref z23, .ref z24, .ref z25, .int (nI z26), .int (nI z27), .int (nI z28), .int z29, .int (nI z30), .int (nI z31), .ref z32, .ref z33, .ref z34, .ref z35, .ref z36, .int (bI z37), .int (nI z38), .int (nI z39), .int (nI z40), .int (nI z41), .int (nI z42), .int (nI z43), .int (nI z44), .int (nI z45), .int (nI z46), .ref z47, .ref z48, .ref z49, .ref z50, .ref z51, .ref z52, .int z53, .ref z54])) :: R) _ := hW
      refine gRi F hW hS dX14_told_17 ?_
      rw [c_9]
      exact ⟨rfl, rfl⟩
  · have hl : lv_has ls 2 [(0, .ref o), (1, .int (nI 1))] := hl
    have hW : gW g ((o, .inr (11, [.int (nI z0), .int (nI z1), .int z2, .int (nI z3), .ref z4, .ref z5, .int (bI z6), .ref z7, .ref z8, .int (nI z9), .int (nI z10), .int (nI z11), .int (nI z12), .int (nI z13), .int (nI z14), .int (nI z15), .long (lN z16), .ref z17, .int z18, .int (nI z19), .ref z20, .ref z21, .ref z22, .ref z23, .ref z24, .ref z25, .int (nI z26), .int (nI z27), .int (nI z28), .int z29, .int (nI z30), .int (nI z31), .ref z32, .ref z33, .ref z34, .ref z35, .ref z36, .int (bI z37), .int (nI z38), .int (nI z39), .int (nI z40), .int (nI z41), .int (nI z42), .int (nI z43), .int (nI z44), .int (nI z45), .int (nI z46), .ref z47, .ref z48, .ref z49, .ref z50, .ref z51, .ref z52, .int z53, .ref z54])) :: R) s.heap := hW
    refine lv_aload_n F.1 F.2.1 dX14_told_0 rfl (lv_at hl 0 rfl) ?_
    refine lv_iconst (v := nI 0) F.1 F.2.1 dX14_told_1 rfl ?_
    refine gPut (w2 := (o, .inr (11, [.int (nI 0), .int (nI z1), .int z2, .int (nI z3), .ref z4, .ref z5, .int (bI z6), .ref z7, .ref z8, .int (nI z9), .int (nI z10), .int (nI z11), .int (nI z12), .int (nI z13), .int (nI z14), .int (nI z15), .long (lN z16), .ref z17, .int z18, .int (nI z19), .ref z20, .ref z21, .ref z22, .ref z23, .ref z24, .ref z25, .int (nI z26), .int (nI z27), .int (nI z28), .int z29, .int (nI z30), .int (nI z31), .ref z32, .ref z33, .ref z34, .ref z35, .ref z36, .int (bI z37), .int (nI z38), .int (nI z39), .int (nI z40), .int (nI z41), .int (nI z42), .int (nI z43), .int (nI z44), .int (nI z45), .int (nI z46), .ref z47, .ref z48, .ref z49, .ref z50, .ref z51, .ref z52, .int z53, .ref z54])) :: R) F hS hG hW nX14_told_X14 0 rfl rfl 0 (by decide) tyX14 tyX14_ok nmX14 mX14_told_1 rfl rfl rfl rfl (Nat.le_of_ble_eq_true rfl) rfl dX14_told_2 (fun H locs hW hS => ?_)
    refine lv_aload_n F.1 F.2.1 dX14_told_5 rfl (lv_at hl 0 rfl) ?_
    refine gGet F hG hW nX14_told_X14 0 rfl rfl 37 (by decide) mX14_told_2 rfl dX14_told_6 ?_
    refine gIfNeB (tgt := 18) F dX14_told_9 (by decide) (fun c_9 => ?_) (fun c_9 => ?_)
    · refine lv_iload_n F.1 F.2.1 dX14_told_18 rfl (lv_at hl 1 rfl) ?_
      refine lv_tableIn (tgt := 65) F.1 F.2.1 dX14_told_19 (by decide) (by decide) rfl (by decide) ?_
      refine lv_aload_n F.1 F.2.1 dX14_told_65 rfl (lv_at hl 0 rfl) ?_
      refine lv_aload_n F.1 F.2.1 dX14_told_66 rfl (lv_at hl 0 rfl) ?_
      refine gGet F hG hW nX14_told_X14 0 rfl rfl 40 (by decide) mX14_told_4 rfl dX14_told_67 ?_
      refine gVi (n := 1) (q := (RX14, TX14, 55)) (q0 := 0) (As := [.int (nI z40)]) F hG hS hW (c_X14_done g l  ) rfl gX14_told_X14_done rfl rfl rfl (by decide +kernel) ⟨rfl, rfl, Nat.le_of_ble_eq_true rfl, Nat.le_of_ble_eq_true rfl⟩ hl.1 (Nat.le_of_ble_eq_true rfl) ⟨Nat.le_of_ble_eq_true rfl, Nat.le_of_ble_eq_true rfl⟩ rfl rfl dX14_told_70 (fun r u H locs hq hW hS => ?_)
      obtain ⟨rfl, rfl⟩ := hq
      have hW : gW g ((o, .inr (11, [.int (nI 0), .int (nI 0), .int (-1), .int (nI z3), .ref z4, .ref z5, .int (bI z6), .ref z7, .ref z8, .int (nI z9), .int (nI z10), .int (nI z11), .int (nI z12), .int (nI z13), .int (nI z14), .int (nI z15), .long (lN z16), .ref z17, .int z18, .int (nI z19), .ref z20, .ref z21, .ref z22, .ref z23, .ref z24, .ref z25, .int (nI z26), .int (nI z27), .int (nI z28), .int z29, .int (nI z30), .int (nI z31), .ref z32, .ref z33, .ref z34, .ref z35, .ref z36, .int (bI z37), .int (nI z38), .int (nI z39), .int (nI z40), .int (nI z41), .int (nI z42), .int (nI z43), .int (nI z44), .int (nI z45), .int (nI z46), .ref z47, .ref z48, .ref z49, .ref z50, .ref z51, .ref z52, .int z53, .ref z54])) :: R) _ := hW
      refine gRi F hW hS dX14_told_73 ?_
      rw [c_9]
      exact ⟨rfl, rfl⟩
    · refine lv_aload_n F.1 F.2.1 dX14_told_12 rfl (lv_at hl 0 rfl) ?_
      refine lv_iconst (v := nI 5) F.1 F.2.1 dX14_told_13 rfl ?_
      refine gVi (n := 1) (q := (RX14, TX14, 55)) (q0 := 0) (As := [.int (nI 5)]) F hG hS hW (c_X14_refused g l  ) rfl gX14_told_X14_refused rfl rfl rfl (by decide +kernel) ⟨rfl, rfl, Nat.le_of_ble_eq_true rfl, Nat.le_of_ble_eq_true rfl⟩ hl.1 (Nat.le_of_ble_eq_true rfl) ⟨Nat.le_of_ble_eq_true rfl, Nat.le_of_ble_eq_true rfl⟩ rfl rfl dX14_told_14 (fun r u H locs hq hW hS => ?_)
      obtain ⟨rfl, rfl⟩ := hq
      have hW : gW g ((o, .inr (11, [.int (nI 0), .int (nI 5), .int (-1), .int (nI z3), .ref z4, .ref z5, .int (bI z6), .ref z7, .ref z8, .int (nI z9), .int (nI z10), .int (nI z11), .int (nI z12), .int (nI z13), .int (nI z14), .int (nI z15), .long (lN z16), .ref z17, .int z18, .int (nI z19), .ref z20, .ref z21, .ref z22, .ref z23, .ref z24, .ref z25, .int (nI z26), .int (nI z27), .int (nI z28), .int z29, .int (nI z30), .int (nI z31), .ref z32, .ref z33, .ref z34, .ref z35, .ref z36, .int (bI z37), .int (nI z38), .int (nI z39), .int (nI z40), .int (nI z41), .int (nI z42), .int (nI z43), .int (nI z44), .int (nI z45), .int (nI z46), .ref z47, .ref z48, .ref z49, .ref z50, .ref z51, .ref z52, .int z53, .ref z54])) :: R) _ := hW
      refine gRi F hW hS dX14_told_17 ?_
      rw [c_9]
      exact ⟨rfl, rfl⟩
  · have hl : lv_has ls 2 [(0, .ref o), (1, .int (nI 2))] := hl
    have hW : gW g ((o, .inr (11, [.int (nI z0), .int (nI z1), .int z2, .int (nI z3), .ref z4, .ref z5, .int (bI z6), .ref z7, .ref z8, .int (nI z9), .int (nI z10), .int (nI z11), .int (nI z12), .int (nI z13), .int (nI z14), .int (nI z15), .long (lN z16), .ref z17, .int z18, .int (nI z19), .ref z20, .ref z21, .ref z22, .ref z23, .ref z24, .ref z25, .int (nI z26), .int (nI z27), .int (nI z28), .int z29, .int (nI z30), .int (nI z31), .ref z32, .ref z33, .ref z34, .ref z35, .ref z36, .int (bI z37), .int (nI z38), .int (nI z39), .int (nI z40), .int (nI z41), .int (nI z42), .int (nI z43), .int (nI z44), .int (nI z45), .int (nI z46), .ref z47, .ref z48, .ref z49, .ref z50, .ref z51, .ref z52, .int z53, .ref z54])) :: R) s.heap := hW
    refine lv_aload_n F.1 F.2.1 dX14_told_0 rfl (lv_at hl 0 rfl) ?_
    refine lv_iconst (v := nI 0) F.1 F.2.1 dX14_told_1 rfl ?_
    refine gPut (w2 := (o, .inr (11, [.int (nI 0), .int (nI z1), .int z2, .int (nI z3), .ref z4, .ref z5, .int (bI z6), .ref z7, .ref z8, .int (nI z9), .int (nI z10), .int (nI z11), .int (nI z12), .int (nI z13), .int (nI z14), .int (nI z15), .long (lN z16), .ref z17, .int z18, .int (nI z19), .ref z20, .ref z21, .ref z22, .ref z23, .ref z24, .ref z25, .int (nI z26), .int (nI z27), .int (nI z28), .int z29, .int (nI z30), .int (nI z31), .ref z32, .ref z33, .ref z34, .ref z35, .ref z36, .int (bI z37), .int (nI z38), .int (nI z39), .int (nI z40), .int (nI z41), .int (nI z42), .int (nI z43), .int (nI z44), .int (nI z45), .int (nI z46), .ref z47, .ref z48, .ref z49, .ref z50, .ref z51, .ref z52, .int z53, .ref z54])) :: R) F hS hG hW nX14_told_X14 0 rfl rfl 0 (by decide) tyX14 tyX14_ok nmX14 mX14_told_1 rfl rfl rfl rfl (Nat.le_of_ble_eq_true rfl) rfl dX14_told_2 (fun H locs hW hS => ?_)
    refine lv_aload_n F.1 F.2.1 dX14_told_5 rfl (lv_at hl 0 rfl) ?_
    refine gGet F hG hW nX14_told_X14 0 rfl rfl 37 (by decide) mX14_told_2 rfl dX14_told_6 ?_
    refine gIfNeB (tgt := 18) F dX14_told_9 (by decide) (fun c_9 => ?_) (fun c_9 => ?_)
    · refine lv_iload_n F.1 F.2.1 dX14_told_18 rfl (lv_at hl 1 rfl) ?_
      refine lv_tableIn (tgt := 74) F.1 F.2.1 dX14_told_19 (by decide) (by decide) rfl (by decide) ?_
      refine lv_aload_n F.1 F.2.1 dX14_told_74 rfl (lv_at hl 0 rfl) ?_
      refine lv_aload_n F.1 F.2.1 dX14_told_75 rfl (lv_at hl 0 rfl) ?_
      refine gGet F hG hW nX14_told_X14 0 rfl rfl 42 (by decide) mX14_told_5 rfl dX14_told_76 ?_
      refine gVi (n := 1) (q := (RX14, TX14, 55)) (q0 := 0) (As := [.int (nI z42)]) F hG hS hW (c_X14_done g l  ) rfl gX14_told_X14_done rfl rfl rfl (by decide +kernel) ⟨rfl, rfl, Nat.le_of_ble_eq_true rfl, Nat.le_of_ble_eq_true rfl⟩ hl.1 (Nat.le_of_ble_eq_true rfl) ⟨Nat.le_of_ble_eq_true rfl, Nat.le_of_ble_eq_true rfl⟩ rfl rfl dX14_told_79 (fun r u H locs hq hW hS => ?_)
      obtain ⟨rfl, rfl⟩ := hq
      have hW : gW g ((o, .inr (11, [.int (nI 0), .int (nI 0), .int (-1), .int (nI z3), .ref z4, .ref z5, .int (bI z6), .ref z7, .ref z8, .int (nI z9), .int (nI z10), .int (nI z11), .int (nI z12), .int (nI z13), .int (nI z14), .int (nI z15), .long (lN z16), .ref z17, .int z18, .int (nI z19), .ref z20, .ref z21, .ref z22, .ref z23, .ref z24, .ref z25, .int (nI z26), .int (nI z27), .int (nI z28), .int z29, .int (nI z30), .int (nI z31), .ref z32, .ref z33, .ref z34, .ref z35, .ref z36, .int (bI z37), .int (nI z38), .int (nI z39), .int (nI z40), .int (nI z41), .int (nI z42), .int (nI z43), .int (nI z44), .int (nI z45), .int (nI z46), .ref z47, .ref z48, .ref z49, .ref z50, .ref z51, .ref z52, .int z53, .ref z54])) :: R) _ := hW
      refine gRi F hW hS dX14_told_82 ?_
      rw [c_9]
      exact ⟨rfl, rfl⟩
    · refine lv_aload_n F.1 F.2.1 dX14_told_12 rfl (lv_at hl 0 rfl) ?_
      refine lv_iconst (v := nI 5) F.1 F.2.1 dX14_told_13 rfl ?_
      refine gVi (n := 1) (q := (RX14, TX14, 55)) (q0 := 0) (As := [.int (nI 5)]) F hG hS hW (c_X14_refused g l  ) rfl gX14_told_X14_refused rfl rfl rfl (by decide +kernel) ⟨rfl, rfl, Nat.le_of_ble_eq_true rfl, Nat.le_of_ble_eq_true rfl⟩ hl.1 (Nat.le_of_ble_eq_true rfl) ⟨Nat.le_of_ble_eq_true rfl, Nat.le_of_ble_eq_true rfl⟩ rfl rfl dX14_told_14 (fun r u H locs hq hW hS => ?_)
      obtain ⟨rfl, rfl⟩ := hq
      have hW : gW g ((o, .inr (11, [.int (nI 0), .int (nI 5), .int (-1), .int (nI z3), .ref z4, .ref z5, .int (bI z6), .ref z7, .ref z8, .int (nI z9), .int (nI z10), .int (nI z11), .int (nI z12), .int (nI z13), .int (nI z14), .int (nI z15), .long (lN z16), .ref z17, .int z18, .int (nI z19), .ref z20, .ref z21, .ref z22, .ref z23, .ref z24, .ref z25, .int (nI z26), .int (nI z27), .int (nI z28), .int z29, .int (nI z30), .int (nI z31), .ref z32, .ref z33, .ref z34, .ref z35, .ref z36, .int (bI z37), .int (nI z38), .int (nI z39), .int (nI z40), .int (nI z41), .int (nI z42), .int (nI z43), .int (nI z44), .int (nI z45), .int (nI z46), .ref z47, .ref z48, .ref z49, .ref z50, .ref z51, .ref z52, .int z53, .ref z54])) :: R) _ := hW
      refine gRi F hW hS dX14_told_17 ?_
      rw [c_9]
      exact ⟨rfl, rfl⟩
  · have hl : lv_has ls 2 [(0, .ref o), (1, .int (nI 3))] := hl
    have hW : gW g ((o, .inr (11, [.int (nI z0), .int (nI z1), .int z2, .int (nI z3), .ref z4, .ref z5, .int (bI z6), .ref z7, .ref z8, .int (nI z9), .int (nI z10), .int (nI z11), .int (nI z12), .int (nI z13), .int (nI z14), .int (nI z15), .long (lN z16), .ref z17, .int z18, .int (nI z19), .ref z20, .ref z21, .ref z22, .ref z23, .ref z24, .ref z25, .int (nI z26), .int (nI z27), .int (nI z28), .int z29, .int (nI z30), .int (nI z31), .ref z32, .ref z33, .ref z34, .ref z35, .ref z36, .int (bI z37), .int (nI z38), .int (nI z39), .int (nI z40), .int (nI z41), .int (nI z42), .int (nI z43), .int (nI z44), .int (nI z45), .int (nI z46), .ref z47, .ref z48, .ref z49, .ref z50, .ref z51, .ref z52, .int z53, .ref z54])) :: R) s.heap := hW
    refine lv_aload_n F.1 F.2.1 dX14_told_0 rfl (lv_at hl 0 rfl) ?_
    refine lv_iconst (v := nI 0) F.1 F.2.1 dX14_told_1 rfl ?_
    refine gPut (w2 := (o, .inr (11, [.int (nI 0), .int (nI z1), .int z2, .int (nI z3), .ref z4, .ref z5, .int (bI z6), .ref z7, .ref z8, .int (nI z9), .int (nI z10), .int (nI z11), .int (nI z12), .int (nI z13), .int (nI z14), .int (nI z15), .long (lN z16), .ref z17, .int z18, .int (nI z19), .ref z20, .ref z21, .ref z22, .ref z23, .ref z24, .ref z25, .int (nI z26), .int (nI z27), .int (nI z28), .int z29, .int (nI z30), .int (nI z31), .ref z32, .ref z33, .ref z34, .ref z35, .ref z36, .int (bI z37), .int (nI z38), .int (nI z39), .int (nI z40), .int (nI z41), .int (nI z42), .int (nI z43), .int (nI z44), .int (nI z45), .int (nI z46), .ref z47, .ref z48, .ref z49, .ref z50, .ref z51, .ref z52, .int z53, .ref z54])) :: R) F hS hG hW nX14_told_X14 0 rfl rfl 0 (by decide) tyX14 tyX14_ok nmX14 mX14_told_1 rfl rfl rfl rfl (Nat.le_of_ble_eq_true rfl) rfl dX14_told_2 (fun H locs hW hS => ?_)
    refine lv_aload_n F.1 F.2.1 dX14_told_5 rfl (lv_at hl 0 rfl) ?_
    refine gGet F hG hW nX14_told_X14 0 rfl rfl 37 (by decide) mX14_told_2 rfl dX14_told_6 ?_
    refine gIfNeB (tgt := 18) F dX14_told_9 (by decide) (fun c_9 => ?_) (fun c_9 => ?_)
    · refine lv_iload_n F.1 F.2.1 dX14_told_18 rfl (lv_at hl 1 rfl) ?_
      refine lv_tableIn (tgt := 83) F.1 F.2.1 dX14_told_19 (by decide) (by decide) rfl (by decide) ?_
      refine lv_aload_n F.1 F.2.1 dX14_told_83 rfl (lv_at hl 0 rfl) ?_
      refine lv_aload_n F.1 F.2.1 dX14_told_84 rfl (lv_at hl 0 rfl) ?_
      refine gGet F hG hW nX14_told_X14 0 rfl rfl 43 (by decide) mX14_told_6 rfl dX14_told_85 ?_
      refine gVi (n := 1) (q := (RX14, TX14, 55)) (q0 := 0) (As := [.int (nI z43)]) F hG hS hW (c_X14_done g l  ) rfl gX14_told_X14_done rfl rfl rfl (by decide +kernel) ⟨rfl, rfl, Nat.le_of_ble_eq_true rfl, Nat.le_of_ble_eq_true rfl⟩ hl.1 (Nat.le_of_ble_eq_true rfl) ⟨Nat.le_of_ble_eq_true rfl, Nat.le_of_ble_eq_true rfl⟩ rfl rfl dX14_told_88 (fun r u H locs hq hW hS => ?_)
      obtain ⟨rfl, rfl⟩ := hq
      have hW : gW g ((o, .inr (11, [.int (nI 0), .int (nI 0), .int (-1), .int (nI z3), .ref z4, .ref z5, .int (bI z6), .ref z7, .ref z8, .int (nI z9), .int (nI z10), .int (nI z11), .int (nI z12), .int (nI z13), .int (nI z14), .int (nI z15), .long (lN z16), .ref z17, .int z18, .int (nI z19), .ref z20, .ref z21, .ref z22, .ref z23, .ref z24, .ref z25, .int (nI z26), .int (nI z27), .int (nI z28), .int z29, .int (nI z30), .int (nI z31), .ref z32, .ref z33, .ref z34, .ref z35, .ref z36, .int (bI z37), .int (nI z38), .int (nI z39), .int (nI z40), .int (nI z41), .int (nI z42), .int (nI z43), .int (nI z44), .int (nI z45), .int (nI z46), .ref z47, .ref z48, .ref z49, .ref z50, .ref z51, .ref z52, .int z53, .ref z54])) :: R) _ := hW
      refine gRi F hW hS dX14_told_91 ?_
      rw [c_9]
      exact ⟨rfl, rfl⟩
    · refine lv_aload_n F.1 F.2.1 dX14_told_12 rfl (lv_at hl 0 rfl) ?_
      refine lv_iconst (v := nI 5) F.1 F.2.1 dX14_told_13 rfl ?_
      refine gVi (n := 1) (q := (RX14, TX14, 55)) (q0 := 0) (As := [.int (nI 5)]) F hG hS hW (c_X14_refused g l  ) rfl gX14_told_X14_refused rfl rfl rfl (by decide +kernel) ⟨rfl, rfl, Nat.le_of_ble_eq_true rfl, Nat.le_of_ble_eq_true rfl⟩ hl.1 (Nat.le_of_ble_eq_true rfl) ⟨Nat.le_of_ble_eq_true rfl, Nat.le_of_ble_eq_true rfl⟩ rfl rfl dX14_told_14 (fun r u H locs hq hW hS => ?_)
      obtain ⟨rfl, rfl⟩ := hq
      have hW : gW g ((o, .inr (11, [.int (nI 0), .int (nI 5), .int (-1), .int (nI z3), .ref z4, .ref z5, .int (bI z6), .ref z7, .ref z8, .int (nI z9), .int (nI z10), .int (nI z11), .int (nI z12), .int (nI z13), .int (nI z14), .int (nI z15), .long (lN z16), .ref z17, .int z18, .int (nI z19), .ref z20, .ref z21, .ref z22, .ref z23, .ref z24, .ref z25, .int (nI z26), .int (nI z27), .int (nI z28), .int z29, .int (nI z30), .int (nI z31), .ref z32, .ref z33, .ref z34, .ref z35, .ref z36, .int (bI z37), .int (nI z38), .int (nI z39), .int (nI z40), .int (nI z41), .int (nI z42), .int (nI z43), .int (nI z44), .int (nI z45), .int (nI z46), .ref z47, .ref z48, .ref z49, .ref z50, .ref z51, .ref z52, .int z53, .ref z54])) :: R) _ := hW
      refine gRi F hW hS dX14_told_17 ?_
      rw [c_9]
      exact ⟨rfl, rfl⟩
  · have hl : lv_has ls 2 [(0, .ref o), (1, .int (nI 4))] := hl
    have hW : gW g ((o, .inr (11, [.int (nI z0), .int (nI z1), .int z2, .int (nI z3), .ref z4, .ref z5, .int (bI z6), .ref z7, .ref z8, .int (nI z9), .int (nI z10), .int (nI z11), .int (nI z12), .int (nI z13), .int (nI z14), .int (nI z15), .long (lN z16), .ref z17, .int z18, .int (nI z19), .ref z20, .ref z21, .ref z22, .ref z23, .ref z24, .ref z25, .int (nI z26), .int (nI z27), .int (nI z28), .int z29, .int (nI z30), .int (nI z31), .ref z32, .ref z33, .ref z34, .ref z35, .ref z36, .int (bI z37), .int (nI z38), .int (nI z39), .int (nI z40), .int (nI z41), .int (nI z42), .int (nI z43), .int (nI z44), .int (nI z45), .int (nI z46), .ref z47, .ref z48, .ref z49, .ref z50, .ref z51, .ref z52, .int z53, .ref z54])) :: R) s.heap := hW
    refine lv_aload_n F.1 F.2.1 dX14_told_0 rfl (lv_at hl 0 rfl) ?_
    refine lv_iconst (v := nI 0) F.1 F.2.1 dX14_told_1 rfl ?_
    refine gPut (w2 := (o, .inr (11, [.int (nI 0), .int (nI z1), .int z2, .int (nI z3), .ref z4, .ref z5, .int (bI z6), .ref z7, .ref z8, .int (nI z9), .int (nI z10), .int (nI z11), .int (nI z12), .int (nI z13), .int (nI z14), .int (nI z15), .long (lN z16), .ref z17, .int z18, .int (nI z19), .ref z20, .ref z21, .ref z22, .ref z23, .ref z24, .ref z25, .int (nI z26), .int (nI z27), .int (nI z28), .int z29, .int (nI z30), .int (nI z31), .ref z32, .ref z33, .ref z34, .ref z35, .ref z36, .int (bI z37), .int (nI z38), .int (nI z39), .int (nI z40), .int (nI z41), .int (nI z42), .int (nI z43), .int (nI z44), .int (nI z45), .int (nI z46), .ref z47, .ref z48, .ref z49, .ref z50, .ref z51, .ref z52, .int z53, .ref z54])) :: R) F hS hG hW nX14_told_X14 0 rfl rfl 0 (by decide) tyX14 tyX14_ok nmX14 mX14_told_1 rfl rfl rfl rfl (Nat.le_of_ble_eq_true rfl) rfl dX14_told_2 (fun H locs hW hS => ?_)
    refine lv_aload_n F.1 F.2.1 dX14_told_5 rfl (lv_at hl 0 rfl) ?_
    refine gGet F hG hW nX14_told_X14 0 rfl rfl 37 (by decide) mX14_told_2 rfl dX14_told_6 ?_
    refine gIfNeB (tgt := 18) F dX14_told_9 (by decide) (fun c_9 => ?_) (fun c_9 => ?_)
    · refine lv_iload_n F.1 F.2.1 dX14_told_18 rfl (lv_at hl 1 rfl) ?_
      refine lv_tableIn (tgt := 92) F.1 F.2.1 dX14_told_19 (by decide) (by decide) rfl (by decide) ?_
      refine lv_aload_n F.1 F.2.1 dX14_told_92 rfl (lv_at hl 0 rfl) ?_
      refine lv_aload_n F.1 F.2.1 dX14_told_93 rfl (lv_at hl 0 rfl) ?_
      refine gGet F hG hW nX14_told_X14 0 rfl rfl 44 (by decide) mX14_told_7 rfl dX14_told_94 ?_
      refine gVi (n := 1) (q := (RX14, TX14, 55)) (q0 := 0) (As := [.int (nI z44)]) F hG hS hW (c_X14_done g l  ) rfl gX14_told_X14_done rfl rfl rfl (by decide +kernel) ⟨rfl, rfl, Nat.le_of_ble_eq_true rfl, Nat.le_of_ble_eq_true rfl⟩ hl.1 (Nat.le_of_ble_eq_true rfl) ⟨Nat.le_of_ble_eq_true rfl, Nat.le_of_ble_eq_true rfl⟩ rfl rfl dX14_told_97 (fun r u H locs hq hW hS => ?_)
      obtain ⟨rfl, rfl⟩ := hq
      have hW : gW g ((o, .inr (11, [.int (nI 0), .int (nI 0), .int (-1), .int (nI z3), .ref z4, .ref z5, .int (bI z6), .ref z7, .ref z8, .int (nI z9), .int (nI z10), .int (nI z11), .int (nI z12), .int (nI z13), .int (nI z14), .int (nI z15), .long (lN z16), .ref z17, .int z18, .int (nI z19), .ref z20, .ref z21, .ref z22, .ref z23, .ref z24, .ref z25, .int (nI z26), .int (nI z27), .int (nI z28), .int z29, .int (nI z30), .int (nI z31), .ref z32, .ref z33, .ref z34, .ref z35, .ref z36, .int (bI z37), .int (nI z38), .int (nI z39), .int (nI z40), .int (nI z41), .int (nI z42), .int (nI z43), .int (nI z44), .int (nI z45), .int (nI z46), .ref z47, .ref z48, .ref z49, .ref z50, .ref z51, .ref z52, .int z53, .ref z54])) :: R) _ := hW
      refine gRi F hW hS dX14_told_100 ?_
      rw [c_9]
      exact ⟨rfl, rfl⟩
    · refine lv_aload_n F.1 F.2.1 dX14_told_12 rfl (lv_at hl 0 rfl) ?_
      refine lv_iconst (v := nI 5) F.1 F.2.1 dX14_told_13 rfl ?_
      refine gVi (n := 1) (q := (RX14, TX14, 55)) (q0 := 0) (As := [.int (nI 5)]) F hG hS hW (c_X14_refused g l  ) rfl gX14_told_X14_refused rfl rfl rfl (by decide +kernel) ⟨rfl, rfl, Nat.le_of_ble_eq_true rfl, Nat.le_of_ble_eq_true rfl⟩ hl.1 (Nat.le_of_ble_eq_true rfl) ⟨Nat.le_of_ble_eq_true rfl, Nat.le_of_ble_eq_true rfl⟩ rfl rfl dX14_told_14 (fun r u H locs hq hW hS => ?_)
      obtain ⟨rfl, rfl⟩ := hq
      have hW : gW g ((o, .inr (11, [.int (nI 0), .int (nI 5), .int (-1), .int (nI z3), .ref z4, .ref z5, .int (bI z6), .ref z7, .ref z8, .int (nI z9), .int (nI z10), .int (nI z11), .int (nI z12), .int (nI z13), .int (nI z14), .int (nI z15), .long (lN z16), .ref z17, .int z18, .int (nI z19), .ref z20, .ref z21, .ref z22, .ref z23, .ref z24, .ref z25, .int (nI z26), .int (nI z27), .int (nI z28), .int z29, .int (nI z30), .int (nI z31), .ref z32, .ref z33, .ref z34, .ref z35, .ref z36, .int (bI z37), .int (nI z38), .int (nI z39), .int (nI z40), .int (nI z41), .int (nI z42), .int (nI z43), .int (nI z44), .int (nI z45), .int (nI z46), .ref z47, .ref z48, .ref z49, .ref z50, .ref z51, .ref z52, .int z53, .ref z54])) :: R) _ := hW
      refine gRi F hW hS dX14_told_17 ?_
      rw [c_9]
      exact ⟨rfl, rfl⟩
  · have hl : lv_has ls 2 [(0, .ref o), (1, .int (nI 5))] := hl
    have hW : gW g ((o, .inr (11, [.int (nI z0), .int (nI z1), .int z2, .int (nI z3), .ref z4, .ref z5, .int (bI z6), .ref z7, .ref z8, .int (nI z9), .int (nI z10), .int (nI z11), .int (nI z12), .int (nI z13), .int (nI z14), .int (nI z15), .long (lN z16), .ref z17, .int z18, .int (nI z19), .ref z20, .ref z21, .ref z22, .ref z23, .ref z24, .ref z25, .int (nI z26), .int (nI z27), .int (nI z28), .int z29, .int (nI z30), .int (nI z31), .ref z32, .ref z33, .ref z34, .ref z35, .ref z36, .int (bI z37), .int (nI z38), .int (nI z39), .int (nI z40), .int (nI z41), .int (nI z42), .int (nI z43), .int (nI z44), .int (nI z45), .int (nI z46), .ref z47, .ref z48, .ref z49, .ref z50, .ref z51, .ref z52, .int z53, .ref z54])) :: R) s.heap := hW
    refine lv_aload_n F.1 F.2.1 dX14_told_0 rfl (lv_at hl 0 rfl) ?_
    refine lv_iconst (v := nI 0) F.1 F.2.1 dX14_told_1 rfl ?_
    refine gPut (w2 := (o, .inr (11, [.int (nI 0), .int (nI z1), .int z2, .int (nI z3), .ref z4, .ref z5, .int (bI z6), .ref z7, .ref z8, .int (nI z9), .int (nI z10), .int (nI z11), .int (nI z12), .int (nI z13), .int (nI z14), .int (nI z15), .long (lN z16), .ref z17, .int z18, .int (nI z19), .ref z20, .ref z21, .ref z22, .ref z23, .ref z24, .ref z25, .int (nI z26), .int (nI z27), .int (nI z28), .int z29, .int (nI z30), .int (nI z31), .ref z32, .ref z33, .ref z34, .ref z35, .ref z36, .int (bI z37), .int (nI z38), .int (nI z39), .int (nI z40), .int (nI z41), .int (nI z42), .int (nI z43), .int (nI z44), .int (nI z45), .int (nI z46), .ref z47, .ref z48, .ref z49, .ref z50, .ref z51, .ref z52, .int z53, .ref z54])) :: R) F hS hG hW nX14_told_X14 0 rfl rfl 0 (by decide) tyX14 tyX14_ok nmX14 mX14_told_1 rfl rfl rfl rfl (Nat.le_of_ble_eq_true rfl) rfl dX14_told_2 (fun H locs hW hS => ?_)
    refine lv_aload_n F.1 F.2.1 dX14_told_5 rfl (lv_at hl 0 rfl) ?_
    refine gGet F hG hW nX14_told_X14 0 rfl rfl 37 (by decide) mX14_told_2 rfl dX14_told_6 ?_
    refine gIfNeB (tgt := 18) F dX14_told_9 (by decide) (fun c_9 => ?_) (fun c_9 => ?_)
    · refine lv_iload_n F.1 F.2.1 dX14_told_18 rfl (lv_at hl 1 rfl) ?_
      refine lv_tableIn (tgt := 101) F.1 F.2.1 dX14_told_19 (by decide) (by decide) rfl (by decide) ?_
      refine lv_aload_n F.1 F.2.1 dX14_told_101 rfl (lv_at hl 0 rfl) ?_
      refine lv_aload_n F.1 F.2.1 dX14_told_102 rfl (lv_at hl 0 rfl) ?_
      refine gGet F hG hW nX14_told_X14 0 rfl rfl 45 (by decide) mX14_told_8 rfl dX14_told_103 ?_
      refine gVi (n := 1) (q := (RX14, TX14, 55)) (q0 := 0) (As := [.int (nI z45)]) F hG hS hW (c_X14_done g l  ) rfl gX14_told_X14_done rfl rfl rfl (by decide +kernel) ⟨rfl, rfl, Nat.le_of_ble_eq_true rfl, Nat.le_of_ble_eq_true rfl⟩ hl.1 (Nat.le_of_ble_eq_true rfl) ⟨Nat.le_of_ble_eq_true rfl, Nat.le_of_ble_eq_true rfl⟩ rfl rfl dX14_told_106 (fun r u H locs hq hW hS => ?_)
      obtain ⟨rfl, rfl⟩ := hq
      have hW : gW g ((o, .inr (11, [.int (nI 0), .int (nI 0), .int (-1), .int (nI z3), .ref z4, .ref z5, .int (bI z6), .ref z7, .ref z8, .int (nI z9), .int (nI z10), .int (nI z11), .int (nI z12), .int (nI z13), .int (nI z14), .int (nI z15), .long (lN z16), .ref z17, .int z18, .int (nI z19), .ref z20, .ref z21, .ref z22, .ref z23, .ref z24, .ref z25, .int (nI z26), .int (nI z27), .int (nI z28), .int z29, .int (nI z30), .int (nI z31), .ref z32, .ref z33, .ref z34, .ref z35, .ref z36, .int (bI z37), .int (nI z38), .int (nI z39), .int (nI z40), .int (nI z41), .int (nI z42), .int (nI z43), .int (nI z44), .int (nI z45), .int (nI z46), .ref z47, .ref z48, .ref z49, .ref z50, .ref z51, .ref z52, .int z53, .ref z54])) :: R) _ := hW
      refine gRi F hW hS dX14_told_109 ?_
      rw [c_9]
      exact ⟨rfl, rfl⟩
    · refine lv_aload_n F.1 F.2.1 dX14_told_12 rfl (lv_at hl 0 rfl) ?_
      refine lv_iconst (v := nI 5) F.1 F.2.1 dX14_told_13 rfl ?_
      refine gVi (n := 1) (q := (RX14, TX14, 55)) (q0 := 0) (As := [.int (nI 5)]) F hG hS hW (c_X14_refused g l  ) rfl gX14_told_X14_refused rfl rfl rfl (by decide +kernel) ⟨rfl, rfl, Nat.le_of_ble_eq_true rfl, Nat.le_of_ble_eq_true rfl⟩ hl.1 (Nat.le_of_ble_eq_true rfl) ⟨Nat.le_of_ble_eq_true rfl, Nat.le_of_ble_eq_true rfl⟩ rfl rfl dX14_told_14 (fun r u H locs hq hW hS => ?_)
      obtain ⟨rfl, rfl⟩ := hq
      have hW : gW g ((o, .inr (11, [.int (nI 0), .int (nI 5), .int (-1), .int (nI z3), .ref z4, .ref z5, .int (bI z6), .ref z7, .ref z8, .int (nI z9), .int (nI z10), .int (nI z11), .int (nI z12), .int (nI z13), .int (nI z14), .int (nI z15), .long (lN z16), .ref z17, .int z18, .int (nI z19), .ref z20, .ref z21, .ref z22, .ref z23, .ref z24, .ref z25, .int (nI z26), .int (nI z27), .int (nI z28), .int z29, .int (nI z30), .int (nI z31), .ref z32, .ref z33, .ref z34, .ref z35, .ref z36, .int (bI z37), .int (nI z38), .int (nI z39), .int (nI z40), .int (nI z41), .int (nI z42), .int (nI z43), .int (nI z44), .int (nI z45), .int (nI z46), .ref z47, .ref z48, .ref z49, .ref z50, .ref z51, .ref z52, .int z53, .ref z54])) :: R) _ := hW
      refine gRi F hW hS dX14_told_17 ?_
      rw [c_9]
      exact ⟨rfl, rfl⟩

abbrev rm_X14_traces : Room := ({ frames := 1, cells := 0, slots := 0, locals := 21 } : Room)
theorem mX14_traces_1 : Cond.fieldLink RX14 129 "StepperHeartsModel" "thrown" "I" ∈ wsX14_traces := List.mem_of_getElem? (i := 1) rfl
theorem nX14_traces_X14 : ∀ w ∈ wsX140, w ∈ wsX14_traces := fun _ h => List.mem_cons_of_mem _ (List.mem_append_right _ (h))
theorem mX14_traces_2 : Cond.fieldLink RX14 317 "StepperHeartsModel" "hasRun" "Z" ∈ wsX14_traces := List.mem_of_getElem? (i := 2) rfl
theorem mX14_traces_3 : Cond.fieldLink RX14 347 "StepperHeartsModel" "ranTraces" "I" ∈ wsX14_traces := List.mem_of_getElem? (i := 3) rfl
set_option maxRecDepth 100000 in
set_option maxHeartbeats 4000000 in
theorem c_X14_traces (g : gC) (l : Launch) {o : Nat} {z0 : Nat} {z1 : Nat} {z2 : Int32} {z3 : Nat} {z4 : Nat} {z5 : Nat} {z6 : Bool} {z7 : Nat} {z8 : Nat} {z9 : Nat} {z10 : Nat} {z11 : Nat} {z12 : Nat} {z13 : Nat} {z14 : Nat} {z15 : Nat} {z16 : Nat} {z17 : Nat} {z18 : Int32} {z19 : Nat} {z20 : Nat} {z21 : Nat} {z22 : Nat} {z23 : Nat} {z24 : Nat} {z25 : Nat} {z26 : Nat} {z27 : Nat} {z28 : Nat} {z29 : Int32} {z30 : Nat} {z31 : Nat} {z32 : Nat} {z33 : Nat} {z34 : Nat} {z35 : Nat} {z36 : Nat} {z37 : Bool} {z38 : Nat} {z39 : Nat} {z40 : Nat} {z41 : Nat} {z42 : Nat} {z43 : Nat} {z44 : Nat} {z45 : Nat} {z46 : Nat} {z47 : Nat} {z48 : Nat} {z49 : Nat} {z50 : Nat} {z51 : Nat} {z52 : Nat} {z53 : Int32} {z54 : Nat} {R : va_W} : cI g l yX14_traces wsX14_traces rm_X14_traces 0 0 [.ref o] ((o, .inr (11, [.int (nI z0), .int (nI z1), .int z2, .int (nI z3), .ref z4, .ref z5, .int (bI z6), .ref z7, .ref z8, .int (nI z9), .int (nI z10), .int (nI z11), .int (nI z12), .int (nI z13), .int (nI z14), .int (nI z15), .long (lN z16), .ref z17, .int z18, .int (nI z19), .ref z20, .ref z21, .ref z22, .ref z23, .ref z24, .ref z25, .int (nI z26), .int (nI z27), .int (nI z28), .int z29, .int (nI z30), .int (nI z31), .ref z32, .ref z33, .ref z34, .ref z35, .ref z36, .int (bI z37), .int (nI z38), .int (nI z39), .int (nI z40), .int (nI z41), .int (nI z42), .int (nI z43), .int (nI z44), .int (nI z45), .int (nI z46), .ref z47, .ref z48, .ref z49, .ref z50, .ref z51, .ref z52, .int z53, .ref z54])) :: R) (fun r u => (okS (if z37 = true then 0 else 5) (nI z46)) = r ∧ (o, .inr (11, [.int (nI 0), .int (nI (if z37 = true then 0 else 5)), .int (-1), .int (nI z3), .ref z4, .ref z5, .int (bI z6), .ref z7, .ref z8, .int (nI z9), .int (nI z10), .int (nI z11), .int (nI z12), .int (nI z13), .int (nI z14), .int (nI z15), .long (lN z16), .ref z17, .int z18, .int (nI z19), .ref z20, .ref z21, .ref z22, .ref z23, .ref z24, .ref z25, .int (nI z26), .int (nI z27), .int (nI z28), .int z29, .int (nI z30), .int (nI z31), .ref z32, .ref z33, .ref z34, .ref z35, .ref z36, .int (bI z37), .int (nI z38), .int (nI z39), .int (nI z40), .int (nI z41), .int (nI z42), .int (nI z43), .int (nI z44), .int (nI z45), .int (nI z46), .ref z47, .ref z48, .ref z49, .ref z50, .ref z51, .ref z52, .int z53, .ref z54])) :: R = u) := by
  refine gEnterQ (cc := cX14_traces) (maxL := 1) (ret := (some (.int))) (by decide +kernel) rfl (Nat.le_of_ble_eq_true rfl) ?_
  intro p e s m below meth c F hG hW ls hl
  have hS : va_S (gA g) s.heap s.heap [] := va_S.rf
  have hl : lv_has ls 1 [(0, .ref o)] := hl
  have hW : gW g ((o, .inr (11, [.int (nI z0), .int (nI z1), .int z2, .int (nI z3), .ref z4, .ref z5, .int (bI z6), .ref z7, .ref z8, .int (nI z9), .int (nI z10), .int (nI z11), .int (nI z12), .int (nI z13), .int (nI z14), .int (nI z15), .long (lN z16), .ref z17, .int z18, .int (nI z19), .ref z20, .ref z21, .ref z22, .ref z23, .ref z24, .ref z25, .int (nI z26), .int (nI z27), .int (nI z28), .int z29, .int (nI z30), .int (nI z31), .ref z32, .ref z33, .ref z34, .ref z35, .ref z36, .int (bI z37), .int (nI z38), .int (nI z39), .int (nI z40), .int (nI z41), .int (nI z42), .int (nI z43), .int (nI z44), .int (nI z45), .int (nI z46), .ref z47, .ref z48, .ref z49, .ref z50, .ref z51, .ref z52, .int z53, .ref z54])) :: R) s.heap := hW
  refine lv_aload_n F.1 F.2.1 dX14_traces_0 rfl (lv_at hl 0 rfl) ?_
  refine lv_iconst (v := nI 0) F.1 F.2.1 dX14_traces_1 rfl ?_
  refine gPut (w2 := (o, .inr (11, [.int (nI 0), .int (nI z1), .int z2, .int (nI z3), .ref z4, .ref z5, .int (bI z6), .ref z7, .ref z8, .int (nI z9), .int (nI z10), .int (nI z11), .int (nI z12), .int (nI z13), .int (nI z14), .int (nI z15), .long (lN z16), .ref z17, .int z18, .int (nI z19), .ref z20, .ref z21, .ref z22, .ref z23, .ref z24, .ref z25, .int (nI z26), .int (nI z27), .int (nI z28), .int z29, .int (nI z30), .int (nI z31), .ref z32, .ref z33, .ref z34, .ref z35, .ref z36, .int (bI z37), .int (nI z38), .int (nI z39), .int (nI z40), .int (nI z41), .int (nI z42), .int (nI z43), .int (nI z44), .int (nI z45), .int (nI z46), .ref z47, .ref z48, .ref z49, .ref z50, .ref z51, .ref z52, .int z53, .ref z54])) :: R) F hS hG hW nX14_traces_X14 0 rfl rfl 0 (by decide) tyX14 tyX14_ok nmX14 mX14_traces_1 rfl rfl rfl rfl (Nat.le_of_ble_eq_true rfl) rfl dX14_traces_2 (fun H locs hW hS => ?_)
  refine lv_aload_n F.1 F.2.1 dX14_traces_5 rfl (lv_at hl 0 rfl) ?_
  refine gGet F hG hW nX14_traces_X14 0 rfl rfl 37 (by decide) mX14_traces_2 rfl dX14_traces_6 ?_
  refine gIfEqB (tgt := 23) F dX14_traces_9 (by decide) (fun c_9 => ?_) (fun c_9 => ?_)
  · refine lv_aload_n F.1 F.2.1 dX14_traces_23 rfl (lv_at hl 0 rfl) ?_
    refine lv_iconst (v := nI 5) F.1 F.2.1 dX14_traces_24 rfl ?_
    refine gVi (n := 1) (q := (RX14, TX14, 55)) (q0 := 0) (As := [.int (nI 5)]) F hG hS hW (c_X14_refused g l  ) rfl gX14_traces_X14_refused rfl rfl rfl (by decide +kernel) ⟨rfl, rfl, Nat.le_of_ble_eq_true rfl, Nat.le_of_ble_eq_true rfl⟩ hl.1 (Nat.le_of_ble_eq_true rfl) ⟨Nat.le_of_ble_eq_true rfl, Nat.le_of_ble_eq_true rfl⟩ rfl rfl dX14_traces_25 (fun r u H locs hq hW hS => ?_)
    obtain ⟨rfl, rfl⟩ := hq
    have hW : gW g ((o, .inr (11, [.int (nI 0), .int (nI 5), .int (-1), .int (nI z3), .ref z4, .ref z5, .int (bI z6), .ref z7, .ref z8, .int (nI z9), .int (nI z10), .int (nI z11), .int (nI z12), .int (nI z13), .int (nI z14), .int (nI z15), .long (lN z16), .ref z17, .int z18, .int (nI z19), .ref z20, .ref z21, .ref z22, .ref z23, .ref z24, .ref z25, .int (nI z26), .int (nI z27), .int (nI z28), .int z29, .int (nI z30), .int (nI z31), .ref z32, .ref z33, .ref z34, .ref z35, .ref z36, .int (bI z37), .int (nI z38), .int (nI z39), .int (nI z40), .int (nI z41), .int (nI z42), .int (nI z43), .int (nI z44), .int (nI z45), .int (nI z46), .ref z47, .ref z48, .ref z49, .ref z50, .ref z51, .ref z52, .int z53, .ref z54])) :: R) _ := hW
    refine gRi F hW hS dX14_traces_28 ?_
    rw [c_9]
    exact ⟨rfl, rfl⟩
  · refine lv_aload_n F.1 F.2.1 dX14_traces_12 rfl (lv_at hl 0 rfl) ?_
    refine lv_aload_n F.1 F.2.1 dX14_traces_13 rfl (lv_at hl 0 rfl) ?_
    refine gGet F hG hW nX14_traces_X14 0 rfl rfl 46 (by decide) mX14_traces_3 rfl dX14_traces_14 ?_
    refine gVi (n := 1) (q := (RX14, TX14, 55)) (q0 := 0) (As := [.int (nI z46)]) F hG hS hW (c_X14_done g l  ) rfl gX14_traces_X14_done rfl rfl rfl (by decide +kernel) ⟨rfl, rfl, Nat.le_of_ble_eq_true rfl, Nat.le_of_ble_eq_true rfl⟩ hl.1 (Nat.le_of_ble_eq_true rfl) ⟨Nat.le_of_ble_eq_true rfl, Nat.le_of_ble_eq_true rfl⟩ rfl rfl dX14_traces_17 (fun r u H locs hq hW hS => ?_)
    obtain ⟨rfl, rfl⟩ := hq
    have hW : gW g ((o, .inr (11, [.int (nI 0), .int (nI 0), .int (-1), .int (nI z3), .ref z4, .ref z5, .int (bI z6), .ref z7, .ref z8, .int (nI z9), .int (nI z10), .int (nI z11), .int (nI z12), .int (nI z13), .int (nI z14), .int (nI z15), .long (lN z16), .ref z17, .int z18, .int (nI z19), .ref z20, .ref z21, .ref z22, .ref z23, .ref z24, .ref z25, .int (nI z26), .int (nI z27), .int (nI z28), .int z29, .int (nI z30), .int (nI z31), .ref z32, .ref z33, .ref z34, .ref z35, .ref z36, .int (bI z37), .int (nI z38), .int (nI z39), .int (nI z40), .int (nI z41), .int (nI z42), .int (nI z43), .int (nI z44), .int (nI z45), .int (nI z46), .ref z47, .ref z48, .ref z49, .ref z50, .ref z51, .ref z52, .int z53, .ref z54])) :: R) _ := hW
    refine lv_goto (tgt := 28) F.1 F.2.1 dX14_traces_20 (by decide) ?_
    refine gRi F hW hS dX14_traces_28 ?_
    rw [c_9]
    exact ⟨rfl, rfl⟩

abbrev rm_X14_cell : Room := ({ frames := 1, cells := 0, slots := 0, locals := 22 } : Room)
theorem mX14_cell_1 : Cond.fieldLink RX14 129 "StepperHeartsModel" "thrown" "I" ∈ wsX14_cell := List.mem_of_getElem? (i := 1) rfl
theorem nX14_cell_X14 : ∀ w ∈ wsX140, w ∈ wsX14_cell := fun _ h => List.mem_cons_of_mem _ (List.mem_append_right _ (h))
theorem mX14_cell_2 : Cond.fieldLink RX14 108 "StepperHeartsModel" "ranCells" "[I" ∈ wsX14_cell := List.mem_of_getElem? (i := 2) rfl
set_option maxRecDepth 100000 in
set_option maxHeartbeats 4000000 in
theorem c_X14_cell (g : gC) (l : Launch) {o : Nat} {z0 : Nat} {z1 : Nat} {z2 : Int32} {z3 : Nat} {z4 : Nat} {z5 : Nat} {z6 : Bool} {z7 : Nat} {z8 : Nat} {z9 : Nat} {z10 : Nat} {z11 : Nat} {z12 : Nat} {z13 : Nat} {z14 : Nat} {z15 : Nat} {z16 : Nat} {z17 : Nat} {z18 : Int32} {z19 : Nat} {z20 : Nat} {z21 : Nat} {z22 : Nat} {z23 : Nat} {z24 : Nat} {z25 : Nat} {z26 : Nat} {z27 : Nat} {z28 : Nat} {z29 : Int32} {z30 : Nat} {z31 : Nat} {z32 : Nat} {z33 : Nat} {z34 : Nat} {z35 : Nat} {z36 : Nat} {z37 : Bool} {z38 : Nat} {z39 : Nat} {z40 : Nat} {z41 : Nat} {z42 : Nat} {z43 : Nat} {z44 : Nat} {z45 : Nat} {z46 : Nat} {z47 : Nat} {z48 : Nat} {z49 : Nat} {z50 : Nat} {z51 : Nat} {z52 : Nat} {z53 : Int32} {z54 : Nat} {rce : Nat → Int32} {x : Int32} {R : va_W} : cI g l yX14_cell wsX14_cell rm_X14_cell 0 0 [.ref o, .int x] ((o, .inr (11, [.int (nI z0), .int (nI z1), .int z2, .int (nI z3), .ref z4, .ref z5, .int (bI z6), .ref z7, .ref z8, .int (nI z9), .int (nI z10), .int (nI z11), .int (nI z12), .int (nI z13), .int (nI z14), .int (nI z15), .long (lN z16), .ref z17, .int z18, .int (nI z19), .ref z20, .ref z21, .ref z22, .ref z23, .ref z24, .ref z25, .int (nI z26), .int (nI z27), .int (nI z28), .int z29, .int (nI z30), .int (nI z31), .ref z32, .ref z33, .ref z34, .ref z35, .ref z36, .int (bI z37), .int (nI z38), .int (nI z39), .int (nI z40), .int (nI z41), .int (nI z42), .int (nI z43), .int (nI z44), .int (nI z45), .int (nI z46), .ref z47, .ref z48, .ref z49, .ref z50, .ref z51, .ref z52, .int z53, .ref z54])) :: (z48, .inl (g.2.1 0, 8, .inl rce)) :: R) (fun r u => (ixS x 8 rce (nI 0)) = r ∧ (o, .inr (11, [.int (nI 0), .int (nI z1), .int z2, .int (nI z3), .ref z4, .ref z5, .int (bI z6), .ref z7, .ref z8, .int (nI z9), .int (nI z10), .int (nI z11), .int (nI z12), .int (nI z13), .int (nI z14), .int (nI z15), .long (lN z16), .ref z17, .int z18, .int (nI z19), .ref z20, .ref z21, .ref z22, .ref z23, .ref z24, .ref z25, .int (nI z26), .int (nI z27), .int (nI z28), .int z29, .int (nI z30), .int (nI z31), .ref z32, .ref z33, .ref z34, .ref z35, .ref z36, .int (bI z37), .int (nI z38), .int (nI z39), .int (nI z40), .int (nI z41), .int (nI z42), .int (nI z43), .int (nI z44), .int (nI z45), .int (nI z46), .ref z47, .ref z48, .ref z49, .ref z50, .ref z51, .ref z52, .int z53, .ref z54])) :: (z48, .inl (g.2.1 0, 8, .inl rce)) :: R = u) := by
  refine gEnterQ (cc := cX14_cell) (maxL := 2) (ret := (some (.int))) (by decide +kernel) rfl (Nat.le_of_ble_eq_true rfl) ?_
  intro p e s m below meth c F hG hW ls hl
  have hS : va_S (gA g) s.heap s.heap [] := va_S.rf
  have hl : lv_has ls 2 [(0, .ref o), (1, .int x)] := hl
  have hW : gW g ((o, .inr (11, [.int (nI z0), .int (nI z1), .int z2, .int (nI z3), .ref z4, .ref z5, .int (bI z6), .ref z7, .ref z8, .int (nI z9), .int (nI z10), .int (nI z11), .int (nI z12), .int (nI z13), .int (nI z14), .int (nI z15), .long (lN z16), .ref z17, .int z18, .int (nI z19), .ref z20, .ref z21, .ref z22, .ref z23, .ref z24, .ref z25, .int (nI z26), .int (nI z27), .int (nI z28), .int z29, .int (nI z30), .int (nI z31), .ref z32, .ref z33, .ref z34, .ref z35, .ref z36, .int (bI z37), .int (nI z38), .int (nI z39), .int (nI z40), .int (nI z41), .int (nI z42), .int (nI z43), .int (nI z44), .int (nI z45), .int (nI z46), .ref z47, .ref z48, .ref z49, .ref z50, .ref z51, .ref z52, .int z53, .ref z54])) :: (z48, .inl (g.2.1 0, 8, .inl rce)) :: R) s.heap := hW
  rcases ixc x (n := 8) (by decide) with hx | ⟨j, hj, rfl⟩
  · have hl : lv_has ls 2 [(0, .ref o), (1, .int x)] := hl
    have hW : gW g ((o, .inr (11, [.int (nI z0), .int (nI z1), .int z2, .int (nI z3), .ref z4, .ref z5, .int (bI z6), .ref z7, .ref z8, .int (nI z9), .int (nI z10), .int (nI z11), .int (nI z12), .int (nI z13), .int (nI z14), .int (nI z15), .long (lN z16), .ref z17, .int z18, .int (nI z19), .ref z20, .ref z21, .ref z22, .ref z23, .ref z24, .ref z25, .int (nI z26), .int (nI z27), .int (nI z28), .int z29, .int (nI z30), .int (nI z31), .ref z32, .ref z33, .ref z34, .ref z35, .ref z36, .int (bI z37), .int (nI z38), .int (nI z39), .int (nI z40), .int (nI z41), .int (nI z42), .int (nI z43), .int (nI z44), .int (nI z45), .int (nI z46), .ref z47, .ref z48, .ref z49, .ref z50, .ref z51, .ref z52, .int z53, .ref z54])) :: (z48, .inl (g.2.1 0, 8, .inl rce)) :: R) s.heap := hW
    refine lv_aload_n F.1 F.2.1 dX14_cell_0 rfl (lv_at hl 0 rfl) ?_
    refine lv_iconst (v := nI 0) F.1 F.2.1 dX14_cell_1 rfl ?_
    refine gPut (w2 := (o, .inr (11, [.int (nI 0), .int (nI z1), .int z2, .int (nI z3), .ref z4, .ref z5, .int (bI z6), .ref z7, .ref z8, .int (nI z9), .int (nI z10), .int (nI z11), .int (nI z12), .int (nI z13), .int (nI z14), .int (nI z15), .long (lN z16), .ref z17, .int z18, .int (nI z19), .ref z20, .ref z21, .ref z22, .ref z23, .ref z24, .ref z25, .int (nI z26), .int (nI z27), .int (nI z28), .int z29, .int (nI z30), .int (nI z31), .ref z32, .ref z33, .ref z34, .ref z35, .ref z36, .int (bI z37), .int (nI z38), .int (nI z39), .int (nI z40), .int (nI z41), .int (nI z42), .int (nI z43), .int (nI z44), .int (nI z45), .int (nI z46), .ref z47, .ref z48, .ref z49, .ref z50, .ref z51, .ref z52, .int z53, .ref z54])) :: (z48, .inl (g.2.1 0, 8, .inl rce)) :: R) F hS hG hW nX14_cell_X14 0 rfl rfl 0 (by decide) tyX14 tyX14_ok nmX14 mX14_cell_1 rfl rfl rfl rfl (Nat.le_of_ble_eq_true rfl) rfl dX14_cell_2 (fun H locs hW hS => ?_)
    refine lv_iload_n F.1 F.2.1 dX14_cell_5 rfl (lv_at hl 1 rfl) ?_
    refine lv_iconst (v := nI 0) F.1 F.2.1 dX14_cell_6 rfl ?_
    refine lv_bipush (v := nI 7) F.1 F.2.1 dX14_cell_7 (by decide) ?_
    refine gS_i (n := 3) (As := [.int x, .int (nI 0), .int (nI 7)]) F hG hS hW (c_X14_in g l  ) rfl gX14_cell_X14_in (by decide +kernel) ⟨rfl, rfl, Nat.le_of_ble_eq_true rfl, Nat.le_of_ble_eq_true rfl⟩ hl.1 (Nat.le_of_ble_eq_true rfl) ⟨Nat.le_of_ble_eq_true rfl, Nat.le_of_ble_eq_true rfl⟩ rfl rfl dX14_cell_9 (fun r u H locs hq hW hS => ?_)
    obtain ⟨rfl, rfl⟩ := hq
    have hW : gW g ((o, .inr (11, [.int (nI 0), .int (nI z1), .int z2, .int (nI z3), .ref z4, .ref z5, .int (bI z6), .ref z7, .ref z8, .int (nI z9), .int (nI z10), .int (nI z11), .int (nI z12), .int (nI z13), .int (nI z14), .int (nI z15), .long (lN z16), .ref z17, .int z18, .int (nI z19), .ref z20, .ref z21, .ref z22, .ref z23, .ref z24, .ref z25, .int (nI z26), .int (nI z27), .int (nI z28), .int z29, .int (nI z30), .int (nI z31), .ref z32, .ref z33, .ref z34, .ref z35, .ref z36, .int (bI z37), .int (nI z38), .int (nI z39), .int (nI z40), .int (nI z41), .int (nI z42), .int (nI z43), .int (nI z44), .int (nI z45), .int (nI z46), .ref z47, .ref z48, .ref z49, .ref z50, .ref z51, .ref z52, .int z53, .ref z54])) :: (z48, .inl (g.2.1 0, 8, .inl rce)) :: R) _ := hW
    refine gTop (congrArg bI (inS_out (n := 7) (by decide) hx)) ?_
    refine gIfEqB (tgt := 24) F dX14_cell_12 (by decide) (fun c_12 => ?_) (fun q => by simp at q)
    refine lv_iconst (v := nI 0) F.1 F.2.1 dX14_cell_24 rfl ?_
    refine gRi F hW hS dX14_cell_25 ?_
    exact ⟨ixS_out hx (by decide), rfl⟩
  · have hl : lv_has ls 2 [(0, .ref o), (1, .int (nI j))] := hl
    have hW : gW g ((o, .inr (11, [.int (nI z0), .int (nI z1), .int z2, .int (nI z3), .ref z4, .ref z5, .int (bI z6), .ref z7, .ref z8, .int (nI z9), .int (nI z10), .int (nI z11), .int (nI z12), .int (nI z13), .int (nI z14), .int (nI z15), .long (lN z16), .ref z17, .int z18, .int (nI z19), .ref z20, .ref z21, .ref z22, .ref z23, .ref z24, .ref z25, .int (nI z26), .int (nI z27), .int (nI z28), .int z29, .int (nI z30), .int (nI z31), .ref z32, .ref z33, .ref z34, .ref z35, .ref z36, .int (bI z37), .int (nI z38), .int (nI z39), .int (nI z40), .int (nI z41), .int (nI z42), .int (nI z43), .int (nI z44), .int (nI z45), .int (nI z46), .ref z47, .ref z48, .ref z49, .ref z50, .ref z51, .ref z52, .int z53, .ref z54])) :: (z48, .inl (g.2.1 0, 8, .inl rce)) :: R) s.heap := hW
    refine lv_aload_n F.1 F.2.1 dX14_cell_0 rfl (lv_at hl 0 rfl) ?_
    refine lv_iconst (v := nI 0) F.1 F.2.1 dX14_cell_1 rfl ?_
    refine gPut (w2 := (o, .inr (11, [.int (nI 0), .int (nI z1), .int z2, .int (nI z3), .ref z4, .ref z5, .int (bI z6), .ref z7, .ref z8, .int (nI z9), .int (nI z10), .int (nI z11), .int (nI z12), .int (nI z13), .int (nI z14), .int (nI z15), .long (lN z16), .ref z17, .int z18, .int (nI z19), .ref z20, .ref z21, .ref z22, .ref z23, .ref z24, .ref z25, .int (nI z26), .int (nI z27), .int (nI z28), .int z29, .int (nI z30), .int (nI z31), .ref z32, .ref z33, .ref z34, .ref z35, .ref z36, .int (bI z37), .int (nI z38), .int (nI z39), .int (nI z40), .int (nI z41), .int (nI z42), .int (nI z43), .int (nI z44), .int (nI z45), .int (nI z46), .ref z47, .ref z48, .ref z49, .ref z50, .ref z51, .ref z52, .int z53, .ref z54])) :: (z48, .inl (g.2.1 0, 8, .inl rce)) :: R) F hS hG hW nX14_cell_X14 0 rfl rfl 0 (by decide) tyX14 tyX14_ok nmX14 mX14_cell_1 rfl rfl rfl rfl (Nat.le_of_ble_eq_true rfl) rfl dX14_cell_2 (fun H locs hW hS => ?_)
    refine lv_iload_n F.1 F.2.1 dX14_cell_5 rfl (lv_at hl 1 rfl) ?_
    refine lv_iconst (v := nI 0) F.1 F.2.1 dX14_cell_6 rfl ?_
    refine lv_bipush (v := nI 7) F.1 F.2.1 dX14_cell_7 (by decide) ?_
    refine gS_i (n := 3) (As := [.int (nI j), .int (nI 0), .int (nI 7)]) F hG hS hW (c_X14_in g l  ) rfl gX14_cell_X14_in (by decide +kernel) ⟨rfl, rfl, Nat.le_of_ble_eq_true rfl, Nat.le_of_ble_eq_true rfl⟩ hl.1 (Nat.le_of_ble_eq_true rfl) ⟨Nat.le_of_ble_eq_true rfl, Nat.le_of_ble_eq_true rfl⟩ rfl rfl dX14_cell_9 (fun r u H locs hq hW hS => ?_)
    obtain ⟨rfl, rfl⟩ := hq
    have hW : gW g ((o, .inr (11, [.int (nI 0), .int (nI z1), .int z2, .int (nI z3), .ref z4, .ref z5, .int (bI z6), .ref z7, .ref z8, .int (nI z9), .int (nI z10), .int (nI z11), .int (nI z12), .int (nI z13), .int (nI z14), .int (nI z15), .long (lN z16), .ref z17, .int z18, .int (nI z19), .ref z20, .ref z21, .ref z22, .ref z23, .ref z24, .ref z25, .int (nI z26), .int (nI z27), .int (nI z28), .int z29, .int (nI z30), .int (nI z31), .ref z32, .ref z33, .ref z34, .ref z35, .ref z36, .int (bI z37), .int (nI z38), .int (nI z39), .int (nI z40), .int (nI z41), .int (nI z42), .int (nI z43), .int (nI z44), .int (nI z45), .int (nI z46), .ref z47, .ref z48, .ref z49, .ref z50, .ref z51, .ref z52, .int z53, .ref z54])) :: (z48, .inl (g.2.1 0, 8, .inl rce)) :: R) _ := hW
    refine gTop (congrArg bI (inS_in (n := 7) (by decide) hj)) ?_
    refine gIfEqB (tgt := 24) F dX14_cell_12 (by decide) (fun q => by simp at q) (fun c_12 => ?_)
    refine lv_aload_n F.1 F.2.1 dX14_cell_15 rfl (lv_at hl 0 rfl) ?_
    refine gGet F hG hW nX14_cell_X14 0 rfl rfl 48 (by decide) mX14_cell_2 rfl dX14_cell_16 ?_
    refine lv_iload_n F.1 F.2.1 dX14_cell_19 rfl (lv_at hl 1 rfl) ?_
    refine gLdI F hG hW 1 rfl (by omega) (by decide) dX14_cell_20 ?_
    refine lv_goto (tgt := 25) F.1 F.2.1 dX14_cell_21 (by decide) ?_
    refine gRi F hW hS dX14_cell_25 ?_
    exact ⟨ixS_in hj (by decide), rfl⟩

abbrev rm_X14_did : Room := ({ frames := 1, cells := 0, slots := 0, locals := 22 } : Room)
theorem mX14_did_1 : Cond.fieldLink RX14 129 "StepperHeartsModel" "thrown" "I" ∈ wsX14_did := List.mem_of_getElem? (i := 1) rfl
theorem nX14_did_X14 : ∀ w ∈ wsX140, w ∈ wsX14_did := fun _ h => List.mem_cons_of_mem _ (List.mem_append_right _ (h))
theorem mX14_did_2 : Cond.fieldLink RX14 317 "StepperHeartsModel" "hasRun" "Z" ∈ wsX14_did := List.mem_of_getElem? (i := 2) rfl
theorem mX14_did_3 : Cond.fieldLink RX14 114 "StepperHeartsModel" "ranDid" "[I" ∈ wsX14_did := List.mem_of_getElem? (i := 3) rfl
set_option maxRecDepth 100000 in
set_option maxHeartbeats 4000000 in
theorem c_X14_did (g : gC) (l : Launch) {o : Nat} {z0 : Nat} {z1 : Nat} {z2 : Int32} {z3 : Nat} {z4 : Nat} {z5 : Nat} {z6 : Bool} {z7 : Nat} {z8 : Nat} {z9 : Nat} {z10 : Nat} {z11 : Nat} {z12 : Nat} {z13 : Nat} {z14 : Nat} {z15 : Nat} {z16 : Nat} {z17 : Nat} {z18 : Int32} {z19 : Nat} {z20 : Nat} {z21 : Nat} {z22 : Nat} {z23 : Nat} {z24 : Nat} {z25 : Nat} {z26 : Nat} {z27 : Nat} {z28 : Nat} {z29 : Int32} {z30 : Nat} {z31 : Nat} {z32 : Nat} {z33 : Nat} {z34 : Nat} {z35 : Nat} {z36 : Nat} {z37 : Bool} {z38 : Nat} {z39 : Nat} {z40 : Nat} {z41 : Nat} {z42 : Nat} {z43 : Nat} {z44 : Nat} {z45 : Nat} {z46 : Nat} {z47 : Nat} {z48 : Nat} {z49 : Nat} {z50 : Nat} {z51 : Nat} {z52 : Nat} {z53 : Int32} {z54 : Nat} {rdn : Nat → Nat} {x : Int32} {R : va_W} : cI g l yX14_did wsX14_did rm_X14_did 0 0 [.ref o, .int x] ((o, .inr (11, [.int (nI z0), .int (nI z1), .int z2, .int (nI z3), .ref z4, .ref z5, .int (bI z6), .ref z7, .ref z8, .int (nI z9), .int (nI z10), .int (nI z11), .int (nI z12), .int (nI z13), .int (nI z14), .int (nI z15), .long (lN z16), .ref z17, .int z18, .int (nI z19), .ref z20, .ref z21, .ref z22, .ref z23, .ref z24, .ref z25, .int (nI z26), .int (nI z27), .int (nI z28), .int z29, .int (nI z30), .int (nI z31), .ref z32, .ref z33, .ref z34, .ref z35, .ref z36, .int (bI z37), .int (nI z38), .int (nI z39), .int (nI z40), .int (nI z41), .int (nI z42), .int (nI z43), .int (nI z44), .int (nI z45), .int (nI z46), .ref z47, .ref z48, .ref z49, .ref z50, .ref z51, .ref z52, .int z53, .ref z54])) :: (z50, .inl (g.2.1 0, 15, .inl (nA rdn))) :: R) (fun r u => (if z37 = true then ixS x 15 (fun j => nI (rdn j)) (-1) else -1) = r ∧ (o, .inr (11, [.int (nI 0), .int (nI z1), .int z2, .int (nI z3), .ref z4, .ref z5, .int (bI z6), .ref z7, .ref z8, .int (nI z9), .int (nI z10), .int (nI z11), .int (nI z12), .int (nI z13), .int (nI z14), .int (nI z15), .long (lN z16), .ref z17, .int z18, .int (nI z19), .ref z20, .ref z21, .ref z22, .ref z23, .ref z24, .ref z25, .int (nI z26), .int (nI z27), .int (nI z28), .int z29, .int (nI z30), .int (nI z31), .ref z32, .ref z33, .ref z34, .ref z35, .ref z36, .int (bI z37), .int (nI z38), .int (nI z39), .int (nI z40), .int (nI z41), .int (nI z42), .int (nI z43), .int (nI z44), .int (nI z45), .int (nI z46), .ref z47, .ref z48, .ref z49, .ref z50, .ref z51, .ref z52, .int z53, .ref z54])) :: (z50, .inl (g.2.1 0, 15, .inl (nA rdn))) :: R = u) := by
  refine gEnterQ (cc := cX14_did) (maxL := 2) (ret := (some (.int))) (by decide +kernel) rfl (Nat.le_of_ble_eq_true rfl) ?_
  intro p e s m below meth c F hG hW ls hl
  have hS : va_S (gA g) s.heap s.heap [] := va_S.rf
  have hl : lv_has ls 2 [(0, .ref o), (1, .int x)] := hl
  have hW : gW g ((o, .inr (11, [.int (nI z0), .int (nI z1), .int z2, .int (nI z3), .ref z4, .ref z5, .int (bI z6), .ref z7, .ref z8, .int (nI z9), .int (nI z10), .int (nI z11), .int (nI z12), .int (nI z13), .int (nI z14), .int (nI z15), .long (lN z16), .ref z17, .int z18, .int (nI z19), .ref z20, .ref z21, .ref z22, .ref z23, .ref z24, .ref z25, .int (nI z26), .int (nI z27), .int (nI z28), .int z29, .int (nI z30), .int (nI z31), .ref z32, .ref z33, .ref z34, .ref z35, .ref z36, .int (bI z37), .int (nI z38), .int (nI z39), .int (nI z40), .int (nI z41), .int (nI z42), .int (nI z43), .int (nI z44), .int (nI z45), .int (nI z46), .ref z47, .ref z48, .ref z49, .ref z50, .ref z51, .ref z52, .int z53, .ref z54])) :: (z50, .inl (g.2.1 0, 15, .inl (nA rdn))) :: R) s.heap := hW
  rcases ixc x (n := 15) (by decide) with hx | ⟨j, hj, rfl⟩
  · have hl : lv_has ls 2 [(0, .ref o), (1, .int x)] := hl
    have hW : gW g ((o, .inr (11, [.int (nI z0), .int (nI z1), .int z2, .int (nI z3), .ref z4, .ref z5, .int (bI z6), .ref z7, .ref z8, .int (nI z9), .int (nI z10), .int (nI z11), .int (nI z12), .int (nI z13), .int (nI z14), .int (nI z15), .long (lN z16), .ref z17, .int z18, .int (nI z19), .ref z20, .ref z21, .ref z22, .ref z23, .ref z24, .ref z25, .int (nI z26), .int (nI z27), .int (nI z28), .int z29, .int (nI z30), .int (nI z31), .ref z32, .ref z33, .ref z34, .ref z35, .ref z36, .int (bI z37), .int (nI z38), .int (nI z39), .int (nI z40), .int (nI z41), .int (nI z42), .int (nI z43), .int (nI z44), .int (nI z45), .int (nI z46), .ref z47, .ref z48, .ref z49, .ref z50, .ref z51, .ref z52, .int z53, .ref z54])) :: (z50, .inl (g.2.1 0, 15, .inl (nA rdn))) :: R) s.heap := hW
    refine lv_aload_n F.1 F.2.1 dX14_did_0 rfl (lv_at hl 0 rfl) ?_
    refine lv_iconst (v := nI 0) F.1 F.2.1 dX14_did_1 rfl ?_
    refine gPut (w2 := (o, .inr (11, [.int (nI 0), .int (nI z1), .int z2, .int (nI z3), .ref z4, .ref z5, .int (bI z6), .ref z7, .ref z8, .int (nI z9), .int (nI z10), .int (nI z11), .int (nI z12), .int (nI z13), .int (nI z14), .int (nI z15), .long (lN z16), .ref z17, .int z18, .int (nI z19), .ref z20, .ref z21, .ref z22, .ref z23, .ref z24, .ref z25, .int (nI z26), .int (nI z27), .int (nI z28), .int z29, .int (nI z30), .int (nI z31), .ref z32, .ref z33, .ref z34, .ref z35, .ref z36, .int (bI z37), .int (nI z38), .int (nI z39), .int (nI z40), .int (nI z41), .int (nI z42), .int (nI z43), .int (nI z44), .int (nI z45), .int (nI z46), .ref z47, .ref z48, .ref z49, .ref z50, .ref z51, .ref z52, .int z53, .ref z54])) :: (z50, .inl (g.2.1 0, 15, .inl (nA rdn))) :: R) F hS hG hW nX14_did_X14 0 rfl rfl 0 (by decide) tyX14 tyX14_ok nmX14 mX14_did_1 rfl rfl rfl rfl (Nat.le_of_ble_eq_true rfl) rfl dX14_did_2 (fun H locs hW hS => ?_)
    refine lv_aload_n F.1 F.2.1 dX14_did_5 rfl (lv_at hl 0 rfl) ?_
    refine gGet F hG hW nX14_did_X14 0 rfl rfl 37 (by decide) mX14_did_2 rfl dX14_did_6 ?_
    refine gIfEqB (tgt := 31) F dX14_did_9 (by decide) (fun c_9 => ?_) (fun c_9 => ?_)
    · refine lv_iconst (v := -1) F.1 F.2.1 dX14_did_31 rfl ?_
      refine gRi F hW hS dX14_did_32 ?_
      exact ⟨if_neg (by rw [c_9]; decide), rfl⟩
    · refine lv_iload_n F.1 F.2.1 dX14_did_12 rfl (lv_at hl 1 rfl) ?_
      refine lv_iconst (v := nI 0) F.1 F.2.1 dX14_did_13 rfl ?_
      refine lv_bipush (v := nI 14) F.1 F.2.1 dX14_did_14 (by decide) ?_
      refine gS_i (n := 3) (As := [.int x, .int (nI 0), .int (nI 14)]) F hG hS hW (c_X14_in g l  ) rfl gX14_did_X14_in (by decide +kernel) ⟨rfl, rfl, Nat.le_of_ble_eq_true rfl, Nat.le_of_ble_eq_true rfl⟩ hl.1 (Nat.le_of_ble_eq_true rfl) ⟨Nat.le_of_ble_eq_true rfl, Nat.le_of_ble_eq_true rfl⟩ rfl rfl dX14_did_16 (fun r u H locs hq hW hS => ?_)
      obtain ⟨rfl, rfl⟩ := hq
      have hW : gW g ((o, .inr (11, [.int (nI 0), .int (nI z1), .int z2, .int (nI z3), .ref z4, .ref z5, .int (bI z6), .ref z7, .ref z8, .int (nI z9), .int (nI z10), .int (nI z11), .int (nI z12), .int (nI z13), .int (nI z14), .int (nI z15), .long (lN z16), .ref z17, .int z18, .int (nI z19), .ref z20, .ref z21, .ref z22, .ref z23, .ref z24, .ref z25, .int (nI z26), .int (nI z27), .int (nI z28), .int z29, .int (nI z30), .int (nI z31), .ref z32, .ref z33, .ref z34, .ref z35, .ref z36, .int (bI z37), .int (nI z38), .int (nI z39), .int (nI z40), .int (nI z41), .int (nI z42), .int (nI z43), .int (nI z44), .int (nI z45), .int (nI z46), .ref z47, .ref z48, .ref z49, .ref z50, .ref z51, .ref z52, .int z53, .ref z54])) :: (z50, .inl (g.2.1 0, 15, .inl (nA rdn))) :: R) _ := hW
      refine gTop (congrArg bI (inS_out (n := 14) (by decide) hx)) ?_
      refine gIfEqB (tgt := 31) F dX14_did_19 (by decide) (fun c_19 => ?_) (fun q => by simp at q)
      refine lv_iconst (v := -1) F.1 F.2.1 dX14_did_31 rfl ?_
      refine gRi F hW hS dX14_did_32 ?_
      exact ⟨(if_pos c_9).trans (ixS_out hx (by decide)), rfl⟩
  · have hl : lv_has ls 2 [(0, .ref o), (1, .int (nI j))] := hl
    have hW : gW g ((o, .inr (11, [.int (nI z0), .int (nI z1), .int z2, .int (nI z3), .ref z4, .ref z5, .int (bI z6), .ref z7, .ref z8, .int (nI z9), .int (nI z10), .int (nI z11), .int (nI z12), .int (nI z13), .int (nI z14), .int (nI z15), .long (lN z16), .ref z17, .int z18, .int (nI z19), .ref z20, .ref z21, .ref z22, .ref z23, .ref z24, .ref z25, .int (nI z26), .int (nI z27), .int (nI z28), .int z29, .int (nI z30), .int (nI z31), .ref z32, .ref z33, .ref z34, .ref z35, .ref z36, .int (bI z37), .int (nI z38), .int (nI z39), .int (nI z40), .int (nI z41), .int (nI z42), .int (nI z43), .int (nI z44), .int (nI z45), .int (nI z46), .ref z47, .ref z48, .ref z49, .ref z50, .ref z51, .ref z52, .int z53, .ref z54])) :: (z50, .inl (g.2.1 0, 15, .inl (nA rdn))) :: R) s.heap := hW
    refine lv_aload_n F.1 F.2.1 dX14_did_0 rfl (lv_at hl 0 rfl) ?_
    refine lv_iconst (v := nI 0) F.1 F.2.1 dX14_did_1 rfl ?_
    refine gPut (w2 := (o, .inr (11, [.int (nI 0), .int (nI z1), .int z2, .int (nI z3), .ref z4, .ref z5, .int (bI z6), .ref z7, .ref z8, .int (nI z9), .int (nI z10), .int (nI z11), .int (nI z12), .int (nI z13), .int (nI z14), .int (nI z15), .long (lN z16), .ref z17, .int z18, .int (nI z19), .ref z20, .ref z21, .ref z22, .ref z23, .ref z24, .ref z25, .int (nI z26), .int (nI z27), .int (nI z28), .int z29, .int (nI z30), .int (nI z31), .ref z32, .ref z33, .ref z34, .ref z35, .ref z36, .int (bI z37), .int (nI z38), .int (nI z39), .int (nI z40), .int (nI z41), .int (nI z42), .int (nI z43), .int (nI z44), .int (nI z45), .int (nI z46), .ref z47, .ref z48, .ref z49, .ref z50, .ref z51, .ref z52, .int z53, .ref z54])) :: (z50, .inl (g.2.1 0, 15, .inl (nA rdn))) :: R) F hS hG hW nX14_did_X14 0 rfl rfl 0 (by decide) tyX14 tyX14_ok nmX14 mX14_did_1 rfl rfl rfl rfl (Nat.le_of_ble_eq_true rfl) rfl dX14_did_2 (fun H locs hW hS => ?_)
    refine lv_aload_n F.1 F.2.1 dX14_did_5 rfl (lv_at hl 0 rfl) ?_
    refine gGet F hG hW nX14_did_X14 0 rfl rfl 37 (by decide) mX14_did_2 rfl dX14_did_6 ?_
    refine gIfEqB (tgt := 31) F dX14_did_9 (by decide) (fun c_9 => ?_) (fun c_9 => ?_)
    · refine lv_iconst (v := -1) F.1 F.2.1 dX14_did_31 rfl ?_
      refine gRi F hW hS dX14_did_32 ?_
      exact ⟨if_neg (by rw [c_9]; decide), rfl⟩
    · refine lv_iload_n F.1 F.2.1 dX14_did_12 rfl (lv_at hl 1 rfl) ?_
      refine lv_iconst (v := nI 0) F.1 F.2.1 dX14_did_13 rfl ?_
      refine lv_bipush (v := nI 14) F.1 F.2.1 dX14_did_14 (by decide) ?_
      refine gS_i (n := 3) (As := [.int (nI j), .int (nI 0), .int (nI 14)]) F hG hS hW (c_X14_in g l  ) rfl gX14_did_X14_in (by decide +kernel) ⟨rfl, rfl, Nat.le_of_ble_eq_true rfl, Nat.le_of_ble_eq_true rfl⟩ hl.1 (Nat.le_of_ble_eq_true rfl) ⟨Nat.le_of_ble_eq_true rfl, Nat.le_of_ble_eq_true rfl⟩ rfl rfl dX14_did_16 (fun r u H locs hq hW hS => ?_)
      obtain ⟨rfl, rfl⟩ := hq
      have hW : gW g ((o, .inr (11, [.int (nI 0), .int (nI z1), .int z2, .int (nI z3), .ref z4, .ref z5, .int (bI z6), .ref z7, .ref z8, .int (nI z9), .int (nI z10), .int (nI z11), .int (nI z12), .int (nI z13), .int (nI z14), .int (nI z15), .long (lN z16), .ref z17, .int z18, .int (nI z19), .ref z20, .ref z21, .ref z22, .ref z23, .ref z24, .ref z25, .int (nI z26), .int (nI z27), .int (nI z28), .int z29, .int (nI z30), .int (nI z31), .ref z32, .ref z33, .ref z34, .ref z35, .ref z36, .int (bI z37), .int (nI z38), .int (nI z39), .int (nI z40), .int (nI z41), .int (nI z42), .int (nI z43), .int (nI z44), .int (nI z45), .int (nI z46), .ref z47, .ref z48, .ref z49, .ref z50, .ref z51, .ref z52, .int z53, .ref z54])) :: (z50, .inl (g.2.1 0, 15, .inl (nA rdn))) :: R) _ := hW
      refine gTop (congrArg bI (inS_in (n := 14) (by decide) hj)) ?_
      refine gIfEqB (tgt := 31) F dX14_did_19 (by decide) (fun q => by simp at q) (fun c_19 => ?_)
      refine lv_aload_n F.1 F.2.1 dX14_did_22 rfl (lv_at hl 0 rfl) ?_
      refine gGet F hG hW nX14_did_X14 0 rfl rfl 50 (by decide) mX14_did_3 rfl dX14_did_23 ?_
      refine lv_iload_n F.1 F.2.1 dX14_did_26 rfl (lv_at hl 1 rfl) ?_
      refine gLdI F hG hW 1 rfl (by omega) (by decide) dX14_did_27 ?_
      refine gTop (y := nI (rdn j)) rfl ?_
      refine lv_goto (tgt := 32) F.1 F.2.1 dX14_did_28 (by decide) ?_
      refine gRi F hW hS dX14_did_32 ?_
      exact ⟨(if_pos c_9).trans (ixS_in hj (by decide)), rfl⟩

abbrev rm_X14_follows : Room := ({ frames := 1, cells := 0, slots := 0, locals := 22 } : Room)
theorem mX14_follows_1 : Cond.fieldLink RX14 129 "StepperHeartsModel" "thrown" "I" ∈ wsX14_follows := List.mem_of_getElem? (i := 1) rfl
theorem nX14_follows_X14 : ∀ w ∈ wsX140, w ∈ wsX14_follows := fun _ h => List.mem_cons_of_mem _ (List.mem_append_right _ (h))
theorem mX14_follows_2 : Cond.fieldLink RX14 317 "StepperHeartsModel" "hasRun" "Z" ∈ wsX14_follows := List.mem_of_getElem? (i := 2) rfl
theorem mX14_follows_3 : Cond.fieldLink RX14 117 "StepperHeartsModel" "ranFollows" "[I" ∈ wsX14_follows := List.mem_of_getElem? (i := 3) rfl
set_option maxRecDepth 100000 in
set_option maxHeartbeats 4000000 in
theorem c_X14_follows (g : gC) (l : Launch) {o : Nat} {z0 : Nat} {z1 : Nat} {z2 : Int32} {z3 : Nat} {z4 : Nat} {z5 : Nat} {z6 : Bool} {z7 : Nat} {z8 : Nat} {z9 : Nat} {z10 : Nat} {z11 : Nat} {z12 : Nat} {z13 : Nat} {z14 : Nat} {z15 : Nat} {z16 : Nat} {z17 : Nat} {z18 : Int32} {z19 : Nat} {z20 : Nat} {z21 : Nat} {z22 : Nat} {z23 : Nat} {z24 : Nat} {z25 : Nat} {z26 : Nat} {z27 : Nat} {z28 : Nat} {z29 : Int32} {z30 : Nat} {z31 : Nat} {z32 : Nat} {z33 : Nat} {z34 : Nat} {z35 : Nat} {z36 : Nat} {z37 : Bool} {z38 : Nat} {z39 : Nat} {z40 : Nat} {z41 : Nat} {z42 : Nat} {z43 : Nat} {z44 : Nat} {z45 : Nat} {z46 : Nat} {z47 : Nat} {z48 : Nat} {z49 : Nat} {z50 : Nat} {z51 : Nat} {z52 : Nat} {z53 : Int32} {z54 : Nat} {rfw : Nat → Nat} {x : Int32} {y : Int32} {R : va_W} : cI g l yX14_follows wsX14_follows rm_X14_follows 0 0 [.ref o, .int x, .int y] ((o, .inr (11, [.int (nI z0), .int (nI z1), .int z2, .int (nI z3), .ref z4, .ref z5, .int (bI z6), .ref z7, .ref z8, .int (nI z9), .int (nI z10), .int (nI z11), .int (nI z12), .int (nI z13), .int (nI z14), .int (nI z15), .long (lN z16), .ref z17, .int z18, .int (nI z19), .ref z20, .ref z21, .ref z22, .ref z23, .ref z24, .ref z25, .int (nI z26), .int (nI z27), .int (nI z28), .int z29, .int (nI z30), .int (nI z31), .ref z32, .ref z33, .ref z34, .ref z35, .ref z36, .int (bI z37), .int (nI z38), .int (nI z39), .int (nI z40), .int (nI z41), .int (nI z42), .int (nI z43), .int (nI z44), .int (nI z45), .int (nI z46), .ref z47, .ref z48, .ref z49, .ref z50, .ref z51, .ref z52, .int z53, .ref z54])) :: (z51, .inl (g.2.1 0, 225, .inl (nA rfw))) :: R) (fun r u => (if z37 = true then ixS x 15 (fun j => ixS y 15 (fun k => nI (rfw (j * 15 + k))) (-1)) (-1) else -1) = r ∧ (o, .inr (11, [.int (nI 0), .int (nI z1), .int z2, .int (nI z3), .ref z4, .ref z5, .int (bI z6), .ref z7, .ref z8, .int (nI z9), .int (nI z10), .int (nI z11), .int (nI z12), .int (nI z13), .int (nI z14), .int (nI z15), .long (lN z16), .ref z17, .int z18, .int (nI z19), .ref z20, .ref z21, .ref z22, .ref z23, .ref z24, .ref z25, .int (nI z26), .int (nI z27), .int (nI z28), .int z29, .int (nI z30), .int (nI z31), .ref z32, .ref z33, .ref z34, .ref z35, .ref z36, .int (bI z37), .int (nI z38), .int (nI z39), .int (nI z40), .int (nI z41), .int (nI z42), .int (nI z43), .int (nI z44), .int (nI z45), .int (nI z46), .ref z47, .ref z48, .ref z49, .ref z50, .ref z51, .ref z52, .int z53, .ref z54])) :: (z51, .inl (g.2.1 0, 225, .inl (nA rfw))) :: R = u) := by
  refine gEnterQ (cc := cX14_follows) (maxL := 3) (ret := (some (.int))) (by decide +kernel) rfl (Nat.le_of_ble_eq_true rfl) ?_
  intro p e s m below meth c F hG hW ls hl
  have hS : va_S (gA g) s.heap s.heap [] := va_S.rf
  have hl : lv_has ls 3 [(0, .ref o), (1, .int x), (2, .int y)] := hl
  have hW : gW g ((o, .inr (11, [.int (nI z0), .int (nI z1), .int z2, .int (nI z3), .ref z4, .ref z5, .int (bI z6), .ref z7, .ref z8, .int (nI z9), .int (nI z10), .int (nI z11), .int (nI z12), .int (nI z13), .int (nI z14), .int (nI z15), .long (lN z16), .ref z17, .int z18, .int (nI z19), .ref z20, .ref z21, .ref z22, .ref z23, .ref z24, .ref z25, .int (nI z26), .int (nI z27), .int (nI z28), .int z29, .int (nI z30), .int (nI z31), .ref z32, .ref z33, .ref z34, .ref z35, .ref z36, .int (bI z37), .int (nI z38), .int (nI z39), .int (nI z40), .int (nI z41), .int (nI z42), .int (nI z43), .int (nI z44), .int (nI z45), .int (nI z46), .ref z47, .ref z48, .ref z49, .ref z50, .ref z51, .ref z52, .int z53, .ref z54])) :: (z51, .inl (g.2.1 0, 225, .inl (nA rfw))) :: R) s.heap := hW
  rcases ixc x (n := 15) (by decide) with hx | ⟨j, hj, rfl⟩
  · have hl : lv_has ls 3 [(0, .ref o), (1, .int x), (2, .int y)] := hl
    have hW : gW g ((o, .inr (11, [.int (nI z0), .int (nI z1), .int z2, .int (nI z3), .ref z4, .ref z5, .int (bI z6), .ref z7, .ref z8, .int (nI z9), .int (nI z10), .int (nI z11), .int (nI z12), .int (nI z13), .int (nI z14), .int (nI z15), .long (lN z16), .ref z17, .int z18, .int (nI z19), .ref z20, .ref z21, .ref z22, .ref z23, .ref z24, .ref z25, .int (nI z26), .int (nI z27), .int (nI z28), .int z29, .int (nI z30), .int (nI z31), .ref z32, .ref z33, .ref z34, .ref z35, .ref z36, .int (bI z37), .int (nI z38), .int (nI z39), .int (nI z40), .int (nI z41), .int (nI z42), .int (nI z43), .int (nI z44), .int (nI z45), .int (nI z46), .ref z47, .ref z48, .ref z49, .ref z50, .ref z51, .ref z52, .int z53, .ref z54])) :: (z51, .inl (g.2.1 0, 225, .inl (nA rfw))) :: R) s.heap := hW
    refine lv_aload_n F.1 F.2.1 dX14_follows_0 rfl (lv_at hl 0 rfl) ?_
    refine lv_iconst (v := nI 0) F.1 F.2.1 dX14_follows_1 rfl ?_
    refine gPut (w2 := (o, .inr (11, [.int (nI 0), .int (nI z1), .int z2, .int (nI z3), .ref z4, .ref z5, .int (bI z6), .ref z7, .ref z8, .int (nI z9), .int (nI z10), .int (nI z11), .int (nI z12), .int (nI z13), .int (nI z14), .int (nI z15), .long (lN z16), .ref z17, .int z18, .int (nI z19), .ref z20, .ref z21, .ref z22, .ref z23, .ref z24, .ref z25, .int (nI z26), .int (nI z27), .int (nI z28), .int z29, .int (nI z30), .int (nI z31), .ref z32, .ref z33, .ref z34, .ref z35, .ref z36, .int (bI z37), .int (nI z38), .int (nI z39), .int (nI z40), .int (nI z41), .int (nI z42), .int (nI z43), .int (nI z44), .int (nI z45), .int (nI z46), .ref z47, .ref z48, .ref z49, .ref z50, .ref z51, .ref z52, .int z53, .ref z54])) :: (z51, .inl (g.2.1 0, 225, .inl (nA rfw))) :: R) F hS hG hW nX14_follows_X14 0 rfl rfl 0 (by decide) tyX14 tyX14_ok nmX14 mX14_follows_1 rfl rfl rfl rfl (Nat.le_of_ble_eq_true rfl) rfl dX14_follows_2 (fun H locs hW hS => ?_)
    refine lv_aload_n F.1 F.2.1 dX14_follows_5 rfl (lv_at hl 0 rfl) ?_
    refine gGet F hG hW nX14_follows_X14 0 rfl rfl 37 (by decide) mX14_follows_2 rfl dX14_follows_6 ?_
    refine gIfEqB (tgt := 46) F dX14_follows_9 (by decide) (fun c_9 => ?_) (fun c_9 => ?_)
    · refine lv_iconst (v := -1) F.1 F.2.1 dX14_follows_46 rfl ?_
      refine gRi F hW hS dX14_follows_47 ?_
      exact ⟨if_neg (by rw [c_9]; decide), rfl⟩
    · refine lv_iload_n F.1 F.2.1 dX14_follows_12 rfl (lv_at hl 1 rfl) ?_
      refine lv_iconst (v := nI 0) F.1 F.2.1 dX14_follows_13 rfl ?_
      refine lv_bipush (v := nI 14) F.1 F.2.1 dX14_follows_14 (by decide) ?_
      refine gS_i (n := 3) (As := [.int x, .int (nI 0), .int (nI 14)]) F hG hS hW (c_X14_in g l  ) rfl gX14_follows_X14_in (by decide +kernel) ⟨rfl, rfl, Nat.le_of_ble_eq_true rfl, Nat.le_of_ble_eq_true rfl⟩ hl.1 (Nat.le_of_ble_eq_true rfl) ⟨Nat.le_of_ble_eq_true rfl, Nat.le_of_ble_eq_true rfl⟩ rfl rfl dX14_follows_16 (fun r u H locs hq hW hS => ?_)
      obtain ⟨rfl, rfl⟩ := hq
      have hW : gW g ((o, .inr (11, [.int (nI 0), .int (nI z1), .int z2, .int (nI z3), .ref z4, .ref z5, .int (bI z6), .ref z7, .ref z8, .int (nI z9), .int (nI z10), .int (nI z11), .int (nI z12), .int (nI z13), .int (nI z14), .int (nI z15), .long (lN z16), .ref z17, .int z18, .int (nI z19), .ref z20, .ref z21, .ref z22, .ref z23, .ref z24, .ref z25, .int (nI z26), .int (nI z27), .int (nI z28), .int z29, .int (nI z30), .int (nI z31), .ref z32, .ref z33, .ref z34, .ref z35, .ref z36, .int (bI z37), .int (nI z38), .int (nI z39), .int (nI z40), .int (nI z41), .int (nI z42), .int (nI z43), .int (nI z44), .int (nI z45), .int (nI z46), .ref z47, .ref z48, .ref z49, .ref z50, .ref z51, .ref z52, .int z53, .ref z54])) :: (z51, .inl (g.2.1 0, 225, .inl (nA rfw))) :: R) _ := hW
      refine gTop (congrArg bI (inS_out (n := 14) (by decide) hx)) ?_
      refine gIfEqB (tgt := 46) F dX14_follows_19 (by decide) (fun c_19 => ?_) (fun q => by simp at q)
      refine lv_iconst (v := -1) F.1 F.2.1 dX14_follows_46 rfl ?_
      refine gRi F hW hS dX14_follows_47 ?_
      exact ⟨(if_pos c_9).trans (ixS_out hx (by decide)), rfl⟩
  · have hl : lv_has ls 3 [(0, .ref o), (1, .int (nI j)), (2, .int y)] := hl
    have hW : gW g ((o, .inr (11, [.int (nI z0), .int (nI z1), .int z2, .int (nI z3), .ref z4, .ref z5, .int (bI z6), .ref z7, .ref z8, .int (nI z9), .int (nI z10), .int (nI z11), .int (nI z12), .int (nI z13), .int (nI z14), .int (nI z15), .long (lN z16), .ref z17, .int z18, .int (nI z19), .ref z20, .ref z21, .ref z22, .ref z23, .ref z24, .ref z25, .int (nI z26), .int (nI z27), .int (nI z28), .int z29, .int (nI z30), .int (nI z31), .ref z32, .ref z33, .ref z34, .ref z35, .ref z36, .int (bI z37), .int (nI z38), .int (nI z39), .int (nI z40), .int (nI z41), .int (nI z42), .int (nI z43), .int (nI z44), .int (nI z45), .int (nI z46), .ref z47, .ref z48, .ref z49, .ref z50, .ref z51, .ref z52, .int z53, .ref z54])) :: (z51, .inl (g.2.1 0, 225, .inl (nA rfw))) :: R) s.heap := hW
    rcases ixc y (n := 15) (by decide) with hx | ⟨k, hk, rfl⟩
    · have hl : lv_has ls 3 [(0, .ref o), (1, .int (nI j)), (2, .int y)] := hl
      have hW : gW g ((o, .inr (11, [.int (nI z0), .int (nI z1), .int z2, .int (nI z3), .ref z4, .ref z5, .int (bI z6), .ref z7, .ref z8, .int (nI z9), .int (nI z10), .int (nI z11), .int (nI z12), .int (nI z13), .int (nI z14), .int (nI z15), .long (lN z16), .ref z17, .int z18, .int (nI z19), .ref z20, .ref z21, .ref z22, .ref z23, .ref z24, .ref z25, .int (nI z26), .int (nI z27), .int (nI z28), .int z29, .int (nI z30), .int (nI z31), .ref z32, .ref z33, .ref z34, .ref z35, .ref z36, .int (bI z37), .int (nI z38), .int (nI z39), .int (nI z40), .int (nI z41), .int (nI z42), .int (nI z43), .int (nI z44), .int (nI z45), .int (nI z46), .ref z47, .ref z48, .ref z49, .ref z50, .ref z51, .ref z52, .int z53, .ref z54])) :: (z51, .inl (g.2.1 0, 225, .inl (nA rfw))) :: R) s.heap := hW
      refine lv_aload_n F.1 F.2.1 dX14_follows_0 rfl (lv_at hl 0 rfl) ?_
      refine lv_iconst (v := nI 0) F.1 F.2.1 dX14_follows_1 rfl ?_
      refine gPut (w2 := (o, .inr (11, [.int (nI 0), .int (nI z1), .int z2, .int (nI z3), .ref z4, .ref z5, .int (bI z6), .ref z7, .ref z8, .int (nI z9), .int (nI z10), .int (nI z11), .int (nI z12), .int (nI z13), .int (nI z14), .int (nI z15), .long (lN z16), .ref z17, .int z18, .int (nI z19), .ref z20, .ref z21, .ref z22, .ref z23, .ref z24, .ref z25, .int (nI z26), .int (nI z27), .int (nI z28), .int z29, .int (nI z30), .int (nI z31), .ref z32, .ref z33, .ref z34, .ref z35, .ref z36, .int (bI z37), .int (nI z38), .int (nI z39), .int (nI z40), .int (nI z41), .int (nI z42), .int (nI z43), .int (nI z44), .int (nI z45), .int (nI z46), .ref z47, .ref z48, .ref z49, .ref z50, .ref z51, .ref z52, .int z53, .ref z54])) :: (z51, .inl (g.2.1 0, 225, .inl (nA rfw))) :: R) F hS hG hW nX14_follows_X14 0 rfl rfl 0 (by decide) tyX14 tyX14_ok nmX14 mX14_follows_1 rfl rfl rfl rfl (Nat.le_of_ble_eq_true rfl) rfl dX14_follows_2 (fun H locs hW hS => ?_)
      refine lv_aload_n F.1 F.2.1 dX14_follows_5 rfl (lv_at hl 0 rfl) ?_
      refine gGet F hG hW nX14_follows_X14 0 rfl rfl 37 (by decide) mX14_follows_2 rfl dX14_follows_6 ?_
      refine gIfEqB (tgt := 46) F dX14_follows_9 (by decide) (fun c_9 => ?_) (fun c_9 => ?_)
      · refine lv_iconst (v := -1) F.1 F.2.1 dX14_follows_46 rfl ?_
        refine gRi F hW hS dX14_follows_47 ?_
        exact ⟨if_neg (by rw [c_9]; decide), rfl⟩
      · refine lv_iload_n F.1 F.2.1 dX14_follows_12 rfl (lv_at hl 1 rfl) ?_
        refine lv_iconst (v := nI 0) F.1 F.2.1 dX14_follows_13 rfl ?_
        refine lv_bipush (v := nI 14) F.1 F.2.1 dX14_follows_14 (by decide) ?_
        refine gS_i (n := 3) (As := [.int (nI j), .int (nI 0), .int (nI 14)]) F hG hS hW (c_X14_in g l  ) rfl gX14_follows_X14_in (by decide +kernel) ⟨rfl, rfl, Nat.le_of_ble_eq_true rfl, Nat.le_of_ble_eq_true rfl⟩ hl.1 (Nat.le_of_ble_eq_true rfl) ⟨Nat.le_of_ble_eq_true rfl, Nat.le_of_ble_eq_true rfl⟩ rfl rfl dX14_follows_16 (fun r u H locs hq hW hS => ?_)
        obtain ⟨rfl, rfl⟩ := hq
        have hW : gW g ((o, .inr (11, [.int (nI 0), .int (nI z1), .int z2, .int (nI z3), .ref z4, .ref z5, .int (bI z6), .ref z7, .ref z8, .int (nI z9), .int (nI z10), .int (nI z11), .int (nI z12), .int (nI z13), .int (nI z14), .int (nI z15), .long (lN z16), .ref z17, .int z18, .int (nI z19), .ref z20, .ref z21, .ref z22, .ref z23, .ref z24, .ref z25, .int (nI z26), .int (nI z27), .int (nI z28), .int z29, .int (nI z30), .int (nI z31), .ref z32, .ref z33, .ref z34, .ref z35, .ref z36, .int (bI z37), .int (nI z38), .int (nI z39), .int (nI z40), .int (nI z41), .int (nI z42), .int (nI z43), .int (nI z44), .int (nI z45), .int (nI z46), .ref z47, .ref z48, .ref z49, .ref z50, .ref z51, .ref z52, .int z53, .ref z54])) :: (z51, .inl (g.2.1 0, 225, .inl (nA rfw))) :: R) _ := hW
        refine gTop (congrArg bI (inS_in (n := 14) (by decide) hj)) ?_
        refine gIfEqB (tgt := 46) F dX14_follows_19 (by decide) (fun q => by simp at q) (fun c_19 => ?_)
        refine lv_iload_n F.1 F.2.1 dX14_follows_22 rfl (lv_at hl 2 rfl) ?_
        refine lv_iconst (v := nI 0) F.1 F.2.1 dX14_follows_23 rfl ?_
        refine lv_bipush (v := nI 14) F.1 F.2.1 dX14_follows_24 (by decide) ?_
        refine gS_i (n := 3) (As := [.int y, .int (nI 0), .int (nI 14)]) F hG hS hW (c_X14_in g l  ) rfl gX14_follows_X14_in (by decide +kernel) ⟨rfl, rfl, Nat.le_of_ble_eq_true rfl, Nat.le_of_ble_eq_true rfl⟩ hl.1 (Nat.le_of_ble_eq_true rfl) ⟨Nat.le_of_ble_eq_true rfl, Nat.le_of_ble_eq_true rfl⟩ rfl rfl dX14_follows_26 (fun r u H locs hq hW hS => ?_)
        obtain ⟨rfl, rfl⟩ := hq
        have hW : gW g ((o, .inr (11, [.int (nI 0), .int (nI z1), .int z2, .int (nI z3), .ref z4, .ref z5, .int (bI z6), .ref z7, .ref z8, .int (nI z9), .int (nI z10), .int (nI z11), .int (nI z12), .int (nI z13), .int (nI z14), .int (nI z15), .long (lN z16), .ref z17, .int z18, .int (nI z19), .ref z20, .ref z21, .ref z22, .ref z23, .ref z24, .ref z25, .int (nI z26), .int (nI z27), .int (nI z28), .int z29, .int (nI z30), .int (nI z31), .ref z32, .ref z33, .ref z34, .ref z35, .ref z36, .int (bI z37), .int (nI z38), .int (nI z39), .int (nI z40), .int (nI z41), .int (nI z42), .int (nI z43), .int (nI z44), .int (nI z45), .int (nI z46), .ref z47, .ref z48, .ref z49, .ref z50, .ref z51, .ref z52, .int z53, .ref z54])) :: (z51, .inl (g.2.1 0, 225, .inl (nA rfw))) :: R) _ := hW
        refine gTop (congrArg bI (inS_out (n := 14) (by decide) hx)) ?_
        refine gIfEqB (tgt := 46) F dX14_follows_29 (by decide) (fun c_29 => ?_) (fun q => by simp at q)
        refine lv_iconst (v := -1) F.1 F.2.1 dX14_follows_46 rfl ?_
        refine gRi F hW hS dX14_follows_47 ?_
        exact ⟨(if_pos c_9).trans ((ixS_in hj (by decide)).trans (ixS_out hx (by decide))), rfl⟩
    · have hl : lv_has ls 3 [(0, .ref o), (1, .int (nI j)), (2, .int (nI k))] := hl
      have hW : gW g ((o, .inr (11, [.int (nI z0), .int (nI z1), .int z2, .int (nI z3), .ref z4, .ref z5, .int (bI z6), .ref z7, .ref z8, .int (nI z9), .int (nI z10), .int (nI z11), .int (nI z12), .int (nI z13), .int (nI z14), .int (nI z15), .long (lN z16), .ref z17, .int z18, .int (nI z19), .ref z20, .ref z21, .ref z22, .ref z23, .ref z24, .ref z25, .int (nI z26), .int (nI z27), .int (nI z28), .int z29, .int (nI z30), .int (nI z31), .ref z32, .ref z33, .ref z34, .ref z35, .ref z36, .int (bI z37), .int (nI z38), .int (nI z39), .int (nI z40), .int (nI z41), .int (nI z42), .int (nI z43), .int (nI z44), .int (nI z45), .int (nI z46), .ref z47, .ref z48, .ref z49, .ref z50, .ref z51, .ref z52, .int z53, .ref z54])) :: (z51, .inl (g.2.1 0, 225, .inl (nA rfw))) :: R) s.heap := hW
      refine lv_aload_n F.1 F.2.1 dX14_follows_0 rfl (lv_at hl 0 rfl) ?_
      refine lv_iconst (v := nI 0) F.1 F.2.1 dX14_follows_1 rfl ?_
      refine gPut (w2 := (o, .inr (11, [.int (nI 0), .int (nI z1), .int z2, .int (nI z3), .ref z4, .ref z5, .int (bI z6), .ref z7, .ref z8, .int (nI z9), .int (nI z10), .int (nI z11), .int (nI z12), .int (nI z13), .int (nI z14), .int (nI z15), .long (lN z16), .ref z17, .int z18, .int (nI z19), .ref z20, .ref z21, .ref z22, .ref z23, .ref z24, .ref z25, .int (nI z26), .int (nI z27), .int (nI z28), .int z29, .int (nI z30), .int (nI z31), .ref z32, .ref z33, .ref z34, .ref z35, .ref z36, .int (bI z37), .int (nI z38), .int (nI z39), .int (nI z40), .int (nI z41), .int (nI z42), .int (nI z43), .int (nI z44), .int (nI z45), .int (nI z46), .ref z47, .ref z48, .ref z49, .ref z50, .ref z51, .ref z52, .int z53, .ref z54])) :: (z51, .inl (g.2.1 0, 225, .inl (nA rfw))) :: R) F hS hG hW nX14_follows_X14 0 rfl rfl 0 (by decide) tyX14 tyX14_ok nmX14 mX14_follows_1 rfl rfl rfl rfl (Nat.le_of_ble_eq_true rfl) rfl dX14_follows_2 (fun H locs hW hS => ?_)
      refine lv_aload_n F.1 F.2.1 dX14_follows_5 rfl (lv_at hl 0 rfl) ?_
      refine gGet F hG hW nX14_follows_X14 0 rfl rfl 37 (by decide) mX14_follows_2 rfl dX14_follows_6 ?_
      refine gIfEqB (tgt := 46) F dX14_follows_9 (by decide) (fun c_9 => ?_) (fun c_9 => ?_)
      · refine lv_iconst (v := -1) F.1 F.2.1 dX14_follows_46 rfl ?_
        refine gRi F hW hS dX14_follows_47 ?_
        exact ⟨if_neg (by rw [c_9]; decide), rfl⟩
      · refine lv_iload_n F.1 F.2.1 dX14_follows_12 rfl (lv_at hl 1 rfl) ?_
        refine lv_iconst (v := nI 0) F.1 F.2.1 dX14_follows_13 rfl ?_
        refine lv_bipush (v := nI 14) F.1 F.2.1 dX14_follows_14 (by decide) ?_
        refine gS_i (n := 3) (As := [.int (nI j), .int (nI 0), .int (nI 14)]) F hG hS hW (c_X14_in g l  ) rfl gX14_follows_X14_in (by decide +kernel) ⟨rfl, rfl, Nat.le_of_ble_eq_true rfl, Nat.le_of_ble_eq_true rfl⟩ hl.1 (Nat.le_of_ble_eq_true rfl) ⟨Nat.le_of_ble_eq_true rfl, Nat.le_of_ble_eq_true rfl⟩ rfl rfl dX14_follows_16 (fun r u H locs hq hW hS => ?_)
        obtain ⟨rfl, rfl⟩ := hq
        have hW : gW g ((o, .inr (11, [.int (nI 0), .int (nI z1), .int z2, .int (nI z3), .ref z4, .ref z5, .int (bI z6), .ref z7, .ref z8, .int (nI z9), .int (nI z10), .int (nI z11), .int (nI z12), .int (nI z13), .int (nI z14), .int (nI z15), .long (lN z16), .ref z17, .int z18, .int (nI z19), .ref z20, .ref z21, .ref z22, .ref z23, .ref z24, .ref z25, .int (nI z26), .int (nI z27), .int (nI z28), .int z29, .int (nI z30), .int (nI z31), .ref z32, .ref z33, .ref z34, .ref z35, .ref z36, .int (bI z37), .int (nI z38), .int (nI z39), .int (nI z40), .int (nI z41), .int (nI z42), .int (nI z43), .int (nI z44), .int (nI z45), .int (nI z46), .ref z47, .ref z48, .ref z49, .ref z50, .ref z51, .ref z52, .int z53, .ref z54])) :: (z51, .inl (g.2.1 0, 225, .inl (nA rfw))) :: R) _ := hW
        refine gTop (congrArg bI (inS_in (n := 14) (by decide) hj)) ?_
        refine gIfEqB (tgt := 46) F dX14_follows_19 (by decide) (fun q => by simp at q) (fun c_19 => ?_)
        refine lv_iload_n F.1 F.2.1 dX14_follows_22 rfl (lv_at hl 2 rfl) ?_
        refine lv_iconst (v := nI 0) F.1 F.2.1 dX14_follows_23 rfl ?_
        refine lv_bipush (v := nI 14) F.1 F.2.1 dX14_follows_24 (by decide) ?_
        refine gS_i (n := 3) (As := [.int (nI k), .int (nI 0), .int (nI 14)]) F hG hS hW (c_X14_in g l  ) rfl gX14_follows_X14_in (by decide +kernel) ⟨rfl, rfl, Nat.le_of_ble_eq_true rfl, Nat.le_of_ble_eq_true rfl⟩ hl.1 (Nat.le_of_ble_eq_true rfl) ⟨Nat.le_of_ble_eq_true rfl, Nat.le_of_ble_eq_true rfl⟩ rfl rfl dX14_follows_26 (fun r u H locs hq hW hS => ?_)
        obtain ⟨rfl, rfl⟩ := hq
        have hW : gW g ((o, .inr (11, [.int (nI 0), .int (nI z1), .int z2, .int (nI z3), .ref z4, .ref z5, .int (bI z6), .ref z7, .ref z8, .int (nI z9), .int (nI z10), .int (nI z11), .int (nI z12), .int (nI z13), .int (nI z14), .int (nI z15), .long (lN z16), .ref z17, .int z18, .int (nI z19), .ref z20, .ref z21, .ref z22, .ref z23, .ref z24, .ref z25, .int (nI z26), .int (nI z27), .int (nI z28), .int z29, .int (nI z30), .int (nI z31), .ref z32, .ref z33, .ref z34, .ref z35, .ref z36, .int (bI z37), .int (nI z38), .int (nI z39), .int (nI z40), .int (nI z41), .int (nI z42), .int (nI z43), .int (nI z44), .int (nI z45), .int (nI z46), .ref z47, .ref z48, .ref z49, .ref z50, .ref z51, .ref z52, .int z53, .ref z54])) :: (z51, .inl (g.2.1 0, 225, .inl (nA rfw))) :: R) _ := hW
        refine gTop (congrArg bI (inS_in (n := 14) (by decide) hk)) ?_
        refine gIfEqB (tgt := 46) F dX14_follows_29 (by decide) (fun q => by simp at q) (fun c_29 => ?_)
        refine lv_aload_n F.1 F.2.1 dX14_follows_32 rfl (lv_at hl 0 rfl) ?_
        refine gGet F hG hW nX14_follows_X14 0 rfl rfl 51 (by decide) mX14_follows_3 rfl dX14_follows_33 ?_
        refine lv_bipush (v := nI 15) F.1 F.2.1 dX14_follows_36 (by decide) ?_
        refine lv_iload_n F.1 F.2.1 dX14_follows_38 rfl (lv_at hl 1 rfl) ?_
        refine gMul F dX14_follows_39 ?_
        refine gTop (congrArg nI (Nat.mul_comm 15 j)) ?_
        refine lv_iload_n F.1 F.2.1 dX14_follows_40 rfl (lv_at hl 2 rfl) ?_
        refine gAdd F dX14_follows_41 ?_
        refine gLdI F hG hW 1 rfl (by omega) (by decide) dX14_follows_42 ?_
        refine gTop (y := nI (rfw ((j * 15) + k))) rfl ?_
        refine lv_goto (tgt := 47) F.1 F.2.1 dX14_follows_43 (by decide) ?_
        refine gRi F hW hS dX14_follows_47 ?_
        exact ⟨(if_pos c_9).trans ((ixS_in hj (by decide)).trans (ixS_in hk (by decide))), rfl⟩

abbrev rm_X14_trace : Room := ({ frames := 0, cells := 0, slots := 0, locals := 0 } : Room)
theorem mX14_trace_1 : Cond.fieldLink RX14 129 "StepperHeartsModel" "thrown" "I" ∈ wsX14_trace := List.mem_of_getElem? (i := 1) rfl
theorem nX14_trace_X14 : ∀ w ∈ wsX140, w ∈ wsX14_trace := fun _ h => List.mem_cons_of_mem _ (List.mem_append_right _ (h))
theorem mX14_trace_2 : Cond.fieldLink RX14 317 "StepperHeartsModel" "hasRun" "Z" ∈ wsX14_trace := List.mem_of_getElem? (i := 2) rfl
theorem mX14_trace_3 : Cond.fieldLink RX14 320 "StepperHeartsModel" "ranOrders" "I" ∈ wsX14_trace := List.mem_of_getElem? (i := 3) rfl
theorem mX14_trace_4 : Cond.fieldLink RX14 120 "StepperHeartsModel" "ranTrace" "[I" ∈ wsX14_trace := List.mem_of_getElem? (i := 4) rfl
set_option maxRecDepth 100000 in
set_option maxHeartbeats 4000000 in
theorem c_X14_trace (g : gC) (l : Launch) {o : Nat} {z0 : Nat} {z1 : Nat} {z2 : Int32} {z3 : Nat} {z4 : Nat} {z5 : Nat} {z6 : Bool} {z7 : Nat} {z8 : Nat} {z9 : Nat} {z10 : Nat} {z11 : Nat} {z12 : Nat} {z13 : Nat} {z14 : Nat} {z15 : Nat} {z16 : Nat} {z17 : Nat} {z18 : Int32} {z19 : Nat} {z20 : Nat} {z21 : Nat} {z22 : Nat} {z23 : Nat} {z24 : Nat} {z25 : Nat} {z26 : Nat} {z27 : Nat} {z28 : Nat} {z29 : Int32} {z30 : Nat} {z31 : Nat} {z32 : Nat} {z33 : Nat} {z34 : Nat} {z35 : Nat} {z36 : Nat} {z37 : Bool} {z38 : Nat} {z39 : Nat} {z40 : Nat} {z41 : Nat} {z42 : Nat} {z43 : Nat} {z44 : Nat} {z45 : Nat} {z46 : Nat} {z47 : Nat} {z48 : Nat} {z49 : Nat} {z50 : Nat} {z51 : Nat} {z52 : Nat} {z53 : Int32} {z54 : Nat} {rtr : Nat → Nat} {x : Int32} {R : va_W} (hpn : z38 ≤ 100) : cI g l yX14_trace wsX14_trace rm_X14_trace 0 0 [.ref o, .int x] ((o, .inr (11, [.int (nI z0), .int (nI z1), .int z2, .int (nI z3), .ref z4, .ref z5, .int (bI z6), .ref z7, .ref z8, .int (nI z9), .int (nI z10), .int (nI z11), .int (nI z12), .int (nI z13), .int (nI z14), .int (nI z15), .long (lN z16), .ref z17, .int z18, .int (nI z19), .ref z20, .ref z21, .ref z22, .ref z23, .ref z24, .ref z25, .int (nI z26), .int (nI z27), .int (nI z28), .int z29, .int (nI z30), .int (nI z31), .ref z32, .ref z33, .ref z34, .ref z35, .ref z36, .int (bI z37), .int (nI z38), .int (nI z39), .int (nI z40), .int (nI z41), .int (nI z42), .int (nI z43), .int (nI z44), .int (nI z45), .int (nI z46), .ref z47, .ref z48, .ref z49, .ref z50, .ref z51, .ref z52, .int z53, .ref z54])) :: (z52, .inl (g.2.1 0, 101, .inl (nA rtr))) :: R) (fun r u => (if z37 = true then ixS x z38 (fun j => nI (rtr j)) (-1) else -1) = r ∧ (o, .inr (11, [.int (nI 0), .int (nI z1), .int z2, .int (nI z3), .ref z4, .ref z5, .int (bI z6), .ref z7, .ref z8, .int (nI z9), .int (nI z10), .int (nI z11), .int (nI z12), .int (nI z13), .int (nI z14), .int (nI z15), .long (lN z16), .ref z17, .int z18, .int (nI z19), .ref z20, .ref z21, .ref z22, .ref z23, .ref z24, .ref z25, .int (nI z26), .int (nI z27), .int (nI z28), .int z29, .int (nI z30), .int (nI z31), .ref z32, .ref z33, .ref z34, .ref z35, .ref z36, .int (bI z37), .int (nI z38), .int (nI z39), .int (nI z40), .int (nI z41), .int (nI z42), .int (nI z43), .int (nI z44), .int (nI z45), .int (nI z46), .ref z47, .ref z48, .ref z49, .ref z50, .ref z51, .ref z52, .int z53, .ref z54])) :: (z52, .inl (g.2.1 0, 101, .inl (nA rtr))) :: R = u) := by
  refine gEnterQ (cc := cX14_trace) (maxL := 2) (ret := (some (.int))) (by decide +kernel) rfl (Nat.le_of_ble_eq_true rfl) ?_
  intro p e s m below meth c F hG hW ls hl
  have hS : va_S (gA g) s.heap s.heap [] := va_S.rf
  have hl : lv_has ls 2 [(0, .ref o), (1, .int x)] := hl
  have hW : gW g ((o, .inr (11, [.int (nI z0), .int (nI z1), .int z2, .int (nI z3), .ref z4, .ref z5, .int (bI z6), .ref z7, .ref z8, .int (nI z9), .int (nI z10), .int (nI z11), .int (nI z12), .int (nI z13), .int (nI z14), .int (nI z15), .long (lN z16), .ref z17, .int z18, .int (nI z19), .ref z20, .ref z21, .ref z22, .ref z23, .ref z24, .ref z25, .int (nI z26), .int (nI z27), .int (nI z28), .int z29, .int (nI z30), .int (nI z31), .ref z32, .ref z33, .ref z34, .ref z35, .ref z36, .int (bI z37), .int (nI z38), .int (nI z39), .int (nI z40), .int (nI z41), .int (nI z42), .int (nI z43), .int (nI z44), .int (nI z45), .int (nI z46), .ref z47, .ref z48, .ref z49, .ref z50, .ref z51, .ref z52, .int z53, .ref z54])) :: (z52, .inl (g.2.1 0, 101, .inl (nA rtr))) :: R) s.heap := hW
  rcases ixc x (n := z38) (by omega) with hx | ⟨j, hj, rfl⟩
  · have hl : lv_has ls 2 [(0, .ref o), (1, .int x)] := hl
    have hW : gW g ((o, .inr (11, [.int (nI z0), .int (nI z1), .int z2, .int (nI z3), .ref z4, .ref z5, .int (bI z6), .ref z7, .ref z8, .int (nI z9), .int (nI z10), .int (nI z11), .int (nI z12), .int (nI z13), .int (nI z14), .int (nI z15), .long (lN z16), .ref z17, .int z18, .int (nI z19), .ref z20, .ref z21, .ref z22, .ref z23, .ref z24, .ref z25, .int (nI z26), .int (nI z27), .int (nI z28), .int z29, .int (nI z30), .int (nI z31), .ref z32, .ref z33, .ref z34, .ref z35, .ref z36, .int (bI z37), .int (nI z38), .int (nI z39), .int (nI z40), .int (nI z41), .int (nI z42), .int (nI z43), .int (nI z44), .int (nI z45), .int (nI z46), .ref z47, .ref z48, .ref z49, .ref z50, .ref z51, .ref z52, .int z53, .ref z54])) :: (z52, .inl (g.2.1 0, 101, .inl (nA rtr))) :: R) s.heap := hW
    refine lv_aload_n F.1 F.2.1 dX14_trace_0 rfl (lv_at hl 0 rfl) ?_
    refine lv_iconst (v := nI 0) F.1 F.2.1 dX14_trace_1 rfl ?_
    refine gPut (w2 := (o, .inr (11, [.int (nI 0), .int (nI z1), .int z2, .int (nI z3), .ref z4, .ref z5, .int (bI z6), .ref z7, .ref z8, .int (nI z9), .int (nI z10), .int (nI z11), .int (nI z12), .int (nI z13), .int (nI z14), .int (nI z15), .long (lN z16), .ref z17, .int z18, .int (nI z19), .ref z20, .ref z21, .ref z22, .ref z23, .ref z24, .ref z25, .int (nI z26), .int (nI z27), .int (nI z28), .int z29, .int (nI z30), .int (nI z31), .ref z32, .ref z33, .ref z34, .ref z35, .ref z36, .int (bI z37), .int (nI z38), .int (nI z39), .int (nI z40), .int (nI z41), .int (nI z42), .int (nI z43), .int (nI z44), .int (nI z45), .int (nI z46), .ref z47, .ref z48, .ref z49, .ref z50, .ref z51, .ref z52, .int z53, .ref z54])) :: (z52, .inl (g.2.1 0, 101, .inl (nA rtr))) :: R) F hS hG hW nX14_trace_X14 0 rfl rfl 0 (by decide) tyX14 tyX14_ok nmX14 mX14_trace_1 rfl rfl rfl rfl (Nat.le_of_ble_eq_true rfl) rfl dX14_trace_2 (fun H locs hW hS => ?_)
    refine lv_aload_n F.1 F.2.1 dX14_trace_5 rfl (lv_at hl 0 rfl) ?_
    refine gGet F hG hW nX14_trace_X14 0 rfl rfl 37 (by decide) mX14_trace_2 rfl dX14_trace_6 ?_
    refine gIfEqB (tgt := 33) F dX14_trace_9 (by decide) (fun c_9 => ?_) (fun c_9 => ?_)
    · refine lv_iconst (v := -1) F.1 F.2.1 dX14_trace_33 rfl ?_
      refine gRi F hW hS dX14_trace_34 ?_
      exact ⟨if_neg (by rw [c_9]; decide), rfl⟩
    · refine lv_iload_n F.1 F.2.1 dX14_trace_12 rfl (lv_at hl 1 rfl) ?_
      refine lv_if_lt (tgt := 33) F.1 F.2.1 dX14_trace_13 (by decide) (fun c_13 => ?_) (fun c_13 => ?_)
      · refine lv_iconst (v := -1) F.1 F.2.1 dX14_trace_33 rfl ?_
        refine gRi F hW hS dX14_trace_34 ?_
        exact ⟨(if_pos c_9).trans (ixS_out hx (by omega)), rfl⟩
      · refine lv_iload_n F.1 F.2.1 dX14_trace_16 rfl (lv_at hl 1 rfl) ?_
        refine lv_aload_n F.1 F.2.1 dX14_trace_17 rfl (lv_at hl 0 rfl) ?_
        refine gGet F hG hW nX14_trace_X14 0 rfl rfl 38 (by decide) mX14_trace_3 rfl dX14_trace_18 ?_
        refine lv_icmp_ge (tgt := 33) F.1 F.2.1 dX14_trace_21 (by decide) (fun c_21 => ?_) (fun q => (ixo2 hx c_13 q).elim)
        refine lv_iconst (v := -1) F.1 F.2.1 dX14_trace_33 rfl ?_
        refine gRi F hW hS dX14_trace_34 ?_
        exact ⟨(if_pos c_9).trans (ixS_out hx (by omega)), rfl⟩
  · have hl : lv_has ls 2 [(0, .ref o), (1, .int (nI j))] := hl
    have hW : gW g ((o, .inr (11, [.int (nI z0), .int (nI z1), .int z2, .int (nI z3), .ref z4, .ref z5, .int (bI z6), .ref z7, .ref z8, .int (nI z9), .int (nI z10), .int (nI z11), .int (nI z12), .int (nI z13), .int (nI z14), .int (nI z15), .long (lN z16), .ref z17, .int z18, .int (nI z19), .ref z20, .ref z21, .ref z22, .ref z23, .ref z24, .ref z25, .int (nI z26), .int (nI z27), .int (nI z28), .int z29, .int (nI z30), .int (nI z31), .ref z32, .ref z33, .ref z34, .ref z35, .ref z36, .int (bI z37), .int (nI z38), .int (nI z39), .int (nI z40), .int (nI z41), .int (nI z42), .int (nI z43), .int (nI z44), .int (nI z45), .int (nI z46), .ref z47, .ref z48, .ref z49, .ref z50, .ref z51, .ref z52, .int z53, .ref z54])) :: (z52, .inl (g.2.1 0, 101, .inl (nA rtr))) :: R) s.heap := hW
    refine lv_aload_n F.1 F.2.1 dX14_trace_0 rfl (lv_at hl 0 rfl) ?_
    refine lv_iconst (v := nI 0) F.1 F.2.1 dX14_trace_1 rfl ?_
    refine gPut (w2 := (o, .inr (11, [.int (nI 0), .int (nI z1), .int z2, .int (nI z3), .ref z4, .ref z5, .int (bI z6), .ref z7, .ref z8, .int (nI z9), .int (nI z10), .int (nI z11), .int (nI z12), .int (nI z13), .int (nI z14), .int (nI z15), .long (lN z16), .ref z17, .int z18, .int (nI z19), .ref z20, .ref z21, .ref z22, .ref z23, .ref z24, .ref z25, .int (nI z26), .int (nI z27), .int (nI z28), .int z29, .int (nI z30), .int (nI z31), .ref z32, .ref z33, .ref z34, .ref z35, .ref z36, .int (bI z37), .int (nI z38), .int (nI z39), .int (nI z40), .int (nI z41), .int (nI z42), .int (nI z43), .int (nI z44), .int (nI z45), .int (nI z46), .ref z47, .ref z48, .ref z49, .ref z50, .ref z51, .ref z52, .int z53, .ref z54])) :: (z52, .inl (g.2.1 0, 101, .inl (nA rtr))) :: R) F hS hG hW nX14_trace_X14 0 rfl rfl 0 (by decide) tyX14 tyX14_ok nmX14 mX14_trace_1 rfl rfl rfl rfl (Nat.le_of_ble_eq_true rfl) rfl dX14_trace_2 (fun H locs hW hS => ?_)
    refine lv_aload_n F.1 F.2.1 dX14_trace_5 rfl (lv_at hl 0 rfl) ?_
    refine gGet F hG hW nX14_trace_X14 0 rfl rfl 37 (by decide) mX14_trace_2 rfl dX14_trace_6 ?_
    refine gIfEqB (tgt := 33) F dX14_trace_9 (by decide) (fun c_9 => ?_) (fun c_9 => ?_)
    · refine lv_iconst (v := -1) F.1 F.2.1 dX14_trace_33 rfl ?_
      refine gRi F hW hS dX14_trace_34 ?_
      exact ⟨if_neg (by rw [c_9]; decide), rfl⟩
    · refine lv_iload_n F.1 F.2.1 dX14_trace_12 rfl (lv_at hl 1 rfl) ?_
      refine gIfLt (tgt := 33) F (by omega) dX14_trace_13 (by decide) (fun c_13 => by exfalso; omega) (fun c_13 => ?_)
      refine lv_iload_n F.1 F.2.1 dX14_trace_16 rfl (lv_at hl 1 rfl) ?_
      refine lv_aload_n F.1 F.2.1 dX14_trace_17 rfl (lv_at hl 0 rfl) ?_
      refine gGet F hG hW nX14_trace_X14 0 rfl rfl 38 (by decide) mX14_trace_3 rfl dX14_trace_18 ?_
      refine gGe (tgt := 33) F (by omega) (by omega) dX14_trace_21 (by decide) (fun c_21 => by exfalso; omega) (fun c_21 => ?_)
      refine lv_aload_n F.1 F.2.1 dX14_trace_24 rfl (lv_at hl 0 rfl) ?_
      refine gGet F hG hW nX14_trace_X14 0 rfl rfl 52 (by decide) mX14_trace_4 rfl dX14_trace_25 ?_
      refine lv_iload_n F.1 F.2.1 dX14_trace_28 rfl (lv_at hl 1 rfl) ?_
      refine gLdI F hG hW 1 rfl (by omega) (by decide) dX14_trace_29 ?_
      refine gTop (y := nI (rtr j)) rfl ?_
      refine lv_goto (tgt := 34) F.1 F.2.1 dX14_trace_30 (by decide) ?_
      refine gRi F hW hS dX14_trace_34 ?_
      exact ⟨(if_pos c_9).trans (ixS_in hj (by omega)), rfl⟩

