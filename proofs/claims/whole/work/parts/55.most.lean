/-! ===== the model: most, out, pile (written by wip/whole/gen/spec9.py) ===== -/
theorem mx_1 (fw : Nat → Nat) : mxS fw 1 = (if fw 0 = 0 then none else some 0, fw 0) := by
  show (if 0 < fw 0 then (some 0, fw 0) else (none, 0)) = _
  by_cases h : fw 0 = 0
  · rw [if_neg (by omega), if_pos h, h]
  · rw [if_pos (by omega), if_neg h]
theorem mx_p {fw : Nat → Nat} {i b : Nat} (hb : mxS fw i = (if fw b = 0 then none else some b, fw b)) (h : fw b < fw i) : mxS fw (i + 1) = (if fw i = 0 then none else some i, fw i) := by
  rw [mxS, hb]
  show (if fw b < fw i then (some i, fw i) else _) = _
  rw [if_pos h, if_neg (by omega)]
theorem mx_n {fw : Nat → Nat} {i b : Nat} (hb : mxS fw i = (if fw b = 0 then none else some b, fw b)) (h : fw i ≤ fw b) : mxS fw (i + 1) = (if fw b = 0 then none else some b, fw b) := by
  rw [mxS, hb]
  show (if fw b < fw i then (some i, fw i) else (if fw b = 0 then none else some b, fw b)) = _
  rw [if_neg (by omega)]
theorem most_0 {fw : Nat → Nat} {b : Nat} (hb : mxS fw 225 = (if fw b = 0 then none else some b, fw b)) (h : fw b = 0) : mostS fw = -2 := by
  unfold mostS
  rw [hb]
  simp only [if_pos h]
theorem most_1 {fw : Nat → Nat} {b : Nat} (hb : mxS fw 225 = (if fw b = 0 then none else some b, fw b)) (h : fw b ≠ 0) : mostS fw = nI (100 * (b / 15) + b % 15) := by
  unfold mostS
  rw [hb]
  simp only [if_neg h]
  rw [Nat.mul_comm]

abbrev rm_X14_most : Room := ({ frames := 1, cells := 0, slots := 0, locals := 21 } : Room)
theorem mX14_most_1 : Cond.fieldLink RX14 129 "StepperHeartsModel" "thrown" "I" ∈ wsX14_most := List.mem_of_getElem? (i := 1) rfl
theorem nX14_most_X14 : ∀ w ∈ wsX140, w ∈ wsX14_most := fun _ h => List.mem_cons_of_mem _ (List.mem_append_right _ (h))
theorem mX14_most_2 : Cond.fieldLink RX14 317 "StepperHeartsModel" "hasRun" "Z" ∈ wsX14_most := List.mem_of_getElem? (i := 2) rfl
theorem mX14_most_3 : Cond.fieldLink RX14 117 "StepperHeartsModel" "ranFollows" "[I" ∈ wsX14_most := List.mem_of_getElem? (i := 3) rfl
set_option maxRecDepth 100000 in
set_option maxHeartbeats 4000000 in
theorem c_X14_most (g : gC) (l : Launch) {o : Nat} {z0 : Nat} {z1 : Nat} {z2 : Int32} {z3 : Nat} {z4 : Nat} {z5 : Nat} {z6 : Bool} {z7 : Nat} {z8 : Nat} {z9 : Nat} {z10 : Nat} {z11 : Nat} {z12 : Nat} {z13 : Nat} {z14 : Nat} {z15 : Nat} {z16 : Nat} {z17 : Nat} {z18 : Int32} {z19 : Nat} {z20 : Nat} {z21 : Nat} {z22 : Nat} {z23 : Nat} {z24 : Nat} {z25 : Nat} {z26 : Nat} {z27 : Nat} {z28 : Nat} {z29 : Int32} {z30 : Nat} {z31 : Nat} {z32 : Nat} {z33 : Nat} {z34 : Nat} {z35 : Nat} {z36 : Nat} {z37 : Bool} {z38 : Nat} {z39 : Nat} {z40 : Nat} {z41 : Nat} {z42 : Nat} {z43 : Nat} {z44 : Nat} {z45 : Nat} {z46 : Nat} {z47 : Nat} {z48 : Nat} {z49 : Nat} {z50 : Nat} {z51 : Nat} {z52 : Nat} {z53 : Int32} {z54 : Nat} {rfw : Nat → Nat} {R : va_W} (hF : ∀ j, rfw j < 2 ^ 31) : cI g l yX14_most wsX14_most rm_X14_most 0 0 [.ref o] ((o, .inr (11, [.int (nI z0), .int (nI z1), .int z2, .int (nI z3), .ref z4, .ref z5, .int (bI z6), .ref z7, .ref z8, .int (nI z9), .int (nI z10), .int (nI z11), .int (nI z12), .int (nI z13), .int (nI z14), .int (nI z15), .long (lN z16), .ref z17, .int z18, .int (nI z19), .ref z20, .ref z21, .ref z22, .ref z23, .ref z24, .ref z25, .int (nI z26), .int (nI z27), .int (nI z28), .int z29, .int (nI z30), .int (nI z31), .ref z32, .ref z33, .ref z34, .ref z35, .ref z36, .int (bI z37), .int (nI z38), .int (nI z39), .int (nI z40), .int (nI z41), .int (nI z42), .int (nI z43), .int (nI z44), .int (nI z45), .int (nI z46), .ref z47, .ref z48, .ref z49, .ref z50, .ref z51, .ref z52, .int z53, .ref z54])) :: (z51, .inl (g.2.1 0, 225, .inl (nA rfw))) :: R) (fun r u => (okS (if z37 = true then 0 else 5) (mostS rfw)) = r ∧ (o, .inr (11, [.int (nI 0), .int (nI (if z37 = true then 0 else 5)), .int (-1), .int (nI z3), .ref z4, .ref z5, .int (bI z6), .ref z7, .ref z8, .int (nI z9), .int (nI z10), .int (nI z11), .int (nI z12), .int (nI z13), .int (nI z14), .int (nI z15), .long (lN z16), .ref z17, .int z18, .int (nI z19), .ref z20, .ref z21, .ref z22, .ref z23, .ref z24, .ref z25, .int (nI z26), .int (nI z27), .int (nI z28), .int z29, .int (nI z30), .int (nI z31), .ref z32, .ref z33, .ref z34, .ref z35, .ref z36, .int (bI z37), .int (nI z38), .int (nI z39), .int (nI z40), .int (nI z41), .int (nI z42), .int (nI z43), .int (nI z44), .int (nI z45), .int (nI z46), .ref z47, .ref z48, .ref z49, .ref z50, .ref z51, .ref z52, .int z53, .ref z54])) :: (z51, .inl (g.2.1 0, 225, .inl (nA rfw))) :: R = u) := by
  refine gEnterQ (cc := cX14_most) (maxL := 3) (ret := (some (.int))) (by decide +kernel) rfl (Nat.le_of_ble_eq_true rfl) ?_
  intro p e s m below meth c F hG hW ls hl
  have hS : va_S (gA g) s.heap s.heap [] := va_S.rf
  have hl : lv_has ls 3 [(0, .ref o)] := hl
  have hW : gW g ((o, .inr (11, [.int (nI z0), .int (nI z1), .int z2, .int (nI z3), .ref z4, .ref z5, .int (bI z6), .ref z7, .ref z8, .int (nI z9), .int (nI z10), .int (nI z11), .int (nI z12), .int (nI z13), .int (nI z14), .int (nI z15), .long (lN z16), .ref z17, .int z18, .int (nI z19), .ref z20, .ref z21, .ref z22, .ref z23, .ref z24, .ref z25, .int (nI z26), .int (nI z27), .int (nI z28), .int z29, .int (nI z30), .int (nI z31), .ref z32, .ref z33, .ref z34, .ref z35, .ref z36, .int (bI z37), .int (nI z38), .int (nI z39), .int (nI z40), .int (nI z41), .int (nI z42), .int (nI z43), .int (nI z44), .int (nI z45), .int (nI z46), .ref z47, .ref z48, .ref z49, .ref z50, .ref z51, .ref z52, .int z53, .ref z54])) :: (z51, .inl (g.2.1 0, 225, .inl (nA rfw))) :: R) s.heap := hW
  refine lv_aload_n F.1 F.2.1 dX14_most_0 rfl (lv_at hl 0 rfl) ?_
  refine lv_iconst (v := nI 0) F.1 F.2.1 dX14_most_1 rfl ?_
  refine gPut (w2 := (o, .inr (11, [.int (nI 0), .int (nI z1), .int z2, .int (nI z3), .ref z4, .ref z5, .int (bI z6), .ref z7, .ref z8, .int (nI z9), .int (nI z10), .int (nI z11), .int (nI z12), .int (nI z13), .int (nI z14), .int (nI z15), .long (lN z16), .ref z17, .int z18, .int (nI z19), .ref z20, .ref z21, .ref z22, .ref z23, .ref z24, .ref z25, .int (nI z26), .int (nI z27), .int (nI z28), .int z29, .int (nI z30), .int (nI z31), .ref z32, .ref z33, .ref z34, .ref z35, .ref z36, .int (bI z37), .int (nI z38), .int (nI z39), .int (nI z40), .int (nI z41), .int (nI z42), .int (nI z43), .int (nI z44), .int (nI z45), .int (nI z46), .ref z47, .ref z48, .ref z49, .ref z50, .ref z51, .ref z52, .int z53, .ref z54])) :: (z51, .inl (g.2.1 0, 225, .inl (nA rfw))) :: R) F hS hG hW nX14_most_X14 0 rfl rfl 0 (by decide) tyX14 tyX14_ok nmX14 mX14_most_1 rfl rfl rfl rfl (Nat.le_of_ble_eq_true rfl) rfl dX14_most_2 (fun H locs hW hS => ?_)
  refine lv_aload_n F.1 F.2.1 dX14_most_5 rfl (lv_at hl 0 rfl) ?_
  refine gGet F hG hW nX14_most_X14 0 rfl rfl 37 (by decide) mX14_most_2 rfl dX14_most_6 ?_
  refine gIfNeB (tgt := 18) F dX14_most_9 (by decide) (fun c_9 => ?_) (fun c_9 => ?_)
  · refine lv_iconst (v := nI 0) F.1 F.2.1 dX14_most_18 rfl ?_
    refine lv_istore_n (lv' := [(1, .int (nI 0)), (0, .ref o)]) F.1 F.2.1 dX14_most_19 rfl hl (by decide) rfl (fun ls hl => ?_)
    refine lv_iconst (v := nI 1) F.1 F.2.1 dX14_most_20 rfl ?_
    refine lv_istore_n (lv' := [(2, .int (nI 1)), (1, .int (nI 0)), (0, .ref o)]) F.1 F.2.1 dX14_most_21 rfl hl (by decide) rfl (fun ls hl => ?_)
    have L_22 : ∀ (fz : Nat), ∀ (b : Nat) (i : Nat) (hi : 1 ≤ i ∧ i ≤ 225) (hbb : b < 225) (hb : mxS rfw i = (if rfw b = 0 then none else some b, rfw b)) (hm_22 : 225 - i < fz) (H : Heap) (locs : List Loc) (ls : Array Slot) (hW : gW g ((o, .inr (11, [.int (nI 0), .int (nI z1), .int z2, .int (nI z3), .ref z4, .ref z5, .int (bI z6), .ref z7, .ref z8, .int (nI z9), .int (nI z10), .int (nI z11), .int (nI z12), .int (nI z13), .int (nI z14), .int (nI z15), .long (lN z16), .ref z17, .int z18, .int (nI z19), .ref z20, .ref z21, .ref z22, .ref z23, .ref z24, .ref z25, .int (nI z26), .int (nI z27), .int (nI z28), .int z29, .int (nI z30), .int (nI z31), .ref z32, .ref z33, .ref z34, .ref z35, .ref z36, .int (bI z37), .int (nI z38), .int (nI z39), .int (nI z40), .int (nI z41), .int (nI z42), .int (nI z43), .int (nI z44), .int (nI z45), .int (nI z46), .ref z47, .ref z48, .ref z49, .ref z50, .ref z51, .ref z52, .int z53, .ref z54])) :: (z51, .inl (g.2.1 0, 225, .inl (nA rfw))) :: R) H) (hS : va_S (gA g) s.heap H locs) (hl : lv_has ls 3 [(0, .ref o), (1, .int (nI b)), (2, .int (nI i))]), W p l e (headSpec wsX14_most rm_X14_most).room s m ([.ref o] : List Value).toArray below meth c H locs 0 0 (MQ below (va_Qi (fun r u => (okS (if z37 = true then 0 else 5) (mostS rfw)) = r ∧ (o, .inr (11, [.int (nI 0), .int (nI (if z37 = true then 0 else 5)), .int (-1), .int (nI z3), .ref z4, .ref z5, .int (bI z6), .ref z7, .ref z8, .int (nI z9), .int (nI z10), .int (nI z11), .int (nI z12), .int (nI z13), .int (nI z14), .int (nI z15), .long (lN z16), .ref z17, .int z18, .int (nI z19), .ref z20, .ref z21, .ref z22, .ref z23, .ref z24, .ref z25, .int (nI z26), .int (nI z27), .int (nI z28), .int z29, .int (nI z30), .int (nI z31), .ref z32, .ref z33, .ref z34, .ref z35, .ref z36, .int (bI z37), .int (nI z38), .int (nI z39), .int (nI z40), .int (nI z41), .int (nI z42), .int (nI z43), .int (nI z44), .int (nI z45), .int (nI z46), .ref z47, .ref z48, .ref z49, .ref z50, .ref z51, .ref z52, .int z53, .ref z54])) :: (z51, .inl (g.2.1 0, 225, .inl (nA rfw))) :: R = u) (fun u t => gW g u t.heap) (gA g)) ([.ref o] : List Value).toArray s 0 0 (gA g)) (F0 m 22 ls []) := by
      intro fz
      induction fz with
      | zero =>
        intros _ _ _ _ _ hm_22
        exact absurd hm_22 (Nat.not_lt_zero _)
      | succ fz ih_22 =>
        intro b i hi hbb hb hm_22 H locs ls hW hS hl
        refine lv_iload_n F.1 F.2.1 dX14_most_22 rfl (lv_at hl 2 rfl) ?_
        refine lv_sipush (v := nI 225) F.1 F.2.1 dX14_most_23 (by decide) ?_
        refine gGe (tgt := 52) F (by omega) (by omega) dX14_most_26 (by decide) (fun c_26 => ?_) (fun c_26 => ?_)
        · have hie : i = 225 := by omega
          have hF2 := hF b
          refine lv_aload_n F.1 F.2.1 dX14_most_52 rfl (lv_at hl 0 rfl) ?_
          refine lv_aload_n F.1 F.2.1 dX14_most_53 rfl (lv_at hl 0 rfl) ?_
          refine gGet F hG hW nX14_most_X14 0 rfl rfl 51 (by decide) mX14_most_3 rfl dX14_most_54 ?_
          refine lv_iload_n F.1 F.2.1 dX14_most_57 rfl (lv_at hl 1 rfl) ?_
          refine gLdI F hG hW 1 rfl (by omega) (by decide) dX14_most_58 ?_
          refine gTop (y := nI (rfw b)) rfl ?_
          refine gIfNe (tgt := 67) F (by omega) dX14_most_59 (by decide) (fun c_59 => ?_) (fun c_59 => ?_)
          · refine lv_bipush (v := nI 100) F.1 F.2.1 dX14_most_67 (by decide) ?_
            refine lv_iload_n F.1 F.2.1 dX14_most_69 rfl (lv_at hl 1 rfl) ?_
            refine lv_bipush (v := nI 15) F.1 F.2.1 dX14_most_70 (by decide) ?_
            refine gDiv F (by omega) (by omega) (by omega) dX14_most_72 ?_
            refine gMul F dX14_most_73 ?_
            refine lv_iload_n F.1 F.2.1 dX14_most_74 rfl (lv_at hl 1 rfl) ?_
            refine lv_bipush (v := nI 15) F.1 F.2.1 dX14_most_75 (by decide) ?_
            refine gRem F (by omega) (by omega) (by omega) dX14_most_77 ?_
            refine gAdd F dX14_most_78 ?_
            refine gVi (n := 1) (q := (RX14, TX14, 55)) (q0 := 0) (As := [.int (nI ((100 * (b / 15)) + (b % 15)))]) F hG hS hW (c_X14_done g l  ) rfl gX14_most_X14_done rfl rfl rfl (by decide +kernel) ⟨rfl, rfl, Nat.le_of_ble_eq_true rfl, Nat.le_of_ble_eq_true rfl⟩ hl.1 (Nat.le_of_ble_eq_true rfl) ⟨Nat.le_of_ble_eq_true rfl, Nat.le_of_ble_eq_true rfl⟩ rfl rfl dX14_most_79 (fun r u H locs hq hW hS => ?_)
            obtain ⟨rfl, rfl⟩ := hq
            have hW : gW g ((o, .inr (11, [.int (nI 0), .int (nI 0), .int (-1), .int (nI z3), .ref z4, .ref z5, .int (bI z6), .ref z7, .ref z8, .int (nI z9), .int (nI z10), .int (nI z11), .int (nI z12), .int (nI z13), .int (nI z14), .int (nI z15), .long (lN z16), .ref z17, .int z18, .int (nI z19), .ref z20, .ref z21, .ref z22, .ref z23, .ref z24, .ref z25, .int (nI z26), .int (nI z27), .int (nI z28), .int z29, .int (nI z30), .int (nI z31), .ref z32, .ref z33, .ref z34, .ref z35, .ref z36, .int (bI z37), .int (nI z38), .int (nI z39), .int (nI z40), .int (nI z41), .int (nI z42), .int (nI z43), .int (nI z44), .int (nI z45), .int (nI z46), .ref z47, .ref z48, .ref z49, .ref z50, .ref z51, .ref z52, .int z53, .ref z54])) :: (z51, .inl (g.2.1 0, 225, .inl (nA rfw))) :: R) _ := hW
            refine gRi F hW hS dX14_most_82 ?_
            rw [c_9, if_pos rfl]
            exact ⟨by show mostS rfw = _; exact most_1 (hie ▸ hb) c_59, rfl⟩
          · refine lv_bipush (v := -2) F.1 F.2.1 dX14_most_62 (by decide) ?_
            refine lv_goto (tgt := 79) F.1 F.2.1 dX14_most_64 (by decide) ?_
            refine gVi (n := 1) (q := (RX14, TX14, 55)) (q0 := 0) (As := [.int (-2)]) F hG hS hW (c_X14_done g l  ) rfl gX14_most_X14_done rfl rfl rfl (by decide +kernel) ⟨rfl, rfl, Nat.le_of_ble_eq_true rfl, Nat.le_of_ble_eq_true rfl⟩ hl.1 (Nat.le_of_ble_eq_true rfl) ⟨Nat.le_of_ble_eq_true rfl, Nat.le_of_ble_eq_true rfl⟩ rfl rfl dX14_most_79 (fun r u H locs hq hW hS => ?_)
            obtain ⟨rfl, rfl⟩ := hq
            have hW : gW g ((o, .inr (11, [.int (nI 0), .int (nI 0), .int (-1), .int (nI z3), .ref z4, .ref z5, .int (bI z6), .ref z7, .ref z8, .int (nI z9), .int (nI z10), .int (nI z11), .int (nI z12), .int (nI z13), .int (nI z14), .int (nI z15), .long (lN z16), .ref z17, .int z18, .int (nI z19), .ref z20, .ref z21, .ref z22, .ref z23, .ref z24, .ref z25, .int (nI z26), .int (nI z27), .int (nI z28), .int z29, .int (nI z30), .int (nI z31), .ref z32, .ref z33, .ref z34, .ref z35, .ref z36, .int (bI z37), .int (nI z38), .int (nI z39), .int (nI z40), .int (nI z41), .int (nI z42), .int (nI z43), .int (nI z44), .int (nI z45), .int (nI z46), .ref z47, .ref z48, .ref z49, .ref z50, .ref z51, .ref z52, .int z53, .ref z54])) :: (z51, .inl (g.2.1 0, 225, .inl (nA rfw))) :: R) _ := hW
            refine gRi F hW hS dX14_most_82 ?_
            rw [c_9, if_pos rfl]
            exact ⟨by show mostS rfw = _; exact most_0 (hie ▸ hb) c_59, rfl⟩
        · have hF1 := hF i
          have hF2 := hF b
          refine lv_aload_n F.1 F.2.1 dX14_most_29 rfl (lv_at hl 0 rfl) ?_
          refine gGet F hG hW nX14_most_X14 0 rfl rfl 51 (by decide) mX14_most_3 rfl dX14_most_30 ?_
          refine lv_iload_n F.1 F.2.1 dX14_most_33 rfl (lv_at hl 2 rfl) ?_
          refine gLdI F hG hW 1 rfl (by omega) (by decide) dX14_most_34 ?_
          refine gTop (y := nI (rfw i)) rfl ?_
          refine lv_aload_n F.1 F.2.1 dX14_most_35 rfl (lv_at hl 0 rfl) ?_
          refine gGet F hG hW nX14_most_X14 0 rfl rfl 51 (by decide) mX14_most_3 rfl dX14_most_36 ?_
          refine lv_iload_n F.1 F.2.1 dX14_most_39 rfl (lv_at hl 1 rfl) ?_
          refine gLdI F hG hW 1 rfl (by omega) (by decide) dX14_most_40 ?_
          refine gTop (y := nI (rfw b)) rfl ?_
          refine gLe (tgt := 46) F (by omega) (by omega) dX14_most_41 (by decide) (fun c_41 => ?_) (fun c_41 => ?_)
          · refine lv_iinc (v := nI (i + 1)) (lv' := [(2, .int (nI (i + 1))), (0, .ref o), (1, .int (nI b))]) F.1 F.2.1 dX14_most_46 hl (k := 2) rfl (nI_add i 1) (by decide) rfl (fun ls hl => ?_)
            refine lv_goto (tgt := 22) F.1 F.2.1 dX14_most_49 (by decide) ?_
            exact ih_22 b (i + 1) (by omega) (by omega) (mx_n hb c_41) (by omega) _ _ _ hW hS (lv_sub hl [1, 2, 0] rfl)
          · refine lv_iload_n F.1 F.2.1 dX14_most_44 rfl (lv_at hl 2 rfl) ?_
            refine lv_istore_n (lv' := [(1, .int (nI i)), (0, .ref o), (2, .int (nI i))]) F.1 F.2.1 dX14_most_45 rfl hl (by decide) rfl (fun ls hl => ?_)
            refine lv_iinc (v := nI (i + 1)) (lv' := [(2, .int (nI (i + 1))), (1, .int (nI i)), (0, .ref o)]) F.1 F.2.1 dX14_most_46 hl (k := 2) rfl (nI_add i 1) (by decide) rfl (fun ls hl => ?_)
            refine lv_goto (tgt := 22) F.1 F.2.1 dX14_most_49 (by decide) ?_
            exact ih_22 i (i + 1) (by omega) (by omega) (mx_p hb c_41) (by omega) _ _ _ hW hS (lv_sub hl [2, 1, 0] rfl)
    exact L_22 _ 0 1 (by omega) (by omega) (mx_1 rfw) (Nat.lt_succ_self _) _ _ _ hW hS (lv_sub hl [2, 1, 0] rfl)
  · refine lv_aload_n F.1 F.2.1 dX14_most_12 rfl (lv_at hl 0 rfl) ?_
    refine lv_iconst (v := nI 5) F.1 F.2.1 dX14_most_13 rfl ?_
    refine gVi (n := 1) (q := (RX14, TX14, 55)) (q0 := 0) (As := [.int (nI 5)]) F hG hS hW (c_X14_refused g l  ) rfl gX14_most_X14_refused rfl rfl rfl (by decide +kernel) ⟨rfl, rfl, Nat.le_of_ble_eq_true rfl, Nat.le_of_ble_eq_true rfl⟩ hl.1 (Nat.le_of_ble_eq_true rfl) ⟨Nat.le_of_ble_eq_true rfl, Nat.le_of_ble_eq_true rfl⟩ rfl rfl dX14_most_14 (fun r u H locs hq hW hS => ?_)
    obtain ⟨rfl, rfl⟩ := hq
    have hW : gW g ((o, .inr (11, [.int (nI 0), .int (nI 5), .int (-1), .int (nI z3), .ref z4, .ref z5, .int (bI z6), .ref z7, .ref z8, .int (nI z9), .int (nI z10), .int (nI z11), .int (nI z12), .int (nI z13), .int (nI z14), .int (nI z15), .long (lN z16), .ref z17, .int z18, .int (nI z19), .ref z20, .ref z21, .ref z22, .ref z23, .ref z24, .ref z25, .int (nI z26), .int (nI z27), .int (nI z28), .int z29, .int (nI z30), .int (nI z31), .ref z32, .ref z33, .ref z34, .ref z35, .ref z36, .int (bI z37), .int (nI z38), .int (nI z39), .int (nI z40), .int (nI z41), .int (nI z42), .int (nI z43), .int (nI z44), .int (nI z45), .int (nI z46), .ref z47, .ref z48, .ref z49, .ref z50, .ref z51, .ref z52, .int z53, .ref z54])) :: (z51, .inl (g.2.1 0, 225, .inl (nA rfw))) :: R) _ := hW
    refine gRi F hW hS dX14_most_17 ?_
    rw [c_9]
    exact ⟨rfl, rfl⟩

abbrev rm_X14_out : Room := ({ frames := 1, cells := 0, slots := 0, locals := 15 } : Room)
theorem mX14_out_1 : Cond.fieldLink RX14 317 "StepperHeartsModel" "hasRun" "Z" ∈ wsX14_out := List.mem_of_getElem? (i := 1) rfl
theorem nX14_out_X14 : ∀ w ∈ wsX140, w ∈ wsX14_out := fun _ h => List.mem_cons_of_mem _ (List.mem_append_right _ (h))
theorem mX14_out_7 : Cond.fieldLink RX14 129 "StepperHeartsModel" "thrown" "I" ∈ wsX14_out := List.mem_of_getElem? (i := 7) rfl
theorem mX14_out_2 : Cond.fieldLink RX14 338 "StepperHeartsModel" "ranOuts" "I" ∈ wsX14_out := List.mem_of_getElem? (i := 2) rfl
theorem mX14_out_3 : Cond.methodLink RX14 350 Lib.Math.min.name ∈ wsX14_out := List.mem_of_getElem? (i := 3) rfl
theorem mX14_out_4 : Cond.static Lib.Math.min.name ∈ wsX14_out := List.mem_of_getElem? (i := 4) rfl
theorem mX14_out_5 : Cond.initialized "java/lang/Math" ∈ wsX14_out := List.mem_of_getElem? (i := 5) rfl
theorem mX14_out_6 : Cond.code Lib.Math.min.name Lib.Math.min.code 2 (some .int) ∈ wsX14_out := List.mem_of_getElem? (i := 6) rfl
theorem mX14_out_8 : Cond.fieldLink RX14 111 "StepperHeartsModel" "ranOut" "[I" ∈ wsX14_out := List.mem_of_getElem? (i := 8) rfl
set_option maxRecDepth 100000 in
set_option maxHeartbeats 4000000 in
theorem c_X14_out (g : gC) (l : Launch) {o : Nat} {z0 : Nat} {z1 : Nat} {z2 : Int32} {z3 : Nat} {z4 : Nat} {z5 : Nat} {z6 : Bool} {z7 : Nat} {z8 : Nat} {z9 : Nat} {z10 : Nat} {z11 : Nat} {z12 : Nat} {z13 : Nat} {z14 : Nat} {z15 : Nat} {z16 : Nat} {z17 : Nat} {z18 : Int32} {z19 : Nat} {z20 : Nat} {z21 : Nat} {z22 : Nat} {z23 : Nat} {z24 : Nat} {z25 : Nat} {z26 : Nat} {z27 : Nat} {z28 : Nat} {z29 : Int32} {z30 : Nat} {z31 : Nat} {z32 : Nat} {z33 : Nat} {z34 : Nat} {z35 : Nat} {z36 : Nat} {z37 : Bool} {z38 : Nat} {z39 : Nat} {z40 : Nat} {z41 : Nat} {z42 : Nat} {z43 : Nat} {z44 : Nat} {z45 : Nat} {z46 : Nat} {z47 : Nat} {z48 : Nat} {z49 : Nat} {z50 : Nat} {z51 : Nat} {z52 : Nat} {z53 : Int32} {z54 : Nat} {rou : Nat → Int32} {x : Int32} {R : va_W} (hr0 : z37 = false → z43 = 0) (hpl : z43 < 2 ^ 31) : cI g l yX14_out wsX14_out rm_X14_out 0 0 [.ref o, .int x] ((o, .inr (11, [.int (nI z0), .int (nI z1), .int z2, .int (nI z3), .ref z4, .ref z5, .int (bI z6), .ref z7, .ref z8, .int (nI z9), .int (nI z10), .int (nI z11), .int (nI z12), .int (nI z13), .int (nI z14), .int (nI z15), .long (lN z16), .ref z17, .int z18, .int (nI z19), .ref z20, .ref z21, .ref z22, .ref z23, .ref z24, .ref z25, .int (nI z26), .int (nI z27), .int (nI z28), .int z29, .int (nI z30), .int (nI z31), .ref z32, .ref z33, .ref z34, .ref z35, .ref z36, .int (bI z37), .int (nI z38), .int (nI z39), .int (nI z40), .int (nI z41), .int (nI z42), .int (nI z43), .int (nI z44), .int (nI z45), .int (nI z46), .ref z47, .ref z48, .ref z49, .ref z50, .ref z51, .ref z52, .int z53, .ref z54])) :: (z49, .inl (g.2.1 0, 60, .inl rou)) :: R) (fun r u => (ixS x (min z43 60) rou (nI 0)) = r ∧ (o, .inr (11, [.int (nI (ixS x (min z43 60) (fun _ => 0) 1)), .int (nI z1), .int z2, .int (nI z3), .ref z4, .ref z5, .int (bI z6), .ref z7, .ref z8, .int (nI z9), .int (nI z10), .int (nI z11), .int (nI z12), .int (nI z13), .int (nI z14), .int (nI z15), .long (lN z16), .ref z17, .int z18, .int (nI z19), .ref z20, .ref z21, .ref z22, .ref z23, .ref z24, .ref z25, .int (nI z26), .int (nI z27), .int (nI z28), .int z29, .int (nI z30), .int (nI z31), .ref z32, .ref z33, .ref z34, .ref z35, .ref z36, .int (bI z37), .int (nI z38), .int (nI z39), .int (nI z40), .int (nI z41), .int (nI z42), .int (nI z43), .int (nI z44), .int (nI z45), .int (nI z46), .ref z47, .ref z48, .ref z49, .ref z50, .ref z51, .ref z52, .int z53, .ref z54])) :: (z49, .inl (g.2.1 0, 60, .inl rou)) :: R = u) := by
  refine gEnterQ (cc := cX14_out) (maxL := 2) (ret := (some (.int))) (by decide +kernel) rfl (Nat.le_of_ble_eq_true rfl) ?_
  intro p e s m below meth c F hG hW ls hl
  have hS : va_S (gA g) s.heap s.heap [] := va_S.rf
  have hl : lv_has ls 2 [(0, .ref o), (1, .int x)] := hl
  have hW : gW g ((o, .inr (11, [.int (nI z0), .int (nI z1), .int z2, .int (nI z3), .ref z4, .ref z5, .int (bI z6), .ref z7, .ref z8, .int (nI z9), .int (nI z10), .int (nI z11), .int (nI z12), .int (nI z13), .int (nI z14), .int (nI z15), .long (lN z16), .ref z17, .int z18, .int (nI z19), .ref z20, .ref z21, .ref z22, .ref z23, .ref z24, .ref z25, .int (nI z26), .int (nI z27), .int (nI z28), .int z29, .int (nI z30), .int (nI z31), .ref z32, .ref z33, .ref z34, .ref z35, .ref z36, .int (bI z37), .int (nI z38), .int (nI z39), .int (nI z40), .int (nI z41), .int (nI z42), .int (nI z43), .int (nI z44), .int (nI z45), .int (nI z46), .ref z47, .ref z48, .ref z49, .ref z50, .ref z51, .ref z52, .int z53, .ref z54])) :: (z49, .inl (g.2.1 0, 60, .inl rou)) :: R) s.heap := hW
  rcases ixc x (n := (min z43 60)) (by omega) with hx | ⟨j, hj, rfl⟩
  · have hl : lv_has ls 2 [(0, .ref o), (1, .int x)] := hl
    have hW : gW g ((o, .inr (11, [.int (nI z0), .int (nI z1), .int z2, .int (nI z3), .ref z4, .ref z5, .int (bI z6), .ref z7, .ref z8, .int (nI z9), .int (nI z10), .int (nI z11), .int (nI z12), .int (nI z13), .int (nI z14), .int (nI z15), .long (lN z16), .ref z17, .int z18, .int (nI z19), .ref z20, .ref z21, .ref z22, .ref z23, .ref z24, .ref z25, .int (nI z26), .int (nI z27), .int (nI z28), .int z29, .int (nI z30), .int (nI z31), .ref z32, .ref z33, .ref z34, .ref z35, .ref z36, .int (bI z37), .int (nI z38), .int (nI z39), .int (nI z40), .int (nI z41), .int (nI z42), .int (nI z43), .int (nI z44), .int (nI z45), .int (nI z46), .ref z47, .ref z48, .ref z49, .ref z50, .ref z51, .ref z52, .int z53, .ref z54])) :: (z49, .inl (g.2.1 0, 60, .inl rou)) :: R) s.heap := hW
    refine lv_aload_n F.1 F.2.1 dX14_out_0 rfl (lv_at hl 0 rfl) ?_
    refine lv_aload_n F.1 F.2.1 dX14_out_1 rfl (lv_at hl 0 rfl) ?_
    refine gGet F hG hW nX14_out_X14 0 rfl rfl 37 (by decide) mX14_out_1 rfl dX14_out_2 ?_
    refine gIfEqB (tgt := 25) F dX14_out_5 (by decide) (fun c_5 => ?_) (fun c_5 => ?_)
    · refine lv_iconst (v := nI 1) F.1 F.2.1 dX14_out_25 rfl ?_
      refine lv_goto (tgt := 30) F.1 F.2.1 dX14_out_26 (by decide) ?_
      refine gPut (w2 := (o, .inr (11, [.int (nI 1), .int (nI z1), .int z2, .int (nI z3), .ref z4, .ref z5, .int (bI z6), .ref z7, .ref z8, .int (nI z9), .int (nI z10), .int (nI z11), .int (nI z12), .int (nI z13), .int (nI z14), .int (nI z15), .long (lN z16), .ref z17, .int z18, .int (nI z19), .ref z20, .ref z21, .ref z22, .ref z23, .ref z24, .ref z25, .int (nI z26), .int (nI z27), .int (nI z28), .int z29, .int (nI z30), .int (nI z31), .ref z32, .ref z33, .ref z34, .ref z35, .ref z36, .int (bI z37), .int (nI z38), .int (nI z39), .int (nI z40), .int (nI z41), .int (nI z42), .int (nI z43), .int (nI z44), .int (nI z45), .int (nI z46), .ref z47, .ref z48, .ref z49, .ref z50, .ref z51, .ref z52, .int z53, .ref z54])) :: (z49, .inl (g.2.1 0, 60, .inl rou)) :: R) F hS hG hW nX14_out_X14 0 rfl rfl 0 (by decide) tyX14 tyX14_ok nmX14 mX14_out_7 rfl rfl rfl rfl (Nat.le_of_ble_eq_true rfl) rfl dX14_out_30 (fun H locs hW hS => ?_)
      refine lv_aload_n F.1 F.2.1 dX14_out_33 rfl (lv_at hl 0 rfl) ?_
      refine gGet F hG hW nX14_out_X14 0 rfl rfl 0 (by decide) mX14_out_7 rfl dX14_out_34 ?_
      refine gIfLe (tgt := 44) F (by decide) dX14_out_37 (by decide) (fun c_37 => by exfalso; omega) (fun c_37 => ?_)
      refine lv_iconst (v := nI 0) F.1 F.2.1 dX14_out_40 rfl ?_
      refine lv_goto (tgt := 50) F.1 F.2.1 dX14_out_41 (by decide) ?_
      refine gRi F hW hS dX14_out_50 ?_
      rw [show ixS x (min z43 60) (fun _ => 0) 1 = 1 from ixS_out hx (by omega)]
      exact ⟨ixS_out hx (by omega), rfl⟩
    · refine lv_iload_n F.1 F.2.1 dX14_out_8 rfl (lv_at hl 1 rfl) ?_
      refine lv_if_lt (tgt := 25) F.1 F.2.1 dX14_out_9 (by decide) (fun c_9 => ?_) (fun c_9 => ?_)
      · refine lv_iconst (v := nI 1) F.1 F.2.1 dX14_out_25 rfl ?_
        refine lv_goto (tgt := 30) F.1 F.2.1 dX14_out_26 (by decide) ?_
        refine gPut (w2 := (o, .inr (11, [.int (nI 1), .int (nI z1), .int z2, .int (nI z3), .ref z4, .ref z5, .int (bI z6), .ref z7, .ref z8, .int (nI z9), .int (nI z10), .int (nI z11), .int (nI z12), .int (nI z13), .int (nI z14), .int (nI z15), .long (lN z16), .ref z17, .int z18, .int (nI z19), .ref z20, .ref z21, .ref z22, .ref z23, .ref z24, .ref z25, .int (nI z26), .int (nI z27), .int (nI z28), .int z29, .int (nI z30), .int (nI z31), .ref z32, .ref z33, .ref z34, .ref z35, .ref z36, .int (bI z37), .int (nI z38), .int (nI z39), .int (nI z40), .int (nI z41), .int (nI z42), .int (nI z43), .int (nI z44), .int (nI z45), .int (nI z46), .ref z47, .ref z48, .ref z49, .ref z50, .ref z51, .ref z52, .int z53, .ref z54])) :: (z49, .inl (g.2.1 0, 60, .inl rou)) :: R) F hS hG hW nX14_out_X14 0 rfl rfl 0 (by decide) tyX14 tyX14_ok nmX14 mX14_out_7 rfl rfl rfl rfl (Nat.le_of_ble_eq_true rfl) rfl dX14_out_30 (fun H locs hW hS => ?_)
        refine lv_aload_n F.1 F.2.1 dX14_out_33 rfl (lv_at hl 0 rfl) ?_
        refine gGet F hG hW nX14_out_X14 0 rfl rfl 0 (by decide) mX14_out_7 rfl dX14_out_34 ?_
        refine gIfLe (tgt := 44) F (by decide) dX14_out_37 (by decide) (fun c_37 => by exfalso; omega) (fun c_37 => ?_)
        refine lv_iconst (v := nI 0) F.1 F.2.1 dX14_out_40 rfl ?_
        refine lv_goto (tgt := 50) F.1 F.2.1 dX14_out_41 (by decide) ?_
        refine gRi F hW hS dX14_out_50 ?_
        rw [show ixS x (min z43 60) (fun _ => 0) 1 = 1 from ixS_out hx (by omega)]
        exact ⟨ixS_out hx (by omega), rfl⟩
      · refine lv_iload_n F.1 F.2.1 dX14_out_12 rfl (lv_at hl 1 rfl) ?_
        refine lv_aload_n F.1 F.2.1 dX14_out_13 rfl (lv_at hl 0 rfl) ?_
        refine gGet F hG hW nX14_out_X14 0 rfl rfl 43 (by decide) mX14_out_2 rfl dX14_out_14 ?_
        refine lv_bipush (v := nI 60) F.1 F.2.1 dX14_out_17 (by decide) ?_
        refine gMin F hl.1 mX14_out_3 mX14_out_4 mX14_out_5 mX14_out_6 (Nat.le_of_ble_eq_true rfl) (Nat.le_of_ble_eq_true rfl) (Nat.le_of_ble_eq_true rfl) (Nat.le_of_ble_eq_true rfl) dX14_out_19 ?_
        refine gTop (minN (by omega) (by omega)) ?_
        refine lv_icmp_lt (tgt := 29) F.1 F.2.1 dX14_out_22 (by decide) (fun q => (ixo hx c_9 q).elim) (fun c_22 => ?_)
        refine lv_iconst (v := nI 1) F.1 F.2.1 dX14_out_25 rfl ?_
        refine lv_goto (tgt := 30) F.1 F.2.1 dX14_out_26 (by decide) ?_
        refine gPut (w2 := (o, .inr (11, [.int (nI 1), .int (nI z1), .int z2, .int (nI z3), .ref z4, .ref z5, .int (bI z6), .ref z7, .ref z8, .int (nI z9), .int (nI z10), .int (nI z11), .int (nI z12), .int (nI z13), .int (nI z14), .int (nI z15), .long (lN z16), .ref z17, .int z18, .int (nI z19), .ref z20, .ref z21, .ref z22, .ref z23, .ref z24, .ref z25, .int (nI z26), .int (nI z27), .int (nI z28), .int z29, .int (nI z30), .int (nI z31), .ref z32, .ref z33, .ref z34, .ref z35, .ref z36, .int (bI z37), .int (nI z38), .int (nI z39), .int (nI z40), .int (nI z41), .int (nI z42), .int (nI z43), .int (nI z44), .int (nI z45), .int (nI z46), .ref z47, .ref z48, .ref z49, .ref z50, .ref z51, .ref z52, .int z53, .ref z54])) :: (z49, .inl (g.2.1 0, 60, .inl rou)) :: R) F hS hG hW nX14_out_X14 0 rfl rfl 0 (by decide) tyX14 tyX14_ok nmX14 mX14_out_7 rfl rfl rfl rfl (Nat.le_of_ble_eq_true rfl) rfl dX14_out_30 (fun H locs hW hS => ?_)
        refine lv_aload_n F.1 F.2.1 dX14_out_33 rfl (lv_at hl 0 rfl) ?_
        refine gGet F hG hW nX14_out_X14 0 rfl rfl 0 (by decide) mX14_out_7 rfl dX14_out_34 ?_
        refine gIfLe (tgt := 44) F (by decide) dX14_out_37 (by decide) (fun c_37 => by exfalso; omega) (fun c_37 => ?_)
        refine lv_iconst (v := nI 0) F.1 F.2.1 dX14_out_40 rfl ?_
        refine lv_goto (tgt := 50) F.1 F.2.1 dX14_out_41 (by decide) ?_
        refine gRi F hW hS dX14_out_50 ?_
        rw [show ixS x (min z43 60) (fun _ => 0) 1 = 1 from ixS_out hx (by omega)]
        exact ⟨ixS_out hx (by omega), rfl⟩
  · have hl : lv_has ls 2 [(0, .ref o), (1, .int (nI j))] := hl
    have hW : gW g ((o, .inr (11, [.int (nI z0), .int (nI z1), .int z2, .int (nI z3), .ref z4, .ref z5, .int (bI z6), .ref z7, .ref z8, .int (nI z9), .int (nI z10), .int (nI z11), .int (nI z12), .int (nI z13), .int (nI z14), .int (nI z15), .long (lN z16), .ref z17, .int z18, .int (nI z19), .ref z20, .ref z21, .ref z22, .ref z23, .ref z24, .ref z25, .int (nI z26), .int (nI z27), .int (nI z28), .int z29, .int (nI z30), .int (nI z31), .ref z32, .ref z33, .ref z34, .ref z35, .ref z36, .int (bI z37), .int (nI z38), .int (nI z39), .int (nI z40), .int (nI z41), .int (nI z42), .int (nI z43), .int (nI z44), .int (nI z45), .int (nI z46), .ref z47, .ref z48, .ref z49, .ref z50, .ref z51, .ref z52, .int z53, .ref z54])) :: (z49, .inl (g.2.1 0, 60, .inl rou)) :: R) s.heap := hW
    refine lv_aload_n F.1 F.2.1 dX14_out_0 rfl (lv_at hl 0 rfl) ?_
    refine lv_aload_n F.1 F.2.1 dX14_out_1 rfl (lv_at hl 0 rfl) ?_
    refine gGet F hG hW nX14_out_X14 0 rfl rfl 37 (by decide) mX14_out_1 rfl dX14_out_2 ?_
    refine gIfEqB (tgt := 25) F dX14_out_5 (by decide) (fun q => by have h5 := hr0 q; exfalso; omega) (fun c_5 => ?_)
    refine lv_iload_n F.1 F.2.1 dX14_out_8 rfl (lv_at hl 1 rfl) ?_
    refine gIfLt (tgt := 25) F (by omega) dX14_out_9 (by decide) (fun c_9 => by exfalso; omega) (fun c_9 => ?_)
    refine lv_iload_n F.1 F.2.1 dX14_out_12 rfl (lv_at hl 1 rfl) ?_
    refine lv_aload_n F.1 F.2.1 dX14_out_13 rfl (lv_at hl 0 rfl) ?_
    refine gGet F hG hW nX14_out_X14 0 rfl rfl 43 (by decide) mX14_out_2 rfl dX14_out_14 ?_
    refine lv_bipush (v := nI 60) F.1 F.2.1 dX14_out_17 (by decide) ?_
    refine gMin F hl.1 mX14_out_3 mX14_out_4 mX14_out_5 mX14_out_6 (Nat.le_of_ble_eq_true rfl) (Nat.le_of_ble_eq_true rfl) (Nat.le_of_ble_eq_true rfl) (Nat.le_of_ble_eq_true rfl) dX14_out_19 ?_
    refine gTop (minN (by omega) (by omega)) ?_
    refine gLt (tgt := 29) F (by omega) (by omega) dX14_out_22 (by decide) (fun c_22 => ?_) (fun c_22 => by exfalso; omega)
    refine lv_iconst (v := nI 0) F.1 F.2.1 dX14_out_29 rfl ?_
    refine gPut (w2 := (o, .inr (11, [.int (nI 0), .int (nI z1), .int z2, .int (nI z3), .ref z4, .ref z5, .int (bI z6), .ref z7, .ref z8, .int (nI z9), .int (nI z10), .int (nI z11), .int (nI z12), .int (nI z13), .int (nI z14), .int (nI z15), .long (lN z16), .ref z17, .int z18, .int (nI z19), .ref z20, .ref z21, .ref z22, .ref z23, .ref z24, .ref z25, .int (nI z26), .int (nI z27), .int (nI z28), .int z29, .int (nI z30), .int (nI z31), .ref z32, .ref z33, .ref z34, .ref z35, .ref z36, .int (bI z37), .int (nI z38), .int (nI z39), .int (nI z40), .int (nI z41), .int (nI z42), .int (nI z43), .int (nI z44), .int (nI z45), .int (nI z46), .ref z47, .ref z48, .ref z49, .ref z50, .ref z51, .ref z52, .int z53, .ref z54])) :: (z49, .inl (g.2.1 0, 60, .inl rou)) :: R) F hS hG hW nX14_out_X14 0 rfl rfl 0 (by decide) tyX14 tyX14_ok nmX14 mX14_out_7 rfl rfl rfl rfl (Nat.le_of_ble_eq_true rfl) rfl dX14_out_30 (fun H locs hW hS => ?_)
    refine lv_aload_n F.1 F.2.1 dX14_out_33 rfl (lv_at hl 0 rfl) ?_
    refine gGet F hG hW nX14_out_X14 0 rfl rfl 0 (by decide) mX14_out_7 rfl dX14_out_34 ?_
    refine gIfLe (tgt := 44) F (by decide) dX14_out_37 (by decide) (fun c_37 => ?_) (fun c_37 => by exfalso; omega)
    refine lv_aload_n F.1 F.2.1 dX14_out_44 rfl (lv_at hl 0 rfl) ?_
    refine gGet F hG hW nX14_out_X14 0 rfl rfl 49 (by decide) mX14_out_8 rfl dX14_out_45 ?_
    refine lv_iload_n F.1 F.2.1 dX14_out_48 rfl (lv_at hl 1 rfl) ?_
    refine gLdI F hG hW 1 rfl (by omega) (by decide) dX14_out_49 ?_
    refine gRi F hW hS dX14_out_50 ?_
    rw [show ixS (nI j) (min z43 60) (fun _ => 0) 1 = 0 from ixS_in hj (by omega)]
    exact ⟨ixS_in hj (by omega), rfl⟩

abbrev rm_X14_pile : Room := ({ frames := 0, cells := 0, slots := 0, locals := 0 } : Room)
theorem mX14_pile_1 : Cond.fieldLink RX14 317 "StepperHeartsModel" "hasRun" "Z" ∈ wsX14_pile := List.mem_of_getElem? (i := 1) rfl
theorem nX14_pile_X14 : ∀ w ∈ wsX140, w ∈ wsX14_pile := fun _ h => List.mem_cons_of_mem _ (List.mem_append_right _ (h))
theorem mX14_pile_3 : Cond.fieldLink RX14 129 "StepperHeartsModel" "thrown" "I" ∈ wsX14_pile := List.mem_of_getElem? (i := 3) rfl
theorem mX14_pile_2 : Cond.fieldLink RX14 335 "StepperHeartsModel" "ranPiled" "I" ∈ wsX14_pile := List.mem_of_getElem? (i := 2) rfl
theorem mX14_pile_4 : Cond.fieldLink RX14 105 "StepperHeartsModel" "ranPile" "[I" ∈ wsX14_pile := List.mem_of_getElem? (i := 4) rfl
set_option maxRecDepth 100000 in
set_option maxHeartbeats 4000000 in
theorem c_X14_pile (g : gC) (l : Launch) {o : Nat} {z0 : Nat} {z1 : Nat} {z2 : Int32} {z3 : Nat} {z4 : Nat} {z5 : Nat} {z6 : Bool} {z7 : Nat} {z8 : Nat} {z9 : Nat} {z10 : Nat} {z11 : Nat} {z12 : Nat} {z13 : Nat} {z14 : Nat} {z15 : Nat} {z16 : Nat} {z17 : Nat} {z18 : Int32} {z19 : Nat} {z20 : Nat} {z21 : Nat} {z22 : Nat} {z23 : Nat} {z24 : Nat} {z25 : Nat} {z26 : Nat} {z27 : Nat} {z28 : Nat} {z29 : Int32} {z30 : Nat} {z31 : Nat} {z32 : Nat} {z33 : Nat} {z34 : Nat} {z35 : Nat} {z36 : Nat} {z37 : Bool} {z38 : Nat} {z39 : Nat} {z40 : Nat} {z41 : Nat} {z42 : Nat} {z43 : Nat} {z44 : Nat} {z45 : Nat} {z46 : Nat} {z47 : Nat} {z48 : Nat} {z49 : Nat} {z50 : Nat} {z51 : Nat} {z52 : Nat} {z53 : Int32} {z54 : Nat} {rnu : Nat → Int32} {x : Int32} {R : va_W} (hr0 : z37 = false → z42 = 0) (hpl : z42 ≤ 32) : cI g l yX14_pile wsX14_pile rm_X14_pile 0 0 [.ref o, .int x] ((o, .inr (11, [.int (nI z0), .int (nI z1), .int z2, .int (nI z3), .ref z4, .ref z5, .int (bI z6), .ref z7, .ref z8, .int (nI z9), .int (nI z10), .int (nI z11), .int (nI z12), .int (nI z13), .int (nI z14), .int (nI z15), .long (lN z16), .ref z17, .int z18, .int (nI z19), .ref z20, .ref z21, .ref z22, .ref z23, .ref z24, .ref z25, .int (nI z26), .int (nI z27), .int (nI z28), .int z29, .int (nI z30), .int (nI z31), .ref z32, .ref z33, .ref z34, .ref z35, .ref z36, .int (bI z37), .int (nI z38), .int (nI z39), .int (nI z40), .int (nI z41), .int (nI z42), .int (nI z43), .int (nI z44), .int (nI z45), .int (nI z46), .ref z47, .ref z48, .ref z49, .ref z50, .ref z51, .ref z52, .int z53, .ref z54])) :: (z47, .inl (g.2.1 0, 32, .inl rnu)) :: R) (fun r u => (ixS x z42 rnu (nI 0)) = r ∧ (o, .inr (11, [.int (nI (ixS x z42 (fun _ => 0) 1)), .int (nI z1), .int z2, .int (nI z3), .ref z4, .ref z5, .int (bI z6), .ref z7, .ref z8, .int (nI z9), .int (nI z10), .int (nI z11), .int (nI z12), .int (nI z13), .int (nI z14), .int (nI z15), .long (lN z16), .ref z17, .int z18, .int (nI z19), .ref z20, .ref z21, .ref z22, .ref z23, .ref z24, .ref z25, .int (nI z26), .int (nI z27), .int (nI z28), .int z29, .int (nI z30), .int (nI z31), .ref z32, .ref z33, .ref z34, .ref z35, .ref z36, .int (bI z37), .int (nI z38), .int (nI z39), .int (nI z40), .int (nI z41), .int (nI z42), .int (nI z43), .int (nI z44), .int (nI z45), .int (nI z46), .ref z47, .ref z48, .ref z49, .ref z50, .ref z51, .ref z52, .int z53, .ref z54])) :: (z47, .inl (g.2.1 0, 32, .inl rnu)) :: R = u) := by
  refine gEnterQ (cc := cX14_pile) (maxL := 2) (ret := (some (.int))) (by decide +kernel) rfl (Nat.le_of_ble_eq_true rfl) ?_
  intro p e s m below meth c F hG hW ls hl
  have hS : va_S (gA g) s.heap s.heap [] := va_S.rf
  have hl : lv_has ls 2 [(0, .ref o), (1, .int x)] := hl
  have hW : gW g ((o, .inr (11, [.int (nI z0), .int (nI z1), .int z2, .int (nI z3), .ref z4, .ref z5, .int (bI z6), .ref z7, .ref z8, .int (nI z9), .int (nI z10), .int (nI z11), .int (nI z12), .int (nI z13), .int (nI z14), .int (nI z15), .long (lN z16), .ref z17, .int z18, .int (nI z19), .ref z20, .ref z21, .ref z22, .ref z23, .ref z24, .ref z25, .int (nI z26), .int (nI z27), .int (nI z28), .int z29, .int (nI z30), .int (nI z31), .ref z32, .ref z33, .ref z34, .ref z35, .ref z36, .int (bI z37), .int (nI z38), .int (nI z39), .int (nI z40), .int (nI z41), .int (nI z42), .int (nI z43), .int (nI z44), .int (nI z45), .int (nI z46), .ref z47, .ref z48, .ref z49, .ref z50, .ref z51, .ref z52, .int z53, .ref z54])) :: (z47, .inl (g.2.1 0, 32, .inl rnu)) :: R) s.heap := hW
  rcases ixc x (n := z42) (by omega) with hx | ⟨j, hj, rfl⟩
  · have hl : lv_has ls 2 [(0, .ref o), (1, .int x)] := hl
    have hW : gW g ((o, .inr (11, [.int (nI z0), .int (nI z1), .int z2, .int (nI z3), .ref z4, .ref z5, .int (bI z6), .ref z7, .ref z8, .int (nI z9), .int (nI z10), .int (nI z11), .int (nI z12), .int (nI z13), .int (nI z14), .int (nI z15), .long (lN z16), .ref z17, .int z18, .int (nI z19), .ref z20, .ref z21, .ref z22, .ref z23, .ref z24, .ref z25, .int (nI z26), .int (nI z27), .int (nI z28), .int z29, .int (nI z30), .int (nI z31), .ref z32, .ref z33, .ref z34, .ref z35, .ref z36, .int (bI z37), .int (nI z38), .int (nI z39), .int (nI z40), .int (nI z41), .int (nI z42), .int (nI z43), .int (nI z44), .int (nI z45), .int (nI z46), .ref z47, .ref z48, .ref z49, .ref z50, .ref z51, .ref z52, .int z53, .ref z54])) :: (z47, .inl (g.2.1 0, 32, .inl rnu)) :: R) s.heap := hW
    refine lv_aload_n F.1 F.2.1 dX14_pile_0 rfl (lv_at hl 0 rfl) ?_
    refine lv_aload_n F.1 F.2.1 dX14_pile_1 rfl (lv_at hl 0 rfl) ?_
    refine gGet F hG hW nX14_pile_X14 0 rfl rfl 37 (by decide) mX14_pile_1 rfl dX14_pile_2 ?_
    refine gIfEqB (tgt := 20) F dX14_pile_5 (by decide) (fun c_5 => ?_) (fun c_5 => ?_)
    · refine lv_iconst (v := nI 1) F.1 F.2.1 dX14_pile_20 rfl ?_
      refine lv_goto (tgt := 25) F.1 F.2.1 dX14_pile_21 (by decide) ?_
      refine gPut (w2 := (o, .inr (11, [.int (nI 1), .int (nI z1), .int z2, .int (nI z3), .ref z4, .ref z5, .int (bI z6), .ref z7, .ref z8, .int (nI z9), .int (nI z10), .int (nI z11), .int (nI z12), .int (nI z13), .int (nI z14), .int (nI z15), .long (lN z16), .ref z17, .int z18, .int (nI z19), .ref z20, .ref z21, .ref z22, .ref z23, .ref z24, .ref z25, .int (nI z26), .int (nI z27), .int (nI z28), .int z29, .int (nI z30), .int (nI z31), .ref z32, .ref z33, .ref z34, .ref z35, .ref z36, .int (bI z37), .int (nI z38), .int (nI z39), .int (nI z40), .int (nI z41), .int (nI z42), .int (nI z43), .int (nI z44), .int (nI z45), .int (nI z46), .ref z47, .ref z48, .ref z49, .ref z50, .ref z51, .ref z52, .int z53, .ref z54])) :: (z47, .inl (g.2.1 0, 32, .inl rnu)) :: R) F hS hG hW nX14_pile_X14 0 rfl rfl 0 (by decide) tyX14 tyX14_ok nmX14 mX14_pile_3 rfl rfl rfl rfl (Nat.le_of_ble_eq_true rfl) rfl dX14_pile_25 (fun H locs hW hS => ?_)
      refine lv_aload_n F.1 F.2.1 dX14_pile_28 rfl (lv_at hl 0 rfl) ?_
      refine gGet F hG hW nX14_pile_X14 0 rfl rfl 0 (by decide) mX14_pile_3 rfl dX14_pile_29 ?_
      refine gIfLe (tgt := 39) F (by decide) dX14_pile_32 (by decide) (fun c_32 => by exfalso; omega) (fun c_32 => ?_)
      refine lv_iconst (v := nI 0) F.1 F.2.1 dX14_pile_35 rfl ?_
      refine lv_goto (tgt := 45) F.1 F.2.1 dX14_pile_36 (by decide) ?_
      refine gRi F hW hS dX14_pile_45 ?_
      rw [show ixS x z42 (fun _ => 0) 1 = 1 from ixS_out hx (by omega)]
      exact ⟨ixS_out hx (by omega), rfl⟩
    · refine lv_iload_n F.1 F.2.1 dX14_pile_8 rfl (lv_at hl 1 rfl) ?_
      refine lv_if_lt (tgt := 20) F.1 F.2.1 dX14_pile_9 (by decide) (fun c_9 => ?_) (fun c_9 => ?_)
      · refine lv_iconst (v := nI 1) F.1 F.2.1 dX14_pile_20 rfl ?_
        refine lv_goto (tgt := 25) F.1 F.2.1 dX14_pile_21 (by decide) ?_
        refine gPut (w2 := (o, .inr (11, [.int (nI 1), .int (nI z1), .int z2, .int (nI z3), .ref z4, .ref z5, .int (bI z6), .ref z7, .ref z8, .int (nI z9), .int (nI z10), .int (nI z11), .int (nI z12), .int (nI z13), .int (nI z14), .int (nI z15), .long (lN z16), .ref z17, .int z18, .int (nI z19), .ref z20, .ref z21, .ref z22, .ref z23, .ref z24, .ref z25, .int (nI z26), .int (nI z27), .int (nI z28), .int z29, .int (nI z30), .int (nI z31), .ref z32, .ref z33, .ref z34, .ref z35, .ref z36, .int (bI z37), .int (nI z38), .int (nI z39), .int (nI z40), .int (nI z41), .int (nI z42), .int (nI z43), .int (nI z44), .int (nI z45), .int (nI z46), .ref z47, .ref z48, .ref z49, .ref z50, .ref z51, .ref z52, .int z53, .ref z54])) :: (z47, .inl (g.2.1 0, 32, .inl rnu)) :: R) F hS hG hW nX14_pile_X14 0 rfl rfl 0 (by decide) tyX14 tyX14_ok nmX14 mX14_pile_3 rfl rfl rfl rfl (Nat.le_of_ble_eq_true rfl) rfl dX14_pile_25 (fun H locs hW hS => ?_)
        refine lv_aload_n F.1 F.2.1 dX14_pile_28 rfl (lv_at hl 0 rfl) ?_
        refine gGet F hG hW nX14_pile_X14 0 rfl rfl 0 (by decide) mX14_pile_3 rfl dX14_pile_29 ?_
        refine gIfLe (tgt := 39) F (by decide) dX14_pile_32 (by decide) (fun c_32 => by exfalso; omega) (fun c_32 => ?_)
        refine lv_iconst (v := nI 0) F.1 F.2.1 dX14_pile_35 rfl ?_
        refine lv_goto (tgt := 45) F.1 F.2.1 dX14_pile_36 (by decide) ?_
        refine gRi F hW hS dX14_pile_45 ?_
        rw [show ixS x z42 (fun _ => 0) 1 = 1 from ixS_out hx (by omega)]
        exact ⟨ixS_out hx (by omega), rfl⟩
      · refine lv_iload_n F.1 F.2.1 dX14_pile_12 rfl (lv_at hl 1 rfl) ?_
        refine lv_aload_n F.1 F.2.1 dX14_pile_13 rfl (lv_at hl 0 rfl) ?_
        refine gGet F hG hW nX14_pile_X14 0 rfl rfl 42 (by decide) mX14_pile_2 rfl dX14_pile_14 ?_
        refine lv_icmp_lt (tgt := 24) F.1 F.2.1 dX14_pile_17 (by decide) (fun q => (ixo hx c_9 q).elim) (fun c_17 => ?_)
        refine lv_iconst (v := nI 1) F.1 F.2.1 dX14_pile_20 rfl ?_
        refine lv_goto (tgt := 25) F.1 F.2.1 dX14_pile_21 (by decide) ?_
        refine gPut (w2 := (o, .inr (11, [.int (nI 1), .int (nI z1), .int z2, .int (nI z3), .ref z4, .ref z5, .int (bI z6), .ref z7, .ref z8, .int (nI z9), .int (nI z10), .int (nI z11), .int (nI z12), .int (nI z13), .int (nI z14), .int (nI z15), .long (lN z16), .ref z17, .int z18, .int (nI z19), .ref z20, .ref z21, .ref z22, .ref z23, .ref z24, .ref z25, .int (nI z26), .int (nI z27), .int (nI z28), .int z29, .int (nI z30), .int (nI z31), .ref z32, .ref z33, .ref z34, .ref z35, .ref z36, .int (bI z37), .int (nI z38), .int (nI z39), .int (nI z40), .int (nI z41), .int (nI z42), .int (nI z43), .int (nI z44), .int (nI z45), .int (nI z46), .ref z47, .ref z48, .ref z49, .ref z50, .ref z51, .ref z52, .int z53, .ref z54])) :: (z47, .inl (g.2.1 0, 32, .inl rnu)) :: R) F hS hG hW nX14_pile_X14 0 rfl rfl 0 (by decide) tyX14 tyX14_ok nmX14 mX14_pile_3 rfl rfl rfl rfl (Nat.le_of_ble_eq_true rfl) rfl dX14_pile_25 (fun H locs hW hS => ?_)
        refine lv_aload_n F.1 F.2.1 dX14_pile_28 rfl (lv_at hl 0 rfl) ?_
        refine gGet F hG hW nX14_pile_X14 0 rfl rfl 0 (by decide) mX14_pile_3 rfl dX14_pile_29 ?_
        refine gIfLe (tgt := 39) F (by decide) dX14_pile_32 (by decide) (fun c_32 => by exfalso; omega) (fun c_32 => ?_)
        refine lv_iconst (v := nI 0) F.1 F.2.1 dX14_pile_35 rfl ?_
        refine lv_goto (tgt := 45) F.1 F.2.1 dX14_pile_36 (by decide) ?_
        refine gRi F hW hS dX14_pile_45 ?_
        rw [show ixS x z42 (fun _ => 0) 1 = 1 from ixS_out hx (by omega)]
        exact ⟨ixS_out hx (by omega), rfl⟩
  · have hl : lv_has ls 2 [(0, .ref o), (1, .int (nI j))] := hl
    have hW : gW g ((o, .inr (11, [.int (nI z0), .int (nI z1), .int z2, .int (nI z3), .ref z4, .ref z5, .int (bI z6), .ref z7, .ref z8, .int (nI z9), .int (nI z10), .int (nI z11), .int (nI z12), .int (nI z13), .int (nI z14), .int (nI z15), .long (lN z16), .ref z17, .int z18, .int (nI z19), .ref z20, .ref z21, .ref z22, .ref z23, .ref z24, .ref z25, .int (nI z26), .int (nI z27), .int (nI z28), .int z29, .int (nI z30), .int (nI z31), .ref z32, .ref z33, .ref z34, .ref z35, .ref z36, .int (bI z37), .int (nI z38), .int (nI z39), .int (nI z40), .int (nI z41), .int (nI z42), .int (nI z43), .int (nI z44), .int (nI z45), .int (nI z46), .ref z47, .ref z48, .ref z49, .ref z50, .ref z51, .ref z52, .int z53, .ref z54])) :: (z47, .inl (g.2.1 0, 32, .inl rnu)) :: R) s.heap := hW
    refine lv_aload_n F.1 F.2.1 dX14_pile_0 rfl (lv_at hl 0 rfl) ?_
    refine lv_aload_n F.1 F.2.1 dX14_pile_1 rfl (lv_at hl 0 rfl) ?_
    refine gGet F hG hW nX14_pile_X14 0 rfl rfl 37 (by decide) mX14_pile_1 rfl dX14_pile_2 ?_
    refine gIfEqB (tgt := 20) F dX14_pile_5 (by decide) (fun q => by have h5 := hr0 q; exfalso; omega) (fun c_5 => ?_)
    refine lv_iload_n F.1 F.2.1 dX14_pile_8 rfl (lv_at hl 1 rfl) ?_
    refine gIfLt (tgt := 20) F (by omega) dX14_pile_9 (by decide) (fun c_9 => by exfalso; omega) (fun c_9 => ?_)
    refine lv_iload_n F.1 F.2.1 dX14_pile_12 rfl (lv_at hl 1 rfl) ?_
    refine lv_aload_n F.1 F.2.1 dX14_pile_13 rfl (lv_at hl 0 rfl) ?_
    refine gGet F hG hW nX14_pile_X14 0 rfl rfl 42 (by decide) mX14_pile_2 rfl dX14_pile_14 ?_
    refine gLt (tgt := 24) F (by omega) (by omega) dX14_pile_17 (by decide) (fun c_17 => ?_) (fun c_17 => by exfalso; omega)
    refine lv_iconst (v := nI 0) F.1 F.2.1 dX14_pile_24 rfl ?_
    refine gPut (w2 := (o, .inr (11, [.int (nI 0), .int (nI z1), .int z2, .int (nI z3), .ref z4, .ref z5, .int (bI z6), .ref z7, .ref z8, .int (nI z9), .int (nI z10), .int (nI z11), .int (nI z12), .int (nI z13), .int (nI z14), .int (nI z15), .long (lN z16), .ref z17, .int z18, .int (nI z19), .ref z20, .ref z21, .ref z22, .ref z23, .ref z24, .ref z25, .int (nI z26), .int (nI z27), .int (nI z28), .int z29, .int (nI z30), .int (nI z31), .ref z32, .ref z33, .ref z34, .ref z35, .ref z36, .int (bI z37), .int (nI z38), .int (nI z39), .int (nI z40), .int (nI z41), .int (nI z42), .int (nI z43), .int (nI z44), .int (nI z45), .int (nI z46), .ref z47, .ref z48, .ref z49, .ref z50, .ref z51, .ref z52, .int z53, .ref z54])) :: (z47, .inl (g.2.1 0, 32, .inl rnu)) :: R) F hS hG hW nX14_pile_X14 0 rfl rfl 0 (by decide) tyX14 tyX14_ok nmX14 mX14_pile_3 rfl rfl rfl rfl (Nat.le_of_ble_eq_true rfl) rfl dX14_pile_25 (fun H locs hW hS => ?_)
    refine lv_aload_n F.1 F.2.1 dX14_pile_28 rfl (lv_at hl 0 rfl) ?_
    refine gGet F hG hW nX14_pile_X14 0 rfl rfl 0 (by decide) mX14_pile_3 rfl dX14_pile_29 ?_
    refine gIfLe (tgt := 39) F (by decide) dX14_pile_32 (by decide) (fun c_32 => ?_) (fun c_32 => by exfalso; omega)
    refine lv_aload_n F.1 F.2.1 dX14_pile_39 rfl (lv_at hl 0 rfl) ?_
    refine gGet F hG hW nX14_pile_X14 0 rfl rfl 47 (by decide) mX14_pile_4 rfl dX14_pile_40 ?_
    refine lv_iload_n F.1 F.2.1 dX14_pile_43 rfl (lv_at hl 1 rfl) ?_
    refine gLdI F hG hW 1 rfl (by omega) (by decide) dX14_pile_44 ?_
    refine gRi F hW hS dX14_pile_45 ?_
    rw [show ixS (nI j) z42 (fun _ => 0) 1 = 0 from ixS_in hj (by omega)]
    exact ⟨ixS_in hj (by omega), rfl⟩

