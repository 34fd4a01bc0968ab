/-! ===== the model: what a run costs (written by wip/whole/gen/spec9.py) ===== -/
theorem nI_adj {a b : Nat} {d : Int32} (c : Nat) (h : a = b + c) (hd : nI c + d = 0) : nI a + d = nI b := by
  rw [h, ← nI_add, Int32.add_assoc, hd, Int32.add_zero]
/-- no step but the last is a halt, and all are in reach -/
theorem stp_k {kd vl : Nat → Nat} {n fuel : Nat} {x : mS} : ∀ (r i : Nat), (∀ j, j < i → kd (pT kd vl x j) ≠ 14) → ∀ j, j + 1 < (stp kd vl n fuel x r i).1 → kd (pT kd vl x j) ≠ 14
  | 0, i, h, j, hj => h j (by have : j + 1 < i := hj; omega)
  | r + 1, i, h, j, hj => by
    rw [stp] at hj
    cases q : aheadS kd n (mI kd vl x i).2.2.2.2.2.1 i fuel (mI kd vl x i).2.1 with
    | some e => rw [q] at hj; exact h j (by have : j + 1 < i := hj; omega)
    | none =>
      rw [q] at hj
      by_cases hk : kd (mI kd vl x i).2.2.2.2.2.1 = 14
      · simp only [if_pos hk] at hj
        exact h j (by have : j + 1 < i + 1 := hj; omega)
      · simp only [if_neg hk] at hj
        exact stp_k r (i + 1) (fun j' hj' => by
          rcases Nat.lt_succ_iff_lt_or_eq.mp hj' with z | z
          · exact h j' z
          · rw [z]; exact hk) j hj
theorem rn_k {kd vl : Nat → Nat} {n fu : Nat} {inp : Int32} {j : Nat} (hj : j + 1 < rnM kd vl n fu inp) : kd (pT kd vl (x0 inp) j) ≠ 14 :=
  stp_k (fu + 1) 0 (fun j h => absurd h (Nat.not_lt_zero j)) j hj
/-- all goals are marked -/
def gMk (n : Nat) (kd vl : Nat → Nat) (mk : Nat → Bool) : Prop := ∀ j, j < n → kd j = 11 ∨ kd j = 12 → mk (vl j) = true
theorem pT_s {kd vl : Nat → Nat} {n : Nat} {mk : Nat → Bool} {x : mS} {i : Nat} (hg : gMk n kd vl mk) (hp : pT kd vl x i < n) (hk : kd (pT kd vl x i) ≠ 14) : pT kd vl x (i + 1) = pT kd vl x i + 1 ∨ mk (pT kd vl x (i + 1)) = true := by
  have h1 : pT kd vl x (i + 1) = plS (kd (pT kd vl x i)) (vl (pT kd vl x i)) (mI kd vl x i).1 (mI kd vl x i).2.1 (pT kd vl x i) := rfl
  rw [h1]
  unfold plS
  rw [if_neg hk]
  cases q : laS (kd (pT kd vl x i)) (vl (pT kd vl x i)) (mI kd vl x i).1 (mI kd vl x i).2.1 with
  | none => exact Or.inl rfl
  | some t =>
    refine Or.inr ?_
    show mk t = true
    have h2 : (kd (pT kd vl x i) = 11 ∨ kd (pT kd vl x i) = 12) ∧ t = vl (pT kd vl x i) := by
      unfold laS at q
      split at q
      · next h => cases q; exact ⟨Or.inl h, rfl⟩
      · next h =>
        split at q
        · cases q; exact ⟨Or.inr h, rfl⟩
        · cases q
      · cases q
    rw [h2.2]
    exact hg _ hp h2.1
theorem sec_nm {n : Nat} {kd : Nat → Nat} {mk P : Nat → Bool} {j : Nat} (h : secJ n kd mk P j = true) : mk j = false ∧ j ≠ 0 := by
  cases j with
  | zero => cases h
  | succ i =>
    refine ⟨?_, fun z => by cases z⟩
    have h1 : (!secS (canJ n kd mk P none) i && canJ n kd mk P none (i + 1)) = true := h
    rw [Bool.and_eq_true] at h1
    have h2 := h1.2
    unfold canJ at h2
    rw [Bool.and_eq_true, Bool.and_eq_true] at h2
    cases hm : mk (i + 1) with
    | false => rfl
    | true => rw [hm] at h2; cases h2.2.1
/-- the former place, as the joined heart has it -/
theorem fp_J {kd vl : Nat → Nat} {x : mS} {sec : Nat → Bool} : ∀ i, (yT kd (pT kd vl x) (lT kd vl x) (fun (y : Option Nat × (Nat → Nat)) pl _ _ => (some pl, jCo y.2 y.1 pl)) (none, fun _ => 0) (i + 1)).1 = some (pT kd vl x i) := fun _ => rfl
theorem jPr_e {kd vl : Nat → Nat} {n fu : Nat} {inp : Int32} {mk Pj : Nat → Bool} {i : Nat} (hP : pOk n kd vl) (hg : gMk n kd vl mk) (hi : i < rnM kd vl n fu inp) :
    jPr (secJ n kd mk Pj) (yT kd (pT kd vl (x0 inp)) (lT kd vl (x0 inp)) (fun (y : Option Nat × (Nat → Nat)) pl _ _ => (some pl, jCo y.2 y.1 pl)) (none, fun _ => 0) i).1 (pT kd vl (x0 inp) i) = if secJ n kd mk Pj (pT kd vl (x0 inp) i) = true then 0 else 4 := by
  cases hs : secJ n kd mk Pj (pT kd vl (x0 inp) i) with
  | false =>
    unfold jPr
    rw [hs]
    split <;> rfl
  | true =>
    obtain ⟨h1, h2⟩ := sec_nm hs
    cases i with
    | zero => exact absurd rfl h2
    | succ j =>
      have h3 := pT_s (x := x0 inp) (i := j) hg ((rn_ok (fu := fu) (inp := inp) hP).2.2.2 j (by omega)) (rn_k hi)
      have h4 : pT kd vl (x0 inp) (j + 1) = pT kd vl (x0 inp) j + 1 := h3.resolve_right (fun z => by rw [h1] at z; cases z)
      unfold jPr
      rw [show (yT kd (pT kd vl (x0 inp)) (lT kd vl (x0 inp)) (fun (y : Option Nat × (Nat → Nat)) pl _ _ => (some pl, jCo y.2 y.1 pl)) (none, fun _ => 0) (j + 1)).1 = some (pT kd vl (x0 inp) j) from rfl]
      rw [show cfnS (some (pT kd vl (x0 inp) j)) (pT kd vl (x0 inp) (j + 1)) = true from decide_eq_true h4.symm, if_pos rfl, hs]

theorem jm_11 {kd vl : Nat → Nat} {x : mS} {i : Nat} (h : kd (pT kd vl x i) = 11) : lT kd vl x i = some (vl (pT kd vl x i)) := by
  show laS (kd (pT kd vl x i)) (vl (pT kd vl x i)) (mI kd vl x i).1 (mI kd vl x i).2.1 = _
  rw [h]; rfl
theorem jm_12s {kd vl : Nat → Nat} {x : mS} {i : Nat} (h : kd (pT kd vl x i) = 12) : lT kd vl x i = (if (mI kd vl x i).1 ((mI kd vl x i).2.1 - 1) = 0 then some (vl (pT kd vl x i)) else none) ∧ pT kd vl x (i + 1) = (if (mI kd vl x i).1 ((mI kd vl x i).2.1 - 1) = 0 then vl (pT kd vl x i) else pT kd vl x i + 1) := by
  constructor
  · show laS (kd (pT kd vl x i)) (vl (pT kd vl x i)) (mI kd vl x i).1 (mI kd vl x i).2.1 = _
    rw [h]; rfl
  · show plS (kd (pT kd vl x i)) (vl (pT kd vl x i)) (mI kd vl x i).1 (mI kd vl x i).2.1 (pT kd vl x i) = _
    rw [h]
    by_cases q : (mI kd vl x i).1 ((mI kd vl x i).2.1 - 1) = 0
    · rw [if_pos q, plS_12t q]
    · rw [if_neg q, plS_12f q]
theorem jm_12t {kd vl : Nat → Nat} {x : mS} {i : Nat} (h : kd (pT kd vl x i) = 12) (hv : vl (pT kd vl x i) ≤ pT kd vl x i) (he : pT kd vl x (i + 1) = vl (pT kd vl x i)) : lT kd vl x i = some (vl (pT kd vl x i)) := by
  obtain ⟨h1, h2⟩ := jm_12s h
  by_cases q : (mI kd vl x i).1 ((mI kd vl x i).2.1 - 1) = 0
  · rw [h1, if_pos q]
  · rw [if_neg q] at h2; omega
theorem jm_12f {kd vl : Nat → Nat} {x : mS} {i : Nat} (h : kd (pT kd vl x i) = 12) (hl : lT kd vl x i = some (vl (pT kd vl x i))) : pT kd vl x (i + 1) = vl (pT kd vl x i) := by
  obtain ⟨h1, h2⟩ := jm_12s h
  by_cases q : (mI kd vl x i).1 ((mI kd vl x i).2.1 - 1) = 0
  · rw [if_pos q] at h2; exact h2
  · rw [h1, if_neg q] at hl; cases hl

abbrev rm_X14_jumped : Room := ({ frames := 0, cells := 0, slots := 0, locals := 0 } : Room)
theorem mX14_jumped_1 : Cond.fieldLink RX14 77 "StepperHeartsModel" "steps" "[I" ∈ wsX14_jumped := List.mem_of_getElem? (i := 1) rfl
theorem nX14_jumped_X14 : ∀ w ∈ wsX140, w ∈ wsX14_jumped := fun _ h => List.mem_cons_of_mem _ (List.mem_append_left _ (List.mem_append_right _ (h)))
theorem mX14_jumped_2 : Cond.fieldLink RX14 16 "StepperHeartsModel" "p" "LStepperHeartsModel$Program;" ∈ wsX14_jumped := List.mem_of_getElem? (i := 2) rfl
theorem fX14_jumped_201 : (yX14_jumped.cls, 201, "StepperHeartsModel$Program", "kind", "[I", "StepperHeartsModel") ∈ gNF := List.mem_of_getElem? (i := 24) rfl
theorem nX14_jumped_X12 : ∀ w ∈ wsX120, w ∈ wsX14_jumped := fun _ h => List.mem_cons_of_mem _ (List.mem_append_right _ (h))
theorem mX14_jumped_3 : Cond.fieldLink RX14 271 "StepperHeartsModel" "many" "I" ∈ wsX14_jumped := List.mem_of_getElem? (i := 3) rfl
theorem mX14_jumped_4 : Cond.fieldLink RX14 283 "StepperHeartsModel" "endPlace" "I" ∈ wsX14_jumped := List.mem_of_getElem? (i := 4) rfl
theorem fX14_jumped_203 : (yX14_jumped.cls, 203, "StepperHeartsModel$Program", "value", "[I", "StepperHeartsModel") ∈ gNF := List.mem_of_getElem? (i := 25) rfl
set_option maxRecDepth 100000 in
set_option maxHeartbeats 4000000 in
theorem c_X14_jumped (g : gC) (l : Launch) {o : Nat} {pk : Nat} {pv : Nat} {pl : Nat} {pa : Nat} {pt : Nat} {pm : Nat} {pi : Nat} {z0 : Nat} {z1 : Nat} {z2 : Int32} {z3 : Nat} {z4 : Nat} {z5 : Nat} {z6 : Bool} {z7 : Nat} {z8 : Nat} {z9 : Nat} {z10 : Nat} {z11 : Nat} {z12 : Nat} {z13 : Nat} {z14 : Nat} {z15 : Nat} {z16 : Nat} {z17 : Nat} {z18 : Int32} {z19 : Nat} {z20 : Nat} {z21 : Nat} {z22 : Nat} {z23 : Nat} {z24 : Nat} {z25 : Nat} {z27 : Nat} {z28 : Nat} {z29 : Int32} {z31 : Nat} {z32 : Nat} {z33 : Nat} {z34 : Nat} {z35 : Nat} {z36 : Nat} {z37 : Bool} {z38 : Nat} {z39 : Nat} {z40 : Nat} {z41 : Nat} {z42 : Nat} {z43 : Nat} {z44 : Nat} {z45 : Nat} {z46 : Nat} {z47 : Nat} {z48 : Nat} {z49 : Nat} {z50 : Nat} {z51 : Nat} {z52 : Nat} {z53 : Int32} {z54 : Nat} {n : Nat} {mm : Nat} {kdm : Nat → Nat} {vlm : Nat → Nat} {kd : Nat → Nat} {vl : Nat → Nat} {sp : Nat → Nat} {i : Nat} {fu : Nat} {R : va_W} (hP : pOk n kd vl) (hak : ∀ j, j < n → kdm j = kd j) (hav : ∀ j, j < n → vlm j = vl j) (hsp : ∀ j, j < rnM kd vl n fu z18 → sp j = pT kd vl (x0 z18) j) (hf : fu ≤ 5000) (hi : i < rnM kd vl n fu z18) (hk : kd (pT kd vl (x0 z18) i) = 11 ∨ kd (pT kd vl (x0 z18) i) = 12) : cI g l yX14_jumped wsX14_jumped rm_X14_jumped 0 0 [.ref o, .int (nI i)] ((o, .inr (11, [.int (nI z0), .int (nI z1), .int z2, .int (nI z3), .ref z4, .ref z5, .int (bI z6), .ref z7, .ref z8, .int (nI z9), .int (nI z10), .int (nI z11), .int (nI z12), .int (nI z13), .int (nI z14), .int (nI z15), .long (lN z16), .ref z17, .int z18, .int (nI z19), .ref z20, .ref z21, .ref z22, .ref z23, .ref z24, .ref z25, .int (nI (rnM kd vl n fu z18)), .int (nI z27), .int (nI z28), .int z29, .int (nI ((rX kd vl n fu z18).2.2.2.2.2.1)), .int (nI z31), .ref z32, .ref z33, .ref z34, .ref z35, .ref z36, .int (bI z37), .int (nI z38), .int (nI z39), .int (nI z40), .int (nI z41), .int (nI z42), .int (nI z43), .int (nI z44), .int (nI z45), .int (nI z46), .ref z47, .ref z48, .ref z49, .ref z50, .ref z51, .ref z52, .int z53, .ref z54])) :: (z22, .inl (g.2.1 0, 5000, .inl (nA sp))) :: (z4, .inr (9, [.int (nI n), .int (nI mm), .ref pk, .ref pv, .ref pl, .ref pa, .ref pt, .ref pm, .ref pi])) :: (pk, .inl (g.2.1 0, 100, .inl (nA kdm))) :: (pv, .inl (g.2.1 0, 100, .inl (nA vlm))) :: R) (fun r u => ∃ (b9 : Bool), (bI b9) = r ∧ (o, .inr (11, [.int (nI z0), .int (nI z1), .int z2, .int (nI z3), .ref z4, .ref z5, .int (bI z6), .ref z7, .ref z8, .int (nI z9), .int (nI z10), .int (nI z11), .int (nI z12), .int (nI z13), .int (nI z14), .int (nI z15), .long (lN z16), .ref z17, .int z18, .int (nI z19), .ref z20, .ref z21, .ref z22, .ref z23, .ref z24, .ref z25, .int (nI (rnM kd vl n fu z18)), .int (nI z27), .int (nI z28), .int z29, .int (nI ((rX kd vl n fu z18).2.2.2.2.2.1)), .int (nI z31), .ref z32, .ref z33, .ref z34, .ref z35, .ref z36, .int (bI z37), .int (nI z38), .int (nI z39), .int (nI z40), .int (nI z41), .int (nI z42), .int (nI z43), .int (nI z44), .int (nI z45), .int (nI z46), .ref z47, .ref z48, .ref z49, .ref z50, .ref z51, .ref z52, .int z53, .ref z54])) :: (z22, .inl (g.2.1 0, 5000, .inl (nA sp))) :: (z4, .inr (9, [.int (nI n), .int (nI mm), .ref pk, .ref pv, .ref pl, .ref pa, .ref pt, .ref pm, .ref pi])) :: (pk, .inl (g.2.1 0, 100, .inl (nA kdm))) :: (pv, .inl (g.2.1 0, 100, .inl (nA vlm))) :: R = u ∧ (vl (pT kd vl (x0 z18) i) ≤ pT kd vl (x0 z18) i → (b9 = true ↔ lT kd vl (x0 z18) i = some (vl (pT kd vl (x0 z18) i))))) := by
  refine gEnterQ (cc := cX14_jumped) (maxL := 4) (ret := (some (.boolean))) (by decide +kernel) rfl (Nat.le_of_ble_eq_true rfl) ?_
  intro p e s m below meth c F hG hW ls hl
  have hS : va_S (gA g) s.heap s.heap [] := va_S.rf
  have hl : lv_has ls 4 [(0, .ref o), (1, .int (nI i))] := hl
  have hW : gW g ((o, .inr (11, [.int (nI z0), .int (nI z1), .int z2, .int (nI z3), .ref z4, .ref z5, .int (bI z6), .ref z7, .ref z8, .int (nI z9), .int (nI z10), .int (nI z11), .int (nI z12), .int (nI z13), .int (nI z14), .int (nI z15), .long (lN z16), .ref z17, .int z18, .int (nI z19), .ref z20, .ref z21, .ref z22, .ref z23, .ref z24, .ref z25, .int (nI (rnM kd vl n fu z18)), .int (nI z27), .int (nI z28), .int z29, .int (nI ((rX kd vl n fu z18).2.2.2.2.2.1)), .int (nI z31), .ref z32, .ref z33, .ref z34, .ref z35, .ref z36, .int (bI z37), .int (nI z38), .int (nI z39), .int (nI z40), .int (nI z41), .int (nI z42), .int (nI z43), .int (nI z44), .int (nI z45), .int (nI z46), .ref z47, .ref z48, .ref z49, .ref z50, .ref z51, .ref z52, .int z53, .ref z54])) :: (z22, .inl (g.2.1 0, 5000, .inl (nA sp))) :: (z4, .inr (9, [.int (nI n), .int (nI mm), .ref pk, .ref pv, .ref pl, .ref pa, .ref pt, .ref pm, .ref pi])) :: (pk, .inl (g.2.1 0, 100, .inl (nA kdm))) :: (pv, .inl (g.2.1 0, 100, .inl (nA vlm))) :: R) s.heap := hW
  have hn9 := hP.1
  have hp9 := (rn_ok (fu := fu) (inp := z18) hP).2.2.2 i hi
  have hr9 := (rn_ok (fu := fu) (inp := z18) hP).1
  have hq9 : pT kd vl (x0 z18) (i + 1) ≤ n := ((rn_ok (fu := fu) (inp := z18) hP).2.2.1 (i + 1) hi).2.2.1
  have hk15 := hP.2.1 _ hp9
  have hv9 := hP.2.2.2 _ hp9 hk
  refine lv_aload_n F.1 F.2.1 dX14_jumped_0 rfl (lv_at hl 0 rfl) ?_
  refine gGet F hG hW nX14_jumped_X14 0 rfl rfl 22 (by decide) mX14_jumped_1 rfl dX14_jumped_1 ?_
  refine lv_iload_n F.1 F.2.1 dX14_jumped_4 rfl (lv_at hl 1 rfl) ?_
  refine gLdI F hG hW 1 rfl (by omega) (by decide) dX14_jumped_5 ?_
  refine gTop (y := nI (sp i)) rfl ?_
  refine gTop (y := nI ((pT kd vl (x0 z18)) i)) (congrArg nI (hsp i (by omega))) ?_
  refine lv_istore_n (lv' := [(2, .int (nI ((pT kd vl (x0 z18)) i))), (0, .ref o), (1, .int (nI i))]) F.1 F.2.1 dX14_jumped_6 rfl hl (by decide) rfl (fun ls hl => ?_)
  refine lv_aload_n F.1 F.2.1 dX14_jumped_7 rfl (lv_at hl 1 rfl) ?_
  refine gGet F hG hW nX14_jumped_X14 0 rfl rfl 4 (by decide) mX14_jumped_2 rfl dX14_jumped_8 ?_
  refine gGetN F hG hW nX14_jumped_X12 2 rfl rfl 2 (by decide) fX14_jumped_201 rfl dX14_jumped_11 ?_
  refine lv_iload_n F.1 F.2.1 dX14_jumped_14 rfl (lv_at hl 0 rfl) ?_
  refine gLdI F hG hW 3 rfl (by omega) (by decide) dX14_jumped_15 ?_
  refine gTop (y := nI (kdm ((pT kd vl (x0 z18)) i))) rfl ?_
  refine gTop (y := nI (kd ((pT kd vl (x0 z18)) i))) (congrArg nI (hak ((pT kd vl (x0 z18)) i) (by omega))) ?_
  refine lv_bipush (v := nI 11) F.1 F.2.1 dX14_jumped_16 (by decide) ?_
  refine gNe (tgt := 23) F (by omega) (by omega) dX14_jumped_18 (by decide) (fun c_18 => ?_) (fun c_18 => ?_)
  · refine lv_iload_n F.1 F.2.1 dX14_jumped_23 rfl (lv_at hl 2 rfl) ?_
    refine lv_iconst (v := nI 1) F.1 F.2.1 dX14_jumped_24 rfl ?_
    refine gAdd F dX14_jumped_25 ?_
    refine lv_aload_n F.1 F.2.1 dX14_jumped_26 rfl (lv_at hl 1 rfl) ?_
    refine gGet F hG hW nX14_jumped_X14 0 rfl rfl 26 (by decide) mX14_jumped_3 rfl dX14_jumped_27 ?_
    refine gGe (tgt := 44) F (by omega) (by omega) dX14_jumped_30 (by decide) (fun c_30 => ?_) (fun c_30 => ?_)
    · have hie : i + 1 = rnM kd vl n fu z18 := by omega
      refine lv_aload_n F.1 F.2.1 dX14_jumped_44 rfl (lv_at hl 1 rfl) ?_
      refine gGet F hG hW nX14_jumped_X14 0 rfl rfl 30 (by decide) mX14_jumped_4 rfl dX14_jumped_45 ?_
      refine gTop (y := nI (pT kd vl (x0 z18) (i + 1))) (by rw [hie]; rfl) ?_
      refine lv_istore_n (lv' := [(3, .int (nI (pT kd vl (x0 z18) (i + 1)))), (2, .int (nI ((pT kd vl (x0 z18)) i))), (0, .ref o), (1, .int (nI i))]) F.1 F.2.1 dX14_jumped_48 rfl hl (by decide) rfl (fun ls hl => ?_)
      refine lv_aload_n F.1 F.2.1 dX14_jumped_49 rfl (lv_at hl 2 rfl) ?_
      refine gGet F hG hW nX14_jumped_X14 0 rfl rfl 4 (by decide) mX14_jumped_2 rfl dX14_jumped_50 ?_
      refine gGetN F hG hW nX14_jumped_X12 2 rfl rfl 3 (by decide) fX14_jumped_203 rfl dX14_jumped_53 ?_
      refine lv_iload_n F.1 F.2.1 dX14_jumped_56 rfl (lv_at hl 1 rfl) ?_
      refine gLdI F hG hW 4 rfl (by omega) (by decide) dX14_jumped_57 ?_
      refine gTop (y := nI (vlm ((pT kd vl (x0 z18)) i))) rfl ?_
      refine gTop (y := nI (vl ((pT kd vl (x0 z18)) i))) (congrArg nI (hav ((pT kd vl (x0 z18)) i) (by omega))) ?_
      refine lv_iload_n F.1 F.2.1 dX14_jumped_58 rfl (lv_at hl 1 rfl) ?_
      refine lv_iconst (v := nI 1) F.1 F.2.1 dX14_jumped_59 rfl ?_
      refine gAdd F dX14_jumped_60 ?_
      refine gEq (tgt := 83) F (by omega) (by omega) dX14_jumped_61 (by decide) (fun c_61 => ?_) (fun c_61 => ?_)
      · refine lv_iconst (v := nI 0) F.1 F.2.1 dX14_jumped_83 rfl ?_
        refine gRz rfl F hW hS dX14_jumped_84 ?_
        exact ⟨false, rfl, rfl, fun z => absurd c_61 (by omega)⟩
      · refine lv_iload_n F.1 F.2.1 dX14_jumped_64 rfl (lv_at hl 0 rfl) ?_
        refine lv_aload_n F.1 F.2.1 dX14_jumped_65 rfl (lv_at hl 2 rfl) ?_
        refine gGet F hG hW nX14_jumped_X14 0 rfl rfl 4 (by decide) mX14_jumped_2 rfl dX14_jumped_66 ?_
        refine gGetN F hG hW nX14_jumped_X12 2 rfl rfl 3 (by decide) fX14_jumped_203 rfl dX14_jumped_69 ?_
        refine lv_iload_n F.1 F.2.1 dX14_jumped_72 rfl (lv_at hl 1 rfl) ?_
        refine gLdI F hG hW 4 rfl (by omega) (by decide) dX14_jumped_73 ?_
        refine gTop (y := nI (vlm ((pT kd vl (x0 z18)) i))) rfl ?_
        refine gTop (y := nI (vl ((pT kd vl (x0 z18)) i))) (congrArg nI (hav ((pT kd vl (x0 z18)) i) (by omega))) ?_
        refine gNe (tgt := 81) F (by omega) (by omega) dX14_jumped_74 (by decide) (fun c_74 => ?_) (fun c_74 => ?_)
        · refine lv_iconst (v := nI 0) F.1 F.2.1 dX14_jumped_81 rfl ?_
          refine gRz rfl F hW hS dX14_jumped_82 ?_
          exact ⟨false, rfl, rfl, fun z => ⟨fun q => (by cases q), fun q => absurd (jm_12f (hk.resolve_left c_18) q) c_74⟩⟩
        · refine lv_iconst (v := nI 1) F.1 F.2.1 dX14_jumped_77 rfl ?_
          refine lv_goto (tgt := 82) F.1 F.2.1 dX14_jumped_78 (by decide) ?_
          refine gRz rfl F hW hS dX14_jumped_82 ?_
          exact ⟨true, rfl, rfl, fun z => ⟨fun _ => jm_12t (hk.resolve_left c_18) z c_74, fun _ => rfl⟩⟩
    · refine lv_aload_n F.1 F.2.1 dX14_jumped_33 rfl (lv_at hl 1 rfl) ?_
      refine gGet F hG hW nX14_jumped_X14 0 rfl rfl 22 (by decide) mX14_jumped_1 rfl dX14_jumped_34 ?_
      refine lv_iload_n F.1 F.2.1 dX14_jumped_37 rfl (lv_at hl 2 rfl) ?_
      refine lv_iconst (v := nI 1) F.1 F.2.1 dX14_jumped_38 rfl ?_
      refine gAdd F dX14_jumped_39 ?_
      refine gLdI F hG hW 1 rfl (by omega) (by decide) dX14_jumped_40 ?_
      refine gTop (y := nI (sp (i + 1))) rfl ?_
      refine gTop (y := nI ((pT kd vl (x0 z18)) (i + 1))) (congrArg nI (hsp (i + 1) (by omega))) ?_
      refine lv_goto (tgt := 48) F.1 F.2.1 dX14_jumped_41 (by decide) ?_
      refine lv_istore_n (lv' := [(3, .int (nI ((pT kd vl (x0 z18)) (i + 1)))), (2, .int (nI ((pT kd vl (x0 z18)) i))), (0, .ref o), (1, .int (nI i))]) F.1 F.2.1 dX14_jumped_48 rfl hl (by decide) rfl (fun ls hl => ?_)
      refine lv_aload_n F.1 F.2.1 dX14_jumped_49 rfl (lv_at hl 2 rfl) ?_
      refine gGet F hG hW nX14_jumped_X14 0 rfl rfl 4 (by decide) mX14_jumped_2 rfl dX14_jumped_50 ?_
      refine gGetN F hG hW nX14_jumped_X12 2 rfl rfl 3 (by decide) fX14_jumped_203 rfl dX14_jumped_53 ?_
      refine lv_iload_n F.1 F.2.1 dX14_jumped_56 rfl (lv_at hl 1 rfl) ?_
      refine gLdI F hG hW 4 rfl (by omega) (by decide) dX14_jumped_57 ?_
      refine gTop (y := nI (vlm ((pT kd vl (x0 z18)) i))) rfl ?_
      refine gTop (y := nI (vl ((pT kd vl (x0 z18)) i))) (congrArg nI (hav ((pT kd vl (x0 z18)) i) (by omega))) ?_
      refine lv_iload_n F.1 F.2.1 dX14_jumped_58 rfl (lv_at hl 1 rfl) ?_
      refine lv_iconst (v := nI 1) F.1 F.2.1 dX14_jumped_59 rfl ?_
      refine gAdd F dX14_jumped_60 ?_
      refine gEq (tgt := 83) F (by omega) (by omega) dX14_jumped_61 (by decide) (fun c_61 => ?_) (fun c_61 => ?_)
      · refine lv_iconst (v := nI 0) F.1 F.2.1 dX14_jumped_83 rfl ?_
        refine gRz rfl F hW hS dX14_jumped_84 ?_
        exact ⟨false, rfl, rfl, fun z => absurd c_61 (by omega)⟩
      · refine lv_iload_n F.1 F.2.1 dX14_jumped_64 rfl (lv_at hl 0 rfl) ?_
        refine lv_aload_n F.1 F.2.1 dX14_jumped_65 rfl (lv_at hl 2 rfl) ?_
        refine gGet F hG hW nX14_jumped_X14 0 rfl rfl 4 (by decide) mX14_jumped_2 rfl dX14_jumped_66 ?_
        refine gGetN F hG hW nX14_jumped_X12 2 rfl rfl 3 (by decide) fX14_jumped_203 rfl dX14_jumped_69 ?_
        refine lv_iload_n F.1 F.2.1 dX14_jumped_72 rfl (lv_at hl 1 rfl) ?_
        refine gLdI F hG hW 4 rfl (by omega) (by decide) dX14_jumped_73 ?_
        refine gTop (y := nI (vlm ((pT kd vl (x0 z18)) i))) rfl ?_
        refine gTop (y := nI (vl ((pT kd vl (x0 z18)) i))) (congrArg nI (hav ((pT kd vl (x0 z18)) i) (by omega))) ?_
        refine gNe (tgt := 81) F (by omega) (by omega) dX14_jumped_74 (by decide) (fun c_74 => ?_) (fun c_74 => ?_)
        · refine lv_iconst (v := nI 0) F.1 F.2.1 dX14_jumped_81 rfl ?_
          refine gRz rfl F hW hS dX14_jumped_82 ?_
          exact ⟨false, rfl, rfl, fun z => ⟨fun q => (by cases q), fun q => absurd (jm_12f (hk.resolve_left c_18) q) c_74⟩⟩
        · refine lv_iconst (v := nI 1) F.1 F.2.1 dX14_jumped_77 rfl ?_
          refine lv_goto (tgt := 82) F.1 F.2.1 dX14_jumped_78 (by decide) ?_
          refine gRz rfl F hW hS dX14_jumped_82 ?_
          exact ⟨true, rfl, rfl, fun z => ⟨fun _ => jm_12t (hk.resolve_left c_18) z c_74, fun _ => rfl⟩⟩
  · refine lv_iconst (v := nI 1) F.1 F.2.1 dX14_jumped_21 rfl ?_
    refine gRz rfl F hW hS dX14_jumped_22 ?_
    exact ⟨true, rfl, rfl, fun _ => ⟨fun _ => jm_11 c_18, fun _ => rfl⟩⟩

abbrev rm_X14_costOf_0 : Room := ({ frames := 2, cells := 0, slots := 0, locals := 40 } : Room)
theorem mX14_costOf_1 : Cond.fieldLink RX14 271 "StepperHeartsModel" "many" "I" ∈ wsX14_costOf := List.mem_of_getElem? (i := 1) rfl
theorem nX14_costOf_X14 : ∀ w ∈ wsX140, w ∈ wsX14_costOf := fun _ h => List.mem_cons_of_mem _ (List.mem_append_left _ (List.mem_append_right _ (h)))
theorem mX14_costOf_2 : Cond.fieldLink RX14 16 "StepperHeartsModel" "p" "LStepperHeartsModel$Program;" ∈ wsX14_costOf := List.mem_of_getElem? (i := 2) rfl
theorem fX14_costOf_201 : (yX14_costOf.cls, 201, "StepperHeartsModel$Program", "kind", "[I", "StepperHeartsModel") ∈ gNF := List.mem_of_getElem? (i := 24) rfl
theorem nX14_costOf_X12 : ∀ w ∈ wsX120, w ∈ wsX14_costOf := fun _ h => List.mem_cons_of_mem _ (List.mem_append_right _ (h))
theorem mX14_costOf_3 : Cond.fieldLink RX14 77 "StepperHeartsModel" "steps" "[I" ∈ wsX14_costOf := List.mem_of_getElem? (i := 3) rfl
set_option maxRecDepth 100000 in
set_option maxHeartbeats 4000000 in
theorem c_X14_costOf_0 (g : gC) (l : Launch) {o : Nat} {pk : Nat} {pv : Nat} {pl : Nat} {pa : Nat} {pt : Nat} {pm : Nat} {pi : Nat} {z0 : Nat} {z1 : Nat} {z2 : Int32} {z3 : Nat} {z4 : Nat} {z5 : Nat} {z6 : Bool} {z7 : Nat} {z8 : Nat} {z9 : Nat} {z10 : Nat} {z11 : Nat} {z12 : Nat} {z13 : Nat} {z14 : Nat} {z15 : Nat} {z16 : Nat} {z17 : Nat} {z18 : Int32} {z19 : Nat} {z20 : Nat} {z21 : Nat} {z22 : Nat} {z23 : Nat} {z24 : Nat} {z25 : Nat} {z27 : Nat} {z28 : Nat} {z29 : Int32} {z31 : Nat} {z32 : Nat} {z33 : Nat} {z34 : Nat} {z35 : Nat} {z36 : Nat} {z37 : Bool} {z38 : Nat} {z39 : Nat} {z40 : Nat} {z41 : Nat} {z42 : Nat} {z43 : Nat} {z44 : Nat} {z45 : Nat} {z46 : Nat} {z47 : Nat} {z48 : Nat} {z49 : Nat} {z50 : Nat} {z51 : Nat} {z52 : Nat} {z53 : Int32} {z54 : Nat} {n : Nat} {mm : Nat} {kdm : Nat → Nat} {kd : Nat → Nat} {vl : Nat → Nat} {mk : Nat → Bool} {Pj : Nat → Bool} {sp : Nat → Nat} {fu : Nat} {R : va_W} (hP : pOk n kd vl) (hak : ∀ j, j < n → kdm j = kd j) (hsp : ∀ j, j < rnM kd vl n fu z18 → sp j = pT kd vl (x0 z18) j) (hf : fu ≤ 5000) : cI g l yX14_costOf wsX14_costOf rm_X14_costOf_0 0 0 [.ref o, .int (nI 0)] ((o, .inr (11, [.int (nI z0), .int (nI z1), .int z2, .int (nI z3), .ref z4, .ref z5, .int (bI z6), .ref z7, .ref z8, .int (nI z9), .int (nI z10), .int (nI z11), .int (nI z12), .int (nI z13), .int (nI z14), .int (nI z15), .long (lN z16), .ref z17, .int z18, .int (nI z19), .ref z20, .ref z21, .ref z22, .ref z23, .ref z24, .ref z25, .int (nI (rnM kd vl n fu z18)), .int (nI z27), .int (nI z28), .int z29, .int (nI ((rX kd vl n fu z18).2.2.2.2.2.1)), .int (nI z31), .ref z32, .ref z33, .ref z34, .ref z35, .ref z36, .int (bI z37), .int (nI z38), .int (nI z39), .int (nI z40), .int (nI z41), .int (nI z42), .int (nI z43), .int (nI z44), .int (nI z45), .int (nI z46), .ref z47, .ref z48, .ref z49, .ref z50, .ref z51, .ref z52, .int z53, .ref z54])) :: (z22, .inl (g.2.1 0, 5000, .inl (nA sp))) :: (z4, .inr (9, [.int (nI n), .int (nI mm), .ref pk, .ref pv, .ref pl, .ref pa, .ref pt, .ref pm, .ref pi])) :: (pk, .inl (g.2.1 0, 100, .inl (nA kdm))) :: R) (fun r u => (nI (cst 0 kd vl mk n fu z18 Pj)) = r ∧ (o, .inr (11, [.int (nI z0), .int (nI z1), .int z2, .int (nI z3), .ref z4, .ref z5, .int (bI z6), .ref z7, .ref z8, .int (nI z9), .int (nI z10), .int (nI z11), .int (nI z12), .int (nI z13), .int (nI z14), .int (nI z15), .long (lN z16), .ref z17, .int z18, .int (nI z19), .ref z20, .ref z21, .ref z22, .ref z23, .ref z24, .ref z25, .int (nI (rnM kd vl n fu z18)), .int (nI z27), .int (nI z28), .int z29, .int (nI ((rX kd vl n fu z18).2.2.2.2.2.1)), .int (nI z31), .ref z32, .ref z33, .ref z34, .ref z35, .ref z36, .int (bI z37), .int (nI z38), .int (nI z39), .int (nI z40), .int (nI z41), .int (nI z42), .int (nI z43), .int (nI z44), .int (nI z45), .int (nI z46), .ref z47, .ref z48, .ref z49, .ref z50, .ref z51, .ref z52, .int z53, .ref z54])) :: (z22, .inl (g.2.1 0, 5000, .inl (nA sp))) :: (z4, .inr (9, [.int (nI n), .int (nI mm), .ref pk, .ref pv, .ref pl, .ref pa, .ref pt, .ref pm, .ref pi])) :: (pk, .inl (g.2.1 0, 100, .inl (nA kdm))) :: R = u) := by
  refine gEnterQ (cc := cX14_costOf) (maxL := 8) (ret := (some (.int))) (by decide +kernel) rfl (Nat.le_of_ble_eq_true rfl) ?_
  intro p e s m below meth c F hG hW ls hl
  have hS : va_S (gA g) s.heap s.heap [] := va_S.rf
  have hl : lv_has ls 8 [(0, .ref o), (1, .int (nI 0))] := hl
  have hW : gW g ((o, .inr (11, [.int (nI z0), .int (nI z1), .int z2, .int (nI z3), .ref z4, .ref z5, .int (bI z6), .ref z7, .ref z8, .int (nI z9), .int (nI z10), .int (nI z11), .int (nI z12), .int (nI z13), .int (nI z14), .int (nI z15), .long (lN z16), .ref z17, .int z18, .int (nI z19), .ref z20, .ref z21, .ref z22, .ref z23, .ref z24, .ref z25, .int (nI (rnM kd vl n fu z18)), .int (nI z27), .int (nI z28), .int z29, .int (nI ((rX kd vl n fu z18).2.2.2.2.2.1)), .int (nI z31), .ref z32, .ref z33, .ref z34, .ref z35, .ref z36, .int (bI z37), .int (nI z38), .int (nI z39), .int (nI z40), .int (nI z41), .int (nI z42), .int (nI z43), .int (nI z44), .int (nI z45), .int (nI z46), .ref z47, .ref z48, .ref z49, .ref z50, .ref z51, .ref z52, .int z53, .ref z54])) :: (z22, .inl (g.2.1 0, 5000, .inl (nA sp))) :: (z4, .inr (9, [.int (nI n), .int (nI mm), .ref pk, .ref pv, .ref pl, .ref pa, .ref pt, .ref pm, .ref pi])) :: (pk, .inl (g.2.1 0, 100, .inl (nA kdm))) :: R) s.heap := hW
  have hn9 := hP.1
  have hr9 := (rn_ok (fu := fu) (inp := z18) hP).1
  refine lv_iload_n F.1 F.2.1 dX14_costOf_0 rfl (lv_at hl 1 rfl) ?_
  refine lv_iconst (v := nI 4) F.1 F.2.1 dX14_costOf_1 rfl ?_
  refine gNe (tgt := 10) F (by decide) (by decide) dX14_costOf_2 (by decide) (fun c_2 => ?_) (fun c_2 => by exfalso; omega)
  refine lv_iconst (v := nI 0) F.1 F.2.1 dX14_costOf_10 rfl ?_
  refine lv_istore_n (lv' := [(2, .int (nI 0)), (0, .ref o), (1, .int (nI 0))]) F.1 F.2.1 dX14_costOf_11 rfl hl (by decide) rfl (fun ls hl => ?_)
  refine lv_iconst (v := nI 0) F.1 F.2.1 dX14_costOf_12 rfl ?_
  refine lv_istore_n (lv' := [(3, .int (nI 0)), (2, .int (nI 0)), (0, .ref o), (1, .int (nI 0))]) F.1 F.2.1 dX14_costOf_13 rfl hl (by decide) rfl (fun ls hl => ?_)
  refine lv_iload_n F.1 F.2.1 dX14_costOf_14 rfl (lv_at hl 3 rfl) ?_
  refine lv_iconst (v := nI 2) F.1 F.2.1 dX14_costOf_15 rfl ?_
  refine gNe (tgt := 25) F (by decide) (by decide) dX14_costOf_16 (by decide) (fun c_16 => ?_) (fun c_16 => by exfalso; omega)
  refine lv_iconst (v := nI 0) F.1 F.2.1 dX14_costOf_25 rfl ?_
  refine lv_istore (lv' := [(4, .int (nI 0)), (3, .int (nI 0)), (2, .int (nI 0)), (0, .ref o), (1, .int (nI 0))]) F.1 F.2.1 dX14_costOf_26 hl (by decide) rfl (fun ls hl => ?_)
  have L_28 : ∀ (fz : Nat), ∀ (i : Nat) (sm : Nat) (hi : i ≤ rnM kd vl n fu z18) (hs : sm = spT kd (pT kd vl (x0 z18)) (lT kd vl (x0 z18)) (fun (_ : Unit) _ _ => 6) (fun _ _ _ _ => ()) () i) (hm_28 : rnM kd vl n fu z18 - i < fz) (H : Heap) (locs : List Loc) (ls : Array Slot) (hW : gW g ((o, .inr (11, [.int (nI z0), .int (nI z1), .int z2, .int (nI z3), .ref z4, .ref z5, .int (bI z6), .ref z7, .ref z8, .int (nI z9), .int (nI z10), .int (nI z11), .int (nI z12), .int (nI z13), .int (nI z14), .int (nI z15), .long (lN z16), .ref z17, .int z18, .int (nI z19), .ref z20, .ref z21, .ref z22, .ref z23, .ref z24, .ref z25, .int (nI (rnM kd vl n fu z18)), .int (nI z27), .int (nI z28), .int z29, .int (nI ((rX kd vl n fu z18).2.2.2.2.2.1)), .int (nI z31), .ref z32, .ref z33, .ref z34, .ref z35, .ref z36, .int (bI z37), .int (nI z38), .int (nI z39), .int (nI z40), .int (nI z41), .int (nI z42), .int (nI z43), .int (nI z44), .int (nI z45), .int (nI z46), .ref z47, .ref z48, .ref z49, .ref z50, .ref z51, .ref z52, .int z53, .ref z54])) :: (z22, .inl (g.2.1 0, 5000, .inl (nA sp))) :: (z4, .inr (9, [.int (nI n), .int (nI mm), .ref pk, .ref pv, .ref pl, .ref pa, .ref pt, .ref pm, .ref pi])) :: (pk, .inl (g.2.1 0, 100, .inl (nA kdm))) :: R) H) (hS : va_S (gA g) s.heap H locs) (hl : lv_has ls 8 [(0, .ref o), (1, .int (nI 0)), (2, .int (nI sm)), (4, .int (nI i))]), W p l e (headSpec wsX14_costOf rm_X14_costOf_0).room s m ([.ref o, .int (nI 0)] : List Value).toArray below meth c H locs 0 0 (MQ below (va_Qi (fun r u => (nI (cst 0 kd vl mk n fu z18 Pj)) = r ∧ (o, .inr (11, [.int (nI z0), .int (nI z1), .int z2, .int (nI z3), .ref z4, .ref z5, .int (bI z6), .ref z7, .ref z8, .int (nI z9), .int (nI z10), .int (nI z11), .int (nI z12), .int (nI z13), .int (nI z14), .int (nI z15), .long (lN z16), .ref z17, .int z18, .int (nI z19), .ref z20, .ref z21, .ref z22, .ref z23, .ref z24, .ref z25, .int (nI (rnM kd vl n fu z18)), .int (nI z27), .int (nI z28), .int z29, .int (nI ((rX kd vl n fu z18).2.2.2.2.2.1)), .int (nI z31), .ref z32, .ref z33, .ref z34, .ref z35, .ref z36, .int (bI z37), .int (nI z38), .int (nI z39), .int (nI z40), .int (nI z41), .int (nI z42), .int (nI z43), .int (nI z44), .int (nI z45), .int (nI z46), .ref z47, .ref z48, .ref z49, .ref z50, .ref z51, .ref z52, .int z53, .ref z54])) :: (z22, .inl (g.2.1 0, 5000, .inl (nA sp))) :: (z4, .inr (9, [.int (nI n), .int (nI mm), .ref pk, .ref pv, .ref pl, .ref pa, .ref pt, .ref pm, .ref pi])) :: (pk, .inl (g.2.1 0, 100, .inl (nA kdm))) :: R = u) (fun u t => gW g u t.heap) (gA g)) ([.ref o, .int (nI 0)] : List Value).toArray s 0 0 (gA g)) (F0 m 28 ls []) := by
    intro fz
    induction fz with
    | zero =>
      intros _ _ _ _ hm_28
      exact absurd hm_28 (Nat.not_lt_zero _)
    | succ fz ih_28 =>
      intro i sm hi hs hm_28 H locs ls hW hS hl
      refine lv_iload F.1 F.2.1 dX14_costOf_28 (lv_at hl 3 rfl) ?_
      refine lv_aload_n F.1 F.2.1 dX14_costOf_30 rfl (lv_at hl 0 rfl) ?_
      refine gGet F hG hW nX14_costOf_X14 0 rfl rfl 26 (by decide) mX14_costOf_1 rfl dX14_costOf_31 ?_
      refine gGe (tgt := 211) F (by omega) (by omega) dX14_costOf_34 (by decide) (fun c_34 => ?_) (fun c_34 => ?_)
      · refine lv_iload_n F.1 F.2.1 dX14_costOf_211 rfl (lv_at hl 2 rfl) ?_
        refine gRi F hW hS dX14_costOf_212 ?_
        exact ⟨by rw [hs, show i = rnM kd vl n fu z18 by omega]; rfl, rfl⟩
      · have hp9 := (rn_ok (fu := fu) (inp := z18) hP).2.2.2 i (by omega)
        have hk15 := hP.2.1 _ hp9
        refine lv_aload_n F.1 F.2.1 dX14_costOf_37 rfl (lv_at hl 0 rfl) ?_
        refine gGet F hG hW nX14_costOf_X14 0 rfl rfl 4 (by decide) mX14_costOf_2 rfl dX14_costOf_38 ?_
        refine gGetN F hG hW nX14_costOf_X12 2 rfl rfl 2 (by decide) fX14_costOf_201 rfl dX14_costOf_41 ?_
        refine lv_aload_n F.1 F.2.1 dX14_costOf_44 rfl (lv_at hl 0 rfl) ?_
        refine gGet F hG hW nX14_costOf_X14 0 rfl rfl 22 (by decide) mX14_costOf_3 rfl dX14_costOf_45 ?_
        refine lv_iload F.1 F.2.1 dX14_costOf_48 (lv_at hl 3 rfl) ?_
        refine gLdI F hG hW 1 rfl (by omega) (by decide) dX14_costOf_50 ?_
        refine gTop (y := nI (sp i)) rfl ?_
        refine gTop (y := nI ((pT kd vl (x0 z18)) i)) (congrArg nI (hsp i (by omega))) ?_
        refine gLdI F hG hW 3 rfl (by omega) (by decide) dX14_costOf_51 ?_
        refine gTop (y := nI (kdm ((pT kd vl (x0 z18)) i))) rfl ?_
        refine gTop (y := nI (kd ((pT kd vl (x0 z18)) i))) (congrArg nI (hak ((pT kd vl (x0 z18)) i) hp9)) ?_
        refine lv_istore (lv' := [(5, .int (nI (kd ((pT kd vl (x0 z18)) i)))), (0, .ref o), (1, .int (nI 0)), (2, .int (nI sm)), (4, .int (nI i))]) F.1 F.2.1 dX14_costOf_52 hl (by decide) rfl (fun ls hl => ?_)
        refine lv_iload_n F.1 F.2.1 dX14_costOf_54 rfl (lv_at hl 3 rfl) ?_
        refine lv_iload F.1 F.2.1 dX14_costOf_55 (lv_at hl 0 rfl) ?_
        refine gS_i (n := 1) (As := [.int (nI (kd ((pT kd vl (x0 z18)) i)))]) F hG hS hW (c_X14_base g l  hk15) rfl gX14_costOf_X14_base (by decide +kernel) ⟨rfl, rfl, Nat.le_of_ble_eq_true rfl, Nat.le_of_ble_eq_true rfl⟩ hl.1 (Nat.le_of_ble_eq_true rfl) ⟨Nat.le_of_ble_eq_true rfl, Nat.le_of_ble_eq_true rfl⟩ rfl rfl dX14_costOf_57 (fun r u H locs hq hW hS => ?_)
        obtain ⟨rfl, rfl⟩ := hq
        have hW : gW g ((o, .inr (11, [.int (nI z0), .int (nI z1), .int z2, .int (nI z3), .ref z4, .ref z5, .int (bI z6), .ref z7, .ref z8, .int (nI z9), .int (nI z10), .int (nI z11), .int (nI z12), .int (nI z13), .int (nI z14), .int (nI z15), .long (lN z16), .ref z17, .int z18, .int (nI z19), .ref z20, .ref z21, .ref z22, .ref z23, .ref z24, .ref z25, .int (nI (rnM kd vl n fu z18)), .int (nI z27), .int (nI z28), .int z29, .int (nI ((rX kd vl n fu z18).2.2.2.2.2.1)), .int (nI z31), .ref z32, .ref z33, .ref z34, .ref z35, .ref z36, .int (bI z37), .int (nI z38), .int (nI z39), .int (nI z40), .int (nI z41), .int (nI z42), .int (nI z43), .int (nI z44), .int (nI z45), .int (nI z46), .ref z47, .ref z48, .ref z49, .ref z50, .ref z51, .ref z52, .int z53, .ref z54])) :: (z22, .inl (g.2.1 0, 5000, .inl (nA sp))) :: (z4, .inr (9, [.int (nI n), .int (nI mm), .ref pk, .ref pv, .ref pl, .ref pa, .ref pt, .ref pm, .ref pi])) :: (pk, .inl (g.2.1 0, 100, .inl (nA kdm))) :: R) _ := hW
        refine lv_iload_n F.1 F.2.1 dX14_costOf_60 rfl (lv_at hl 2 rfl) ?_
        refine gIfNe (tgt := 69) F (by decide) dX14_costOf_61 (by decide) (fun c_61 => by exfalso; omega) (fun c_61 => ?_)
        refine lv_bipush (v := nI 6) F.1 F.2.1 dX14_costOf_64 (by decide) ?_
        refine lv_goto (tgt := 94) F.1 F.2.1 dX14_costOf_66 (by decide) ?_
        refine gAdd F dX14_costOf_94 ?_
        refine gAdd F dX14_costOf_95 ?_
        refine lv_istore_n (lv' := [(2, .int (nI (sm + ((kW (kd ((pT kd vl (x0 z18)) i)) + kT (kd ((pT kd vl (x0 z18)) i)) + kP (kd ((pT kd vl (x0 z18)) i))) + 6)))), (5, .int (nI (kd ((pT kd vl (x0 z18)) i)))), (0, .ref o), (1, .int (nI 0)), (4, .int (nI i))]) F.1 F.2.1 dX14_costOf_96 rfl hl (by decide) rfl (fun ls hl => ?_)
        refine lv_iload_n F.1 F.2.1 dX14_costOf_97 rfl (lv_at hl 3 rfl) ?_
        refine lv_iconst (v := nI 3) F.1 F.2.1 dX14_costOf_98 rfl ?_
        refine gEq (tgt := 105) F (by decide) (by decide) dX14_costOf_99 (by decide) (fun c_99 => by exfalso; omega) (fun c_99 => ?_)
        refine lv_goto (tgt := 205) F.1 F.2.1 dX14_costOf_102 (by decide) ?_
        refine lv_iinc (v := nI (i + 1)) (lv' := [(4, .int (nI (i + 1))), (2, .int (nI (sm + ((kW (kd ((pT kd vl (x0 z18)) i)) + kT (kd ((pT kd vl (x0 z18)) i)) + kP (kd ((pT kd vl (x0 z18)) i))) + 6)))), (5, .int (nI (kd ((pT kd vl (x0 z18)) i)))), (0, .ref o), (1, .int (nI 0))]) F.1 F.2.1 dX14_costOf_205 hl (k := 4) rfl (nI_add i 1) (by decide) rfl (fun ls hl => ?_)
        refine lv_goto (tgt := 28) F.1 F.2.1 dX14_costOf_208 (by decide) ?_
        exact ih_28 (i + 1) (sm + ((kW (kd ((pT kd vl (x0 z18)) i)) + kT (kd ((pT kd vl (x0 z18)) i)) + kP (kd ((pT kd vl (x0 z18)) i))) + 6)) (by omega) (by rw [spT, ← hs, bW]; omega) (by omega) _ _ _ hW hS (lv_sub hl [3, 4, 1, 0] rfl)
  exact L_28 _ 0 0 (by omega) rfl (Nat.lt_succ_self _) _ _ _ hW hS (lv_sub hl [3, 4, 2, 0] rfl)

abbrev rm_X14_costOf_1 : Room := ({ frames := 2, cells := 0, slots := 0, locals := 40 } : Room)
set_option maxRecDepth 100000 in
set_option maxHeartbeats 4000000 in
theorem c_X14_costOf_1 (g : gC) (l : Launch) {o : Nat} {pk : Nat} {pv : Nat} {pl : Nat} {pa : Nat} {pt : Nat} {pm : Nat} {pi : Nat} {z0 : Nat} {z1 : Nat} {z2 : Int32} {z3 : Nat} {z4 : Nat} {z5 : Nat} {z6 : Bool} {z7 : Nat} {z8 : Nat} {z9 : Nat} {z10 : Nat} {z11 : Nat} {z12 : Nat} {z13 : Nat} {z14 : Nat} {z15 : Nat} {z16 : Nat} {z17 : Nat} {z18 : Int32} {z19 : Nat} {z20 : Nat} {z21 : Nat} {z22 : Nat} {z23 : Nat} {z24 : Nat} {z25 : Nat} {z27 : Nat} {z28 : Nat} {z29 : Int32} {z31 : Nat} {z32 : Nat} {z33 : Nat} {z34 : Nat} {z35 : Nat} {z36 : Nat} {z37 : Bool} {z38 : Nat} {z39 : Nat} {z40 : Nat} {z41 : Nat} {z42 : Nat} {z43 : Nat} {z44 : Nat} {z45 : Nat} {z46 : Nat} {z47 : Nat} {z48 : Nat} {z49 : Nat} {z50 : Nat} {z51 : Nat} {z52 : Nat} {z53 : Int32} {z54 : Nat} {n : Nat} {mm : Nat} {kdm : Nat → Nat} {kd : Nat → Nat} {vl : Nat → Nat} {mk : Nat → Bool} {Pj : Nat → Bool} {sp : Nat → Nat} {fu : Nat} {R : va_W} (hP : pOk n kd vl) (hak : ∀ j, j < n → kdm j = kd j) (hsp : ∀ j, j < rnM kd vl n fu z18 → sp j = pT kd vl (x0 z18) j) (hf : fu ≤ 5000) : cI g l yX14_costOf wsX14_costOf rm_X14_costOf_1 0 0 [.ref o, .int (nI 1)] ((o, .inr (11, [.int (nI z0), .int (nI z1), .int z2, .int (nI z3), .ref z4, .ref z5, .int (bI z6), .ref z7, .ref z8, .int (nI z9), .int (nI z10), .int (nI z11), .int (nI z12), .int (nI z13), .int (nI z14), .int (nI z15), .long (lN z16), .ref z17, .int z18, .int (nI z19), .ref z20, .ref z21, .ref z22, .ref z23, .ref z24, .ref z25, .int (nI (rnM kd vl n fu z18)), .int (nI z27), .int (nI z28), .int z29, .int (nI ((rX kd vl n fu z18).2.2.2.2.2.1)), .int (nI z31), .ref z32, .ref z33, .ref z34, .ref z35, .ref z36, .int (bI z37), .int (nI z38), .int (nI z39), .int (nI z40), .int (nI z41), .int (nI z42), .int (nI z43), .int (nI z44), .int (nI z45), .int (nI z46), .ref z47, .ref z48, .ref z49, .ref z50, .ref z51, .ref z52, .int z53, .ref z54])) :: (z22, .inl (g.2.1 0, 5000, .inl (nA sp))) :: (z4, .inr (9, [.int (nI n), .int (nI mm), .ref pk, .ref pv, .ref pl, .ref pa, .ref pt, .ref pm, .ref pi])) :: (pk, .inl (g.2.1 0, 100, .inl (nA kdm))) :: R) (fun r u => (nI (cst 1 kd vl mk n fu z18 Pj)) = r ∧ (o, .inr (11, [.int (nI z0), .int (nI z1), .int z2, .int (nI z3), .ref z4, .ref z5, .int (bI z6), .ref z7, .ref z8, .int (nI z9), .int (nI z10), .int (nI z11), .int (nI z12), .int (nI z13), .int (nI z14), .int (nI z15), .long (lN z16), .ref z17, .int z18, .int (nI z19), .ref z20, .ref z21, .ref z22, .ref z23, .ref z24, .ref z25, .int (nI (rnM kd vl n fu z18)), .int (nI z27), .int (nI z28), .int z29, .int (nI ((rX kd vl n fu z18).2.2.2.2.2.1)), .int (nI z31), .ref z32, .ref z33, .ref z34, .ref z35, .ref z36, .int (bI z37), .int (nI z38), .int (nI z39), .int (nI z40), .int (nI z41), .int (nI z42), .int (nI z43), .int (nI z44), .int (nI z45), .int (nI z46), .ref z47, .ref z48, .ref z49, .ref z50, .ref z51, .ref z52, .int z53, .ref z54])) :: (z22, .inl (g.2.1 0, 5000, .inl (nA sp))) :: (z4, .inr (9, [.int (nI n), .int (nI mm), .ref pk, .ref pv, .ref pl, .ref pa, .ref pt, .ref pm, .ref pi])) :: (pk, .inl (g.2.1 0, 100, .inl (nA kdm))) :: R = u) := by
  refine gEnterQ (cc := cX14_costOf) (maxL := 8) (ret := (some (.int))) (by decide +kernel) rfl (Nat.le_of_ble_eq_true rfl) ?_
  intro p e s m below meth c F hG hW ls hl
  have hS : va_S (gA g) s.heap s.heap [] := va_S.rf
  have hl : lv_has ls 8 [(0, .ref o), (1, .int (nI 1))] := hl
  have hW : gW g ((o, .inr (11, [.int (nI z0), .int (nI z1), .int z2, .int (nI z3), .ref z4, .ref z5, .int (bI z6), .ref z7, .ref z8, .int (nI z9), .int (nI z10), .int (nI z11), .int (nI z12), .int (nI z13), .int (nI z14), .int (nI z15), .long (lN z16), .ref z17, .int z18, .int (nI z19), .ref z20, .ref z21, .ref z22, .ref z23, .ref z24, .ref z25, .int (nI (rnM kd vl n fu z18)), .int (nI z27), .int (nI z28), .int z29, .int (nI ((rX kd vl n fu z18).2.2.2.2.2.1)), .int (nI z31), .ref z32, .ref z33, .ref z34, .ref z35, .ref z36, .int (bI z37), .int (nI z38), .int (nI z39), .int (nI z40), .int (nI z41), .int (nI z42), .int (nI z43), .int (nI z44), .int (nI z45), .int (nI z46), .ref z47, .ref z48, .ref z49, .ref z50, .ref z51, .ref z52, .int z53, .ref z54])) :: (z22, .inl (g.2.1 0, 5000, .inl (nA sp))) :: (z4, .inr (9, [.int (nI n), .int (nI mm), .ref pk, .ref pv, .ref pl, .ref pa, .ref pt, .ref pm, .ref pi])) :: (pk, .inl (g.2.1 0, 100, .inl (nA kdm))) :: R) s.heap := hW
  have hn9 := hP.1
  have hr9 := (rn_ok (fu := fu) (inp := z18) hP).1
  refine lv_iload_n F.1 F.2.1 dX14_costOf_0 rfl (lv_at hl 1 rfl) ?_
  refine lv_iconst (v := nI 4) F.1 F.2.1 dX14_costOf_1 rfl ?_
  refine gNe (tgt := 10) F (by decide) (by decide) dX14_costOf_2 (by decide) (fun c_2 => ?_) (fun c_2 => by exfalso; omega)
  refine lv_iconst (v := nI 0) F.1 F.2.1 dX14_costOf_10 rfl ?_
  refine lv_istore_n (lv' := [(2, .int (nI 0)), (0, .ref o), (1, .int (nI 1))]) F.1 F.2.1 dX14_costOf_11 rfl hl (by decide) rfl (fun ls hl => ?_)
  refine lv_iconst (v := nI 0) F.1 F.2.1 dX14_costOf_12 rfl ?_
  refine lv_istore_n (lv' := [(3, .int (nI 0)), (2, .int (nI 0)), (0, .ref o), (1, .int (nI 1))]) F.1 F.2.1 dX14_costOf_13 rfl hl (by decide) rfl (fun ls hl => ?_)
  refine lv_iload_n F.1 F.2.1 dX14_costOf_14 rfl (lv_at hl 3 rfl) ?_
  refine lv_iconst (v := nI 2) F.1 F.2.1 dX14_costOf_15 rfl ?_
  refine gNe (tgt := 25) F (by decide) (by decide) dX14_costOf_16 (by decide) (fun c_16 => ?_) (fun c_16 => by exfalso; omega)
  refine lv_iconst (v := nI 0) F.1 F.2.1 dX14_costOf_25 rfl ?_
  refine lv_istore (lv' := [(4, .int (nI 0)), (3, .int (nI 0)), (2, .int (nI 0)), (0, .ref o), (1, .int (nI 1))]) F.1 F.2.1 dX14_costOf_26 hl (by decide) rfl (fun ls hl => ?_)
  have L_28 : ∀ (fz : Nat), ∀ (i : Nat) (sm : Nat) (hi : i ≤ rnM kd vl n fu z18) (hs : sm = spT kd (pT kd vl (x0 z18)) (lT kd vl (x0 z18)) (fun (_ : Unit) _ _ => 4) (fun _ _ _ _ => ()) () i) (hm_28 : rnM kd vl n fu z18 - i < fz) (H : Heap) (locs : List Loc) (ls : Array Slot) (hW : gW g ((o, .inr (11, [.int (nI z0), .int (nI z1), .int z2, .int (nI z3), .ref z4, .ref z5, .int (bI z6), .ref z7, .ref z8, .int (nI z9), .int (nI z10), .int (nI z11), .int (nI z12), .int (nI z13), .int (nI z14), .int (nI z15), .long (lN z16), .ref z17, .int z18, .int (nI z19), .ref z20, .ref z21, .ref z22, .ref z23, .ref z24, .ref z25, .int (nI (rnM kd vl n fu z18)), .int (nI z27), .int (nI z28), .int z29, .int (nI ((rX kd vl n fu z18).2.2.2.2.2.1)), .int (nI z31), .ref z32, .ref z33, .ref z34, .ref z35, .ref z36, .int (bI z37), .int (nI z38), .int (nI z39), .int (nI z40), .int (nI z41), .int (nI z42), .int (nI z43), .int (nI z44), .int (nI z45), .int (nI z46), .ref z47, .ref z48, .ref z49, .ref z50, .ref z51, .ref z52, .int z53, .ref z54])) :: (z22, .inl (g.2.1 0, 5000, .inl (nA sp))) :: (z4, .inr (9, [.int (nI n), .int (nI mm), .ref pk, .ref pv, .ref pl, .ref pa, .ref pt, .ref pm, .ref pi])) :: (pk, .inl (g.2.1 0, 100, .inl (nA kdm))) :: R) H) (hS : va_S (gA g) s.heap H locs) (hl : lv_has ls 8 [(0, .ref o), (1, .int (nI 1)), (2, .int (nI sm)), (4, .int (nI i))]), W p l e (headSpec wsX14_costOf rm_X14_costOf_1).room s m ([.ref o, .int (nI 1)] : List Value).toArray below meth c H locs 0 0 (MQ below (va_Qi (fun r u => (nI (cst 1 kd vl mk n fu z18 Pj)) = r ∧ (o, .inr (11, [.int (nI z0), .int (nI z1), .int z2, .int (nI z3), .ref z4, .ref z5, .int (bI z6), .ref z7, .ref z8, .int (nI z9), .int (nI z10), .int (nI z11), .int (nI z12), .int (nI z13), .int (nI z14), .int (nI z15), .long (lN z16), .ref z17, .int z18, .int (nI z19), .ref z20, .ref z21, .ref z22, .ref z23, .ref z24, .ref z25, .int (nI (rnM kd vl n fu z18)), .int (nI z27), .int (nI z28), .int z29, .int (nI ((rX kd vl n fu z18).2.2.2.2.2.1)), .int (nI z31), .ref z32, .ref z33, .ref z34, .ref z35, .ref z36, .int (bI z37), .int (nI z38), .int (nI z39), .int (nI z40), .int (nI z41), .int (nI z42), .int (nI z43), .int (nI z44), .int (nI z45), .int (nI z46), .ref z47, .ref z48, .ref z49, .ref z50, .ref z51, .ref z52, .int z53, .ref z54])) :: (z22, .inl (g.2.1 0, 5000, .inl (nA sp))) :: (z4, .inr (9, [.int (nI n), .int (nI mm), .ref pk, .ref pv, .ref pl, .ref pa, .ref pt, .ref pm, .ref pi])) :: (pk, .inl (g.2.1 0, 100, .inl (nA kdm))) :: R = u) (fun u t => gW g u t.heap) (gA g)) ([.ref o, .int (nI 1)] : List Value).toArray s 0 0 (gA g)) (F0 m 28 ls []) := by
    intro fz
    induction fz with
    | zero =>
      intros _ _ _ _ hm_28
      exact absurd hm_28 (Nat.not_lt_zero _)
    | succ fz ih_28 =>
      intro i sm hi hs hm_28 H locs ls hW hS hl
      refine lv_iload F.1 F.2.1 dX14_costOf_28 (lv_at hl 3 rfl) ?_
      refine lv_aload_n F.1 F.2.1 dX14_costOf_30 rfl (lv_at hl 0 rfl) ?_
      refine gGet F hG hW nX14_costOf_X14 0 rfl rfl 26 (by decide) mX14_costOf_1 rfl dX14_costOf_31 ?_
      refine gGe (tgt := 211) F (by omega) (by omega) dX14_costOf_34 (by decide) (fun c_34 => ?_) (fun c_34 => ?_)
      · refine lv_iload_n F.1 F.2.1 dX14_costOf_211 rfl (lv_at hl 2 rfl) ?_
        refine gRi F hW hS dX14_costOf_212 ?_
        exact ⟨by rw [hs, show i = rnM kd vl n fu z18 by omega]; rfl, rfl⟩
      · have hp9 := (rn_ok (fu := fu) (inp := z18) hP).2.2.2 i (by omega)
        have hk15 := hP.2.1 _ hp9
        refine lv_aload_n F.1 F.2.1 dX14_costOf_37 rfl (lv_at hl 0 rfl) ?_
        refine gGet F hG hW nX14_costOf_X14 0 rfl rfl 4 (by decide) mX14_costOf_2 rfl dX14_costOf_38 ?_
        refine gGetN F hG hW nX14_costOf_X12 2 rfl rfl 2 (by decide) fX14_costOf_201 rfl dX14_costOf_41 ?_
        refine lv_aload_n F.1 F.2.1 dX14_costOf_44 rfl (lv_at hl 0 rfl) ?_
        refine gGet F hG hW nX14_costOf_X14 0 rfl rfl 22 (by decide) mX14_costOf_3 rfl dX14_costOf_45 ?_
        refine lv_iload F.1 F.2.1 dX14_costOf_48 (lv_at hl 3 rfl) ?_
        refine gLdI F hG hW 1 rfl (by omega) (by decide) dX14_costOf_50 ?_
        refine gTop (y := nI (sp i)) rfl ?_
        refine gTop (y := nI ((pT kd vl (x0 z18)) i)) (congrArg nI (hsp i (by omega))) ?_
        refine gLdI F hG hW 3 rfl (by omega) (by decide) dX14_costOf_51 ?_
        refine gTop (y := nI (kdm ((pT kd vl (x0 z18)) i))) rfl ?_
        refine gTop (y := nI (kd ((pT kd vl (x0 z18)) i))) (congrArg nI (hak ((pT kd vl (x0 z18)) i) hp9)) ?_
        refine lv_istore (lv' := [(5, .int (nI (kd ((pT kd vl (x0 z18)) i)))), (0, .ref o), (1, .int (nI 1)), (2, .int (nI sm)), (4, .int (nI i))]) F.1 F.2.1 dX14_costOf_52 hl (by decide) rfl (fun ls hl => ?_)
        refine lv_iload_n F.1 F.2.1 dX14_costOf_54 rfl (lv_at hl 3 rfl) ?_
        refine lv_iload F.1 F.2.1 dX14_costOf_55 (lv_at hl 0 rfl) ?_
        refine gS_i (n := 1) (As := [.int (nI (kd ((pT kd vl (x0 z18)) i)))]) F hG hS hW (c_X14_base g l  hk15) rfl gX14_costOf_X14_base (by decide +kernel) ⟨rfl, rfl, Nat.le_of_ble_eq_true rfl, Nat.le_of_ble_eq_true rfl⟩ hl.1 (Nat.le_of_ble_eq_true rfl) ⟨Nat.le_of_ble_eq_true rfl, Nat.le_of_ble_eq_true rfl⟩ rfl rfl dX14_costOf_57 (fun r u H locs hq hW hS => ?_)
        obtain ⟨rfl, rfl⟩ := hq
        have hW : gW g ((o, .inr (11, [.int (nI z0), .int (nI z1), .int z2, .int (nI z3), .ref z4, .ref z5, .int (bI z6), .ref z7, .ref z8, .int (nI z9), .int (nI z10), .int (nI z11), .int (nI z12), .int (nI z13), .int (nI z14), .int (nI z15), .long (lN z16), .ref z17, .int z18, .int (nI z19), .ref z20, .ref z21, .ref z22, .ref z23, .ref z24, .ref z25, .int (nI (rnM kd vl n fu z18)), .int (nI z27), .int (nI z28), .int z29, .int (nI ((rX kd vl n fu z18).2.2.2.2.2.1)), .int (nI z31), .ref z32, .ref z33, .ref z34, .ref z35, .ref z36, .int (bI z37), .int (nI z38), .int (nI z39), .int (nI z40), .int (nI z41), .int (nI z42), .int (nI z43), .int (nI z44), .int (nI z45), .int (nI z46), .ref z47, .ref z48, .ref z49, .ref z50, .ref z51, .ref z52, .int z53, .ref z54])) :: (z22, .inl (g.2.1 0, 5000, .inl (nA sp))) :: (z4, .inr (9, [.int (nI n), .int (nI mm), .ref pk, .ref pv, .ref pl, .ref pa, .ref pt, .ref pm, .ref pi])) :: (pk, .inl (g.2.1 0, 100, .inl (nA kdm))) :: R) _ := hW
        refine lv_iload_n F.1 F.2.1 dX14_costOf_60 rfl (lv_at hl 2 rfl) ?_
        refine gIfNe (tgt := 69) F (by decide) dX14_costOf_61 (by decide) (fun c_61 => ?_) (fun c_61 => by exfalso; omega)
        refine lv_iload_n F.1 F.2.1 dX14_costOf_69 rfl (lv_at hl 2 rfl) ?_
        refine lv_iconst (v := nI 2) F.1 F.2.1 dX14_costOf_70 rfl ?_
        refine gNe (tgt := 93) F (by decide) (by decide) dX14_costOf_71 (by decide) (fun c_71 => ?_) (fun c_71 => by exfalso; omega)
        refine lv_iconst (v := nI 4) F.1 F.2.1 dX14_costOf_93 rfl ?_
        refine gAdd F dX14_costOf_94 ?_
        refine gAdd F dX14_costOf_95 ?_
        refine lv_istore_n (lv' := [(2, .int (nI (sm + ((kW (kd ((pT kd vl (x0 z18)) i)) + kT (kd ((pT kd vl (x0 z18)) i)) + kP (kd ((pT kd vl (x0 z18)) i))) + 4)))), (5, .int (nI (kd ((pT kd vl (x0 z18)) i)))), (0, .ref o), (1, .int (nI 1)), (4, .int (nI i))]) F.1 F.2.1 dX14_costOf_96 rfl hl (by decide) rfl (fun ls hl => ?_)
        refine lv_iload_n F.1 F.2.1 dX14_costOf_97 rfl (lv_at hl 3 rfl) ?_
        refine lv_iconst (v := nI 3) F.1 F.2.1 dX14_costOf_98 rfl ?_
        refine gEq (tgt := 105) F (by decide) (by decide) dX14_costOf_99 (by decide) (fun c_99 => by exfalso; omega) (fun c_99 => ?_)
        refine lv_goto (tgt := 205) F.1 F.2.1 dX14_costOf_102 (by decide) ?_
        refine lv_iinc (v := nI (i + 1)) (lv' := [(4, .int (nI (i + 1))), (2, .int (nI (sm + ((kW (kd ((pT kd vl (x0 z18)) i)) + kT (kd ((pT kd vl (x0 z18)) i)) + kP (kd ((pT kd vl (x0 z18)) i))) + 4)))), (5, .int (nI (kd ((pT kd vl (x0 z18)) i)))), (0, .ref o), (1, .int (nI 1))]) F.1 F.2.1 dX14_costOf_205 hl (k := 4) rfl (nI_add i 1) (by decide) rfl (fun ls hl => ?_)
        refine lv_goto (tgt := 28) F.1 F.2.1 dX14_costOf_208 (by decide) ?_
        exact ih_28 (i + 1) (sm + ((kW (kd ((pT kd vl (x0 z18)) i)) + kT (kd ((pT kd vl (x0 z18)) i)) + kP (kd ((pT kd vl (x0 z18)) i))) + 4)) (by omega) (by rw [spT, ← hs, bW]; omega) (by omega) _ _ _ hW hS (lv_sub hl [3, 4, 1, 0] rfl)
  exact L_28 _ 0 0 (by omega) rfl (Nat.lt_succ_self _) _ _ _ hW hS (lv_sub hl [3, 4, 2, 0] rfl)

abbrev rm_X14_costOf_2 : Room := ({ frames := 2, cells := 0, slots := 0, locals := 40 } : Room)
theorem mX14_costOf_4 : Cond.fieldLink RX14 74 "StepperHeartsModel" "isSecond" "[Z" ∈ wsX14_costOf := List.mem_of_getElem? (i := 4) rfl
set_option maxRecDepth 100000 in
set_option maxHeartbeats 4000000 in
theorem c_X14_costOf_2 (g : gC) (l : Launch) {o : Nat} {pk : Nat} {pv : Nat} {pl : Nat} {pa : Nat} {pt : Nat} {pm : Nat} {pi : Nat} {z0 : Nat} {z1 : Nat} {z2 : Int32} {z3 : Nat} {z4 : Nat} {z5 : Nat} {z6 : Bool} {z7 : Nat} {z8 : Nat} {z9 : Nat} {z10 : Nat} {z11 : Nat} {z12 : Nat} {z13 : Nat} {z14 : Nat} {z15 : Nat} {z16 : Nat} {z17 : Nat} {z18 : Int32} {z19 : Nat} {z20 : Nat} {z21 : Nat} {z22 : Nat} {z23 : Nat} {z24 : Nat} {z25 : Nat} {z27 : Nat} {z28 : Nat} {z29 : Int32} {z31 : Nat} {z32 : Nat} {z33 : Nat} {z34 : Nat} {z35 : Nat} {z36 : Nat} {z37 : Bool} {z38 : Nat} {z39 : Nat} {z40 : Nat} {z41 : Nat} {z42 : Nat} {z43 : Nat} {z44 : Nat} {z45 : Nat} {z46 : Nat} {z47 : Nat} {z48 : Nat} {z49 : Nat} {z50 : Nat} {z51 : Nat} {z52 : Nat} {z53 : Int32} {z54 : Nat} {n : Nat} {mm : Nat} {kdm : Nat → Nat} {kd : Nat → Nat} {vl : Nat → Nat} {mkm : Nat → Bool} {mk : Nat → Bool} {Pj : Nat → Bool} {sec : Nat → Bool} {sp : Nat → Nat} {fu : Nat} {R : va_W} (hP : pOk n kd vl) (hak : ∀ j, j < n → kdm j = kd j) (ham : ∀ j, j < n → mkm j = mk j) (hsp : ∀ j, j < rnM kd vl n fu z18 → sp j = pT kd vl (x0 z18) j) (hf : fu ≤ 5000) (hg : gMk n kd vl mk) : cI g l yX14_costOf wsX14_costOf rm_X14_costOf_2 0 0 [.ref o, .int (nI 2)] ((o, .inr (11, [.int (nI z0), .int (nI z1), .int z2, .int (nI z3), .ref z4, .ref z5, .int (bI z6), .ref z7, .ref z8, .int (nI z9), .int (nI z10), .int (nI z11), .int (nI z12), .int (nI z13), .int (nI z14), .int (nI z15), .long (lN z16), .ref z17, .int z18, .int (nI z19), .ref z20, .ref z21, .ref z22, .ref z23, .ref z24, .ref z25, .int (nI (rnM kd vl n fu z18)), .int (nI z27), .int (nI z28), .int z29, .int (nI ((rX kd vl n fu z18).2.2.2.2.2.1)), .int (nI z31), .ref z32, .ref z33, .ref z34, .ref z35, .ref z36, .int (bI z37), .int (nI z38), .int (nI z39), .int (nI z40), .int (nI z41), .int (nI z42), .int (nI z43), .int (nI z44), .int (nI z45), .int (nI z46), .ref z47, .ref z48, .ref z49, .ref z50, .ref z51, .ref z52, .int z53, .ref z54])) :: (z22, .inl (g.2.1 0, 5000, .inl (nA sp))) :: (z21, .inl (g.2.1 1, 101, .inl (bA sec))) :: (z20, .inl (g.2.1 1, 225, .inl (bA Pj))) :: (z4, .inr (9, [.int (nI n), .int (nI mm), .ref pk, .ref pv, .ref pl, .ref pa, .ref pt, .ref pm, .ref pi])) :: (pk, .inl (g.2.1 0, 100, .inl (nA kdm))) :: (pi, .inl (g.2.1 1, 101, .inl (bA mkm))) :: R) (fun r u => ∃ (sec9 : Nat → Bool), (nI (cst 2 kd vl mk n fu z18 Pj)) = r ∧ (o, .inr (11, [.int (nI z0), .int (nI z1), .int z2, .int (nI z3), .ref z4, .ref z5, .int (bI z6), .ref z7, .ref z8, .int (nI z9), .int (nI z10), .int (nI z11), .int (nI z12), .int (nI z13), .int (nI z14), .int (nI z15), .long (lN z16), .ref z17, .int z18, .int (nI z19), .ref z20, .ref z21, .ref z22, .ref z23, .ref z24, .ref z25, .int (nI (rnM kd vl n fu z18)), .int (nI z27), .int (nI z28), .int z29, .int (nI ((rX kd vl n fu z18).2.2.2.2.2.1)), .int (nI z31), .ref z32, .ref z33, .ref z34, .ref z35, .ref z36, .int (bI z37), .int (nI z38), .int (nI z39), .int (nI z40), .int (nI z41), .int (nI z42), .int (nI z43), .int (nI z44), .int (nI z45), .int (nI z46), .ref z47, .ref z48, .ref z49, .ref z50, .ref z51, .ref z52, .int z53, .ref z54])) :: (z22, .inl (g.2.1 0, 5000, .inl (nA sp))) :: (z21, .inl (g.2.1 1, 101, .inl (bA sec9))) :: (z20, .inl (g.2.1 1, 225, .inl (bA Pj))) :: (z4, .inr (9, [.int (nI n), .int (nI mm), .ref pk, .ref pv, .ref pl, .ref pa, .ref pt, .ref pm, .ref pi])) :: (pk, .inl (g.2.1 0, 100, .inl (nA kdm))) :: (pi, .inl (g.2.1 1, 101, .inl (bA mkm))) :: R = u) := by
  refine gEnterQ (cc := cX14_costOf) (maxL := 8) (ret := (some (.int))) (by decide +kernel) rfl (Nat.le_of_ble_eq_true rfl) ?_
  intro p e s m below meth c F hG hW ls hl
  have hS : va_S (gA g) s.heap s.heap [] := va_S.rf
  have hl : lv_has ls 8 [(0, .ref o), (1, .int (nI 2))] := hl
  have hW : gW g ((o, .inr (11, [.int (nI z0), .int (nI z1), .int z2, .int (nI z3), .ref z4, .ref z5, .int (bI z6), .ref z7, .ref z8, .int (nI z9), .int (nI z10), .int (nI z11), .int (nI z12), .int (nI z13), .int (nI z14), .int (nI z15), .long (lN z16), .ref z17, .int z18, .int (nI z19), .ref z20, .ref z21, .ref z22, .ref z23, .ref z24, .ref z25, .int (nI (rnM kd vl n fu z18)), .int (nI z27), .int (nI z28), .int z29, .int (nI ((rX kd vl n fu z18).2.2.2.2.2.1)), .int (nI z31), .ref z32, .ref z33, .ref z34, .ref z35, .ref z36, .int (bI z37), .int (nI z38), .int (nI z39), .int (nI z40), .int (nI z41), .int (nI z42), .int (nI z43), .int (nI z44), .int (nI z45), .int (nI z46), .ref z47, .ref z48, .ref z49, .ref z50, .ref z51, .ref z52, .int z53, .ref z54])) :: (z22, .inl (g.2.1 0, 5000, .inl (nA sp))) :: (z21, .inl (g.2.1 1, 101, .inl (bA sec))) :: (z20, .inl (g.2.1 1, 225, .inl (bA Pj))) :: (z4, .inr (9, [.int (nI n), .int (nI mm), .ref pk, .ref pv, .ref pl, .ref pa, .ref pt, .ref pm, .ref pi])) :: (pk, .inl (g.2.1 0, 100, .inl (nA kdm))) :: (pi, .inl (g.2.1 1, 101, .inl (bA mkm))) :: R) s.heap := hW
  have hn9 := hP.1
  have hr9 := (rn_ok (fu := fu) (inp := z18) hP).1
  refine lv_iload_n F.1 F.2.1 dX14_costOf_0 rfl (lv_at hl 1 rfl) ?_
  refine lv_iconst (v := nI 4) F.1 F.2.1 dX14_costOf_1 rfl ?_
  refine gNe (tgt := 10) F (by decide) (by decide) dX14_costOf_2 (by decide) (fun c_2 => ?_) (fun c_2 => by exfalso; omega)
  refine lv_iconst (v := nI 0) F.1 F.2.1 dX14_costOf_10 rfl ?_
  refine lv_istore_n (lv' := [(2, .int (nI 0)), (0, .ref o), (1, .int (nI 2))]) F.1 F.2.1 dX14_costOf_11 rfl hl (by decide) rfl (fun ls hl => ?_)
  refine lv_iconst (v := nI 0) F.1 F.2.1 dX14_costOf_12 rfl ?_
  refine lv_istore_n (lv' := [(3, .int (nI 0)), (2, .int (nI 0)), (0, .ref o), (1, .int (nI 2))]) F.1 F.2.1 dX14_costOf_13 rfl hl (by decide) rfl (fun ls hl => ?_)
  refine lv_iload_n F.1 F.2.1 dX14_costOf_14 rfl (lv_at hl 3 rfl) ?_
  refine lv_iconst (v := nI 2) F.1 F.2.1 dX14_costOf_15 rfl ?_
  refine gNe (tgt := 25) F (by decide) (by decide) dX14_costOf_16 (by decide) (fun c_16 => by exfalso; omega) (fun c_16 => ?_)
  refine lv_aload_n F.1 F.2.1 dX14_costOf_19 rfl (lv_at hl 2 rfl) ?_
  have hW := gW.re (l := [(o, .inr (11, [.int (nI z0), .int (nI z1), .int z2, .int (nI z3), .ref z4, .ref z5, .int (bI z6), .ref z7, .ref z8, .int (nI z9), .int (nI z10), .int (nI z11), .int (nI z12), .int (nI z13), .int (nI z14), .int (nI z15), .long (lN z16), .ref z17, .int z18, .int (nI z19), .ref z20, .ref z21, .ref z22, .ref z23, .ref z24, .ref z25, .int (nI (rnM kd vl n fu z18)), .int (nI z27), .int (nI z28), .int z29, .int (nI ((rX kd vl n fu z18).2.2.2.2.2.1)), .int (nI z31), .ref z32, .ref z33, .ref z34, .ref z35, .ref z36, .int (bI z37), .int (nI z38), .int (nI z39), .int (nI z40), .int (nI z41), .int (nI z42), .int (nI z43), .int (nI z44), .int (nI z45), .int (nI z46), .ref z47, .ref z48, .ref z49, .ref z50, .ref z51, .ref z52, .int z53, .ref z54])), (z22, .inl (g.2.1 0, 5000, .inl (nA sp))), (z21, .inl (g.2.1 1, 101, .inl (bA sec))), (z20, .inl (g.2.1 1, 225, .inl (bA Pj))), (z4, .inr (9, [.int (nI n), .int (nI mm), .ref pk, .ref pv, .ref pl, .ref pa, .ref pt, .ref pm, .ref pi])), (pk, .inl (g.2.1 0, 100, .inl (nA kdm))), (pi, .inl (g.2.1 1, 101, .inl (bA mkm)))]) (l' := [(o, .inr (11, [.int (nI z0), .int (nI z1), .int z2, .int (nI z3), .ref z4, .ref z5, .int (bI z6), .ref z7, .ref z8, .int (nI z9), .int (nI z10), .int (nI z11), .int (nI z12), .int (nI z13), .int (nI z14), .int (nI z15), .long (lN z16), .ref z17, .int z18, .int (nI z19), .ref z20, .ref z21, .ref z22, .ref z23, .ref z24, .ref z25, .int (nI (rnM kd vl n fu z18)), .int (nI z27), .int (nI z28), .int z29, .int (nI ((rX kd vl n fu z18).2.2.2.2.2.1)), .int (nI z31), .ref z32, .ref z33, .ref z34, .ref z35, .ref z36, .int (bI z37), .int (nI z38), .int (nI z39), .int (nI z40), .int (nI z41), .int (nI z42), .int (nI z43), .int (nI z44), .int (nI z45), .int (nI z46), .ref z47, .ref z48, .ref z49, .ref z50, .ref z51, .ref z52, .int z53, .ref z54])), (z21, .inl (g.2.1 1, 101, .inl (bA sec))), (z20, .inl (g.2.1 1, 225, .inl (bA Pj))), (z4, .inr (9, [.int (nI n), .int (nI mm), .ref pk, .ref pv, .ref pl, .ref pa, .ref pt, .ref pm, .ref pi])), (pk, .inl (g.2.1 0, 100, .inl (nA kdm))), (pi, .inl (g.2.1 1, 101, .inl (bA mkm))), (z22, .inl (g.2.1 0, 5000, .inl (nA sp)))]) (R := R) hW [0, 2, 3, 4, 5, 6, 1] 7 rfl (by decide) rfl
  have hW : gW g ((o, .inr (11, [.int (nI z0), .int (nI z1), .int z2, .int (nI z3), .ref z4, .ref z5, .int (bI z6), .ref z7, .ref z8, .int (nI z9), .int (nI z10), .int (nI z11), .int (nI z12), .int (nI z13), .int (nI z14), .int (nI z15), .long (lN z16), .ref z17, .int z18, .int (nI z19), .ref z20, .ref z21, .ref z22, .ref z23, .ref z24, .ref z25, .int (nI (rnM kd vl n fu z18)), .int (nI z27), .int (nI z28), .int z29, .int (nI ((rX kd vl n fu z18).2.2.2.2.2.1)), .int (nI z31), .ref z32, .ref z33, .ref z34, .ref z35, .ref z36, .int (bI z37), .int (nI z38), .int (nI z39), .int (nI z40), .int (nI z41), .int (nI z42), .int (nI z43), .int (nI z44), .int (nI z45), .int (nI z46), .ref z47, .ref z48, .ref z49, .ref z50, .ref z51, .ref z52, .int z53, .ref z54])) :: (z21, .inl (g.2.1 1, 101, .inl (bA sec))) :: (z20, .inl (g.2.1 1, 225, .inl (bA Pj))) :: (z4, .inr (9, [.int (nI n), .int (nI mm), .ref pk, .ref pv, .ref pl, .ref pa, .ref pt, .ref pm, .ref pi])) :: (pk, .inl (g.2.1 0, 100, .inl (nA kdm))) :: (pi, .inl (g.2.1 1, 101, .inl (bA mkm))) :: (z22, .inl (g.2.1 0, 5000, .inl (nA sp))) :: R) _ := hW
  refine gVi (n := 0) (q := (RX14, TX14, 55)) (q0 := 0) (As := []) F hG hS hW (c_X14_pairs g l  hP.1 hP.2.1 hak ham) rfl gX14_costOf_X14_pairs rfl rfl rfl (by decide +kernel) ⟨rfl, rfl, Nat.le_of_ble_eq_true rfl, Nat.le_of_ble_eq_true rfl⟩ hl.1 (Nat.le_of_ble_eq_true rfl) ⟨Nat.le_of_ble_eq_true rfl, Nat.le_of_ble_eq_true rfl⟩ rfl rfl dX14_costOf_20 (fun r u H locs hq hW hS => ?_)
  obtain ⟨sec9_20, rfl, rfl, p0_20⟩ := hq
  have hW : gW g ((o, .inr (11, [.int (nI z0), .int (nI z1), .int z2, .int (nI z3), .ref z4, .ref z5, .int (bI z6), .ref z7, .ref z8, .int (nI z9), .int (nI z10), .int (nI z11), .int (nI z12), .int (nI z13), .int (nI z14), .int (nI z15), .long (lN z16), .ref z17, .int z18, .int (nI z19), .ref z20, .ref z21, .ref z22, .ref z23, .ref z24, .ref z25, .int (nI (rnM kd vl n fu z18)), .int (nI z27), .int (nI z28), .int z29, .int (nI ((rX kd vl n fu z18).2.2.2.2.2.1)), .int (nI z31), .ref z32, .ref z33, .ref z34, .ref z35, .ref z36, .int (bI z37), .int (nI z38), .int (nI z39), .int (nI z40), .int (nI z41), .int (nI z42), .int (nI z43), .int (nI z44), .int (nI z45), .int (nI z46), .ref z47, .ref z48, .ref z49, .ref z50, .ref z51, .ref z52, .int z53, .ref z54])) :: (z21, .inl (g.2.1 1, 101, .inl (bA sec9_20))) :: (z20, .inl (g.2.1 1, 225, .inl (bA Pj))) :: (z4, .inr (9, [.int (nI n), .int (nI mm), .ref pk, .ref pv, .ref pl, .ref pa, .ref pt, .ref pm, .ref pi])) :: (pk, .inl (g.2.1 0, 100, .inl (nA kdm))) :: (pi, .inl (g.2.1 1, 101, .inl (bA mkm))) :: (z22, .inl (g.2.1 0, 5000, .inl (nA sp))) :: R) _ := hW
  refine lv_istore (lv' := [(4, .int (nI (cntB (secS (canJ n kd mk Pj none)) n))), (3, .int (nI 0)), (2, .int (nI 0)), (0, .ref o), (1, .int (nI 2))]) F.1 F.2.1 dX14_costOf_23 hl (by decide) rfl (fun ls hl => ?_)
  refine lv_iconst (v := nI 0) F.1 F.2.1 dX14_costOf_25 rfl ?_
  refine lv_istore (lv' := [(4, .int (nI 0)), (3, .int (nI 0)), (2, .int (nI 0)), (0, .ref o), (1, .int (nI 2))]) F.1 F.2.1 dX14_costOf_26 hl (by decide) rfl (fun ls hl => ?_)
  have L_28 : ∀ (fz : Nat), ∀ (i : Nat) (sm : Nat) (hi : i ≤ rnM kd vl n fu z18) (hs : sm = spT kd (pT kd vl (x0 z18)) (lT kd vl (x0 z18)) (fun y pl _ => jPr (secJ n kd mk Pj) y.1 pl) (fun y pl _ _ => (some pl, jCo y.2 y.1 pl)) ((none, fun _ => 0) : Option Nat × (Nat → Nat)) i) (hm_28 : rnM kd vl n fu z18 - i < fz) (H : Heap) (locs : List Loc) (ls : Array Slot) (hW : gW g ((o, .inr (11, [.int (nI z0), .int (nI z1), .int z2, .int (nI z3), .ref z4, .ref z5, .int (bI z6), .ref z7, .ref z8, .int (nI z9), .int (nI z10), .int (nI z11), .int (nI z12), .int (nI z13), .int (nI z14), .int (nI z15), .long (lN z16), .ref z17, .int z18, .int (nI z19), .ref z20, .ref z21, .ref z22, .ref z23, .ref z24, .ref z25, .int (nI (rnM kd vl n fu z18)), .int (nI z27), .int (nI z28), .int z29, .int (nI ((rX kd vl n fu z18).2.2.2.2.2.1)), .int (nI z31), .ref z32, .ref z33, .ref z34, .ref z35, .ref z36, .int (bI z37), .int (nI z38), .int (nI z39), .int (nI z40), .int (nI z41), .int (nI z42), .int (nI z43), .int (nI z44), .int (nI z45), .int (nI z46), .ref z47, .ref z48, .ref z49, .ref z50, .ref z51, .ref z52, .int z53, .ref z54])) :: (z21, .inl (g.2.1 1, 101, .inl (bA sec9_20))) :: (z20, .inl (g.2.1 1, 225, .inl (bA Pj))) :: (z4, .inr (9, [.int (nI n), .int (nI mm), .ref pk, .ref pv, .ref pl, .ref pa, .ref pt, .ref pm, .ref pi])) :: (pk, .inl (g.2.1 0, 100, .inl (nA kdm))) :: (pi, .inl (g.2.1 1, 101, .inl (bA mkm))) :: (z22, .inl (g.2.1 0, 5000, .inl (nA sp))) :: R) H) (hS : va_S (gA g) s.heap H locs) (hl : lv_has ls 8 [(0, .ref o), (1, .int (nI 2)), (2, .int (nI sm)), (4, .int (nI i))]), W p l e (headSpec wsX14_costOf rm_X14_costOf_2).room s m ([.ref o, .int (nI 2)] : List Value).toArray below meth c H locs 0 0 (MQ below (va_Qi (fun r u => ∃ (sec9 : Nat → Bool), (nI (cst 2 kd vl mk n fu z18 Pj)) = r ∧ (o, .inr (11, [.int (nI z0), .int (nI z1), .int z2, .int (nI z3), .ref z4, .ref z5, .int (bI z6), .ref z7, .ref z8, .int (nI z9), .int (nI z10), .int (nI z11), .int (nI z12), .int (nI z13), .int (nI z14), .int (nI z15), .long (lN z16), .ref z17, .int z18, .int (nI z19), .ref z20, .ref z21, .ref z22, .ref z23, .ref z24, .ref z25, .int (nI (rnM kd vl n fu z18)), .int (nI z27), .int (nI z28), .int z29, .int (nI ((rX kd vl n fu z18).2.2.2.2.2.1)), .int (nI z31), .ref z32, .ref z33, .ref z34, .ref z35, .ref z36, .int (bI z37), .int (nI z38), .int (nI z39), .int (nI z40), .int (nI z41), .int (nI z42), .int (nI z43), .int (nI z44), .int (nI z45), .int (nI z46), .ref z47, .ref z48, .ref z49, .ref z50, .ref z51, .ref z52, .int z53, .ref z54])) :: (z22, .inl (g.2.1 0, 5000, .inl (nA sp))) :: (z21, .inl (g.2.1 1, 101, .inl (bA sec9))) :: (z20, .inl (g.2.1 1, 225, .inl (bA Pj))) :: (z4, .inr (9, [.int (nI n), .int (nI mm), .ref pk, .ref pv, .ref pl, .ref pa, .ref pt, .ref pm, .ref pi])) :: (pk, .inl (g.2.1 0, 100, .inl (nA kdm))) :: (pi, .inl (g.2.1 1, 101, .inl (bA mkm))) :: R = u) (fun u t => gW g u t.heap) (gA g)) ([.ref o, .int (nI 2)] : List Value).toArray s 0 0 (gA g)) (F0 m 28 ls []) := by
    intro fz
    induction fz with
    | zero =>
      intros _ _ _ _ hm_28
      exact absurd hm_28 (Nat.not_lt_zero _)
    | succ fz ih_28 =>
      intro i sm hi hs hm_28 H locs ls hW hS hl
      refine lv_iload F.1 F.2.1 dX14_costOf_28 (lv_at hl 3 rfl) ?_
      refine lv_aload_n F.1 F.2.1 dX14_costOf_30 rfl (lv_at hl 0 rfl) ?_
      refine gGet F hG hW nX14_costOf_X14 0 rfl rfl 26 (by decide) mX14_costOf_1 rfl dX14_costOf_31 ?_
      refine gGe (tgt := 211) F (by omega) (by omega) dX14_costOf_34 (by decide) (fun c_34 => ?_) (fun c_34 => ?_)
      · refine lv_iload_n F.1 F.2.1 dX14_costOf_211 rfl (lv_at hl 2 rfl) ?_
        have hW := gW.re (l := [(o, .inr (11, [.int (nI z0), .int (nI z1), .int z2, .int (nI z3), .ref z4, .ref z5, .int (bI z6), .ref z7, .ref z8, .int (nI z9), .int (nI z10), .int (nI z11), .int (nI z12), .int (nI z13), .int (nI z14), .int (nI z15), .long (lN z16), .ref z17, .int z18, .int (nI z19), .ref z20, .ref z21, .ref z22, .ref z23, .ref z24, .ref z25, .int (nI (rnM kd vl n fu z18)), .int (nI z27), .int (nI z28), .int z29, .int (nI ((rX kd vl n fu z18).2.2.2.2.2.1)), .int (nI z31), .ref z32, .ref z33, .ref z34, .ref z35, .ref z36, .int (bI z37), .int (nI z38), .int (nI z39), .int (nI z40), .int (nI z41), .int (nI z42), .int (nI z43), .int (nI z44), .int (nI z45), .int (nI z46), .ref z47, .ref z48, .ref z49, .ref z50, .ref z51, .ref z52, .int z53, .ref z54])), (z21, .inl (g.2.1 1, 101, .inl (bA sec9_20))), (z20, .inl (g.2.1 1, 225, .inl (bA Pj))), (z4, .inr (9, [.int (nI n), .int (nI mm), .ref pk, .ref pv, .ref pl, .ref pa, .ref pt, .ref pm, .ref pi])), (pk, .inl (g.2.1 0, 100, .inl (nA kdm))), (pi, .inl (g.2.1 1, 101, .inl (bA mkm))), (z22, .inl (g.2.1 0, 5000, .inl (nA sp)))]) (l' := [(o, .inr (11, [.int (nI z0), .int (nI z1), .int z2, .int (nI z3), .ref z4, .ref z5, .int (bI z6), .ref z7, .ref z8, .int (nI z9), .int (nI z10), .int (nI z11), .int (nI z12), .int (nI z13), .int (nI z14), .int (nI z15), .long (lN z16), .ref z17, .int z18, .int (nI z19), .ref z20, .ref z21, .ref z22, .ref z23, .ref z24, .ref z25, .int (nI (rnM kd vl n fu z18)), .int (nI z27), .int (nI z28), .int z29, .int (nI ((rX kd vl n fu z18).2.2.2.2.2.1)), .int (nI z31), .ref z32, .ref z33, .ref z34, .ref z35, .ref z36, .int (bI z37), .int (nI z38), .int (nI z39), .int (nI z40), .int (nI z41), .int (nI z42), .int (nI z43), .int (nI z44), .int (nI z45), .int (nI z46), .ref z47, .ref z48, .ref z49, .ref z50, .ref z51, .ref z52, .int z53, .ref z54])), (z22, .inl (g.2.1 0, 5000, .inl (nA sp))), (z21, .inl (g.2.1 1, 101, .inl (bA sec9_20))), (z20, .inl (g.2.1 1, 225, .inl (bA Pj))), (z4, .inr (9, [.int (nI n), .int (nI mm), .ref pk, .ref pv, .ref pl, .ref pa, .ref pt, .ref pm, .ref pi])), (pk, .inl (g.2.1 0, 100, .inl (nA kdm))), (pi, .inl (g.2.1 1, 101, .inl (bA mkm)))]) (R := R) hW [0, 6, 1, 2, 3, 4, 5] 7 rfl (by decide) rfl
        have hW : gW g ((o, .inr (11, [.int (nI z0), .int (nI z1), .int z2, .int (nI z3), .ref z4, .ref z5, .int (bI z6), .ref z7, .ref z8, .int (nI z9), .int (nI z10), .int (nI z11), .int (nI z12), .int (nI z13), .int (nI z14), .int (nI z15), .long (lN z16), .ref z17, .int z18, .int (nI z19), .ref z20, .ref z21, .ref z22, .ref z23, .ref z24, .ref z25, .int (nI (rnM kd vl n fu z18)), .int (nI z27), .int (nI z28), .int z29, .int (nI ((rX kd vl n fu z18).2.2.2.2.2.1)), .int (nI z31), .ref z32, .ref z33, .ref z34, .ref z35, .ref z36, .int (bI z37), .int (nI z38), .int (nI z39), .int (nI z40), .int (nI z41), .int (nI z42), .int (nI z43), .int (nI z44), .int (nI z45), .int (nI z46), .ref z47, .ref z48, .ref z49, .ref z50, .ref z51, .ref z52, .int z53, .ref z54])) :: (z22, .inl (g.2.1 0, 5000, .inl (nA sp))) :: (z21, .inl (g.2.1 1, 101, .inl (bA sec9_20))) :: (z20, .inl (g.2.1 1, 225, .inl (bA Pj))) :: (z4, .inr (9, [.int (nI n), .int (nI mm), .ref pk, .ref pv, .ref pl, .ref pa, .ref pt, .ref pm, .ref pi])) :: (pk, .inl (g.2.1 0, 100, .inl (nA kdm))) :: (pi, .inl (g.2.1 1, 101, .inl (bA mkm))) :: R) _ := hW
        refine gRi F hW hS dX14_costOf_212 ?_
        exact ⟨_, by rw [hs, show i = rnM kd vl n fu z18 by omega]; rfl, rfl⟩
      · have hp9 := (rn_ok (fu := fu) (inp := z18) hP).2.2.2 i (by omega)
        have hk15 := hP.2.1 _ hp9
        refine lv_aload_n F.1 F.2.1 dX14_costOf_37 rfl (lv_at hl 0 rfl) ?_
        refine gGet F hG hW nX14_costOf_X14 0 rfl rfl 4 (by decide) mX14_costOf_2 rfl dX14_costOf_38 ?_
        refine gGetN F hG hW nX14_costOf_X12 3 rfl rfl 2 (by decide) fX14_costOf_201 rfl dX14_costOf_41 ?_
        refine lv_aload_n F.1 F.2.1 dX14_costOf_44 rfl (lv_at hl 0 rfl) ?_
        refine gGet F hG hW nX14_costOf_X14 0 rfl rfl 22 (by decide) mX14_costOf_3 rfl dX14_costOf_45 ?_
        refine lv_iload F.1 F.2.1 dX14_costOf_48 (lv_at hl 3 rfl) ?_
        refine gLdI F hG hW 6 rfl (by omega) (by decide) dX14_costOf_50 ?_
        refine gTop (y := nI (sp i)) rfl ?_
        refine gTop (y := nI ((pT kd vl (x0 z18)) i)) (congrArg nI (hsp i (by omega))) ?_
        refine gLdI F hG hW 4 rfl (by omega) (by decide) dX14_costOf_51 ?_
        refine gTop (y := nI (kdm ((pT kd vl (x0 z18)) i))) rfl ?_
        refine gTop (y := nI (kd ((pT kd vl (x0 z18)) i))) (congrArg nI (hak ((pT kd vl (x0 z18)) i) hp9)) ?_
        refine lv_istore (lv' := [(5, .int (nI (kd ((pT kd vl (x0 z18)) i)))), (0, .ref o), (1, .int (nI 2)), (2, .int (nI sm)), (4, .int (nI i))]) F.1 F.2.1 dX14_costOf_52 hl (by decide) rfl (fun ls hl => ?_)
        refine lv_iload_n F.1 F.2.1 dX14_costOf_54 rfl (lv_at hl 3 rfl) ?_
        refine lv_iload F.1 F.2.1 dX14_costOf_55 (lv_at hl 0 rfl) ?_
        refine gS_i (n := 1) (As := [.int (nI (kd ((pT kd vl (x0 z18)) i)))]) F hG hS hW (c_X14_base g l  hk15) rfl gX14_costOf_X14_base (by decide +kernel) ⟨rfl, rfl, Nat.le_of_ble_eq_true rfl, Nat.le_of_ble_eq_true rfl⟩ hl.1 (Nat.le_of_ble_eq_true rfl) ⟨Nat.le_of_ble_eq_true rfl, Nat.le_of_ble_eq_true rfl⟩ rfl rfl dX14_costOf_57 (fun r u H locs hq hW hS => ?_)
        obtain ⟨rfl, rfl⟩ := hq
        have hW : gW g ((o, .inr (11, [.int (nI z0), .int (nI z1), .int z2, .int (nI z3), .ref z4, .ref z5, .int (bI z6), .ref z7, .ref z8, .int (nI z9), .int (nI z10), .int (nI z11), .int (nI z12), .int (nI z13), .int (nI z14), .int (nI z15), .long (lN z16), .ref z17, .int z18, .int (nI z19), .ref z20, .ref z21, .ref z22, .ref z23, .ref z24, .ref z25, .int (nI (rnM kd vl n fu z18)), .int (nI z27), .int (nI z28), .int z29, .int (nI ((rX kd vl n fu z18).2.2.2.2.2.1)), .int (nI z31), .ref z32, .ref z33, .ref z34, .ref z35, .ref z36, .int (bI z37), .int (nI z38), .int (nI z39), .int (nI z40), .int (nI z41), .int (nI z42), .int (nI z43), .int (nI z44), .int (nI z45), .int (nI z46), .ref z47, .ref z48, .ref z49, .ref z50, .ref z51, .ref z52, .int z53, .ref z54])) :: (z21, .inl (g.2.1 1, 101, .inl (bA sec9_20))) :: (z20, .inl (g.2.1 1, 225, .inl (bA Pj))) :: (z4, .inr (9, [.int (nI n), .int (nI mm), .ref pk, .ref pv, .ref pl, .ref pa, .ref pt, .ref pm, .ref pi])) :: (pk, .inl (g.2.1 0, 100, .inl (nA kdm))) :: (pi, .inl (g.2.1 1, 101, .inl (bA mkm))) :: (z22, .inl (g.2.1 0, 5000, .inl (nA sp))) :: R) _ := hW
        refine lv_iload_n F.1 F.2.1 dX14_costOf_60 rfl (lv_at hl 2 rfl) ?_
        refine gIfNe (tgt := 69) F (by decide) dX14_costOf_61 (by decide) (fun c_61 => ?_) (fun c_61 => by exfalso; omega)
        refine lv_iload_n F.1 F.2.1 dX14_costOf_69 rfl (lv_at hl 2 rfl) ?_
        refine lv_iconst (v := nI 2) F.1 F.2.1 dX14_costOf_70 rfl ?_
        refine gNe (tgt := 93) F (by decide) (by decide) dX14_costOf_71 (by decide) (fun c_71 => by exfalso; omega) (fun c_71 => ?_)
        refine lv_aload_n F.1 F.2.1 dX14_costOf_74 rfl (lv_at hl 1 rfl) ?_
        refine gGet F hG hW nX14_costOf_X14 0 rfl rfl 21 (by decide) mX14_costOf_4 rfl dX14_costOf_75 ?_
        refine lv_aload_n F.1 F.2.1 dX14_costOf_78 rfl (lv_at hl 1 rfl) ?_
        refine gGet F hG hW nX14_costOf_X14 0 rfl rfl 22 (by decide) mX14_costOf_3 rfl dX14_costOf_79 ?_
        refine lv_iload F.1 F.2.1 dX14_costOf_82 (lv_at hl 4 rfl) ?_
        refine gLdI F hG hW 6 rfl (by omega) (by decide) dX14_costOf_84 ?_
        refine gTop (y := nI (sp i)) rfl ?_
        refine gTop (y := nI ((pT kd vl (x0 z18)) i)) (congrArg nI (hsp i (by omega))) ?_
        refine gLdZ F hG hW 1 rfl (by omega) (by decide) dX14_costOf_85 ?_
        refine gTop (y := bI (sec9_20 ((pT kd vl (x0 z18)) i))) rfl ?_
        refine gIfEqB (tgt := 93) F dX14_costOf_86 (by decide) (fun c_86 => ?_) (fun c_86 => ?_)
        · refine lv_iconst (v := nI 4) F.1 F.2.1 dX14_costOf_93 rfl ?_
          refine gAdd F dX14_costOf_94 ?_
          refine gAdd F dX14_costOf_95 ?_
          refine lv_istore_n (lv' := [(2, .int (nI (sm + ((kW (kd ((pT kd vl (x0 z18)) i)) + kT (kd ((pT kd vl (x0 z18)) i)) + kP (kd ((pT kd vl (x0 z18)) i))) + 4)))), (5, .int (nI (kd ((pT kd vl (x0 z18)) i)))), (0, .ref o), (1, .int (nI 2)), (4, .int (nI i))]) F.1 F.2.1 dX14_costOf_96 rfl hl (by decide) rfl (fun ls hl => ?_)
          refine lv_iload_n F.1 F.2.1 dX14_costOf_97 rfl (lv_at hl 3 rfl) ?_
          refine lv_iconst (v := nI 3) F.1 F.2.1 dX14_costOf_98 rfl ?_
          refine gEq (tgt := 105) F (by decide) (by decide) dX14_costOf_99 (by decide) (fun c_99 => by exfalso; omega) (fun c_99 => ?_)
          refine lv_goto (tgt := 205) F.1 F.2.1 dX14_costOf_102 (by decide) ?_
          refine lv_iinc (v := nI (i + 1)) (lv' := [(4, .int (nI (i + 1))), (2, .int (nI (sm + ((kW (kd ((pT kd vl (x0 z18)) i)) + kT (kd ((pT kd vl (x0 z18)) i)) + kP (kd ((pT kd vl (x0 z18)) i))) + 4)))), (5, .int (nI (kd ((pT kd vl (x0 z18)) i)))), (0, .ref o), (1, .int (nI 2))]) F.1 F.2.1 dX14_costOf_205 hl (k := 4) rfl (nI_add i 1) (by decide) rfl (fun ls hl => ?_)
          refine lv_goto (tgt := 28) F.1 F.2.1 dX14_costOf_208 (by decide) ?_
          exact ih_28 (i + 1) (sm + ((kW (kd ((pT kd vl (x0 z18)) i)) + kT (kd ((pT kd vl (x0 z18)) i)) + kP (kd ((pT kd vl (x0 z18)) i))) + 4)) (by omega) (by have hsj : secJ n kd mk Pj (pT kd vl (x0 z18) i) = false := (p0_20 _ hp9).symm.trans c_86; rw [spT, ← hs, bW, jPr_e hP hg (by omega), hsj]; rw [if_neg Bool.false_ne_true]; omega) (by omega) _ _ _ hW hS (lv_sub hl [3, 4, 1, 0] rfl)
        · refine lv_iconst (v := nI 0) F.1 F.2.1 dX14_costOf_89 rfl ?_
          refine lv_goto (tgt := 94) F.1 F.2.1 dX14_costOf_90 (by decide) ?_
          refine gAdd F dX14_costOf_94 ?_
          refine gAdd F dX14_costOf_95 ?_
          refine lv_istore_n (lv' := [(2, .int (nI (sm + ((kW (kd ((pT kd vl (x0 z18)) i)) + kT (kd ((pT kd vl (x0 z18)) i)) + kP (kd ((pT kd vl (x0 z18)) i))) + 0)))), (5, .int (nI (kd ((pT kd vl (x0 z18)) i)))), (0, .ref o), (1, .int (nI 2)), (4, .int (nI i))]) F.1 F.2.1 dX14_costOf_96 rfl hl (by decide) rfl (fun ls hl => ?_)
          refine lv_iload_n F.1 F.2.1 dX14_costOf_97 rfl (lv_at hl 3 rfl) ?_
          refine lv_iconst (v := nI 3) F.1 F.2.1 dX14_costOf_98 rfl ?_
          refine gEq (tgt := 105) F (by decide) (by decide) dX14_costOf_99 (by decide) (fun c_99 => by exfalso; omega) (fun c_99 => ?_)
          refine lv_goto (tgt := 205) F.1 F.2.1 dX14_costOf_102 (by decide) ?_
          refine lv_iinc (v := nI (i + 1)) (lv' := [(4, .int (nI (i + 1))), (2, .int (nI (sm + ((kW (kd ((pT kd vl (x0 z18)) i)) + kT (kd ((pT kd vl (x0 z18)) i)) + kP (kd ((pT kd vl (x0 z18)) i))) + 0)))), (5, .int (nI (kd ((pT kd vl (x0 z18)) i)))), (0, .ref o), (1, .int (nI 2))]) F.1 F.2.1 dX14_costOf_205 hl (k := 4) rfl (nI_add i 1) (by decide) rfl (fun ls hl => ?_)
          refine lv_goto (tgt := 28) F.1 F.2.1 dX14_costOf_208 (by decide) ?_
          exact ih_28 (i + 1) (sm + ((kW (kd ((pT kd vl (x0 z18)) i)) + kT (kd ((pT kd vl (x0 z18)) i)) + kP (kd ((pT kd vl (x0 z18)) i))) + 0)) (by omega) (by have hsj : secJ n kd mk Pj (pT kd vl (x0 z18) i) = true := (p0_20 _ hp9).symm.trans c_86; rw [spT, ← hs, bW, jPr_e hP hg (by omega), hsj]; rw [if_pos rfl]; omega) (by omega) _ _ _ hW hS (lv_sub hl [3, 4, 1, 0] rfl)
  exact L_28 _ 0 0 (by omega) rfl (Nat.lt_succ_self _) _ _ _ hW hS (lv_sub hl [3, 4, 2, 0] rfl)

abbrev rm_X14_costOf_3 : Room := ({ frames := 2, cells := 0, slots := 0, locals := 40 } : Room)
theorem mX14_costOf_5 : Cond.fieldLink RX14 265 "StepperHeartsModel" "TAKES" "[I" ∈ wsX14_costOf := List.mem_of_getElem? (i := 5) rfl
theorem mX14_costOf_6 : Cond.fieldLink RX14 268 "StepperHeartsModel" "PUTS" "[I" ∈ wsX14_costOf := List.mem_of_getElem? (i := 6) rfl
set_option maxRecDepth 100000 in
set_option maxHeartbeats 4000000 in
theorem c_X14_costOf_3 (g : gC) (l : Launch) {o : Nat} {pk : Nat} {pv : Nat} {pl : Nat} {pa : Nat} {pt : Nat} {pm : Nat} {pi : Nat} {z0 : Nat} {z1 : Nat} {z2 : Int32} {z3 : Nat} {z4 : Nat} {z5 : Nat} {z6 : Bool} {z7 : Nat} {z8 : Nat} {z9 : Nat} {z10 : Nat} {z11 : Nat} {z12 : Nat} {z13 : Nat} {z14 : Nat} {z15 : Nat} {z16 : Nat} {z17 : Nat} {z18 : Int32} {z19 : Nat} {z20 : Nat} {z21 : Nat} {z22 : Nat} {z23 : Nat} {z24 : Nat} {z25 : Nat} {z27 : Nat} {z28 : Nat} {z29 : Int32} {z31 : Nat} {z32 : Nat} {z33 : Nat} {z34 : Nat} {z35 : Nat} {z36 : Nat} {z37 : Bool} {z38 : Nat} {z39 : Nat} {z40 : Nat} {z41 : Nat} {z42 : Nat} {z43 : Nat} {z44 : Nat} {z45 : Nat} {z46 : Nat} {z47 : Nat} {z48 : Nat} {z49 : Nat} {z50 : Nat} {z51 : Nat} {z52 : Nat} {z53 : Int32} {z54 : Nat} {n : Nat} {mm : Nat} {kdm : Nat → Nat} {kd : Nat → Nat} {vl : Nat → Nat} {mk : Nat → Bool} {Pj : Nat → Bool} {sp : Nat → Nat} {fu : Nat} {R : va_W} (hP : pOk n kd vl) (hak : ∀ j, j < n → kdm j = kd j) (hsp : ∀ j, j < rnM kd vl n fu z18 → sp j = pT kd vl (x0 z18) j) (hf : fu ≤ 5000) : cI g l yX14_costOf wsX14_costOf rm_X14_costOf_3 0 0 [.ref o, .int (nI 3)] ((o, .inr (11, [.int (nI z0), .int (nI z1), .int z2, .int (nI z3), .ref z4, .ref z5, .int (bI z6), .ref z7, .ref z8, .int (nI z9), .int (nI z10), .int (nI z11), .int (nI z12), .int (nI z13), .int (nI z14), .int (nI z15), .long (lN z16), .ref z17, .int z18, .int (nI z19), .ref z20, .ref z21, .ref z22, .ref z23, .ref z24, .ref z25, .int (nI (rnM kd vl n fu z18)), .int (nI z27), .int (nI z28), .int z29, .int (nI ((rX kd vl n fu z18).2.2.2.2.2.1)), .int (nI z31), .ref z32, .ref z33, .ref z34, .ref z35, .ref z36, .int (bI z37), .int (nI z38), .int (nI z39), .int (nI z40), .int (nI z41), .int (nI z42), .int (nI z43), .int (nI z44), .int (nI z45), .int (nI z46), .ref z47, .ref z48, .ref z49, .ref z50, .ref z51, .ref z52, .int z53, .ref z54])) :: (z22, .inl (g.2.1 0, 5000, .inl (nA sp))) :: (z4, .inr (9, [.int (nI n), .int (nI mm), .ref pk, .ref pv, .ref pl, .ref pa, .ref pt, .ref pm, .ref pi])) :: (pk, .inl (g.2.1 0, 100, .inl (nA kdm))) :: R) (fun r u => (nI (cst 3 kd vl mk n fu z18 Pj)) = r ∧ (o, .inr (11, [.int (nI z0), .int (nI z1), .int z2, .int (nI z3), .ref z4, .ref z5, .int (bI z6), .ref z7, .ref z8, .int (nI z9), .int (nI z10), .int (nI z11), .int (nI z12), .int (nI z13), .int (nI z14), .int (nI z15), .long (lN z16), .ref z17, .int z18, .int (nI z19), .ref z20, .ref z21, .ref z22, .ref z23, .ref z24, .ref z25, .int (nI (rnM kd vl n fu z18)), .int (nI z27), .int (nI z28), .int z29, .int (nI ((rX kd vl n fu z18).2.2.2.2.2.1)), .int (nI z31), .ref z32, .ref z33, .ref z34, .ref z35, .ref z36, .int (bI z37), .int (nI z38), .int (nI z39), .int (nI z40), .int (nI z41), .int (nI z42), .int (nI z43), .int (nI z44), .int (nI z45), .int (nI z46), .ref z47, .ref z48, .ref z49, .ref z50, .ref z51, .ref z52, .int z53, .ref z54])) :: (z22, .inl (g.2.1 0, 5000, .inl (nA sp))) :: (z4, .inr (9, [.int (nI n), .int (nI mm), .ref pk, .ref pv, .ref pl, .ref pa, .ref pt, .ref pm, .ref pi])) :: (pk, .inl (g.2.1 0, 100, .inl (nA kdm))) :: R = u) := by
  refine gEnterQ (cc := cX14_costOf) (maxL := 8) (ret := (some (.int))) (by decide +kernel) rfl (Nat.le_of_ble_eq_true rfl) ?_
  intro p e s m below meth c F hG hW ls hl
  have hS : va_S (gA g) s.heap s.heap [] := va_S.rf
  have hl : lv_has ls 8 [(0, .ref o), (1, .int (nI 3))] := hl
  have hW : gW g ((o, .inr (11, [.int (nI z0), .int (nI z1), .int z2, .int (nI z3), .ref z4, .ref z5, .int (bI z6), .ref z7, .ref z8, .int (nI z9), .int (nI z10), .int (nI z11), .int (nI z12), .int (nI z13), .int (nI z14), .int (nI z15), .long (lN z16), .ref z17, .int z18, .int (nI z19), .ref z20, .ref z21, .ref z22, .ref z23, .ref z24, .ref z25, .int (nI (rnM kd vl n fu z18)), .int (nI z27), .int (nI z28), .int z29, .int (nI ((rX kd vl n fu z18).2.2.2.2.2.1)), .int (nI z31), .ref z32, .ref z33, .ref z34, .ref z35, .ref z36, .int (bI z37), .int (nI z38), .int (nI z39), .int (nI z40), .int (nI z41), .int (nI z42), .int (nI z43), .int (nI z44), .int (nI z45), .int (nI z46), .ref z47, .ref z48, .ref z49, .ref z50, .ref z51, .ref z52, .int z53, .ref z54])) :: (z22, .inl (g.2.1 0, 5000, .inl (nA sp))) :: (z4, .inr (9, [.int (nI n), .int (nI mm), .ref pk, .ref pv, .ref pl, .ref pa, .ref pt, .ref pm, .ref pi])) :: (pk, .inl (g.2.1 0, 100, .inl (nA kdm))) :: R) s.heap := hW
  have hn9 := hP.1
  have hr9 := (rn_ok (fu := fu) (inp := z18) hP).1
  refine lv_iload_n F.1 F.2.1 dX14_costOf_0 rfl (lv_at hl 1 rfl) ?_
  refine lv_iconst (v := nI 4) F.1 F.2.1 dX14_costOf_1 rfl ?_
  refine gNe (tgt := 10) F (by decide) (by decide) dX14_costOf_2 (by decide) (fun c_2 => ?_) (fun c_2 => by exfalso; omega)
  refine lv_iconst (v := nI 0) F.1 F.2.1 dX14_costOf_10 rfl ?_
  refine lv_istore_n (lv' := [(2, .int (nI 0)), (0, .ref o), (1, .int (nI 3))]) F.1 F.2.1 dX14_costOf_11 rfl hl (by decide) rfl (fun ls hl => ?_)
  refine lv_iconst (v := nI 0) F.1 F.2.1 dX14_costOf_12 rfl ?_
  refine gTop (y := bI false) rfl ?_
  refine lv_istore_n (lv' := [(3, .int (bI false)), (2, .int (nI 0)), (0, .ref o), (1, .int (nI 3))]) F.1 F.2.1 dX14_costOf_13 rfl hl (by decide) rfl (fun ls hl => ?_)
  refine lv_iload_n F.1 F.2.1 dX14_costOf_14 rfl (lv_at hl 3 rfl) ?_
  refine lv_iconst (v := nI 2) F.1 F.2.1 dX14_costOf_15 rfl ?_
  refine gNe (tgt := 25) F (by decide) (by decide) dX14_costOf_16 (by decide) (fun c_16 => ?_) (fun c_16 => by exfalso; omega)
  refine lv_iconst (v := nI 0) F.1 F.2.1 dX14_costOf_25 rfl ?_
  refine lv_istore (lv' := [(4, .int (nI 0)), (3, .int (bI false)), (2, .int (nI 0)), (0, .ref o), (1, .int (nI 3))]) F.1 F.2.1 dX14_costOf_26 hl (by decide) rfl (fun ls hl => ?_)
  have L_28 : ∀ (fz : Nat), ∀ (i : Nat) (sm : Nat) (kp : Bool) (hi : i ≤ rnM kd vl n fu z18) (hs : sm = spT kd (pT kd vl (x0 z18)) (lT kd vl (x0 z18)) (fun y _ k => kPr y k) (fun y _ k _ => kKp y k) false i) (hy : kp = yT kd (pT kd vl (x0 z18)) (lT kd vl (x0 z18)) (fun y _ k _ => kKp y k) false i) (hm_28 : rnM kd vl n fu z18 - i < fz) (H : Heap) (locs : List Loc) (ls : Array Slot) (hW : gW g ((o, .inr (11, [.int (nI z0), .int (nI z1), .int z2, .int (nI z3), .ref z4, .ref z5, .int (bI z6), .ref z7, .ref z8, .int (nI z9), .int (nI z10), .int (nI z11), .int (nI z12), .int (nI z13), .int (nI z14), .int (nI z15), .long (lN z16), .ref z17, .int z18, .int (nI z19), .ref z20, .ref z21, .ref z22, .ref z23, .ref z24, .ref z25, .int (nI (rnM kd vl n fu z18)), .int (nI z27), .int (nI z28), .int z29, .int (nI ((rX kd vl n fu z18).2.2.2.2.2.1)), .int (nI z31), .ref z32, .ref z33, .ref z34, .ref z35, .ref z36, .int (bI z37), .int (nI z38), .int (nI z39), .int (nI z40), .int (nI z41), .int (nI z42), .int (nI z43), .int (nI z44), .int (nI z45), .int (nI z46), .ref z47, .ref z48, .ref z49, .ref z50, .ref z51, .ref z52, .int z53, .ref z54])) :: (z22, .inl (g.2.1 0, 5000, .inl (nA sp))) :: (z4, .inr (9, [.int (nI n), .int (nI mm), .ref pk, .ref pv, .ref pl, .ref pa, .ref pt, .ref pm, .ref pi])) :: (pk, .inl (g.2.1 0, 100, .inl (nA kdm))) :: R) H) (hS : va_S (gA g) s.heap H locs) (hl : lv_has ls 8 [(0, .ref o), (1, .int (nI 3)), (2, .int (nI sm)), (3, .int (bI kp)), (4, .int (nI i))]), W p l e (headSpec wsX14_costOf rm_X14_costOf_3).room s m ([.ref o, .int (nI 3)] : List Value).toArray below meth c H locs 0 0 (MQ below (va_Qi (fun r u => (nI (cst 3 kd vl mk n fu z18 Pj)) = r ∧ (o, .inr (11, [.int (nI z0), .int (nI z1), .int z2, .int (nI z3), .ref z4, .ref z5, .int (bI z6), .ref z7, .ref z8, .int (nI z9), .int (nI z10), .int (nI z11), .int (nI z12), .int (nI z13), .int (nI z14), .int (nI z15), .long (lN z16), .ref z17, .int z18, .int (nI z19), .ref z20, .ref z21, .ref z22, .ref z23, .ref z24, .ref z25, .int (nI (rnM kd vl n fu z18)), .int (nI z27), .int (nI z28), .int z29, .int (nI ((rX kd vl n fu z18).2.2.2.2.2.1)), .int (nI z31), .ref z32, .ref z33, .ref z34, .ref z35, .ref z36, .int (bI z37), .int (nI z38), .int (nI z39), .int (nI z40), .int (nI z41), .int (nI z42), .int (nI z43), .int (nI z44), .int (nI z45), .int (nI z46), .ref z47, .ref z48, .ref z49, .ref z50, .ref z51, .ref z52, .int z53, .ref z54])) :: (z22, .inl (g.2.1 0, 5000, .inl (nA sp))) :: (z4, .inr (9, [.int (nI n), .int (nI mm), .ref pk, .ref pv, .ref pl, .ref pa, .ref pt, .ref pm, .ref pi])) :: (pk, .inl (g.2.1 0, 100, .inl (nA kdm))) :: R = u) (fun u t => gW g u t.heap) (gA g)) ([.ref o, .int (nI 3)] : List Value).toArray s 0 0 (gA g)) (F0 m 28 ls []) := by
    intro fz
    induction fz with
    | zero =>
      intros _ _ _ _ _ _ hm_28
      exact absurd hm_28 (Nat.not_lt_zero _)
    | succ fz ih_28 =>
      intro i sm kp hi hs hy hm_28 H locs ls hW hS hl
      refine lv_iload F.1 F.2.1 dX14_costOf_28 (lv_at hl 4 rfl) ?_
      refine lv_aload_n F.1 F.2.1 dX14_costOf_30 rfl (lv_at hl 0 rfl) ?_
      refine gGet F hG hW nX14_costOf_X14 0 rfl rfl 26 (by decide) mX14_costOf_1 rfl dX14_costOf_31 ?_
      refine gGe (tgt := 211) F (by omega) (by omega) dX14_costOf_34 (by decide) (fun c_34 => ?_) (fun c_34 => ?_)
      · refine lv_iload_n F.1 F.2.1 dX14_costOf_211 rfl (lv_at hl 2 rfl) ?_
        refine gRi F hW hS dX14_costOf_212 ?_
        exact ⟨by rw [hs, show i = rnM kd vl n fu z18 by omega]; rfl, rfl⟩
      · have hp9 := (rn_ok (fu := fu) (inp := z18) hP).2.2.2 i (by omega)
        have hk15 := hP.2.1 _ hp9
        refine lv_aload_n F.1 F.2.1 dX14_costOf_37 rfl (lv_at hl 0 rfl) ?_
        rcases kp with _ | _
        · refine gGet F hG hW nX14_costOf_X14 0 rfl rfl 4 (by decide) mX14_costOf_2 rfl dX14_costOf_38 ?_
          refine gGetN F hG hW nX14_costOf_X12 2 rfl rfl 2 (by decide) fX14_costOf_201 rfl dX14_costOf_41 ?_
          refine lv_aload_n F.1 F.2.1 dX14_costOf_44 rfl (lv_at hl 0 rfl) ?_
          refine gGet F hG hW nX14_costOf_X14 0 rfl rfl 22 (by decide) mX14_costOf_3 rfl dX14_costOf_45 ?_
          refine lv_iload F.1 F.2.1 dX14_costOf_48 (lv_at hl 4 rfl) ?_
          refine gLdI F hG hW 1 rfl (by omega) (by decide) dX14_costOf_50 ?_
          refine gTop (y := nI (sp i)) rfl ?_
          refine gTop (y := nI ((pT kd vl (x0 z18)) i)) (congrArg nI (hsp i (by omega))) ?_
          refine gLdI F hG hW 3 rfl (by omega) (by decide) dX14_costOf_51 ?_
          refine gTop (y := nI (kdm ((pT kd vl (x0 z18)) i))) rfl ?_
          refine gTop (y := nI (kd ((pT kd vl (x0 z18)) i))) (congrArg nI (hak ((pT kd vl (x0 z18)) i) hp9)) ?_
          refine lv_istore (lv' := [(5, .int (nI (kd ((pT kd vl (x0 z18)) i)))), (0, .ref o), (1, .int (nI 3)), (2, .int (nI sm)), (3, .int (bI false)), (4, .int (nI i))]) F.1 F.2.1 dX14_costOf_52 hl (by decide) rfl (fun ls hl => ?_)
          refine lv_iload_n F.1 F.2.1 dX14_costOf_54 rfl (lv_at hl 3 rfl) ?_
          refine lv_iload F.1 F.2.1 dX14_costOf_55 (lv_at hl 0 rfl) ?_
          refine gS_i (n := 1) (As := [.int (nI (kd ((pT kd vl (x0 z18)) i)))]) F hG hS hW (c_X14_base g l  hk15) rfl gX14_costOf_X14_base (by decide +kernel) ⟨rfl, rfl, Nat.le_of_ble_eq_true rfl, Nat.le_of_ble_eq_true rfl⟩ hl.1 (Nat.le_of_ble_eq_true rfl) ⟨Nat.le_of_ble_eq_true rfl, Nat.le_of_ble_eq_true rfl⟩ rfl rfl dX14_costOf_57 (fun r u H locs hq hW hS => ?_)
          obtain ⟨rfl, rfl⟩ := hq
          have hW : gW g ((o, .inr (11, [.int (nI z0), .int (nI z1), .int z2, .int (nI z3), .ref z4, .ref z5, .int (bI z6), .ref z7, .ref z8, .int (nI z9), .int (nI z10), .int (nI z11), .int (nI z12), .int (nI z13), .int (nI z14), .int (nI z15), .long (lN z16), .ref z17, .int z18, .int (nI z19), .ref z20, .ref z21, .ref z22, .ref z23, .ref z24, .ref z25, .int (nI (rnM kd vl n fu z18)), .int (nI z27), .int (nI z28), .int z29, .int (nI ((rX kd vl n fu z18).2.2.2.2.2.1)), .int (nI z31), .ref z32, .ref z33, .ref z34, .ref z35, .ref z36, .int (bI z37), .int (nI z38), .int (nI z39), .int (nI z40), .int (nI z41), .int (nI z42), .int (nI z43), .int (nI z44), .int (nI z45), .int (nI z46), .ref z47, .ref z48, .ref z49, .ref z50, .ref z51, .ref z52, .int z53, .ref z54])) :: (z22, .inl (g.2.1 0, 5000, .inl (nA sp))) :: (z4, .inr (9, [.int (nI n), .int (nI mm), .ref pk, .ref pv, .ref pl, .ref pa, .ref pt, .ref pm, .ref pi])) :: (pk, .inl (g.2.1 0, 100, .inl (nA kdm))) :: R) _ := hW
          refine lv_iload_n F.1 F.2.1 dX14_costOf_60 rfl (lv_at hl 2 rfl) ?_
          refine gIfNe (tgt := 69) F (by decide) dX14_costOf_61 (by decide) (fun c_61 => ?_) (fun c_61 => by exfalso; omega)
          refine lv_iload_n F.1 F.2.1 dX14_costOf_69 rfl (lv_at hl 2 rfl) ?_
          refine lv_iconst (v := nI 2) F.1 F.2.1 dX14_costOf_70 rfl ?_
          refine gNe (tgt := 93) F (by decide) (by decide) dX14_costOf_71 (by decide) (fun c_71 => ?_) (fun c_71 => by exfalso; omega)
          refine lv_iconst (v := nI 4) F.1 F.2.1 dX14_costOf_93 rfl ?_
          refine gAdd F dX14_costOf_94 ?_
          refine gAdd F dX14_costOf_95 ?_
          refine lv_istore_n (lv' := [(2, .int (nI (sm + ((kW (kd ((pT kd vl (x0 z18)) i)) + kT (kd ((pT kd vl (x0 z18)) i)) + kP (kd ((pT kd vl (x0 z18)) i))) + 4)))), (5, .int (nI (kd ((pT kd vl (x0 z18)) i)))), (0, .ref o), (1, .int (nI 3)), (3, .int (bI false)), (4, .int (nI i))]) F.1 F.2.1 dX14_costOf_96 rfl hl (by decide) rfl (fun ls hl => ?_)
          refine lv_iload_n F.1 F.2.1 dX14_costOf_97 rfl (lv_at hl 3 rfl) ?_
          refine lv_iconst (v := nI 3) F.1 F.2.1 dX14_costOf_98 rfl ?_
          refine gEq (tgt := 105) F (by decide) (by decide) dX14_costOf_99 (by decide) (fun c_99 => ?_) (fun c_99 => by exfalso; omega)
          have hkt9 := kT_lt (kd (pT kd vl (x0 z18) i))
          have hkp0 := kP_lt (kd (pT kd vl (x0 z18) i))
          refine gsTakes F hG hS mX14_costOf_5 dX14_costOf_105 ?_
          refine lv_iload F.1 F.2.1 dX14_costOf_108 (lv_at hl 1 rfl) ?_
          refine gLdTakes F hG hS (by omega) dX14_costOf_110 ?_
          refine gIfLe (tgt := 118) F (by omega) dX14_costOf_111 (by decide) (fun c_111 => ?_) (fun c_111 => ?_)
          · refine lv_iconst (v := nI 0) F.1 F.2.1 dX14_costOf_118 rfl ?_
            refine lv_istore (lv' := [(6, .int (nI 0)), (2, .int (nI (sm + ((kW (kd ((pT kd vl (x0 z18)) i)) + kT (kd ((pT kd vl (x0 z18)) i)) + kP (kd ((pT kd vl (x0 z18)) i))) + 4)))), (5, .int (nI (kd ((pT kd vl (x0 z18)) i)))), (0, .ref o), (1, .int (nI 3)), (3, .int (bI false)), (4, .int (nI i))]) F.1 F.2.1 dX14_costOf_119 hl (by decide) rfl (fun ls hl => ?_)
            refine gsPuts F hG hS mX14_costOf_6 dX14_costOf_121 ?_
            refine lv_iload F.1 F.2.1 dX14_costOf_124 (lv_at hl 2 rfl) ?_
            refine gLdPuts F hG hS (by omega) dX14_costOf_126 ?_
            refine gIfLe (tgt := 134) F (by omega) dX14_costOf_127 (by decide) (fun c_127 => ?_) (fun c_127 => ?_)
            · refine lv_iconst (v := nI 0) F.1 F.2.1 dX14_costOf_134 rfl ?_
              refine lv_istore (lv' := [(7, .int (nI 0)), (6, .int (nI 0)), (2, .int (nI (sm + ((kW (kd ((pT kd vl (x0 z18)) i)) + kT (kd ((pT kd vl (x0 z18)) i)) + kP (kd ((pT kd vl (x0 z18)) i))) + 4)))), (5, .int (nI (kd ((pT kd vl (x0 z18)) i)))), (0, .ref o), (1, .int (nI 3)), (3, .int (bI false)), (4, .int (nI i))]) F.1 F.2.1 dX14_costOf_135 hl (by decide) rfl (fun ls hl => ?_)
              refine lv_iload_n F.1 F.2.1 dX14_costOf_137 rfl (lv_at hl 2 rfl) ?_
              refine lv_iload_n F.1 F.2.1 dX14_costOf_138 rfl (lv_at hl 6 rfl) ?_
              refine gIfEqB (tgt := 151) F dX14_costOf_139 (by decide) (fun c_139 => ?_) (fun q => by simp at q)
              refine lv_iconst (v := nI 0) F.1 F.2.1 dX14_costOf_151 rfl ?_
              refine lv_iload_n F.1 F.2.1 dX14_costOf_152 rfl (lv_at hl 6 rfl) ?_
              refine gIfEqB (tgt := 170) F dX14_costOf_153 (by decide) (fun c_153 => ?_) (fun q => by simp at q)
              refine lv_iconst (v := nI 0) F.1 F.2.1 dX14_costOf_170 rfl ?_
              refine gAdd F dX14_costOf_171 ?_
              refine lv_iload F.1 F.2.1 dX14_costOf_172 (lv_at hl 0 rfl) ?_
              refine gIfEq (tgt := 181) F (by decide) dX14_costOf_174 (by decide) (fun c_174 => ?_) (fun c_174 => by exfalso; omega)
              refine lv_iconst (v := nI 0) F.1 F.2.1 dX14_costOf_181 rfl ?_
              refine gAdd F dX14_costOf_182 ?_
              refine gAdd F dX14_costOf_183 ?_
              have ht9 : (0 < kT (kd (pT kd vl (x0 z18) i))) = False := by exact eq_false (by omega)
              have ht0 : (kT (kd (pT kd vl (x0 z18) i)) = 0) = True := by exact eq_true (by omega)
              have hq9 : (0 < kP (kd (pT kd vl (x0 z18) i))) = False := by exact eq_false (by omega)
              have hpr9 : kPr false (kd (pT kd vl (x0 z18) i)) = 4 := by simp [kPr, ht9, ht0, hq9]
              have hkp9 : kKp false (kd (pT kd vl (x0 z18) i)) = false := by simp [kKp, ht9, hq9]
              refine gTop (y := nI (sm + (4 + (kW (kd (pT kd vl (x0 z18) i)) + kT (kd (pT kd vl (x0 z18) i)) + kP (kd (pT kd vl (x0 z18) i)))))) (congrArg nI (by omega)) ?_
              refine lv_istore_n (lv' := [(2, .int (nI (sm + (4 + (kW (kd (pT kd vl (x0 z18) i)) + kT (kd (pT kd vl (x0 z18) i)) + kP (kd (pT kd vl (x0 z18) i))))))), (7, .int (nI 0)), (6, .int (nI 0)), (5, .int (nI (kd ((pT kd vl (x0 z18)) i)))), (0, .ref o), (1, .int (nI 3)), (3, .int (bI false)), (4, .int (nI i))]) F.1 F.2.1 dX14_costOf_184 rfl hl (by decide) rfl (fun ls hl => ?_)
              refine lv_iload F.1 F.2.1 dX14_costOf_185 (lv_at hl 1 rfl) ?_
              refine gIfNe (tgt := 199) F (by decide) dX14_costOf_187 (by decide) (fun c_187 => by exfalso; omega) (fun c_187 => ?_)
              refine lv_iload_n F.1 F.2.1 dX14_costOf_190 rfl (lv_at hl 6 rfl) ?_
              refine gIfEqB (tgt := 203) F dX14_costOf_191 (by decide) (fun c_191 => ?_) (fun q => by simp at q)
              refine lv_iconst (v := nI 0) F.1 F.2.1 dX14_costOf_203 rfl ?_
              refine gTop (y := bI false) rfl ?_
              refine lv_istore_n (lv' := [(3, .int (bI false)), (2, .int (nI (sm + (4 + (kW (kd (pT kd vl (x0 z18) i)) + kT (kd (pT kd vl (x0 z18) i)) + kP (kd (pT kd vl (x0 z18) i))))))), (7, .int (nI 0)), (6, .int (nI 0)), (5, .int (nI (kd ((pT kd vl (x0 z18)) i)))), (0, .ref o), (1, .int (nI 3)), (4, .int (nI i))]) F.1 F.2.1 dX14_costOf_204 rfl hl (by decide) rfl (fun ls hl => ?_)
              refine lv_iinc (v := nI (i + 1)) (lv' := [(4, .int (nI (i + 1))), (3, .int (bI false)), (2, .int (nI (sm + (4 + (kW (kd (pT kd vl (x0 z18) i)) + kT (kd (pT kd vl (x0 z18) i)) + kP (kd (pT kd vl (x0 z18) i))))))), (7, .int (nI 0)), (6, .int (nI 0)), (5, .int (nI (kd ((pT kd vl (x0 z18)) i)))), (0, .ref o), (1, .int (nI 3))]) F.1 F.2.1 dX14_costOf_205 hl (k := 7) rfl (nI_add i 1) (by decide) rfl (fun ls hl => ?_)
              refine lv_goto (tgt := 28) F.1 F.2.1 dX14_costOf_208 (by decide) ?_
              exact ih_28 (i + 1) (sm + (4 + (kW (kd (pT kd vl (x0 z18) i)) + kT (kd (pT kd vl (x0 z18) i)) + kP (kd (pT kd vl (x0 z18) i))))) false (by omega) (by rw [spT, ← hs, ← hy, hpr9, bW]) (by rw [yT, ← hy, hkp9]) (by omega) _ _ _ hW hS (lv_sub hl [6, 7, 2, 1, 0] rfl)
            · refine lv_iconst (v := nI 1) F.1 F.2.1 dX14_costOf_130 rfl ?_
              refine lv_goto (tgt := 135) F.1 F.2.1 dX14_costOf_131 (by decide) ?_
              refine lv_istore (lv' := [(7, .int (nI 1)), (6, .int (nI 0)), (2, .int (nI (sm + ((kW (kd ((pT kd vl (x0 z18)) i)) + kT (kd ((pT kd vl (x0 z18)) i)) + kP (kd ((pT kd vl (x0 z18)) i))) + 4)))), (5, .int (nI (kd ((pT kd vl (x0 z18)) i)))), (0, .ref o), (1, .int (nI 3)), (3, .int (bI false)), (4, .int (nI i))]) F.1 F.2.1 dX14_costOf_135 hl (by decide) rfl (fun ls hl => ?_)
              refine lv_iload_n F.1 F.2.1 dX14_costOf_137 rfl (lv_at hl 2 rfl) ?_
              refine lv_iload_n F.1 F.2.1 dX14_costOf_138 rfl (lv_at hl 6 rfl) ?_
              refine gIfEqB (tgt := 151) F dX14_costOf_139 (by decide) (fun c_139 => ?_) (fun q => by simp at q)
              refine lv_iconst (v := nI 0) F.1 F.2.1 dX14_costOf_151 rfl ?_
              refine lv_iload_n F.1 F.2.1 dX14_costOf_152 rfl (lv_at hl 6 rfl) ?_
              refine gIfEqB (tgt := 170) F dX14_costOf_153 (by decide) (fun c_153 => ?_) (fun q => by simp at q)
              refine lv_iconst (v := nI 0) F.1 F.2.1 dX14_costOf_170 rfl ?_
              refine gAdd F dX14_costOf_171 ?_
              refine lv_iload F.1 F.2.1 dX14_costOf_172 (lv_at hl 0 rfl) ?_
              refine gIfEq (tgt := 181) F (by decide) dX14_costOf_174 (by decide) (fun c_174 => by exfalso; omega) (fun c_174 => ?_)
              refine lv_iconst (v := -1) F.1 F.2.1 dX14_costOf_177 rfl ?_
              refine lv_goto (tgt := 182) F.1 F.2.1 dX14_costOf_178 (by decide) ?_
              refine lv_iadd F.1 F.2.1 dX14_costOf_182 ?_
              refine lv_iadd F.1 F.2.1 dX14_costOf_183 ?_
              have ht9 : (0 < kT (kd (pT kd vl (x0 z18) i))) = False := by exact eq_false (by omega)
              have ht0 : (kT (kd (pT kd vl (x0 z18) i)) = 0) = True := by exact eq_true (by omega)
              have hq9 : (0 < kP (kd (pT kd vl (x0 z18) i))) = True := by exact eq_true (by omega)
              have hpr9 : kPr false (kd (pT kd vl (x0 z18) i)) = 3 := by simp [kPr, ht9, ht0, hq9]
              have hkp9 : kKp false (kd (pT kd vl (x0 z18) i)) = true := by simp [kKp, ht9, hq9]
              refine gTop (y := nI (sm + (3 + (kW (kd (pT kd vl (x0 z18) i)) + kT (kd (pT kd vl (x0 z18) i)) + kP (kd (pT kd vl (x0 z18) i)))))) (nI_adj 1 (by omega) (by decide)) ?_
              refine lv_istore_n (lv' := [(2, .int (nI (sm + (3 + (kW (kd (pT kd vl (x0 z18) i)) + kT (kd (pT kd vl (x0 z18) i)) + kP (kd (pT kd vl (x0 z18) i))))))), (7, .int (nI 1)), (6, .int (nI 0)), (5, .int (nI (kd ((pT kd vl (x0 z18)) i)))), (0, .ref o), (1, .int (nI 3)), (3, .int (bI false)), (4, .int (nI i))]) F.1 F.2.1 dX14_costOf_184 rfl hl (by decide) rfl (fun ls hl => ?_)
              refine lv_iload F.1 F.2.1 dX14_costOf_185 (lv_at hl 1 rfl) ?_
              refine gIfNe (tgt := 199) F (by decide) dX14_costOf_187 (by decide) (fun c_187 => ?_) (fun c_187 => by exfalso; omega)
              refine lv_iconst (v := nI 1) F.1 F.2.1 dX14_costOf_199 rfl ?_
              refine lv_goto (tgt := 204) F.1 F.2.1 dX14_costOf_200 (by decide) ?_
              refine gTop (y := bI true) rfl ?_
              refine lv_istore_n (lv' := [(3, .int (bI true)), (2, .int (nI (sm + (3 + (kW (kd (pT kd vl (x0 z18) i)) + kT (kd (pT kd vl (x0 z18) i)) + kP (kd (pT kd vl (x0 z18) i))))))), (7, .int (nI 1)), (6, .int (nI 0)), (5, .int (nI (kd ((pT kd vl (x0 z18)) i)))), (0, .ref o), (1, .int (nI 3)), (4, .int (nI i))]) F.1 F.2.1 dX14_costOf_204 rfl hl (by decide) rfl (fun ls hl => ?_)
              refine lv_iinc (v := nI (i + 1)) (lv' := [(4, .int (nI (i + 1))), (3, .int (bI true)), (2, .int (nI (sm + (3 + (kW (kd (pT kd vl (x0 z18) i)) + kT (kd (pT kd vl (x0 z18) i)) + kP (kd (pT kd vl (x0 z18) i))))))), (7, .int (nI 1)), (6, .int (nI 0)), (5, .int (nI (kd ((pT kd vl (x0 z18)) i)))), (0, .ref o), (1, .int (nI 3))]) F.1 F.2.1 dX14_costOf_205 hl (k := 7) rfl (nI_add i 1) (by decide) rfl (fun ls hl => ?_)
              refine lv_goto (tgt := 28) F.1 F.2.1 dX14_costOf_208 (by decide) ?_
              exact ih_28 (i + 1) (sm + (3 + (kW (kd (pT kd vl (x0 z18) i)) + kT (kd (pT kd vl (x0 z18) i)) + kP (kd (pT kd vl (x0 z18) i))))) true (by omega) (by rw [spT, ← hs, ← hy, hpr9, bW]) (by rw [yT, ← hy, hkp9]) (by omega) _ _ _ hW hS (lv_sub hl [6, 7, 2, 1, 0] rfl)
          · refine lv_iconst (v := nI 1) F.1 F.2.1 dX14_costOf_114 rfl ?_
            refine lv_goto (tgt := 119) F.1 F.2.1 dX14_costOf_115 (by decide) ?_
            refine lv_istore (lv' := [(6, .int (nI 1)), (2, .int (nI (sm + ((kW (kd ((pT kd vl (x0 z18)) i)) + kT (kd ((pT kd vl (x0 z18)) i)) + kP (kd ((pT kd vl (x0 z18)) i))) + 4)))), (5, .int (nI (kd ((pT kd vl (x0 z18)) i)))), (0, .ref o), (1, .int (nI 3)), (3, .int (bI false)), (4, .int (nI i))]) F.1 F.2.1 dX14_costOf_119 hl (by decide) rfl (fun ls hl => ?_)
            refine gsPuts F hG hS mX14_costOf_6 dX14_costOf_121 ?_
            refine lv_iload F.1 F.2.1 dX14_costOf_124 (lv_at hl 2 rfl) ?_
            refine gLdPuts F hG hS (by omega) dX14_costOf_126 ?_
            refine gIfLe (tgt := 134) F (by omega) dX14_costOf_127 (by decide) (fun c_127 => ?_) (fun c_127 => ?_)
            · refine lv_iconst (v := nI 0) F.1 F.2.1 dX14_costOf_134 rfl ?_
              refine lv_istore (lv' := [(7, .int (nI 0)), (6, .int (nI 1)), (2, .int (nI (sm + ((kW (kd ((pT kd vl (x0 z18)) i)) + kT (kd ((pT kd vl (x0 z18)) i)) + kP (kd ((pT kd vl (x0 z18)) i))) + 4)))), (5, .int (nI (kd ((pT kd vl (x0 z18)) i)))), (0, .ref o), (1, .int (nI 3)), (3, .int (bI false)), (4, .int (nI i))]) F.1 F.2.1 dX14_costOf_135 hl (by decide) rfl (fun ls hl => ?_)
              refine lv_iload_n F.1 F.2.1 dX14_costOf_137 rfl (lv_at hl 2 rfl) ?_
              refine lv_iload_n F.1 F.2.1 dX14_costOf_138 rfl (lv_at hl 6 rfl) ?_
              refine gIfEqB (tgt := 151) F dX14_costOf_139 (by decide) (fun c_139 => ?_) (fun q => by simp at q)
              refine lv_iconst (v := nI 0) F.1 F.2.1 dX14_costOf_151 rfl ?_
              refine lv_iload_n F.1 F.2.1 dX14_costOf_152 rfl (lv_at hl 6 rfl) ?_
              refine gIfEqB (tgt := 170) F dX14_costOf_153 (by decide) (fun c_153 => ?_) (fun q => by simp at q)
              refine lv_iconst (v := nI 0) F.1 F.2.1 dX14_costOf_170 rfl ?_
              refine gAdd F dX14_costOf_171 ?_
              refine lv_iload F.1 F.2.1 dX14_costOf_172 (lv_at hl 0 rfl) ?_
              refine gIfEq (tgt := 181) F (by decide) dX14_costOf_174 (by decide) (fun c_174 => ?_) (fun c_174 => by exfalso; omega)
              refine lv_iconst (v := nI 0) F.1 F.2.1 dX14_costOf_181 rfl ?_
              refine gAdd F dX14_costOf_182 ?_
              refine gAdd F dX14_costOf_183 ?_
              have ht9 : (0 < kT (kd (pT kd vl (x0 z18) i))) = True := by exact eq_true (by omega)
              have ht0 : (kT (kd (pT kd vl (x0 z18) i)) = 0) = False := by exact eq_false (by omega)
              have hq9 : (0 < kP (kd (pT kd vl (x0 z18) i))) = False := by exact eq_false (by omega)
              have hpr9 : kPr false (kd (pT kd vl (x0 z18) i)) = 4 := by simp [kPr, ht9, ht0, hq9]
              have hkp9 : kKp false (kd (pT kd vl (x0 z18) i)) = false := by simp [kKp, ht9, hq9]
              refine gTop (y := nI (sm + (4 + (kW (kd (pT kd vl (x0 z18) i)) + kT (kd (pT kd vl (x0 z18) i)) + kP (kd (pT kd vl (x0 z18) i)))))) (congrArg nI (by omega)) ?_
              refine lv_istore_n (lv' := [(2, .int (nI (sm + (4 + (kW (kd (pT kd vl (x0 z18) i)) + kT (kd (pT kd vl (x0 z18) i)) + kP (kd (pT kd vl (x0 z18) i))))))), (7, .int (nI 0)), (6, .int (nI 1)), (5, .int (nI (kd ((pT kd vl (x0 z18)) i)))), (0, .ref o), (1, .int (nI 3)), (3, .int (bI false)), (4, .int (nI i))]) F.1 F.2.1 dX14_costOf_184 rfl hl (by decide) rfl (fun ls hl => ?_)
              refine lv_iload F.1 F.2.1 dX14_costOf_185 (lv_at hl 1 rfl) ?_
              refine gIfNe (tgt := 199) F (by decide) dX14_costOf_187 (by decide) (fun c_187 => by exfalso; omega) (fun c_187 => ?_)
              refine lv_iload_n F.1 F.2.1 dX14_costOf_190 rfl (lv_at hl 6 rfl) ?_
              refine gIfEqB (tgt := 203) F dX14_costOf_191 (by decide) (fun c_191 => ?_) (fun q => by simp at q)
              refine lv_iconst (v := nI 0) F.1 F.2.1 dX14_costOf_203 rfl ?_
              refine gTop (y := bI false) rfl ?_
              refine lv_istore_n (lv' := [(3, .int (bI false)), (2, .int (nI (sm + (4 + (kW (kd (pT kd vl (x0 z18) i)) + kT (kd (pT kd vl (x0 z18) i)) + kP (kd (pT kd vl (x0 z18) i))))))), (7, .int (nI 0)), (6, .int (nI 1)), (5, .int (nI (kd ((pT kd vl (x0 z18)) i)))), (0, .ref o), (1, .int (nI 3)), (4, .int (nI i))]) F.1 F.2.1 dX14_costOf_204 rfl hl (by decide) rfl (fun ls hl => ?_)
              refine lv_iinc (v := nI (i + 1)) (lv' := [(4, .int (nI (i + 1))), (3, .int (bI false)), (2, .int (nI (sm + (4 + (kW (kd (pT kd vl (x0 z18) i)) + kT (kd (pT kd vl (x0 z18) i)) + kP (kd (pT kd vl (x0 z18) i))))))), (7, .int (nI 0)), (6, .int (nI 1)), (5, .int (nI (kd ((pT kd vl (x0 z18)) i)))), (0, .ref o), (1, .int (nI 3))]) F.1 F.2.1 dX14_costOf_205 hl (k := 7) rfl (nI_add i 1) (by decide) rfl (fun ls hl => ?_)
              refine lv_goto (tgt := 28) F.1 F.2.1 dX14_costOf_208 (by decide) ?_
              exact ih_28 (i + 1) (sm + (4 + (kW (kd (pT kd vl (x0 z18) i)) + kT (kd (pT kd vl (x0 z18) i)) + kP (kd (pT kd vl (x0 z18) i))))) false (by omega) (by rw [spT, ← hs, ← hy, hpr9, bW]) (by rw [yT, ← hy, hkp9]) (by omega) _ _ _ hW hS (lv_sub hl [6, 7, 2, 1, 0] rfl)
            · refine lv_iconst (v := nI 1) F.1 F.2.1 dX14_costOf_130 rfl ?_
              refine lv_goto (tgt := 135) F.1 F.2.1 dX14_costOf_131 (by decide) ?_
              refine lv_istore (lv' := [(7, .int (nI 1)), (6, .int (nI 1)), (2, .int (nI (sm + ((kW (kd ((pT kd vl (x0 z18)) i)) + kT (kd ((pT kd vl (x0 z18)) i)) + kP (kd ((pT kd vl (x0 z18)) i))) + 4)))), (5, .int (nI (kd ((pT kd vl (x0 z18)) i)))), (0, .ref o), (1, .int (nI 3)), (3, .int (bI false)), (4, .int (nI i))]) F.1 F.2.1 dX14_costOf_135 hl (by decide) rfl (fun ls hl => ?_)
              refine lv_iload_n F.1 F.2.1 dX14_costOf_137 rfl (lv_at hl 2 rfl) ?_
              refine lv_iload_n F.1 F.2.1 dX14_costOf_138 rfl (lv_at hl 6 rfl) ?_
              refine gIfEqB (tgt := 151) F dX14_costOf_139 (by decide) (fun c_139 => ?_) (fun q => by simp at q)
              refine lv_iconst (v := nI 0) F.1 F.2.1 dX14_costOf_151 rfl ?_
              refine lv_iload_n F.1 F.2.1 dX14_costOf_152 rfl (lv_at hl 6 rfl) ?_
              refine gIfEqB (tgt := 170) F dX14_costOf_153 (by decide) (fun c_153 => ?_) (fun q => by simp at q)
              refine lv_iconst (v := nI 0) F.1 F.2.1 dX14_costOf_170 rfl ?_
              refine gAdd F dX14_costOf_171 ?_
              refine lv_iload F.1 F.2.1 dX14_costOf_172 (lv_at hl 0 rfl) ?_
              refine gIfEq (tgt := 181) F (by decide) dX14_costOf_174 (by decide) (fun c_174 => by exfalso; omega) (fun c_174 => ?_)
              refine lv_iconst (v := -1) F.1 F.2.1 dX14_costOf_177 rfl ?_
              refine lv_goto (tgt := 182) F.1 F.2.1 dX14_costOf_178 (by decide) ?_
              refine lv_iadd F.1 F.2.1 dX14_costOf_182 ?_
              refine lv_iadd F.1 F.2.1 dX14_costOf_183 ?_
              have ht9 : (0 < kT (kd (pT kd vl (x0 z18) i))) = True := by exact eq_true (by omega)
              have ht0 : (kT (kd (pT kd vl (x0 z18) i)) = 0) = False := by exact eq_false (by omega)
              have hq9 : (0 < kP (kd (pT kd vl (x0 z18) i))) = True := by exact eq_true (by omega)
              have hpr9 : kPr false (kd (pT kd vl (x0 z18) i)) = 3 := by simp [kPr, ht9, ht0, hq9]
              have hkp9 : kKp false (kd (pT kd vl (x0 z18) i)) = true := by simp [kKp, ht9, hq9]
              refine gTop (y := nI (sm + (3 + (kW (kd (pT kd vl (x0 z18) i)) + kT (kd (pT kd vl (x0 z18) i)) + kP (kd (pT kd vl (x0 z18) i)))))) (nI_adj 1 (by omega) (by decide)) ?_
              refine lv_istore_n (lv' := [(2, .int (nI (sm + (3 + (kW (kd (pT kd vl (x0 z18) i)) + kT (kd (pT kd vl (x0 z18) i)) + kP (kd (pT kd vl (x0 z18) i))))))), (7, .int (nI 1)), (6, .int (nI 1)), (5, .int (nI (kd ((pT kd vl (x0 z18)) i)))), (0, .ref o), (1, .int (nI 3)), (3, .int (bI false)), (4, .int (nI i))]) F.1 F.2.1 dX14_costOf_184 rfl hl (by decide) rfl (fun ls hl => ?_)
              refine lv_iload F.1 F.2.1 dX14_costOf_185 (lv_at hl 1 rfl) ?_
              refine gIfNe (tgt := 199) F (by decide) dX14_costOf_187 (by decide) (fun c_187 => ?_) (fun c_187 => by exfalso; omega)
              refine lv_iconst (v := nI 1) F.1 F.2.1 dX14_costOf_199 rfl ?_
              refine lv_goto (tgt := 204) F.1 F.2.1 dX14_costOf_200 (by decide) ?_
              refine gTop (y := bI true) rfl ?_
              refine lv_istore_n (lv' := [(3, .int (bI true)), (2, .int (nI (sm + (3 + (kW (kd (pT kd vl (x0 z18) i)) + kT (kd (pT kd vl (x0 z18) i)) + kP (kd (pT kd vl (x0 z18) i))))))), (7, .int (nI 1)), (6, .int (nI 1)), (5, .int (nI (kd ((pT kd vl (x0 z18)) i)))), (0, .ref o), (1, .int (nI 3)), (4, .int (nI i))]) F.1 F.2.1 dX14_costOf_204 rfl hl (by decide) rfl (fun ls hl => ?_)
              refine lv_iinc (v := nI (i + 1)) (lv' := [(4, .int (nI (i + 1))), (3, .int (bI true)), (2, .int (nI (sm + (3 + (kW (kd (pT kd vl (x0 z18) i)) + kT (kd (pT kd vl (x0 z18) i)) + kP (kd (pT kd vl (x0 z18) i))))))), (7, .int (nI 1)), (6, .int (nI 1)), (5, .int (nI (kd ((pT kd vl (x0 z18)) i)))), (0, .ref o), (1, .int (nI 3))]) F.1 F.2.1 dX14_costOf_205 hl (k := 7) rfl (nI_add i 1) (by decide) rfl (fun ls hl => ?_)
              refine lv_goto (tgt := 28) F.1 F.2.1 dX14_costOf_208 (by decide) ?_
              exact ih_28 (i + 1) (sm + (3 + (kW (kd (pT kd vl (x0 z18) i)) + kT (kd (pT kd vl (x0 z18) i)) + kP (kd (pT kd vl (x0 z18) i))))) true (by omega) (by rw [spT, ← hs, ← hy, hpr9, bW]) (by rw [yT, ← hy, hkp9]) (by omega) _ _ _ hW hS (lv_sub hl [6, 7, 2, 1, 0] rfl)
        · refine gGet F hG hW nX14_costOf_X14 0 rfl rfl 4 (by decide) mX14_costOf_2 rfl dX14_costOf_38 ?_
          refine gGetN F hG hW nX14_costOf_X12 2 rfl rfl 2 (by decide) fX14_costOf_201 rfl dX14_costOf_41 ?_
          refine lv_aload_n F.1 F.2.1 dX14_costOf_44 rfl (lv_at hl 0 rfl) ?_
          refine gGet F hG hW nX14_costOf_X14 0 rfl rfl 22 (by decide) mX14_costOf_3 rfl dX14_costOf_45 ?_
          refine lv_iload F.1 F.2.1 dX14_costOf_48 (lv_at hl 4 rfl) ?_
          refine gLdI F hG hW 1 rfl (by omega) (by decide) dX14_costOf_50 ?_
          refine gTop (y := nI (sp i)) rfl ?_
          refine gTop (y := nI ((pT kd vl (x0 z18)) i)) (congrArg nI (hsp i (by omega))) ?_
          refine gLdI F hG hW 3 rfl (by omega) (by decide) dX14_costOf_51 ?_
          refine gTop (y := nI (kdm ((pT kd vl (x0 z18)) i))) rfl ?_
          refine gTop (y := nI (kd ((pT kd vl (x0 z18)) i))) (congrArg nI (hak ((pT kd vl (x0 z18)) i) hp9)) ?_
          refine lv_istore (lv' := [(5, .int (nI (kd ((pT kd vl (x0 z18)) i)))), (0, .ref o), (1, .int (nI 3)), (2, .int (nI sm)), (3, .int (bI true)), (4, .int (nI i))]) F.1 F.2.1 dX14_costOf_52 hl (by decide) rfl (fun ls hl => ?_)
          refine lv_iload_n F.1 F.2.1 dX14_costOf_54 rfl (lv_at hl 3 rfl) ?_
          refine lv_iload F.1 F.2.1 dX14_costOf_55 (lv_at hl 0 rfl) ?_
          refine gS_i (n := 1) (As := [.int (nI (kd ((pT kd vl (x0 z18)) i)))]) F hG hS hW (c_X14_base g l  hk15) rfl gX14_costOf_X14_base (by decide +kernel) ⟨rfl, rfl, Nat.le_of_ble_eq_true rfl, Nat.le_of_ble_eq_true rfl⟩ hl.1 (Nat.le_of_ble_eq_true rfl) ⟨Nat.le_of_ble_eq_true rfl, Nat.le_of_ble_eq_true rfl⟩ rfl rfl dX14_costOf_57 (fun r u H locs hq hW hS => ?_)
          obtain ⟨rfl, rfl⟩ := hq
          have hW : gW g ((o, .inr (11, [.int (nI z0), .int (nI z1), .int z2, .int (nI z3), .ref z4, .ref z5, .int (bI z6), .ref z7, .ref z8, .int (nI z9), .int (nI z10), .int (nI z11), .int (nI z12), .int (nI z13), .int (nI z14), .int (nI z15), .long (lN z16), .ref z17, .int z18, .int (nI z19), .ref z20, .ref z21, .ref z22, .ref z23, .ref z24, .ref z25, .int (nI (rnM kd vl n fu z18)), .int (nI z27), .int (nI z28), .int z29, .int (nI ((rX kd vl n fu z18).2.2.2.2.2.1)), .int (nI z31), .ref z32, .ref z33, .ref z34, .ref z35, .ref z36, .int (bI z37), .int (nI z38), .int (nI z39), .int (nI z40), .int (nI z41), .int (nI z42), .int (nI z43), .int (nI z44), .int (nI z45), .int (nI z46), .ref z47, .ref z48, .ref z49, .ref z50, .ref z51, .ref z52, .int z53, .ref z54])) :: (z22, .inl (g.2.1 0, 5000, .inl (nA sp))) :: (z4, .inr (9, [.int (nI n), .int (nI mm), .ref pk, .ref pv, .ref pl, .ref pa, .ref pt, .ref pm, .ref pi])) :: (pk, .inl (g.2.1 0, 100, .inl (nA kdm))) :: R) _ := hW
          refine lv_iload_n F.1 F.2.1 dX14_costOf_60 rfl (lv_at hl 2 rfl) ?_
          refine gIfNe (tgt := 69) F (by decide) dX14_costOf_61 (by decide) (fun c_61 => ?_) (fun c_61 => by exfalso; omega)
          refine lv_iload_n F.1 F.2.1 dX14_costOf_69 rfl (lv_at hl 2 rfl) ?_
          refine lv_iconst (v := nI 2) F.1 F.2.1 dX14_costOf_70 rfl ?_
          refine gNe (tgt := 93) F (by decide) (by decide) dX14_costOf_71 (by decide) (fun c_71 => ?_) (fun c_71 => by exfalso; omega)
          refine lv_iconst (v := nI 4) F.1 F.2.1 dX14_costOf_93 rfl ?_
          refine gAdd F dX14_costOf_94 ?_
          refine gAdd F dX14_costOf_95 ?_
          refine lv_istore_n (lv' := [(2, .int (nI (sm + ((kW (kd ((pT kd vl (x0 z18)) i)) + kT (kd ((pT kd vl (x0 z18)) i)) + kP (kd ((pT kd vl (x0 z18)) i))) + 4)))), (5, .int (nI (kd ((pT kd vl (x0 z18)) i)))), (0, .ref o), (1, .int (nI 3)), (3, .int (bI true)), (4, .int (nI i))]) F.1 F.2.1 dX14_costOf_96 rfl hl (by decide) rfl (fun ls hl => ?_)
          refine lv_iload_n F.1 F.2.1 dX14_costOf_97 rfl (lv_at hl 3 rfl) ?_
          refine lv_iconst (v := nI 3) F.1 F.2.1 dX14_costOf_98 rfl ?_
          refine gEq (tgt := 105) F (by decide) (by decide) dX14_costOf_99 (by decide) (fun c_99 => ?_) (fun c_99 => by exfalso; omega)
          have hkt9 := kT_lt (kd (pT kd vl (x0 z18) i))
          have hkp0 := kP_lt (kd (pT kd vl (x0 z18) i))
          refine gsTakes F hG hS mX14_costOf_5 dX14_costOf_105 ?_
          refine lv_iload F.1 F.2.1 dX14_costOf_108 (lv_at hl 1 rfl) ?_
          refine gLdTakes F hG hS (by omega) dX14_costOf_110 ?_
          refine gIfLe (tgt := 118) F (by omega) dX14_costOf_111 (by decide) (fun c_111 => ?_) (fun c_111 => ?_)
          · refine lv_iconst (v := nI 0) F.1 F.2.1 dX14_costOf_118 rfl ?_
            refine lv_istore (lv' := [(6, .int (nI 0)), (2, .int (nI (sm + ((kW (kd ((pT kd vl (x0 z18)) i)) + kT (kd ((pT kd vl (x0 z18)) i)) + kP (kd ((pT kd vl (x0 z18)) i))) + 4)))), (5, .int (nI (kd ((pT kd vl (x0 z18)) i)))), (0, .ref o), (1, .int (nI 3)), (3, .int (bI true)), (4, .int (nI i))]) F.1 F.2.1 dX14_costOf_119 hl (by decide) rfl (fun ls hl => ?_)
            refine gsPuts F hG hS mX14_costOf_6 dX14_costOf_121 ?_
            refine lv_iload F.1 F.2.1 dX14_costOf_124 (lv_at hl 2 rfl) ?_
            refine gLdPuts F hG hS (by omega) dX14_costOf_126 ?_
            refine gIfLe (tgt := 134) F (by omega) dX14_costOf_127 (by decide) (fun c_127 => ?_) (fun c_127 => ?_)
            · refine lv_iconst (v := nI 0) F.1 F.2.1 dX14_costOf_134 rfl ?_
              refine lv_istore (lv' := [(7, .int (nI 0)), (6, .int (nI 0)), (2, .int (nI (sm + ((kW (kd ((pT kd vl (x0 z18)) i)) + kT (kd ((pT kd vl (x0 z18)) i)) + kP (kd ((pT kd vl (x0 z18)) i))) + 4)))), (5, .int (nI (kd ((pT kd vl (x0 z18)) i)))), (0, .ref o), (1, .int (nI 3)), (3, .int (bI true)), (4, .int (nI i))]) F.1 F.2.1 dX14_costOf_135 hl (by decide) rfl (fun ls hl => ?_)
              refine lv_iload_n F.1 F.2.1 dX14_costOf_137 rfl (lv_at hl 2 rfl) ?_
              refine lv_iload_n F.1 F.2.1 dX14_costOf_138 rfl (lv_at hl 6 rfl) ?_
              refine gIfEqB (tgt := 151) F dX14_costOf_139 (by decide) (fun q => by simp at q) (fun c_139 => ?_)
              refine lv_iload F.1 F.2.1 dX14_costOf_142 (lv_at hl 1 rfl) ?_
              refine gIfEq (tgt := 151) F (by decide) dX14_costOf_144 (by decide) (fun c_144 => ?_) (fun c_144 => by exfalso; omega)
              refine lv_iconst (v := nI 0) F.1 F.2.1 dX14_costOf_151 rfl ?_
              refine lv_iload_n F.1 F.2.1 dX14_costOf_152 rfl (lv_at hl 6 rfl) ?_
              refine gIfEqB (tgt := 170) F dX14_costOf_153 (by decide) (fun q => by simp at q) (fun c_153 => ?_)
              refine lv_iload F.1 F.2.1 dX14_costOf_156 (lv_at hl 1 rfl) ?_
              refine gIfNe (tgt := 170) F (by decide) dX14_costOf_158 (by decide) (fun c_158 => by exfalso; omega) (fun c_158 => ?_)
              refine lv_iload F.1 F.2.1 dX14_costOf_161 (lv_at hl 0 rfl) ?_
              refine gIfEq (tgt := 170) F (by decide) dX14_costOf_163 (by decide) (fun c_163 => ?_) (fun c_163 => by exfalso; omega)
              refine lv_iconst (v := nI 0) F.1 F.2.1 dX14_costOf_170 rfl ?_
              refine gAdd F dX14_costOf_171 ?_
              refine lv_iload F.1 F.2.1 dX14_costOf_172 (lv_at hl 0 rfl) ?_
              refine gIfEq (tgt := 181) F (by decide) dX14_costOf_174 (by decide) (fun c_174 => ?_) (fun c_174 => by exfalso; omega)
              refine lv_iconst (v := nI 0) F.1 F.2.1 dX14_costOf_181 rfl ?_
              refine gAdd F dX14_costOf_182 ?_
              refine gAdd F dX14_costOf_183 ?_
              have ht9 : (0 < kT (kd (pT kd vl (x0 z18) i))) = False := by exact eq_false (by omega)
              have ht0 : (kT (kd (pT kd vl (x0 z18) i)) = 0) = True := by exact eq_true (by omega)
              have hq9 : (0 < kP (kd (pT kd vl (x0 z18) i))) = False := by exact eq_false (by omega)
              have hpr9 : kPr true (kd (pT kd vl (x0 z18) i)) = 4 := by simp [kPr, ht9, ht0, hq9]
              have hkp9 : kKp true (kd (pT kd vl (x0 z18) i)) = true := by simp [kKp, ht9, hq9]
              refine gTop (y := nI (sm + (4 + (kW (kd (pT kd vl (x0 z18) i)) + kT (kd (pT kd vl (x0 z18) i)) + kP (kd (pT kd vl (x0 z18) i)))))) (congrArg nI (by omega)) ?_
              refine lv_istore_n (lv' := [(2, .int (nI (sm + (4 + (kW (kd (pT kd vl (x0 z18) i)) + kT (kd (pT kd vl (x0 z18) i)) + kP (kd (pT kd vl (x0 z18) i))))))), (7, .int (nI 0)), (6, .int (nI 0)), (5, .int (nI (kd ((pT kd vl (x0 z18)) i)))), (0, .ref o), (1, .int (nI 3)), (3, .int (bI true)), (4, .int (nI i))]) F.1 F.2.1 dX14_costOf_184 rfl hl (by decide) rfl (fun ls hl => ?_)
              refine lv_iload F.1 F.2.1 dX14_costOf_185 (lv_at hl 1 rfl) ?_
              refine gIfNe (tgt := 199) F (by decide) dX14_costOf_187 (by decide) (fun c_187 => by exfalso; omega) (fun c_187 => ?_)
              refine lv_iload_n F.1 F.2.1 dX14_costOf_190 rfl (lv_at hl 6 rfl) ?_
              refine gIfEqB (tgt := 203) F dX14_costOf_191 (by decide) (fun q => by simp at q) (fun c_191 => ?_)
              refine lv_iload F.1 F.2.1 dX14_costOf_194 (lv_at hl 2 rfl) ?_
              refine gIfNe (tgt := 203) F (by decide) dX14_costOf_196 (by decide) (fun c_196 => by exfalso; omega) (fun c_196 => ?_)
              refine lv_iconst (v := nI 1) F.1 F.2.1 dX14_costOf_199 rfl ?_
              refine lv_goto (tgt := 204) F.1 F.2.1 dX14_costOf_200 (by decide) ?_
              refine gTop (y := bI true) rfl ?_
              refine lv_istore_n (lv' := [(3, .int (bI true)), (2, .int (nI (sm + (4 + (kW (kd (pT kd vl (x0 z18) i)) + kT (kd (pT kd vl (x0 z18) i)) + kP (kd (pT kd vl (x0 z18) i))))))), (7, .int (nI 0)), (6, .int (nI 0)), (5, .int (nI (kd ((pT kd vl (x0 z18)) i)))), (0, .ref o), (1, .int (nI 3)), (4, .int (nI i))]) F.1 F.2.1 dX14_costOf_204 rfl hl (by decide) rfl (fun ls hl => ?_)
              refine lv_iinc (v := nI (i + 1)) (lv' := [(4, .int (nI (i + 1))), (3, .int (bI true)), (2, .int (nI (sm + (4 + (kW (kd (pT kd vl (x0 z18) i)) + kT (kd (pT kd vl (x0 z18) i)) + kP (kd (pT kd vl (x0 z18) i))))))), (7, .int (nI 0)), (6, .int (nI 0)), (5, .int (nI (kd ((pT kd vl (x0 z18)) i)))), (0, .ref o), (1, .int (nI 3))]) F.1 F.2.1 dX14_costOf_205 hl (k := 7) rfl (nI_add i 1) (by decide) rfl (fun ls hl => ?_)
              refine lv_goto (tgt := 28) F.1 F.2.1 dX14_costOf_208 (by decide) ?_
              exact ih_28 (i + 1) (sm + (4 + (kW (kd (pT kd vl (x0 z18) i)) + kT (kd (pT kd vl (x0 z18) i)) + kP (kd (pT kd vl (x0 z18) i))))) true (by omega) (by rw [spT, ← hs, ← hy, hpr9, bW]) (by rw [yT, ← hy, hkp9]) (by omega) _ _ _ hW hS (lv_sub hl [6, 7, 2, 1, 0] rfl)
            · refine lv_iconst (v := nI 1) F.1 F.2.1 dX14_costOf_130 rfl ?_
              refine lv_goto (tgt := 135) F.1 F.2.1 dX14_costOf_131 (by decide) ?_
              refine lv_istore (lv' := [(7, .int (nI 1)), (6, .int (nI 0)), (2, .int (nI (sm + ((kW (kd ((pT kd vl (x0 z18)) i)) + kT (kd ((pT kd vl (x0 z18)) i)) + kP (kd ((pT kd vl (x0 z18)) i))) + 4)))), (5, .int (nI (kd ((pT kd vl (x0 z18)) i)))), (0, .ref o), (1, .int (nI 3)), (3, .int (bI true)), (4, .int (nI i))]) F.1 F.2.1 dX14_costOf_135 hl (by decide) rfl (fun ls hl => ?_)
              refine lv_iload_n F.1 F.2.1 dX14_costOf_137 rfl (lv_at hl 2 rfl) ?_
              refine lv_iload_n F.1 F.2.1 dX14_costOf_138 rfl (lv_at hl 6 rfl) ?_
              refine gIfEqB (tgt := 151) F dX14_costOf_139 (by decide) (fun q => by simp at q) (fun c_139 => ?_)
              refine lv_iload F.1 F.2.1 dX14_costOf_142 (lv_at hl 1 rfl) ?_
              refine gIfEq (tgt := 151) F (by decide) dX14_costOf_144 (by decide) (fun c_144 => ?_) (fun c_144 => by exfalso; omega)
              refine lv_iconst (v := nI 0) F.1 F.2.1 dX14_costOf_151 rfl ?_
              refine lv_iload_n F.1 F.2.1 dX14_costOf_152 rfl (lv_at hl 6 rfl) ?_
              refine gIfEqB (tgt := 170) F dX14_costOf_153 (by decide) (fun q => by simp at q) (fun c_153 => ?_)
              refine lv_iload F.1 F.2.1 dX14_costOf_156 (lv_at hl 1 rfl) ?_
              refine gIfNe (tgt := 170) F (by decide) dX14_costOf_158 (by decide) (fun c_158 => by exfalso; omega) (fun c_158 => ?_)
              refine lv_iload F.1 F.2.1 dX14_costOf_161 (lv_at hl 0 rfl) ?_
              refine gIfEq (tgt := 170) F (by decide) dX14_costOf_163 (by decide) (fun c_163 => by exfalso; omega) (fun c_163 => ?_)
              refine lv_iconst (v := nI 1) F.1 F.2.1 dX14_costOf_166 rfl ?_
              refine lv_goto (tgt := 171) F.1 F.2.1 dX14_costOf_167 (by decide) ?_
              refine gAdd F dX14_costOf_171 ?_
              refine lv_iload F.1 F.2.1 dX14_costOf_172 (lv_at hl 0 rfl) ?_
              refine gIfEq (tgt := 181) F (by decide) dX14_costOf_174 (by decide) (fun c_174 => by exfalso; omega) (fun c_174 => ?_)
              refine lv_iconst (v := -1) F.1 F.2.1 dX14_costOf_177 rfl ?_
              refine lv_goto (tgt := 182) F.1 F.2.1 dX14_costOf_178 (by decide) ?_
              refine lv_iadd F.1 F.2.1 dX14_costOf_182 ?_
              refine lv_iadd F.1 F.2.1 dX14_costOf_183 ?_
              have ht9 : (0 < kT (kd (pT kd vl (x0 z18) i))) = False := by exact eq_false (by omega)
              have ht0 : (kT (kd (pT kd vl (x0 z18) i)) = 0) = True := by exact eq_true (by omega)
              have hq9 : (0 < kP (kd (pT kd vl (x0 z18) i))) = True := by exact eq_true (by omega)
              have hpr9 : kPr true (kd (pT kd vl (x0 z18) i)) = 4 := by simp [kPr, ht9, ht0, hq9]
              have hkp9 : kKp true (kd (pT kd vl (x0 z18) i)) = true := by simp [kKp, ht9, hq9]
              refine gTop (y := nI (sm + (4 + (kW (kd (pT kd vl (x0 z18) i)) + kT (kd (pT kd vl (x0 z18) i)) + kP (kd (pT kd vl (x0 z18) i)))))) (nI_adj 0 (by omega) (by decide)) ?_
              refine lv_istore_n (lv' := [(2, .int (nI (sm + (4 + (kW (kd (pT kd vl (x0 z18) i)) + kT (kd (pT kd vl (x0 z18) i)) + kP (kd (pT kd vl (x0 z18) i))))))), (7, .int (nI 1)), (6, .int (nI 0)), (5, .int (nI (kd ((pT kd vl (x0 z18)) i)))), (0, .ref o), (1, .int (nI 3)), (3, .int (bI true)), (4, .int (nI i))]) F.1 F.2.1 dX14_costOf_184 rfl hl (by decide) rfl (fun ls hl => ?_)
              refine lv_iload F.1 F.2.1 dX14_costOf_185 (lv_at hl 1 rfl) ?_
              refine gIfNe (tgt := 199) F (by decide) dX14_costOf_187 (by decide) (fun c_187 => ?_) (fun c_187 => by exfalso; omega)
              refine lv_iconst (v := nI 1) F.1 F.2.1 dX14_costOf_199 rfl ?_
              refine lv_goto (tgt := 204) F.1 F.2.1 dX14_costOf_200 (by decide) ?_
              refine gTop (y := bI true) rfl ?_
              refine lv_istore_n (lv' := [(3, .int (bI true)), (2, .int (nI (sm + (4 + (kW (kd (pT kd vl (x0 z18) i)) + kT (kd (pT kd vl (x0 z18) i)) + kP (kd (pT kd vl (x0 z18) i))))))), (7, .int (nI 1)), (6, .int (nI 0)), (5, .int (nI (kd ((pT kd vl (x0 z18)) i)))), (0, .ref o), (1, .int (nI 3)), (4, .int (nI i))]) F.1 F.2.1 dX14_costOf_204 rfl hl (by decide) rfl (fun ls hl => ?_)
              refine lv_iinc (v := nI (i + 1)) (lv' := [(4, .int (nI (i + 1))), (3, .int (bI true)), (2, .int (nI (sm + (4 + (kW (kd (pT kd vl (x0 z18) i)) + kT (kd (pT kd vl (x0 z18) i)) + kP (kd (pT kd vl (x0 z18) i))))))), (7, .int (nI 1)), (6, .int (nI 0)), (5, .int (nI (kd ((pT kd vl (x0 z18)) i)))), (0, .ref o), (1, .int (nI 3))]) F.1 F.2.1 dX14_costOf_205 hl (k := 7) rfl (nI_add i 1) (by decide) rfl (fun ls hl => ?_)
              refine lv_goto (tgt := 28) F.1 F.2.1 dX14_costOf_208 (by decide) ?_
              exact ih_28 (i + 1) (sm + (4 + (kW (kd (pT kd vl (x0 z18) i)) + kT (kd (pT kd vl (x0 z18) i)) + kP (kd (pT kd vl (x0 z18) i))))) true (by omega) (by rw [spT, ← hs, ← hy, hpr9, bW]) (by rw [yT, ← hy, hkp9]) (by omega) _ _ _ hW hS (lv_sub hl [6, 7, 2, 1, 0] rfl)
          · refine lv_iconst (v := nI 1) F.1 F.2.1 dX14_costOf_114 rfl ?_
            refine lv_goto (tgt := 119) F.1 F.2.1 dX14_costOf_115 (by decide) ?_
            refine lv_istore (lv' := [(6, .int (nI 1)), (2, .int (nI (sm + ((kW (kd ((pT kd vl (x0 z18)) i)) + kT (kd ((pT kd vl (x0 z18)) i)) + kP (kd ((pT kd vl (x0 z18)) i))) + 4)))), (5, .int (nI (kd ((pT kd vl (x0 z18)) i)))), (0, .ref o), (1, .int (nI 3)), (3, .int (bI true)), (4, .int (nI i))]) F.1 F.2.1 dX14_costOf_119 hl (by decide) rfl (fun ls hl => ?_)
            refine gsPuts F hG hS mX14_costOf_6 dX14_costOf_121 ?_
            refine lv_iload F.1 F.2.1 dX14_costOf_124 (lv_at hl 2 rfl) ?_
            refine gLdPuts F hG hS (by omega) dX14_costOf_126 ?_
            refine gIfLe (tgt := 134) F (by omega) dX14_costOf_127 (by decide) (fun c_127 => ?_) (fun c_127 => ?_)
            · refine lv_iconst (v := nI 0) F.1 F.2.1 dX14_costOf_134 rfl ?_
              refine lv_istore (lv' := [(7, .int (nI 0)), (6, .int (nI 1)), (2, .int (nI (sm + ((kW (kd ((pT kd vl (x0 z18)) i)) + kT (kd ((pT kd vl (x0 z18)) i)) + kP (kd ((pT kd vl (x0 z18)) i))) + 4)))), (5, .int (nI (kd ((pT kd vl (x0 z18)) i)))), (0, .ref o), (1, .int (nI 3)), (3, .int (bI true)), (4, .int (nI i))]) F.1 F.2.1 dX14_costOf_135 hl (by decide) rfl (fun ls hl => ?_)
              refine lv_iload_n F.1 F.2.1 dX14_costOf_137 rfl (lv_at hl 2 rfl) ?_
              refine lv_iload_n F.1 F.2.1 dX14_costOf_138 rfl (lv_at hl 6 rfl) ?_
              refine gIfEqB (tgt := 151) F dX14_costOf_139 (by decide) (fun q => by simp at q) (fun c_139 => ?_)
              refine lv_iload F.1 F.2.1 dX14_costOf_142 (lv_at hl 1 rfl) ?_
              refine gIfEq (tgt := 151) F (by decide) dX14_costOf_144 (by decide) (fun c_144 => by exfalso; omega) (fun c_144 => ?_)
              refine lv_iconst (v := -1) F.1 F.2.1 dX14_costOf_147 rfl ?_
              refine lv_goto (tgt := 152) F.1 F.2.1 dX14_costOf_148 (by decide) ?_
              refine lv_iload_n F.1 F.2.1 dX14_costOf_152 rfl (lv_at hl 6 rfl) ?_
              refine gIfEqB (tgt := 170) F dX14_costOf_153 (by decide) (fun q => by simp at q) (fun c_153 => ?_)
              refine lv_iload F.1 F.2.1 dX14_costOf_156 (lv_at hl 1 rfl) ?_
              refine gIfNe (tgt := 170) F (by decide) dX14_costOf_158 (by decide) (fun c_158 => ?_) (fun c_158 => by exfalso; omega)
              refine lv_iconst (v := nI 0) F.1 F.2.1 dX14_costOf_170 rfl ?_
              refine lv_iadd F.1 F.2.1 dX14_costOf_171 ?_
              refine lv_iload F.1 F.2.1 dX14_costOf_172 (lv_at hl 0 rfl) ?_
              refine gIfEq (tgt := 181) F (by decide) dX14_costOf_174 (by decide) (fun c_174 => ?_) (fun c_174 => by exfalso; omega)
              refine lv_iconst (v := nI 0) F.1 F.2.1 dX14_costOf_181 rfl ?_
              refine lv_iadd F.1 F.2.1 dX14_costOf_182 ?_
              refine lv_iadd F.1 F.2.1 dX14_costOf_183 ?_
              have ht9 : (0 < kT (kd (pT kd vl (x0 z18) i))) = True := by exact eq_true (by omega)
              have ht0 : (kT (kd (pT kd vl (x0 z18) i)) = 0) = False := by exact eq_false (by omega)
              have hq9 : (0 < kP (kd (pT kd vl (x0 z18) i))) = False := by exact eq_false (by omega)
              have hpr9 : kPr true (kd (pT kd vl (x0 z18) i)) = 3 := by simp [kPr, ht9, ht0, hq9]
              have hkp9 : kKp true (kd (pT kd vl (x0 z18) i)) = false := by simp [kKp, ht9, hq9]
              refine gTop (y := nI (sm + (3 + (kW (kd (pT kd vl (x0 z18) i)) + kT (kd (pT kd vl (x0 z18) i)) + kP (kd (pT kd vl (x0 z18) i)))))) (nI_adj 1 (by omega) (by decide)) ?_
              refine lv_istore_n (lv' := [(2, .int (nI (sm + (3 + (kW (kd (pT kd vl (x0 z18) i)) + kT (kd (pT kd vl (x0 z18) i)) + kP (kd (pT kd vl (x0 z18) i))))))), (7, .int (nI 0)), (6, .int (nI 1)), (5, .int (nI (kd ((pT kd vl (x0 z18)) i)))), (0, .ref o), (1, .int (nI 3)), (3, .int (bI true)), (4, .int (nI i))]) F.1 F.2.1 dX14_costOf_184 rfl hl (by decide) rfl (fun ls hl => ?_)
              refine lv_iload F.1 F.2.1 dX14_costOf_185 (lv_at hl 1 rfl) ?_
              refine gIfNe (tgt := 199) F (by decide) dX14_costOf_187 (by decide) (fun c_187 => by exfalso; omega) (fun c_187 => ?_)
              refine lv_iload_n F.1 F.2.1 dX14_costOf_190 rfl (lv_at hl 6 rfl) ?_
              refine gIfEqB (tgt := 203) F dX14_costOf_191 (by decide) (fun q => by simp at q) (fun c_191 => ?_)
              refine lv_iload F.1 F.2.1 dX14_costOf_194 (lv_at hl 2 rfl) ?_
              refine gIfNe (tgt := 203) F (by decide) dX14_costOf_196 (by decide) (fun c_196 => ?_) (fun c_196 => by exfalso; omega)
              refine lv_iconst (v := nI 0) F.1 F.2.1 dX14_costOf_203 rfl ?_
              refine gTop (y := bI false) rfl ?_
              refine lv_istore_n (lv' := [(3, .int (bI false)), (2, .int (nI (sm + (3 + (kW (kd (pT kd vl (x0 z18) i)) + kT (kd (pT kd vl (x0 z18) i)) + kP (kd (pT kd vl (x0 z18) i))))))), (7, .int (nI 0)), (6, .int (nI 1)), (5, .int (nI (kd ((pT kd vl (x0 z18)) i)))), (0, .ref o), (1, .int (nI 3)), (4, .int (nI i))]) F.1 F.2.1 dX14_costOf_204 rfl hl (by decide) rfl (fun ls hl => ?_)
              refine lv_iinc (v := nI (i + 1)) (lv' := [(4, .int (nI (i + 1))), (3, .int (bI false)), (2, .int (nI (sm + (3 + (kW (kd (pT kd vl (x0 z18) i)) + kT (kd (pT kd vl (x0 z18) i)) + kP (kd (pT kd vl (x0 z18) i))))))), (7, .int (nI 0)), (6, .int (nI 1)), (5, .int (nI (kd ((pT kd vl (x0 z18)) i)))), (0, .ref o), (1, .int (nI 3))]) F.1 F.2.1 dX14_costOf_205 hl (k := 7) rfl (nI_add i 1) (by decide) rfl (fun ls hl => ?_)
              refine lv_goto (tgt := 28) F.1 F.2.1 dX14_costOf_208 (by decide) ?_
              exact ih_28 (i + 1) (sm + (3 + (kW (kd (pT kd vl (x0 z18) i)) + kT (kd (pT kd vl (x0 z18) i)) + kP (kd (pT kd vl (x0 z18) i))))) false (by omega) (by rw [spT, ← hs, ← hy, hpr9, bW]) (by rw [yT, ← hy, hkp9]) (by omega) _ _ _ hW hS (lv_sub hl [6, 7, 2, 1, 0] rfl)
            · refine lv_iconst (v := nI 1) F.1 F.2.1 dX14_costOf_130 rfl ?_
              refine lv_goto (tgt := 135) F.1 F.2.1 dX14_costOf_131 (by decide) ?_
              refine lv_istore (lv' := [(7, .int (nI 1)), (6, .int (nI 1)), (2, .int (nI (sm + ((kW (kd ((pT kd vl (x0 z18)) i)) + kT (kd ((pT kd vl (x0 z18)) i)) + kP (kd ((pT kd vl (x0 z18)) i))) + 4)))), (5, .int (nI (kd ((pT kd vl (x0 z18)) i)))), (0, .ref o), (1, .int (nI 3)), (3, .int (bI true)), (4, .int (nI i))]) F.1 F.2.1 dX14_costOf_135 hl (by decide) rfl (fun ls hl => ?_)
              refine lv_iload_n F.1 F.2.1 dX14_costOf_137 rfl (lv_at hl 2 rfl) ?_
              refine lv_iload_n F.1 F.2.1 dX14_costOf_138 rfl (lv_at hl 6 rfl) ?_
              refine gIfEqB (tgt := 151) F dX14_costOf_139 (by decide) (fun q => by simp at q) (fun c_139 => ?_)
              refine lv_iload F.1 F.2.1 dX14_costOf_142 (lv_at hl 1 rfl) ?_
              refine gIfEq (tgt := 151) F (by decide) dX14_costOf_144 (by decide) (fun c_144 => by exfalso; omega) (fun c_144 => ?_)
              refine lv_iconst (v := -1) F.1 F.2.1 dX14_costOf_147 rfl ?_
              refine lv_goto (tgt := 152) F.1 F.2.1 dX14_costOf_148 (by decide) ?_
              refine lv_iload_n F.1 F.2.1 dX14_costOf_152 rfl (lv_at hl 6 rfl) ?_
              refine gIfEqB (tgt := 170) F dX14_costOf_153 (by decide) (fun q => by simp at q) (fun c_153 => ?_)
              refine lv_iload F.1 F.2.1 dX14_costOf_156 (lv_at hl 1 rfl) ?_
              refine gIfNe (tgt := 170) F (by decide) dX14_costOf_158 (by decide) (fun c_158 => ?_) (fun c_158 => by exfalso; omega)
              refine lv_iconst (v := nI 0) F.1 F.2.1 dX14_costOf_170 rfl ?_
              refine lv_iadd F.1 F.2.1 dX14_costOf_171 ?_
              refine lv_iload F.1 F.2.1 dX14_costOf_172 (lv_at hl 0 rfl) ?_
              refine gIfEq (tgt := 181) F (by decide) dX14_costOf_174 (by decide) (fun c_174 => by exfalso; omega) (fun c_174 => ?_)
              refine lv_iconst (v := -1) F.1 F.2.1 dX14_costOf_177 rfl ?_
              refine lv_goto (tgt := 182) F.1 F.2.1 dX14_costOf_178 (by decide) ?_
              refine lv_iadd F.1 F.2.1 dX14_costOf_182 ?_
              refine lv_iadd F.1 F.2.1 dX14_costOf_183 ?_
              have ht9 : (0 < kT (kd (pT kd vl (x0 z18) i))) = True := by exact eq_true (by omega)
              have ht0 : (kT (kd (pT kd vl (x0 z18) i)) = 0) = False := by exact eq_false (by omega)
              have hq9 : (0 < kP (kd (pT kd vl (x0 z18) i))) = True := by exact eq_true (by omega)
              have hpr9 : kPr true (kd (pT kd vl (x0 z18) i)) = 2 := by simp [kPr, ht9, ht0, hq9]
              have hkp9 : kKp true (kd (pT kd vl (x0 z18) i)) = true := by simp [kKp, ht9, hq9]
              refine gTop (y := nI (sm + (2 + (kW (kd (pT kd vl (x0 z18) i)) + kT (kd (pT kd vl (x0 z18) i)) + kP (kd (pT kd vl (x0 z18) i)))))) (nI_adj 2 (by omega) (by decide)) ?_
              refine lv_istore_n (lv' := [(2, .int (nI (sm + (2 + (kW (kd (pT kd vl (x0 z18) i)) + kT (kd (pT kd vl (x0 z18) i)) + kP (kd (pT kd vl (x0 z18) i))))))), (7, .int (nI 1)), (6, .int (nI 1)), (5, .int (nI (kd ((pT kd vl (x0 z18)) i)))), (0, .ref o), (1, .int (nI 3)), (3, .int (bI true)), (4, .int (nI i))]) F.1 F.2.1 dX14_costOf_184 rfl hl (by decide) rfl (fun ls hl => ?_)
              refine lv_iload F.1 F.2.1 dX14_costOf_185 (lv_at hl 1 rfl) ?_
              refine gIfNe (tgt := 199) F (by decide) dX14_costOf_187 (by decide) (fun c_187 => ?_) (fun c_187 => by exfalso; omega)
              refine lv_iconst (v := nI 1) F.1 F.2.1 dX14_costOf_199 rfl ?_
              refine lv_goto (tgt := 204) F.1 F.2.1 dX14_costOf_200 (by decide) ?_
              refine gTop (y := bI true) rfl ?_
              refine lv_istore_n (lv' := [(3, .int (bI true)), (2, .int (nI (sm + (2 + (kW (kd (pT kd vl (x0 z18) i)) + kT (kd (pT kd vl (x0 z18) i)) + kP (kd (pT kd vl (x0 z18) i))))))), (7, .int (nI 1)), (6, .int (nI 1)), (5, .int (nI (kd ((pT kd vl (x0 z18)) i)))), (0, .ref o), (1, .int (nI 3)), (4, .int (nI i))]) F.1 F.2.1 dX14_costOf_204 rfl hl (by decide) rfl (fun ls hl => ?_)
              refine lv_iinc (v := nI (i + 1)) (lv' := [(4, .int (nI (i + 1))), (3, .int (bI true)), (2, .int (nI (sm + (2 + (kW (kd (pT kd vl (x0 z18) i)) + kT (kd (pT kd vl (x0 z18) i)) + kP (kd (pT kd vl (x0 z18) i))))))), (7, .int (nI 1)), (6, .int (nI 1)), (5, .int (nI (kd ((pT kd vl (x0 z18)) i)))), (0, .ref o), (1, .int (nI 3))]) F.1 F.2.1 dX14_costOf_205 hl (k := 7) rfl (nI_add i 1) (by decide) rfl (fun ls hl => ?_)
              refine lv_goto (tgt := 28) F.1 F.2.1 dX14_costOf_208 (by decide) ?_
              exact ih_28 (i + 1) (sm + (2 + (kW (kd (pT kd vl (x0 z18) i)) + kT (kd (pT kd vl (x0 z18) i)) + kP (kd (pT kd vl (x0 z18) i))))) true (by omega) (by rw [spT, ← hs, ← hy, hpr9, bW]) (by rw [yT, ← hy, hkp9]) (by omega) _ _ _ hW hS (lv_sub hl [6, 7, 2, 1, 0] rfl)
  exact L_28 _ 0 0 false (by omega) rfl rfl (Nat.lt_succ_self _) _ _ _ hW hS (lv_sub hl [3, 4, 2, 1, 0] rfl)

