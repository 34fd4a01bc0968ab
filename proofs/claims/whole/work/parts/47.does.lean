/-! ===== the model: runs (written by wip/whole/gen/spec9.py) ===== -/
def stO (k ht : Nat) : Option Nat := if ht < kT k then some 2 else if 32 < ht - kT k + kP k then some 3 else none
theorem nI_bal {h a b : Nat} (hb : b ≤ h) : nI h + (nI a - nI b) = nI (h - b + a) := by
  rw [← nI_add, ← nI_sub hb, Int32.sub_eq_add_neg, Int32.sub_eq_add_neg, ← Int32.add_assoc, Int32.add_assoc, Int32.add_assoc]
  congr 1
  exact Int32.add_comm _ _
theorem upd_comm {f : Nat → Int32} {i j : Nat} {x y : Int32} (h : i ≠ j) : upd (upd f i x) j y = upd (upd f j y) i x := by
  funext q
  simp only [upd]
  by_cases h1 : q = i
  · rw [if_pos h1, if_neg (fun z => h (h1.symm.trans z)), if_pos h1]
  · rw [if_neg h1, if_neg h1]
theorem ahead_st {kd : Nat → Nat} {n pl st fuel ht : Nat} (h1 : pl < n) (h2 : st < fuel) : aheadS kd n pl st fuel ht = stO (kd pl) ht := by
  unfold aheadS stO
  rw [if_pos h1, if_neg (Nat.not_le.mpr h2)]
theorem ahead_4 {kd : Nat → Nat} {n pl st fuel ht : Nat} (h1 : ¬ pl < n) : aheadS kd n pl st fuel ht = some 4 := by
  unfold aheadS; rw [if_neg h1]
theorem ahead_1 {kd : Nat → Nat} {n pl st fuel ht : Nat} (h1 : pl < n) (h2 : fuel ≤ st) : aheadS kd n pl st fuel ht = some 1 := by
  unfold aheadS; rw [if_pos h1, if_pos h2]
section STPM
variable {kd vl : Nat → Nat} {n fu r i : Nat} {x : mS}
theorem stp_e {e : Nat} (h : aheadS kd n (mI kd vl x i).2.2.2.2.2.1 i fu (mI kd vl x i).2.1 = some e) : stp kd vl n fu x (r + 1) i = (i, e) := by rw [stp, h]
theorem stp_h (h : aheadS kd n (mI kd vl x i).2.2.2.2.2.1 i fu (mI kd vl x i).2.1 = none) (hk : kd (mI kd vl x i).2.2.2.2.2.1 = 14) : stp kd vl n fu x (r + 1) i = (i + 1, 0) := by rw [stp, h]; exact if_pos hk
theorem stp_n (h : aheadS kd n (mI kd vl x i).2.2.2.2.2.1 i fu (mI kd vl x i).2.1 = none) (hk : kd (mI kd vl x i).2.2.2.2.2.1 ≠ 14) : stp kd vl n fu x (r + 1) i = stp kd vl n fu x r (i + 1) := by rw [stp, h]; exact if_neg hk
end STPM
theorem mN_halt {kd vl : Nat → Nat} {x : mS} (hk : kd x.2.2.2.2.2.1 = 14) (hh : x.2.1 ≤ x.2.2.2.2.2.2) : mN kd vl x = x := by
  obtain ⟨nu, ht, ce, ou, oc, pl, hi⟩ := x
  simp only at hk hh
  unfold mN
  simp only [hk]
  show (nu, ht - 0 + 0, ce, ou, oc, pl, max hi (ht - 0 + 0)) = _
  rw [show ht - 0 + 0 = ht from rfl, Nat.max_eq_left hh]
theorem mI_hi {kd vl : Nat → Nat} {x : mS} (h : x.2.1 ≤ x.2.2.2.2.2.2) : ∀ i, (mI kd vl x i).2.1 ≤ (mI kd vl x i).2.2.2.2.2.2
  | 0 => h
  | i + 1 => Nat.le_max_right _ _
/-- a run of the model, in the trail's words: rx is where it stands, sp its steps -/
theorem rnC {kd vl : Nat → Nat} {n fu : Nat} {inp : Int32} {nu ou : Nat → Int32} {I e : Nat} {X : mS} {sp : Nat → Nat} (hZ : stp kd vl n fu (xS nu ou inp) (fu + 1) 0 = (I, e)) (hX : X = mI kd vl (xS nu ou inp) I) (hsp : ∀ j, j < I → sp j = pT kd vl (xS nu ou inp) j) :
    I = rnM kd vl n fu inp ∧ e = rnE kd vl n fu inp ∧ (∀ j, j < I → sp j = pT kd vl (x0 inp) j) ∧ X.2.1 = (rX kd vl n fu inp).2.1 ∧ X.2.2.1 = (rX kd vl n fu inp).2.2.1 ∧ X.2.2.2.2.1 = (rX kd vl n fu inp).2.2.2.2.1 ∧ X.2.2.2.2.2.1 = (rX kd vl n fu inp).2.2.2.2.2.1 ∧ X.2.2.2.2.2.2 = (rX kd vl n fu inp).2.2.2.2.2.2 ∧
      (∀ j, j < (rX kd vl n fu inp).2.1 → X.1 j = (rX kd vl n fu inp).1 j) ∧ (∀ j, j < (rX kd vl n fu inp).2.2.2.2.1 → j < 60 → X.2.2.2.1 j = (rX kd vl n fu inp).2.2.2.1 j) := by
  obtain ⟨g1, g2, g3⟩ := stp_sim (kd := kd) (vl := vl) (n := n) (fuel := fu) (x := xS nu ou inp) (y := x0 inp) (fu + 1) 0 (fun j hj => by rw [Nat.le_zero.mp hj]; exact xS_sim nu ou inp) (fun j hj => absurd hj (Nat.not_lt_zero j))
  rw [hZ] at g1
  have hI : I = rnM kd vl n fu inp := congrArg Prod.fst g1
  have he : e = rnE kd vl n fu inp := congrArg Prod.snd g1
  obtain ⟨s1, s2, s3, s4, s5, s6, s7⟩ := g2 I (by rw [hI]; exact Nat.le_refl _)
  have hr : rX kd vl n fu inp = mI kd vl (x0 inp) I := by rw [hI]; rfl
  rw [hr, hX]
  exact ⟨hI, he, fun j hj => (hsp j hj).trans (g2 j (by rw [hI] at hj; exact Nat.le_of_lt hj)).2.2.2.1, s1, s2, s3, s4, s5, fun j hj => s6 j (by rw [s1]; exact hj), fun j hj h60 => s7 j (by rw [s3]; exact hj) h60⟩

theorem plS_12t {v ht k : Nat} {nu : Nat → Int32} (h : nu (ht - 1) = 0) : plS 12 v nu ht k = v := by
  show (match (if nu (ht - 1) = 0 then some v else none : Option Nat) with | none => k + 1 | some t => t) = v
  rw [if_pos h]
theorem plS_12f {v ht k : Nat} {nu : Nat → Int32} (h : ¬ nu (ht - 1) = 0) : plS 12 v nu ht k = k + 1 := by
  show (match (if nu (ht - 1) = 0 then some v else none : Option Nat) with | none => k + 1 | some t => t) = k + 1
  rw [if_neg h]

theorem kW_o (k : Nat) (hk : k < 15) (h : k ≠ 7) : kW k = 1 := by
  have h9 : ∀ k, k < 15 → (k = 7 ∨ kW k = 1) := by decide
  exact (h9 k hk).resolve_left h

abbrev rm_X14_work : Room := ({ frames := 0, cells := 0, slots := 0, locals := 0 } : Room)
set_option maxRecDepth 100000 in
set_option maxHeartbeats 4000000 in
theorem c_X14_work (g : gC) (l : Launch) {k : Nat} {R : va_W} (hk : k < 15) : cI g l yX14_work wsX14_work rm_X14_work 0 0 [.int (nI k)] (R) (fun r u => (nI (kW k)) = r ∧ R = u) := by
  refine gEnterQ (cc := cX14_work) (maxL := 1) (ret := (some (.int))) (by decide +kernel) rfl (Nat.le_of_ble_eq_true rfl) ?_
  intro p e s m below meth c F hG hW ls hl
  have hS : va_S (gA g) s.heap s.heap [] := va_S.rf
  have hl : lv_has ls 1 [(0, .int (nI k))] := hl
  have hW : gW g (R) s.heap := hW
  refine lv_iload_n F.1 F.2.1 dX14_work_0 rfl (lv_at hl 0 rfl) ?_
  refine lv_bipush (v := nI 7) F.1 F.2.1 dX14_work_1 (by decide) ?_
  refine gNe (tgt := 10) F (by omega) (by omega) dX14_work_3 (by decide) (fun c_3 => ?_) (fun c_3 => ?_)
  · refine lv_iconst (v := nI 1) F.1 F.2.1 dX14_work_10 rfl ?_
    refine gRi F hW hS dX14_work_11 ?_
    exact ⟨congrArg nI (kW_o k hk c_3), rfl⟩
  · refine lv_iconst (v := nI 3) F.1 F.2.1 dX14_work_6 rfl ?_
    refine lv_goto (tgt := 11) F.1 F.2.1 dX14_work_7 (by decide) ?_
    refine gRi F hW hS dX14_work_11 ?_
    exact ⟨by rw [c_3]; rfl, rfl⟩

abbrev rm_X14_base : Room := ({ frames := 1, cells := 0, slots := 0, locals := 20 } : Room)
theorem mX14_base_1 : Cond.fieldLink RX14 265 "StepperHeartsModel" "TAKES" "[I" ∈ wsX14_base := List.mem_of_getElem? (i := 1) rfl
theorem mX14_base_2 : Cond.fieldLink RX14 268 "StepperHeartsModel" "PUTS" "[I" ∈ wsX14_base := List.mem_of_getElem? (i := 2) rfl
set_option maxRecDepth 100000 in
set_option maxHeartbeats 4000000 in
theorem c_X14_base (g : gC) (l : Launch) {k : Nat} {R : va_W} (hk : k < 15) : cI g l yX14_base wsX14_base rm_X14_base 0 0 [.int (nI k)] (R) (fun r u => (nI (kW k + kT k + kP k)) = r ∧ R = u) := by
  refine gEnterQ (cc := cX14_base) (maxL := 1) (ret := (some (.int))) (by decide +kernel) rfl (Nat.le_of_ble_eq_true rfl) ?_
  intro p e s m below meth c F hG hW ls hl
  have hS : va_S (gA g) s.heap s.heap [] := va_S.rf
  have hl : lv_has ls 1 [(0, .int (nI k))] := hl
  have hW : gW g (R) s.heap := hW
  refine lv_iload_n F.1 F.2.1 dX14_base_0 rfl (lv_at hl 0 rfl) ?_
  refine gS_i (n := 1) (As := [.int (nI k)]) F hG hS hW (c_X14_work g l  hk) rfl gX14_base_X14_work (by decide +kernel) ⟨rfl, rfl, Nat.le_of_ble_eq_true rfl, Nat.le_of_ble_eq_true rfl⟩ hl.1 (Nat.le_of_ble_eq_true rfl) ⟨Nat.le_of_ble_eq_true rfl, Nat.le_of_ble_eq_true rfl⟩ rfl rfl dX14_base_1 (fun r u H locs hq hW hS => ?_)
  obtain ⟨rfl, rfl⟩ := hq
  have hW : gW g (R) _ := hW
  refine gsTakes F hG hS mX14_base_1 dX14_base_4 ?_
  refine lv_iload_n F.1 F.2.1 dX14_base_7 rfl (lv_at hl 0 rfl) ?_
  refine gLdTakes F hG hS (by omega) dX14_base_8 ?_
  refine gAdd F dX14_base_9 ?_
  refine gsPuts F hG hS mX14_base_2 dX14_base_10 ?_
  refine lv_iload_n F.1 F.2.1 dX14_base_13 rfl (lv_at hl 0 rfl) ?_
  refine gLdPuts F hG hS (by omega) dX14_base_14 ?_
  refine gAdd F dX14_base_15 ?_
  refine gRi F hW hS dX14_base_16 ?_
  exact ⟨rfl, rfl⟩

abbrev rm_X14_stopped : Room := ({ frames := 0, cells := 0, slots := 0, locals := 0 } : Room)
theorem mX14_stopped_1 : Cond.fieldLink RX14 262 "StepperHeartsModel" "piled" "I" ∈ wsX14_stopped := List.mem_of_getElem? (i := 1) rfl
theorem nX14_stopped_X14 : ∀ w ∈ wsX140, w ∈ wsX14_stopped := fun _ h => List.mem_cons_of_mem _ (List.mem_append_right _ (h))
theorem mX14_stopped_2 : Cond.fieldLink RX14 265 "StepperHeartsModel" "TAKES" "[I" ∈ wsX14_stopped := List.mem_of_getElem? (i := 2) rfl
theorem mX14_stopped_3 : Cond.fieldLink RX14 268 "StepperHeartsModel" "PUTS" "[I" ∈ wsX14_stopped := List.mem_of_getElem? (i := 3) rfl
set_option maxRecDepth 100000 in
set_option maxHeartbeats 4000000 in
theorem c_X14_stopped (g : gC) (l : Launch) {o : Nat} {z0 : Nat} {z1 : Nat} {z2 : Int32} {z3 : Nat} {z4 : Nat} {z5 : Nat} {z6 : Bool} {z7 : Nat} {z8 : Nat} {z9 : Nat} {z10 : Nat} {z11 : Nat} {z12 : Nat} {z13 : Nat} {z14 : Nat} {z15 : Nat} {z16 : Nat} {z17 : Nat} {z18 : Int32} {z19 : Nat} {z20 : Nat} {z21 : Nat} {z22 : Nat} {z23 : Nat} {z24 : Nat} {z25 : Nat} {z26 : Nat} {z27 : Nat} {z28 : Nat} {z29 : Int32} {z30 : Nat} {z31 : Nat} {z32 : Nat} {z33 : Nat} {z34 : Nat} {z35 : Nat} {z36 : Nat} {z37 : Bool} {z38 : Nat} {z39 : Nat} {z40 : Nat} {z41 : Nat} {z42 : Nat} {z43 : Nat} {z44 : Nat} {z45 : Nat} {z46 : Nat} {z47 : Nat} {z48 : Nat} {z49 : Nat} {z50 : Nat} {z51 : Nat} {z52 : Nat} {z53 : Int32} {z54 : Nat} {k : Nat} {R : va_W} (hk : k < 15) (hp : z27 < 2 ^ 30) : cI g l yX14_stopped wsX14_stopped rm_X14_stopped 0 0 [.ref o, .int (nI k)] ((o, .inr (11, [.int (nI z0), .int (nI z1), .int z2, .int (nI z3), .ref z4, .ref z5, .int (bI z6), .ref z7, .ref z8, .int (nI z9), .int (nI z10), .int (nI z11), .int (nI z12), .int (nI z13), .int (nI z14), .int (nI z15), .long (lN z16), .ref z17, .int z18, .int (nI z19), .ref z20, .ref z21, .ref z22, .ref z23, .ref z24, .ref z25, .int (nI z26), .int (nI z27), .int (nI z28), .int z29, .int (nI z30), .int (nI z31), .ref z32, .ref z33, .ref z34, .ref z35, .ref z36, .int (bI z37), .int (nI z38), .int (nI z39), .int (nI z40), .int (nI z41), .int (nI z42), .int (nI z43), .int (nI z44), .int (nI z45), .int (nI z46), .ref z47, .ref z48, .ref z49, .ref z50, .ref z51, .ref z52, .int z53, .ref z54])) :: R) (fun r u => (oI (stO k z27)) = r ∧ (o, .inr (11, [.int (nI z0), .int (nI z1), .int z2, .int (nI z3), .ref z4, .ref z5, .int (bI z6), .ref z7, .ref z8, .int (nI z9), .int (nI z10), .int (nI z11), .int (nI z12), .int (nI z13), .int (nI z14), .int (nI z15), .long (lN z16), .ref z17, .int z18, .int (nI z19), .ref z20, .ref z21, .ref z22, .ref z23, .ref z24, .ref z25, .int (nI z26), .int (nI z27), .int (nI z28), .int z29, .int (nI z30), .int (nI z31), .ref z32, .ref z33, .ref z34, .ref z35, .ref z36, .int (bI z37), .int (nI z38), .int (nI z39), .int (nI z40), .int (nI z41), .int (nI z42), .int (nI z43), .int (nI z44), .int (nI z45), .int (nI z46), .ref z47, .ref z48, .ref z49, .ref z50, .ref z51, .ref z52, .int z53, .ref z54])) :: R = u) := by
  refine gEnterQ (cc := cX14_stopped) (maxL := 2) (ret := (some (.int))) (by decide +kernel) rfl (Nat.le_of_ble_eq_true rfl) ?_
  intro p e s m below meth c F hG hW ls hl
  have hS : va_S (gA g) s.heap s.heap [] := va_S.rf
  have hl : lv_has ls 2 [(0, .ref o), (1, .int (nI k))] := hl
  have hW : gW g ((o, .inr (11, [.int (nI z0), .int (nI z1), .int z2, .int (nI z3), .ref z4, .ref z5, .int (bI z6), .ref z7, .ref z8, .int (nI z9), .int (nI z10), .int (nI z11), .int (nI z12), .int (nI z13), .int (nI z14), .int (nI z15), .long (lN z16), .ref z17, .int z18, .int (nI z19), .ref z20, .ref z21, .ref z22, .ref z23, .ref z24, .ref z25, .int (nI z26), .int (nI z27), .int (nI z28), .int z29, .int (nI z30), .int (nI z31), .ref z32, .ref z33, .ref z34, .ref z35, .ref z36, .int (bI z37), .int (nI z38), .int (nI z39), .int (nI z40), .int (nI z41), .int (nI z42), .int (nI z43), .int (nI z44), .int (nI z45), .int (nI z46), .ref z47, .ref z48, .ref z49, .ref z50, .ref z51, .ref z52, .int z53, .ref z54])) :: R) s.heap := hW
  have hkt := kT_lt k
  have hkp := kP_lt k
  refine lv_aload_n F.1 F.2.1 dX14_stopped_0 rfl (lv_at hl 0 rfl) ?_
  refine gGet F hG hW nX14_stopped_X14 0 rfl rfl 27 (by decide) mX14_stopped_1 rfl dX14_stopped_1 ?_
  refine gsTakes F hG hS mX14_stopped_2 dX14_stopped_4 ?_
  refine lv_iload_n F.1 F.2.1 dX14_stopped_7 rfl (lv_at hl 1 rfl) ?_
  refine gLdTakes F hG hS (by omega) dX14_stopped_8 ?_
  refine gGe (tgt := 14) F (by omega) (by omega) dX14_stopped_9 (by decide) (fun c_9 => ?_) (fun c_9 => ?_)
  · refine lv_aload_n F.1 F.2.1 dX14_stopped_14 rfl (lv_at hl 0 rfl) ?_
    refine gGet F hG hW nX14_stopped_X14 0 rfl rfl 27 (by decide) mX14_stopped_1 rfl dX14_stopped_15 ?_
    refine gsTakes F hG hS mX14_stopped_2 dX14_stopped_18 ?_
    refine lv_iload_n F.1 F.2.1 dX14_stopped_21 rfl (lv_at hl 1 rfl) ?_
    refine gLdTakes F hG hS (by omega) dX14_stopped_22 ?_
    refine gSub F (by omega) dX14_stopped_23 ?_
    refine gsPuts F hG hS mX14_stopped_3 dX14_stopped_24 ?_
    refine lv_iload_n F.1 F.2.1 dX14_stopped_27 rfl (lv_at hl 1 rfl) ?_
    refine gLdPuts F hG hS (by omega) dX14_stopped_28 ?_
    refine gAdd F dX14_stopped_29 ?_
    refine lv_bipush (v := nI 32) F.1 F.2.1 dX14_stopped_30 (by decide) ?_
    refine gLe (tgt := 39) F (by omega) (by omega) dX14_stopped_32 (by decide) (fun c_32 => ?_) (fun c_32 => ?_)
    · refine lv_iconst (v := -1) F.1 F.2.1 dX14_stopped_39 rfl ?_
      refine gRi F hW hS dX14_stopped_40 ?_
      exact ⟨by rw [stO, if_neg (by omega), if_neg (by omega)]; rfl, rfl⟩
    · refine lv_iconst (v := nI 3) F.1 F.2.1 dX14_stopped_35 rfl ?_
      refine lv_goto (tgt := 40) F.1 F.2.1 dX14_stopped_36 (by decide) ?_
      refine gRi F hW hS dX14_stopped_40 ?_
      exact ⟨by rw [stO, if_neg (by omega), if_pos (by omega)]; rfl, rfl⟩
  · refine lv_iconst (v := nI 2) F.1 F.2.1 dX14_stopped_12 rfl ?_
    refine gRi F hW hS dX14_stopped_13 ?_
    exact ⟨by rw [stO, if_pos (Nat.not_le.mp (fun z => absurd z (by omega)))]; rfl, rfl⟩

abbrev rm_X14_does : Room := ({ frames := 0, cells := 0, slots := 0, locals := 0 } : Room)
theorem mX14_does_2 : Cond.fieldLink RX14 262 "StepperHeartsModel" "piled" "I" ∈ wsX14_does := List.mem_of_getElem? (i := 2) rfl
theorem nX14_does_X14 : ∀ w ∈ wsX140, w ∈ wsX14_does := fun _ h => List.mem_cons_of_mem _ (List.mem_append_left _ (List.mem_append_right _ (h)))
theorem mX14_does_4 : Cond.fieldLink RX14 268 "StepperHeartsModel" "PUTS" "[I" ∈ wsX14_does := List.mem_of_getElem? (i := 4) rfl
theorem mX14_does_1 : Cond.fieldLink RX14 16 "StepperHeartsModel" "p" "LStepperHeartsModel$Program;" ∈ wsX14_does := List.mem_of_getElem? (i := 1) rfl
theorem fX14_does_201 : (yX14_does.cls, 201, "StepperHeartsModel$Program", "kind", "[I", "StepperHeartsModel") ∈ gNF := List.mem_of_getElem? (i := 24) rfl
theorem nX14_does_X12 : ∀ w ∈ wsX120, w ∈ wsX14_does := fun _ h => List.mem_cons_of_mem _ (List.mem_append_right _ (h))
theorem mX14_does_5 : Cond.fieldLink RX14 265 "StepperHeartsModel" "TAKES" "[I" ∈ wsX14_does := List.mem_of_getElem? (i := 5) rfl
theorem mX14_does_3 : Cond.fieldLink RX14 81 "StepperHeartsModel" "pile" "[I" ∈ wsX14_does := List.mem_of_getElem? (i := 3) rfl
theorem mX14_does_6 : Cond.fieldLink RX14 84 "StepperHeartsModel" "cells" "[I" ∈ wsX14_does := List.mem_of_getElem? (i := 6) rfl
theorem mX14_does_7 : Cond.fieldLink RX14 274 "StepperHeartsModel" "outMany" "I" ∈ wsX14_does := List.mem_of_getElem? (i := 7) rfl
theorem mX14_does_8 : Cond.fieldLink RX14 87 "StepperHeartsModel" "outs" "[I" ∈ wsX14_does := List.mem_of_getElem? (i := 8) rfl
theorem fX14_does_203 : (yX14_does.cls, 203, "StepperHeartsModel$Program", "value", "[I", "StepperHeartsModel") ∈ gNF := List.mem_of_getElem? (i := 25) rfl
set_option maxRecDepth 100000 in
set_option maxHeartbeats 4000000 in
theorem c_X14_does (g : gC) (l : Launch) {o : Nat} {pk : Nat} {pv : Nat} {pl : Nat} {pa : Nat} {pt : Nat} {pm : Nat} {pi : Nat} {z0 : Nat} {z1 : Nat} {z2 : Int32} {z3 : Nat} {z4 : Nat} {z5 : Nat} {z6 : Bool} {z7 : Nat} {z8 : Nat} {z9 : Nat} {z10 : Nat} {z11 : Nat} {z12 : Nat} {z13 : Nat} {z14 : Nat} {z15 : Nat} {z16 : Nat} {z17 : Nat} {z18 : Int32} {z19 : Nat} {z20 : Nat} {z21 : Nat} {z22 : Nat} {z23 : Nat} {z24 : Nat} {z25 : Nat} {z26 : Nat} {z27 : Nat} {z28 : Nat} {z29 : Int32} {z30 : Nat} {z31 : Nat} {z32 : Nat} {z33 : Nat} {z34 : Nat} {z35 : Nat} {z36 : Nat} {z37 : Bool} {z38 : Nat} {z39 : Nat} {z40 : Nat} {z41 : Nat} {z42 : Nat} {z43 : Nat} {z44 : Nat} {z45 : Nat} {z46 : Nat} {z47 : Nat} {z48 : Nat} {z49 : Nat} {z50 : Nat} {z51 : Nat} {z52 : Nat} {z53 : Int32} {z54 : Nat} {n : Nat} {mm : Nat} {kdm : Nat → Nat} {vlm : Nat → Nat} {kd : Nat → Nat} {vl : Nat → Nat} {nu : Nat → Int32} {ce : Nat → Int32} {ou : Nat → Int32} {k : Nat} {R : va_W} (hP : pOk n kd vl) (hak : ∀ j, j < n → kdm j = kd j) (hav : ∀ j, j < n → vlm j = vl j) (hk : k < n) (hne : kd k ≠ 14) (hh : kT (kd k) ≤ z27) (h32 : z27 - kT (kd k) + kP (kd k) ≤ 32) (hz : z27 ≤ 32) (hom : z28 ≤ 5000) : cI g l yX14_does wsX14_does rm_X14_does 0 0 [.ref o, .int (nI k)] ((o, .inr (11, [.int (nI z0), .int (nI z1), .int z2, .int (nI z3), .ref z4, .ref z5, .int (bI z6), .ref z7, .ref z8, .int (nI z9), .int (nI z10), .int (nI z11), .int (nI z12), .int (nI z13), .int (nI z14), .int (nI z15), .long (lN z16), .ref z17, .int z18, .int (nI z19), .ref z20, .ref z21, .ref z22, .ref z23, .ref z24, .ref z25, .int (nI z26), .int (nI z27), .int (nI z28), .int z29, .int (nI z30), .int (nI z31), .ref z32, .ref z33, .ref z34, .ref z35, .ref z36, .int (bI z37), .int (nI z38), .int (nI z39), .int (nI z40), .int (nI z41), .int (nI z42), .int (nI z43), .int (nI z44), .int (nI z45), .int (nI z46), .ref z47, .ref z48, .ref z49, .ref z50, .ref z51, .ref z52, .int z53, .ref z54])) :: (z23, .inl (g.2.1 0, 32, .inl nu)) :: (z24, .inl (g.2.1 0, 8, .inl ce)) :: (z25, .inl (g.2.1 0, 60, .inl ou)) :: (z4, .inr (9, [.int (nI n), .int (nI mm), .ref pk, .ref pv, .ref pl, .ref pa, .ref pt, .ref pm, .ref pi])) :: (pk, .inl (g.2.1 0, 100, .inl (nA kdm))) :: (pv, .inl (g.2.1 0, 100, .inl (nA vlm))) :: R) (fun r u => (nI (plS (kd k) (vl k) nu z27 k)) = r ∧ (o, .inr (11, [.int (nI z0), .int (nI z1), .int z2, .int (nI z3), .ref z4, .ref z5, .int (bI z6), .ref z7, .ref z8, .int (nI z9), .int (nI z10), .int (nI z11), .int (nI z12), .int (nI z13), .int (nI z14), .int (nI z15), .long (lN z16), .ref z17, .int z18, .int (nI z19), .ref z20, .ref z21, .ref z22, .ref z23, .ref z24, .ref z25, .int (nI z26), .int (nI (htS (kd k) z27)), .int (nI (ocS (kd k) z28)), .int z29, .int (nI z30), .int (nI z31), .ref z32, .ref z33, .ref z34, .ref z35, .ref z36, .int (bI z37), .int (nI z38), .int (nI z39), .int (nI z40), .int (nI z41), .int (nI z42), .int (nI z43), .int (nI z44), .int (nI z45), .int (nI z46), .ref z47, .ref z48, .ref z49, .ref z50, .ref z51, .ref z52, .int z53, .ref z54])) :: (z23, .inl (g.2.1 0, 32, .inl (nuS (kd k) (vl k) nu z27 ce))) :: (z24, .inl (g.2.1 0, 8, .inl (ceS (kd k) (vl k) nu z27 ce))) :: (z25, .inl (g.2.1 0, 60, .inl (ouS (kd k) nu z27 ou z28))) :: (z4, .inr (9, [.int (nI n), .int (nI mm), .ref pk, .ref pv, .ref pl, .ref pa, .ref pt, .ref pm, .ref pi])) :: (pk, .inl (g.2.1 0, 100, .inl (nA kdm))) :: (pv, .inl (g.2.1 0, 100, .inl (nA vlm))) :: R = u) := by
  refine gEnterQ (cc := cX14_does) (maxL := 5) (ret := (some (.int))) (by decide +kernel) rfl (Nat.le_of_ble_eq_true rfl) ?_
  intro p e s m below meth c F hG hW ls hl
  have hS : va_S (gA g) s.heap s.heap [] := va_S.rf
  have hl : lv_has ls 5 [(0, .ref o), (1, .int (nI k))] := hl
  have hW : gW g ((o, .inr (11, [.int (nI z0), .int (nI z1), .int z2, .int (nI z3), .ref z4, .ref z5, .int (bI z6), .ref z7, .ref z8, .int (nI z9), .int (nI z10), .int (nI z11), .int (nI z12), .int (nI z13), .int (nI z14), .int (nI z15), .long (lN z16), .ref z17, .int z18, .int (nI z19), .ref z20, .ref z21, .ref z22, .ref z23, .ref z24, .ref z25, .int (nI z26), .int (nI z27), .int (nI z28), .int z29, .int (nI z30), .int (nI z31), .ref z32, .ref z33, .ref z34, .ref z35, .ref z36, .int (bI z37), .int (nI z38), .int (nI z39), .int (nI z40), .int (nI z41), .int (nI z42), .int (nI z43), .int (nI z44), .int (nI z45), .int (nI z46), .ref z47, .ref z48, .ref z49, .ref z50, .ref z51, .ref z52, .int z53, .ref z54])) :: (z23, .inl (g.2.1 0, 32, .inl nu)) :: (z24, .inl (g.2.1 0, 8, .inl ce)) :: (z25, .inl (g.2.1 0, 60, .inl ou)) :: (z4, .inr (9, [.int (nI n), .int (nI mm), .ref pk, .ref pv, .ref pl, .ref pa, .ref pt, .ref pm, .ref pi])) :: (pk, .inl (g.2.1 0, 100, .inl (nA kdm))) :: (pv, .inl (g.2.1 0, 100, .inl (nA vlm))) :: R) s.heap := hW
  have hn9 := hP.1
  have hk15 := hP.2.1 k hk
  have J_58 : ∀ (tp9 : Int32) (sc9 : Int32) (htp : 0 < z27 → tp9 = nu (z27 - 1)) (hsc : 1 < z27 → sc9 = nu (z27 - 2)) (H : Heap) (locs : List Loc) (ls : Array Slot) (hW : gW g ((o, .inr (11, [.int (nI z0), .int (nI z1), .int z2, .int (nI z3), .ref z4, .ref z5, .int (bI z6), .ref z7, .ref z8, .int (nI z9), .int (nI z10), .int (nI z11), .int (nI z12), .int (nI z13), .int (nI z14), .int (nI z15), .long (lN z16), .ref z17, .int z18, .int (nI z19), .ref z20, .ref z21, .ref z22, .ref z23, .ref z24, .ref z25, .int (nI z26), .int (nI z27), .int (nI z28), .int z29, .int (nI z30), .int (nI z31), .ref z32, .ref z33, .ref z34, .ref z35, .ref z36, .int (bI z37), .int (nI z38), .int (nI z39), .int (nI z40), .int (nI z41), .int (nI z42), .int (nI z43), .int (nI z44), .int (nI z45), .int (nI z46), .ref z47, .ref z48, .ref z49, .ref z50, .ref z51, .ref z52, .int z53, .ref z54])) :: (z23, .inl (g.2.1 0, 32, .inl nu)) :: (z24, .inl (g.2.1 0, 8, .inl ce)) :: (z25, .inl (g.2.1 0, 60, .inl ou)) :: (z4, .inr (9, [.int (nI n), .int (nI mm), .ref pk, .ref pv, .ref pl, .ref pa, .ref pt, .ref pm, .ref pi])) :: (pk, .inl (g.2.1 0, 100, .inl (nA kdm))) :: (pv, .inl (g.2.1 0, 100, .inl (nA vlm))) :: R) H) (hS : va_S (gA g) s.heap H locs) (hl : lv_has ls 5 [(0, .ref o), (1, .int (nI k)), (2, .int (nI (vl k))), (3, .int tp9), (4, .int sc9)]), W p l e (headSpec wsX14_does rm_X14_does).room s m ([.ref o, .int (nI k)] : List Value).toArray below meth c H locs 0 0 (MQ below (va_Qi (fun r u => (nI (plS (kd k) (vl k) nu z27 k)) = r ∧ (o, .inr (11, [.int (nI z0), .int (nI z1), .int z2, .int (nI z3), .ref z4, .ref z5, .int (bI z6), .ref z7, .ref z8, .int (nI z9), .int (nI z10), .int (nI z11), .int (nI z12), .int (nI z13), .int (nI z14), .int (nI z15), .long (lN z16), .ref z17, .int z18, .int (nI z19), .ref z20, .ref z21, .ref z22, .ref z23, .ref z24, .ref z25, .int (nI z26), .int (nI (htS (kd k) z27)), .int (nI (ocS (kd k) z28)), .int z29, .int (nI z30), .int (nI z31), .ref z32, .ref z33, .ref z34, .ref z35, .ref z36, .int (bI z37), .int (nI z38), .int (nI z39), .int (nI z40), .int (nI z41), .int (nI z42), .int (nI z43), .int (nI z44), .int (nI z45), .int (nI z46), .ref z47, .ref z48, .ref z49, .ref z50, .ref z51, .ref z52, .int z53, .ref z54])) :: (z23, .inl (g.2.1 0, 32, .inl (nuS (kd k) (vl k) nu z27 ce))) :: (z24, .inl (g.2.1 0, 8, .inl (ceS (kd k) (vl k) nu z27 ce))) :: (z25, .inl (g.2.1 0, 60, .inl (ouS (kd k) nu z27 ou z28))) :: (z4, .inr (9, [.int (nI n), .int (nI mm), .ref pk, .ref pv, .ref pl, .ref pa, .ref pt, .ref pm, .ref pi])) :: (pk, .inl (g.2.1 0, 100, .inl (nA kdm))) :: (pv, .inl (g.2.1 0, 100, .inl (nA vlm))) :: R = u) (fun u t => gW g u t.heap) (gA g)) ([.ref o, .int (nI k)] : List Value).toArray s 0 0 (gA g)) (F0 m 58 ls []) := by
    intro tp9 sc9 htp hsc H locs ls hW hS hl
    refine lv_aload_n F.1 F.2.1 dX14_does_58 rfl (lv_at hl 0 rfl) ?_
    have hn9 := hP.1
    have hk15 := hP.2.1 k hk
    rcases (show kd k = 0 ∨ kd k = 1 ∨ kd k = 2 ∨ kd k = 3 ∨ kd k = 4 ∨ kd k = 5 ∨ kd k = 6 ∨ kd k = 7 ∨ kd k = 8 ∨ kd k = 9 ∨ kd k = 10 ∨ kd k = 11 ∨ kd k = 12 ∨ kd k = 13 by omega) with hkk | hkk | hkk | hkk | hkk | hkk | hkk | hkk | hkk | hkk | hkk | hkk | hkk | hkk
    · have hh9 : 0 ≤ z27 := by rw [hkk] at hh; exact hh
      have h329 : z27 - 0 + 1 ≤ 32 := by rw [hkk] at h32; exact h32
      refine lv_dup F.1 F.2.1 dX14_does_59 rfl ?_
      refine gGet F hG hW nX14_does_X14 0 rfl rfl 27 (by decide) mX14_does_2 rfl dX14_does_60 ?_
      refine gsPuts F hG hS mX14_does_4 dX14_does_63 ?_
      refine lv_aload_n F.1 F.2.1 dX14_does_66 rfl (lv_at hl 0 rfl) ?_
      refine gGet F hG hW nX14_does_X14 0 rfl rfl 4 (by decide) mX14_does_1 rfl dX14_does_67 ?_
      refine gGetN F hG hW nX14_does_X12 4 rfl rfl 2 (by decide) fX14_does_201 rfl dX14_does_70 ?_
      refine lv_iload_n F.1 F.2.1 dX14_does_73 rfl (lv_at hl 1 rfl) ?_
      refine gLdI F hG hW 5 rfl (by omega) (by decide) dX14_does_74 ?_
      refine gTop (y := nI (kdm k)) rfl ?_
      refine gTop (y := nI (kd k)) (congrArg nI (hak k (by omega))) ?_
      refine gTop (congrArg nI hkk) ?_
      refine gLdPuts F hG hS (by omega) dX14_does_75 ?_
      refine gTop (y := nI 1) rfl ?_
      refine gsTakes F hG hS mX14_does_5 dX14_does_76 ?_
      refine lv_aload_n F.1 F.2.1 dX14_does_79 rfl (lv_at hl 0 rfl) ?_
      refine gGet F hG hW nX14_does_X14 0 rfl rfl 4 (by decide) mX14_does_1 rfl dX14_does_80 ?_
      refine gGetN F hG hW nX14_does_X12 4 rfl rfl 2 (by decide) fX14_does_201 rfl dX14_does_83 ?_
      refine lv_iload_n F.1 F.2.1 dX14_does_86 rfl (lv_at hl 1 rfl) ?_
      refine gLdI F hG hW 5 rfl (by omega) (by decide) dX14_does_87 ?_
      refine gTop (y := nI (kdm k)) rfl ?_
      refine gTop (y := nI (kd k)) (congrArg nI (hak k (by omega))) ?_
      refine gTop (congrArg nI hkk) ?_
      refine gLdTakes F hG hS (by omega) dX14_does_88 ?_
      refine gTop (y := nI 0) rfl ?_
      refine lv_isub F.1 F.2.1 dX14_does_89 ?_
      refine lv_iadd F.1 F.2.1 dX14_does_90 ?_
      refine gTop (nI_bal (h := z27) (a := 1) (b := 0) hh9) ?_
      refine gPut (w2 := (o, .inr (11, [.int (nI z0), .int (nI z1), .int z2, .int (nI z3), .ref z4, .ref z5, .int (bI z6), .ref z7, .ref z8, .int (nI z9), .int (nI z10), .int (nI z11), .int (nI z12), .int (nI z13), .int (nI z14), .int (nI z15), .long (lN z16), .ref z17, .int z18, .int (nI z19), .ref z20, .ref z21, .ref z22, .ref z23, .ref z24, .ref z25, .int (nI z26), .int (nI (z27 - 0 + 1)), .int (nI z28), .int z29, .int (nI z30), .int (nI z31), .ref z32, .ref z33, .ref z34, .ref z35, .ref z36, .int (bI z37), .int (nI z38), .int (nI z39), .int (nI z40), .int (nI z41), .int (nI z42), .int (nI z43), .int (nI z44), .int (nI z45), .int (nI z46), .ref z47, .ref z48, .ref z49, .ref z50, .ref z51, .ref z52, .int z53, .ref z54])) :: (z23, .inl (g.2.1 0, 32, .inl nu)) :: (z24, .inl (g.2.1 0, 8, .inl ce)) :: (z25, .inl (g.2.1 0, 60, .inl ou)) :: (z4, .inr (9, [.int (nI n), .int (nI mm), .ref pk, .ref pv, .ref pl, .ref pa, .ref pt, .ref pm, .ref pi])) :: (pk, .inl (g.2.1 0, 100, .inl (nA kdm))) :: (pv, .inl (g.2.1 0, 100, .inl (nA vlm))) :: R) F hS hG hW nX14_does_X14 0 rfl rfl 27 (by decide) tyX14 tyX14_ok nmX14 mX14_does_2 rfl rfl rfl rfl (Nat.le_of_ble_eq_true rfl) rfl dX14_does_91 (fun H locs hW hS => ?_)
      refine lv_aload_n F.1 F.2.1 dX14_does_94 rfl (lv_at hl 0 rfl) ?_
      refine gGet F hG hW nX14_does_X14 0 rfl rfl 4 (by decide) mX14_does_1 rfl dX14_does_95 ?_
      refine gGetN F hG hW nX14_does_X12 4 rfl rfl 2 (by decide) fX14_does_201 rfl dX14_does_98 ?_
      refine lv_iload_n F.1 F.2.1 dX14_does_101 rfl (lv_at hl 1 rfl) ?_
      refine gLdI F hG hW 5 rfl (by omega) (by decide) dX14_does_102 ?_
      refine gTop (y := nI (kdm k)) rfl ?_
      refine gTop (y := nI (kd k)) (congrArg nI (hak k (by omega))) ?_
      refine gTop (congrArg nI hkk) ?_
      refine lv_tableIn (tgt := 172) F.1 F.2.1 dX14_does_103 (by decide) (by decide) rfl (by decide) ?_
      refine lv_aload_n F.1 F.2.1 dX14_does_172 rfl (lv_at hl 0 rfl) ?_
      refine gGet F hG hW nX14_does_X14 0 rfl rfl 23 (by decide) mX14_does_3 rfl dX14_does_173 ?_
      refine lv_aload_n F.1 F.2.1 dX14_does_176 rfl (lv_at hl 0 rfl) ?_
      refine gGet F hG hW nX14_does_X14 0 rfl rfl 27 (by decide) mX14_does_2 rfl dX14_does_177 ?_
      refine lv_iconst (v := nI 1) F.1 F.2.1 dX14_does_180 rfl ?_
      refine gSub F (by omega) dX14_does_181 ?_
      refine gTop (congrArg nI (show (z27 - 0 + 1) - 1 = z27 by omega)) ?_
      refine lv_iload_n F.1 F.2.1 dX14_does_182 rfl (lv_at hl 2 rfl) ?_
      refine gStI (w2 := (o, .inr (11, [.int (nI z0), .int (nI z1), .int z2, .int (nI z3), .ref z4, .ref z5, .int (bI z6), .ref z7, .ref z8, .int (nI z9), .int (nI z10), .int (nI z11), .int (nI z12), .int (nI z13), .int (nI z14), .int (nI z15), .long (lN z16), .ref z17, .int z18, .int (nI z19), .ref z20, .ref z21, .ref z22, .ref z23, .ref z24, .ref z25, .int (nI z26), .int (nI (z27 - 0 + 1)), .int (nI z28), .int z29, .int (nI z30), .int (nI z31), .ref z32, .ref z33, .ref z34, .ref z35, .ref z36, .int (bI z37), .int (nI z38), .int (nI z39), .int (nI z40), .int (nI z41), .int (nI z42), .int (nI z43), .int (nI z44), .int (nI z45), .int (nI z46), .ref z47, .ref z48, .ref z49, .ref z50, .ref z51, .ref z52, .int z53, .ref z54])) :: (z23, .inl (g.2.1 0, 32, .inl (upd nu z27 (nI (vl k))))) :: (z24, .inl (g.2.1 0, 8, .inl ce)) :: (z25, .inl (g.2.1 0, 60, .inl ou)) :: (z4, .inr (9, [.int (nI n), .int (nI mm), .ref pk, .ref pv, .ref pl, .ref pa, .ref pt, .ref pm, .ref pi])) :: (pk, .inl (g.2.1 0, 100, .inl (nA kdm))) :: (pv, .inl (g.2.1 0, 100, .inl (nA vlm))) :: R) F hG hW 1 rfl (by omega) (by decide) hS rfl dX14_does_183 (fun H locs hW hS => ?_)
      refine lv_goto (tgt := 401) F.1 F.2.1 dX14_does_184 (by decide) ?_
      refine lv_iload_n F.1 F.2.1 dX14_does_401 rfl (lv_at hl 1 rfl) ?_
      refine lv_iconst (v := nI 1) F.1 F.2.1 dX14_does_402 rfl ?_
      refine gAdd F dX14_does_403 ?_
      refine gRi F hW hS dX14_does_404 ?_
      rw [hkk]
      exact ⟨rfl, rfl⟩
    · have hh9 : 1 ≤ z27 := by rw [hkk] at hh; exact hh
      have h329 : z27 - 1 + 0 ≤ 32 := by rw [hkk] at h32; exact h32
      have e_tp9 : tp9 = nu (z27 - 1) := htp (by omega)
      rw [e_tp9] at hl
      refine lv_dup F.1 F.2.1 dX14_does_59 rfl ?_
      refine gGet F hG hW nX14_does_X14 0 rfl rfl 27 (by decide) mX14_does_2 rfl dX14_does_60 ?_
      refine gsPuts F hG hS mX14_does_4 dX14_does_63 ?_
      refine lv_aload_n F.1 F.2.1 dX14_does_66 rfl (lv_at hl 0 rfl) ?_
      refine gGet F hG hW nX14_does_X14 0 rfl rfl 4 (by decide) mX14_does_1 rfl dX14_does_67 ?_
      refine gGetN F hG hW nX14_does_X12 4 rfl rfl 2 (by decide) fX14_does_201 rfl dX14_does_70 ?_
      refine lv_iload_n F.1 F.2.1 dX14_does_73 rfl (lv_at hl 1 rfl) ?_
      refine gLdI F hG hW 5 rfl (by omega) (by decide) dX14_does_74 ?_
      refine gTop (y := nI (kdm k)) rfl ?_
      refine gTop (y := nI (kd k)) (congrArg nI (hak k (by omega))) ?_
      refine gTop (congrArg nI hkk) ?_
      refine gLdPuts F hG hS (by omega) dX14_does_75 ?_
      refine gTop (y := nI 0) rfl ?_
      refine gsTakes F hG hS mX14_does_5 dX14_does_76 ?_
      refine lv_aload_n F.1 F.2.1 dX14_does_79 rfl (lv_at hl 0 rfl) ?_
      refine gGet F hG hW nX14_does_X14 0 rfl rfl 4 (by decide) mX14_does_1 rfl dX14_does_80 ?_
      refine gGetN F hG hW nX14_does_X12 4 rfl rfl 2 (by decide) fX14_does_201 rfl dX14_does_83 ?_
      refine lv_iload_n F.1 F.2.1 dX14_does_86 rfl (lv_at hl 1 rfl) ?_
      refine gLdI F hG hW 5 rfl (by omega) (by decide) dX14_does_87 ?_
      refine gTop (y := nI (kdm k)) rfl ?_
      refine gTop (y := nI (kd k)) (congrArg nI (hak k (by omega))) ?_
      refine gTop (congrArg nI hkk) ?_
      refine gLdTakes F hG hS (by omega) dX14_does_88 ?_
      refine gTop (y := nI 1) rfl ?_
      refine lv_isub F.1 F.2.1 dX14_does_89 ?_
      refine lv_iadd F.1 F.2.1 dX14_does_90 ?_
      refine gTop (nI_bal (h := z27) (a := 0) (b := 1) hh9) ?_
      refine gPut (w2 := (o, .inr (11, [.int (nI z0), .int (nI z1), .int z2, .int (nI z3), .ref z4, .ref z5, .int (bI z6), .ref z7, .ref z8, .int (nI z9), .int (nI z10), .int (nI z11), .int (nI z12), .int (nI z13), .int (nI z14), .int (nI z15), .long (lN z16), .ref z17, .int z18, .int (nI z19), .ref z20, .ref z21, .ref z22, .ref z23, .ref z24, .ref z25, .int (nI z26), .int (nI (z27 - 1 + 0)), .int (nI z28), .int z29, .int (nI z30), .int (nI z31), .ref z32, .ref z33, .ref z34, .ref z35, .ref z36, .int (bI z37), .int (nI z38), .int (nI z39), .int (nI z40), .int (nI z41), .int (nI z42), .int (nI z43), .int (nI z44), .int (nI z45), .int (nI z46), .ref z47, .ref z48, .ref z49, .ref z50, .ref z51, .ref z52, .int z53, .ref z54])) :: (z23, .inl (g.2.1 0, 32, .inl nu)) :: (z24, .inl (g.2.1 0, 8, .inl ce)) :: (z25, .inl (g.2.1 0, 60, .inl ou)) :: (z4, .inr (9, [.int (nI n), .int (nI mm), .ref pk, .ref pv, .ref pl, .ref pa, .ref pt, .ref pm, .ref pi])) :: (pk, .inl (g.2.1 0, 100, .inl (nA kdm))) :: (pv, .inl (g.2.1 0, 100, .inl (nA vlm))) :: R) F hS hG hW nX14_does_X14 0 rfl rfl 27 (by decide) tyX14 tyX14_ok nmX14 mX14_does_2 rfl rfl rfl rfl (Nat.le_of_ble_eq_true rfl) rfl dX14_does_91 (fun H locs hW hS => ?_)
      refine lv_aload_n F.1 F.2.1 dX14_does_94 rfl (lv_at hl 0 rfl) ?_
      refine gGet F hG hW nX14_does_X14 0 rfl rfl 4 (by decide) mX14_does_1 rfl dX14_does_95 ?_
      refine gGetN F hG hW nX14_does_X12 4 rfl rfl 2 (by decide) fX14_does_201 rfl dX14_does_98 ?_
      refine lv_iload_n F.1 F.2.1 dX14_does_101 rfl (lv_at hl 1 rfl) ?_
      refine gLdI F hG hW 5 rfl (by omega) (by decide) dX14_does_102 ?_
      refine gTop (y := nI (kdm k)) rfl ?_
      refine gTop (y := nI (kd k)) (congrArg nI (hak k (by omega))) ?_
      refine gTop (congrArg nI hkk) ?_
      refine lv_tableIn (tgt := 401) F.1 F.2.1 dX14_does_103 (by decide) (by decide) rfl (by decide) ?_
      refine lv_iload_n F.1 F.2.1 dX14_does_401 rfl (lv_at hl 1 rfl) ?_
      refine lv_iconst (v := nI 1) F.1 F.2.1 dX14_does_402 rfl ?_
      refine gAdd F dX14_does_403 ?_
      refine gRi F hW hS dX14_does_404 ?_
      rw [hkk]
      exact ⟨rfl, rfl⟩
    · have hh9 : 1 ≤ z27 := by rw [hkk] at hh; exact hh
      have h329 : z27 - 1 + 2 ≤ 32 := by rw [hkk] at h32; exact h32
      have e_tp9 : tp9 = nu (z27 - 1) := htp (by omega)
      rw [e_tp9] at hl
      refine lv_dup F.1 F.2.1 dX14_does_59 rfl ?_
      refine gGet F hG hW nX14_does_X14 0 rfl rfl 27 (by decide) mX14_does_2 rfl dX14_does_60 ?_
      refine gsPuts F hG hS mX14_does_4 dX14_does_63 ?_
      refine lv_aload_n F.1 F.2.1 dX14_does_66 rfl (lv_at hl 0 rfl) ?_
      refine gGet F hG hW nX14_does_X14 0 rfl rfl 4 (by decide) mX14_does_1 rfl dX14_does_67 ?_
      refine gGetN F hG hW nX14_does_X12 4 rfl rfl 2 (by decide) fX14_does_201 rfl dX14_does_70 ?_
      refine lv_iload_n F.1 F.2.1 dX14_does_73 rfl (lv_at hl 1 rfl) ?_
      refine gLdI F hG hW 5 rfl (by omega) (by decide) dX14_does_74 ?_
      refine gTop (y := nI (kdm k)) rfl ?_
      refine gTop (y := nI (kd k)) (congrArg nI (hak k (by omega))) ?_
      refine gTop (congrArg nI hkk) ?_
      refine gLdPuts F hG hS (by omega) dX14_does_75 ?_
      refine gTop (y := nI 2) rfl ?_
      refine gsTakes F hG hS mX14_does_5 dX14_does_76 ?_
      refine lv_aload_n F.1 F.2.1 dX14_does_79 rfl (lv_at hl 0 rfl) ?_
      refine gGet F hG hW nX14_does_X14 0 rfl rfl 4 (by decide) mX14_does_1 rfl dX14_does_80 ?_
      refine gGetN F hG hW nX14_does_X12 4 rfl rfl 2 (by decide) fX14_does_201 rfl dX14_does_83 ?_
      refine lv_iload_n F.1 F.2.1 dX14_does_86 rfl (lv_at hl 1 rfl) ?_
      refine gLdI F hG hW 5 rfl (by omega) (by decide) dX14_does_87 ?_
      refine gTop (y := nI (kdm k)) rfl ?_
      refine gTop (y := nI (kd k)) (congrArg nI (hak k (by omega))) ?_
      refine gTop (congrArg nI hkk) ?_
      refine gLdTakes F hG hS (by omega) dX14_does_88 ?_
      refine gTop (y := nI 1) rfl ?_
      refine lv_isub F.1 F.2.1 dX14_does_89 ?_
      refine lv_iadd F.1 F.2.1 dX14_does_90 ?_
      refine gTop (nI_bal (h := z27) (a := 2) (b := 1) hh9) ?_
      refine gPut (w2 := (o, .inr (11, [.int (nI z0), .int (nI z1), .int z2, .int (nI z3), .ref z4, .ref z5, .int (bI z6), .ref z7, .ref z8, .int (nI z9), .int (nI z10), .int (nI z11), .int (nI z12), .int (nI z13), .int (nI z14), .int (nI z15), .long (lN z16), .ref z17, .int z18, .int (nI z19), .ref z20, .ref z21, .ref z22, .ref z23, .ref z24, .ref z25, .int (nI z26), .int (nI (z27 - 1 + 2)), .int (nI z28), .int z29, .int (nI z30), .int (nI z31), .ref z32, .ref z33, .ref z34, .ref z35, .ref z36, .int (bI z37), .int (nI z38), .int (nI z39), .int (nI z40), .int (nI z41), .int (nI z42), .int (nI z43), .int (nI z44), .int (nI z45), .int (nI z46), .ref z47, .ref z48, .ref z49, .ref z50, .ref z51, .ref z52, .int z53, .ref z54])) :: (z23, .inl (g.2.1 0, 32, .inl nu)) :: (z24, .inl (g.2.1 0, 8, .inl ce)) :: (z25, .inl (g.2.1 0, 60, .inl ou)) :: (z4, .inr (9, [.int (nI n), .int (nI mm), .ref pk, .ref pv, .ref pl, .ref pa, .ref pt, .ref pm, .ref pi])) :: (pk, .inl (g.2.1 0, 100, .inl (nA kdm))) :: (pv, .inl (g.2.1 0, 100, .inl (nA vlm))) :: R) F hS hG hW nX14_does_X14 0 rfl rfl 27 (by decide) tyX14 tyX14_ok nmX14 mX14_does_2 rfl rfl rfl rfl (Nat.le_of_ble_eq_true rfl) rfl dX14_does_91 (fun H locs hW hS => ?_)
      refine lv_aload_n F.1 F.2.1 dX14_does_94 rfl (lv_at hl 0 rfl) ?_
      refine gGet F hG hW nX14_does_X14 0 rfl rfl 4 (by decide) mX14_does_1 rfl dX14_does_95 ?_
      refine gGetN F hG hW nX14_does_X12 4 rfl rfl 2 (by decide) fX14_does_201 rfl dX14_does_98 ?_
      refine lv_iload_n F.1 F.2.1 dX14_does_101 rfl (lv_at hl 1 rfl) ?_
      refine gLdI F hG hW 5 rfl (by omega) (by decide) dX14_does_102 ?_
      refine gTop (y := nI (kdm k)) rfl ?_
      refine gTop (y := nI (kd k)) (congrArg nI (hak k (by omega))) ?_
      refine gTop (congrArg nI hkk) ?_
      refine lv_tableIn (tgt := 187) F.1 F.2.1 dX14_does_103 (by decide) (by decide) rfl (by decide) ?_
      refine lv_aload_n F.1 F.2.1 dX14_does_187 rfl (lv_at hl 0 rfl) ?_
      refine gGet F hG hW nX14_does_X14 0 rfl rfl 23 (by decide) mX14_does_3 rfl dX14_does_188 ?_
      refine lv_aload_n F.1 F.2.1 dX14_does_191 rfl (lv_at hl 0 rfl) ?_
      refine gGet F hG hW nX14_does_X14 0 rfl rfl 27 (by decide) mX14_does_2 rfl dX14_does_192 ?_
      refine lv_iconst (v := nI 1) F.1 F.2.1 dX14_does_195 rfl ?_
      refine gSub F (by omega) dX14_does_196 ?_
      refine gTop (congrArg nI (show (z27 - 1 + 2) - 1 = z27 by omega)) ?_
      refine lv_iload_n F.1 F.2.1 dX14_does_197 rfl (lv_at hl 3 rfl) ?_
      refine gStI (w2 := (o, .inr (11, [.int (nI z0), .int (nI z1), .int z2, .int (nI z3), .ref z4, .ref z5, .int (bI z6), .ref z7, .ref z8, .int (nI z9), .int (nI z10), .int (nI z11), .int (nI z12), .int (nI z13), .int (nI z14), .int (nI z15), .long (lN z16), .ref z17, .int z18, .int (nI z19), .ref z20, .ref z21, .ref z22, .ref z23, .ref z24, .ref z25, .int (nI z26), .int (nI (z27 - 1 + 2)), .int (nI z28), .int z29, .int (nI z30), .int (nI z31), .ref z32, .ref z33, .ref z34, .ref z35, .ref z36, .int (bI z37), .int (nI z38), .int (nI z39), .int (nI z40), .int (nI z41), .int (nI z42), .int (nI z43), .int (nI z44), .int (nI z45), .int (nI z46), .ref z47, .ref z48, .ref z49, .ref z50, .ref z51, .ref z52, .int z53, .ref z54])) :: (z23, .inl (g.2.1 0, 32, .inl (upd nu z27 (nu (z27 - 1))))) :: (z24, .inl (g.2.1 0, 8, .inl ce)) :: (z25, .inl (g.2.1 0, 60, .inl ou)) :: (z4, .inr (9, [.int (nI n), .int (nI mm), .ref pk, .ref pv, .ref pl, .ref pa, .ref pt, .ref pm, .ref pi])) :: (pk, .inl (g.2.1 0, 100, .inl (nA kdm))) :: (pv, .inl (g.2.1 0, 100, .inl (nA vlm))) :: R) F hG hW 1 rfl (by omega) (by decide) hS rfl dX14_does_198 (fun H locs hW hS => ?_)
      refine lv_goto (tgt := 401) F.1 F.2.1 dX14_does_199 (by decide) ?_
      refine lv_iload_n F.1 F.2.1 dX14_does_401 rfl (lv_at hl 1 rfl) ?_
      refine lv_iconst (v := nI 1) F.1 F.2.1 dX14_does_402 rfl ?_
      refine gAdd F dX14_does_403 ?_
      refine gRi F hW hS dX14_does_404 ?_
      rw [hkk]
      exact ⟨rfl, rfl⟩
    · have hh9 : 2 ≤ z27 := by rw [hkk] at hh; exact hh
      have h329 : z27 - 2 + 2 ≤ 32 := by rw [hkk] at h32; exact h32
      have e_tp9 : tp9 = nu (z27 - 1) := htp (by omega)
      rw [e_tp9] at hl
      have e_sc9 : sc9 = nu (z27 - 2) := hsc (by omega)
      rw [e_sc9] at hl
      refine lv_dup F.1 F.2.1 dX14_does_59 rfl ?_
      refine gGet F hG hW nX14_does_X14 0 rfl rfl 27 (by decide) mX14_does_2 rfl dX14_does_60 ?_
      refine gsPuts F hG hS mX14_does_4 dX14_does_63 ?_
      refine lv_aload_n F.1 F.2.1 dX14_does_66 rfl (lv_at hl 0 rfl) ?_
      refine gGet F hG hW nX14_does_X14 0 rfl rfl 4 (by decide) mX14_does_1 rfl dX14_does_67 ?_
      refine gGetN F hG hW nX14_does_X12 4 rfl rfl 2 (by decide) fX14_does_201 rfl dX14_does_70 ?_
      refine lv_iload_n F.1 F.2.1 dX14_does_73 rfl (lv_at hl 1 rfl) ?_
      refine gLdI F hG hW 5 rfl (by omega) (by decide) dX14_does_74 ?_
      refine gTop (y := nI (kdm k)) rfl ?_
      refine gTop (y := nI (kd k)) (congrArg nI (hak k (by omega))) ?_
      refine gTop (congrArg nI hkk) ?_
      refine gLdPuts F hG hS (by omega) dX14_does_75 ?_
      refine gTop (y := nI 2) rfl ?_
      refine gsTakes F hG hS mX14_does_5 dX14_does_76 ?_
      refine lv_aload_n F.1 F.2.1 dX14_does_79 rfl (lv_at hl 0 rfl) ?_
      refine gGet F hG hW nX14_does_X14 0 rfl rfl 4 (by decide) mX14_does_1 rfl dX14_does_80 ?_
      refine gGetN F hG hW nX14_does_X12 4 rfl rfl 2 (by decide) fX14_does_201 rfl dX14_does_83 ?_
      refine lv_iload_n F.1 F.2.1 dX14_does_86 rfl (lv_at hl 1 rfl) ?_
      refine gLdI F hG hW 5 rfl (by omega) (by decide) dX14_does_87 ?_
      refine gTop (y := nI (kdm k)) rfl ?_
      refine gTop (y := nI (kd k)) (congrArg nI (hak k (by omega))) ?_
      refine gTop (congrArg nI hkk) ?_
      refine gLdTakes F hG hS (by omega) dX14_does_88 ?_
      refine gTop (y := nI 2) rfl ?_
      refine lv_isub F.1 F.2.1 dX14_does_89 ?_
      refine lv_iadd F.1 F.2.1 dX14_does_90 ?_
      refine gTop (nI_bal (h := z27) (a := 2) (b := 2) hh9) ?_
      refine gPut (w2 := (o, .inr (11, [.int (nI z0), .int (nI z1), .int z2, .int (nI z3), .ref z4, .ref z5, .int (bI z6), .ref z7, .ref z8, .int (nI z9), .int (nI z10), .int (nI z11), .int (nI z12), .int (nI z13), .int (nI z14), .int (nI z15), .long (lN z16), .ref z17, .int z18, .int (nI z19), .ref z20, .ref z21, .ref z22, .ref z23, .ref z24, .ref z25, .int (nI z26), .int (nI (z27 - 2 + 2)), .int (nI z28), .int z29, .int (nI z30), .int (nI z31), .ref z32, .ref z33, .ref z34, .ref z35, .ref z36, .int (bI z37), .int (nI z38), .int (nI z39), .int (nI z40), .int (nI z41), .int (nI z42), .int (nI z43), .int (nI z44), .int (nI z45), .int (nI z46), .ref z47, .ref z48, .ref z49, .ref z50, .ref z51, .ref z52, .int z53, .ref z54])) :: (z23, .inl (g.2.1 0, 32, .inl nu)) :: (z24, .inl (g.2.1 0, 8, .inl ce)) :: (z25, .inl (g.2.1 0, 60, .inl ou)) :: (z4, .inr (9, [.int (nI n), .int (nI mm), .ref pk, .ref pv, .ref pl, .ref pa, .ref pt, .ref pm, .ref pi])) :: (pk, .inl (g.2.1 0, 100, .inl (nA kdm))) :: (pv, .inl (g.2.1 0, 100, .inl (nA vlm))) :: R) F hS hG hW nX14_does_X14 0 rfl rfl 27 (by decide) tyX14 tyX14_ok nmX14 mX14_does_2 rfl rfl rfl rfl (Nat.le_of_ble_eq_true rfl) rfl dX14_does_91 (fun H locs hW hS => ?_)
      refine lv_aload_n F.1 F.2.1 dX14_does_94 rfl (lv_at hl 0 rfl) ?_
      refine gGet F hG hW nX14_does_X14 0 rfl rfl 4 (by decide) mX14_does_1 rfl dX14_does_95 ?_
      refine gGetN F hG hW nX14_does_X12 4 rfl rfl 2 (by decide) fX14_does_201 rfl dX14_does_98 ?_
      refine lv_iload_n F.1 F.2.1 dX14_does_101 rfl (lv_at hl 1 rfl) ?_
      refine gLdI F hG hW 5 rfl (by omega) (by decide) dX14_does_102 ?_
      refine gTop (y := nI (kdm k)) rfl ?_
      refine gTop (y := nI (kd k)) (congrArg nI (hak k (by omega))) ?_
      refine gTop (congrArg nI hkk) ?_
      refine lv_tableIn (tgt := 202) F.1 F.2.1 dX14_does_103 (by decide) (by decide) rfl (by decide) ?_
      refine lv_aload_n F.1 F.2.1 dX14_does_202 rfl (lv_at hl 0 rfl) ?_
      refine gGet F hG hW nX14_does_X14 0 rfl rfl 23 (by decide) mX14_does_3 rfl dX14_does_203 ?_
      refine lv_aload_n F.1 F.2.1 dX14_does_206 rfl (lv_at hl 0 rfl) ?_
      refine gGet F hG hW nX14_does_X14 0 rfl rfl 27 (by decide) mX14_does_2 rfl dX14_does_207 ?_
      refine lv_iconst (v := nI 1) F.1 F.2.1 dX14_does_210 rfl ?_
      refine gSub F (by omega) dX14_does_211 ?_
      refine gTop (congrArg nI (show (z27 - 2 + 2) - 1 = z27 - 1 by omega)) ?_
      refine lv_iload F.1 F.2.1 dX14_does_212 (lv_at hl 4 rfl) ?_
      refine gStI (w2 := (o, .inr (11, [.int (nI z0), .int (nI z1), .int z2, .int (nI z3), .ref z4, .ref z5, .int (bI z6), .ref z7, .ref z8, .int (nI z9), .int (nI z10), .int (nI z11), .int (nI z12), .int (nI z13), .int (nI z14), .int (nI z15), .long (lN z16), .ref z17, .int z18, .int (nI z19), .ref z20, .ref z21, .ref z22, .ref z23, .ref z24, .ref z25, .int (nI z26), .int (nI (z27 - 2 + 2)), .int (nI z28), .int z29, .int (nI z30), .int (nI z31), .ref z32, .ref z33, .ref z34, .ref z35, .ref z36, .int (bI z37), .int (nI z38), .int (nI z39), .int (nI z40), .int (nI z41), .int (nI z42), .int (nI z43), .int (nI z44), .int (nI z45), .int (nI z46), .ref z47, .ref z48, .ref z49, .ref z50, .ref z51, .ref z52, .int z53, .ref z54])) :: (z23, .inl (g.2.1 0, 32, .inl (upd nu (z27 - 1) (nu (z27 - 2))))) :: (z24, .inl (g.2.1 0, 8, .inl ce)) :: (z25, .inl (g.2.1 0, 60, .inl ou)) :: (z4, .inr (9, [.int (nI n), .int (nI mm), .ref pk, .ref pv, .ref pl, .ref pa, .ref pt, .ref pm, .ref pi])) :: (pk, .inl (g.2.1 0, 100, .inl (nA kdm))) :: (pv, .inl (g.2.1 0, 100, .inl (nA vlm))) :: R) F hG hW 1 rfl (by omega) (by decide) hS rfl dX14_does_214 (fun H locs hW hS => ?_)
      refine lv_aload_n F.1 F.2.1 dX14_does_215 rfl (lv_at hl 0 rfl) ?_
      refine gGet F hG hW nX14_does_X14 0 rfl rfl 23 (by decide) mX14_does_3 rfl dX14_does_216 ?_
      refine lv_aload_n F.1 F.2.1 dX14_does_219 rfl (lv_at hl 0 rfl) ?_
      refine gGet F hG hW nX14_does_X14 0 rfl rfl 27 (by decide) mX14_does_2 rfl dX14_does_220 ?_
      refine lv_iconst (v := nI 2) F.1 F.2.1 dX14_does_223 rfl ?_
      refine gSub F (by omega) dX14_does_224 ?_
      refine gTop (congrArg nI (show (z27 - 2 + 2) - 2 = z27 - 2 by omega)) ?_
      refine lv_iload_n F.1 F.2.1 dX14_does_225 rfl (lv_at hl 3 rfl) ?_
      refine gStI (w2 := (o, .inr (11, [.int (nI z0), .int (nI z1), .int z2, .int (nI z3), .ref z4, .ref z5, .int (bI z6), .ref z7, .ref z8, .int (nI z9), .int (nI z10), .int (nI z11), .int (nI z12), .int (nI z13), .int (nI z14), .int (nI z15), .long (lN z16), .ref z17, .int z18, .int (nI z19), .ref z20, .ref z21, .ref z22, .ref z23, .ref z24, .ref z25, .int (nI z26), .int (nI (z27 - 2 + 2)), .int (nI z28), .int z29, .int (nI z30), .int (nI z31), .ref z32, .ref z33, .ref z34, .ref z35, .ref z36, .int (bI z37), .int (nI z38), .int (nI z39), .int (nI z40), .int (nI z41), .int (nI z42), .int (nI z43), .int (nI z44), .int (nI z45), .int (nI z46), .ref z47, .ref z48, .ref z49, .ref z50, .ref z51, .ref z52, .int z53, .ref z54])) :: (z23, .inl (g.2.1 0, 32, .inl (upd (upd nu (z27 - 1) (nu (z27 - 2))) (z27 - 2) (nu (z27 - 1))))) :: (z24, .inl (g.2.1 0, 8, .inl ce)) :: (z25, .inl (g.2.1 0, 60, .inl ou)) :: (z4, .inr (9, [.int (nI n), .int (nI mm), .ref pk, .ref pv, .ref pl, .ref pa, .ref pt, .ref pm, .ref pi])) :: (pk, .inl (g.2.1 0, 100, .inl (nA kdm))) :: (pv, .inl (g.2.1 0, 100, .inl (nA vlm))) :: R) F hG hW 1 rfl (by omega) (by decide) hS rfl dX14_does_226 (fun H locs hW hS => ?_)
      refine lv_goto (tgt := 401) F.1 F.2.1 dX14_does_227 (by decide) ?_
      refine lv_iload_n F.1 F.2.1 dX14_does_401 rfl (lv_at hl 1 rfl) ?_
      refine lv_iconst (v := nI 1) F.1 F.2.1 dX14_does_402 rfl ?_
      refine gAdd F dX14_does_403 ?_
      refine gRi F hW hS dX14_does_404 ?_
      rw [hkk]
      exact ⟨rfl, by rw [upd_comm (show z27 - 1 ≠ z27 - 2 by omega)]; rfl⟩
    · have hh9 : 2 ≤ z27 := by rw [hkk] at hh; exact hh
      have h329 : z27 - 2 + 3 ≤ 32 := by rw [hkk] at h32; exact h32
      have e_tp9 : tp9 = nu (z27 - 1) := htp (by omega)
      rw [e_tp9] at hl
      have e_sc9 : sc9 = nu (z27 - 2) := hsc (by omega)
      rw [e_sc9] at hl
      refine lv_dup F.1 F.2.1 dX14_does_59 rfl ?_
      refine gGet F hG hW nX14_does_X14 0 rfl rfl 27 (by decide) mX14_does_2 rfl dX14_does_60 ?_
      refine gsPuts F hG hS mX14_does_4 dX14_does_63 ?_
      refine lv_aload_n F.1 F.2.1 dX14_does_66 rfl (lv_at hl 0 rfl) ?_
      refine gGet F hG hW nX14_does_X14 0 rfl rfl 4 (by decide) mX14_does_1 rfl dX14_does_67 ?_
      refine gGetN F hG hW nX14_does_X12 4 rfl rfl 2 (by decide) fX14_does_201 rfl dX14_does_70 ?_
      refine lv_iload_n F.1 F.2.1 dX14_does_73 rfl (lv_at hl 1 rfl) ?_
      refine gLdI F hG hW 5 rfl (by omega) (by decide) dX14_does_74 ?_
      refine gTop (y := nI (kdm k)) rfl ?_
      refine gTop (y := nI (kd k)) (congrArg nI (hak k (by omega))) ?_
      refine gTop (congrArg nI hkk) ?_
      refine gLdPuts F hG hS (by omega) dX14_does_75 ?_
      refine gTop (y := nI 3) rfl ?_
      refine gsTakes F hG hS mX14_does_5 dX14_does_76 ?_
      refine lv_aload_n F.1 F.2.1 dX14_does_79 rfl (lv_at hl 0 rfl) ?_
      refine gGet F hG hW nX14_does_X14 0 rfl rfl 4 (by decide) mX14_does_1 rfl dX14_does_80 ?_
      refine gGetN F hG hW nX14_does_X12 4 rfl rfl 2 (by decide) fX14_does_201 rfl dX14_does_83 ?_
      refine lv_iload_n F.1 F.2.1 dX14_does_86 rfl (lv_at hl 1 rfl) ?_
      refine gLdI F hG hW 5 rfl (by omega) (by decide) dX14_does_87 ?_
      refine gTop (y := nI (kdm k)) rfl ?_
      refine gTop (y := nI (kd k)) (congrArg nI (hak k (by omega))) ?_
      refine gTop (congrArg nI hkk) ?_
      refine gLdTakes F hG hS (by omega) dX14_does_88 ?_
      refine gTop (y := nI 2) rfl ?_
      refine lv_isub F.1 F.2.1 dX14_does_89 ?_
      refine lv_iadd F.1 F.2.1 dX14_does_90 ?_
      refine gTop (nI_bal (h := z27) (a := 3) (b := 2) hh9) ?_
      refine gPut (w2 := (o, .inr (11, [.int (nI z0), .int (nI z1), .int z2, .int (nI z3), .ref z4, .ref z5, .int (bI z6), .ref z7, .ref z8, .int (nI z9), .int (nI z10), .int (nI z11), .int (nI z12), .int (nI z13), .int (nI z14), .int (nI z15), .long (lN z16), .ref z17, .int z18, .int (nI z19), .ref z20, .ref z21, .ref z22, .ref z23, .ref z24, .ref z25, .int (nI z26), .int (nI (z27 - 2 + 3)), .int (nI z28), .int z29, .int (nI z30), .int (nI z31), .ref z32, .ref z33, .ref z34, .ref z35, .ref z36, .int (bI z37), .int (nI z38), .int (nI z39), .int (nI z40), .int (nI z41), .int (nI z42), .int (nI z43), .int (nI z44), .int (nI z45), .int (nI z46), .ref z47, .ref z48, .ref z49, .ref z50, .ref z51, .ref z52, .int z53, .ref z54])) :: (z23, .inl (g.2.1 0, 32, .inl nu)) :: (z24, .inl (g.2.1 0, 8, .inl ce)) :: (z25, .inl (g.2.1 0, 60, .inl ou)) :: (z4, .inr (9, [.int (nI n), .int (nI mm), .ref pk, .ref pv, .ref pl, .ref pa, .ref pt, .ref pm, .ref pi])) :: (pk, .inl (g.2.1 0, 100, .inl (nA kdm))) :: (pv, .inl (g.2.1 0, 100, .inl (nA vlm))) :: R) F hS hG hW nX14_does_X14 0 rfl rfl 27 (by decide) tyX14 tyX14_ok nmX14 mX14_does_2 rfl rfl rfl rfl (Nat.le_of_ble_eq_true rfl) rfl dX14_does_91 (fun H locs hW hS => ?_)
      refine lv_aload_n F.1 F.2.1 dX14_does_94 rfl (lv_at hl 0 rfl) ?_
      refine gGet F hG hW nX14_does_X14 0 rfl rfl 4 (by decide) mX14_does_1 rfl dX14_does_95 ?_
      refine gGetN F hG hW nX14_does_X12 4 rfl rfl 2 (by decide) fX14_does_201 rfl dX14_does_98 ?_
      refine lv_iload_n F.1 F.2.1 dX14_does_101 rfl (lv_at hl 1 rfl) ?_
      refine gLdI F hG hW 5 rfl (by omega) (by decide) dX14_does_102 ?_
      refine gTop (y := nI (kdm k)) rfl ?_
      refine gTop (y := nI (kd k)) (congrArg nI (hak k (by omega))) ?_
      refine gTop (congrArg nI hkk) ?_
      refine lv_tableIn (tgt := 230) F.1 F.2.1 dX14_does_103 (by decide) (by decide) rfl (by decide) ?_
      refine lv_aload_n F.1 F.2.1 dX14_does_230 rfl (lv_at hl 0 rfl) ?_
      refine gGet F hG hW nX14_does_X14 0 rfl rfl 23 (by decide) mX14_does_3 rfl dX14_does_231 ?_
      refine lv_aload_n F.1 F.2.1 dX14_does_234 rfl (lv_at hl 0 rfl) ?_
      refine gGet F hG hW nX14_does_X14 0 rfl rfl 27 (by decide) mX14_does_2 rfl dX14_does_235 ?_
      refine lv_iconst (v := nI 1) F.1 F.2.1 dX14_does_238 rfl ?_
      refine gSub F (by omega) dX14_does_239 ?_
      refine gTop (congrArg nI (show (z27 - 2 + 3) - 1 = z27 by omega)) ?_
      refine lv_iload F.1 F.2.1 dX14_does_240 (lv_at hl 4 rfl) ?_
      refine gStI (w2 := (o, .inr (11, [.int (nI z0), .int (nI z1), .int z2, .int (nI z3), .ref z4, .ref z5, .int (bI z6), .ref z7, .ref z8, .int (nI z9), .int (nI z10), .int (nI z11), .int (nI z12), .int (nI z13), .int (nI z14), .int (nI z15), .long (lN z16), .ref z17, .int z18, .int (nI z19), .ref z20, .ref z21, .ref z22, .ref z23, .ref z24, .ref z25, .int (nI z26), .int (nI (z27 - 2 + 3)), .int (nI z28), .int z29, .int (nI z30), .int (nI z31), .ref z32, .ref z33, .ref z34, .ref z35, .ref z36, .int (bI z37), .int (nI z38), .int (nI z39), .int (nI z40), .int (nI z41), .int (nI z42), .int (nI z43), .int (nI z44), .int (nI z45), .int (nI z46), .ref z47, .ref z48, .ref z49, .ref z50, .ref z51, .ref z52, .int z53, .ref z54])) :: (z23, .inl (g.2.1 0, 32, .inl (upd nu z27 (nu (z27 - 2))))) :: (z24, .inl (g.2.1 0, 8, .inl ce)) :: (z25, .inl (g.2.1 0, 60, .inl ou)) :: (z4, .inr (9, [.int (nI n), .int (nI mm), .ref pk, .ref pv, .ref pl, .ref pa, .ref pt, .ref pm, .ref pi])) :: (pk, .inl (g.2.1 0, 100, .inl (nA kdm))) :: (pv, .inl (g.2.1 0, 100, .inl (nA vlm))) :: R) F hG hW 1 rfl (by omega) (by decide) hS rfl dX14_does_242 (fun H locs hW hS => ?_)
      refine lv_goto (tgt := 401) F.1 F.2.1 dX14_does_243 (by decide) ?_
      refine lv_iload_n F.1 F.2.1 dX14_does_401 rfl (lv_at hl 1 rfl) ?_
      refine lv_iconst (v := nI 1) F.1 F.2.1 dX14_does_402 rfl ?_
      refine gAdd F dX14_does_403 ?_
      refine gRi F hW hS dX14_does_404 ?_
      rw [hkk]
      exact ⟨rfl, rfl⟩
    · have hh9 : 2 ≤ z27 := by rw [hkk] at hh; exact hh
      have h329 : z27 - 2 + 1 ≤ 32 := by rw [hkk] at h32; exact h32
      have e_tp9 : tp9 = nu (z27 - 1) := htp (by omega)
      rw [e_tp9] at hl
      have e_sc9 : sc9 = nu (z27 - 2) := hsc (by omega)
      rw [e_sc9] at hl
      refine lv_dup F.1 F.2.1 dX14_does_59 rfl ?_
      refine gGet F hG hW nX14_does_X14 0 rfl rfl 27 (by decide) mX14_does_2 rfl dX14_does_60 ?_
      refine gsPuts F hG hS mX14_does_4 dX14_does_63 ?_
      refine lv_aload_n F.1 F.2.1 dX14_does_66 rfl (lv_at hl 0 rfl) ?_
      refine gGet F hG hW nX14_does_X14 0 rfl rfl 4 (by decide) mX14_does_1 rfl dX14_does_67 ?_
      refine gGetN F hG hW nX14_does_X12 4 rfl rfl 2 (by decide) fX14_does_201 rfl dX14_does_70 ?_
      refine lv_iload_n F.1 F.2.1 dX14_does_73 rfl (lv_at hl 1 rfl) ?_
      refine gLdI F hG hW 5 rfl (by omega) (by decide) dX14_does_74 ?_
      refine gTop (y := nI (kdm k)) rfl ?_
      refine gTop (y := nI (kd k)) (congrArg nI (hak k (by omega))) ?_
      refine gTop (congrArg nI hkk) ?_
      refine gLdPuts F hG hS (by omega) dX14_does_75 ?_
      refine gTop (y := nI 1) rfl ?_
      refine gsTakes F hG hS mX14_does_5 dX14_does_76 ?_
      refine lv_aload_n F.1 F.2.1 dX14_does_79 rfl (lv_at hl 0 rfl) ?_
      refine gGet F hG hW nX14_does_X14 0 rfl rfl 4 (by decide) mX14_does_1 rfl dX14_does_80 ?_
      refine gGetN F hG hW nX14_does_X12 4 rfl rfl 2 (by decide) fX14_does_201 rfl dX14_does_83 ?_
      refine lv_iload_n F.1 F.2.1 dX14_does_86 rfl (lv_at hl 1 rfl) ?_
      refine gLdI F hG hW 5 rfl (by omega) (by decide) dX14_does_87 ?_
      refine gTop (y := nI (kdm k)) rfl ?_
      refine gTop (y := nI (kd k)) (congrArg nI (hak k (by omega))) ?_
      refine gTop (congrArg nI hkk) ?_
      refine gLdTakes F hG hS (by omega) dX14_does_88 ?_
      refine gTop (y := nI 2) rfl ?_
      refine lv_isub F.1 F.2.1 dX14_does_89 ?_
      refine lv_iadd F.1 F.2.1 dX14_does_90 ?_
      refine gTop (nI_bal (h := z27) (a := 1) (b := 2) hh9) ?_
      refine gPut (w2 := (o, .inr (11, [.int (nI z0), .int (nI z1), .int z2, .int (nI z3), .ref z4, .ref z5, .int (bI z6), .ref z7, .ref z8, .int (nI z9), .int (nI z10), .int (nI z11), .int (nI z12), .int (nI z13), .int (nI z14), .int (nI z15), .long (lN z16), .ref z17, .int z18, .int (nI z19), .ref z20, .ref z21, .ref z22, .ref z23, .ref z24, .ref z25, .int (nI z26), .int (nI (z27 - 2 + 1)), .int (nI z28), .int z29, .int (nI z30), .int (nI z31), .ref z32, .ref z33, .ref z34, .ref z35, .ref z36, .int (bI z37), .int (nI z38), .int (nI z39), .int (nI z40), .int (nI z41), .int (nI z42), .int (nI z43), .int (nI z44), .int (nI z45), .int (nI z46), .ref z47, .ref z48, .ref z49, .ref z50, .ref z51, .ref z52, .int z53, .ref z54])) :: (z23, .inl (g.2.1 0, 32, .inl nu)) :: (z24, .inl (g.2.1 0, 8, .inl ce)) :: (z25, .inl (g.2.1 0, 60, .inl ou)) :: (z4, .inr (9, [.int (nI n), .int (nI mm), .ref pk, .ref pv, .ref pl, .ref pa, .ref pt, .ref pm, .ref pi])) :: (pk, .inl (g.2.1 0, 100, .inl (nA kdm))) :: (pv, .inl (g.2.1 0, 100, .inl (nA vlm))) :: R) F hS hG hW nX14_does_X14 0 rfl rfl 27 (by decide) tyX14 tyX14_ok nmX14 mX14_does_2 rfl rfl rfl rfl (Nat.le_of_ble_eq_true rfl) rfl dX14_does_91 (fun H locs hW hS => ?_)
      refine lv_aload_n F.1 F.2.1 dX14_does_94 rfl (lv_at hl 0 rfl) ?_
      refine gGet F hG hW nX14_does_X14 0 rfl rfl 4 (by decide) mX14_does_1 rfl dX14_does_95 ?_
      refine gGetN F hG hW nX14_does_X12 4 rfl rfl 2 (by decide) fX14_does_201 rfl dX14_does_98 ?_
      refine lv_iload_n F.1 F.2.1 dX14_does_101 rfl (lv_at hl 1 rfl) ?_
      refine gLdI F hG hW 5 rfl (by omega) (by decide) dX14_does_102 ?_
      refine gTop (y := nI (kdm k)) rfl ?_
      refine gTop (y := nI (kd k)) (congrArg nI (hak k (by omega))) ?_
      refine gTop (congrArg nI hkk) ?_
      refine lv_tableIn (tgt := 246) F.1 F.2.1 dX14_does_103 (by decide) (by decide) rfl (by decide) ?_
      refine lv_aload_n F.1 F.2.1 dX14_does_246 rfl (lv_at hl 0 rfl) ?_
      refine gGet F hG hW nX14_does_X14 0 rfl rfl 23 (by decide) mX14_does_3 rfl dX14_does_247 ?_
      refine lv_aload_n F.1 F.2.1 dX14_does_250 rfl (lv_at hl 0 rfl) ?_
      refine gGet F hG hW nX14_does_X14 0 rfl rfl 27 (by decide) mX14_does_2 rfl dX14_does_251 ?_
      refine lv_iconst (v := nI 1) F.1 F.2.1 dX14_does_254 rfl ?_
      refine gSub F (by omega) dX14_does_255 ?_
      refine gTop (congrArg nI (show (z27 - 2 + 1) - 1 = z27 - 2 by omega)) ?_
      refine lv_iload F.1 F.2.1 dX14_does_256 (lv_at hl 4 rfl) ?_
      refine lv_iload_n F.1 F.2.1 dX14_does_258 rfl (lv_at hl 3 rfl) ?_
      refine lv_iadd F.1 F.2.1 dX14_does_259 ?_
      refine gStI (w2 := (o, .inr (11, [.int (nI z0), .int (nI z1), .int z2, .int (nI z3), .ref z4, .ref z5, .int (bI z6), .ref z7, .ref z8, .int (nI z9), .int (nI z10), .int (nI z11), .int (nI z12), .int (nI z13), .int (nI z14), .int (nI z15), .long (lN z16), .ref z17, .int z18, .int (nI z19), .ref z20, .ref z21, .ref z22, .ref z23, .ref z24, .ref z25, .int (nI z26), .int (nI (z27 - 2 + 1)), .int (nI z28), .int z29, .int (nI z30), .int (nI z31), .ref z32, .ref z33, .ref z34, .ref z35, .ref z36, .int (bI z37), .int (nI z38), .int (nI z39), .int (nI z40), .int (nI z41), .int (nI z42), .int (nI z43), .int (nI z44), .int (nI z45), .int (nI z46), .ref z47, .ref z48, .ref z49, .ref z50, .ref z51, .ref z52, .int z53, .ref z54])) :: (z23, .inl (g.2.1 0, 32, .inl (upd nu (z27 - 2) ((nu (z27 - 2)) + (nu (z27 - 1)))))) :: (z24, .inl (g.2.1 0, 8, .inl ce)) :: (z25, .inl (g.2.1 0, 60, .inl ou)) :: (z4, .inr (9, [.int (nI n), .int (nI mm), .ref pk, .ref pv, .ref pl, .ref pa, .ref pt, .ref pm, .ref pi])) :: (pk, .inl (g.2.1 0, 100, .inl (nA kdm))) :: (pv, .inl (g.2.1 0, 100, .inl (nA vlm))) :: R) F hG hW 1 rfl (by omega) (by decide) hS rfl dX14_does_260 (fun H locs hW hS => ?_)
      refine lv_goto (tgt := 401) F.1 F.2.1 dX14_does_261 (by decide) ?_
      refine lv_iload_n F.1 F.2.1 dX14_does_401 rfl (lv_at hl 1 rfl) ?_
      refine lv_iconst (v := nI 1) F.1 F.2.1 dX14_does_402 rfl ?_
      refine gAdd F dX14_does_403 ?_
      refine gRi F hW hS dX14_does_404 ?_
      rw [hkk]
      exact ⟨rfl, rfl⟩
    · have hh9 : 2 ≤ z27 := by rw [hkk] at hh; exact hh
      have h329 : z27 - 2 + 1 ≤ 32 := by rw [hkk] at h32; exact h32
      have e_tp9 : tp9 = nu (z27 - 1) := htp (by omega)
      rw [e_tp9] at hl
      have e_sc9 : sc9 = nu (z27 - 2) := hsc (by omega)
      rw [e_sc9] at hl
      refine lv_dup F.1 F.2.1 dX14_does_59 rfl ?_
      refine gGet F hG hW nX14_does_X14 0 rfl rfl 27 (by decide) mX14_does_2 rfl dX14_does_60 ?_
      refine gsPuts F hG hS mX14_does_4 dX14_does_63 ?_
      refine lv_aload_n F.1 F.2.1 dX14_does_66 rfl (lv_at hl 0 rfl) ?_
      refine gGet F hG hW nX14_does_X14 0 rfl rfl 4 (by decide) mX14_does_1 rfl dX14_does_67 ?_
      refine gGetN F hG hW nX14_does_X12 4 rfl rfl 2 (by decide) fX14_does_201 rfl dX14_does_70 ?_
      refine lv_iload_n F.1 F.2.1 dX14_does_73 rfl (lv_at hl 1 rfl) ?_
      refine gLdI F hG hW 5 rfl (by omega) (by decide) dX14_does_74 ?_
      refine gTop (y := nI (kdm k)) rfl ?_
      refine gTop (y := nI (kd k)) (congrArg nI (hak k (by omega))) ?_
      refine gTop (congrArg nI hkk) ?_
      refine gLdPuts F hG hS (by omega) dX14_does_75 ?_
      refine gTop (y := nI 1) rfl ?_
      refine gsTakes F hG hS mX14_does_5 dX14_does_76 ?_
      refine lv_aload_n F.1 F.2.1 dX14_does_79 rfl (lv_at hl 0 rfl) ?_
      refine gGet F hG hW nX14_does_X14 0 rfl rfl 4 (by decide) mX14_does_1 rfl dX14_does_80 ?_
      refine gGetN F hG hW nX14_does_X12 4 rfl rfl 2 (by decide) fX14_does_201 rfl dX14_does_83 ?_
      refine lv_iload_n F.1 F.2.1 dX14_does_86 rfl (lv_at hl 1 rfl) ?_
      refine gLdI F hG hW 5 rfl (by omega) (by decide) dX14_does_87 ?_
      refine gTop (y := nI (kdm k)) rfl ?_
      refine gTop (y := nI (kd k)) (congrArg nI (hak k (by omega))) ?_
      refine gTop (congrArg nI hkk) ?_
      refine gLdTakes F hG hS (by omega) dX14_does_88 ?_
      refine gTop (y := nI 2) rfl ?_
      refine lv_isub F.1 F.2.1 dX14_does_89 ?_
      refine lv_iadd F.1 F.2.1 dX14_does_90 ?_
      refine gTop (nI_bal (h := z27) (a := 1) (b := 2) hh9) ?_
      refine gPut (w2 := (o, .inr (11, [.int (nI z0), .int (nI z1), .int z2, .int (nI z3), .ref z4, .ref z5, .int (bI z6), .ref z7, .ref z8, .int (nI z9), .int (nI z10), .int (nI z11), .int (nI z12), .int (nI z13), .int (nI z14), .int (nI z15), .long (lN z16), .ref z17, .int z18, .int (nI z19), .ref z20, .ref z21, .ref z22, .ref z23, .ref z24, .ref z25, .int (nI z26), .int (nI (z27 - 2 + 1)), .int (nI z28), .int z29, .int (nI z30), .int (nI z31), .ref z32, .ref z33, .ref z34, .ref z35, .ref z36, .int (bI z37), .int (nI z38), .int (nI z39), .int (nI z40), .int (nI z41), .int (nI z42), .int (nI z43), .int (nI z44), .int (nI z45), .int (nI z46), .ref z47, .ref z48, .ref z49, .ref z50, .ref z51, .ref z52, .int z53, .ref z54])) :: (z23, .inl (g.2.1 0, 32, .inl nu)) :: (z24, .inl (g.2.1 0, 8, .inl ce)) :: (z25, .inl (g.2.1 0, 60, .inl ou)) :: (z4, .inr (9, [.int (nI n), .int (nI mm), .ref pk, .ref pv, .ref pl, .ref pa, .ref pt, .ref pm, .ref pi])) :: (pk, .inl (g.2.1 0, 100, .inl (nA kdm))) :: (pv, .inl (g.2.1 0, 100, .inl (nA vlm))) :: R) F hS hG hW nX14_does_X14 0 rfl rfl 27 (by decide) tyX14 tyX14_ok nmX14 mX14_does_2 rfl rfl rfl rfl (Nat.le_of_ble_eq_true rfl) rfl dX14_does_91 (fun H locs hW hS => ?_)
      refine lv_aload_n F.1 F.2.1 dX14_does_94 rfl (lv_at hl 0 rfl) ?_
      refine gGet F hG hW nX14_does_X14 0 rfl rfl 4 (by decide) mX14_does_1 rfl dX14_does_95 ?_
      refine gGetN F hG hW nX14_does_X12 4 rfl rfl 2 (by decide) fX14_does_201 rfl dX14_does_98 ?_
      refine lv_iload_n F.1 F.2.1 dX14_does_101 rfl (lv_at hl 1 rfl) ?_
      refine gLdI F hG hW 5 rfl (by omega) (by decide) dX14_does_102 ?_
      refine gTop (y := nI (kdm k)) rfl ?_
      refine gTop (y := nI (kd k)) (congrArg nI (hak k (by omega))) ?_
      refine gTop (congrArg nI hkk) ?_
      refine lv_tableIn (tgt := 264) F.1 F.2.1 dX14_does_103 (by decide) (by decide) rfl (by decide) ?_
      refine lv_aload_n F.1 F.2.1 dX14_does_264 rfl (lv_at hl 0 rfl) ?_
      refine gGet F hG hW nX14_does_X14 0 rfl rfl 23 (by decide) mX14_does_3 rfl dX14_does_265 ?_
      refine lv_aload_n F.1 F.2.1 dX14_does_268 rfl (lv_at hl 0 rfl) ?_
      refine gGet F hG hW nX14_does_X14 0 rfl rfl 27 (by decide) mX14_does_2 rfl dX14_does_269 ?_
      refine lv_iconst (v := nI 1) F.1 F.2.1 dX14_does_272 rfl ?_
      refine gSub F (by omega) dX14_does_273 ?_
      refine gTop (congrArg nI (show (z27 - 2 + 1) - 1 = z27 - 2 by omega)) ?_
      refine lv_iload F.1 F.2.1 dX14_does_274 (lv_at hl 4 rfl) ?_
      refine lv_iload_n F.1 F.2.1 dX14_does_276 rfl (lv_at hl 3 rfl) ?_
      refine lv_isub F.1 F.2.1 dX14_does_277 ?_
      refine gStI (w2 := (o, .inr (11, [.int (nI z0), .int (nI z1), .int z2, .int (nI z3), .ref z4, .ref z5, .int (bI z6), .ref z7, .ref z8, .int (nI z9), .int (nI z10), .int (nI z11), .int (nI z12), .int (nI z13), .int (nI z14), .int (nI z15), .long (lN z16), .ref z17, .int z18, .int (nI z19), .ref z20, .ref z21, .ref z22, .ref z23, .ref z24, .ref z25, .int (nI z26), .int (nI (z27 - 2 + 1)), .int (nI z28), .int z29, .int (nI z30), .int (nI z31), .ref z32, .ref z33, .ref z34, .ref z35, .ref z36, .int (bI z37), .int (nI z38), .int (nI z39), .int (nI z40), .int (nI z41), .int (nI z42), .int (nI z43), .int (nI z44), .int (nI z45), .int (nI z46), .ref z47, .ref z48, .ref z49, .ref z50, .ref z51, .ref z52, .int z53, .ref z54])) :: (z23, .inl (g.2.1 0, 32, .inl (upd nu (z27 - 2) ((nu (z27 - 2)) - (nu (z27 - 1)))))) :: (z24, .inl (g.2.1 0, 8, .inl ce)) :: (z25, .inl (g.2.1 0, 60, .inl ou)) :: (z4, .inr (9, [.int (nI n), .int (nI mm), .ref pk, .ref pv, .ref pl, .ref pa, .ref pt, .ref pm, .ref pi])) :: (pk, .inl (g.2.1 0, 100, .inl (nA kdm))) :: (pv, .inl (g.2.1 0, 100, .inl (nA vlm))) :: R) F hG hW 1 rfl (by omega) (by decide) hS rfl dX14_does_278 (fun H locs hW hS => ?_)
      refine lv_goto (tgt := 401) F.1 F.2.1 dX14_does_279 (by decide) ?_
      refine lv_iload_n F.1 F.2.1 dX14_does_401 rfl (lv_at hl 1 rfl) ?_
      refine lv_iconst (v := nI 1) F.1 F.2.1 dX14_does_402 rfl ?_
      refine gAdd F dX14_does_403 ?_
      refine gRi F hW hS dX14_does_404 ?_
      rw [hkk]
      exact ⟨rfl, rfl⟩
    · have hh9 : 2 ≤ z27 := by rw [hkk] at hh; exact hh
      have h329 : z27 - 2 + 1 ≤ 32 := by rw [hkk] at h32; exact h32
      have e_tp9 : tp9 = nu (z27 - 1) := htp (by omega)
      rw [e_tp9] at hl
      have e_sc9 : sc9 = nu (z27 - 2) := hsc (by omega)
      rw [e_sc9] at hl
      refine lv_dup F.1 F.2.1 dX14_does_59 rfl ?_
      refine gGet F hG hW nX14_does_X14 0 rfl rfl 27 (by decide) mX14_does_2 rfl dX14_does_60 ?_
      refine gsPuts F hG hS mX14_does_4 dX14_does_63 ?_
      refine lv_aload_n F.1 F.2.1 dX14_does_66 rfl (lv_at hl 0 rfl) ?_
      refine gGet F hG hW nX14_does_X14 0 rfl rfl 4 (by decide) mX14_does_1 rfl dX14_does_67 ?_
      refine gGetN F hG hW nX14_does_X12 4 rfl rfl 2 (by decide) fX14_does_201 rfl dX14_does_70 ?_
      refine lv_iload_n F.1 F.2.1 dX14_does_73 rfl (lv_at hl 1 rfl) ?_
      refine gLdI F hG hW 5 rfl (by omega) (by decide) dX14_does_74 ?_
      refine gTop (y := nI (kdm k)) rfl ?_
      refine gTop (y := nI (kd k)) (congrArg nI (hak k (by omega))) ?_
      refine gTop (congrArg nI hkk) ?_
      refine gLdPuts F hG hS (by omega) dX14_does_75 ?_
      refine gTop (y := nI 1) rfl ?_
      refine gsTakes F hG hS mX14_does_5 dX14_does_76 ?_
      refine lv_aload_n F.1 F.2.1 dX14_does_79 rfl (lv_at hl 0 rfl) ?_
      refine gGet F hG hW nX14_does_X14 0 rfl rfl 4 (by decide) mX14_does_1 rfl dX14_does_80 ?_
      refine gGetN F hG hW nX14_does_X12 4 rfl rfl 2 (by decide) fX14_does_201 rfl dX14_does_83 ?_
      refine lv_iload_n F.1 F.2.1 dX14_does_86 rfl (lv_at hl 1 rfl) ?_
      refine gLdI F hG hW 5 rfl (by omega) (by decide) dX14_does_87 ?_
      refine gTop (y := nI (kdm k)) rfl ?_
      refine gTop (y := nI (kd k)) (congrArg nI (hak k (by omega))) ?_
      refine gTop (congrArg nI hkk) ?_
      refine gLdTakes F hG hS (by omega) dX14_does_88 ?_
      refine gTop (y := nI 2) rfl ?_
      refine lv_isub F.1 F.2.1 dX14_does_89 ?_
      refine lv_iadd F.1 F.2.1 dX14_does_90 ?_
      refine gTop (nI_bal (h := z27) (a := 1) (b := 2) hh9) ?_
      refine gPut (w2 := (o, .inr (11, [.int (nI z0), .int (nI z1), .int z2, .int (nI z3), .ref z4, .ref z5, .int (bI z6), .ref z7, .ref z8, .int (nI z9), .int (nI z10), .int (nI z11), .int (nI z12), .int (nI z13), .int (nI z14), .int (nI z15), .long (lN z16), .ref z17, .int z18, .int (nI z19), .ref z20, .ref z21, .ref z22, .ref z23, .ref z24, .ref z25, .int (nI z26), .int (nI (z27 - 2 + 1)), .int (nI z28), .int z29, .int (nI z30), .int (nI z31), .ref z32, .ref z33, .ref z34, .ref z35, .ref z36, .int (bI z37), .int (nI z38), .int (nI z39), .int (nI z40), .int (nI z41), .int (nI z42), .int (nI z43), .int (nI z44), .int (nI z45), .int (nI z46), .ref z47, .ref z48, .ref z49, .ref z50, .ref z51, .ref z52, .int z53, .ref z54])) :: (z23, .inl (g.2.1 0, 32, .inl nu)) :: (z24, .inl (g.2.1 0, 8, .inl ce)) :: (z25, .inl (g.2.1 0, 60, .inl ou)) :: (z4, .inr (9, [.int (nI n), .int (nI mm), .ref pk, .ref pv, .ref pl, .ref pa, .ref pt, .ref pm, .ref pi])) :: (pk, .inl (g.2.1 0, 100, .inl (nA kdm))) :: (pv, .inl (g.2.1 0, 100, .inl (nA vlm))) :: R) F hS hG hW nX14_does_X14 0 rfl rfl 27 (by decide) tyX14 tyX14_ok nmX14 mX14_does_2 rfl rfl rfl rfl (Nat.le_of_ble_eq_true rfl) rfl dX14_does_91 (fun H locs hW hS => ?_)
      refine lv_aload_n F.1 F.2.1 dX14_does_94 rfl (lv_at hl 0 rfl) ?_
      refine gGet F hG hW nX14_does_X14 0 rfl rfl 4 (by decide) mX14_does_1 rfl dX14_does_95 ?_
      refine gGetN F hG hW nX14_does_X12 4 rfl rfl 2 (by decide) fX14_does_201 rfl dX14_does_98 ?_
      refine lv_iload_n F.1 F.2.1 dX14_does_101 rfl (lv_at hl 1 rfl) ?_
      refine gLdI F hG hW 5 rfl (by omega) (by decide) dX14_does_102 ?_
      refine gTop (y := nI (kdm k)) rfl ?_
      refine gTop (y := nI (kd k)) (congrArg nI (hak k (by omega))) ?_
      refine gTop (congrArg nI hkk) ?_
      refine lv_tableIn (tgt := 282) F.1 F.2.1 dX14_does_103 (by decide) (by decide) rfl (by decide) ?_
      refine lv_aload_n F.1 F.2.1 dX14_does_282 rfl (lv_at hl 0 rfl) ?_
      refine gGet F hG hW nX14_does_X14 0 rfl rfl 23 (by decide) mX14_does_3 rfl dX14_does_283 ?_
      refine lv_aload_n F.1 F.2.1 dX14_does_286 rfl (lv_at hl 0 rfl) ?_
      refine gGet F hG hW nX14_does_X14 0 rfl rfl 27 (by decide) mX14_does_2 rfl dX14_does_287 ?_
      refine lv_iconst (v := nI 1) F.1 F.2.1 dX14_does_290 rfl ?_
      refine gSub F (by omega) dX14_does_291 ?_
      refine gTop (congrArg nI (show (z27 - 2 + 1) - 1 = z27 - 2 by omega)) ?_
      refine lv_iload F.1 F.2.1 dX14_does_292 (lv_at hl 4 rfl) ?_
      refine lv_iload_n F.1 F.2.1 dX14_does_294 rfl (lv_at hl 3 rfl) ?_
      refine lv_imul F.1 F.2.1 dX14_does_295 ?_
      refine gStI (w2 := (o, .inr (11, [.int (nI z0), .int (nI z1), .int z2, .int (nI z3), .ref z4, .ref z5, .int (bI z6), .ref z7, .ref z8, .int (nI z9), .int (nI z10), .int (nI z11), .int (nI z12), .int (nI z13), .int (nI z14), .int (nI z15), .long (lN z16), .ref z17, .int z18, .int (nI z19), .ref z20, .ref z21, .ref z22, .ref z23, .ref z24, .ref z25, .int (nI z26), .int (nI (z27 - 2 + 1)), .int (nI z28), .int z29, .int (nI z30), .int (nI z31), .ref z32, .ref z33, .ref z34, .ref z35, .ref z36, .int (bI z37), .int (nI z38), .int (nI z39), .int (nI z40), .int (nI z41), .int (nI z42), .int (nI z43), .int (nI z44), .int (nI z45), .int (nI z46), .ref z47, .ref z48, .ref z49, .ref z50, .ref z51, .ref z52, .int z53, .ref z54])) :: (z23, .inl (g.2.1 0, 32, .inl (upd nu (z27 - 2) ((nu (z27 - 2)) * (nu (z27 - 1)))))) :: (z24, .inl (g.2.1 0, 8, .inl ce)) :: (z25, .inl (g.2.1 0, 60, .inl ou)) :: (z4, .inr (9, [.int (nI n), .int (nI mm), .ref pk, .ref pv, .ref pl, .ref pa, .ref pt, .ref pm, .ref pi])) :: (pk, .inl (g.2.1 0, 100, .inl (nA kdm))) :: (pv, .inl (g.2.1 0, 100, .inl (nA vlm))) :: R) F hG hW 1 rfl (by omega) (by decide) hS rfl dX14_does_296 (fun H locs hW hS => ?_)
      refine lv_goto (tgt := 401) F.1 F.2.1 dX14_does_297 (by decide) ?_
      refine lv_iload_n F.1 F.2.1 dX14_does_401 rfl (lv_at hl 1 rfl) ?_
      refine lv_iconst (v := nI 1) F.1 F.2.1 dX14_does_402 rfl ?_
      refine gAdd F dX14_does_403 ?_
      refine gRi F hW hS dX14_does_404 ?_
      rw [hkk]
      exact ⟨rfl, rfl⟩
    · have hh9 : 2 ≤ z27 := by rw [hkk] at hh; exact hh
      have h329 : z27 - 2 + 1 ≤ 32 := by rw [hkk] at h32; exact h32
      have e_tp9 : tp9 = nu (z27 - 1) := htp (by omega)
      rw [e_tp9] at hl
      have e_sc9 : sc9 = nu (z27 - 2) := hsc (by omega)
      rw [e_sc9] at hl
      refine lv_dup F.1 F.2.1 dX14_does_59 rfl ?_
      refine gGet F hG hW nX14_does_X14 0 rfl rfl 27 (by decide) mX14_does_2 rfl dX14_does_60 ?_
      refine gsPuts F hG hS mX14_does_4 dX14_does_63 ?_
      refine lv_aload_n F.1 F.2.1 dX14_does_66 rfl (lv_at hl 0 rfl) ?_
      refine gGet F hG hW nX14_does_X14 0 rfl rfl 4 (by decide) mX14_does_1 rfl dX14_does_67 ?_
      refine gGetN F hG hW nX14_does_X12 4 rfl rfl 2 (by decide) fX14_does_201 rfl dX14_does_70 ?_
      refine lv_iload_n F.1 F.2.1 dX14_does_73 rfl (lv_at hl 1 rfl) ?_
      refine gLdI F hG hW 5 rfl (by omega) (by decide) dX14_does_74 ?_
      refine gTop (y := nI (kdm k)) rfl ?_
      refine gTop (y := nI (kd k)) (congrArg nI (hak k (by omega))) ?_
      refine gTop (congrArg nI hkk) ?_
      refine gLdPuts F hG hS (by omega) dX14_does_75 ?_
      refine gTop (y := nI 1) rfl ?_
      refine gsTakes F hG hS mX14_does_5 dX14_does_76 ?_
      refine lv_aload_n F.1 F.2.1 dX14_does_79 rfl (lv_at hl 0 rfl) ?_
      refine gGet F hG hW nX14_does_X14 0 rfl rfl 4 (by decide) mX14_does_1 rfl dX14_does_80 ?_
      refine gGetN F hG hW nX14_does_X12 4 rfl rfl 2 (by decide) fX14_does_201 rfl dX14_does_83 ?_
      refine lv_iload_n F.1 F.2.1 dX14_does_86 rfl (lv_at hl 1 rfl) ?_
      refine gLdI F hG hW 5 rfl (by omega) (by decide) dX14_does_87 ?_
      refine gTop (y := nI (kdm k)) rfl ?_
      refine gTop (y := nI (kd k)) (congrArg nI (hak k (by omega))) ?_
      refine gTop (congrArg nI hkk) ?_
      refine gLdTakes F hG hS (by omega) dX14_does_88 ?_
      refine gTop (y := nI 2) rfl ?_
      refine lv_isub F.1 F.2.1 dX14_does_89 ?_
      refine lv_iadd F.1 F.2.1 dX14_does_90 ?_
      refine gTop (nI_bal (h := z27) (a := 1) (b := 2) hh9) ?_
      refine gPut (w2 := (o, .inr (11, [.int (nI z0), .int (nI z1), .int z2, .int (nI z3), .ref z4, .ref z5, .int (bI z6), .ref z7, .ref z8, .int (nI z9), .int (nI z10), .int (nI z11), .int (nI z12), .int (nI z13), .int (nI z14), .int (nI z15), .long (lN z16), .ref z17, .int z18, .int (nI z19), .ref z20, .ref z21, .ref z22, .ref z23, .ref z24, .ref z25, .int (nI z26), .int (nI (z27 - 2 + 1)), .int (nI z28), .int z29, .int (nI z30), .int (nI z31), .ref z32, .ref z33, .ref z34, .ref z35, .ref z36, .int (bI z37), .int (nI z38), .int (nI z39), .int (nI z40), .int (nI z41), .int (nI z42), .int (nI z43), .int (nI z44), .int (nI z45), .int (nI z46), .ref z47, .ref z48, .ref z49, .ref z50, .ref z51, .ref z52, .int z53, .ref z54])) :: (z23, .inl (g.2.1 0, 32, .inl nu)) :: (z24, .inl (g.2.1 0, 8, .inl ce)) :: (z25, .inl (g.2.1 0, 60, .inl ou)) :: (z4, .inr (9, [.int (nI n), .int (nI mm), .ref pk, .ref pv, .ref pl, .ref pa, .ref pt, .ref pm, .ref pi])) :: (pk, .inl (g.2.1 0, 100, .inl (nA kdm))) :: (pv, .inl (g.2.1 0, 100, .inl (nA vlm))) :: R) F hS hG hW nX14_does_X14 0 rfl rfl 27 (by decide) tyX14 tyX14_ok nmX14 mX14_does_2 rfl rfl rfl rfl (Nat.le_of_ble_eq_true rfl) rfl dX14_does_91 (fun H locs hW hS => ?_)
      refine lv_aload_n F.1 F.2.1 dX14_does_94 rfl (lv_at hl 0 rfl) ?_
      refine gGet F hG hW nX14_does_X14 0 rfl rfl 4 (by decide) mX14_does_1 rfl dX14_does_95 ?_
      refine gGetN F hG hW nX14_does_X12 4 rfl rfl 2 (by decide) fX14_does_201 rfl dX14_does_98 ?_
      refine lv_iload_n F.1 F.2.1 dX14_does_101 rfl (lv_at hl 1 rfl) ?_
      refine gLdI F hG hW 5 rfl (by omega) (by decide) dX14_does_102 ?_
      refine gTop (y := nI (kdm k)) rfl ?_
      refine gTop (y := nI (kd k)) (congrArg nI (hak k (by omega))) ?_
      refine gTop (congrArg nI hkk) ?_
      refine lv_tableIn (tgt := 300) F.1 F.2.1 dX14_does_103 (by decide) (by decide) rfl (by decide) ?_
      refine lv_aload_n F.1 F.2.1 dX14_does_300 rfl (lv_at hl 0 rfl) ?_
      refine gGet F hG hW nX14_does_X14 0 rfl rfl 23 (by decide) mX14_does_3 rfl dX14_does_301 ?_
      refine lv_aload_n F.1 F.2.1 dX14_does_304 rfl (lv_at hl 0 rfl) ?_
      refine gGet F hG hW nX14_does_X14 0 rfl rfl 27 (by decide) mX14_does_2 rfl dX14_does_305 ?_
      refine lv_iconst (v := nI 1) F.1 F.2.1 dX14_does_308 rfl ?_
      refine gSub F (by omega) dX14_does_309 ?_
      refine gTop (congrArg nI (show (z27 - 2 + 1) - 1 = z27 - 2 by omega)) ?_
      refine lv_iload F.1 F.2.1 dX14_does_310 (lv_at hl 4 rfl) ?_
      refine lv_iload_n F.1 F.2.1 dX14_does_312 rfl (lv_at hl 3 rfl) ?_
      refine lv_icmp_ge (tgt := 320) F.1 F.2.1 dX14_does_313 (by decide) (fun c_313 => ?_) (fun c_313 => ?_)
      · have c_313x : ¬ nu (z27 - 2) < nu (z27 - 1) := Int32.not_lt.mpr c_313
        refine lv_iconst (v := nI 0) F.1 F.2.1 dX14_does_320 rfl ?_
        refine gStI (w2 := (o, .inr (11, [.int (nI z0), .int (nI z1), .int z2, .int (nI z3), .ref z4, .ref z5, .int (bI z6), .ref z7, .ref z8, .int (nI z9), .int (nI z10), .int (nI z11), .int (nI z12), .int (nI z13), .int (nI z14), .int (nI z15), .long (lN z16), .ref z17, .int z18, .int (nI z19), .ref z20, .ref z21, .ref z22, .ref z23, .ref z24, .ref z25, .int (nI z26), .int (nI (z27 - 2 + 1)), .int (nI z28), .int z29, .int (nI z30), .int (nI z31), .ref z32, .ref z33, .ref z34, .ref z35, .ref z36, .int (bI z37), .int (nI z38), .int (nI z39), .int (nI z40), .int (nI z41), .int (nI z42), .int (nI z43), .int (nI z44), .int (nI z45), .int (nI z46), .ref z47, .ref z48, .ref z49, .ref z50, .ref z51, .ref z52, .int z53, .ref z54])) :: (z23, .inl (g.2.1 0, 32, .inl (upd nu (z27 - 2) (nI 0)))) :: (z24, .inl (g.2.1 0, 8, .inl ce)) :: (z25, .inl (g.2.1 0, 60, .inl ou)) :: (z4, .inr (9, [.int (nI n), .int (nI mm), .ref pk, .ref pv, .ref pl, .ref pa, .ref pt, .ref pm, .ref pi])) :: (pk, .inl (g.2.1 0, 100, .inl (nA kdm))) :: (pv, .inl (g.2.1 0, 100, .inl (nA vlm))) :: R) F hG hW 1 rfl (by omega) (by decide) hS rfl dX14_does_321 (fun H locs hW hS => ?_)
        refine lv_goto (tgt := 401) F.1 F.2.1 dX14_does_322 (by decide) ?_
        refine lv_iload_n F.1 F.2.1 dX14_does_401 rfl (lv_at hl 1 rfl) ?_
        refine lv_iconst (v := nI 1) F.1 F.2.1 dX14_does_402 rfl ?_
        refine gAdd F dX14_does_403 ?_
        refine gRi F hW hS dX14_does_404 ?_
        rw [hkk]
        exact ⟨rfl, by show _ = _; simp only [nuS, if_neg c_313x]; rfl⟩
      · have c_313x : nu (z27 - 2) < nu (z27 - 1) := Int32.not_le.mp c_313
        refine lv_iconst (v := nI 1) F.1 F.2.1 dX14_does_316 rfl ?_
        refine lv_goto (tgt := 321) F.1 F.2.1 dX14_does_317 (by decide) ?_
        refine gStI (w2 := (o, .inr (11, [.int (nI z0), .int (nI z1), .int z2, .int (nI z3), .ref z4, .ref z5, .int (bI z6), .ref z7, .ref z8, .int (nI z9), .int (nI z10), .int (nI z11), .int (nI z12), .int (nI z13), .int (nI z14), .int (nI z15), .long (lN z16), .ref z17, .int z18, .int (nI z19), .ref z20, .ref z21, .ref z22, .ref z23, .ref z24, .ref z25, .int (nI z26), .int (nI (z27 - 2 + 1)), .int (nI z28), .int z29, .int (nI z30), .int (nI z31), .ref z32, .ref z33, .ref z34, .ref z35, .ref z36, .int (bI z37), .int (nI z38), .int (nI z39), .int (nI z40), .int (nI z41), .int (nI z42), .int (nI z43), .int (nI z44), .int (nI z45), .int (nI z46), .ref z47, .ref z48, .ref z49, .ref z50, .ref z51, .ref z52, .int z53, .ref z54])) :: (z23, .inl (g.2.1 0, 32, .inl (upd nu (z27 - 2) (nI 1)))) :: (z24, .inl (g.2.1 0, 8, .inl ce)) :: (z25, .inl (g.2.1 0, 60, .inl ou)) :: (z4, .inr (9, [.int (nI n), .int (nI mm), .ref pk, .ref pv, .ref pl, .ref pa, .ref pt, .ref pm, .ref pi])) :: (pk, .inl (g.2.1 0, 100, .inl (nA kdm))) :: (pv, .inl (g.2.1 0, 100, .inl (nA vlm))) :: R) F hG hW 1 rfl (by omega) (by decide) hS rfl dX14_does_321 (fun H locs hW hS => ?_)
        refine lv_goto (tgt := 401) F.1 F.2.1 dX14_does_322 (by decide) ?_
        refine lv_iload_n F.1 F.2.1 dX14_does_401 rfl (lv_at hl 1 rfl) ?_
        refine lv_iconst (v := nI 1) F.1 F.2.1 dX14_does_402 rfl ?_
        refine gAdd F dX14_does_403 ?_
        refine gRi F hW hS dX14_does_404 ?_
        rw [hkk]
        exact ⟨rfl, by show _ = _; simp only [nuS, if_pos c_313x]; rfl⟩
    · have hh9 : 0 ≤ z27 := by rw [hkk] at hh; exact hh
      have h329 : z27 - 0 + 1 ≤ 32 := by rw [hkk] at h32; exact h32
      have hv8 : vl k < 8 := hP.2.2.1 k hk (Or.inl hkk)
      refine lv_dup F.1 F.2.1 dX14_does_59 rfl ?_
      refine gGet F hG hW nX14_does_X14 0 rfl rfl 27 (by decide) mX14_does_2 rfl dX14_does_60 ?_
      refine gsPuts F hG hS mX14_does_4 dX14_does_63 ?_
      refine lv_aload_n F.1 F.2.1 dX14_does_66 rfl (lv_at hl 0 rfl) ?_
      refine gGet F hG hW nX14_does_X14 0 rfl rfl 4 (by decide) mX14_does_1 rfl dX14_does_67 ?_
      refine gGetN F hG hW nX14_does_X12 4 rfl rfl 2 (by decide) fX14_does_201 rfl dX14_does_70 ?_
      refine lv_iload_n F.1 F.2.1 dX14_does_73 rfl (lv_at hl 1 rfl) ?_
      refine gLdI F hG hW 5 rfl (by omega) (by decide) dX14_does_74 ?_
      refine gTop (y := nI (kdm k)) rfl ?_
      refine gTop (y := nI (kd k)) (congrArg nI (hak k (by omega))) ?_
      refine gTop (congrArg nI hkk) ?_
      refine gLdPuts F hG hS (by omega) dX14_does_75 ?_
      refine gTop (y := nI 1) rfl ?_
      refine gsTakes F hG hS mX14_does_5 dX14_does_76 ?_
      refine lv_aload_n F.1 F.2.1 dX14_does_79 rfl (lv_at hl 0 rfl) ?_
      refine gGet F hG hW nX14_does_X14 0 rfl rfl 4 (by decide) mX14_does_1 rfl dX14_does_80 ?_
      refine gGetN F hG hW nX14_does_X12 4 rfl rfl 2 (by decide) fX14_does_201 rfl dX14_does_83 ?_
      refine lv_iload_n F.1 F.2.1 dX14_does_86 rfl (lv_at hl 1 rfl) ?_
      refine gLdI F hG hW 5 rfl (by omega) (by decide) dX14_does_87 ?_
      refine gTop (y := nI (kdm k)) rfl ?_
      refine gTop (y := nI (kd k)) (congrArg nI (hak k (by omega))) ?_
      refine gTop (congrArg nI hkk) ?_
      refine gLdTakes F hG hS (by omega) dX14_does_88 ?_
      refine gTop (y := nI 0) rfl ?_
      refine lv_isub F.1 F.2.1 dX14_does_89 ?_
      refine lv_iadd F.1 F.2.1 dX14_does_90 ?_
      refine gTop (nI_bal (h := z27) (a := 1) (b := 0) hh9) ?_
      refine gPut (w2 := (o, .inr (11, [.int (nI z0), .int (nI z1), .int z2, .int (nI z3), .ref z4, .ref z5, .int (bI z6), .ref z7, .ref z8, .int (nI z9), .int (nI z10), .int (nI z11), .int (nI z12), .int (nI z13), .int (nI z14), .int (nI z15), .long (lN z16), .ref z17, .int z18, .int (nI z19), .ref z20, .ref z21, .ref z22, .ref z23, .ref z24, .ref z25, .int (nI z26), .int (nI (z27 - 0 + 1)), .int (nI z28), .int z29, .int (nI z30), .int (nI z31), .ref z32, .ref z33, .ref z34, .ref z35, .ref z36, .int (bI z37), .int (nI z38), .int (nI z39), .int (nI z40), .int (nI z41), .int (nI z42), .int (nI z43), .int (nI z44), .int (nI z45), .int (nI z46), .ref z47, .ref z48, .ref z49, .ref z50, .ref z51, .ref z52, .int z53, .ref z54])) :: (z23, .inl (g.2.1 0, 32, .inl nu)) :: (z24, .inl (g.2.1 0, 8, .inl ce)) :: (z25, .inl (g.2.1 0, 60, .inl ou)) :: (z4, .inr (9, [.int (nI n), .int (nI mm), .ref pk, .ref pv, .ref pl, .ref pa, .ref pt, .ref pm, .ref pi])) :: (pk, .inl (g.2.1 0, 100, .inl (nA kdm))) :: (pv, .inl (g.2.1 0, 100, .inl (nA vlm))) :: R) F hS hG hW nX14_does_X14 0 rfl rfl 27 (by decide) tyX14 tyX14_ok nmX14 mX14_does_2 rfl rfl rfl rfl (Nat.le_of_ble_eq_true rfl) rfl dX14_does_91 (fun H locs hW hS => ?_)
      refine lv_aload_n F.1 F.2.1 dX14_does_94 rfl (lv_at hl 0 rfl) ?_
      refine gGet F hG hW nX14_does_X14 0 rfl rfl 4 (by decide) mX14_does_1 rfl dX14_does_95 ?_
      refine gGetN F hG hW nX14_does_X12 4 rfl rfl 2 (by decide) fX14_does_201 rfl dX14_does_98 ?_
      refine lv_iload_n F.1 F.2.1 dX14_does_101 rfl (lv_at hl 1 rfl) ?_
      refine gLdI F hG hW 5 rfl (by omega) (by decide) dX14_does_102 ?_
      refine gTop (y := nI (kdm k)) rfl ?_
      refine gTop (y := nI (kd k)) (congrArg nI (hak k (by omega))) ?_
      refine gTop (congrArg nI hkk) ?_
      refine lv_tableIn (tgt := 325) F.1 F.2.1 dX14_does_103 (by decide) (by decide) rfl (by decide) ?_
      refine lv_aload_n F.1 F.2.1 dX14_does_325 rfl (lv_at hl 0 rfl) ?_
      refine gGet F hG hW nX14_does_X14 0 rfl rfl 23 (by decide) mX14_does_3 rfl dX14_does_326 ?_
      refine lv_aload_n F.1 F.2.1 dX14_does_329 rfl (lv_at hl 0 rfl) ?_
      refine gGet F hG hW nX14_does_X14 0 rfl rfl 27 (by decide) mX14_does_2 rfl dX14_does_330 ?_
      refine lv_iconst (v := nI 1) F.1 F.2.1 dX14_does_333 rfl ?_
      refine gSub F (by omega) dX14_does_334 ?_
      refine gTop (congrArg nI (show (z27 - 0 + 1) - 1 = z27 by omega)) ?_
      refine lv_aload_n F.1 F.2.1 dX14_does_335 rfl (lv_at hl 0 rfl) ?_
      refine gGet F hG hW nX14_does_X14 0 rfl rfl 24 (by decide) mX14_does_6 rfl dX14_does_336 ?_
      refine lv_iload_n F.1 F.2.1 dX14_does_339 rfl (lv_at hl 2 rfl) ?_
      refine gLdI F hG hW 2 rfl (by omega) (by decide) dX14_does_340 ?_
      refine gStI (w2 := (o, .inr (11, [.int (nI z0), .int (nI z1), .int z2, .int (nI z3), .ref z4, .ref z5, .int (bI z6), .ref z7, .ref z8, .int (nI z9), .int (nI z10), .int (nI z11), .int (nI z12), .int (nI z13), .int (nI z14), .int (nI z15), .long (lN z16), .ref z17, .int z18, .int (nI z19), .ref z20, .ref z21, .ref z22, .ref z23, .ref z24, .ref z25, .int (nI z26), .int (nI (z27 - 0 + 1)), .int (nI z28), .int z29, .int (nI z30), .int (nI z31), .ref z32, .ref z33, .ref z34, .ref z35, .ref z36, .int (bI z37), .int (nI z38), .int (nI z39), .int (nI z40), .int (nI z41), .int (nI z42), .int (nI z43), .int (nI z44), .int (nI z45), .int (nI z46), .ref z47, .ref z48, .ref z49, .ref z50, .ref z51, .ref z52, .int z53, .ref z54])) :: (z23, .inl (g.2.1 0, 32, .inl (upd nu z27 (ce (vl k))))) :: (z24, .inl (g.2.1 0, 8, .inl ce)) :: (z25, .inl (g.2.1 0, 60, .inl ou)) :: (z4, .inr (9, [.int (nI n), .int (nI mm), .ref pk, .ref pv, .ref pl, .ref pa, .ref pt, .ref pm, .ref pi])) :: (pk, .inl (g.2.1 0, 100, .inl (nA kdm))) :: (pv, .inl (g.2.1 0, 100, .inl (nA vlm))) :: R) F hG hW 1 rfl (by omega) (by decide) hS rfl dX14_does_341 (fun H locs hW hS => ?_)
      refine lv_goto (tgt := 401) F.1 F.2.1 dX14_does_342 (by decide) ?_
      refine lv_iload_n F.1 F.2.1 dX14_does_401 rfl (lv_at hl 1 rfl) ?_
      refine lv_iconst (v := nI 1) F.1 F.2.1 dX14_does_402 rfl ?_
      refine gAdd F dX14_does_403 ?_
      refine gRi F hW hS dX14_does_404 ?_
      rw [hkk]
      exact ⟨rfl, rfl⟩
    · have hh9 : 1 ≤ z27 := by rw [hkk] at hh; exact hh
      have h329 : z27 - 1 + 0 ≤ 32 := by rw [hkk] at h32; exact h32
      have hv8 : vl k < 8 := hP.2.2.1 k hk (Or.inr hkk)
      have e_tp9 : tp9 = nu (z27 - 1) := htp (by omega)
      rw [e_tp9] at hl
      refine lv_dup F.1 F.2.1 dX14_does_59 rfl ?_
      refine gGet F hG hW nX14_does_X14 0 rfl rfl 27 (by decide) mX14_does_2 rfl dX14_does_60 ?_
      refine gsPuts F hG hS mX14_does_4 dX14_does_63 ?_
      refine lv_aload_n F.1 F.2.1 dX14_does_66 rfl (lv_at hl 0 rfl) ?_
      refine gGet F hG hW nX14_does_X14 0 rfl rfl 4 (by decide) mX14_does_1 rfl dX14_does_67 ?_
      refine gGetN F hG hW nX14_does_X12 4 rfl rfl 2 (by decide) fX14_does_201 rfl dX14_does_70 ?_
      refine lv_iload_n F.1 F.2.1 dX14_does_73 rfl (lv_at hl 1 rfl) ?_
      refine gLdI F hG hW 5 rfl (by omega) (by decide) dX14_does_74 ?_
      refine gTop (y := nI (kdm k)) rfl ?_
      refine gTop (y := nI (kd k)) (congrArg nI (hak k (by omega))) ?_
      refine gTop (congrArg nI hkk) ?_
      refine gLdPuts F hG hS (by omega) dX14_does_75 ?_
      refine gTop (y := nI 0) rfl ?_
      refine gsTakes F hG hS mX14_does_5 dX14_does_76 ?_
      refine lv_aload_n F.1 F.2.1 dX14_does_79 rfl (lv_at hl 0 rfl) ?_
      refine gGet F hG hW nX14_does_X14 0 rfl rfl 4 (by decide) mX14_does_1 rfl dX14_does_80 ?_
      refine gGetN F hG hW nX14_does_X12 4 rfl rfl 2 (by decide) fX14_does_201 rfl dX14_does_83 ?_
      refine lv_iload_n F.1 F.2.1 dX14_does_86 rfl (lv_at hl 1 rfl) ?_
      refine gLdI F hG hW 5 rfl (by omega) (by decide) dX14_does_87 ?_
      refine gTop (y := nI (kdm k)) rfl ?_
      refine gTop (y := nI (kd k)) (congrArg nI (hak k (by omega))) ?_
      refine gTop (congrArg nI hkk) ?_
      refine gLdTakes F hG hS (by omega) dX14_does_88 ?_
      refine gTop (y := nI 1) rfl ?_
      refine lv_isub F.1 F.2.1 dX14_does_89 ?_
      refine lv_iadd F.1 F.2.1 dX14_does_90 ?_
      refine gTop (nI_bal (h := z27) (a := 0) (b := 1) hh9) ?_
      refine gPut (w2 := (o, .inr (11, [.int (nI z0), .int (nI z1), .int z2, .int (nI z3), .ref z4, .ref z5, .int (bI z6), .ref z7, .ref z8, .int (nI z9), .int (nI z10), .int (nI z11), .int (nI z12), .int (nI z13), .int (nI z14), .int (nI z15), .long (lN z16), .ref z17, .int z18, .int (nI z19), .ref z20, .ref z21, .ref z22, .ref z23, .ref z24, .ref z25, .int (nI z26), .int (nI (z27 - 1 + 0)), .int (nI z28), .int z29, .int (nI z30), .int (nI z31), .ref z32, .ref z33, .ref z34, .ref z35, .ref z36, .int (bI z37), .int (nI z38), .int (nI z39), .int (nI z40), .int (nI z41), .int (nI z42), .int (nI z43), .int (nI z44), .int (nI z45), .int (nI z46), .ref z47, .ref z48, .ref z49, .ref z50, .ref z51, .ref z52, .int z53, .ref z54])) :: (z23, .inl (g.2.1 0, 32, .inl nu)) :: (z24, .inl (g.2.1 0, 8, .inl ce)) :: (z25, .inl (g.2.1 0, 60, .inl ou)) :: (z4, .inr (9, [.int (nI n), .int (nI mm), .ref pk, .ref pv, .ref pl, .ref pa, .ref pt, .ref pm, .ref pi])) :: (pk, .inl (g.2.1 0, 100, .inl (nA kdm))) :: (pv, .inl (g.2.1 0, 100, .inl (nA vlm))) :: R) F hS hG hW nX14_does_X14 0 rfl rfl 27 (by decide) tyX14 tyX14_ok nmX14 mX14_does_2 rfl rfl rfl rfl (Nat.le_of_ble_eq_true rfl) rfl dX14_does_91 (fun H locs hW hS => ?_)
      refine lv_aload_n F.1 F.2.1 dX14_does_94 rfl (lv_at hl 0 rfl) ?_
      refine gGet F hG hW nX14_does_X14 0 rfl rfl 4 (by decide) mX14_does_1 rfl dX14_does_95 ?_
      refine gGetN F hG hW nX14_does_X12 4 rfl rfl 2 (by decide) fX14_does_201 rfl dX14_does_98 ?_
      refine lv_iload_n F.1 F.2.1 dX14_does_101 rfl (lv_at hl 1 rfl) ?_
      refine gLdI F hG hW 5 rfl (by omega) (by decide) dX14_does_102 ?_
      refine gTop (y := nI (kdm k)) rfl ?_
      refine gTop (y := nI (kd k)) (congrArg nI (hak k (by omega))) ?_
      refine gTop (congrArg nI hkk) ?_
      refine lv_tableIn (tgt := 345) F.1 F.2.1 dX14_does_103 (by decide) (by decide) rfl (by decide) ?_
      refine lv_aload_n F.1 F.2.1 dX14_does_345 rfl (lv_at hl 0 rfl) ?_
      refine gGet F hG hW nX14_does_X14 0 rfl rfl 24 (by decide) mX14_does_6 rfl dX14_does_346 ?_
      refine lv_iload_n F.1 F.2.1 dX14_does_349 rfl (lv_at hl 2 rfl) ?_
      refine lv_iload_n F.1 F.2.1 dX14_does_350 rfl (lv_at hl 3 rfl) ?_
      refine gStI (w2 := (o, .inr (11, [.int (nI z0), .int (nI z1), .int z2, .int (nI z3), .ref z4, .ref z5, .int (bI z6), .ref z7, .ref z8, .int (nI z9), .int (nI z10), .int (nI z11), .int (nI z12), .int (nI z13), .int (nI z14), .int (nI z15), .long (lN z16), .ref z17, .int z18, .int (nI z19), .ref z20, .ref z21, .ref z22, .ref z23, .ref z24, .ref z25, .int (nI z26), .int (nI (z27 - 1 + 0)), .int (nI z28), .int z29, .int (nI z30), .int (nI z31), .ref z32, .ref z33, .ref z34, .ref z35, .ref z36, .int (bI z37), .int (nI z38), .int (nI z39), .int (nI z40), .int (nI z41), .int (nI z42), .int (nI z43), .int (nI z44), .int (nI z45), .int (nI z46), .ref z47, .ref z48, .ref z49, .ref z50, .ref z51, .ref z52, .int z53, .ref z54])) :: (z23, .inl (g.2.1 0, 32, .inl nu)) :: (z24, .inl (g.2.1 0, 8, .inl (upd ce (vl k) (nu (z27 - 1))))) :: (z25, .inl (g.2.1 0, 60, .inl ou)) :: (z4, .inr (9, [.int (nI n), .int (nI mm), .ref pk, .ref pv, .ref pl, .ref pa, .ref pt, .ref pm, .ref pi])) :: (pk, .inl (g.2.1 0, 100, .inl (nA kdm))) :: (pv, .inl (g.2.1 0, 100, .inl (nA vlm))) :: R) F hG hW 2 rfl (by omega) (by decide) hS rfl dX14_does_351 (fun H locs hW hS => ?_)
      refine lv_goto (tgt := 401) F.1 F.2.1 dX14_does_352 (by decide) ?_
      refine lv_iload_n F.1 F.2.1 dX14_does_401 rfl (lv_at hl 1 rfl) ?_
      refine lv_iconst (v := nI 1) F.1 F.2.1 dX14_does_402 rfl ?_
      refine gAdd F dX14_does_403 ?_
      refine gRi F hW hS dX14_does_404 ?_
      rw [hkk]
      exact ⟨rfl, rfl⟩
    · have hh9 : 0 ≤ z27 := by rw [hkk] at hh; exact hh
      have h329 : z27 - 0 + 0 ≤ 32 := by rw [hkk] at h32; exact h32
      refine lv_dup F.1 F.2.1 dX14_does_59 rfl ?_
      refine gGet F hG hW nX14_does_X14 0 rfl rfl 27 (by decide) mX14_does_2 rfl dX14_does_60 ?_
      refine gsPuts F hG hS mX14_does_4 dX14_does_63 ?_
      refine lv_aload_n F.1 F.2.1 dX14_does_66 rfl (lv_at hl 0 rfl) ?_
      refine gGet F hG hW nX14_does_X14 0 rfl rfl 4 (by decide) mX14_does_1 rfl dX14_does_67 ?_
      refine gGetN F hG hW nX14_does_X12 4 rfl rfl 2 (by decide) fX14_does_201 rfl dX14_does_70 ?_
      refine lv_iload_n F.1 F.2.1 dX14_does_73 rfl (lv_at hl 1 rfl) ?_
      refine gLdI F hG hW 5 rfl (by omega) (by decide) dX14_does_74 ?_
      refine gTop (y := nI (kdm k)) rfl ?_
      refine gTop (y := nI (kd k)) (congrArg nI (hak k (by omega))) ?_
      refine gTop (congrArg nI hkk) ?_
      refine gLdPuts F hG hS (by omega) dX14_does_75 ?_
      refine gTop (y := nI 0) rfl ?_
      refine gsTakes F hG hS mX14_does_5 dX14_does_76 ?_
      refine lv_aload_n F.1 F.2.1 dX14_does_79 rfl (lv_at hl 0 rfl) ?_
      refine gGet F hG hW nX14_does_X14 0 rfl rfl 4 (by decide) mX14_does_1 rfl dX14_does_80 ?_
      refine gGetN F hG hW nX14_does_X12 4 rfl rfl 2 (by decide) fX14_does_201 rfl dX14_does_83 ?_
      refine lv_iload_n F.1 F.2.1 dX14_does_86 rfl (lv_at hl 1 rfl) ?_
      refine gLdI F hG hW 5 rfl (by omega) (by decide) dX14_does_87 ?_
      refine gTop (y := nI (kdm k)) rfl ?_
      refine gTop (y := nI (kd k)) (congrArg nI (hak k (by omega))) ?_
      refine gTop (congrArg nI hkk) ?_
      refine gLdTakes F hG hS (by omega) dX14_does_88 ?_
      refine gTop (y := nI 0) rfl ?_
      refine lv_isub F.1 F.2.1 dX14_does_89 ?_
      refine lv_iadd F.1 F.2.1 dX14_does_90 ?_
      refine gTop (nI_bal (h := z27) (a := 0) (b := 0) hh9) ?_
      refine gPut (w2 := (o, .inr (11, [.int (nI z0), .int (nI z1), .int z2, .int (nI z3), .ref z4, .ref z5, .int (bI z6), .ref z7, .ref z8, .int (nI z9), .int (nI z10), .int (nI z11), .int (nI z12), .int (nI z13), .int (nI z14), .int (nI z15), .long (lN z16), .ref z17, .int z18, .int (nI z19), .ref z20, .ref z21, .ref z22, .ref z23, .ref z24, .ref z25, .int (nI z26), .int (nI (z27 - 0 + 0)), .int (nI z28), .int z29, .int (nI z30), .int (nI z31), .ref z32, .ref z33, .ref z34, .ref z35, .ref z36, .int (bI z37), .int (nI z38), .int (nI z39), .int (nI z40), .int (nI z41), .int (nI z42), .int (nI z43), .int (nI z44), .int (nI z45), .int (nI z46), .ref z47, .ref z48, .ref z49, .ref z50, .ref z51, .ref z52, .int z53, .ref z54])) :: (z23, .inl (g.2.1 0, 32, .inl nu)) :: (z24, .inl (g.2.1 0, 8, .inl ce)) :: (z25, .inl (g.2.1 0, 60, .inl ou)) :: (z4, .inr (9, [.int (nI n), .int (nI mm), .ref pk, .ref pv, .ref pl, .ref pa, .ref pt, .ref pm, .ref pi])) :: (pk, .inl (g.2.1 0, 100, .inl (nA kdm))) :: (pv, .inl (g.2.1 0, 100, .inl (nA vlm))) :: R) F hS hG hW nX14_does_X14 0 rfl rfl 27 (by decide) tyX14 tyX14_ok nmX14 mX14_does_2 rfl rfl rfl rfl (Nat.le_of_ble_eq_true rfl) rfl dX14_does_91 (fun H locs hW hS => ?_)
      refine lv_aload_n F.1 F.2.1 dX14_does_94 rfl (lv_at hl 0 rfl) ?_
      refine gGet F hG hW nX14_does_X14 0 rfl rfl 4 (by decide) mX14_does_1 rfl dX14_does_95 ?_
      refine gGetN F hG hW nX14_does_X12 4 rfl rfl 2 (by decide) fX14_does_201 rfl dX14_does_98 ?_
      refine lv_iload_n F.1 F.2.1 dX14_does_101 rfl (lv_at hl 1 rfl) ?_
      refine gLdI F hG hW 5 rfl (by omega) (by decide) dX14_does_102 ?_
      refine gTop (y := nI (kdm k)) rfl ?_
      refine gTop (y := nI (kd k)) (congrArg nI (hak k (by omega))) ?_
      refine gTop (congrArg nI hkk) ?_
      refine lv_tableIn (tgt := 355) F.1 F.2.1 dX14_does_103 (by decide) (by decide) rfl (by decide) ?_
      refine lv_iload_n F.1 F.2.1 dX14_does_355 rfl (lv_at hl 2 rfl) ?_
      refine gRi F hW hS dX14_does_356 ?_
      rw [hkk]
      exact ⟨rfl, rfl⟩
    · have hh9 : 1 ≤ z27 := by rw [hkk] at hh; exact hh
      have h329 : z27 - 1 + 0 ≤ 32 := by rw [hkk] at h32; exact h32
      have e_tp9 : tp9 = nu (z27 - 1) := htp (by omega)
      rw [e_tp9] at hl
      refine lv_dup F.1 F.2.1 dX14_does_59 rfl ?_
      refine gGet F hG hW nX14_does_X14 0 rfl rfl 27 (by decide) mX14_does_2 rfl dX14_does_60 ?_
      refine gsPuts F hG hS mX14_does_4 dX14_does_63 ?_
      refine lv_aload_n F.1 F.2.1 dX14_does_66 rfl (lv_at hl 0 rfl) ?_
      refine gGet F hG hW nX14_does_X14 0 rfl rfl 4 (by decide) mX14_does_1 rfl dX14_does_67 ?_
      refine gGetN F hG hW nX14_does_X12 4 rfl rfl 2 (by decide) fX14_does_201 rfl dX14_does_70 ?_
      refine lv_iload_n F.1 F.2.1 dX14_does_73 rfl (lv_at hl 1 rfl) ?_
      refine gLdI F hG hW 5 rfl (by omega) (by decide) dX14_does_74 ?_
      refine gTop (y := nI (kdm k)) rfl ?_
      refine gTop (y := nI (kd k)) (congrArg nI (hak k (by omega))) ?_
      refine gTop (congrArg nI hkk) ?_
      refine gLdPuts F hG hS (by omega) dX14_does_75 ?_
      refine gTop (y := nI 0) rfl ?_
      refine gsTakes F hG hS mX14_does_5 dX14_does_76 ?_
      refine lv_aload_n F.1 F.2.1 dX14_does_79 rfl (lv_at hl 0 rfl) ?_
      refine gGet F hG hW nX14_does_X14 0 rfl rfl 4 (by decide) mX14_does_1 rfl dX14_does_80 ?_
      refine gGetN F hG hW nX14_does_X12 4 rfl rfl 2 (by decide) fX14_does_201 rfl dX14_does_83 ?_
      refine lv_iload_n F.1 F.2.1 dX14_does_86 rfl (lv_at hl 1 rfl) ?_
      refine gLdI F hG hW 5 rfl (by omega) (by decide) dX14_does_87 ?_
      refine gTop (y := nI (kdm k)) rfl ?_
      refine gTop (y := nI (kd k)) (congrArg nI (hak k (by omega))) ?_
      refine gTop (congrArg nI hkk) ?_
      refine gLdTakes F hG hS (by omega) dX14_does_88 ?_
      refine gTop (y := nI 1) rfl ?_
      refine lv_isub F.1 F.2.1 dX14_does_89 ?_
      refine lv_iadd F.1 F.2.1 dX14_does_90 ?_
      refine gTop (nI_bal (h := z27) (a := 0) (b := 1) hh9) ?_
      refine gPut (w2 := (o, .inr (11, [.int (nI z0), .int (nI z1), .int z2, .int (nI z3), .ref z4, .ref z5, .int (bI z6), .ref z7, .ref z8, .int (nI z9), .int (nI z10), .int (nI z11), .int (nI z12), .int (nI z13), .int (nI z14), .int (nI z15), .long (lN z16), .ref z17, .int z18, .int (nI z19), .ref z20, .ref z21, .ref z22, .ref z23, .ref z24, .ref z25, .int (nI z26), .int (nI (z27 - 1 + 0)), .int (nI z28), .int z29, .int (nI z30), .int (nI z31), .ref z32, .ref z33, .ref z34, .ref z35, .ref z36, .int (bI z37), .int (nI z38), .int (nI z39), .int (nI z40), .int (nI z41), .int (nI z42), .int (nI z43), .int (nI z44), .int (nI z45), .int (nI z46), .ref z47, .ref z48, .ref z49, .ref z50, .ref z51, .ref z52, .int z53, .ref z54])) :: (z23, .inl (g.2.1 0, 32, .inl nu)) :: (z24, .inl (g.2.1 0, 8, .inl ce)) :: (z25, .inl (g.2.1 0, 60, .inl ou)) :: (z4, .inr (9, [.int (nI n), .int (nI mm), .ref pk, .ref pv, .ref pl, .ref pa, .ref pt, .ref pm, .ref pi])) :: (pk, .inl (g.2.1 0, 100, .inl (nA kdm))) :: (pv, .inl (g.2.1 0, 100, .inl (nA vlm))) :: R) F hS hG hW nX14_does_X14 0 rfl rfl 27 (by decide) tyX14 tyX14_ok nmX14 mX14_does_2 rfl rfl rfl rfl (Nat.le_of_ble_eq_true rfl) rfl dX14_does_91 (fun H locs hW hS => ?_)
      refine lv_aload_n F.1 F.2.1 dX14_does_94 rfl (lv_at hl 0 rfl) ?_
      refine gGet F hG hW nX14_does_X14 0 rfl rfl 4 (by decide) mX14_does_1 rfl dX14_does_95 ?_
      refine gGetN F hG hW nX14_does_X12 4 rfl rfl 2 (by decide) fX14_does_201 rfl dX14_does_98 ?_
      refine lv_iload_n F.1 F.2.1 dX14_does_101 rfl (lv_at hl 1 rfl) ?_
      refine gLdI F hG hW 5 rfl (by omega) (by decide) dX14_does_102 ?_
      refine gTop (y := nI (kdm k)) rfl ?_
      refine gTop (y := nI (kd k)) (congrArg nI (hak k (by omega))) ?_
      refine gTop (congrArg nI hkk) ?_
      refine lv_tableIn (tgt := 357) F.1 F.2.1 dX14_does_103 (by decide) (by decide) rfl (by decide) ?_
      refine lv_iload_n F.1 F.2.1 dX14_does_357 rfl (lv_at hl 3 rfl) ?_
      refine lv_if_ne (tgt := 365) F.1 F.2.1 dX14_does_358 (by decide) (fun c_358 => ?_) (fun c_358 => ?_)
      · refine lv_iload_n F.1 F.2.1 dX14_does_365 rfl (lv_at hl 1 rfl) ?_
        refine lv_iconst (v := nI 1) F.1 F.2.1 dX14_does_366 rfl ?_
        refine gAdd F dX14_does_367 ?_
        refine gRi F hW hS dX14_does_368 ?_
        rw [hkk]
        exact ⟨congrArg nI (plS_12f c_358), rfl⟩
      · refine lv_iload_n F.1 F.2.1 dX14_does_361 rfl (lv_at hl 2 rfl) ?_
        refine lv_goto (tgt := 368) F.1 F.2.1 dX14_does_362 (by decide) ?_
        refine gRi F hW hS dX14_does_368 ?_
        rw [hkk]
        exact ⟨congrArg nI (plS_12t c_358), rfl⟩
    · have hh9 : 1 ≤ z27 := by rw [hkk] at hh; exact hh
      have h329 : z27 - 1 + 0 ≤ 32 := by rw [hkk] at h32; exact h32
      have e_tp9 : tp9 = nu (z27 - 1) := htp (by omega)
      rw [e_tp9] at hl
      refine lv_dup F.1 F.2.1 dX14_does_59 rfl ?_
      refine gGet F hG hW nX14_does_X14 0 rfl rfl 27 (by decide) mX14_does_2 rfl dX14_does_60 ?_
      refine gsPuts F hG hS mX14_does_4 dX14_does_63 ?_
      refine lv_aload_n F.1 F.2.1 dX14_does_66 rfl (lv_at hl 0 rfl) ?_
      refine gGet F hG hW nX14_does_X14 0 rfl rfl 4 (by decide) mX14_does_1 rfl dX14_does_67 ?_
      refine gGetN F hG hW nX14_does_X12 4 rfl rfl 2 (by decide) fX14_does_201 rfl dX14_does_70 ?_
      refine lv_iload_n F.1 F.2.1 dX14_does_73 rfl (lv_at hl 1 rfl) ?_
      refine gLdI F hG hW 5 rfl (by omega) (by decide) dX14_does_74 ?_
      refine gTop (y := nI (kdm k)) rfl ?_
      refine gTop (y := nI (kd k)) (congrArg nI (hak k (by omega))) ?_
      refine gTop (congrArg nI hkk) ?_
      refine gLdPuts F hG hS (by omega) dX14_does_75 ?_
      refine gTop (y := nI 0) rfl ?_
      refine gsTakes F hG hS mX14_does_5 dX14_does_76 ?_
      refine lv_aload_n F.1 F.2.1 dX14_does_79 rfl (lv_at hl 0 rfl) ?_
      refine gGet F hG hW nX14_does_X14 0 rfl rfl 4 (by decide) mX14_does_1 rfl dX14_does_80 ?_
      refine gGetN F hG hW nX14_does_X12 4 rfl rfl 2 (by decide) fX14_does_201 rfl dX14_does_83 ?_
      refine lv_iload_n F.1 F.2.1 dX14_does_86 rfl (lv_at hl 1 rfl) ?_
      refine gLdI F hG hW 5 rfl (by omega) (by decide) dX14_does_87 ?_
      refine gTop (y := nI (kdm k)) rfl ?_
      refine gTop (y := nI (kd k)) (congrArg nI (hak k (by omega))) ?_
      refine gTop (congrArg nI hkk) ?_
      refine gLdTakes F hG hS (by omega) dX14_does_88 ?_
      refine gTop (y := nI 1) rfl ?_
      refine lv_isub F.1 F.2.1 dX14_does_89 ?_
      refine lv_iadd F.1 F.2.1 dX14_does_90 ?_
      refine gTop (nI_bal (h := z27) (a := 0) (b := 1) hh9) ?_
      refine gPut (w2 := (o, .inr (11, [.int (nI z0), .int (nI z1), .int z2, .int (nI z3), .ref z4, .ref z5, .int (bI z6), .ref z7, .ref z8, .int (nI z9), .int (nI z10), .int (nI z11), .int (nI z12), .int (nI z13), .int (nI z14), .int (nI z15), .long (lN z16), .ref z17, .int z18, .int (nI z19), .ref z20, .ref z21, .ref z22, .ref z23, .ref z24, .ref z25, .int (nI z26), .int (nI (z27 - 1 + 0)), .int (nI z28), .int z29, .int (nI z30), .int (nI z31), .ref z32, .ref z33, .ref z34, .ref z35, .ref z36, .int (bI z37), .int (nI z38), .int (nI z39), .int (nI z40), .int (nI z41), .int (nI z42), .int (nI z43), .int (nI z44), .int (nI z45), .int (nI z46), .ref z47, .ref z48, .ref z49, .ref z50, .ref z51, .ref z52, .int z53, .ref z54])) :: (z23, .inl (g.2.1 0, 32, .inl nu)) :: (z24, .inl (g.2.1 0, 8, .inl ce)) :: (z25, .inl (g.2.1 0, 60, .inl ou)) :: (z4, .inr (9, [.int (nI n), .int (nI mm), .ref pk, .ref pv, .ref pl, .ref pa, .ref pt, .ref pm, .ref pi])) :: (pk, .inl (g.2.1 0, 100, .inl (nA kdm))) :: (pv, .inl (g.2.1 0, 100, .inl (nA vlm))) :: R) F hS hG hW nX14_does_X14 0 rfl rfl 27 (by decide) tyX14 tyX14_ok nmX14 mX14_does_2 rfl rfl rfl rfl (Nat.le_of_ble_eq_true rfl) rfl dX14_does_91 (fun H locs hW hS => ?_)
      refine lv_aload_n F.1 F.2.1 dX14_does_94 rfl (lv_at hl 0 rfl) ?_
      refine gGet F hG hW nX14_does_X14 0 rfl rfl 4 (by decide) mX14_does_1 rfl dX14_does_95 ?_
      refine gGetN F hG hW nX14_does_X12 4 rfl rfl 2 (by decide) fX14_does_201 rfl dX14_does_98 ?_
      refine lv_iload_n F.1 F.2.1 dX14_does_101 rfl (lv_at hl 1 rfl) ?_
      refine gLdI F hG hW 5 rfl (by omega) (by decide) dX14_does_102 ?_
      refine gTop (y := nI (kdm k)) rfl ?_
      refine gTop (y := nI (kd k)) (congrArg nI (hak k (by omega))) ?_
      refine gTop (congrArg nI hkk) ?_
      refine lv_tableIn (tgt := 369) F.1 F.2.1 dX14_does_103 (by decide) (by decide) rfl (by decide) ?_
      refine lv_aload_n F.1 F.2.1 dX14_does_369 rfl (lv_at hl 0 rfl) ?_
      refine gGet F hG hW nX14_does_X14 0 rfl rfl 28 (by decide) mX14_does_7 rfl dX14_does_370 ?_
      refine lv_bipush (v := nI 60) F.1 F.2.1 dX14_does_373 (by decide) ?_
      refine gGe (tgt := 388) F (by omega) (by omega) dX14_does_375 (by decide) (fun c_375 => ?_) (fun c_375 => ?_)
      · refine lv_aload_n F.1 F.2.1 dX14_does_388 rfl (lv_at hl 0 rfl) ?_
        refine lv_dup F.1 F.2.1 dX14_does_389 rfl ?_
        refine gGet F hG hW nX14_does_X14 0 rfl rfl 28 (by decide) mX14_does_7 rfl dX14_does_390 ?_
        refine lv_iconst (v := nI 1) F.1 F.2.1 dX14_does_393 rfl ?_
        refine gAdd F dX14_does_394 ?_
        refine gPut (w2 := (o, .inr (11, [.int (nI z0), .int (nI z1), .int z2, .int (nI z3), .ref z4, .ref z5, .int (bI z6), .ref z7, .ref z8, .int (nI z9), .int (nI z10), .int (nI z11), .int (nI z12), .int (nI z13), .int (nI z14), .int (nI z15), .long (lN z16), .ref z17, .int z18, .int (nI z19), .ref z20, .ref z21, .ref z22, .ref z23, .ref z24, .ref z25, .int (nI z26), .int (nI (z27 - 1 + 0)), .int (nI (z28 + 1)), .int z29, .int (nI z30), .int (nI z31), .ref z32, .ref z33, .ref z34, .ref z35, .ref z36, .int (bI z37), .int (nI z38), .int (nI z39), .int (nI z40), .int (nI z41), .int (nI z42), .int (nI z43), .int (nI z44), .int (nI z45), .int (nI z46), .ref z47, .ref z48, .ref z49, .ref z50, .ref z51, .ref z52, .int z53, .ref z54])) :: (z23, .inl (g.2.1 0, 32, .inl nu)) :: (z24, .inl (g.2.1 0, 8, .inl ce)) :: (z25, .inl (g.2.1 0, 60, .inl ou)) :: (z4, .inr (9, [.int (nI n), .int (nI mm), .ref pk, .ref pv, .ref pl, .ref pa, .ref pt, .ref pm, .ref pi])) :: (pk, .inl (g.2.1 0, 100, .inl (nA kdm))) :: (pv, .inl (g.2.1 0, 100, .inl (nA vlm))) :: R) F hS hG hW nX14_does_X14 0 rfl rfl 28 (by decide) tyX14 tyX14_ok nmX14 mX14_does_7 rfl rfl rfl rfl (Nat.le_of_ble_eq_true rfl) rfl dX14_does_395 (fun H locs hW hS => ?_)
        refine lv_goto (tgt := 401) F.1 F.2.1 dX14_does_398 (by decide) ?_
        refine lv_iload_n F.1 F.2.1 dX14_does_401 rfl (lv_at hl 1 rfl) ?_
        refine lv_iconst (v := nI 1) F.1 F.2.1 dX14_does_402 rfl ?_
        refine gAdd F dX14_does_403 ?_
        refine gRi F hW hS dX14_does_404 ?_
        rw [hkk]
        exact ⟨rfl, by rw [show ouS 13 nu z27 ou z28 = ou from if_neg (by omega)]; rfl⟩
      · refine lv_aload_n F.1 F.2.1 dX14_does_378 rfl (lv_at hl 0 rfl) ?_
        refine gGet F hG hW nX14_does_X14 0 rfl rfl 25 (by decide) mX14_does_8 rfl dX14_does_379 ?_
        refine lv_aload_n F.1 F.2.1 dX14_does_382 rfl (lv_at hl 0 rfl) ?_
        refine gGet F hG hW nX14_does_X14 0 rfl rfl 28 (by decide) mX14_does_7 rfl dX14_does_383 ?_
        refine lv_iload_n F.1 F.2.1 dX14_does_386 rfl (lv_at hl 3 rfl) ?_
        refine gStI (w2 := (o, .inr (11, [.int (nI z0), .int (nI z1), .int z2, .int (nI z3), .ref z4, .ref z5, .int (bI z6), .ref z7, .ref z8, .int (nI z9), .int (nI z10), .int (nI z11), .int (nI z12), .int (nI z13), .int (nI z14), .int (nI z15), .long (lN z16), .ref z17, .int z18, .int (nI z19), .ref z20, .ref z21, .ref z22, .ref z23, .ref z24, .ref z25, .int (nI z26), .int (nI (z27 - 1 + 0)), .int (nI z28), .int z29, .int (nI z30), .int (nI z31), .ref z32, .ref z33, .ref z34, .ref z35, .ref z36, .int (bI z37), .int (nI z38), .int (nI z39), .int (nI z40), .int (nI z41), .int (nI z42), .int (nI z43), .int (nI z44), .int (nI z45), .int (nI z46), .ref z47, .ref z48, .ref z49, .ref z50, .ref z51, .ref z52, .int z53, .ref z54])) :: (z23, .inl (g.2.1 0, 32, .inl nu)) :: (z24, .inl (g.2.1 0, 8, .inl ce)) :: (z25, .inl (g.2.1 0, 60, .inl (upd ou z28 (nu (z27 - 1))))) :: (z4, .inr (9, [.int (nI n), .int (nI mm), .ref pk, .ref pv, .ref pl, .ref pa, .ref pt, .ref pm, .ref pi])) :: (pk, .inl (g.2.1 0, 100, .inl (nA kdm))) :: (pv, .inl (g.2.1 0, 100, .inl (nA vlm))) :: R) F hG hW 3 rfl (by omega) (by decide) hS rfl dX14_does_387 (fun H locs hW hS => ?_)
        refine lv_aload_n F.1 F.2.1 dX14_does_388 rfl (lv_at hl 0 rfl) ?_
        refine lv_dup F.1 F.2.1 dX14_does_389 rfl ?_
        refine gGet F hG hW nX14_does_X14 0 rfl rfl 28 (by decide) mX14_does_7 rfl dX14_does_390 ?_
        refine lv_iconst (v := nI 1) F.1 F.2.1 dX14_does_393 rfl ?_
        refine gAdd F dX14_does_394 ?_
        refine gPut (w2 := (o, .inr (11, [.int (nI z0), .int (nI z1), .int z2, .int (nI z3), .ref z4, .ref z5, .int (bI z6), .ref z7, .ref z8, .int (nI z9), .int (nI z10), .int (nI z11), .int (nI z12), .int (nI z13), .int (nI z14), .int (nI z15), .long (lN z16), .ref z17, .int z18, .int (nI z19), .ref z20, .ref z21, .ref z22, .ref z23, .ref z24, .ref z25, .int (nI z26), .int (nI (z27 - 1 + 0)), .int (nI (z28 + 1)), .int z29, .int (nI z30), .int (nI z31), .ref z32, .ref z33, .ref z34, .ref z35, .ref z36, .int (bI z37), .int (nI z38), .int (nI z39), .int (nI z40), .int (nI z41), .int (nI z42), .int (nI z43), .int (nI z44), .int (nI z45), .int (nI z46), .ref z47, .ref z48, .ref z49, .ref z50, .ref z51, .ref z52, .int z53, .ref z54])) :: (z23, .inl (g.2.1 0, 32, .inl nu)) :: (z24, .inl (g.2.1 0, 8, .inl ce)) :: (z25, .inl (g.2.1 0, 60, .inl (upd ou z28 (nu (z27 - 1))))) :: (z4, .inr (9, [.int (nI n), .int (nI mm), .ref pk, .ref pv, .ref pl, .ref pa, .ref pt, .ref pm, .ref pi])) :: (pk, .inl (g.2.1 0, 100, .inl (nA kdm))) :: (pv, .inl (g.2.1 0, 100, .inl (nA vlm))) :: R) F hS hG hW nX14_does_X14 0 rfl rfl 28 (by decide) tyX14 tyX14_ok nmX14 mX14_does_7 rfl rfl rfl rfl (Nat.le_of_ble_eq_true rfl) rfl dX14_does_395 (fun H locs hW hS => ?_)
        refine lv_goto (tgt := 401) F.1 F.2.1 dX14_does_398 (by decide) ?_
        refine lv_iload_n F.1 F.2.1 dX14_does_401 rfl (lv_at hl 1 rfl) ?_
        refine lv_iconst (v := nI 1) F.1 F.2.1 dX14_does_402 rfl ?_
        refine gAdd F dX14_does_403 ?_
        refine gRi F hW hS dX14_does_404 ?_
        rw [hkk]
        exact ⟨rfl, by rw [show ouS 13 nu z27 ou z28 = upd ou z28 (nu (z27 - 1)) from if_pos (by omega)]; rfl⟩
  refine lv_aload_n F.1 F.2.1 dX14_does_0 rfl (lv_at hl 0 rfl) ?_
  refine gGet F hG hW nX14_does_X14 0 rfl rfl 4 (by decide) mX14_does_1 rfl dX14_does_1 ?_
  refine gGetN F hG hW nX14_does_X12 4 rfl rfl 3 (by decide) fX14_does_203 rfl dX14_does_4 ?_
  refine lv_iload_n F.1 F.2.1 dX14_does_7 rfl (lv_at hl 1 rfl) ?_
  refine gLdI F hG hW 6 rfl (by omega) (by decide) dX14_does_8 ?_
  refine gTop (y := nI (vlm k)) rfl ?_
  refine gTop (y := nI (vl k)) (congrArg nI (hav k (by omega))) ?_
  refine lv_istore_n (lv' := [(2, .int (nI (vl k))), (0, .ref o), (1, .int (nI k))]) F.1 F.2.1 dX14_does_9 rfl hl (by decide) rfl (fun ls hl => ?_)
  refine lv_aload_n F.1 F.2.1 dX14_does_10 rfl (lv_at hl 1 rfl) ?_
  refine gGet F hG hW nX14_does_X14 0 rfl rfl 27 (by decide) mX14_does_2 rfl dX14_does_11 ?_
  refine gIfLe (tgt := 31) F (by omega) dX14_does_14 (by decide) (fun c_14 => ?_) (fun c_14 => ?_)
  · refine lv_iconst (v := nI 0) F.1 F.2.1 dX14_does_31 rfl ?_
    refine lv_istore_n (lv' := [(3, .int (nI 0)), (2, .int (nI (vl k))), (0, .ref o), (1, .int (nI k))]) F.1 F.2.1 dX14_does_32 rfl hl (by decide) rfl (fun ls hl => ?_)
    refine lv_aload_n F.1 F.2.1 dX14_does_33 rfl (lv_at hl 2 rfl) ?_
    refine gGet F hG hW nX14_does_X14 0 rfl rfl 27 (by decide) mX14_does_2 rfl dX14_does_34 ?_
    refine lv_iconst (v := nI 1) F.1 F.2.1 dX14_does_37 rfl ?_
    refine gLe (tgt := 55) F (by omega) (by omega) dX14_does_38 (by decide) (fun c_38 => ?_) (fun c_38 => ?_)
    · refine lv_iconst (v := nI 0) F.1 F.2.1 dX14_does_55 rfl ?_
      refine lv_istore (lv' := [(4, .int (nI 0)), (3, .int (nI 0)), (2, .int (nI (vl k))), (0, .ref o), (1, .int (nI k))]) F.1 F.2.1 dX14_does_56 hl (by decide) rfl (fun ls hl => ?_)
      exact J_58 (nI 0) (nI 0) (fun z => absurd z (by omega)) (fun z => absurd z (by omega)) _ _ _ hW hS (lv_sub hl [3, 4, 2, 1, 0] rfl)
    · refine lv_aload_n F.1 F.2.1 dX14_does_41 rfl (lv_at hl 2 rfl) ?_
      refine gGet F hG hW nX14_does_X14 0 rfl rfl 23 (by decide) mX14_does_3 rfl dX14_does_42 ?_
      refine lv_aload_n F.1 F.2.1 dX14_does_45 rfl (lv_at hl 2 rfl) ?_
      refine gGet F hG hW nX14_does_X14 0 rfl rfl 27 (by decide) mX14_does_2 rfl dX14_does_46 ?_
      refine lv_iconst (v := nI 2) F.1 F.2.1 dX14_does_49 rfl ?_
      refine gSub F (by omega) dX14_does_50 ?_
      refine gLdI F hG hW 1 rfl (by omega) (by decide) dX14_does_51 ?_
      refine lv_goto (tgt := 56) F.1 F.2.1 dX14_does_52 (by decide) ?_
      refine lv_istore (lv' := [(4, .int (nu (z27 - 2))), (3, .int (nI 0)), (2, .int (nI (vl k))), (0, .ref o), (1, .int (nI k))]) F.1 F.2.1 dX14_does_56 hl (by decide) rfl (fun ls hl => ?_)
      exact J_58 (nI 0) (nu (z27 - 2)) (fun z => absurd z (by omega)) (fun _ => rfl) _ _ _ hW hS (lv_sub hl [3, 4, 2, 1, 0] rfl)
  · refine lv_aload_n F.1 F.2.1 dX14_does_17 rfl (lv_at hl 1 rfl) ?_
    refine gGet F hG hW nX14_does_X14 0 rfl rfl 23 (by decide) mX14_does_3 rfl dX14_does_18 ?_
    refine lv_aload_n F.1 F.2.1 dX14_does_21 rfl (lv_at hl 1 rfl) ?_
    refine gGet F hG hW nX14_does_X14 0 rfl rfl 27 (by decide) mX14_does_2 rfl dX14_does_22 ?_
    refine lv_iconst (v := nI 1) F.1 F.2.1 dX14_does_25 rfl ?_
    refine gSub F (by omega) dX14_does_26 ?_
    refine gLdI F hG hW 1 rfl (by omega) (by decide) dX14_does_27 ?_
    refine lv_goto (tgt := 32) F.1 F.2.1 dX14_does_28 (by decide) ?_
    refine lv_istore_n (lv' := [(3, .int (nu (z27 - 1))), (2, .int (nI (vl k))), (0, .ref o), (1, .int (nI k))]) F.1 F.2.1 dX14_does_32 rfl hl (by decide) rfl (fun ls hl => ?_)
    refine lv_aload_n F.1 F.2.1 dX14_does_33 rfl (lv_at hl 2 rfl) ?_
    refine gGet F hG hW nX14_does_X14 0 rfl rfl 27 (by decide) mX14_does_2 rfl dX14_does_34 ?_
    refine lv_iconst (v := nI 1) F.1 F.2.1 dX14_does_37 rfl ?_
    refine gLe (tgt := 55) F (by omega) (by omega) dX14_does_38 (by decide) (fun c_38 => ?_) (fun c_38 => ?_)
    · refine lv_iconst (v := nI 0) F.1 F.2.1 dX14_does_55 rfl ?_
      refine lv_istore (lv' := [(4, .int (nI 0)), (3, .int (nu (z27 - 1))), (2, .int (nI (vl k))), (0, .ref o), (1, .int (nI k))]) F.1 F.2.1 dX14_does_56 hl (by decide) rfl (fun ls hl => ?_)
      exact J_58 (nu (z27 - 1)) (nI 0) (fun _ => rfl) (fun z => absurd z (by omega)) _ _ _ hW hS (lv_sub hl [3, 4, 2, 1, 0] rfl)
    · refine lv_aload_n F.1 F.2.1 dX14_does_41 rfl (lv_at hl 2 rfl) ?_
      refine gGet F hG hW nX14_does_X14 0 rfl rfl 23 (by decide) mX14_does_3 rfl dX14_does_42 ?_
      refine lv_aload_n F.1 F.2.1 dX14_does_45 rfl (lv_at hl 2 rfl) ?_
      refine gGet F hG hW nX14_does_X14 0 rfl rfl 27 (by decide) mX14_does_2 rfl dX14_does_46 ?_
      refine lv_iconst (v := nI 2) F.1 F.2.1 dX14_does_49 rfl ?_
      refine gSub F (by omega) dX14_does_50 ?_
      refine gLdI F hG hW 1 rfl (by omega) (by decide) dX14_does_51 ?_
      refine lv_goto (tgt := 56) F.1 F.2.1 dX14_does_52 (by decide) ?_
      refine lv_istore (lv' := [(4, .int (nu (z27 - 2))), (3, .int (nu (z27 - 1))), (2, .int (nI (vl k))), (0, .ref o), (1, .int (nI k))]) F.1 F.2.1 dX14_does_56 hl (by decide) rfl (fun ls hl => ?_)
      exact J_58 (nu (z27 - 1)) (nu (z27 - 2)) (fun _ => rfl) (fun _ => rfl) _ _ _ hW hS (lv_sub hl [3, 4, 2, 1, 0] rfl)

