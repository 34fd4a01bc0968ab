/-! ===== the model: leaves (written by wip/whole/gen/spec9.py) ===== -/
def nmA (g : gC) : Nat → Option Nat := fun i => some (g.2.2.2 (20 + i))
theorem encN_lt : ∀ i, i < 15 → encN i < 2 ^ 60 := by decide +kernel
def fnd (mw ma : Nat → Nat) (ms w : Nat) : Option Nat := (kfind mw w ms 0).map ma
theorem kfind_z {f : Nat → Nat} {w : Nat} : ∀ {n k : Nat}, k ≤ n → (∀ j, j < k → f j ≠ w) → kfind f w n 0 = kfind f w (n - k) k
  | n, 0, _, _ => rfl
  | n, k + 1, h, hz => by
    rw [kfind_z (Nat.le_of_succ_le h) (fun j hj => hz j (Nat.lt_succ_of_lt hj)), show n - k = (n - (k + 1)) + 1 by omega, kfind, if_neg (hz k (Nat.lt_succ_self k))]
theorem kfind_0 {f : Nat → Nat} {w n : Nat} (hz : ∀ j, j < n → f j ≠ w) : kfind f w n 0 = none := by
  rw [kfind_z (Nat.le_refl n) hz, Nat.sub_self]
  rfl
theorem kfind_1 {f : Nat → Nat} {w n k : Nat} (hk : k < n) (hz : ∀ j, j < k → f j ≠ w) (h : f k = w) : kfind f w n 0 = some k := by
  rw [kfind_z (Nat.le_of_lt hk) hz, show n - k = (n - (k + 1)) + 1 by omega, kfind, if_pos h]
theorem fnd_0 {mw ma : Nat → Nat} {w n : Nat} (hz : ∀ j, j < n → mw j ≠ w) : fnd mw ma n w = none := by
  unfold fnd; rw [kfind_0 hz]; rfl
theorem fnd_1 {mw ma : Nat → Nat} {w n k : Nat} (hk : k < n) (hz : ∀ j, j < k → mw j ≠ w) (h : mw k = w) : fnd mw ma n w = some (ma k) := by
  unfold fnd; rw [kfind_1 hk hz h]; rfl
theorem kL_0 {w k : Nat} (hk : k < 15) (hz : ∀ j, j < k → encN j ≠ w) (h : w = encN k) : kindL w = some k := kfind_1 hk hz h.symm
theorem kL_n {w : Nat} (hz : ∀ j, j < 15 → encN j ≠ w) : kindL w = none := kfind_0 hz
/-- in a .. b -/
def inS (x a b : Int32) : Bool := decide (a ≤ x) && decide (x ≤ b)
theorem inS_n {x : Int32} {n : Nat} (hn : n < 2 ^ 31) : inS x (nI 0) (nI n) = true ↔ ∃ j, j < n + 1 ∧ x = nI j := by
  unfold inS
  rw [Bool.and_eq_true, decide_eq_true_eq, decide_eq_true_eq]
  constructor
  · rintro ⟨h1, h2⟩
    have h3 := Int32.le_iff_toInt_le.mp h1
    have h4 := Int32.le_iff_toInt_le.mp h2
    rw [nI_toInt (by decide)] at h3
    rw [nI_toInt hn] at h4
    refine ⟨x.toInt.toNat, by omega, ?_⟩
    apply Int32.toInt_inj.mp
    rw [nI_toInt (by omega)]
    omega
  · rintro ⟨j, hj, rfl⟩
    exact ⟨Int32.le_iff_toInt_le.mpr (by rw [nI_toInt (by decide), nI_toInt (by omega)]; omega), Int32.le_iff_toInt_le.mpr (by rw [nI_toInt (by omega), nI_toInt hn]; omega)⟩
theorem inS_in {j n : Nat} (hn : n < 2 ^ 31) (hj : j < n + 1) : inS (nI j) (nI 0) (nI n) = true := (inS_n hn).mpr ⟨j, hj, rfl⟩
theorem inS_out {x : Int32} {n : Nat} (hn : n + 1 < 2 ^ 31) (h : x < 0 ∨ nI (n + 1) ≤ x) : inS x (nI 0) (nI n) = false := by
  cases q : inS x (nI 0) (nI n) with
  | false => rfl
  | true =>
    obtain ⟨j, hj, rfl⟩ := (inS_n (by omega)).mp q
    rcases h with h | h
    · exact absurd h (nI_lt0 (by omega))
    · have := Int32.le_iff_toInt_le.mp h
      rw [nI_toInt (by omega), nI_toInt (by omega)] at this
      omega
def srtM : Nat → Nat | 1 => 2 | 2 => 3 | 3 => 4 | 4 => 4 | 5 => 1 | _ => 0
def sgM : Nat → Nat | 3 => 58 | 4 => 59 | _ => 0
def isS (st sg c : Nat) : Bool := decide (st = 4) && decide (sg = c)
theorem isS_3 (K : Nat) : isS (srtM K) (sgM K) 58 = decide (K = 3) := by
  unfold isS srtM sgM
  split <;> first | rfl | (split <;> simp_all) | simp_all
theorem isS_4 (K : Nat) : isS (srtM K) (sgM K) 59 = decide (K = 4) := by
  unfold isS srtM sgM
  split <;> first | rfl | (split <;> simp_all) | simp_all
theorem srtM_1 {K : Nat} : srtM K = 1 ↔ K = 5 := by
  unfold srtM; split <;> simp_all
theorem srtM_2 {K : Nat} : srtM K = 2 ↔ K = 1 := by
  unfold srtM; split <;> simp_all
theorem srtM_3 {K : Nat} : srtM K = 3 ↔ K = 2 := by
  unfold srtM; split <;> simp_all
theorem srtM_le (K : Nat) : srtM K ≤ 4 := by
  unfold srtM; split <;> decide
theorem sgM_le (K : Nat) : sgM K ≤ 59 := by
  unfold sgM; split <;> decide

abbrev rm_X14_refused : Room := ({ frames := 0, cells := 0, slots := 0, locals := 0 } : Room)
theorem mX14_refused_1 : Cond.fieldLink RX14 132 "StepperHeartsModel" "trouble" "I" ∈ wsX14_refused := List.mem_of_getElem? (i := 1) rfl
theorem nX14_refused_X14 : ∀ w ∈ wsX140, w ∈ wsX14_refused := fun _ h => List.mem_cons_of_mem _ (List.mem_append_right _ (h))
theorem mX14_refused_2 : Cond.fieldLink RX14 9 "StepperHeartsModel" "where" "I" ∈ wsX14_refused := List.mem_of_getElem? (i := 2) rfl
set_option maxRecDepth 100000 in
set_option maxHeartbeats 4000000 in
theorem c_X14_refused (g : gC) (l : Launch) {o : Nat} {z0 : Nat} {z1 : Nat} {z2 : Int32} {z3 : Nat} {z4 : Nat} {z5 : Nat} {z6 : Bool} {z7 : Nat} {z8 : Nat} {z9 : Nat} {z10 : Nat} {z11 : Nat} {z12 : Nat} {z13 : Nat} {z14 : Nat} {z15 : Nat} {z16 : Nat} {z17 : Nat} {z18 : Int32} {z19 : Nat} {z20 : Nat} {z21 : Nat} {z22 : Nat} {z23 : Nat} {z24 : Nat} {z25 : Nat} {z26 : Nat} {z27 : Nat} {z28 : Nat} {z29 : Int32} {z30 : Nat} {z31 : Nat} {z32 : Nat} {z33 : Nat} {z34 : Nat} {z35 : Nat} {z36 : Nat} {z37 : Bool} {z38 : Nat} {z39 : Nat} {z40 : Nat} {z41 : Nat} {z42 : Nat} {z43 : Nat} {z44 : Nat} {z45 : Nat} {z46 : Nat} {z47 : Nat} {z48 : Nat} {z49 : Nat} {z50 : Nat} {z51 : Nat} {z52 : Nat} {z53 : Int32} {z54 : Nat} {k : Nat} {R : va_W} : cI g l yX14_refused wsX14_refused rm_X14_refused 0 0 [.ref o, .int (nI k)] ((o, .inr (11, [.int (nI z0), .int (nI z1), .int z2, .int (nI z3), .ref z4, .ref z5, .int (bI z6), .ref z7, .ref z8, .int (nI z9), .int (nI z10), .int (nI z11), .int (nI z12), .int (nI z13), .int (nI z14), .int (nI z15), .long (lN z16), .ref z17, .int z18, .int (nI z19), .ref z20, .ref z21, .ref z22, .ref z23, .ref z24, .ref z25, .int (nI z26), .int (nI z27), .int (nI z28), .int z29, .int (nI z30), .int (nI z31), .ref z32, .ref z33, .ref z34, .ref z35, .ref z36, .int (bI z37), .int (nI z38), .int (nI z39), .int (nI z40), .int (nI z41), .int (nI z42), .int (nI z43), .int (nI z44), .int (nI z45), .int (nI z46), .ref z47, .ref z48, .ref z49, .ref z50, .ref z51, .ref z52, .int z53, .ref z54])) :: R) (fun r u => (-1) = r ∧ (o, .inr (11, [.int (nI z0), .int (nI k), .int (-1), .int (nI z3), .ref z4, .ref z5, .int (bI z6), .ref z7, .ref z8, .int (nI z9), .int (nI z10), .int (nI z11), .int (nI z12), .int (nI z13), .int (nI z14), .int (nI z15), .long (lN z16), .ref z17, .int z18, .int (nI z19), .ref z20, .ref z21, .ref z22, .ref z23, .ref z24, .ref z25, .int (nI z26), .int (nI z27), .int (nI z28), .int z29, .int (nI z30), .int (nI z31), .ref z32, .ref z33, .ref z34, .ref z35, .ref z36, .int (bI z37), .int (nI z38), .int (nI z39), .int (nI z40), .int (nI z41), .int (nI z42), .int (nI z43), .int (nI z44), .int (nI z45), .int (nI z46), .ref z47, .ref z48, .ref z49, .ref z50, .ref z51, .ref z52, .int z53, .ref z54])) :: R = u) := by
  refine gEnterQ (cc := cX14_refused) (maxL := 2) (ret := (some (.int))) (by decide +kernel) rfl (Nat.le_of_ble_eq_true rfl) ?_
  intro p e s m below meth c F hG hW ls hl
  have hS : va_S (gA g) s.heap s.heap [] := va_S.rf
  have hl : lv_has ls 2 [(0, .ref o), (1, .int (nI k))] := hl
  have hW : gW g ((o, .inr (11, [.int (nI z0), .int (nI z1), .int z2, .int (nI z3), .ref z4, .ref z5, .int (bI z6), .ref z7, .ref z8, .int (nI z9), .int (nI z10), .int (nI z11), .int (nI z12), .int (nI z13), .int (nI z14), .int (nI z15), .long (lN z16), .ref z17, .int z18, .int (nI z19), .ref z20, .ref z21, .ref z22, .ref z23, .ref z24, .ref z25, .int (nI z26), .int (nI z27), .int (nI z28), .int z29, .int (nI z30), .int (nI z31), .ref z32, .ref z33, .ref z34, .ref z35, .ref z36, .int (bI z37), .int (nI z38), .int (nI z39), .int (nI z40), .int (nI z41), .int (nI z42), .int (nI z43), .int (nI z44), .int (nI z45), .int (nI z46), .ref z47, .ref z48, .ref z49, .ref z50, .ref z51, .ref z52, .int z53, .ref z54])) :: R) s.heap := hW
  refine lv_aload_n F.1 F.2.1 dX14_refused_0 rfl (lv_at hl 0 rfl) ?_
  refine lv_iload_n F.1 F.2.1 dX14_refused_1 rfl (lv_at hl 1 rfl) ?_
  refine gPut (w2 := (o, .inr (11, [.int (nI z0), .int (nI k), .int z2, .int (nI z3), .ref z4, .ref z5, .int (bI z6), .ref z7, .ref z8, .int (nI z9), .int (nI z10), .int (nI z11), .int (nI z12), .int (nI z13), .int (nI z14), .int (nI z15), .long (lN z16), .ref z17, .int z18, .int (nI z19), .ref z20, .ref z21, .ref z22, .ref z23, .ref z24, .ref z25, .int (nI z26), .int (nI z27), .int (nI z28), .int z29, .int (nI z30), .int (nI z31), .ref z32, .ref z33, .ref z34, .ref z35, .ref z36, .int (bI z37), .int (nI z38), .int (nI z39), .int (nI z40), .int (nI z41), .int (nI z42), .int (nI z43), .int (nI z44), .int (nI z45), .int (nI z46), .ref z47, .ref z48, .ref z49, .ref z50, .ref z51, .ref z52, .int z53, .ref z54])) :: R) F hS hG hW nX14_refused_X14 0 rfl rfl 1 (by decide) tyX14 tyX14_ok nmX14 mX14_refused_1 rfl rfl rfl rfl (Nat.le_of_ble_eq_true rfl) rfl dX14_refused_2 (fun H locs hW hS => ?_)
  refine lv_aload_n F.1 F.2.1 dX14_refused_5 rfl (lv_at hl 0 rfl) ?_
  refine lv_iconst (v := -1) F.1 F.2.1 dX14_refused_6 rfl ?_
  refine gPut (w2 := (o, .inr (11, [.int (nI z0), .int (nI k), .int (-1), .int (nI z3), .ref z4, .ref z5, .int (bI z6), .ref z7, .ref z8, .int (nI z9), .int (nI z10), .int (nI z11), .int (nI z12), .int (nI z13), .int (nI z14), .int (nI z15), .long (lN z16), .ref z17, .int z18, .int (nI z19), .ref z20, .ref z21, .ref z22, .ref z23, .ref z24, .ref z25, .int (nI z26), .int (nI z27), .int (nI z28), .int z29, .int (nI z30), .int (nI z31), .ref z32, .ref z33, .ref z34, .ref z35, .ref z36, .int (bI z37), .int (nI z38), .int (nI z39), .int (nI z40), .int (nI z41), .int (nI z42), .int (nI z43), .int (nI z44), .int (nI z45), .int (nI z46), .ref z47, .ref z48, .ref z49, .ref z50, .ref z51, .ref z52, .int z53, .ref z54])) :: R) F hS hG hW nX14_refused_X14 0 rfl rfl 2 (by decide) tyX14 tyX14_ok nmX14 mX14_refused_2 rfl rfl rfl rfl (Nat.le_of_ble_eq_true rfl) rfl dX14_refused_7 (fun H locs hW hS => ?_)
  refine lv_iconst (v := -1) F.1 F.2.1 dX14_refused_10 rfl ?_
  refine gRi F hW hS dX14_refused_11 ?_
  exact ⟨rfl, rfl⟩

abbrev rm_X14_done : Room := ({ frames := 0, cells := 0, slots := 0, locals := 0 } : Room)
theorem mX14_done_1 : Cond.fieldLink RX14 132 "StepperHeartsModel" "trouble" "I" ∈ wsX14_done := List.mem_of_getElem? (i := 1) rfl
theorem nX14_done_X14 : ∀ w ∈ wsX140, w ∈ wsX14_done := fun _ h => List.mem_cons_of_mem _ (List.mem_append_right _ (h))
theorem mX14_done_2 : Cond.fieldLink RX14 9 "StepperHeartsModel" "where" "I" ∈ wsX14_done := List.mem_of_getElem? (i := 2) rfl
set_option maxRecDepth 100000 in
set_option maxHeartbeats 4000000 in
theorem c_X14_done (g : gC) (l : Launch) {o : Nat} {z0 : Nat} {z1 : Nat} {z2 : Int32} {z3 : Nat} {z4 : Nat} {z5 : Nat} {z6 : Bool} {z7 : Nat} {z8 : Nat} {z9 : Nat} {z10 : Nat} {z11 : Nat} {z12 : Nat} {z13 : Nat} {z14 : Nat} {z15 : Nat} {z16 : Nat} {z17 : Nat} {z18 : Int32} {z19 : Nat} {z20 : Nat} {z21 : Nat} {z22 : Nat} {z23 : Nat} {z24 : Nat} {z25 : Nat} {z26 : Nat} {z27 : Nat} {z28 : Nat} {z29 : Int32} {z30 : Nat} {z31 : Nat} {z32 : Nat} {z33 : Nat} {z34 : Nat} {z35 : Nat} {z36 : Nat} {z37 : Bool} {z38 : Nat} {z39 : Nat} {z40 : Nat} {z41 : Nat} {z42 : Nat} {z43 : Nat} {z44 : Nat} {z45 : Nat} {z46 : Nat} {z47 : Nat} {z48 : Nat} {z49 : Nat} {z50 : Nat} {z51 : Nat} {z52 : Nat} {z53 : Int32} {z54 : Nat} {x : Int32} {R : va_W} : cI g l yX14_done wsX14_done rm_X14_done 0 0 [.ref o, .int x] ((o, .inr (11, [.int (nI z0), .int (nI z1), .int z2, .int (nI z3), .ref z4, .ref z5, .int (bI z6), .ref z7, .ref z8, .int (nI z9), .int (nI z10), .int (nI z11), .int (nI z12), .int (nI z13), .int (nI z14), .int (nI z15), .long (lN z16), .ref z17, .int z18, .int (nI z19), .ref z20, .ref z21, .ref z22, .ref z23, .ref z24, .ref z25, .int (nI z26), .int (nI z27), .int (nI z28), .int z29, .int (nI z30), .int (nI z31), .ref z32, .ref z33, .ref z34, .ref z35, .ref z36, .int (bI z37), .int (nI z38), .int (nI z39), .int (nI z40), .int (nI z41), .int (nI z42), .int (nI z43), .int (nI z44), .int (nI z45), .int (nI z46), .ref z47, .ref z48, .ref z49, .ref z50, .ref z51, .ref z52, .int z53, .ref z54])) :: R) (fun r u => x = r ∧ (o, .inr (11, [.int (nI z0), .int (nI 0), .int (-1), .int (nI z3), .ref z4, .ref z5, .int (bI z6), .ref z7, .ref z8, .int (nI z9), .int (nI z10), .int (nI z11), .int (nI z12), .int (nI z13), .int (nI z14), .int (nI z15), .long (lN z16), .ref z17, .int z18, .int (nI z19), .ref z20, .ref z21, .ref z22, .ref z23, .ref z24, .ref z25, .int (nI z26), .int (nI z27), .int (nI z28), .int z29, .int (nI z30), .int (nI z31), .ref z32, .ref z33, .ref z34, .ref z35, .ref z36, .int (bI z37), .int (nI z38), .int (nI z39), .int (nI z40), .int (nI z41), .int (nI z42), .int (nI z43), .int (nI z44), .int (nI z45), .int (nI z46), .ref z47, .ref z48, .ref z49, .ref z50, .ref z51, .ref z52, .int z53, .ref z54])) :: R = u) := by
  refine gEnterQ (cc := cX14_done) (maxL := 2) (ret := (some (.int))) (by decide +kernel) rfl (Nat.le_of_ble_eq_true rfl) ?_
  intro p e s m below meth c F hG hW ls hl
  have hS : va_S (gA g) s.heap s.heap [] := va_S.rf
  have hl : lv_has ls 2 [(0, .ref o), (1, .int x)] := hl
  have hW : gW g ((o, .inr (11, [.int (nI z0), .int (nI z1), .int z2, .int (nI z3), .ref z4, .ref z5, .int (bI z6), .ref z7, .ref z8, .int (nI z9), .int (nI z10), .int (nI z11), .int (nI z12), .int (nI z13), .int (nI z14), .int (nI z15), .long (lN z16), .ref z17, .int z18, .int (nI z19), .ref z20, .ref z21, .ref z22, .ref z23, .ref z24, .ref z25, .int (nI z26), .int (nI z27), .int (nI z28), .int z29, .int (nI z30), .int (nI z31), .ref z32, .ref z33, .ref z34, .ref z35, .ref z36, .int (bI z37), .int (nI z38), .int (nI z39), .int (nI z40), .int (nI z41), .int (nI z42), .int (nI z43), .int (nI z44), .int (nI z45), .int (nI z46), .ref z47, .ref z48, .ref z49, .ref z50, .ref z51, .ref z52, .int z53, .ref z54])) :: R) s.heap := hW
  refine lv_aload_n F.1 F.2.1 dX14_done_0 rfl (lv_at hl 0 rfl) ?_
  refine lv_iconst (v := nI 0) F.1 F.2.1 dX14_done_1 rfl ?_
  refine gPut (w2 := (o, .inr (11, [.int (nI z0), .int (nI 0), .int z2, .int (nI z3), .ref z4, .ref z5, .int (bI z6), .ref z7, .ref z8, .int (nI z9), .int (nI z10), .int (nI z11), .int (nI z12), .int (nI z13), .int (nI z14), .int (nI z15), .long (lN z16), .ref z17, .int z18, .int (nI z19), .ref z20, .ref z21, .ref z22, .ref z23, .ref z24, .ref z25, .int (nI z26), .int (nI z27), .int (nI z28), .int z29, .int (nI z30), .int (nI z31), .ref z32, .ref z33, .ref z34, .ref z35, .ref z36, .int (bI z37), .int (nI z38), .int (nI z39), .int (nI z40), .int (nI z41), .int (nI z42), .int (nI z43), .int (nI z44), .int (nI z45), .int (nI z46), .ref z47, .ref z48, .ref z49, .ref z50, .ref z51, .ref z52, .int z53, .ref z54])) :: R) F hS hG hW nX14_done_X14 0 rfl rfl 1 (by decide) tyX14 tyX14_ok nmX14 mX14_done_1 rfl rfl rfl rfl (Nat.le_of_ble_eq_true rfl) rfl dX14_done_2 (fun H locs hW hS => ?_)
  refine lv_aload_n F.1 F.2.1 dX14_done_5 rfl (lv_at hl 0 rfl) ?_
  refine lv_iconst (v := -1) F.1 F.2.1 dX14_done_6 rfl ?_
  refine gPut (w2 := (o, .inr (11, [.int (nI z0), .int (nI 0), .int (-1), .int (nI z3), .ref z4, .ref z5, .int (bI z6), .ref z7, .ref z8, .int (nI z9), .int (nI z10), .int (nI z11), .int (nI z12), .int (nI z13), .int (nI z14), .int (nI z15), .long (lN z16), .ref z17, .int z18, .int (nI z19), .ref z20, .ref z21, .ref z22, .ref z23, .ref z24, .ref z25, .int (nI z26), .int (nI z27), .int (nI z28), .int z29, .int (nI z30), .int (nI z31), .ref z32, .ref z33, .ref z34, .ref z35, .ref z36, .int (bI z37), .int (nI z38), .int (nI z39), .int (nI z40), .int (nI z41), .int (nI z42), .int (nI z43), .int (nI z44), .int (nI z45), .int (nI z46), .ref z47, .ref z48, .ref z49, .ref z50, .ref z51, .ref z52, .int z53, .ref z54])) :: R) F hS hG hW nX14_done_X14 0 rfl rfl 2 (by decide) tyX14 tyX14_ok nmX14 mX14_done_2 rfl rfl rfl rfl (Nat.le_of_ble_eq_true rfl) rfl dX14_done_7 (fun H locs hW hS => ?_)
  refine lv_iload_n F.1 F.2.1 dX14_done_10 rfl (lv_at hl 1 rfl) ?_
  refine gRi F hW hS dX14_done_11 ?_
  exact ⟨rfl, rfl⟩

abbrev rm_X14_in : Room := ({ frames := 0, cells := 0, slots := 0, locals := 0 } : Room)
set_option maxRecDepth 100000 in
set_option maxHeartbeats 4000000 in
theorem c_X14_in (g : gC) (l : Launch) {x : Int32} {a : Int32} {b : Int32} {R : va_W} : cI g l yX14_in wsX14_in rm_X14_in 0 0 [.int x, .int a, .int b] (R) (fun r u => (bI (inS x a b)) = r ∧ R = u) := by
  refine gEnterQ (cc := cX14_in) (maxL := 3) (ret := (some (.boolean))) (by decide +kernel) rfl (Nat.le_of_ble_eq_true rfl) ?_
  intro p e s m below meth c F hG hW ls hl
  have hS : va_S (gA g) s.heap s.heap [] := va_S.rf
  have hl : lv_has ls 3 [(0, .int x), (1, .int a), (2, .int b)] := hl
  have hW : gW g (R) s.heap := hW
  refine lv_iload_n F.1 F.2.1 dX14_in_0 rfl (lv_at hl 0 rfl) ?_
  refine lv_iload_n F.1 F.2.1 dX14_in_1 rfl (lv_at hl 1 rfl) ?_
  refine lv_icmp_lt (tgt := 14) F.1 F.2.1 dX14_in_2 (by decide) (fun c_2 => ?_) (fun c_2 => ?_)
  · refine lv_iconst (v := nI 0) F.1 F.2.1 dX14_in_14 rfl ?_
    refine gRz rfl F hW hS dX14_in_15 ?_
    exact ⟨by unfold inS; rw [decide_eq_false (fun z => Int32.not_lt.mpr z c_2)]; rfl, rfl⟩
  · refine lv_iload_n F.1 F.2.1 dX14_in_5 rfl (lv_at hl 0 rfl) ?_
    refine lv_iload_n F.1 F.2.1 dX14_in_6 rfl (lv_at hl 2 rfl) ?_
    refine lv_icmp_gt (tgt := 14) F.1 F.2.1 dX14_in_7 (by decide) (fun c_7 => ?_) (fun c_7 => ?_)
    · refine lv_iconst (v := nI 0) F.1 F.2.1 dX14_in_14 rfl ?_
      refine gRz rfl F hW hS dX14_in_15 ?_
      exact ⟨by unfold inS; rw [decide_eq_false (fun z => Int32.not_lt.mpr z c_7), Bool.and_false]; rfl, rfl⟩
    · refine lv_iconst (v := nI 1) F.1 F.2.1 dX14_in_10 rfl ?_
      refine lv_goto (tgt := 15) F.1 F.2.1 dX14_in_11 (by decide) ?_
      refine gRz rfl F hW hS dX14_in_15 ?_
      exact ⟨by unfold inS; rw [decide_eq_true (Int32.not_lt.mp c_2), decide_eq_true (Int32.not_lt.mp c_7)]; rfl, rfl⟩

abbrev rm_X14_thrown : Room := ({ frames := 0, cells := 0, slots := 0, locals := 0 } : Room)
theorem mX14_thrown_1 : Cond.fieldLink RX14 129 "StepperHeartsModel" "thrown" "I" ∈ wsX14_thrown := List.mem_of_getElem? (i := 1) rfl
theorem nX14_thrown_X14 : ∀ w ∈ wsX140, w ∈ wsX14_thrown := fun _ h => List.mem_cons_of_mem _ (List.mem_append_right _ (h))
set_option maxRecDepth 100000 in
set_option maxHeartbeats 4000000 in
theorem c_X14_thrown (g : gC) (l : Launch) {o : Nat} {z0 : Nat} {z1 : Nat} {z2 : Int32} {z3 : Nat} {z4 : Nat} {z5 : Nat} {z6 : Bool} {z7 : Nat} {z8 : Nat} {z9 : Nat} {z10 : Nat} {z11 : Nat} {z12 : Nat} {z13 : Nat} {z14 : Nat} {z15 : Nat} {z16 : Nat} {z17 : Nat} {z18 : Int32} {z19 : Nat} {z20 : Nat} {z21 : Nat} {z22 : Nat} {z23 : Nat} {z24 : Nat} {z25 : Nat} {z26 : Nat} {z27 : Nat} {z28 : Nat} {z29 : Int32} {z30 : Nat} {z31 : Nat} {z32 : Nat} {z33 : Nat} {z34 : Nat} {z35 : Nat} {z36 : Nat} {z37 : Bool} {z38 : Nat} {z39 : Nat} {z40 : Nat} {z41 : Nat} {z42 : Nat} {z43 : Nat} {z44 : Nat} {z45 : Nat} {z46 : Nat} {z47 : Nat} {z48 : Nat} {z49 : Nat} {z50 : Nat} {z51 : Nat} {z52 : Nat} {z53 : Int32} {z54 : Nat} {R : va_W} : cI g l yX14_thrown wsX14_thrown rm_X14_thrown 0 0 [.ref o] ((o, .inr (11, [.int (nI z0), .int (nI z1), .int z2, .int (nI z3), .ref z4, .ref z5, .int (bI z6), .ref z7, .ref z8, .int (nI z9), .int (nI z10), .int (nI z11), .int (nI z12), .int (nI z13), .int (nI z14), .int (nI z15), .long (lN z16), .ref z17, .int z18, .int (nI z19), .ref z20, .ref z21, .ref z22, .ref z23, .ref z24, .ref z25, .int (nI z26), .int (nI z27), .int (nI z28), .int z29, .int (nI z30), .int (nI z31), .ref z32, .ref z33, .ref z34, .ref z35, .ref z36, .int (bI z37), .int (nI z38), .int (nI z39), .int (nI z40), .int (nI z41), .int (nI z42), .int (nI z43), .int (nI z44), .int (nI z45), .int (nI z46), .ref z47, .ref z48, .ref z49, .ref z50, .ref z51, .ref z52, .int z53, .ref z54])) :: R) (fun r u => (nI z0) = r ∧ (o, .inr (11, [.int (nI z0), .int (nI z1), .int z2, .int (nI z3), .ref z4, .ref z5, .int (bI z6), .ref z7, .ref z8, .int (nI z9), .int (nI z10), .int (nI z11), .int (nI z12), .int (nI z13), .int (nI z14), .int (nI z15), .long (lN z16), .ref z17, .int z18, .int (nI z19), .ref z20, .ref z21, .ref z22, .ref z23, .ref z24, .ref z25, .int (nI z26), .int (nI z27), .int (nI z28), .int z29, .int (nI z30), .int (nI z31), .ref z32, .ref z33, .ref z34, .ref z35, .ref z36, .int (bI z37), .int (nI z38), .int (nI z39), .int (nI z40), .int (nI z41), .int (nI z42), .int (nI z43), .int (nI z44), .int (nI z45), .int (nI z46), .ref z47, .ref z48, .ref z49, .ref z50, .ref z51, .ref z52, .int z53, .ref z54])) :: R = u) := by
  refine gEnterQ (cc := cX14_thrown) (maxL := 1) (ret := (some (.int))) (by decide +kernel) rfl (Nat.le_of_ble_eq_true rfl) ?_
  intro p e s m below meth c F hG hW ls hl
  have hS : va_S (gA g) s.heap s.heap [] := va_S.rf
  have hl : lv_has ls 1 [(0, .ref o)] := hl
  have hW : gW g ((o, .inr (11, [.int (nI z0), .int (nI z1), .int z2, .int (nI z3), .ref z4, .ref z5, .int (bI z6), .ref z7, .ref z8, .int (nI z9), .int (nI z10), .int (nI z11), .int (nI z12), .int (nI z13), .int (nI z14), .int (nI z15), .long (lN z16), .ref z17, .int z18, .int (nI z19), .ref z20, .ref z21, .ref z22, .ref z23, .ref z24, .ref z25, .int (nI z26), .int (nI z27), .int (nI z28), .int z29, .int (nI z30), .int (nI z31), .ref z32, .ref z33, .ref z34, .ref z35, .ref z36, .int (bI z37), .int (nI z38), .int (nI z39), .int (nI z40), .int (nI z41), .int (nI z42), .int (nI z43), .int (nI z44), .int (nI z45), .int (nI z46), .ref z47, .ref z48, .ref z49, .ref z50, .ref z51, .ref z52, .int z53, .ref z54])) :: R) s.heap := hW
  refine lv_aload_n F.1 F.2.1 dX14_thrown_0 rfl (lv_at hl 0 rfl) ?_
  refine gGet F hG hW nX14_thrown_X14 0 rfl rfl 0 (by decide) mX14_thrown_1 rfl dX14_thrown_1 ?_
  refine gRi F hW hS dX14_thrown_4 ?_
  exact ⟨rfl, rfl⟩

abbrev rm_X14_fault : Room := ({ frames := 0, cells := 0, slots := 0, locals := 0 } : Room)
theorem mX14_fault_1 : Cond.fieldLink RX14 129 "StepperHeartsModel" "thrown" "I" ∈ wsX14_fault := List.mem_of_getElem? (i := 1) rfl
theorem nX14_fault_X14 : ∀ w ∈ wsX140, w ∈ wsX14_fault := fun _ h => List.mem_cons_of_mem _ (List.mem_append_right _ (h))
theorem mX14_fault_2 : Cond.fieldLink RX14 237 "StepperHeartsModel" "fault" "I" ∈ wsX14_fault := List.mem_of_getElem? (i := 2) rfl
set_option maxRecDepth 100000 in
set_option maxHeartbeats 4000000 in
theorem c_X14_fault (g : gC) (l : Launch) {o : Nat} {z0 : Nat} {z1 : Nat} {z2 : Int32} {z3 : Nat} {z4 : Nat} {z5 : Nat} {z6 : Bool} {z7 : Nat} {z8 : Nat} {z9 : Nat} {z10 : Nat} {z11 : Nat} {z12 : Nat} {z13 : Nat} {z14 : Nat} {z15 : Nat} {z16 : Nat} {z17 : Nat} {z18 : Int32} {z19 : Nat} {z20 : Nat} {z21 : Nat} {z22 : Nat} {z23 : Nat} {z24 : Nat} {z25 : Nat} {z26 : Nat} {z27 : Nat} {z28 : Nat} {z29 : Int32} {z30 : Nat} {z31 : Nat} {z32 : Nat} {z33 : Nat} {z34 : Nat} {z35 : Nat} {z36 : Nat} {z37 : Bool} {z38 : Nat} {z39 : Nat} {z40 : Nat} {z41 : Nat} {z42 : Nat} {z43 : Nat} {z44 : Nat} {z45 : Nat} {z46 : Nat} {z47 : Nat} {z48 : Nat} {z49 : Nat} {z50 : Nat} {z51 : Nat} {z52 : Nat} {z53 : Int32} {z54 : Nat} {R : va_W} : cI g l yX14_fault wsX14_fault rm_X14_fault 0 0 [.ref o] ((o, .inr (11, [.int (nI z0), .int (nI z1), .int z2, .int (nI z3), .ref z4, .ref z5, .int (bI z6), .ref z7, .ref z8, .int (nI z9), .int (nI z10), .int (nI z11), .int (nI z12), .int (nI z13), .int (nI z14), .int (nI z15), .long (lN z16), .ref z17, .int z18, .int (nI z19), .ref z20, .ref z21, .ref z22, .ref z23, .ref z24, .ref z25, .int (nI z26), .int (nI z27), .int (nI z28), .int z29, .int (nI z30), .int (nI z31), .ref z32, .ref z33, .ref z34, .ref z35, .ref z36, .int (bI z37), .int (nI z38), .int (nI z39), .int (nI z40), .int (nI z41), .int (nI z42), .int (nI z43), .int (nI z44), .int (nI z45), .int (nI z46), .ref z47, .ref z48, .ref z49, .ref z50, .ref z51, .ref z52, .int z53, .ref z54])) :: R) (fun r u => (nI z3) = r ∧ (o, .inr (11, [.int (nI 0), .int (nI z1), .int z2, .int (nI z3), .ref z4, .ref z5, .int (bI z6), .ref z7, .ref z8, .int (nI z9), .int (nI z10), .int (nI z11), .int (nI z12), .int (nI z13), .int (nI z14), .int (nI z15), .long (lN z16), .ref z17, .int z18, .int (nI z19), .ref z20, .ref z21, .ref z22, .ref z23, .ref z24, .ref z25, .int (nI z26), .int (nI z27), .int (nI z28), .int z29, .int (nI z30), .int (nI z31), .ref z32, .ref z33, .ref z34, .ref z35, .ref z36, .int (bI z37), .int (nI z38), .int (nI z39), .int (nI z40), .int (nI z41), .int (nI z42), .int (nI z43), .int (nI z44), .int (nI z45), .int (nI z46), .ref z47, .ref z48, .ref z49, .ref z50, .ref z51, .ref z52, .int z53, .ref z54])) :: R = u) := by
  refine gEnterQ (cc := cX14_fault) (maxL := 1) (ret := (some (.int))) (by decide +kernel) rfl (Nat.le_of_ble_eq_true rfl) ?_
  intro p e s m below meth c F hG hW ls hl
  have hS : va_S (gA g) s.heap s.heap [] := va_S.rf
  have hl : lv_has ls 1 [(0, .ref o)] := hl
  have hW : gW g ((o, .inr (11, [.int (nI z0), .int (nI z1), .int z2, .int (nI z3), .ref z4, .ref z5, .int (bI z6), .ref z7, .ref z8, .int (nI z9), .int (nI z10), .int (nI z11), .int (nI z12), .int (nI z13), .int (nI z14), .int (nI z15), .long (lN z16), .ref z17, .int z18, .int (nI z19), .ref z20, .ref z21, .ref z22, .ref z23, .ref z24, .ref z25, .int (nI z26), .int (nI z27), .int (nI z28), .int z29, .int (nI z30), .int (nI z31), .ref z32, .ref z33, .ref z34, .ref z35, .ref z36, .int (bI z37), .int (nI z38), .int (nI z39), .int (nI z40), .int (nI z41), .int (nI z42), .int (nI z43), .int (nI z44), .int (nI z45), .int (nI z46), .ref z47, .ref z48, .ref z49, .ref z50, .ref z51, .ref z52, .int z53, .ref z54])) :: R) s.heap := hW
  refine lv_aload_n F.1 F.2.1 dX14_fault_0 rfl (lv_at hl 0 rfl) ?_
  refine lv_iconst (v := nI 0) F.1 F.2.1 dX14_fault_1 rfl ?_
  refine gPut (w2 := (o, .inr (11, [.int (nI 0), .int (nI z1), .int z2, .int (nI z3), .ref z4, .ref z5, .int (bI z6), .ref z7, .ref z8, .int (nI z9), .int (nI z10), .int (nI z11), .int (nI z12), .int (nI z13), .int (nI z14), .int (nI z15), .long (lN z16), .ref z17, .int z18, .int (nI z19), .ref z20, .ref z21, .ref z22, .ref z23, .ref z24, .ref z25, .int (nI z26), .int (nI z27), .int (nI z28), .int z29, .int (nI z30), .int (nI z31), .ref z32, .ref z33, .ref z34, .ref z35, .ref z36, .int (bI z37), .int (nI z38), .int (nI z39), .int (nI z40), .int (nI z41), .int (nI z42), .int (nI z43), .int (nI z44), .int (nI z45), .int (nI z46), .ref z47, .ref z48, .ref z49, .ref z50, .ref z51, .ref z52, .int z53, .ref z54])) :: R) F hS hG hW nX14_fault_X14 0 rfl rfl 0 (by decide) tyX14 tyX14_ok nmX14 mX14_fault_1 rfl rfl rfl rfl (Nat.le_of_ble_eq_true rfl) rfl dX14_fault_2 (fun H locs hW hS => ?_)
  refine lv_aload_n F.1 F.2.1 dX14_fault_5 rfl (lv_at hl 0 rfl) ?_
  refine gGet F hG hW nX14_fault_X14 0 rfl rfl 3 (by decide) mX14_fault_2 rfl dX14_fault_6 ?_
  refine gRi F hW hS dX14_fault_9 ?_
  exact ⟨rfl, rfl⟩

abbrev rm_X14_where : Room := ({ frames := 0, cells := 0, slots := 0, locals := 0 } : Room)
theorem mX14_where_1 : Cond.fieldLink RX14 129 "StepperHeartsModel" "thrown" "I" ∈ wsX14_where := List.mem_of_getElem? (i := 1) rfl
theorem nX14_where_X14 : ∀ w ∈ wsX140, w ∈ wsX14_where := fun _ h => List.mem_cons_of_mem _ (List.mem_append_right _ (h))
theorem mX14_where_2 : Cond.fieldLink RX14 9 "StepperHeartsModel" "where" "I" ∈ wsX14_where := List.mem_of_getElem? (i := 2) rfl
set_option maxRecDepth 100000 in
set_option maxHeartbeats 4000000 in
theorem c_X14_where (g : gC) (l : Launch) {o : Nat} {z0 : Nat} {z1 : Nat} {z2 : Int32} {z3 : Nat} {z4 : Nat} {z5 : Nat} {z6 : Bool} {z7 : Nat} {z8 : Nat} {z9 : Nat} {z10 : Nat} {z11 : Nat} {z12 : Nat} {z13 : Nat} {z14 : Nat} {z15 : Nat} {z16 : Nat} {z17 : Nat} {z18 : Int32} {z19 : Nat} {z20 : Nat} {z21 : Nat} {z22 : Nat} {z23 : Nat} {z24 : Nat} {z25 : Nat} {z26 : Nat} {z27 : Nat} {z28 : Nat} {z29 : Int32} {z30 : Nat} {z31 : Nat} {z32 : Nat} {z33 : Nat} {z34 : Nat} {z35 : Nat} {z36 : Nat} {z37 : Bool} {z38 : Nat} {z39 : Nat} {z40 : Nat} {z41 : Nat} {z42 : Nat} {z43 : Nat} {z44 : Nat} {z45 : Nat} {z46 : Nat} {z47 : Nat} {z48 : Nat} {z49 : Nat} {z50 : Nat} {z51 : Nat} {z52 : Nat} {z53 : Int32} {z54 : Nat} {R : va_W} : cI g l yX14_where wsX14_where rm_X14_where 0 0 [.ref o] ((o, .inr (11, [.int (nI z0), .int (nI z1), .int z2, .int (nI z3), .ref z4, .ref z5, .int (bI z6), .ref z7, .ref z8, .int (nI z9), .int (nI z10), .int (nI z11), .int (nI z12), .int (nI z13), .int (nI z14), .int (nI z15), .long (lN z16), .ref z17, .int z18, .int (nI z19), .ref z20, .ref z21, .ref z22, .ref z23, .ref z24, .ref z25, .int (nI z26), .int (nI z27), .int (nI z28), .int z29, .int (nI z30), .int (nI z31), .ref z32, .ref z33, .ref z34, .ref z35, .ref z36, .int (bI z37), .int (nI z38), .int (nI z39), .int (nI z40), .int (nI z41), .int (nI z42), .int (nI z43), .int (nI z44), .int (nI z45), .int (nI z46), .ref z47, .ref z48, .ref z49, .ref z50, .ref z51, .ref z52, .int z53, .ref z54])) :: R) (fun r u => z2 = r ∧ (o, .inr (11, [.int (nI 0), .int (nI z1), .int z2, .int (nI z3), .ref z4, .ref z5, .int (bI z6), .ref z7, .ref z8, .int (nI z9), .int (nI z10), .int (nI z11), .int (nI z12), .int (nI z13), .int (nI z14), .int (nI z15), .long (lN z16), .ref z17, .int z18, .int (nI z19), .ref z20, .ref z21, .ref z22, .ref z23, .ref z24, .ref z25, .int (nI z26), .int (nI z27), .int (nI z28), .int z29, .int (nI z30), .int (nI z31), .ref z32, .ref z33, .ref z34, .ref z35, .ref z36, .int (bI z37), .int (nI z38), .int (nI z39), .int (nI z40), .int (nI z41), .int (nI z42), .int (nI z43), .int (nI z44), .int (nI z45), .int (nI z46), .ref z47, .ref z48, .ref z49, .ref z50, .ref z51, .ref z52, .int z53, .ref z54])) :: R = u) := by
  refine gEnterQ (cc := cX14_where) (maxL := 1) (ret := (some (.int))) (by decide +kernel) rfl (Nat.le_of_ble_eq_true rfl) ?_
  intro p e s m below meth c F hG hW ls hl
  have hS : va_S (gA g) s.heap s.heap [] := va_S.rf
  have hl : lv_has ls 1 [(0, .ref o)] := hl
  have hW : gW g ((o, .inr (11, [.int (nI z0), .int (nI z1), .int z2, .int (nI z3), .ref z4, .ref z5, .int (bI z6), .ref z7, .ref z8, .int (nI z9), .int (nI z10), .int (nI z11), .int (nI z12), .int (nI z13), .int (nI z14), .int (nI z15), .long (lN z16), .ref z17, .int z18, .int (nI z19), .ref z20, .ref z21, .ref z22, .ref z23, .ref z24, .ref z25, .int (nI z26), .int (nI z27), .int (nI z28), .int z29, .int (nI z30), .int (nI z31), .ref z32, .ref z33, .ref z34, .ref z35, .ref z36, .int (bI z37), .int (nI z38), .int (nI z39), .int (nI z40), .int (nI z41), .int (nI z42), .int (nI z43), .int (nI z44), .int (nI z45), .int (nI z46), .ref z47, .ref z48, .ref z49, .ref z50, .ref z51, .ref z52, .int z53, .ref z54])) :: R) s.heap := hW
  refine lv_aload_n F.1 F.2.1 dX14_where_0 rfl (lv_at hl 0 rfl) ?_
  refine lv_iconst (v := nI 0) F.1 F.2.1 dX14_where_1 rfl ?_
  refine gPut (w2 := (o, .inr (11, [.int (nI 0), .int (nI z1), .int z2, .int (nI z3), .ref z4, .ref z5, .int (bI z6), .ref z7, .ref z8, .int (nI z9), .int (nI z10), .int (nI z11), .int (nI z12), .int (nI z13), .int (nI z14), .int (nI z15), .long (lN z16), .ref z17, .int z18, .int (nI z19), .ref z20, .ref z21, .ref z22, .ref z23, .ref z24, .ref z25, .int (nI z26), .int (nI z27), .int (nI z28), .int z29, .int (nI z30), .int (nI z31), .ref z32, .ref z33, .ref z34, .ref z35, .ref z36, .int (bI z37), .int (nI z38), .int (nI z39), .int (nI z40), .int (nI z41), .int (nI z42), .int (nI z43), .int (nI z44), .int (nI z45), .int (nI z46), .ref z47, .ref z48, .ref z49, .ref z50, .ref z51, .ref z52, .int z53, .ref z54])) :: R) F hS hG hW nX14_where_X14 0 rfl rfl 0 (by decide) tyX14 tyX14_ok nmX14 mX14_where_1 rfl rfl rfl rfl (Nat.le_of_ble_eq_true rfl) rfl dX14_where_2 (fun H locs hW hS => ?_)
  refine lv_aload_n F.1 F.2.1 dX14_where_5 rfl (lv_at hl 0 rfl) ?_
  refine gGet F hG hW nX14_where_X14 0 rfl rfl 2 (by decide) mX14_where_2 rfl dX14_where_6 ?_
  refine gRi F hW hS dX14_where_9 ?_
  exact ⟨rfl, rfl⟩

abbrev rm_X14_better : Room := ({ frames := 0, cells := 0, slots := 0, locals := 0 } : Room)
theorem mX14_better_1 : Cond.fieldLink RX14 129 "StepperHeartsModel" "thrown" "I" ∈ wsX14_better := List.mem_of_getElem? (i := 1) rfl
theorem nX14_better_X14 : ∀ w ∈ wsX140, w ∈ wsX14_better := fun _ h => List.mem_cons_of_mem _ (List.mem_append_right _ (h))
theorem mX14_better_2 : Cond.fieldLink RX14 123 "StepperHeartsModel" "better" "I" ∈ wsX14_better := List.mem_of_getElem? (i := 2) rfl
set_option maxRecDepth 100000 in
set_option maxHeartbeats 4000000 in
theorem c_X14_better (g : gC) (l : Launch) {o : Nat} {z0 : Nat} {z1 : Nat} {z2 : Int32} {z3 : Nat} {z4 : Nat} {z5 : Nat} {z6 : Bool} {z7 : Nat} {z8 : Nat} {z9 : Nat} {z10 : Nat} {z11 : Nat} {z12 : Nat} {z13 : Nat} {z14 : Nat} {z15 : Nat} {z16 : Nat} {z17 : Nat} {z18 : Int32} {z19 : Nat} {z20 : Nat} {z21 : Nat} {z22 : Nat} {z23 : Nat} {z24 : Nat} {z25 : Nat} {z26 : Nat} {z27 : Nat} {z28 : Nat} {z29 : Int32} {z30 : Nat} {z31 : Nat} {z32 : Nat} {z33 : Nat} {z34 : Nat} {z35 : Nat} {z36 : Nat} {z37 : Bool} {z38 : Nat} {z39 : Nat} {z40 : Nat} {z41 : Nat} {z42 : Nat} {z43 : Nat} {z44 : Nat} {z45 : Nat} {z46 : Nat} {z47 : Nat} {z48 : Nat} {z49 : Nat} {z50 : Nat} {z51 : Nat} {z52 : Nat} {z53 : Int32} {z54 : Nat} {R : va_W} : cI g l yX14_better wsX14_better rm_X14_better 0 0 [.ref o] ((o, .inr (11, [.int (nI z0), .int (nI z1), .int z2, .int (nI z3), .ref z4, .ref z5, .int (bI z6), .ref z7, .ref z8, .int (nI z9), .int (nI z10), .int (nI z11), .int (nI z12), .int (nI z13), .int (nI z14), .int (nI z15), .long (lN z16), .ref z17, .int z18, .int (nI z19), .ref z20, .ref z21, .ref z22, .ref z23, .ref z24, .ref z25, .int (nI z26), .int (nI z27), .int (nI z28), .int z29, .int (nI z30), .int (nI z31), .ref z32, .ref z33, .ref z34, .ref z35, .ref z36, .int (bI z37), .int (nI z38), .int (nI z39), .int (nI z40), .int (nI z41), .int (nI z42), .int (nI z43), .int (nI z44), .int (nI z45), .int (nI z46), .ref z47, .ref z48, .ref z49, .ref z50, .ref z51, .ref z52, .int z53, .ref z54])) :: R) (fun r u => z53 = r ∧ (o, .inr (11, [.int (nI 0), .int (nI z1), .int z2, .int (nI z3), .ref z4, .ref z5, .int (bI z6), .ref z7, .ref z8, .int (nI z9), .int (nI z10), .int (nI z11), .int (nI z12), .int (nI z13), .int (nI z14), .int (nI z15), .long (lN z16), .ref z17, .int z18, .int (nI z19), .ref z20, .ref z21, .ref z22, .ref z23, .ref z24, .ref z25, .int (nI z26), .int (nI z27), .int (nI z28), .int z29, .int (nI z30), .int (nI z31), .ref z32, .ref z33, .ref z34, .ref z35, .ref z36, .int (bI z37), .int (nI z38), .int (nI z39), .int (nI z40), .int (nI z41), .int (nI z42), .int (nI z43), .int (nI z44), .int (nI z45), .int (nI z46), .ref z47, .ref z48, .ref z49, .ref z50, .ref z51, .ref z52, .int z53, .ref z54])) :: R = u) := by
  refine gEnterQ (cc := cX14_better) (maxL := 1) (ret := (some (.int))) (by decide +kernel) rfl (Nat.le_of_ble_eq_true rfl) ?_
  intro p e s m below meth c F hG hW ls hl
  have hS : va_S (gA g) s.heap s.heap [] := va_S.rf
  have hl : lv_has ls 1 [(0, .ref o)] := hl
  have hW : gW g ((o, .inr (11, [.int (nI z0), .int (nI z1), .int z2, .int (nI z3), .ref z4, .ref z5, .int (bI z6), .ref z7, .ref z8, .int (nI z9), .int (nI z10), .int (nI z11), .int (nI z12), .int (nI z13), .int (nI z14), .int (nI z15), .long (lN z16), .ref z17, .int z18, .int (nI z19), .ref z20, .ref z21, .ref z22, .ref z23, .ref z24, .ref z25, .int (nI z26), .int (nI z27), .int (nI z28), .int z29, .int (nI z30), .int (nI z31), .ref z32, .ref z33, .ref z34, .ref z35, .ref z36, .int (bI z37), .int (nI z38), .int (nI z39), .int (nI z40), .int (nI z41), .int (nI z42), .int (nI z43), .int (nI z44), .int (nI z45), .int (nI z46), .ref z47, .ref z48, .ref z49, .ref z50, .ref z51, .ref z52, .int z53, .ref z54])) :: R) s.heap := hW
  refine lv_aload_n F.1 F.2.1 dX14_better_0 rfl (lv_at hl 0 rfl) ?_
  refine lv_iconst (v := nI 0) F.1 F.2.1 dX14_better_1 rfl ?_
  refine gPut (w2 := (o, .inr (11, [.int (nI 0), .int (nI z1), .int z2, .int (nI z3), .ref z4, .ref z5, .int (bI z6), .ref z7, .ref z8, .int (nI z9), .int (nI z10), .int (nI z11), .int (nI z12), .int (nI z13), .int (nI z14), .int (nI z15), .long (lN z16), .ref z17, .int z18, .int (nI z19), .ref z20, .ref z21, .ref z22, .ref z23, .ref z24, .ref z25, .int (nI z26), .int (nI z27), .int (nI z28), .int z29, .int (nI z30), .int (nI z31), .ref z32, .ref z33, .ref z34, .ref z35, .ref z36, .int (bI z37), .int (nI z38), .int (nI z39), .int (nI z40), .int (nI z41), .int (nI z42), .int (nI z43), .int (nI z44), .int (nI z45), .int (nI z46), .ref z47, .ref z48, .ref z49, .ref z50, .ref z51, .ref z52, .int z53, .ref z54])) :: R) F hS hG hW nX14_better_X14 0 rfl rfl 0 (by decide) tyX14 tyX14_ok nmX14 mX14_better_1 rfl rfl rfl rfl (Nat.le_of_ble_eq_true rfl) rfl dX14_better_2 (fun H locs hW hS => ?_)
  refine lv_aload_n F.1 F.2.1 dX14_better_5 rfl (lv_at hl 0 rfl) ?_
  refine gGet F hG hW nX14_better_X14 0 rfl rfl 53 (by decide) mX14_better_2 rfl dX14_better_6 ?_
  refine gRi F hW hS dX14_better_9 ?_
  exact ⟨rfl, rfl⟩

abbrev rm_X14_trouble : Room := ({ frames := 0, cells := 0, slots := 0, locals := 0 } : Room)
theorem mX14_trouble_1 : Cond.fieldLink RX14 129 "StepperHeartsModel" "thrown" "I" ∈ wsX14_trouble := List.mem_of_getElem? (i := 1) rfl
theorem nX14_trouble_X14 : ∀ w ∈ wsX140, w ∈ wsX14_trouble := fun _ h => List.mem_cons_of_mem _ (List.mem_append_right _ (h))
theorem mX14_trouble_2 : Cond.fieldLink RX14 132 "StepperHeartsModel" "trouble" "I" ∈ wsX14_trouble := List.mem_of_getElem? (i := 2) rfl
set_option maxRecDepth 100000 in
set_option maxHeartbeats 4000000 in
theorem c_X14_trouble (g : gC) (l : Launch) {o : Nat} {z0 : Nat} {z1 : Nat} {z2 : Int32} {z3 : Nat} {z4 : Nat} {z5 : Nat} {z6 : Bool} {z7 : Nat} {z8 : Nat} {z9 : Nat} {z10 : Nat} {z11 : Nat} {z12 : Nat} {z13 : Nat} {z14 : Nat} {z15 : Nat} {z16 : Nat} {z17 : Nat} {z18 : Int32} {z19 : Nat} {z20 : Nat} {z21 : Nat} {z22 : Nat} {z23 : Nat} {z24 : Nat} {z25 : Nat} {z26 : Nat} {z27 : Nat} {z28 : Nat} {z29 : Int32} {z30 : Nat} {z31 : Nat} {z32 : Nat} {z33 : Nat} {z34 : Nat} {z35 : Nat} {z36 : Nat} {z37 : Bool} {z38 : Nat} {z39 : Nat} {z40 : Nat} {z41 : Nat} {z42 : Nat} {z43 : Nat} {z44 : Nat} {z45 : Nat} {z46 : Nat} {z47 : Nat} {z48 : Nat} {z49 : Nat} {z50 : Nat} {z51 : Nat} {z52 : Nat} {z53 : Int32} {z54 : Nat} {R : va_W} : cI g l yX14_trouble wsX14_trouble rm_X14_trouble 0 0 [.ref o] ((o, .inr (11, [.int (nI z0), .int (nI z1), .int z2, .int (nI z3), .ref z4, .ref z5, .int (bI z6), .ref z7, .ref z8, .int (nI z9), .int (nI z10), .int (nI z11), .int (nI z12), .int (nI z13), .int (nI z14), .int (nI z15), .long (lN z16), .ref z17, .int z18, .int (nI z19), .ref z20, .ref z21, .ref z22, .ref z23, .ref z24, .ref z25, .int (nI z26), .int (nI z27), .int (nI z28), .int z29, .int (nI z30), .int (nI z31), .ref z32, .ref z33, .ref z34, .ref z35, .ref z36, .int (bI z37), .int (nI z38), .int (nI z39), .int (nI z40), .int (nI z41), .int (nI z42), .int (nI z43), .int (nI z44), .int (nI z45), .int (nI z46), .ref z47, .ref z48, .ref z49, .ref z50, .ref z51, .ref z52, .int z53, .ref z54])) :: R) (fun r u => (nI z1) = r ∧ (o, .inr (11, [.int (nI 0), .int (nI z1), .int z2, .int (nI z3), .ref z4, .ref z5, .int (bI z6), .ref z7, .ref z8, .int (nI z9), .int (nI z10), .int (nI z11), .int (nI z12), .int (nI z13), .int (nI z14), .int (nI z15), .long (lN z16), .ref z17, .int z18, .int (nI z19), .ref z20, .ref z21, .ref z22, .ref z23, .ref z24, .ref z25, .int (nI z26), .int (nI z27), .int (nI z28), .int z29, .int (nI z30), .int (nI z31), .ref z32, .ref z33, .ref z34, .ref z35, .ref z36, .int (bI z37), .int (nI z38), .int (nI z39), .int (nI z40), .int (nI z41), .int (nI z42), .int (nI z43), .int (nI z44), .int (nI z45), .int (nI z46), .ref z47, .ref z48, .ref z49, .ref z50, .ref z51, .ref z52, .int z53, .ref z54])) :: R = u) := by
  refine gEnterQ (cc := cX14_trouble) (maxL := 1) (ret := (some (.int))) (by decide +kernel) rfl (Nat.le_of_ble_eq_true rfl) ?_
  intro p e s m below meth c F hG hW ls hl
  have hS : va_S (gA g) s.heap s.heap [] := va_S.rf
  have hl : lv_has ls 1 [(0, .ref o)] := hl
  have hW : gW g ((o, .inr (11, [.int (nI z0), .int (nI z1), .int z2, .int (nI z3), .ref z4, .ref z5, .int (bI z6), .ref z7, .ref z8, .int (nI z9), .int (nI z10), .int (nI z11), .int (nI z12), .int (nI z13), .int (nI z14), .int (nI z15), .long (lN z16), .ref z17, .int z18, .int (nI z19), .ref z20, .ref z21, .ref z22, .ref z23, .ref z24, .ref z25, .int (nI z26), .int (nI z27), .int (nI z28), .int z29, .int (nI z30), .int (nI z31), .ref z32, .ref z33, .ref z34, .ref z35, .ref z36, .int (bI z37), .int (nI z38), .int (nI z39), .int (nI z40), .int (nI z41), .int (nI z42), .int (nI z43), .int (nI z44), .int (nI z45), .int (nI z46), .ref z47, .ref z48, .ref z49, .ref z50, .ref z51, .ref z52, .int z53, .ref z54])) :: R) s.heap := hW
  refine lv_aload_n F.1 F.2.1 dX14_trouble_0 rfl (lv_at hl 0 rfl) ?_
  refine lv_iconst (v := nI 0) F.1 F.2.1 dX14_trouble_1 rfl ?_
  refine gPut (w2 := (o, .inr (11, [.int (nI 0), .int (nI z1), .int z2, .int (nI z3), .ref z4, .ref z5, .int (bI z6), .ref z7, .ref z8, .int (nI z9), .int (nI z10), .int (nI z11), .int (nI z12), .int (nI z13), .int (nI z14), .int (nI z15), .long (lN z16), .ref z17, .int z18, .int (nI z19), .ref z20, .ref z21, .ref z22, .ref z23, .ref z24, .ref z25, .int (nI z26), .int (nI z27), .int (nI z28), .int z29, .int (nI z30), .int (nI z31), .ref z32, .ref z33, .ref z34, .ref z35, .ref z36, .int (bI z37), .int (nI z38), .int (nI z39), .int (nI z40), .int (nI z41), .int (nI z42), .int (nI z43), .int (nI z44), .int (nI z45), .int (nI z46), .ref z47, .ref z48, .ref z49, .ref z50, .ref z51, .ref z52, .int z53, .ref z54])) :: R) F hS hG hW nX14_trouble_X14 0 rfl rfl 0 (by decide) tyX14 tyX14_ok nmX14 mX14_trouble_1 rfl rfl rfl rfl (Nat.le_of_ble_eq_true rfl) rfl dX14_trouble_2 (fun H locs hW hS => ?_)
  refine lv_aload_n F.1 F.2.1 dX14_trouble_5 rfl (lv_at hl 0 rfl) ?_
  refine gGet F hG hW nX14_trouble_X14 0 rfl rfl 1 (by decide) mX14_trouble_2 rfl dX14_trouble_6 ?_
  refine gRi F hW hS dX14_trouble_9 ?_
  exact ⟨rfl, rfl⟩

abbrev rm_X14_input : Room := ({ frames := 0, cells := 0, slots := 0, locals := 0 } : Room)
theorem mX14_input_1 : Cond.fieldLink RX14 129 "StepperHeartsModel" "thrown" "I" ∈ wsX14_input := List.mem_of_getElem? (i := 1) rfl
theorem nX14_input_X14 : ∀ w ∈ wsX140, w ∈ wsX14_input := fun _ h => List.mem_cons_of_mem _ (List.mem_append_right _ (h))
theorem mX14_input_2 : Cond.fieldLink RX14 249 "StepperHeartsModel" "input" "I" ∈ wsX14_input := List.mem_of_getElem? (i := 2) rfl
set_option maxRecDepth 100000 in
set_option maxHeartbeats 4000000 in
theorem c_X14_input (g : gC) (l : Launch) {o : Nat} {z0 : Nat} {z1 : Nat} {z2 : Int32} {z3 : Nat} {z4 : Nat} {z5 : Nat} {z6 : Bool} {z7 : Nat} {z8 : Nat} {z9 : Nat} {z10 : Nat} {z11 : Nat} {z12 : Nat} {z13 : Nat} {z14 : Nat} {z15 : Nat} {z16 : Nat} {z17 : Nat} {z18 : Int32} {z19 : Nat} {z20 : Nat} {z21 : Nat} {z22 : Nat} {z23 : Nat} {z24 : Nat} {z25 : Nat} {z26 : Nat} {z27 : Nat} {z28 : Nat} {z29 : Int32} {z30 : Nat} {z31 : Nat} {z32 : Nat} {z33 : Nat} {z34 : Nat} {z35 : Nat} {z36 : Nat} {z37 : Bool} {z38 : Nat} {z39 : Nat} {z40 : Nat} {z41 : Nat} {z42 : Nat} {z43 : Nat} {z44 : Nat} {z45 : Nat} {z46 : Nat} {z47 : Nat} {z48 : Nat} {z49 : Nat} {z50 : Nat} {z51 : Nat} {z52 : Nat} {z53 : Int32} {z54 : Nat} {x : Int32} {R : va_W} : cV g l yX14_input wsX14_input rm_X14_input 0 0 [.ref o, .int x] ((o, .inr (11, [.int (nI z0), .int (nI z1), .int z2, .int (nI z3), .ref z4, .ref z5, .int (bI z6), .ref z7, .ref z8, .int (nI z9), .int (nI z10), .int (nI z11), .int (nI z12), .int (nI z13), .int (nI z14), .int (nI z15), .long (lN z16), .ref z17, .int z18, .int (nI z19), .ref z20, .ref z21, .ref z22, .ref z23, .ref z24, .ref z25, .int (nI z26), .int (nI z27), .int (nI z28), .int z29, .int (nI z30), .int (nI z31), .ref z32, .ref z33, .ref z34, .ref z35, .ref z36, .int (bI z37), .int (nI z38), .int (nI z39), .int (nI z40), .int (nI z41), .int (nI z42), .int (nI z43), .int (nI z44), .int (nI z45), .int (nI z46), .ref z47, .ref z48, .ref z49, .ref z50, .ref z51, .ref z52, .int z53, .ref z54])) :: R) (fun u => (o, .inr (11, [.int (nI 0), .int (nI z1), .int z2, .int (nI z3), .ref z4, .ref z5, .int (bI z6), .ref z7, .ref z8, .int (nI z9), .int (nI z10), .int (nI z11), .int (nI z12), .int (nI z13), .int (nI z14), .int (nI z15), .long (lN z16), .ref z17, .int x, .int (nI z19), .ref z20, .ref z21, .ref z22, .ref z23, .ref z24, .ref z25, .int (nI z26), .int (nI z27), .int (nI z28), .int z29, .int (nI z30), .int (nI z31), .ref z32, .ref z33, .ref z34, .ref z35, .ref z36, .int (bI z37), .int (nI z38), .int (nI z39), .int (nI z40), .int (nI z41), .int (nI z42), .int (nI z43), .int (nI z44), .int (nI z45), .int (nI z46), .ref z47, .ref z48, .ref z49, .ref z50, .ref z51, .ref z52, .int z53, .ref z54])) :: R = u) := by
  refine gEnterQ (cc := cX14_input) (maxL := 2) (ret := none) (by decide +kernel) rfl (Nat.le_of_ble_eq_true rfl) ?_
  intro p e s m below meth c F hG hW ls hl
  have hS : va_S (gA g) s.heap s.heap [] := va_S.rf
  have hl : lv_has ls 2 [(0, .ref o), (1, .int x)] := hl
  have hW : gW g ((o, .inr (11, [.int (nI z0), .int (nI z1), .int z2, .int (nI z3), .ref z4, .ref z5, .int (bI z6), .ref z7, .ref z8, .int (nI z9), .int (nI z10), .int (nI z11), .int (nI z12), .int (nI z13), .int (nI z14), .int (nI z15), .long (lN z16), .ref z17, .int z18, .int (nI z19), .ref z20, .ref z21, .ref z22, .ref z23, .ref z24, .ref z25, .int (nI z26), .int (nI z27), .int (nI z28), .int z29, .int (nI z30), .int (nI z31), .ref z32, .ref z33, .ref z34, .ref z35, .ref z36, .int (bI z37), .int (nI z38), .int (nI z39), .int (nI z40), .int (nI z41), .int (nI z42), .int (nI z43), .int (nI z44), .int (nI z45), .int (nI z46), .ref z47, .ref z48, .ref z49, .ref z50, .ref z51, .ref z52, .int z53, .ref z54])) :: R) s.heap := hW
  refine lv_aload_n F.1 F.2.1 dX14_input_0 rfl (lv_at hl 0 rfl) ?_
  refine lv_iconst (v := nI 0) F.1 F.2.1 dX14_input_1 rfl ?_
  refine gPut (w2 := (o, .inr (11, [.int (nI 0), .int (nI z1), .int z2, .int (nI z3), .ref z4, .ref z5, .int (bI z6), .ref z7, .ref z8, .int (nI z9), .int (nI z10), .int (nI z11), .int (nI z12), .int (nI z13), .int (nI z14), .int (nI z15), .long (lN z16), .ref z17, .int z18, .int (nI z19), .ref z20, .ref z21, .ref z22, .ref z23, .ref z24, .ref z25, .int (nI z26), .int (nI z27), .int (nI z28), .int z29, .int (nI z30), .int (nI z31), .ref z32, .ref z33, .ref z34, .ref z35, .ref z36, .int (bI z37), .int (nI z38), .int (nI z39), .int (nI z40), .int (nI z41), .int (nI z42), .int (nI z43), .int (nI z44), .int (nI z45), .int (nI z46), .ref z47, .ref z48, .ref z49, .ref z50, .ref z51, .ref z52, .int z53, .ref z54])) :: R) F hS hG hW nX14_input_X14 0 rfl rfl 0 (by decide) tyX14 tyX14_ok nmX14 mX14_input_1 rfl rfl rfl rfl (Nat.le_of_ble_eq_true rfl) rfl dX14_input_2 (fun H locs hW hS => ?_)
  refine lv_aload_n F.1 F.2.1 dX14_input_5 rfl (lv_at hl 0 rfl) ?_
  refine lv_iload_n F.1 F.2.1 dX14_input_6 rfl (lv_at hl 1 rfl) ?_
  refine gPut (w2 := (o, .inr (11, [.int (nI 0), .int (nI z1), .int z2, .int (nI z3), .ref z4, .ref z5, .int (bI z6), .ref z7, .ref z8, .int (nI z9), .int (nI z10), .int (nI z11), .int (nI z12), .int (nI z13), .int (nI z14), .int (nI z15), .long (lN z16), .ref z17, .int x, .int (nI z19), .ref z20, .ref z21, .ref z22, .ref z23, .ref z24, .ref z25, .int (nI z26), .int (nI z27), .int (nI z28), .int z29, .int (nI z30), .int (nI z31), .ref z32, .ref z33, .ref z34, .ref z35, .ref z36, .int (bI z37), .int (nI z38), .int (nI z39), .int (nI z40), .int (nI z41), .int (nI z42), .int (nI z43), .int (nI z44), .int (nI z45), .int (nI z46), .ref z47, .ref z48, .ref z49, .ref z50, .ref z51, .ref z52, .int z53, .ref z54])) :: R) F hS hG hW nX14_input_X14 0 rfl rfl 18 (by decide) tyX14 tyX14_ok nmX14 mX14_input_2 rfl rfl rfl rfl (Nat.le_of_ble_eq_true rfl) rfl dX14_input_7 (fun H locs hW hS => ?_)
  refine gRv F hW hS dX14_input_10 ?_
  exact rfl

abbrev rm_X14_stop : Room := ({ frames := 0, cells := 0, slots := 0, locals := 0 } : Room)
theorem mX14_stop_1 : Cond.fieldLink RX14 26 "StepperHeartsModel" "stop" "LStepperHeartsModel$Stop;" ∈ wsX14_stop := List.mem_of_getElem? (i := 1) rfl
theorem nX14_stop_X14 : ∀ w ∈ wsX140, w ∈ wsX14_stop := fun _ h => List.mem_cons_of_mem _ (List.mem_append_left _ (List.mem_append_right _ (h)))
theorem fX14_stop_135 : (yX14_stop.cls, 135, "StepperHeartsModel$Stop", "kind", "I", "StepperHeartsModel") ∈ gNF := List.mem_of_getElem? (i := 31) rfl
theorem nX14_stop_X13 : ∀ w ∈ wsX130, w ∈ wsX14_stop := fun _ h => List.mem_cons_of_mem _ (List.mem_append_right _ (h))
theorem fX14_stop_138 : (yX14_stop.cls, 138, "StepperHeartsModel$Stop", "place", "I", "StepperHeartsModel") ∈ gNF := List.mem_of_getElem? (i := 32) rfl
set_option maxRecDepth 100000 in
set_option maxHeartbeats 4000000 in
theorem c_X14_stop (g : gC) (l : Launch) {o : Nat} {z0 : Nat} {z1 : Nat} {z2 : Int32} {z3 : Nat} {z4 : Nat} {z5 : Nat} {z6 : Bool} {z7 : Nat} {z8 : Nat} {z9 : Nat} {z10 : Nat} {z11 : Nat} {z12 : Nat} {z13 : Nat} {z14 : Nat} {z15 : Nat} {z16 : Nat} {z17 : Nat} {z18 : Int32} {z19 : Nat} {z20 : Nat} {z21 : Nat} {z22 : Nat} {z23 : Nat} {z24 : Nat} {z25 : Nat} {z26 : Nat} {z27 : Nat} {z28 : Nat} {z29 : Int32} {z30 : Nat} {z31 : Nat} {z32 : Nat} {z33 : Nat} {z34 : Nat} {z35 : Nat} {z36 : Nat} {z37 : Bool} {z38 : Nat} {z39 : Nat} {z40 : Nat} {z41 : Nat} {z42 : Nat} {z43 : Nat} {z44 : Nat} {z45 : Nat} {z46 : Nat} {z47 : Nat} {z48 : Nat} {z49 : Nat} {z50 : Nat} {z51 : Nat} {z52 : Nat} {z53 : Int32} {z54 : Nat} {sk : Nat} {spl : Nat} {s0 : Value} {s1 : Value} {s2 : Value} {s3 : Value} {s4 : Value} {s5 : Value} {k : Nat} {t : Nat} {R : va_W} : cR g l yX14_stop wsX14_stop rm_X14_stop 0 0 [.ref o, .int (nI k), .int (nI t)] ((o, .inr (11, [.int (nI z0), .int (nI z1), .int z2, .int (nI z3), .ref z4, .ref z5, .int (bI z6), .ref z7, .ref z8, .int (nI z9), .int (nI z10), .int (nI z11), .int (nI z12), .int (nI z13), .int (nI z14), .int (nI z15), .long (lN z16), .ref z17, .int z18, .int (nI z19), .ref z20, .ref z21, .ref z22, .ref z23, .ref z24, .ref z25, .int (nI z26), .int (nI z27), .int (nI z28), .int z29, .int (nI z30), .int (nI z31), .ref z32, .ref z33, .ref z34, .ref z35, .ref z36, .int (bI z37), .int (nI z38), .int (nI z39), .int (nI z40), .int (nI z41), .int (nI z42), .int (nI z43), .int (nI z44), .int (nI z45), .int (nI z46), .ref z47, .ref z48, .ref z49, .ref z50, .ref z51, .ref z52, .int z53, .ref z54])) :: (z7, .inr (10, [s0, s1, s2, s3, s4, s5, .int (nI sk), .int (nI spl)])) :: R) (fun r u => z7 = r ∧ (o, .inr (11, [.int (nI z0), .int (nI z1), .int z2, .int (nI z3), .ref z4, .ref z5, .int (bI z6), .ref z7, .ref z8, .int (nI z9), .int (nI z10), .int (nI z11), .int (nI z12), .int (nI z13), .int (nI z14), .int (nI z15), .long (lN z16), .ref z17, .int z18, .int (nI z19), .ref z20, .ref z21, .ref z22, .ref z23, .ref z24, .ref z25, .int (nI z26), .int (nI z27), .int (nI z28), .int z29, .int (nI z30), .int (nI z31), .ref z32, .ref z33, .ref z34, .ref z35, .ref z36, .int (bI z37), .int (nI z38), .int (nI z39), .int (nI z40), .int (nI z41), .int (nI z42), .int (nI z43), .int (nI z44), .int (nI z45), .int (nI z46), .ref z47, .ref z48, .ref z49, .ref z50, .ref z51, .ref z52, .int z53, .ref z54])) :: (z7, .inr (10, [s0, s1, s2, s3, s4, s5, .int (nI k), .int (nI t)])) :: R = u) := by
  refine gEnterQ (cc := cX14_stop) (maxL := 3) (ret := (some ((.object "StepperHeartsModel$Stop")))) (by decide +kernel) rfl (Nat.le_of_ble_eq_true rfl) ?_
  intro p e s m below meth c F hG hW ls hl
  have hS : va_S (gA g) s.heap s.heap [] := va_S.rf
  have hl : lv_has ls 3 [(0, .ref o), (1, .int (nI k)), (2, .int (nI t))] := hl
  have hW : gW g ((o, .inr (11, [.int (nI z0), .int (nI z1), .int z2, .int (nI z3), .ref z4, .ref z5, .int (bI z6), .ref z7, .ref z8, .int (nI z9), .int (nI z10), .int (nI z11), .int (nI z12), .int (nI z13), .int (nI z14), .int (nI z15), .long (lN z16), .ref z17, .int z18, .int (nI z19), .ref z20, .ref z21, .ref z22, .ref z23, .ref z24, .ref z25, .int (nI z26), .int (nI z27), .int (nI z28), .int z29, .int (nI z30), .int (nI z31), .ref z32, .ref z33, .ref z34, .ref z35, .ref z36, .int (bI z37), .int (nI z38), .int (nI z39), .int (nI z40), .int (nI z41), .int (nI z42), .int (nI z43), .int (nI z44), .int (nI z45), .int (nI z46), .ref z47, .ref z48, .ref z49, .ref z50, .ref z51, .ref z52, .int z53, .ref z54])) :: (z7, .inr (10, [s0, s1, s2, s3, s4, s5, .int (nI sk), .int (nI spl)])) :: R) s.heap := hW
  refine lv_aload_n F.1 F.2.1 dX14_stop_0 rfl (lv_at hl 0 rfl) ?_
  refine gGet F hG hW nX14_stop_X14 0 rfl rfl 7 (by decide) mX14_stop_1 rfl dX14_stop_1 ?_
  refine lv_iload_n F.1 F.2.1 dX14_stop_4 rfl (lv_at hl 1 rfl) ?_
  refine gPutN (w2 := (o, .inr (11, [.int (nI z0), .int (nI z1), .int z2, .int (nI z3), .ref z4, .ref z5, .int (bI z6), .ref z7, .ref z8, .int (nI z9), .int (nI z10), .int (nI z11), .int (nI z12), .int (nI z13), .int (nI z14), .int (nI z15), .long (lN z16), .ref z17, .int z18, .int (nI z19), .ref z20, .ref z21, .ref z22, .ref z23, .ref z24, .ref z25, .int (nI z26), .int (nI z27), .int (nI z28), .int z29, .int (nI z30), .int (nI z31), .ref z32, .ref z33, .ref z34, .ref z35, .ref z36, .int (bI z37), .int (nI z38), .int (nI z39), .int (nI z40), .int (nI z41), .int (nI z42), .int (nI z43), .int (nI z44), .int (nI z45), .int (nI z46), .ref z47, .ref z48, .ref z49, .ref z50, .ref z51, .ref z52, .int z53, .ref z54])) :: (z7, .inr (10, [s0, s1, s2, s3, s4, s5, .int (nI k), .int (nI spl)])) :: R) F hS hG hW nX14_stop_X13 1 rfl rfl 6 (by decide) tyX13 tyX13_ok nmX13 fX14_stop_135 rfl rfl rfl rfl (Nat.le_of_ble_eq_true rfl) rfl dX14_stop_5 (fun H locs hW hS => ?_)
  refine lv_aload_n F.1 F.2.1 dX14_stop_8 rfl (lv_at hl 0 rfl) ?_
  refine gGet F hG hW nX14_stop_X14 0 rfl rfl 7 (by decide) mX14_stop_1 rfl dX14_stop_9 ?_
  refine lv_iload_n F.1 F.2.1 dX14_stop_12 rfl (lv_at hl 2 rfl) ?_
  refine gPutN (w2 := (o, .inr (11, [.int (nI z0), .int (nI z1), .int z2, .int (nI z3), .ref z4, .ref z5, .int (bI z6), .ref z7, .ref z8, .int (nI z9), .int (nI z10), .int (nI z11), .int (nI z12), .int (nI z13), .int (nI z14), .int (nI z15), .long (lN z16), .ref z17, .int z18, .int (nI z19), .ref z20, .ref z21, .ref z22, .ref z23, .ref z24, .ref z25, .int (nI z26), .int (nI z27), .int (nI z28), .int z29, .int (nI z30), .int (nI z31), .ref z32, .ref z33, .ref z34, .ref z35, .ref z36, .int (bI z37), .int (nI z38), .int (nI z39), .int (nI z40), .int (nI z41), .int (nI z42), .int (nI z43), .int (nI z44), .int (nI z45), .int (nI z46), .ref z47, .ref z48, .ref z49, .ref z50, .ref z51, .ref z52, .int z53, .ref z54])) :: (z7, .inr (10, [s0, s1, s2, s3, s4, s5, .int (nI k), .int (nI t)])) :: R) F hS hG hW nX14_stop_X13 1 rfl rfl 7 (by decide) tyX13 tyX13_ok nmX13 fX14_stop_138 rfl rfl rfl rfl (Nat.le_of_ble_eq_true rfl) rfl dX14_stop_13 (fun H locs hW hS => ?_)
  refine lv_aload_n F.1 F.2.1 dX14_stop_16 rfl (lv_at hl 0 rfl) ?_
  refine gGet F hG hW nX14_stop_X14 0 rfl rfl 7 (by decide) mX14_stop_1 rfl dX14_stop_17 ?_
  refine gRr (Q := (fun r u => z7 = r ∧ (o, .inr (11, [.int (nI z0), .int (nI z1), .int z2, .int (nI z3), .ref z4, .ref z5, .int (bI z6), .ref z7, .ref z8, .int (nI z9), .int (nI z10), .int (nI z11), .int (nI z12), .int (nI z13), .int (nI z14), .int (nI z15), .long (lN z16), .ref z17, .int z18, .int (nI z19), .ref z20, .ref z21, .ref z22, .ref z23, .ref z24, .ref z25, .int (nI z26), .int (nI z27), .int (nI z28), .int z29, .int (nI z30), .int (nI z31), .ref z32, .ref z33, .ref z34, .ref z35, .ref z36, .int (bI z37), .int (nI z38), .int (nI z39), .int (nI z40), .int (nI z41), .int (nI z42), .int (nI z43), .int (nI z44), .int (nI z45), .int (nI z46), .ref z47, .ref z48, .ref z49, .ref z50, .ref z51, .ref z52, .int z53, .ref z54])) :: (z7, .inr (10, [s0, s1, s2, s3, s4, s5, .int (nI k), .int (nI t)])) :: R = u)) (Or.inl ⟨_, rfl⟩) F hW hS dX14_stop_20 ?_
  exact ⟨rfl, rfl⟩

abbrev rm_X14_byteAt_i : Room := ({ frames := 0, cells := 0, slots := 0, locals := 0 } : Room)
theorem mX14_byteAt_1 : Cond.fieldLink RX14 141 "StepperHeartsModel" "size" "I" ∈ wsX14_byteAt := List.mem_of_getElem? (i := 1) rfl
theorem nX14_byteAt_X14 : ∀ w ∈ wsX140, w ∈ wsX14_byteAt := fun _ h => List.mem_cons_of_mem _ (List.mem_append_right _ (h))
theorem mX14_byteAt_2 : Cond.fieldLink RX14 30 "StepperHeartsModel" "tape" "[B" ∈ wsX14_byteAt := List.mem_of_getElem? (i := 2) rfl
set_option maxRecDepth 100000 in
set_option maxHeartbeats 4000000 in
theorem c_X14_byteAt_i (g : gC) (l : Launch) {o : Nat} {z0 : Nat} {z1 : Nat} {z2 : Int32} {z3 : Nat} {z4 : Nat} {z5 : Nat} {z6 : Bool} {z7 : Nat} {z8 : Nat} {z9 : Nat} {z10 : Nat} {z11 : Nat} {z12 : Nat} {z13 : Nat} {z14 : Nat} {z15 : Nat} {z16 : Nat} {z17 : Nat} {z18 : Int32} {z19 : Nat} {z20 : Nat} {z21 : Nat} {z22 : Nat} {z23 : Nat} {z24 : Nat} {z25 : Nat} {z26 : Nat} {z27 : Nat} {z28 : Nat} {z29 : Int32} {z30 : Nat} {z31 : Nat} {z32 : Nat} {z33 : Nat} {z34 : Nat} {z35 : Nat} {z36 : Nat} {z37 : Bool} {z38 : Nat} {z39 : Nat} {z40 : Nat} {z41 : Nat} {z42 : Nat} {z43 : Nat} {z44 : Nat} {z45 : Nat} {z46 : Nat} {z47 : Nat} {z48 : Nat} {z49 : Nat} {z50 : Nat} {z51 : Nat} {z52 : Nat} {z53 : Int32} {z54 : Nat} {tx : Nat → Nat} {tp : Nat → Nat} {k : Nat} {R : va_W} (hk : k < z10) (hz : z10 ≤ 600) (htp : ∀ j, tp j < 256) (htx : ∀ j, j < z10 → tp j = tx j) : cI g l yX14_byteAt wsX14_byteAt rm_X14_byteAt_i 0 0 [.ref o, .int (nI k)] ((o, .inr (11, [.int (nI z0), .int (nI z1), .int z2, .int (nI z3), .ref z4, .ref z5, .int (bI z6), .ref z7, .ref z8, .int (nI z9), .int (nI z10), .int (nI z11), .int (nI z12), .int (nI z13), .int (nI z14), .int (nI z15), .long (lN z16), .ref z17, .int z18, .int (nI z19), .ref z20, .ref z21, .ref z22, .ref z23, .ref z24, .ref z25, .int (nI z26), .int (nI z27), .int (nI z28), .int z29, .int (nI z30), .int (nI z31), .ref z32, .ref z33, .ref z34, .ref z35, .ref z36, .int (bI z37), .int (nI z38), .int (nI z39), .int (nI z40), .int (nI z41), .int (nI z42), .int (nI z43), .int (nI z44), .int (nI z45), .int (nI z46), .ref z47, .ref z48, .ref z49, .ref z50, .ref z51, .ref z52, .int z53, .ref z54])) :: (z8, .inl (g.2.1 3, 600, .inl (yA tp))) :: R) (fun r u => (nI (tx k)) = r ∧ (o, .inr (11, [.int (nI z0), .int (nI z1), .int z2, .int (nI z3), .ref z4, .ref z5, .int (bI z6), .ref z7, .ref z8, .int (nI z9), .int (nI z10), .int (nI z11), .int (nI z12), .int (nI z13), .int (nI z14), .int (nI z15), .long (lN z16), .ref z17, .int z18, .int (nI z19), .ref z20, .ref z21, .ref z22, .ref z23, .ref z24, .ref z25, .int (nI z26), .int (nI z27), .int (nI z28), .int z29, .int (nI z30), .int (nI z31), .ref z32, .ref z33, .ref z34, .ref z35, .ref z36, .int (bI z37), .int (nI z38), .int (nI z39), .int (nI z40), .int (nI z41), .int (nI z42), .int (nI z43), .int (nI z44), .int (nI z45), .int (nI z46), .ref z47, .ref z48, .ref z49, .ref z50, .ref z51, .ref z52, .int z53, .ref z54])) :: (z8, .inl (g.2.1 3, 600, .inl (yA tp))) :: R = u) := by
  refine gEnterQ (cc := cX14_byteAt) (maxL := 2) (ret := (some (.int))) (by decide +kernel) rfl (Nat.le_of_ble_eq_true rfl) ?_
  intro p e s m below meth c F hG hW ls hl
  have hS : va_S (gA g) s.heap s.heap [] := va_S.rf
  have hl : lv_has ls 2 [(0, .ref o), (1, .int (nI k))] := hl
  have hW : gW g ((o, .inr (11, [.int (nI z0), .int (nI z1), .int z2, .int (nI z3), .ref z4, .ref z5, .int (bI z6), .ref z7, .ref z8, .int (nI z9), .int (nI z10), .int (nI z11), .int (nI z12), .int (nI z13), .int (nI z14), .int (nI z15), .long (lN z16), .ref z17, .int z18, .int (nI z19), .ref z20, .ref z21, .ref z22, .ref z23, .ref z24, .ref z25, .int (nI z26), .int (nI z27), .int (nI z28), .int z29, .int (nI z30), .int (nI z31), .ref z32, .ref z33, .ref z34, .ref z35, .ref z36, .int (bI z37), .int (nI z38), .int (nI z39), .int (nI z40), .int (nI z41), .int (nI z42), .int (nI z43), .int (nI z44), .int (nI z45), .int (nI z46), .ref z47, .ref z48, .ref z49, .ref z50, .ref z51, .ref z52, .int z53, .ref z54])) :: (z8, .inl (g.2.1 3, 600, .inl (yA tp))) :: R) s.heap := hW
  refine lv_iload_n F.1 F.2.1 dX14_byteAt_0 rfl (lv_at hl 1 rfl) ?_
  refine lv_aload_n F.1 F.2.1 dX14_byteAt_1 rfl (lv_at hl 0 rfl) ?_
  refine gGet F hG hW nX14_byteAt_X14 0 rfl rfl 10 (by decide) mX14_byteAt_1 rfl dX14_byteAt_2 ?_
  refine gGe (tgt := 21) F (by omega) (by omega) dX14_byteAt_5 (by decide) (fun c_5 => by exfalso; omega) (fun c_5 => ?_)
  refine lv_aload_n F.1 F.2.1 dX14_byteAt_8 rfl (lv_at hl 0 rfl) ?_
  refine gGet F hG hW nX14_byteAt_X14 0 rfl rfl 8 (by decide) mX14_byteAt_2 rfl dX14_byteAt_9 ?_
  refine lv_iload_n F.1 F.2.1 dX14_byteAt_12 rfl (lv_at hl 1 rfl) ?_
  refine gLdB F hG hW 1 rfl (by omega) (by decide) dX14_byteAt_13 ?_
  refine gTop (y := sB (tp k)) rfl ?_
  refine lv_sipush (v := nI 255) F.1 F.2.1 dX14_byteAt_14 (by decide) ?_
  refine lv_iand F.1 F.2.1 dX14_byteAt_17 ?_
  refine gTop (sB_and _ (htp _)) ?_
  refine lv_goto (tgt := 22) F.1 F.2.1 dX14_byteAt_18 (by decide) ?_
  refine gRi F hW hS dX14_byteAt_22 ?_
  exact ⟨congrArg nI (htx k hk).symm, rfl⟩

abbrev rm_X14_byteAt_o : Room := ({ frames := 0, cells := 0, slots := 0, locals := 0 } : Room)
set_option maxRecDepth 100000 in
set_option maxHeartbeats 4000000 in
theorem c_X14_byteAt_o (g : gC) (l : Launch) {o : Nat} {z0 : Nat} {z1 : Nat} {z2 : Int32} {z3 : Nat} {z4 : Nat} {z5 : Nat} {z6 : Bool} {z7 : Nat} {z8 : Nat} {z9 : Nat} {z10 : Nat} {z11 : Nat} {z12 : Nat} {z13 : Nat} {z14 : Nat} {z15 : Nat} {z16 : Nat} {z17 : Nat} {z18 : Int32} {z19 : Nat} {z20 : Nat} {z21 : Nat} {z22 : Nat} {z23 : Nat} {z24 : Nat} {z25 : Nat} {z26 : Nat} {z27 : Nat} {z28 : Nat} {z29 : Int32} {z30 : Nat} {z31 : Nat} {z32 : Nat} {z33 : Nat} {z34 : Nat} {z35 : Nat} {z36 : Nat} {z37 : Bool} {z38 : Nat} {z39 : Nat} {z40 : Nat} {z41 : Nat} {z42 : Nat} {z43 : Nat} {z44 : Nat} {z45 : Nat} {z46 : Nat} {z47 : Nat} {z48 : Nat} {z49 : Nat} {z50 : Nat} {z51 : Nat} {z52 : Nat} {z53 : Int32} {z54 : Nat} {tp : Nat → Nat} {k : Nat} {R : va_W} (hk : z10 ≤ k) (hz : k < 2 ^ 31) : cI g l yX14_byteAt wsX14_byteAt rm_X14_byteAt_o 0 0 [.ref o, .int (nI k)] ((o, .inr (11, [.int (nI z0), .int (nI z1), .int z2, .int (nI z3), .ref z4, .ref z5, .int (bI z6), .ref z7, .ref z8, .int (nI z9), .int (nI z10), .int (nI z11), .int (nI z12), .int (nI z13), .int (nI z14), .int (nI z15), .long (lN z16), .ref z17, .int z18, .int (nI z19), .ref z20, .ref z21, .ref z22, .ref z23, .ref z24, .ref z25, .int (nI z26), .int (nI z27), .int (nI z28), .int z29, .int (nI z30), .int (nI z31), .ref z32, .ref z33, .ref z34, .ref z35, .ref z36, .int (bI z37), .int (nI z38), .int (nI z39), .int (nI z40), .int (nI z41), .int (nI z42), .int (nI z43), .int (nI z44), .int (nI z45), .int (nI z46), .ref z47, .ref z48, .ref z49, .ref z50, .ref z51, .ref z52, .int z53, .ref z54])) :: (z8, .inl (g.2.1 3, 600, .inl (yA tp))) :: R) (fun r u => (-1) = r ∧ (o, .inr (11, [.int (nI z0), .int (nI z1), .int z2, .int (nI z3), .ref z4, .ref z5, .int (bI z6), .ref z7, .ref z8, .int (nI z9), .int (nI z10), .int (nI z11), .int (nI z12), .int (nI z13), .int (nI z14), .int (nI z15), .long (lN z16), .ref z17, .int z18, .int (nI z19), .ref z20, .ref z21, .ref z22, .ref z23, .ref z24, .ref z25, .int (nI z26), .int (nI z27), .int (nI z28), .int z29, .int (nI z30), .int (nI z31), .ref z32, .ref z33, .ref z34, .ref z35, .ref z36, .int (bI z37), .int (nI z38), .int (nI z39), .int (nI z40), .int (nI z41), .int (nI z42), .int (nI z43), .int (nI z44), .int (nI z45), .int (nI z46), .ref z47, .ref z48, .ref z49, .ref z50, .ref z51, .ref z52, .int z53, .ref z54])) :: (z8, .inl (g.2.1 3, 600, .inl (yA tp))) :: R = u) := by
  refine gEnterQ (cc := cX14_byteAt) (maxL := 2) (ret := (some (.int))) (by decide +kernel) rfl (Nat.le_of_ble_eq_true rfl) ?_
  intro p e s m below meth c F hG hW ls hl
  have hS : va_S (gA g) s.heap s.heap [] := va_S.rf
  have hl : lv_has ls 2 [(0, .ref o), (1, .int (nI k))] := hl
  have hW : gW g ((o, .inr (11, [.int (nI z0), .int (nI z1), .int z2, .int (nI z3), .ref z4, .ref z5, .int (bI z6), .ref z7, .ref z8, .int (nI z9), .int (nI z10), .int (nI z11), .int (nI z12), .int (nI z13), .int (nI z14), .int (nI z15), .long (lN z16), .ref z17, .int z18, .int (nI z19), .ref z20, .ref z21, .ref z22, .ref z23, .ref z24, .ref z25, .int (nI z26), .int (nI z27), .int (nI z28), .int z29, .int (nI z30), .int (nI z31), .ref z32, .ref z33, .ref z34, .ref z35, .ref z36, .int (bI z37), .int (nI z38), .int (nI z39), .int (nI z40), .int (nI z41), .int (nI z42), .int (nI z43), .int (nI z44), .int (nI z45), .int (nI z46), .ref z47, .ref z48, .ref z49, .ref z50, .ref z51, .ref z52, .int z53, .ref z54])) :: (z8, .inl (g.2.1 3, 600, .inl (yA tp))) :: R) s.heap := hW
  refine lv_iload_n F.1 F.2.1 dX14_byteAt_0 rfl (lv_at hl 1 rfl) ?_
  refine lv_aload_n F.1 F.2.1 dX14_byteAt_1 rfl (lv_at hl 0 rfl) ?_
  refine gGet F hG hW nX14_byteAt_X14 0 rfl rfl 10 (by decide) mX14_byteAt_1 rfl dX14_byteAt_2 ?_
  refine gGe (tgt := 21) F (by omega) (by omega) dX14_byteAt_5 (by decide) (fun c_5 => ?_) (fun c_5 => by exfalso; omega)
  refine lv_iconst (v := -1) F.1 F.2.1 dX14_byteAt_21 rfl ?_
  refine gRi F hW hS dX14_byteAt_22 ?_
  exact ⟨rfl, rfl⟩

abbrev rm_X14_isLetter : Room := ({ frames := 0, cells := 0, slots := 0, locals := 0 } : Room)
set_option maxRecDepth 100000 in
set_option maxHeartbeats 4000000 in
theorem c_X14_isLetter (g : gC) (l : Launch) {b : Nat} {R : va_W} (hb : b < 256) : cI g l yX14_isLetter wsX14_isLetter rm_X14_isLetter 0 0 [.int (nI b)] (R) (fun r u => (bI (isL b)) = r ∧ R = u) := by
  refine gEnterQ (cc := cX14_isLetter) (maxL := 1) (ret := (some (.boolean))) (by decide +kernel) rfl (Nat.le_of_ble_eq_true rfl) ?_
  intro p e s m below meth c F hG hW ls hl
  have hS : va_S (gA g) s.heap s.heap [] := va_S.rf
  have hl : lv_has ls 1 [(0, .int (nI b))] := hl
  have hW : gW g (R) s.heap := hW
  refine lv_iload_n F.1 F.2.1 dX14_isLetter_0 rfl (lv_at hl 0 rfl) ?_
  refine lv_bipush (v := nI 97) F.1 F.2.1 dX14_isLetter_1 (by decide) ?_
  refine gLt (tgt := 16) F (by omega) (by omega) dX14_isLetter_3 (by decide) (fun c_3 => ?_) (fun c_3 => ?_)
  · refine lv_iconst (v := nI 0) F.1 F.2.1 dX14_isLetter_16 rfl ?_
    refine gRz rfl F hW hS dX14_isLetter_17 ?_
    exact ⟨by unfold isL; rw [decide_eq_false (Nat.not_le.mpr c_3)]; rfl, rfl⟩
  · refine lv_iload_n F.1 F.2.1 dX14_isLetter_6 rfl (lv_at hl 0 rfl) ?_
    refine lv_bipush (v := nI 122) F.1 F.2.1 dX14_isLetter_7 (by decide) ?_
    refine gGt (tgt := 16) F (by omega) (by omega) dX14_isLetter_9 (by decide) (fun c_9 => ?_) (fun c_9 => ?_)
    · refine lv_iconst (v := nI 0) F.1 F.2.1 dX14_isLetter_16 rfl ?_
      refine gRz rfl F hW hS dX14_isLetter_17 ?_
      exact ⟨by unfold isL; rw [decide_eq_true c_3, decide_eq_false (Nat.not_le.mpr c_9)]; rfl, rfl⟩
    · refine lv_iconst (v := nI 1) F.1 F.2.1 dX14_isLetter_12 rfl ?_
      refine lv_goto (tgt := 17) F.1 F.2.1 dX14_isLetter_13 (by decide) ?_
      refine gRz rfl F hW hS dX14_isLetter_17 ?_
      exact ⟨by unfold isL; rw [decide_eq_true c_3, decide_eq_true c_9]; rfl, rfl⟩

abbrev rm_X14_isDigit : Room := ({ frames := 0, cells := 0, slots := 0, locals := 0 } : Room)
set_option maxRecDepth 100000 in
set_option maxHeartbeats 4000000 in
theorem c_X14_isDigit (g : gC) (l : Launch) {b : Nat} {R : va_W} (hb : b < 256) : cI g l yX14_isDigit wsX14_isDigit rm_X14_isDigit 0 0 [.int (nI b)] (R) (fun r u => (bI (isD b)) = r ∧ R = u) := by
  refine gEnterQ (cc := cX14_isDigit) (maxL := 1) (ret := (some (.boolean))) (by decide +kernel) rfl (Nat.le_of_ble_eq_true rfl) ?_
  intro p e s m below meth c F hG hW ls hl
  have hS : va_S (gA g) s.heap s.heap [] := va_S.rf
  have hl : lv_has ls 1 [(0, .int (nI b))] := hl
  have hW : gW g (R) s.heap := hW
  refine lv_iload_n F.1 F.2.1 dX14_isDigit_0 rfl (lv_at hl 0 rfl) ?_
  refine lv_bipush (v := nI 48) F.1 F.2.1 dX14_isDigit_1 (by decide) ?_
  refine gLt (tgt := 16) F (by omega) (by omega) dX14_isDigit_3 (by decide) (fun c_3 => ?_) (fun c_3 => ?_)
  · refine lv_iconst (v := nI 0) F.1 F.2.1 dX14_isDigit_16 rfl ?_
    refine gRz rfl F hW hS dX14_isDigit_17 ?_
    exact ⟨by unfold isD; rw [decide_eq_false (Nat.not_le.mpr c_3)]; rfl, rfl⟩
  · refine lv_iload_n F.1 F.2.1 dX14_isDigit_6 rfl (lv_at hl 0 rfl) ?_
    refine lv_bipush (v := nI 57) F.1 F.2.1 dX14_isDigit_7 (by decide) ?_
    refine gGt (tgt := 16) F (by omega) (by omega) dX14_isDigit_9 (by decide) (fun c_9 => ?_) (fun c_9 => ?_)
    · refine lv_iconst (v := nI 0) F.1 F.2.1 dX14_isDigit_16 rfl ?_
      refine gRz rfl F hW hS dX14_isDigit_17 ?_
      exact ⟨by unfold isD; rw [decide_eq_true c_3, decide_eq_false (Nat.not_le.mpr c_9)]; rfl, rfl⟩
    · refine lv_iconst (v := nI 1) F.1 F.2.1 dX14_isDigit_12 rfl ?_
      refine lv_goto (tgt := 17) F.1 F.2.1 dX14_isDigit_13 (by decide) ?_
      refine gRz rfl F hW hS dX14_isDigit_17 ?_
      exact ⟨by unfold isD; rw [decide_eq_true c_3, decide_eq_true c_9]; rfl, rfl⟩

abbrev rm_X14_wordOf : Room := ({ frames := 4, cells := 0, slots := 0, locals := 85 } : Room)
theorem mX14_wordOf_1 : Cond.constantLong RX14 148 (32) ∈ wsX14_wordOf := List.mem_of_getElem? (i := 1) rfl
set_option maxRecDepth 100000 in
set_option maxHeartbeats 4000000 in
theorem c_X14_wordOf (g : gC) (l : Launch) {i : Nat} {R : va_W} (hi : i < 15) : cL g l yX14_wordOf wsX14_wordOf rm_X14_wordOf 0 0 [.ref (g.2.2.2 (20 + i))] (R) (fun r u => (lN (encN i)) = r ∧ R = u) := by
  refine gEnterQ (cc := cX14_wordOf) (maxL := 4) (ret := (some (.long))) (by decide +kernel) rfl (Nat.le_of_ble_eq_true rfl) ?_
  intro p e s m below meth c F hG hW ls hl
  have hS : va_S (gA g) s.heap s.heap [] := va_S.rf
  have hl : lv_has ls 4 [(0, .ref (g.2.2.2 (20 + i)))] := hl
  have hW : gW g (R) s.heap := hW
  refine lv_lconst (v := lN 0) F.1 F.2.1 dX14_wordOf_0 rfl ?_
  refine lv_lstore_n (lv' := [(1, .long (lN 0)), (0, .ref (g.2.2.2 (20 + i)))]) F.1 F.2.1 dX14_wordOf_1 rfl hl (by decide) rfl (fun ls hl => ?_)
  refine lv_iconst (v := nI 0) F.1 F.2.1 dX14_wordOf_2 rfl ?_
  refine lv_istore_n (lv' := [(3, .int (nI 0)), (1, .long (lN 0)), (0, .ref (g.2.2.2 (20 + i)))]) F.1 F.2.1 dX14_wordOf_3 rfl hl (by decide) rfl (fun ls hl => ?_)
  have L_4 : ∀ (fz : Nat), ∀ (m9 : Nat) (v : Nat) (hm : m9 ≤ kL i) (hv : v = encF (fun j => kC i j - 96) m9) (hm_4 : kL i - m9 < fz) (H : Heap) (locs : List Loc) (ls : Array Slot) (hW : gW g (R) H) (hS : va_S (gA g) s.heap H locs) (hl : lv_has ls 4 [(0, .ref (g.2.2.2 (20 + i))), (1, .long (lN v)), (3, .int (nI m9))]), W p l e (headSpec wsX14_wordOf rm_X14_wordOf).room s m ([.ref (g.2.2.2 (20 + i))] : List Value).toArray below meth c H locs 0 0 (MQ below (va_Ql (fun r u => (lN (encN i)) = r ∧ R = u) (fun u t => gW g u t.heap) (gA g)) ([.ref (g.2.2.2 (20 + i))] : List Value).toArray s 0 0 (gA g)) (F0 m 4 ls []) := by
    intro fz
    induction fz with
    | zero =>
      intros _ _ _ _ hm_4
      exact absurd hm_4 (Nat.not_lt_zero _)
    | succ fz ih_4 =>
      intro m9 v hm hv hm_4 H locs ls hW hS hl
      have hkl := kL_lt i hi
      refine lv_iload_n F.1 F.2.1 dX14_wordOf_4 rfl (lv_at hl 2 rfl) ?_
      refine lv_aload_n F.1 F.2.1 dX14_wordOf_5 rfl (lv_at hl 0 rfl) ?_
      refine gTi (n := 0) (As := []) F hG hS hW (c_J0_length_8abf5 g l  (by omega)) rfl gX14_wordOf_J0_length_8abf5 rfl (by omega) (by decide +kernel) ⟨rfl, rfl, Nat.le_of_ble_eq_true rfl, Nat.le_of_ble_eq_true rfl⟩ hl.1 (Nat.le_of_ble_eq_true rfl) ⟨Nat.le_of_ble_eq_true rfl, Nat.le_of_ble_eq_true rfl⟩ rfl rfl dX14_wordOf_6 (fun r u H locs hq hW hS => ?_)
      obtain ⟨rfl, rfl⟩ := hq
      have hW : gW g (R) _ := hW
      refine gGe (tgt := 36) F (by omega) (by omega) dX14_wordOf_9 (by decide) (fun c_9 => ?_) (fun c_9 => ?_)
      · have hme : m9 = kL i := by omega
        refine lv_lload_n F.1 F.2.1 dX14_wordOf_36 rfl (lv_at hl 1 rfl) ?_
        refine gRl F hW hS dX14_wordOf_37 ?_
        exact ⟨by rw [hv, hme]; rfl, rfl⟩
      · have c_9' : m9 < kL i := by omega
        have hkc := kC_lt i hi m9 c_9'
        refine lv_ldc2 (v := lN 32) F.1 F.2.1 F.2.2.2.2.2.1 (F.2.2.2.2.1 _ mX14_wordOf_1) dX14_wordOf_12 ?_
        refine lv_lload_n F.1 F.2.1 dX14_wordOf_15 rfl (lv_at hl 1 rfl) ?_
        refine lv_lmul F.1 F.2.1 dX14_wordOf_16 ?_
        refine gTopL (lN_mul _ _) ?_
        refine lv_aload_n F.1 F.2.1 dX14_wordOf_17 rfl (lv_at hl 0 rfl) ?_
        refine lv_iload_n F.1 F.2.1 dX14_wordOf_18 rfl (lv_at hl 2 rfl) ?_
        refine gTi (n := 1) (As := [.int (nI m9)]) F hG hS hW (c_J0_charAt_5068e g l  (by omega) c_9') rfl gX14_wordOf_J0_charAt_5068e rfl (by omega) (by decide +kernel) ⟨rfl, rfl, Nat.le_of_ble_eq_true rfl, Nat.le_of_ble_eq_true rfl⟩ hl.1 (Nat.le_of_ble_eq_true rfl) ⟨Nat.le_of_ble_eq_true rfl, Nat.le_of_ble_eq_true rfl⟩ rfl rfl dX14_wordOf_19 (fun r u H locs hq hW hS => ?_)
        obtain ⟨rfl, rfl⟩ := hq
        have hW : gW g (R) _ := hW
        refine lv_bipush (v := nI 97) F.1 F.2.1 dX14_wordOf_22 (by decide) ?_
        refine gSub F (by omega) dX14_wordOf_24 ?_
        refine lv_iconst (v := nI 1) F.1 F.2.1 dX14_wordOf_25 rfl ?_
        refine gAdd F dX14_wordOf_26 ?_
        refine lv_i2l (v := lN (((kC i m9) - 97) + 1)) F.1 F.2.1 dX14_wordOf_27 (nI_L (by omega)) ?_
        refine lv_ladd F.1 F.2.1 dX14_wordOf_28 ?_
        refine gTopL (lN_add _ _) ?_
        refine lv_lstore_n (lv' := [(1, .long (lN ((32 * v) + (((kC i m9) - 97) + 1)))), (0, .ref (g.2.2.2 (20 + i))), (3, .int (nI m9))]) F.1 F.2.1 dX14_wordOf_29 rfl hl (by decide) rfl (fun ls hl => ?_)
        refine lv_iinc (v := nI (m9 + 1)) (lv' := [(3, .int (nI (m9 + 1))), (1, .long (lN ((32 * v) + (((kC i m9) - 97) + 1)))), (0, .ref (g.2.2.2 (20 + i)))]) F.1 F.2.1 dX14_wordOf_30 hl (k := 2) rfl (nI_add m9 1) (by decide) rfl (fun ls hl => ?_)
        refine lv_goto (tgt := 4) F.1 F.2.1 dX14_wordOf_33 (by decide) ?_
        exact ih_4 (m9 + 1) ((32 * v) + (((kC i m9) - 97) + 1)) (by omega) (by rw [encF, ← hv, show kC i m9 - 97 + 1 = kC i m9 - 96 by omega]) (by omega) _ _ _ hW hS (lv_sub hl [2, 1, 0] rfl)
  exact L_4 _ 0 0 (by omega) rfl (Nat.lt_succ_self _) _ _ _ hW hS (lv_sub hl [2, 1, 0] rfl)

abbrev rm_X14_kindOf : Room := ({ frames := 5, cells := 0, slots := 0, locals := 108 } : Room)
theorem mX14_kindOf_1 : Cond.fieldLink RX14 66 "StepperHeartsModel" "names" "[Ljava/lang/String;" ∈ wsX14_kindOf := List.mem_of_getElem? (i := 1) rfl
theorem nX14_kindOf_X14 : ∀ w ∈ wsX140, w ∈ wsX14_kindOf := fun _ h => List.mem_cons_of_mem _ (List.mem_append_right _ (h))
set_option maxRecDepth 100000 in
set_option maxHeartbeats 4000000 in
theorem c_X14_kindOf (g : gC) (l : Launch) {o : Nat} {z0 : Nat} {z1 : Nat} {z2 : Int32} {z3 : Nat} {z4 : Nat} {z5 : Nat} {z6 : Bool} {z7 : Nat} {z8 : Nat} {z9 : Nat} {z10 : Nat} {z11 : Nat} {z12 : Nat} {z13 : Nat} {z14 : Nat} {z15 : Nat} {z16 : Nat} {z17 : Nat} {z18 : Int32} {z19 : Nat} {z20 : Nat} {z21 : Nat} {z22 : Nat} {z23 : Nat} {z24 : Nat} {z25 : Nat} {z26 : Nat} {z27 : Nat} {z28 : Nat} {z29 : Int32} {z30 : Nat} {z31 : Nat} {z32 : Nat} {z33 : Nat} {z34 : Nat} {z35 : Nat} {z36 : Nat} {z37 : Bool} {z38 : Nat} {z39 : Nat} {z40 : Nat} {z41 : Nat} {z42 : Nat} {z43 : Nat} {z44 : Nat} {z45 : Nat} {z46 : Nat} {z47 : Nat} {z48 : Nat} {z49 : Nat} {z50 : Nat} {z51 : Nat} {z52 : Nat} {z53 : Int32} {z54 : Nat} {w : Nat} {R : va_W} (hw : w < 2 ^ 60) : cI g l yX14_kindOf wsX14_kindOf rm_X14_kindOf 0 0 [.ref o, .long (lN w)] ((o, .inr (11, [.int (nI z0), .int (nI z1), .int z2, .int (nI z3), .ref z4, .ref z5, .int (bI z6), .ref z7, .ref z8, .int (nI z9), .int (nI z10), .int (nI z11), .int (nI z12), .int (nI z13), .int (nI z14), .int (nI z15), .long (lN z16), .ref z17, .int z18, .int (nI z19), .ref z20, .ref z21, .ref z22, .ref z23, .ref z24, .ref z25, .int (nI z26), .int (nI z27), .int (nI z28), .int z29, .int (nI z30), .int (nI z31), .ref z32, .ref z33, .ref z34, .ref z35, .ref z36, .int (bI z37), .int (nI z38), .int (nI z39), .int (nI z40), .int (nI z41), .int (nI z42), .int (nI z43), .int (nI z44), .int (nI z45), .int (nI z46), .ref z47, .ref z48, .ref z49, .ref z50, .ref z51, .ref z52, .int z53, .ref z54])) :: (z17, .inl (g.2.1 4, 15, .inr (.inr (.inr (.inr (nmA g)))))) :: R) (fun r u => (oI (kindL w)) = r ∧ (o, .inr (11, [.int (nI z0), .int (nI z1), .int z2, .int (nI z3), .ref z4, .ref z5, .int (bI z6), .ref z7, .ref z8, .int (nI z9), .int (nI z10), .int (nI z11), .int (nI z12), .int (nI z13), .int (nI z14), .int (nI z15), .long (lN z16), .ref z17, .int z18, .int (nI z19), .ref z20, .ref z21, .ref z22, .ref z23, .ref z24, .ref z25, .int (nI z26), .int (nI z27), .int (nI z28), .int z29, .int (nI z30), .int (nI z31), .ref z32, .ref z33, .ref z34, .ref z35, .ref z36, .int (bI z37), .int (nI z38), .int (nI z39), .int (nI z40), .int (nI z41), .int (nI z42), .int (nI z43), .int (nI z44), .int (nI z45), .int (nI z46), .ref z47, .ref z48, .ref z49, .ref z50, .ref z51, .ref z52, .int z53, .ref z54])) :: (z17, .inl (g.2.1 4, 15, .inr (.inr (.inr (.inr (nmA g)))))) :: R = u) := by
  refine gEnterQ (cc := cX14_kindOf) (maxL := 4) (ret := (some (.int))) (by decide +kernel) rfl (Nat.le_of_ble_eq_true rfl) ?_
  intro p e s m below meth c F hG hW ls hl
  have hS : va_S (gA g) s.heap s.heap [] := va_S.rf
  have hl : lv_has ls 4 [(0, .ref o), (1, .long (lN w))] := hl
  have hW : gW g ((o, .inr (11, [.int (nI z0), .int (nI z1), .int z2, .int (nI z3), .ref z4, .ref z5, .int (bI z6), .ref z7, .ref z8, .int (nI z9), .int (nI z10), .int (nI z11), .int (nI z12), .int (nI z13), .int (nI z14), .int (nI z15), .long (lN z16), .ref z17, .int z18, .int (nI z19), .ref z20, .ref z21, .ref z22, .ref z23, .ref z24, .ref z25, .int (nI z26), .int (nI z27), .int (nI z28), .int z29, .int (nI z30), .int (nI z31), .ref z32, .ref z33, .ref z34, .ref z35, .ref z36, .int (bI z37), .int (nI z38), .int (nI z39), .int (nI z40), .int (nI z41), .int (nI z42), .int (nI z43), .int (nI z44), .int (nI z45), .int (nI z46), .ref z47, .ref z48, .ref z49, .ref z50, .ref z51, .ref z52, .int z53, .ref z54])) :: (z17, .inl (g.2.1 4, 15, .inr (.inr (.inr (.inr (nmA g)))))) :: R) s.heap := hW
  refine lv_iconst (v := nI 0) F.1 F.2.1 dX14_kindOf_0 rfl ?_
  refine lv_istore_n (lv' := [(3, .int (nI 0)), (0, .ref o), (1, .long (lN w))]) F.1 F.2.1 dX14_kindOf_1 rfl hl (by decide) rfl (fun ls hl => ?_)
  have L_2 : ∀ (fz : Nat), ∀ (k : Nat) (hk : k ≤ 15) (hz : ∀ j, j < k → encN j ≠ w) (hm_2 : 15 - k < fz) (H : Heap) (locs : List Loc) (ls : Array Slot) (hW : gW g ((o, .inr (11, [.int (nI z0), .int (nI z1), .int z2, .int (nI z3), .ref z4, .ref z5, .int (bI z6), .ref z7, .ref z8, .int (nI z9), .int (nI z10), .int (nI z11), .int (nI z12), .int (nI z13), .int (nI z14), .int (nI z15), .long (lN z16), .ref z17, .int z18, .int (nI z19), .ref z20, .ref z21, .ref z22, .ref z23, .ref z24, .ref z25, .int (nI z26), .int (nI z27), .int (nI z28), .int z29, .int (nI z30), .int (nI z31), .ref z32, .ref z33, .ref z34, .ref z35, .ref z36, .int (bI z37), .int (nI z38), .int (nI z39), .int (nI z40), .int (nI z41), .int (nI z42), .int (nI z43), .int (nI z44), .int (nI z45), .int (nI z46), .ref z47, .ref z48, .ref z49, .ref z50, .ref z51, .ref z52, .int z53, .ref z54])) :: (z17, .inl (g.2.1 4, 15, .inr (.inr (.inr (.inr (nmA g)))))) :: R) H) (hS : va_S (gA g) s.heap H locs) (hl : lv_has ls 4 [(0, .ref o), (1, .long (lN w)), (3, .int (nI k))]), W p l e (headSpec wsX14_kindOf rm_X14_kindOf).room s m ([.ref o, .long (lN w)] : List Value).toArray below meth c H locs 0 0 (MQ below (va_Qi (fun r u => (oI (kindL w)) = r ∧ (o, .inr (11, [.int (nI z0), .int (nI z1), .int z2, .int (nI z3), .ref z4, .ref z5, .int (bI z6), .ref z7, .ref z8, .int (nI z9), .int (nI z10), .int (nI z11), .int (nI z12), .int (nI z13), .int (nI z14), .int (nI z15), .long (lN z16), .ref z17, .int z18, .int (nI z19), .ref z20, .ref z21, .ref z22, .ref z23, .ref z24, .ref z25, .int (nI z26), .int (nI z27), .int (nI z28), .int z29, .int (nI z30), .int (nI z31), .ref z32, .ref z33, .ref z34, .ref z35, .ref z36, .int (bI z37), .int (nI z38), .int (nI z39), .int (nI z40), .int (nI z41), .int (nI z42), .int (nI z43), .int (nI z44), .int (nI z45), .int (nI z46), .ref z47, .ref z48, .ref z49, .ref z50, .ref z51, .ref z52, .int z53, .ref z54])) :: (z17, .inl (g.2.1 4, 15, .inr (.inr (.inr (.inr (nmA g)))))) :: R = u) (fun u t => gW g u t.heap) (gA g)) ([.ref o, .long (lN w)] : List Value).toArray s 0 0 (gA g)) (F0 m 2 ls []) := by
    intro fz
    induction fz with
    | zero =>
      intros _ _ _ hm_2
      exact absurd hm_2 (Nat.not_lt_zero _)
    | succ fz ih_2 =>
      intro k hk hz hm_2 H locs ls hW hS hl
      refine lv_iload_n F.1 F.2.1 dX14_kindOf_2 rfl (lv_at hl 2 rfl) ?_
      refine lv_bipush (v := nI 15) F.1 F.2.1 dX14_kindOf_3 (by decide) ?_
      refine gGe (tgt := 28) F (by omega) (by omega) dX14_kindOf_5 (by decide) (fun c_5 => ?_) (fun c_5 => ?_)
      · refine lv_iload_n F.1 F.2.1 dX14_kindOf_28 rfl (lv_at hl 2 rfl) ?_
        refine lv_bipush (v := nI 15) F.1 F.2.1 dX14_kindOf_29 (by decide) ?_
        refine gGe (tgt := 38) F (by omega) (by omega) dX14_kindOf_31 (by decide) (fun c_31 => ?_) (fun c_31 => by exfalso; omega)
        refine lv_iconst (v := -1) F.1 F.2.1 dX14_kindOf_38 rfl ?_
        refine gRi F hW hS dX14_kindOf_39 ?_
        exact ⟨by rw [kL_n (fun j hj => hz j (by omega))]; rfl, rfl⟩
      · refine lv_lload_n F.1 F.2.1 dX14_kindOf_8 rfl (lv_at hl 1 rfl) ?_
        refine lv_aload_n F.1 F.2.1 dX14_kindOf_9 rfl (lv_at hl 0 rfl) ?_
        refine gGet F hG hW nX14_kindOf_X14 0 rfl rfl 17 (by decide) mX14_kindOf_1 rfl dX14_kindOf_10 ?_
        refine lv_iload_n F.1 F.2.1 dX14_kindOf_13 rfl (lv_at hl 2 rfl) ?_
        refine gLdQ (v := .ref (g.2.2.2 (20 + k))) F hG hW 1 rfl (by omega) (by decide) rfl dX14_kindOf_14 ?_
        refine gS_l (n := 1) (As := [.ref (g.2.2.2 (20 + k))]) F hG hS hW (c_X14_wordOf g l  (by omega)) rfl gX14_kindOf_X14_wordOf (by decide +kernel) ⟨rfl, rfl, Nat.le_of_ble_eq_true rfl, Nat.le_of_ble_eq_true rfl⟩ hl.1 (Nat.le_of_ble_eq_true rfl) ⟨Nat.le_of_ble_eq_true rfl, Nat.le_of_ble_eq_true rfl⟩ rfl rfl dX14_kindOf_15 (fun r u H locs hq hW hS => ?_)
        obtain ⟨rfl, rfl⟩ := hq
        have hW : gW g ((o, .inr (11, [.int (nI z0), .int (nI z1), .int z2, .int (nI z3), .ref z4, .ref z5, .int (bI z6), .ref z7, .ref z8, .int (nI z9), .int (nI z10), .int (nI z11), .int (nI z12), .int (nI z13), .int (nI z14), .int (nI z15), .long (lN z16), .ref z17, .int z18, .int (nI z19), .ref z20, .ref z21, .ref z22, .ref z23, .ref z24, .ref z25, .int (nI z26), .int (nI z27), .int (nI z28), .int z29, .int (nI z30), .int (nI z31), .ref z32, .ref z33, .ref z34, .ref z35, .ref z36, .int (bI z37), .int (nI z38), .int (nI z39), .int (nI z40), .int (nI z41), .int (nI z42), .int (nI z43), .int (nI z44), .int (nI z45), .int (nI z46), .ref z47, .ref z48, .ref z49, .ref z50, .ref z51, .ref z52, .int z53, .ref z54])) :: (z17, .inl (g.2.1 4, 15, .inr (.inr (.inr (.inr (nmA g)))))) :: R) _ := hW
        refine gLcmp (tgt := 28) F hw (encN_lt k (by omega)) dX14_kindOf_18 dX14_kindOf_19 (by decide) (fun c_19 => ?_) (fun c_19 => ?_)
        · refine lv_iload_n F.1 F.2.1 dX14_kindOf_28 rfl (lv_at hl 2 rfl) ?_
          refine lv_bipush (v := nI 15) F.1 F.2.1 dX14_kindOf_29 (by decide) ?_
          refine gGe (tgt := 38) F (by omega) (by omega) dX14_kindOf_31 (by decide) (fun c_31 => by exfalso; omega) (fun c_31 => ?_)
          have c_29' : k < 15 := by omega
          refine lv_iload_n F.1 F.2.1 dX14_kindOf_34 rfl (lv_at hl 2 rfl) ?_
          refine lv_goto (tgt := 39) F.1 F.2.1 dX14_kindOf_35 (by decide) ?_
          refine gRi F hW hS dX14_kindOf_39 ?_
          exact ⟨by rw [kL_0 c_29' hz c_19]; rfl, rfl⟩
        · refine lv_iinc (v := nI (k + 1)) (lv' := [(3, .int (nI (k + 1))), (0, .ref o), (1, .long (lN w))]) F.1 F.2.1 dX14_kindOf_22 hl (k := 2) rfl (nI_add k 1) (by decide) rfl (fun ls hl => ?_)
          refine lv_goto (tgt := 2) F.1 F.2.1 dX14_kindOf_25 (by decide) ?_
          exact ih_2 (k + 1) (by omega) (fun j hj => (Nat.lt_succ_iff_lt_or_eq.mp hj).elim (hz j) (fun q => by rw [q]; exact fun z => c_19 z.symm)) (by omega) _ _ _ hW hS (lv_sub hl [1, 2, 0] rfl)
  exact L_2 _ 0 (by omega) (fun j hj => absurd hj (Nat.not_lt_zero j)) (Nat.lt_succ_self _) _ _ _ hW hS (lv_sub hl [1, 2, 0] rfl)

abbrev rm_X12_find : Room := ({ frames := 0, cells := 0, slots := 0, locals := 0 } : Room)
theorem mX12_find_1 : Cond.fieldLink RX12 35 "StepperHeartsModel$Program" "marks" "I" ∈ wsX12_find := List.mem_of_getElem? (i := 1) rfl
theorem nX12_find_X12 : ∀ w ∈ wsX120, w ∈ wsX12_find := fun _ h => List.mem_cons_of_mem _ (List.mem_append_right _ (h))
theorem mX12_find_2 : Cond.fieldLink RX12 28 "StepperHeartsModel$Program" "mark" "[J" ∈ wsX12_find := List.mem_of_getElem? (i := 2) rfl
theorem mX12_find_3 : Cond.fieldLink RX12 21 "StepperHeartsModel$Program" "markAt" "[I" ∈ wsX12_find := List.mem_of_getElem? (i := 3) rfl
set_option maxRecDepth 100000 in
set_option maxHeartbeats 4000000 in
theorem c_X12_find (g : gC) (l : Launch) {hq : Nat} {n2 : Nat} {mm2 : Nat} {w : Nat} {qk : Nat} {qv : Nat} {ql : Nat} {qa : Nat} {qt : Nat} {qm : Nat} {qi : Nat} {mw2 : Nat → Nat} {ma2 : Nat → Nat} {R : va_W} (hm : mm2 ≤ 101) (hw : w < 2 ^ 60) (hmw : ∀ j, j < mm2 → mw2 j < 2 ^ 60) : cI g l yX12_find wsX12_find rm_X12_find 0 0 [.ref hq, .long (lN w)] ((hq, .inr (9, [.int (nI n2), .int (nI mm2), .ref qk, .ref qv, .ref ql, .ref qa, .ref qt, .ref qm, .ref qi])) :: (qm, .inl (g.2.1 2, 101, .inr (.inl (lA mw2)))) :: (qa, .inl (g.2.1 0, 101, .inl (nA ma2))) :: R) (fun r u => (oI (fnd mw2 ma2 mm2 w)) = r ∧ (hq, .inr (9, [.int (nI n2), .int (nI mm2), .ref qk, .ref qv, .ref ql, .ref qa, .ref qt, .ref qm, .ref qi])) :: (qm, .inl (g.2.1 2, 101, .inr (.inl (lA mw2)))) :: (qa, .inl (g.2.1 0, 101, .inl (nA ma2))) :: R = u) := by
  refine gEnterQ (cc := cX12_find) (maxL := 4) (ret := (some (.int))) (by decide +kernel) rfl (Nat.le_of_ble_eq_true rfl) ?_
  intro p e s m below meth c F hG hW ls hl
  have hS : va_S (gA g) s.heap s.heap [] := va_S.rf
  have hl : lv_has ls 4 [(0, .ref hq), (1, .long (lN w))] := hl
  have hW : gW g ((hq, .inr (9, [.int (nI n2), .int (nI mm2), .ref qk, .ref qv, .ref ql, .ref qa, .ref qt, .ref qm, .ref qi])) :: (qm, .inl (g.2.1 2, 101, .inr (.inl (lA mw2)))) :: (qa, .inl (g.2.1 0, 101, .inl (nA ma2))) :: R) s.heap := hW
  refine lv_iconst (v := nI 0) F.1 F.2.1 dX12_find_0 rfl ?_
  refine lv_istore_n (lv' := [(3, .int (nI 0)), (0, .ref hq), (1, .long (lN w))]) F.1 F.2.1 dX12_find_1 rfl hl (by decide) rfl (fun ls hl => ?_)
  have L_2 : ∀ (fz : Nat), ∀ (k : Nat) (hk : k ≤ mm2) (hz : ∀ j, j < k → mw2 j ≠ w) (hm_2 : mm2 - k < fz) (H : Heap) (locs : List Loc) (ls : Array Slot) (hW : gW g ((hq, .inr (9, [.int (nI n2), .int (nI mm2), .ref qk, .ref qv, .ref ql, .ref qa, .ref qt, .ref qm, .ref qi])) :: (qm, .inl (g.2.1 2, 101, .inr (.inl (lA mw2)))) :: (qa, .inl (g.2.1 0, 101, .inl (nA ma2))) :: R) H) (hS : va_S (gA g) s.heap H locs) (hl : lv_has ls 4 [(0, .ref hq), (1, .long (lN w)), (3, .int (nI k))]), W p l e (headSpec wsX12_find rm_X12_find).room s m ([.ref hq, .long (lN w)] : List Value).toArray below meth c H locs 0 0 (MQ below (va_Qi (fun r u => (oI (fnd mw2 ma2 mm2 w)) = r ∧ (hq, .inr (9, [.int (nI n2), .int (nI mm2), .ref qk, .ref qv, .ref ql, .ref qa, .ref qt, .ref qm, .ref qi])) :: (qm, .inl (g.2.1 2, 101, .inr (.inl (lA mw2)))) :: (qa, .inl (g.2.1 0, 101, .inl (nA ma2))) :: R = u) (fun u t => gW g u t.heap) (gA g)) ([.ref hq, .long (lN w)] : List Value).toArray s 0 0 (gA g)) (F0 m 2 ls []) := by
    intro fz
    induction fz with
    | zero =>
      intros _ _ _ hm_2
      exact absurd hm_2 (Nat.not_lt_zero _)
    | succ fz ih_2 =>
      intro k hk hz hm_2 H locs ls hW hS hl
      refine lv_iload_n F.1 F.2.1 dX12_find_2 rfl (lv_at hl 2 rfl) ?_
      refine lv_aload_n F.1 F.2.1 dX12_find_3 rfl (lv_at hl 0 rfl) ?_
      refine gGet F hG hW nX12_find_X12 0 rfl rfl 1 (by decide) mX12_find_1 rfl dX12_find_4 ?_
      refine gGe (tgt := 27) F (by omega) (by omega) dX12_find_7 (by decide) (fun c_7 => ?_) (fun c_7 => ?_)
      · refine lv_iload_n F.1 F.2.1 dX12_find_27 rfl (lv_at hl 2 rfl) ?_
        refine lv_aload_n F.1 F.2.1 dX12_find_28 rfl (lv_at hl 0 rfl) ?_
        refine gGet F hG hW nX12_find_X12 0 rfl rfl 1 (by decide) mX12_find_1 rfl dX12_find_29 ?_
        refine gGe (tgt := 44) F (by omega) (by omega) dX12_find_32 (by decide) (fun c_32 => ?_) (fun c_32 => by exfalso; omega)
        refine lv_iconst (v := -1) F.1 F.2.1 dX12_find_44 rfl ?_
        refine gRi F hW hS dX12_find_45 ?_
        exact ⟨by rw [fnd_0 (fun j hj => hz j (by omega))]; rfl, rfl⟩
      · refine lv_aload_n F.1 F.2.1 dX12_find_10 rfl (lv_at hl 0 rfl) ?_
        refine gGet F hG hW nX12_find_X12 0 rfl rfl 7 (by decide) mX12_find_2 rfl dX12_find_11 ?_
        refine lv_iload_n F.1 F.2.1 dX12_find_14 rfl (lv_at hl 2 rfl) ?_
        refine gLdJ F hG hW 1 rfl (by omega) (by decide) dX12_find_15 ?_
        refine gTopL (y := lN (mw2 k)) rfl ?_
        refine lv_lload_n F.1 F.2.1 dX12_find_16 rfl (lv_at hl 1 rfl) ?_
        refine gLcmp (tgt := 27) F (hmw k (by omega)) hw dX12_find_17 dX12_find_18 (by decide) (fun c_18 => ?_) (fun c_18 => ?_)
        · refine lv_iload_n F.1 F.2.1 dX12_find_27 rfl (lv_at hl 2 rfl) ?_
          refine lv_aload_n F.1 F.2.1 dX12_find_28 rfl (lv_at hl 0 rfl) ?_
          refine gGet F hG hW nX12_find_X12 0 rfl rfl 1 (by decide) mX12_find_1 rfl dX12_find_29 ?_
          refine gGe (tgt := 44) F (by omega) (by omega) dX12_find_32 (by decide) (fun c_32 => by exfalso; omega) (fun c_32 => ?_)
          refine lv_aload_n F.1 F.2.1 dX12_find_35 rfl (lv_at hl 0 rfl) ?_
          refine gGet F hG hW nX12_find_X12 0 rfl rfl 5 (by decide) mX12_find_3 rfl dX12_find_36 ?_
          refine lv_iload_n F.1 F.2.1 dX12_find_39 rfl (lv_at hl 2 rfl) ?_
          refine gLdI F hG hW 2 rfl (by omega) (by decide) dX12_find_40 ?_
          refine gTop (y := nI (ma2 k)) rfl ?_
          refine lv_goto (tgt := 45) F.1 F.2.1 dX12_find_41 (by decide) ?_
          refine gRi F hW hS dX12_find_45 ?_
          exact ⟨by rw [fnd_1 (by omega) hz c_18]; rfl, rfl⟩
        · refine lv_iinc (v := nI (k + 1)) (lv' := [(3, .int (nI (k + 1))), (0, .ref hq), (1, .long (lN w))]) F.1 F.2.1 dX12_find_21 hl (k := 2) rfl (nI_add k 1) (by decide) rfl (fun ls hl => ?_)
          refine lv_goto (tgt := 2) F.1 F.2.1 dX12_find_24 (by decide) ?_
          exact ih_2 (k + 1) (by omega) (fun j hj => (Nat.lt_succ_iff_lt_or_eq.mp hj).elim (hz j) (fun q => by rw [q]; exact c_18)) (by omega) _ _ _ hW hS (lv_sub hl [1, 2, 0] rfl)
  exact L_2 _ 0 (by omega) (fun j hj => absurd hj (Nat.not_lt_zero j)) (Nat.lt_succ_self _) _ _ _ hW hS (lv_sub hl [1, 2, 0] rfl)

