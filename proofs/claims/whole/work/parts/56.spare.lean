/-! ===== the model: gain (written by wip/whole/gen/spec9.py) ===== -/
/-- how often each place was stepped on -/
def stT (pl : Nat → Nat) : Nat → (Nat → Nat)
  | 0 => fun _ => 0
  | i + 1 => updN (stT pl i) (pl i) (stT pl i (pl i) + 1)
theorem stT_le {pl : Nat → Nat} : ∀ (i j : Nat), stT pl i j ≤ i
  | 0, _ => Nat.le_refl 0
  | i + 1, j => by
    rw [stT]
    exact updN_le (fun j => Nat.le_succ_of_le (stT_le i j)) (Nat.succ_le_succ (stT_le i _)) j
theorem sumB_c {s : Nat → Bool} {f f' : Nat → Nat} : ∀ {m : Nat}, (∀ j, j < m → s j = true → f j = f' j) → sumB s f m = sumB s f' m
  | 0, _ => rfl
  | m + 1, h => by
    rw [sumB, sumB, sumB_c (fun j hj => h j (Nat.lt_succ_of_lt hj))]
    cases q : s m with
    | false => rfl
    | true => rw [h m (Nat.lt_succ_self m) q]
theorem sumB_le {s : Nat → Bool} {f : Nat → Nat} {M : Nat} (h : ∀ j, f j ≤ M) : ∀ m, sumB s f m ≤ m * M
  | 0 => Nat.zero_le _
  | m + 1 => by
    have h1 := sumB_le (s := s) h m
    have h2 := h m
    rw [sumB, Nat.succ_mul]
    split <;> omega
theorem sec_c {n : Nat} {kd : Nat → Nat} {mk P : Nat → Bool} {ex : Option Nat} {j : Nat} (h : secS (canJ n kd mk P ex) j = true) : mk j = false ∧ j ≠ 0 := by
  cases j with
  | zero => cases h
  | succ i =>
    refine ⟨?_, fun z => by cases z⟩
    have h1 : (!secS (canJ n kd mk P ex) i && canJ n kd mk P ex (i + 1)) = true := h
    rw [Bool.and_eq_true] at h1
    have h2 := h1.2
    unfold canJ at h2
    rw [Bool.and_eq_true, Bool.and_eq_true] at h2
    cases hm : mk (i + 1) with
    | false => rfl
    | true => rw [hm] at h2; cases h2.2.1
theorem jCo_y {co : Nat → Nat} {fp : Option Nat} {pl : Nat} (h : cfnS fp pl = true) : jCo co fp pl = updN co pl (co pl + 1) := if_pos h
theorem jCo_n {co : Nat → Nat} {fp : Option Nat} {pl j : Nat} (h : j ≠ pl) : jCo co fp pl j = co j := by
  unfold jCo
  split
  · exact updN_n h
  · rfl
/-- a place that isn't marked is come to from the one before alone -/
theorem coJ {kd vl : Nat → Nat} {n fu : Nat} {inp : Int32} {mk : Nat → Bool} {j : Nat} (hP : pOk n kd vl) (hg : gMk n kd vl mk) (h1 : mk j = false) (h2 : j ≠ 0) : ∀ i, i ≤ rnM kd vl n fu inp →
    (yT kd (pT kd vl (x0 inp)) (lT kd vl (x0 inp)) (fun (y : Option Nat × (Nat → Nat)) pl _ _ => (some pl, jCo y.2 y.1 pl)) (none, fun _ => 0) i).2 j = stT (pT kd vl (x0 inp)) i j
  | 0, _ => rfl
  | i + 1, hi => by
    have ih := coJ (fu := fu) (inp := inp) hP hg h1 h2 i (by omega)
    show jCo (yT kd (pT kd vl (x0 inp)) (lT kd vl (x0 inp)) (fun (y : Option Nat × (Nat → Nat)) pl _ _ => (some pl, jCo y.2 y.1 pl)) (none, fun _ => 0) i).2 (yT kd (pT kd vl (x0 inp)) (lT kd vl (x0 inp)) (fun (y : Option Nat × (Nat → Nat)) pl _ _ => (some pl, jCo y.2 y.1 pl)) (none, fun _ => 0) i).1 (pT kd vl (x0 inp) i) j = updN (stT (pT kd vl (x0 inp)) i) (pT kd vl (x0 inp) i) (stT (pT kd vl (x0 inp)) i (pT kd vl (x0 inp) i) + 1) j
    by_cases q : j = pT kd vl (x0 inp) i
    · cases i with
      | zero => exact absurd q h2
      | succ k =>
        have h3 := pT_s (x := x0 inp) (i := k) hg ((rn_ok (fu := fu) (inp := inp) hP).2.2.2 k (by omega)) (rn_k (n := n) (fu := fu) (j := k) (by omega))
        have h4 : pT kd vl (x0 inp) (k + 1) = pT kd vl (x0 inp) k + 1 := h3.resolve_right (fun z => by rw [← q, h1] at z; cases z)
        have h5 : cfnS (yT kd (pT kd vl (x0 inp)) (lT kd vl (x0 inp)) (fun (y : Option Nat × (Nat → Nat)) pl _ _ => (some pl, jCo y.2 y.1 pl)) (none, fun _ => 0) (k + 1)).1 (pT kd vl (x0 inp) (k + 1)) = true := decide_eq_true h4.symm
        rw [jCo_y h5, ← q, updN_s, updN_s, ih]
    · rw [updN_n q, ← ih]
      exact jCo_n q
theorem sv_eq {kd vl : Nat → Nat} {n fu : Nat} {inp : Int32} {mk Pj : Nat → Bool} {ex : Option Nat} (hP : pOk n kd vl) (hg : gMk n kd vl mk) :
    svS n kd mk Pj (yJ kd vl n fu inp).2 ex = nI (sumB (secS (canJ n kd mk Pj ex)) (stT (pT kd vl (x0 inp)) (rnM kd vl n fu inp)) n * 4) := by
  unfold svS
  rw [sumB_n 100 hP.1]
  have h : sumB (secS (canJ n kd mk Pj ex)) (yJ kd vl n fu inp).2 n = sumB (secS (canJ n kd mk Pj ex)) (stT (pT kd vl (x0 inp)) (rnM kd vl n fu inp)) n := sumB_c (fun j _ hs => coJ (fu := fu) (inp := inp) hP hg (sec_c hs).1 (sec_c hs).2 _ (Nat.le_refl _))
  rw [h]
theorem bmod32 {x : Int} (h1 : -2147483648 ≤ x) (h2 : x < 2147483648) : x.bmod (2 ^ 32) = x := by
  unfold Int.bmod
  simp only
  split <;> omega
theorem lt_sub {a s b : Nat} (ha : a < 2 ^ 30) (hs : s < 2 ^ 30) (hb : b < 2 ^ 30) : nI b < nI a - nI s ↔ b + s < a := by
  rw [Int32.lt_iff_toInt_lt, Int32.toInt_sub, nI_toInt (by omega), nI_toInt (by omega), nI_toInt (by omega), bmod32 (by omega) (by omega)]
  omega
theorem gn_y {sv : Option Nat → Int32} {f : Option Nat → Nat} {Pj : Nat → Bool} {bo wq : Option Nat} {i b : Nat} (hf : ∀ ex, sv ex = nI (f ex * 4)) (hf5 : ∀ ex, f ex ≤ 500000) (hb : b ≤ 500000) (h : gnS sv Pj bo i = (nI (4 * b), if b = 0 then bo else wq)) (hp : Pj i = false) (hm : nI b < nI (f (some i)) - nI (f none)) :
    gnS sv Pj bo (i + 1) = (nI (4 * (f (some i) - f none)), if f (some i) - f none = 0 then bo else some i) ∧ nI (f (some i)) - nI (f none) = nI (f (some i) - f none) ∧ f (some i) - f none ≤ 500000 ∧ f (some i) - f none ≠ 0 := by
  have h1 := hf5 (some i)
  have h2 := hf5 none
  have h3 := (lt_sub (by omega) (by omega) (by omega)).mp hm
  refine ⟨?_, nI_sub (by omega), by omega, by omega⟩
  have h4 : sv (some i) - sv none = nI (4 * (f (some i) - f none)) := by
    rw [hf, hf, nI_sub (by omega)]
    exact congrArg nI (by omega)
  rw [gnS, h, if_pos ⟨hp, by rw [hf, hf]; exact (lt_sub (by omega) (by omega) (by omega)).mpr (by omega)⟩, h4, if_neg (by omega)]
theorem gn_n {sv : Option Nat → Int32} {f : Option Nat → Nat} {Pj : Nat → Bool} {bo wq : Option Nat} {i b : Nat} (hf : ∀ ex, sv ex = nI (f ex * 4)) (hf5 : ∀ ex, f ex ≤ 500000) (hb : b ≤ 500000) (h : gnS sv Pj bo i = (nI (4 * b), if b = 0 then bo else wq)) (hm : ¬ nI b < nI (f (some i)) - nI (f none)) :
    gnS sv Pj bo (i + 1) = (nI (4 * b), if b = 0 then bo else wq) := by
  have h1 := hf5 (some i)
  have h2 := hf5 none
  have h3 : ¬ b + f none < f (some i) := fun z => hm ((lt_sub (by omega) (by omega) (by omega)).mpr z)
  rw [gnS, if_neg (fun z => h3 ?_)]
  · exact h
  · have z2 := z.2
    rw [h, hf, hf] at z2
    have := (lt_sub (by omega) (by omega) (by omega)).mp z2
    omega
theorem gn_p {sv : Option Nat → Int32} {Pj : Nat → Bool} {bo : Option Nat} {i : Nat} {x : Int32 × Option Nat} (h : gnS sv Pj bo i = x) (hp : Pj i = true) : gnS sv Pj bo (i + 1) = x := by
  rw [gnS, if_neg (fun z => by rw [hp] at z; cases z.1)]
  exact h
theorem updB_bk {f : Nat → Bool} {k : Nat} (h : f k = false) : updB (updB f k true) k false = f := by
  funext j
  by_cases q : j = k
  · rw [q, updB_s, h]
  · rw [updB_n q, updB_n q]

abbrev rm_X14_spared : Room := ({ frames := 1, cells := 0, slots := 0, locals := 22 } : Room)
theorem mX14_spared_1 : Cond.fieldLink RX14 16 "StepperHeartsModel" "p" "LStepperHeartsModel$Program;" ∈ wsX14_spared := List.mem_of_getElem? (i := 1) rfl
theorem nX14_spared_X14 : ∀ w ∈ wsX140, w ∈ wsX14_spared := fun _ h => List.mem_cons_of_mem _ (List.mem_append_left _ (List.mem_append_right _ (h)))
theorem fX14_spared_186 : (yX14_spared.cls, 186, "StepperHeartsModel$Program", "orders", "I", "StepperHeartsModel") ∈ gNF := List.mem_of_getElem? (i := 22) rfl
theorem nX14_spared_X12 : ∀ w ∈ wsX120, w ∈ wsX14_spared := fun _ h => List.mem_cons_of_mem _ (List.mem_append_right _ (h))
theorem mX14_spared_2 : Cond.fieldLink RX14 74 "StepperHeartsModel" "isSecond" "[Z" ∈ wsX14_spared := List.mem_of_getElem? (i := 2) rfl
theorem mX14_spared_3 : Cond.fieldLink RX14 126 "StepperHeartsModel" "stepsAt" "[I" ∈ wsX14_spared := List.mem_of_getElem? (i := 3) rfl
set_option maxRecDepth 100000 in
set_option maxHeartbeats 4000000 in
theorem c_X14_spared (g : gC) (l : Launch) {o : Nat} {pk : Nat} {pv : Nat} {pl : Nat} {pa : Nat} {pt : Nat} {pm : Nat} {pi : Nat} {z0 : Nat} {z1 : Nat} {z2 : Int32} {z3 : Nat} {z4 : Nat} {z5 : Nat} {z6 : Bool} {z7 : Nat} {z8 : Nat} {z9 : Nat} {z10 : Nat} {z11 : Nat} {z12 : Nat} {z13 : Nat} {z14 : Nat} {z15 : Nat} {z16 : Nat} {z17 : Nat} {z18 : Int32} {z19 : Nat} {z20 : Nat} {z21 : Nat} {z22 : Nat} {z23 : Nat} {z24 : Nat} {z25 : Nat} {z26 : Nat} {z27 : Nat} {z28 : Nat} {z29 : Int32} {z30 : Nat} {z31 : Nat} {z32 : Nat} {z33 : Nat} {z34 : Nat} {z35 : Nat} {z36 : Nat} {z37 : Bool} {z38 : Nat} {z39 : Nat} {z40 : Nat} {z41 : Nat} {z42 : Nat} {z43 : Nat} {z44 : Nat} {z45 : Nat} {z46 : Nat} {z47 : Nat} {z48 : Nat} {z49 : Nat} {z50 : Nat} {z51 : Nat} {z52 : Nat} {z53 : Int32} {z54 : Nat} {n : Nat} {mm : Nat} {kdm : Nat → Nat} {kd : Nat → Nat} {mkm : Nat → Bool} {mk : Nat → Bool} {Pj : Nat → Bool} {sec : Nat → Bool} {sa : Nat → Nat} {R : va_W} (hn : n ≤ 100) (hK : ∀ j, j < n → kd j < 15) (hak : ∀ j, j < n → kdm j = kd j) (ham : ∀ j, j < n → mkm j = mk j) : cI g l yX14_spared wsX14_spared rm_X14_spared 0 0 [.ref o] ((o, .inr (11, [.int (nI z0), .int (nI z1), .int z2, .int (nI z3), .ref z4, .ref z5, .int (bI z6), .ref z7, .ref z8, .int (nI z9), .int (nI z10), .int (nI z11), .int (nI z12), .int (nI z13), .int (nI z14), .int (nI z15), .long (lN z16), .ref z17, .int z18, .int (nI z19), .ref z20, .ref z21, .ref z22, .ref z23, .ref z24, .ref z25, .int (nI z26), .int (nI z27), .int (nI z28), .int z29, .int (nI z30), .int (nI z31), .ref z32, .ref z33, .ref z34, .ref z35, .ref z36, .int (bI z37), .int (nI z38), .int (nI z39), .int (nI z40), .int (nI z41), .int (nI z42), .int (nI z43), .int (nI z44), .int (nI z45), .int (nI z46), .ref z47, .ref z48, .ref z49, .ref z50, .ref z51, .ref z52, .int z53, .ref z54])) :: (z21, .inl (g.2.1 1, 101, .inl (bA sec))) :: (z20, .inl (g.2.1 1, 225, .inl (bA Pj))) :: (z54, .inl (g.2.1 0, 101, .inl (nA sa))) :: (z4, .inr (9, [.int (nI n), .int (nI mm), .ref pk, .ref pv, .ref pl, .ref pa, .ref pt, .ref pm, .ref pi])) :: (pk, .inl (g.2.1 0, 100, .inl (nA kdm))) :: (pi, .inl (g.2.1 1, 101, .inl (bA mkm))) :: R) (fun r u => ∃ (sec9 : Nat → Bool), (nI (sumB (secS (canJ n kd mk Pj none)) sa n)) = r ∧ (o, .inr (11, [.int (nI z0), .int (nI z1), .int z2, .int (nI z3), .ref z4, .ref z5, .int (bI z6), .ref z7, .ref z8, .int (nI z9), .int (nI z10), .int (nI z11), .int (nI z12), .int (nI z13), .int (nI z14), .int (nI z15), .long (lN z16), .ref z17, .int z18, .int (nI z19), .ref z20, .ref z21, .ref z22, .ref z23, .ref z24, .ref z25, .int (nI z26), .int (nI z27), .int (nI z28), .int z29, .int (nI z30), .int (nI z31), .ref z32, .ref z33, .ref z34, .ref z35, .ref z36, .int (bI z37), .int (nI z38), .int (nI z39), .int (nI z40), .int (nI z41), .int (nI z42), .int (nI z43), .int (nI z44), .int (nI z45), .int (nI z46), .ref z47, .ref z48, .ref z49, .ref z50, .ref z51, .ref z52, .int z53, .ref z54])) :: (z21, .inl (g.2.1 1, 101, .inl (bA sec9))) :: (z20, .inl (g.2.1 1, 225, .inl (bA Pj))) :: (z54, .inl (g.2.1 0, 101, .inl (nA sa))) :: (z4, .inr (9, [.int (nI n), .int (nI mm), .ref pk, .ref pv, .ref pl, .ref pa, .ref pt, .ref pm, .ref pi])) :: (pk, .inl (g.2.1 0, 100, .inl (nA kdm))) :: (pi, .inl (g.2.1 1, 101, .inl (bA mkm))) :: R = u) := by
  refine gEnterQ (cc := cX14_spared) (maxL := 4) (ret := (some (.int))) (by decide +kernel) rfl (Nat.le_of_ble_eq_true rfl) ?_
  intro p e s m below meth c F hG hW ls hl
  have hS : va_S (gA g) s.heap s.heap [] := va_S.rf
  have hl : lv_has ls 4 [(0, .ref o)] := hl
  have hW : gW g ((o, .inr (11, [.int (nI z0), .int (nI z1), .int z2, .int (nI z3), .ref z4, .ref z5, .int (bI z6), .ref z7, .ref z8, .int (nI z9), .int (nI z10), .int (nI z11), .int (nI z12), .int (nI z13), .int (nI z14), .int (nI z15), .long (lN z16), .ref z17, .int z18, .int (nI z19), .ref z20, .ref z21, .ref z22, .ref z23, .ref z24, .ref z25, .int (nI z26), .int (nI z27), .int (nI z28), .int z29, .int (nI z30), .int (nI z31), .ref z32, .ref z33, .ref z34, .ref z35, .ref z36, .int (bI z37), .int (nI z38), .int (nI z39), .int (nI z40), .int (nI z41), .int (nI z42), .int (nI z43), .int (nI z44), .int (nI z45), .int (nI z46), .ref z47, .ref z48, .ref z49, .ref z50, .ref z51, .ref z52, .int z53, .ref z54])) :: (z21, .inl (g.2.1 1, 101, .inl (bA sec))) :: (z20, .inl (g.2.1 1, 225, .inl (bA Pj))) :: (z54, .inl (g.2.1 0, 101, .inl (nA sa))) :: (z4, .inr (9, [.int (nI n), .int (nI mm), .ref pk, .ref pv, .ref pl, .ref pa, .ref pt, .ref pm, .ref pi])) :: (pk, .inl (g.2.1 0, 100, .inl (nA kdm))) :: (pi, .inl (g.2.1 1, 101, .inl (bA mkm))) :: R) s.heap := hW
  refine lv_aload_n F.1 F.2.1 dX14_spared_0 rfl (lv_at hl 0 rfl) ?_
  have hW := gW.re (l := [(o, .inr (11, [.int (nI z0), .int (nI z1), .int z2, .int (nI z3), .ref z4, .ref z5, .int (bI z6), .ref z7, .ref z8, .int (nI z9), .int (nI z10), .int (nI z11), .int (nI z12), .int (nI z13), .int (nI z14), .int (nI z15), .long (lN z16), .ref z17, .int z18, .int (nI z19), .ref z20, .ref z21, .ref z22, .ref z23, .ref z24, .ref z25, .int (nI z26), .int (nI z27), .int (nI z28), .int z29, .int (nI z30), .int (nI z31), .ref z32, .ref z33, .ref z34, .ref z35, .ref z36, .int (bI z37), .int (nI z38), .int (nI z39), .int (nI z40), .int (nI z41), .int (nI z42), .int (nI z43), .int (nI z44), .int (nI z45), .int (nI z46), .ref z47, .ref z48, .ref z49, .ref z50, .ref z51, .ref z52, .int z53, .ref z54])), (z21, .inl (g.2.1 1, 101, .inl (bA sec))), (z20, .inl (g.2.1 1, 225, .inl (bA Pj))), (z54, .inl (g.2.1 0, 101, .inl (nA sa))), (z4, .inr (9, [.int (nI n), .int (nI mm), .ref pk, .ref pv, .ref pl, .ref pa, .ref pt, .ref pm, .ref pi])), (pk, .inl (g.2.1 0, 100, .inl (nA kdm))), (pi, .inl (g.2.1 1, 101, .inl (bA mkm)))]) (l' := [(o, .inr (11, [.int (nI z0), .int (nI z1), .int z2, .int (nI z3), .ref z4, .ref z5, .int (bI z6), .ref z7, .ref z8, .int (nI z9), .int (nI z10), .int (nI z11), .int (nI z12), .int (nI z13), .int (nI z14), .int (nI z15), .long (lN z16), .ref z17, .int z18, .int (nI z19), .ref z20, .ref z21, .ref z22, .ref z23, .ref z24, .ref z25, .int (nI z26), .int (nI z27), .int (nI z28), .int z29, .int (nI z30), .int (nI z31), .ref z32, .ref z33, .ref z34, .ref z35, .ref z36, .int (bI z37), .int (nI z38), .int (nI z39), .int (nI z40), .int (nI z41), .int (nI z42), .int (nI z43), .int (nI z44), .int (nI z45), .int (nI z46), .ref z47, .ref z48, .ref z49, .ref z50, .ref z51, .ref z52, .int z53, .ref z54])), (z21, .inl (g.2.1 1, 101, .inl (bA sec))), (z20, .inl (g.2.1 1, 225, .inl (bA Pj))), (z4, .inr (9, [.int (nI n), .int (nI mm), .ref pk, .ref pv, .ref pl, .ref pa, .ref pt, .ref pm, .ref pi])), (pk, .inl (g.2.1 0, 100, .inl (nA kdm))), (pi, .inl (g.2.1 1, 101, .inl (bA mkm))), (z54, .inl (g.2.1 0, 101, .inl (nA sa)))]) (R := R) hW [0, 1, 2, 4, 5, 6, 3] 7 rfl (by decide) rfl
  have hW : gW g ((o, .inr (11, [.int (nI z0), .int (nI z1), .int z2, .int (nI z3), .ref z4, .ref z5, .int (bI z6), .ref z7, .ref z8, .int (nI z9), .int (nI z10), .int (nI z11), .int (nI z12), .int (nI z13), .int (nI z14), .int (nI z15), .long (lN z16), .ref z17, .int z18, .int (nI z19), .ref z20, .ref z21, .ref z22, .ref z23, .ref z24, .ref z25, .int (nI z26), .int (nI z27), .int (nI z28), .int z29, .int (nI z30), .int (nI z31), .ref z32, .ref z33, .ref z34, .ref z35, .ref z36, .int (bI z37), .int (nI z38), .int (nI z39), .int (nI z40), .int (nI z41), .int (nI z42), .int (nI z43), .int (nI z44), .int (nI z45), .int (nI z46), .ref z47, .ref z48, .ref z49, .ref z50, .ref z51, .ref z52, .int z53, .ref z54])) :: (z21, .inl (g.2.1 1, 101, .inl (bA sec))) :: (z20, .inl (g.2.1 1, 225, .inl (bA Pj))) :: (z4, .inr (9, [.int (nI n), .int (nI mm), .ref pk, .ref pv, .ref pl, .ref pa, .ref pt, .ref pm, .ref pi])) :: (pk, .inl (g.2.1 0, 100, .inl (nA kdm))) :: (pi, .inl (g.2.1 1, 101, .inl (bA mkm))) :: (z54, .inl (g.2.1 0, 101, .inl (nA sa))) :: R) _ := hW
  refine gVi (n := 0) (q := (RX14, TX14, 55)) (q0 := 0) (As := []) F hG hS hW (c_X14_pairs g l  hn hK hak ham) rfl gX14_spared_X14_pairs rfl rfl rfl (by decide +kernel) ⟨rfl, rfl, Nat.le_of_ble_eq_true rfl, Nat.le_of_ble_eq_true rfl⟩ hl.1 (Nat.le_of_ble_eq_true rfl) ⟨Nat.le_of_ble_eq_true rfl, Nat.le_of_ble_eq_true rfl⟩ rfl rfl dX14_spared_1 (fun r u H locs hq hW hS => ?_)
  obtain ⟨sec9_1, rfl, rfl, p0_1⟩ := hq
  have hW : gW g ((o, .inr (11, [.int (nI z0), .int (nI z1), .int z2, .int (nI z3), .ref z4, .ref z5, .int (bI z6), .ref z7, .ref z8, .int (nI z9), .int (nI z10), .int (nI z11), .int (nI z12), .int (nI z13), .int (nI z14), .int (nI z15), .long (lN z16), .ref z17, .int z18, .int (nI z19), .ref z20, .ref z21, .ref z22, .ref z23, .ref z24, .ref z25, .int (nI z26), .int (nI z27), .int (nI z28), .int z29, .int (nI z30), .int (nI z31), .ref z32, .ref z33, .ref z34, .ref z35, .ref z36, .int (bI z37), .int (nI z38), .int (nI z39), .int (nI z40), .int (nI z41), .int (nI z42), .int (nI z43), .int (nI z44), .int (nI z45), .int (nI z46), .ref z47, .ref z48, .ref z49, .ref z50, .ref z51, .ref z52, .int z53, .ref z54])) :: (z21, .inl (g.2.1 1, 101, .inl (bA sec9_1))) :: (z20, .inl (g.2.1 1, 225, .inl (bA Pj))) :: (z4, .inr (9, [.int (nI n), .int (nI mm), .ref pk, .ref pv, .ref pl, .ref pa, .ref pt, .ref pm, .ref pi])) :: (pk, .inl (g.2.1 0, 100, .inl (nA kdm))) :: (pi, .inl (g.2.1 1, 101, .inl (bA mkm))) :: (z54, .inl (g.2.1 0, 101, .inl (nA sa))) :: R) _ := hW
  refine lv_istore_n (lv' := [(1, .int (nI (cntB (secS (canJ n kd mk Pj none)) n))), (0, .ref o)]) F.1 F.2.1 dX14_spared_4 rfl hl (by decide) rfl (fun ls hl => ?_)
  refine lv_iconst (v := nI 0) F.1 F.2.1 dX14_spared_5 rfl ?_
  refine lv_istore_n (lv' := [(2, .int (nI 0)), (1, .int (nI (cntB (secS (canJ n kd mk Pj none)) n))), (0, .ref o)]) F.1 F.2.1 dX14_spared_6 rfl hl (by decide) rfl (fun ls hl => ?_)
  refine lv_iconst (v := nI 0) F.1 F.2.1 dX14_spared_7 rfl ?_
  refine lv_istore_n (lv' := [(3, .int (nI 0)), (2, .int (nI 0)), (1, .int (nI (cntB (secS (canJ n kd mk Pj none)) n))), (0, .ref o)]) F.1 F.2.1 dX14_spared_8 rfl hl (by decide) rfl (fun ls hl => ?_)
  have L_9 : ∀ (fz : Nat), ∀ (i : Nat) (sm : Nat) (hi : i ≤ n) (hs : sm = sumB (secS (canJ n kd mk Pj none)) sa i) (hm_9 : n - i < fz) (H : Heap) (locs : List Loc) (ls : Array Slot) (hW : gW g ((o, .inr (11, [.int (nI z0), .int (nI z1), .int z2, .int (nI z3), .ref z4, .ref z5, .int (bI z6), .ref z7, .ref z8, .int (nI z9), .int (nI z10), .int (nI z11), .int (nI z12), .int (nI z13), .int (nI z14), .int (nI z15), .long (lN z16), .ref z17, .int z18, .int (nI z19), .ref z20, .ref z21, .ref z22, .ref z23, .ref z24, .ref z25, .int (nI z26), .int (nI z27), .int (nI z28), .int z29, .int (nI z30), .int (nI z31), .ref z32, .ref z33, .ref z34, .ref z35, .ref z36, .int (bI z37), .int (nI z38), .int (nI z39), .int (nI z40), .int (nI z41), .int (nI z42), .int (nI z43), .int (nI z44), .int (nI z45), .int (nI z46), .ref z47, .ref z48, .ref z49, .ref z50, .ref z51, .ref z52, .int z53, .ref z54])) :: (z21, .inl (g.2.1 1, 101, .inl (bA sec9_1))) :: (z20, .inl (g.2.1 1, 225, .inl (bA Pj))) :: (z4, .inr (9, [.int (nI n), .int (nI mm), .ref pk, .ref pv, .ref pl, .ref pa, .ref pt, .ref pm, .ref pi])) :: (pk, .inl (g.2.1 0, 100, .inl (nA kdm))) :: (pi, .inl (g.2.1 1, 101, .inl (bA mkm))) :: (z54, .inl (g.2.1 0, 101, .inl (nA sa))) :: R) H) (hS : va_S (gA g) s.heap H locs) (hl : lv_has ls 4 [(0, .ref o), (2, .int (nI sm)), (3, .int (nI i))]), W p l e (headSpec wsX14_spared rm_X14_spared).room s m ([.ref o] : List Value).toArray below meth c H locs 0 0 (MQ below (va_Qi (fun r u => ∃ (sec9 : Nat → Bool), (nI (sumB (secS (canJ n kd mk Pj none)) sa n)) = r ∧ (o, .inr (11, [.int (nI z0), .int (nI z1), .int z2, .int (nI z3), .ref z4, .ref z5, .int (bI z6), .ref z7, .ref z8, .int (nI z9), .int (nI z10), .int (nI z11), .int (nI z12), .int (nI z13), .int (nI z14), .int (nI z15), .long (lN z16), .ref z17, .int z18, .int (nI z19), .ref z20, .ref z21, .ref z22, .ref z23, .ref z24, .ref z25, .int (nI z26), .int (nI z27), .int (nI z28), .int z29, .int (nI z30), .int (nI z31), .ref z32, .ref z33, .ref z34, .ref z35, .ref z36, .int (bI z37), .int (nI z38), .int (nI z39), .int (nI z40), .int (nI z41), .int (nI z42), .int (nI z43), .int (nI z44), .int (nI z45), .int (nI z46), .ref z47, .ref z48, .ref z49, .ref z50, .ref z51, .ref z52, .int z53, .ref z54])) :: (z21, .inl (g.2.1 1, 101, .inl (bA sec9))) :: (z20, .inl (g.2.1 1, 225, .inl (bA Pj))) :: (z54, .inl (g.2.1 0, 101, .inl (nA sa))) :: (z4, .inr (9, [.int (nI n), .int (nI mm), .ref pk, .ref pv, .ref pl, .ref pa, .ref pt, .ref pm, .ref pi])) :: (pk, .inl (g.2.1 0, 100, .inl (nA kdm))) :: (pi, .inl (g.2.1 1, 101, .inl (bA mkm))) :: R = u) (fun u t => gW g u t.heap) (gA g)) ([.ref o] : List Value).toArray s 0 0 (gA g)) (F0 m 9 ls []) := by
    intro fz
    induction fz with
    | zero =>
      intros _ _ _ _ hm_9
      exact absurd hm_9 (Nat.not_lt_zero _)
    | succ fz ih_9 =>
      intro i sm hi hs hm_9 H locs ls hW hS hl
      refine lv_iload_n F.1 F.2.1 dX14_spared_9 rfl (lv_at hl 2 rfl) ?_
      refine lv_aload_n F.1 F.2.1 dX14_spared_10 rfl (lv_at hl 0 rfl) ?_
      refine gGet F hG hW nX14_spared_X14 0 rfl rfl 4 (by decide) mX14_spared_1 rfl dX14_spared_11 ?_
      refine gGetN F hG hW nX14_spared_X12 3 rfl rfl 0 (by decide) fX14_spared_186 rfl dX14_spared_14 ?_
      refine gGe (tgt := 48) F (by omega) (by omega) dX14_spared_17 (by decide) (fun c_17 => ?_) (fun c_17 => ?_)
      · refine lv_iload_n F.1 F.2.1 dX14_spared_48 rfl (lv_at hl 1 rfl) ?_
        have hW := gW.re (l := [(o, .inr (11, [.int (nI z0), .int (nI z1), .int z2, .int (nI z3), .ref z4, .ref z5, .int (bI z6), .ref z7, .ref z8, .int (nI z9), .int (nI z10), .int (nI z11), .int (nI z12), .int (nI z13), .int (nI z14), .int (nI z15), .long (lN z16), .ref z17, .int z18, .int (nI z19), .ref z20, .ref z21, .ref z22, .ref z23, .ref z24, .ref z25, .int (nI z26), .int (nI z27), .int (nI z28), .int z29, .int (nI z30), .int (nI z31), .ref z32, .ref z33, .ref z34, .ref z35, .ref z36, .int (bI z37), .int (nI z38), .int (nI z39), .int (nI z40), .int (nI z41), .int (nI z42), .int (nI z43), .int (nI z44), .int (nI z45), .int (nI z46), .ref z47, .ref z48, .ref z49, .ref z50, .ref z51, .ref z52, .int z53, .ref z54])), (z21, .inl (g.2.1 1, 101, .inl (bA sec9_1))), (z20, .inl (g.2.1 1, 225, .inl (bA Pj))), (z4, .inr (9, [.int (nI n), .int (nI mm), .ref pk, .ref pv, .ref pl, .ref pa, .ref pt, .ref pm, .ref pi])), (pk, .inl (g.2.1 0, 100, .inl (nA kdm))), (pi, .inl (g.2.1 1, 101, .inl (bA mkm))), (z54, .inl (g.2.1 0, 101, .inl (nA sa)))]) (l' := [(o, .inr (11, [.int (nI z0), .int (nI z1), .int z2, .int (nI z3), .ref z4, .ref z5, .int (bI z6), .ref z7, .ref z8, .int (nI z9), .int (nI z10), .int (nI z11), .int (nI z12), .int (nI z13), .int (nI z14), .int (nI z15), .long (lN z16), .ref z17, .int z18, .int (nI z19), .ref z20, .ref z21, .ref z22, .ref z23, .ref z24, .ref z25, .int (nI z26), .int (nI z27), .int (nI z28), .int z29, .int (nI z30), .int (nI z31), .ref z32, .ref z33, .ref z34, .ref z35, .ref z36, .int (bI z37), .int (nI z38), .int (nI z39), .int (nI z40), .int (nI z41), .int (nI z42), .int (nI z43), .int (nI z44), .int (nI z45), .int (nI z46), .ref z47, .ref z48, .ref z49, .ref z50, .ref z51, .ref z52, .int z53, .ref z54])), (z21, .inl (g.2.1 1, 101, .inl (bA sec9_1))), (z20, .inl (g.2.1 1, 225, .inl (bA Pj))), (z54, .inl (g.2.1 0, 101, .inl (nA sa))), (z4, .inr (9, [.int (nI n), .int (nI mm), .ref pk, .ref pv, .ref pl, .ref pa, .ref pt, .ref pm, .ref pi])), (pk, .inl (g.2.1 0, 100, .inl (nA kdm))), (pi, .inl (g.2.1 1, 101, .inl (bA mkm)))]) (R := R) hW [0, 1, 2, 6, 3, 4, 5] 7 rfl (by decide) rfl
        have hW : gW g ((o, .inr (11, [.int (nI z0), .int (nI z1), .int z2, .int (nI z3), .ref z4, .ref z5, .int (bI z6), .ref z7, .ref z8, .int (nI z9), .int (nI z10), .int (nI z11), .int (nI z12), .int (nI z13), .int (nI z14), .int (nI z15), .long (lN z16), .ref z17, .int z18, .int (nI z19), .ref z20, .ref z21, .ref z22, .ref z23, .ref z24, .ref z25, .int (nI z26), .int (nI z27), .int (nI z28), .int z29, .int (nI z30), .int (nI z31), .ref z32, .ref z33, .ref z34, .ref z35, .ref z36, .int (bI z37), .int (nI z38), .int (nI z39), .int (nI z40), .int (nI z41), .int (nI z42), .int (nI z43), .int (nI z44), .int (nI z45), .int (nI z46), .ref z47, .ref z48, .ref z49, .ref z50, .ref z51, .ref z52, .int z53, .ref z54])) :: (z21, .inl (g.2.1 1, 101, .inl (bA sec9_1))) :: (z20, .inl (g.2.1 1, 225, .inl (bA Pj))) :: (z54, .inl (g.2.1 0, 101, .inl (nA sa))) :: (z4, .inr (9, [.int (nI n), .int (nI mm), .ref pk, .ref pv, .ref pl, .ref pa, .ref pt, .ref pm, .ref pi])) :: (pk, .inl (g.2.1 0, 100, .inl (nA kdm))) :: (pi, .inl (g.2.1 1, 101, .inl (bA mkm))) :: R) _ := hW
        refine gRi F hW hS dX14_spared_49 ?_
        exact ⟨_, by rw [hs, show i = n by omega], rfl⟩
      · refine lv_iload_n F.1 F.2.1 dX14_spared_20 rfl (lv_at hl 1 rfl) ?_
        refine lv_aload_n F.1 F.2.1 dX14_spared_21 rfl (lv_at hl 0 rfl) ?_
        refine gGet F hG hW nX14_spared_X14 0 rfl rfl 21 (by decide) mX14_spared_2 rfl dX14_spared_22 ?_
        refine lv_iload_n F.1 F.2.1 dX14_spared_25 rfl (lv_at hl 2 rfl) ?_
        refine gLdZ F hG hW 1 rfl (by omega) (by decide) dX14_spared_26 ?_
        refine gTop (y := bI (sec9_1 i)) rfl ?_
        refine gIfEqB (tgt := 39) F dX14_spared_27 (by decide) (fun c_27 => ?_) (fun c_27 => ?_)
        · refine lv_iconst (v := nI 0) F.1 F.2.1 dX14_spared_39 rfl ?_
          refine gAdd F dX14_spared_40 ?_
          refine lv_istore_n (lv' := [(2, .int (nI (sm + 0))), (0, .ref o), (3, .int (nI i))]) F.1 F.2.1 dX14_spared_41 rfl hl (by decide) rfl (fun ls hl => ?_)
          refine lv_iinc (v := nI (i + 1)) (lv' := [(3, .int (nI (i + 1))), (2, .int (nI (sm + 0))), (0, .ref o)]) F.1 F.2.1 dX14_spared_42 hl (k := 2) rfl (nI_add i 1) (by decide) rfl (fun ls hl => ?_)
          refine lv_goto (tgt := 9) F.1 F.2.1 dX14_spared_45 (by decide) ?_
          exact ih_9 (i + 1) (sm + 0) (by omega) (by rw [sumB, ← hs, ← p0_1 i (by omega), c_27]; rfl) (by omega) _ _ _ hW hS (lv_sub hl [2, 1, 0] rfl)
        · refine lv_aload_n F.1 F.2.1 dX14_spared_30 rfl (lv_at hl 0 rfl) ?_
          refine gGet F hG hW nX14_spared_X14 0 rfl rfl 54 (by decide) mX14_spared_3 rfl dX14_spared_31 ?_
          refine lv_iload_n F.1 F.2.1 dX14_spared_34 rfl (lv_at hl 2 rfl) ?_
          refine gLdI F hG hW 6 rfl (by omega) (by decide) dX14_spared_35 ?_
          refine gTop (y := nI (sa i)) rfl ?_
          refine lv_goto (tgt := 40) F.1 F.2.1 dX14_spared_36 (by decide) ?_
          refine gAdd F dX14_spared_40 ?_
          refine lv_istore_n (lv' := [(2, .int (nI (sm + (sa i)))), (0, .ref o), (3, .int (nI i))]) F.1 F.2.1 dX14_spared_41 rfl hl (by decide) rfl (fun ls hl => ?_)
          refine lv_iinc (v := nI (i + 1)) (lv' := [(3, .int (nI (i + 1))), (2, .int (nI (sm + (sa i)))), (0, .ref o)]) F.1 F.2.1 dX14_spared_42 hl (k := 2) rfl (nI_add i 1) (by decide) rfl (fun ls hl => ?_)
          refine lv_goto (tgt := 9) F.1 F.2.1 dX14_spared_45 (by decide) ?_
          exact ih_9 (i + 1) (sm + (sa i)) (by omega) (by rw [sumB, ← hs, ← p0_1 i (by omega), c_27]; rfl) (by omega) _ _ _ hW hS (lv_sub hl [2, 1, 0] rfl)
  exact L_9 _ 0 0 (by omega) rfl (Nat.lt_succ_self _) _ _ _ hW hS (lv_sub hl [3, 1, 0] rfl)

