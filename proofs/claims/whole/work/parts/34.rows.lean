/-! ===== the traces' heart doesn't see what stale rows hold (hand-written) ===== -/
def tInv (y : tH) : Prop := (∀ p, 0 < y.2.1 p → y.2.2.2.1 p = true) ∧ (∀ w, y.2.2.2.2.1 = some w → y.2.2.2.1 w = true ∧ y.2.1 w = 0) ∧ (∀ x, y.2.2.2.2.2.2.1 = some x → y.2.2.2.2.2.2.2 < y.2.1 x)
def tEq (y z : tH) : Prop := y.2 = z.2 ∧ (∀ x j, j < y.2.1 x → y.1 (x * 40 + j) = z.1 (x * 40 + j)) ∧ (∀ w, y.2.2.2.2.1 = some w → ∀ j, j < y.2.2.2.2.2.1 → y.1 (w * 40 + j) = z.1 (w * 40 + j))
theorem updN_c {f f' : Nat → Nat} {k x j : Nat} (h : j ≠ k → f j = f' j) : updN f k x j = updN f' k x j := by
  simp only [updN]
  split
  · rfl
  · next q => exact h q
theorem tW_inv {y : tH} {pl : Nat} (h : tInv y) : tInv (tW y pl) := by
  obtain ⟨ro, le, rn, be, wr, wn, is, ni⟩ := y
  obtain ⟨h1, h2, h3⟩ := h
  simp only at h1 h2 h3
  cases wr with
  | none => exact ⟨h1, h2, h3⟩
  | some w =>
    obtain ⟨g1, g2⟩ := h2 w rfl
    show tInv (if 0 < wn ∧ pl = w then _ else if 40 ≤ wn then _ else _)
    split
    · refine ⟨fun p hp => ?_, fun v hv => (by cases hv), fun x hx => ?_⟩
      · show be p = true
        rcases Nat.decEq p w with q | q
        · exact h1 p (by have : updN le w wn p = le p := updN_n q; rw [← this]; exact hp)
        · rw [q]; exact g1
      · show ni < updN le w wn x
        have h4 := h3 x hx
        have hxw : x ≠ w := fun q => by rw [q, g2] at h4; exact Nat.not_lt_zero _ h4
        rw [updN_n hxw]
        exact h4
    · split
      · exact ⟨h1, fun v hv => (by cases hv), h3⟩
      · exact ⟨h1, h2, h3⟩
theorem tGo_lt' {le : Nat → Nat} {x ni : Nat} (h : 0 < le x) : tGo le x ni < le x := by
  unfold tGo; split
  · assumption
  · exact h
theorem tG_inv {y : tH} {pl pw : Nat} (h : tInv y) : tInv (tG y pl pw).2 := by
  obtain ⟨ro, le, rn, be, wr, wn, is, ni⟩ := y
  obtain ⟨h1, h2, h3⟩ := h
  simp only at h1 h2 h3
  show tInv (if tIn ro is ni pl = true then _ else if le pl = 0 then _ else _ : Nat × tH).2
  split
  · refine ⟨h1, h2, fun x hx => ?_⟩
    have hx : is = some x := hx
    subst hx
    exact tGo_lt' (Nat.lt_of_le_of_lt (Nat.zero_le _) (h3 x rfl))
  · split
    · exact ⟨h1, h2, fun x hx => (by cases hx)⟩
    · next q =>
      refine ⟨h1, h2, fun x hx => ?_⟩
      cases hx
      exact tGo_lt' (Nat.pos_of_ne_zero q)
theorem tC_inv {y : tH} {p : Nat} (h : tInv y) : tInv (tC y p) := by
  obtain ⟨ro, le, rn, be, wr, wn, is, ni⟩ := y
  obtain ⟨h1, h2, h3⟩ := h
  simp only at h1 h2 h3
  show tInv (if 8 ≤ rn p + 1 ∧ wr = none ∧ be p = false then _ else _)
  split
  · next q =>
    refine ⟨fun v hv => ?_, fun v hv => ?_, h3⟩
    · show updB be p true v = true
      rcases Nat.decEq v p with g | g
      · rw [updB_n g]; exact h1 v hv
      · rw [g]; exact updB_s _ _ _
    · cases hv
      refine ⟨updB_s _ _ _, ?_⟩
      show le p = 0
      rcases Nat.eq_zero_or_pos (le p) with g | g
      · exact g
      · have := h1 p g
        rw [q.2.2] at this
        cases this
  · exact ⟨h1, h2, h3⟩
theorem tP_inv {y : tH} {pl k : Nat} {la : Option Nat} (h : tInv y) : tInv (tP y pl k la) := by
  have h1 := tG_inv (pl := pl) (pw := if k = 12 then 1 else 0) (tW_inv (pl := pl) h)
  cases la with
  | none => exact h1
  | some t =>
    show tInv (if t ≤ pl then _ else _)
    split
    · exact tC_inv h1
    · exact h1
theorem tW_sim {y z : tH} {pl : Nat} (h : tEq y z) : tEq (tW y pl) (tW z pl) := by
  obtain ⟨ro, le, rn, be, wr, wn, is, ni⟩ := y
  obtain ⟨ro', rest⟩ := z
  obtain ⟨h0, h1, h2⟩ := h
  simp only at h0 h1 h2
  subst h0
  cases wr with
  | none => exact ⟨rfl, h1, h2⟩
  | some w =>
    have g := h2 w rfl
    show tEq (if 0 < wn ∧ pl = w then _ else if 40 ≤ wn then _ else _) (if 0 < wn ∧ pl = w then _ else if 40 ≤ wn then _ else _)
    split
    · refine ⟨rfl, fun x j hj => ?_, fun v hv => (by cases hv)⟩
      show ro (x * 40 + j) = ro' (x * 40 + j)
      rcases Nat.decEq x w with q | q
      · have hj : j < updN le w wn x := hj
        rw [updN_n q] at hj
        exact h1 x j hj
      · have hj : j < updN le w wn x := hj
        rw [q, updN_s] at hj
        rw [q]; exact g j hj
    · split
      · exact ⟨rfl, h1, fun v hv => (by cases hv)⟩
      · refine ⟨rfl, fun x j hj => updN_c (fun _ => h1 x j hj), fun v hv j hj => ?_⟩
        cases hv
        refine updN_c (fun q => g j ?_)
        have hj : j < wn + 1 := hj
        omega
theorem tG_sim {y z : tH} {pl pw : Nat} (hi : tInv y) (h : tEq y z) : (tG y pl pw).1 = (tG z pl pw).1 ∧ tEq (tG y pl pw).2 (tG z pl pw).2 := by
  obtain ⟨ro, le, rn, be, wr, wn, is, ni⟩ := y
  obtain ⟨ro', rest⟩ := z
  obtain ⟨h0, h1, h2⟩ := h
  simp only at h0 h1 h2
  subst h0
  have e : tIn ro is ni pl = tIn ro' is ni pl := by
    cases is with
    | none => rfl
    | some x => show decide (ro (x * 40 + ni) = pl) = decide (ro' (x * 40 + ni) = pl); rw [h1 x ni (hi.2.2 x rfl)]
  show (if tIn ro is ni pl = true then _ else if le pl = 0 then _ else _ : Nat × tH).1 = (if tIn ro' is ni pl = true then _ else if le pl = 0 then _ else _ : Nat × tH).1 ∧ tEq (if tIn ro is ni pl = true then _ else if le pl = 0 then _ else _ : Nat × tH).2 (if tIn ro' is ni pl = true then _ else if le pl = 0 then _ else _ : Nat × tH).2
  rw [e]
  split
  · exact ⟨rfl, rfl, h1, h2⟩
  · split
    · exact ⟨rfl, rfl, h1, h2⟩
    · exact ⟨rfl, rfl, h1, h2⟩
theorem tC_sim {y z : tH} {p : Nat} (h : tEq y z) : tEq (tC y p) (tC z p) := by
  obtain ⟨ro, le, rn, be, wr, wn, is, ni⟩ := y
  obtain ⟨ro', rest⟩ := z
  obtain ⟨h0, h1, h2⟩ := h
  simp only at h0 h1 h2
  subst h0
  show tEq (if 8 ≤ rn p + 1 ∧ wr = none ∧ be p = false then _ else _) (if 8 ≤ rn p + 1 ∧ wr = none ∧ be p = false then _ else _)
  split
  · exact ⟨rfl, h1, fun v hv j hj => absurd hj (Nat.not_lt_zero j)⟩
  · exact ⟨rfl, h1, h2⟩
theorem tP_sim {y z : tH} {pl k : Nat} {la : Option Nat} (hi : tInv y) (h : tEq y z) : tEq (tP y pl k la) (tP z pl k la) := by
  have h1 := (tG_sim (pl := pl) (pw := if k = 12 then 1 else 0) (tW_inv (pl := pl) hi) (tW_sim (pl := pl) h)).2
  cases la with
  | none => exact h1
  | some t =>
    show tEq (if t ≤ pl then _ else _) (if t ≤ pl then _ else _)
    split
    · exact tC_sim h1
    · exact h1
theorem tPr_sim {y z : tH} {pl k : Nat} (hi : tInv y) (h : tEq y z) : tPr y pl k = tPr z pl k :=
  (tG_sim (pl := pl) (pw := if k = 12 then 1 else 0) (tW_inv (pl := pl) hi) (tW_sim (pl := pl) h)).1
def tS (y z : tH) : Prop := tInv y ∧ tEq y z
theorem tS_nx (a b : tH) (h : tS a b) (p k : Nat) (l : Option Nat) : tS (tP a p k l) (tP b p k l) := ⟨tP_inv h.1, tP_sim h.1 h.2⟩
theorem tS_pr (a b : tH) (h : tS a b) (p k : Nat) : tPr a p k = tPr b p k := tPr_sim h.1 h.2
def tZ (ro : Nat → Nat) : tH := (ro, fun _ => 0, fun _ => 0, fun _ => false, none, 0, none, 0)
theorem tZ_S (ro ro' : Nat → Nat) : tS (tZ ro) (tZ ro') := ⟨⟨fun _ h => absurd h (Nat.lt_irrefl 0), fun _ h => (by cases h), fun _ h => (by cases h)⟩, rfl, fun _ _ h => absurd h (Nat.not_lt_zero _), fun _ h => (by cases h)⟩
/-! ===== what stays in range along a run ===== -/
def xOk_ (n i : Nat) (x : mS) : Prop := x.2.1 ≤ 32 ∧ x.2.2.2.2.1 ≤ i ∧ x.2.2.2.2.2.1 ≤ n ∧ x.2.2.2.2.2.2 ≤ 32
theorem mN_ok {kd vl : Nat → Nat} {n i fuel : Nat} {x : mS} (hP : pOk n kd vl) (h : xOk_ n i x) (ha : aheadS kd n x.2.2.2.2.2.1 i fuel x.2.1 = none) : xOk_ n (i + 1) (mN kd vl x) := by
  obtain ⟨h1, h2, h3, h4⟩ := h
  obtain ⟨g1, g2, g3, g4⟩ := ahead_none ha
  refine ⟨g4, ?_, ?_, ?_⟩
  · show ocS _ _ ≤ i + 1
    exact Nat.le_trans (ocS_le _ _) (Nat.succ_le_succ h2)
  · show plS _ _ _ _ _ ≤ n
    unfold plS
    split
    · exact h3
    · split
      · omega
      · next t ht => exact Nat.le_of_lt (laS_lt (hP.2.2.2 _ g1) ht)
  · show max _ _ ≤ 32
    exact Nat.max_le.mpr ⟨h4, g4⟩
/-- the whole of a trail: in range all along, places below n, and where it ends -/
theorem stp_ok {kd vl : Nat → Nat} {n fuel : Nat} {x : mS} (hP : pOk n kd vl) : ∀ (r i : Nat), i ≤ fuel → (∀ j, j ≤ i → xOk_ n j (mI kd vl x j)) → (∀ j, j < i → pT kd vl x j < n) →
    (stp kd vl n fuel x r i).1 ≤ fuel ∧ (stp kd vl n fuel x r i).2 ≤ 4 ∧ (∀ j, j ≤ (stp kd vl n fuel x r i).1 → xOk_ n j (mI kd vl x j)) ∧ (∀ j, j < (stp kd vl n fuel x r i).1 → pT kd vl x j < n)
  | 0, i, hi, h1, h2 => ⟨hi, Nat.zero_le 4, h1, h2⟩
  | r + 1, i, hi, h1, h2 => by
    have hs := h1 i (Nat.le_refl i)
    rw [stp]
    cases q : aheadS kd n (mI kd vl x i).2.2.2.2.2.1 i fuel (mI kd vl x i).2.1 with
    | some e => exact ⟨hi, ahead_lt q, h1, h2⟩
    | none =>
      have ha := ahead_none q
      have hn := mN_ok (vl := vl) hP hs q
      have g1 : ∀ j, j ≤ i + 1 → xOk_ n j (mI kd vl x j) := by
        intro j hj
        rcases Nat.lt_or_ge j (i + 1) with h | h
        · exact h1 j (Nat.le_of_lt_succ h)
        · rw [Nat.le_antisymm hj h]
          exact hn
      have g2 : ∀ j, j < i + 1 → pT kd vl x j < n := by
        intro j hj
        rcases Nat.lt_or_ge j i with h | h
        · exact h2 j h
        · rw [Nat.le_antisymm (Nat.le_of_lt_succ hj) h]
          exact ha.1
      simp only
      split
      · exact ⟨ha.2.1, Nat.zero_le 4, g1, g2⟩
      · exact stp_ok hP r (i + 1) ha.2.1 g1 g2
theorem dnT_le {kd pl : Nat → Nat} : ∀ (i j : Nat), dnT kd pl i j ≤ i
  | 0, _ => Nat.le_refl 0
  | i + 1, j => by
    rw [dnT]
    exact updN_le (fun j => Nat.le_succ_of_le (dnT_le i j)) (Nat.succ_le_succ (dnT_le i _)) j
theorem fwT_le {kd pl : Nat → Nat} : ∀ (i j : Nat), fwT kd pl i j ≤ i
  | 0, _ => Nat.le_refl 0
  | i + 1, j => by
    rw [fwT]
    cases foT kd pl i with
    | none => exact Nat.le_succ_of_le (fwT_le i j)
    | some v => exact updN_le (fun j => Nat.le_succ_of_le (fwT_le i j)) (Nat.succ_le_succ (fwT_le i _)) j
theorem foT_lt {kd pl : Nat → Nat} {n i : Nat} (hK : ∀ j, j < n → kd j < 15) (hp : ∀ j, j < i → pl j < n) : ∀ q, foT kd pl i = some q → q < 15 := by
  intro q h
  cases i with
  | zero => cases h
  | succ i => cases h; exact hK _ (hp i (Nat.lt_succ_self i))
theorem tT_ok {kd pl : Nat → Nat} {la : Nat → Option Nat} {y : tH} {n i : Nat} (hn : n ≤ 100) (h : tOk y 0) (hp : ∀ j, j < i → pl j < n) : tOk (yT kd pl la (fun y pl k la => tP y pl k la) y i) i := by
  induction i with
  | zero => exact h
  | succ i ih => exact tP_ok (ih (fun j hj => hp j (Nat.lt_succ_of_lt hj))) (Nat.lt_of_lt_of_le (hp i (Nat.lt_succ_self i)) hn)
