/-! ===== a run's trail: what every heart sees of it (hand-written) ===== -/
def mI (kd vl : Nat → Nat) (x : mS) : Nat → mS
  | 0 => x
  | i + 1 => mN kd vl (mI kd vl x i)
def pT (kd vl : Nat → Nat) (x : mS) (i : Nat) : Nat := (mI kd vl x i).2.2.2.2.2.1
def lT (kd vl : Nat → Nat) (x : mS) (i : Nat) : Option Nat := lN_ kd vl (mI kd vl x i)
def dnT (kd pl : Nat → Nat) : Nat → (Nat → Nat)
  | 0 => fun _ => 0
  | i + 1 => updN (dnT kd pl i) (kd (pl i)) (dnT kd pl i (kd (pl i)) + 1)
def foT (kd pl : Nat → Nat) : Nat → Option Nat
  | 0 => none
  | i + 1 => some (kd (pl i))
def fwT (kd pl : Nat → Nat) : Nat → (Nat → Nat)
  | 0 => fun _ => 0
  | i + 1 => folUp (fwT kd pl i) (foT kd pl i) (kd (pl i))
def yT {Y : Type} (kd pl : Nat → Nat) (la : Nat → Option Nat) (nx : Y → Nat → Nat → Option Nat → Y) (y0 : Y) : Nat → Y
  | 0 => y0
  | i + 1 => nx (yT kd pl la nx y0 i) (pl i) (kd (pl i)) (la i)
def bW (k : Nat) : Nat := kW k + kT k + kP k
def spT {Y : Type} (kd pl : Nat → Nat) (la : Nat → Option Nat) (pr : Y → Nat → Nat → Nat) (nx : Y → Nat → Nat → Option Nat → Y) (y0 : Y) : Nat → Nat
  | 0 => 0
  | i + 1 => spT kd pl la pr nx y0 i + (pr (yT kd pl la nx y0 i) (pl i) (kd (pl i)) + bW (kd (pl i)))
def stA_ {Y : Type} (kd vl : Nat → Nat) (pr : Y → Nat → Nat → Nat) (nx : Y → Nat → Nat → Option Nat → Y) (x : mS) (y0 : Y) (i : Nat) : aS Y :=
  (mI kd vl x i, dnT kd (pT kd vl x) i, fwT kd (pT kd vl x) i, foT kd (pT kd vl x) i, i, spT kd (pT kd vl x) (lT kd vl x) pr nx y0 i, yT kd (pT kd vl x) (lT kd vl x) nx y0 i)
theorem stA_s {Y : Type} (kd vl : Nat → Nat) (pr : Y → Nat → Nat → Nat) (nx : Y → Nat → Nat → Option Nat → Y) (x : mS) (y0 : Y) (i : Nat) : stA kd vl pr nx (stA_ kd vl pr nx x y0 i) = stA_ kd vl pr nx x y0 (i + 1) := rfl
/-- where a run stops: after so many steps, with this ending -/
def stp (kd vl : Nat → Nat) (n fuel : Nat) (x : mS) : Nat → Nat → Nat × Nat
  | 0, i => (i, 0)
  | r + 1, i => match aheadS kd n (mI kd vl x i).2.2.2.2.2.1 i fuel (mI kd vl x i).2.1 with
    | some e => (i, e)
    | none => if kd (mI kd vl x i).2.2.2.2.2.1 = 14 then (i + 1, 0) else stp kd vl n fuel x r (i + 1)
theorem goS_stp {Y : Type} (kd vl : Nat → Nat) (n fuel : Nat) (pr : Y → Nat → Nat → Nat) (nx : Y → Nat → Nat → Option Nat → Y) (x : mS) (y0 : Y) : ∀ (r i : Nat),
    goS kd vl n fuel pr nx r (stA_ kd vl pr nx x y0 i) = (stA_ kd vl pr nx x y0 (stp kd vl n fuel x r i).1, (stp kd vl n fuel x r i).2)
  | 0, i => rfl
  | r + 1, i => by
    have h1 : aheadS kd n (stA_ kd vl pr nx x y0 i).1.2.2.2.2.2.1 (stA_ kd vl pr nx x y0 i).2.2.2.2.1 fuel (stA_ kd vl pr nx x y0 i).1.2.1 = aheadS kd n (mI kd vl x i).2.2.2.2.2.1 i fuel (mI kd vl x i).2.1 := rfl
    rw [goS, stp, h1]
    cases q : aheadS kd n (mI kd vl x i).2.2.2.2.2.1 i fuel (mI kd vl x i).2.1 with
    | some e => rfl
    | none =>
      have h2 : kd (stA_ kd vl pr nx x y0 i).1.2.2.2.2.2.1 = kd (mI kd vl x i).2.2.2.2.2.1 := rfl
      simp only [h2, stA_s]
      split
      · rfl
      · exact goS_stp kd vl n fuel pr nx x y0 r (i + 1)
/-- two machines that differ in what is dead alone -/
def mSim (x y : mS) : Prop := x.2.1 = y.2.1 ∧ x.2.2.1 = y.2.2.1 ∧ x.2.2.2.2.1 = y.2.2.2.2.1 ∧ x.2.2.2.2.2.1 = y.2.2.2.2.2.1 ∧ x.2.2.2.2.2.2 = y.2.2.2.2.2.2 ∧ (∀ j, j < x.2.1 → x.1 j = y.1 j) ∧ (∀ j, j < x.2.2.2.2.1 → j < 60 → x.2.2.2.1 j = y.2.2.2.1 j)
theorem upd_c {f f' : Nat → Int32} {k : Nat} {x : Int32} {j : Nat} (h : j ≠ k → f j = f' j) : upd f k x j = upd f' k x j := by
  simp only [upd]
  split
  · rfl
  · next q => exact h q
theorem laS_sim {k v ht : Nat} {nu nu' : Nat → Int32} (hh : kT k ≤ ht) (h : ∀ j, j < ht → nu j = nu' j) : laS k v nu ht = laS k v nu' ht := by
  unfold laS
  split
  · rfl
  · have h1 : 1 ≤ ht := hh
    rw [h (ht - 1) (by omega)]
  · rfl
theorem plS_sim {k v ht pl : Nat} {nu nu' : Nat → Int32} (hh : kT k ≤ ht) (h : ∀ j, j < ht → nu j = nu' j) : plS k v nu ht pl = plS k v nu' ht pl := by
  unfold plS; rw [laS_sim hh h]
theorem nuS_sim {k v ht : Nat} {nu nu' ce : Nat → Int32} (hh : kT k ≤ ht) (h : ∀ j, j < ht → nu j = nu' j) : ∀ j, j < htS k ht → nuS k v nu ht ce j = nuS k v nu' ht ce j := by
  intro j hj
  unfold nuS
  split
  · exact upd_c (fun q => h j (by have : htS 0 ht = ht + 1 := rfl; omega))
  · have h1 : 1 ≤ ht := hh
    have h2 : htS 2 ht = ht - 1 + 2 := rfl
    rw [h (ht - 1) (by omega)]
    exact upd_c (fun q => h j (by omega))
  · have h1 : 2 ≤ ht := hh
    have h2 : htS 3 ht = ht - 2 + 2 := rfl
    rw [h (ht - 1) (by omega), h (ht - 2) (by omega)]
    exact upd_c (fun q => upd_c (fun q' => h j (by omega)))
  · have h1 : 2 ≤ ht := hh
    have h2 : htS 4 ht = ht - 2 + 3 := rfl
    rw [h (ht - 2) (by omega)]
    exact upd_c (fun q => h j (by omega))
  · have h1 : 2 ≤ ht := hh
    have h2 : htS 5 ht = ht - 2 + 1 := rfl
    rw [h (ht - 1) (by omega), h (ht - 2) (by omega)]
    exact upd_c (fun q => h j (by omega))
  · have h1 : 2 ≤ ht := hh
    have h2 : htS 6 ht = ht - 2 + 1 := rfl
    rw [h (ht - 1) (by omega), h (ht - 2) (by omega)]
    exact upd_c (fun q => h j (by omega))
  · have h1 : 2 ≤ ht := hh
    have h2 : htS 7 ht = ht - 2 + 1 := rfl
    rw [h (ht - 1) (by omega), h (ht - 2) (by omega)]
    exact upd_c (fun q => h j (by omega))
  · have h1 : 2 ≤ ht := hh
    have h2 : htS 8 ht = ht - 2 + 1 := rfl
    rw [h (ht - 1) (by omega), h (ht - 2) (by omega)]
    exact upd_c (fun q => h j (by omega))
  · exact upd_c (fun q => h j (by have : htS 9 ht = ht + 1 := rfl; omega))
  · next q0 q2 q3 q4 q5 q6 q7 q8 q9 =>
    refine h j ?_
    have h2 : htS k ht = ht - kT k + kP k := rfl
    have h3 : kP k ≤ kT k := by
      rcases Nat.lt_or_ge k 15 with hk | hk
      · rcases (show k = 0 ∨ k = 1 ∨ k = 2 ∨ k = 3 ∨ k = 4 ∨ k = 5 ∨ k = 6 ∨ k = 7 ∨ k = 8 ∨ k = 9 ∨ k = 10 ∨ k = 11 ∨ k = 12 ∨ k = 13 ∨ k = 14 by omega) with rfl | rfl | rfl | rfl | rfl | rfl | rfl | rfl | rfl | rfl | rfl | rfl | rfl | rfl | rfl
        all_goals first | exact absurd rfl (by assumption) | decide
      · obtain ⟨m, rfl⟩ : ∃ m, k = m + 15 := ⟨k - 15, by omega⟩
        exact Nat.le_refl 0
    omega
theorem outUp_c {ou ou' : Nat → Int32} {oc : Nat} {x : Int32} (h : ∀ j, j < oc → j < 60 → ou j = ou' j) : ∀ j, j < oc + 1 → j < 60 → outUp ou oc x j = outUp ou' oc x j := by
  intro j h1 h2
  unfold outUp
  split
  · exact upd_c (fun q => h j (by omega) h2)
  · exact h j (by omega) h2
theorem ceS_sim {k v ht : Nat} {nu nu' ce : Nat → Int32} (hh : kT k ≤ ht) (h : ∀ j, j < ht → nu j = nu' j) : ceS k v nu ht ce = ceS k v nu' ht ce := by
  unfold ceS
  split
  · have h1 : 1 ≤ ht := hh
    rw [h (ht - 1) (by omega)]
  · rfl
theorem ouS_sim {k ht oc : Nat} {nu nu' ou ou' : Nat → Int32} (hh : kT k ≤ ht) (h : ∀ j, j < ht → nu j = nu' j) (ho : ∀ j, j < oc → j < 60 → ou j = ou' j) : ∀ j, j < ocS k oc → j < 60 → ouS k nu ht ou oc j = ouS k nu' ht ou' oc j := by
  unfold ouS ocS
  split
  · have h1 : 1 ≤ ht := hh
    rw [h (ht - 1) (by omega)]
    exact outUp_c ho
  · exact ho
theorem mN_sim {kd vl : Nat → Nat} {x y : mS} (h : mSim x y) (hk : kT (kd x.2.2.2.2.2.1) ≤ x.2.1) : mSim (mN kd vl x) (mN kd vl y) ∧ lN_ kd vl x = lN_ kd vl y := by
  obtain ⟨nu, ht, ce, ou, oc, pl, hi⟩ := x
  obtain ⟨nu', ht', ce', ou', oc', pl', hi'⟩ := y
  obtain ⟨h1, h2, h3, h4, h5, h6, h7⟩ := h
  simp only at h1 h2 h3 h4 h5 h6 h7 hk
  subst h1 h2 h3 h4 h5
  refine ⟨⟨rfl, ?_, rfl, ?_, rfl, ?_, ?_⟩, ?_⟩
  · exact ceS_sim hk h6
  · exact plS_sim hk h6
  · exact nuS_sim hk h6
  · exact ouS_sim hk h6 h7
  · exact laS_sim hk h6
/-- the trails of two such machines are one -/
theorem stp_sim {kd vl : Nat → Nat} {n fuel : Nat} {x y : mS} : ∀ (r i : Nat), (∀ j, j ≤ i → mSim (mI kd vl x j) (mI kd vl y j)) → (∀ j, j < i → lT kd vl x j = lT kd vl y j) →
    stp kd vl n fuel x r i = stp kd vl n fuel y r i ∧ (∀ j, j ≤ (stp kd vl n fuel y r i).1 → mSim (mI kd vl x j) (mI kd vl y j)) ∧ (∀ j, j < (stp kd vl n fuel y r i).1 → lT kd vl x j = lT kd vl y j)
  | 0, i, h1, h2 => ⟨rfl, h1, h2⟩
  | r + 1, i, h1, h2 => by
    have hs := h1 i (Nat.le_refl i)
    rw [stp, stp, ← hs.1, ← hs.2.2.2.1]
    cases q : aheadS kd n (mI kd vl x i).2.2.2.2.2.1 i fuel (mI kd vl x i).2.1 with
    | some e => exact ⟨rfl, h1, h2⟩
    | none =>
      have ha := ahead_none q
      have hn := mN_sim (kd := kd) (vl := vl) hs ha.2.2.1
      have g1 : ∀ j, j ≤ i + 1 → mSim (mI kd vl x j) (mI kd vl y j) := by
        intro j hj
        rcases Nat.lt_or_ge j (i + 1) with h | h
        · exact h1 j (Nat.le_of_lt_succ h)
        · rw [Nat.le_antisymm hj h]
          exact hn.1
      have g2 : ∀ j, j < i + 1 → lT kd vl x j = lT kd vl y j := by
        intro j hj
        rcases Nat.lt_or_ge j i with h | h
        · exact h2 j h
        · rw [Nat.le_antisymm (Nat.le_of_lt_succ hj) h]
          exact hn.2
      simp only
      split
      · exact ⟨rfl, g1, g2⟩
      · exact stp_sim r (i + 1) g1 g2
theorem dnT_c {kd pl pl' : Nat → Nat} : ∀ {i : Nat}, (∀ j, j < i → pl j = pl' j) → dnT kd pl i = dnT kd pl' i
  | 0, _ => rfl
  | i + 1, h => by rw [dnT, dnT, dnT_c (fun j hj => h j (Nat.lt_succ_of_lt hj)), h i (Nat.lt_succ_self i)]
theorem foT_c {kd pl pl' : Nat → Nat} : ∀ {i : Nat}, (∀ j, j < i → pl j = pl' j) → foT kd pl i = foT kd pl' i
  | 0, _ => rfl
  | i + 1, h => by rw [foT, foT, h i (Nat.lt_succ_self i)]
theorem fwT_c {kd pl pl' : Nat → Nat} : ∀ {i : Nat}, (∀ j, j < i → pl j = pl' j) → fwT kd pl i = fwT kd pl' i
  | 0, _ => rfl
  | i + 1, h => by rw [fwT, fwT, fwT_c (fun j hj => h j (Nat.lt_succ_of_lt hj)), foT_c (fun j hj => h j (Nat.lt_succ_of_lt hj)), h i (Nat.lt_succ_self i)]
/-- hearts that differ in what is dead alone -/
theorem yT_c {Y : Type} {S : Y → Y → Prop} {kd pl pl' : Nat → Nat} {la la' : Nat → Option Nat} {nx : Y → Nat → Nat → Option Nat → Y} (hS : ∀ a b, S a b → ∀ p k l, S (nx a p k l) (nx b p k l)) {y y' : Y} (h0 : S y y') : ∀ {i : Nat}, (∀ j, j < i → pl j = pl' j) → (∀ j, j < i → la j = la' j) → S (yT kd pl la nx y i) (yT kd pl' la' nx y' i)
  | 0, _, _ => h0
  | i + 1, h, h' => by
    rw [yT, yT, h i (Nat.lt_succ_self i), h' i (Nat.lt_succ_self i)]
    exact hS _ _ (yT_c hS h0 (fun j hj => h j (Nat.lt_succ_of_lt hj)) (fun j hj => h' j (Nat.lt_succ_of_lt hj))) _ _ _
theorem spT_c {Y : Type} {S : Y → Y → Prop} {kd pl pl' : Nat → Nat} {la la' : Nat → Option Nat} {pr : Y → Nat → Nat → Nat} {nx : Y → Nat → Nat → Option Nat → Y} (hS : ∀ a b, S a b → ∀ p k l, S (nx a p k l) (nx b p k l)) (hP : ∀ a b, S a b → ∀ p k, pr a p k = pr b p k) {y y' : Y} (h0 : S y y') : ∀ {i : Nat}, (∀ j, j < i → pl j = pl' j) → (∀ j, j < i → la j = la' j) → spT kd pl la pr nx y i = spT kd pl' la' pr nx y' i
  | 0, _, _ => rfl
  | i + 1, h, h' => by
    rw [spT, spT, h i (Nat.lt_succ_self i), spT_c hS hP h0 (fun j hj => h j (Nat.lt_succ_of_lt hj)) (fun j hj => h' j (Nat.lt_succ_of_lt hj)), hP _ _ (yT_c hS h0 (fun j hj => h j (Nat.lt_succ_of_lt hj)) (fun j hj => h' j (Nat.lt_succ_of_lt hj)))]
