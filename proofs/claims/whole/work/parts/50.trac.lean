/-! ===== the model: traces (written by wip/whole/gen/spec9.py) ===== -/
/-- the model's traces, held against the class's -/
def tM (y : tH) (N : Nat) (cn sz tr wt : Nat → Nat) (nv : Nat → Bool) (wm far : Nat) : Prop :=
  tInv y ∧ tOk y N ∧ (∀ p, p < 101 → sz p = y.2.1 p) ∧ (∀ w, y.2.2.2.2.1 = some w → wm = y.2.2.2.2.2.1 ∧ ∀ j, j < wm → wt j = y.1 (w * 40 + j)) ∧ (∀ x, y.2.2.2.2.2.2.1 = some x → far = y.2.2.2.2.2.2.2) ∧
    (∀ p, p < 101 → ∀ j, j < y.2.1 p → tr (40 * p + j) = y.1 (p * 40 + j)) ∧ (∀ p, p < 101 → (y.2.2.2.1 p = true ↔ (0 < y.2.1 p ∨ nv p = true ∨ y.2.2.2.2.1 = some p))) ∧ (∀ p, p < 101 → y.2.2.2.1 p = false → cn p = y.2.2.1 p) ∧ (∀ p, p < 101 → cn p ≤ N)
theorem tM_0 {cn sz tr wt : Nat → Nat} {nv : Nat → Bool} {wm far : Nat} (h1 : ∀ j, j < 101 → cn j = 0) (h2 : ∀ j, j < 101 → sz j = 0) (h3 : ∀ j, j < 101 → nv j = false) : tM (tZ (fun _ => 0)) 0 cn sz tr wt nv wm far :=
  ⟨(tZ_S (fun _ => 0) (fun _ => 0)).1, ⟨fun _ => Nat.zero_lt_succ _, fun _ => Nat.zero_le _, fun _ => Nat.zero_le _, fun _ z => (by cases z), Nat.zero_le _, fun _ z => (by cases z), Nat.le_of_ble_eq_true rfl⟩, h2, fun _ z => (by cases z), fun _ z => (by cases z), fun p _ j hj => absurd hj (Nat.not_lt_zero j),
    fun p hp => ⟨fun z => (by cases z), fun z => z.elim (fun z => absurd z (Nat.lt_irrefl 0)) (fun z => z.elim (fun z => by rw [h3 p hp] at z; cases z) (fun z => by cases z))⟩, fun p hp _ => h1 p hp, fun p hp => Nat.le_of_eq (h1 p hp)⟩
section TMW
variable {ro le rn : Nat → Nat} {be : Nat → Bool} {w wn ni N pl : Nat} {is : Option Nat} {cn sz tr wt : Nat → Nat} {nv : Nat → Bool} {wm far : Nat}
theorem tM_close {sz' tr' : Nat → Nat} (h : tM (ro, le, rn, be, some w, wn, is, ni) N cn sz tr wt nv wm far) (hp : pl < 100) (h0 : 0 < wm) (he : pl = w) (hs : sz' = updN sz pl wm) (ht : ∀ j, j < wm → tr' (40 * pl + j) = wt j) (ht2 : ∀ q, q < 40 * pl ∨ 40 * pl + 40 ≤ q → tr' q = tr q) :
    tM (tW (ro, le, rn, be, some w, wn, is, ni) pl) N cn sz' tr' wt nv wm far ∧ (tW (ro, le, rn, be, some w, wn, is, ni) pl).2.2.2.2.1 = none ∧ (tW (ro, le, rn, be, some w, wn, is, ni) pl).2.2.2.2.2.2.1 = is := by
  have hi := tW_inv (pl := pl) h.1
  have ho := tW_ok h.2.1 hp
  obtain ⟨g1, g2, g3, g4, g5, g6, g7, g8, g9⟩ := h
  obtain ⟨e1, e2⟩ := g4 w rfl
  have e1 : wm = wn := e1
  have hw : wn ≤ 40 := g2.2.2.2.2.1
  have hbw : be w = true ∧ le w = 0 := g1.2.1 w rfl
  have e3 : tW (ro, le, rn, be, some w, wn, is, ni) pl = (ro, updN le w wn, rn, be, none, wn, is, ni) := by
    show (if 0 < wn ∧ pl = w then _ else _) = _
    rw [if_pos ⟨by omega, he⟩]
  rw [e3] at hi ho ⊢
  subst he
  subst hs
  refine ⟨⟨hi, ho, fun p hp => ?_, fun _ z => (by cases z), g5, fun p hp' j hj => ?_, fun p hp' => ?_, g8, g9⟩, rfl, rfl⟩
  · show updN sz pl wm p = updN le pl wn p
    rw [upd_1, upd_1, e1]
    split
    · rfl
    · exact g3 p hp
  · have hj' : j < updN le pl wn p := hj
    by_cases q : p = pl
    · rw [q, updN_s] at hj'
      rw [q, ht j (by omega)]
      exact e2 j (by omega)
    · rw [updN_n q] at hj'
      have h40 : le p ≤ 40 := g2.2.1 p
      rw [ht2 _ (by omega)]
      exact g6 p hp' j hj'
  · show be p = true ↔ (0 < updN le pl wn p ∨ nv p = true ∨ (none : Option Nat) = some p)
    by_cases q : p = pl
    · rw [q, updN_s]
      exact ⟨fun _ => Or.inl (by omega), fun _ => hbw.1⟩
    · rw [updN_n q]
      refine (g7 p hp').trans ⟨fun z => z.elim Or.inl (fun z => Or.inr (z.elim Or.inl (fun z => absurd (Option.some.inj z).symm q))), fun z => z.elim Or.inl (fun z => Or.inr (z.elim Or.inl (fun z => by cases z)))⟩
theorem tM_never {nv' : Nat → Bool} (h : tM (ro, le, rn, be, some w, wn, is, ni) N cn sz tr wt nv wm far) (hp : pl < 100) (h0 : ¬ (0 < wm ∧ pl = w)) (h40 : wm = 40) (hn : nv' = updB nv w true) :
    tM (tW (ro, le, rn, be, some w, wn, is, ni) pl) N cn sz tr wt nv' wm far ∧ (tW (ro, le, rn, be, some w, wn, is, ni) pl).2.2.2.2.1 = none ∧ (tW (ro, le, rn, be, some w, wn, is, ni) pl).2.2.2.2.2.2.1 = is := by
  have hi := tW_inv (pl := pl) h.1
  have ho := tW_ok h.2.1 hp
  obtain ⟨g1, g2, g3, g4, g5, g6, g7, g8, g9⟩ := h
  obtain ⟨e1, e2⟩ := g4 w rfl
  have e1 : wm = wn := e1
  have hbw : be w = true ∧ le w = 0 := g1.2.1 w rfl
  have e3 : tW (ro, le, rn, be, some w, wn, is, ni) pl = (ro, le, rn, be, none, wn, is, ni) := by
    show (if 0 < wn ∧ pl = w then _ else _) = _
    rw [if_neg (by rw [← e1]; exact h0), if_pos (by omega)]
  rw [e3] at hi ho ⊢
  subst hn
  refine ⟨⟨hi, ho, g3, fun _ z => (by cases z), g5, g6, fun p hp' => ?_, g8, g9⟩, rfl, rfl⟩
  show be p = true ↔ (0 < le p ∨ updB nv w true p = true ∨ (none : Option Nat) = some p)
  by_cases q : p = w
  · rw [q, updB_s]
    exact ⟨fun _ => Or.inr (Or.inl rfl), fun _ => hbw.1⟩
  · rw [updB_n q]
    exact (g7 p hp').trans ⟨fun z => z.elim Or.inl (fun z => Or.inr (z.elim Or.inl (fun z => absurd (Option.some.inj z).symm q))), fun z => z.elim Or.inl (fun z => Or.inr (z.elim Or.inl (fun z => by cases z)))⟩
theorem tM_write {wt' : Nat → Nat} (h : tM (ro, le, rn, be, some w, wn, is, ni) N cn sz tr wt nv wm far) (hp : pl < 100) (h0 : ¬ (0 < wm ∧ pl = w)) (h40 : wm ≠ 40) (hn : wt' = updN wt wm pl) :
    wm < 40 ∧ tM (tW (ro, le, rn, be, some w, wn, is, ni) pl) N cn sz tr wt' nv (wm + 1) far ∧ (tW (ro, le, rn, be, some w, wn, is, ni) pl).2.2.2.2.1 = some w ∧ (tW (ro, le, rn, be, some w, wn, is, ni) pl).2.2.2.2.2.2.1 = is := by
  have hi := tW_inv (pl := pl) h.1
  have ho := tW_ok h.2.1 hp
  obtain ⟨g1, g2, g3, g4, g5, g6, g7, g8, g9⟩ := h
  obtain ⟨e1, e2⟩ := g4 w rfl
  have e1 : wm = wn := e1
  have hw : wn ≤ 40 := g2.2.2.2.2.1
  have hbw : be w = true ∧ le w = 0 := g1.2.1 w rfl
  have e3 : tW (ro, le, rn, be, some w, wn, is, ni) pl = (updN ro (w * 40 + wn) pl, le, rn, be, some w, wn + 1, is, ni) := by
    show (if 0 < wn ∧ pl = w then _ else _) = _
    rw [if_neg (by rw [← e1]; exact h0), if_neg (by omega)]
  rw [e3] at hi ho ⊢
  subst hn
  refine ⟨by omega, ⟨hi, ho, g3, fun w' hw' => ⟨by show wm + 1 = wn + 1; omega, fun j hj => ?_⟩, g5, fun p hp' j hj => ?_, g7, g8, g9⟩, rfl, rfl⟩
  · cases hw'
    show updN wt wm pl j = updN ro (w * 40 + wn) pl (w * 40 + j)
    rcases Nat.lt_succ_iff_lt_or_eq.mp hj with q | q
    · rw [updN_n (Nat.ne_of_lt q), updN_n (by omega)]
      exact e2 j q
    · rw [q, e1, updN_s, updN_s]
  · have hj' : j < le p := hj
    show tr (40 * p + j) = updN ro (w * 40 + wn) pl (p * 40 + j)
    have h40' : le p ≤ 40 := g2.2.1 p
    have hpw : p ≠ w := fun z => by rw [z, hbw.2] at hj'; omega
    rw [updN_n (by omega)]
    exact g6 p hp' j hj'
end TMW
theorem tM_none {ro le rn : Nat → Nat} {be : Nat → Bool} {wn ni N pl : Nat} {is : Option Nat} {cn sz tr wt : Nat → Nat} {nv : Nat → Bool} {wm far : Nat} (h : tM (ro, le, rn, be, none, wn, is, ni) N cn sz tr wt nv wm far) : tM (tW (ro, le, rn, be, none, wn, is, ni) pl) N cn sz tr wt nv wm far := h
theorem mod_go {a b : Nat} (h : a < b) : (a + 1) % b = if a + 1 < b then a + 1 else 0 := by
  split
  · next q => exact Nat.mod_eq_of_lt q
  · next q => rw [show a + 1 = b by omega, Nat.mod_self]
section TMG
variable {ro le rn : Nat → Nat} {be : Nat → Bool} {wn ni N pl pw : Nat} {wr : Option Nat} {cn sz tr wt : Nat → Nat} {nv : Nat → Bool} {wm far x : Nat}
/-- a step inside -/
theorem tM_in (h : tM (ro, le, rn, be, wr, wn, some x, ni) N cn sz tr wt nv wm far) (hp : pl < 100) (he : tr (40 * x + far) = pl) :
    (tG (ro, le, rn, be, wr, wn, some x, ni) pl pw).1 = pw ∧ tM (tG (ro, le, rn, be, wr, wn, some x, ni) pl pw).2 N cn sz tr wt nv wm ((far + 1) % sz x) ∧ (tG (ro, le, rn, be, wr, wn, some x, ni) pl pw).2.2.2.2.2.1 = wr ∧ (tG (ro, le, rn, be, wr, wn, some x, ni) pl pw).2.2.2.2.2.2.2.1 = some x := by
  have hi := tG_inv (pl := pl) (pw := pw) h.1
  have ho := tG_ok (pw := pw) h.2.1 hp
  obtain ⟨g1, g2, g3, g4, g5, g6, g7, g8, g9⟩ := h
  have e1 : far = ni := g5 x rfl
  have hx : ni < le x := g1.2.2 x rfl
  have hx1 : x < 100 := g2.2.2.2.2.2.1 x rfl
  have g6' : tr (40 * x + ni) = ro (x * 40 + ni) := g6 x (by omega) ni hx
  have e2 : tIn ro (some x) ni pl = true := decide_eq_true (by rw [← g6', ← e1]; exact he)
  have e3 : tG (ro, le, rn, be, wr, wn, some x, ni) pl pw = (pw, (ro, le, rn, be, wr, wn, some x, tGo le x ni)) := by
    show (if tIn ro (some x) ni pl = true then _ else _ : Nat × tH) = _
    rw [if_pos e2]
    rfl
  rw [e3] at hi ho ⊢
  refine ⟨rfl, ⟨hi, ho, g3, g4, fun x' hx' => ?_, g6, g7, g8, g9⟩, rfl, rfl⟩
  cases hx'
  show (far + 1) % sz x = tGo le x ni
  rw [g3 x (by omega), e1]
  exact mod_go hx
theorem tM_out {is : Option Nat} (h : tM (ro, le, rn, be, wr, wn, is, ni) N cn sz tr wt nv wm far) (hp : pl < 100) (he : ∀ x, is = some x → tr (40 * x + far) ≠ pl) (h0 : sz pl = 0) :
    (tG (ro, le, rn, be, wr, wn, is, ni) pl pw).1 = (if is = none then 0 else 10) + 4 ∧ (∀ far', tM (tG (ro, le, rn, be, wr, wn, is, ni) pl pw).2 N cn sz tr wt nv wm far') ∧ (tG (ro, le, rn, be, wr, wn, is, ni) pl pw).2.2.2.2.2.1 = wr ∧ (tG (ro, le, rn, be, wr, wn, is, ni) pl pw).2.2.2.2.2.2.2.1 = none := by
  have hi := tG_inv (pl := pl) (pw := pw) h.1
  have ho := tG_ok (pw := pw) h.2.1 hp
  obtain ⟨g1, g2, g3, g4, g5, g6, g7, g8, g9⟩ := h
  have e2 : ¬ tIn ro is ni pl = true := by
    cases is with
    | none => exact Bool.false_ne_true
    | some x =>
      have e1 : far = ni := g5 x rfl
      have hx : ni < le x := g1.2.2 x rfl
      have hx1 : x < 100 := g2.2.2.2.2.2.1 x rfl
      have g6' : tr (40 * x + ni) = ro (x * 40 + ni) := g6 x (by omega) ni hx
      exact fun z => he x rfl (by rw [e1, g6']; exact of_decide_eq_true z)
  have g3' : sz pl = le pl := g3 pl (by omega)
  have e0 : le pl = 0 := by omega
  have e3 : tG (ro, le, rn, be, wr, wn, is, ni) pl pw = ((if is = none then 0 else 10) + 4, (ro, le, rn, be, wr, wn, none, ni)) := by
    show (if tIn ro is ni pl = true then _ else if le pl = 0 then _ else _ : Nat × tH) = _
    rw [if_neg e2, if_pos e0]
  rw [e3] at hi ho ⊢
  exact ⟨rfl, fun far' => ⟨hi, ho, g3, g4, fun _ z => (by cases z), g6, g7, g8, g9⟩, rfl, rfl⟩
theorem tM_enter {is : Option Nat} (h : tM (ro, le, rn, be, wr, wn, is, ni) N cn sz tr wt nv wm far) (hp : pl < 100) (he : ∀ x, is = some x → tr (40 * x + far) ≠ pl) (h0 : 0 < sz pl) :
    (tG (ro, le, rn, be, wr, wn, is, ni) pl pw).1 = (if is = none then 0 else 10) + pw ∧ tM (tG (ro, le, rn, be, wr, wn, is, ni) pl pw).2 N cn sz tr wt nv wm ((0 + 1) % sz pl) ∧ (tG (ro, le, rn, be, wr, wn, is, ni) pl pw).2.2.2.2.2.1 = wr ∧ (tG (ro, le, rn, be, wr, wn, is, ni) pl pw).2.2.2.2.2.2.2.1 = some pl := by
  have hi := tG_inv (pl := pl) (pw := pw) h.1
  have ho := tG_ok (pw := pw) h.2.1 hp
  obtain ⟨g1, g2, g3, g4, g5, g6, g7, g8, g9⟩ := h
  have e2 : ¬ tIn ro is ni pl = true := by
    cases is with
    | none => exact Bool.false_ne_true
    | some x =>
      have e1 : far = ni := g5 x rfl
      have hx : ni < le x := g1.2.2 x rfl
      have hx1 : x < 100 := g2.2.2.2.2.2.1 x rfl
      have g6' : tr (40 * x + ni) = ro (x * 40 + ni) := g6 x (by omega) ni hx
      exact fun z => he x rfl (by rw [e1, g6']; exact of_decide_eq_true z)
  have g3' : sz pl = le pl := g3 pl (by omega)
  have e0 : ¬ le pl = 0 := by omega
  have e3 : tG (ro, le, rn, be, wr, wn, is, ni) pl pw = ((if is = none then 0 else 10) + pw, (ro, le, rn, be, wr, wn, some pl, tGo le pl 0)) := by
    show (if tIn ro is ni pl = true then _ else if le pl = 0 then _ else _ : Nat × tH) = _
    rw [if_neg e2, if_neg e0]
  rw [e3] at hi ho ⊢
  refine ⟨rfl, ⟨hi, ho, g3, g4, fun x' hx' => ?_, g6, g7, g8, g9⟩, rfl, rfl⟩
  cases hx'
  show (0 + 1) % sz pl = tGo le pl 0
  rw [g3']
  exact mod_go (by omega)
end TMG
section TMC
variable {y : tH} {N t : Nat} {cn sz tr wt : Nat → Nat} {nv : Nat → Bool} {wm far : Nat}
theorem tM_mono (h : tM y N cn sz tr wt nv wm far) : tM y (N + 1) cn sz tr wt nv wm far := ⟨h.1, h.2.1.mono (Nat.le_succ N), h.2.2.1, h.2.2.2.1, h.2.2.2.2.1, h.2.2.2.2.2.1, h.2.2.2.2.2.2.1, h.2.2.2.2.2.2.2.1, fun p hp => Nat.le_succ_of_le (h.2.2.2.2.2.2.2.2 p hp)⟩
theorem tC_wr {ro le rn : Nat → Nat} {be : Nat → Bool} {wr is : Option Nat} {wn ni p : Nat} (h : ¬ (8 ≤ rn p + 1 ∧ wr = none ∧ be p = false)) : tC (ro, le, rn, be, wr, wn, is, ni) p = (ro, le, updN rn p (rn p + 1), be, wr, wn, is, ni) := if_neg h
/-- a round that isn't counted -/
theorem tM_c0 (h : tM y N cn sz tr wt nv wm far) (ht : t < 100) (hs : 0 < sz t ∨ nv t = true) : tM (tC y t) (N + 1) cn sz tr wt nv wm far ∧ (tC y t).2.2.2.2.1 = y.2.2.2.2.1 ∧ (tC y t).2.2.2.2.2.2.1 = y.2.2.2.2.2.2.1 := by
  have hi := tC_inv (p := t) h.1
  have ho := tC_ok h.2.1 ht
  obtain ⟨ro, le, rn, be, wr, wn, is, ni⟩ := y
  obtain ⟨g1, g2, g3, g4, g5, g6, g7, g8, g9⟩ := h
  have hb : be t = true := (g7 t (by omega)).mpr (hs.elim (fun z => Or.inl (by rw [← g3 t (by omega)]; exact z)) (fun z => Or.inr (Or.inl z)))
  have e : tC (ro, le, rn, be, wr, wn, is, ni) t = (ro, le, updN rn t (rn t + 1), be, wr, wn, is, ni) := tC_wr (fun z => by rw [hb] at z; cases z.2.2)
  rw [e] at hi ho ⊢
  refine ⟨⟨hi, ho, g3, g4, g5, g6, g7, fun p hp hf => ?_, fun p hp => Nat.le_succ_of_le (g9 p hp)⟩, rfl, rfl⟩
  have hf' : be p = false := hf
  show cn p = updN rn t (rn t + 1) p
  rw [updN_n (fun z => by rw [z, hb] at hf'; cases hf')]
  exact g8 p hp hf'
/-- a round counted, no more -/
theorem tM_c1 {cn' : Nat → Nat} (h : tM y N cn sz tr wt nv wm far) (ht : t < 100) (hn : ¬ (8 ≤ cn t + 1 ∧ y.2.2.2.2.1 = none)) (hc : cn' = updN cn t (cn t + 1)) : tM (tC y t) (N + 1) cn' sz tr wt nv wm far ∧ (tC y t).2.2.2.2.1 = y.2.2.2.2.1 ∧ (tC y t).2.2.2.2.2.2.1 = y.2.2.2.2.2.2.1 := by
  have hi := tC_inv (p := t) h.1
  have ho := tC_ok h.2.1 ht
  obtain ⟨ro, le, rn, be, wr, wn, is, ni⟩ := y
  obtain ⟨g1, g2, g3, g4, g5, g6, g7, g8, g9⟩ := h
  have e : tC (ro, le, rn, be, wr, wn, is, ni) t = (ro, le, updN rn t (rn t + 1), be, wr, wn, is, ni) := tC_wr (fun z => hn ⟨by have h8 : cn t = rn t := g8 t (by omega) z.2.2; have := z.1; omega, z.2.1⟩)
  rw [e] at hi ho ⊢
  subst hc
  refine ⟨⟨hi, ho, g3, g4, g5, g6, g7, fun p hp hf => ?_, fun p hp => ?_⟩, rfl, rfl⟩
  · show updN cn t (cn t + 1) p = updN rn t (rn t + 1) p
    have h8 := g8 p hp hf
    rw [upd_1, upd_1]
    split
    · next q => rw [q] at h8; rw [show cn t = rn t from h8]
    · exact h8
  · rw [upd_1]
    split
    · have := g9 t (by omega); omega
    · exact Nat.le_succ_of_le (g9 p hp)
/-- a trace begun -/
theorem tM_c2 {cn' : Nat → Nat} (h : tM y N cn sz tr wt nv wm far) (ht : t < 100) (h8 : 8 ≤ cn t + 1) (hw : y.2.2.2.2.1 = none) (hs : sz t = 0) (hn : nv t = false) (hc : cn' = updN cn t (cn t + 1)) : tM (tC y t) (N + 1) cn' sz tr wt nv 0 far ∧ (tC y t).2.2.2.2.1 = some t ∧ (tC y t).2.2.2.2.2.2.1 = y.2.2.2.2.2.2.1 := by
  have hi := tC_inv (p := t) h.1
  have ho := tC_ok h.2.1 ht
  obtain ⟨ro, le, rn, be, wr, wn, is, ni⟩ := y
  obtain ⟨g1, g2, g3, g4, g5, g6, g7, g8, g9⟩ := h
  have hw' : wr = none := hw
  subst hw'
  have hb : be t = false := by
    cases q : be t with
    | false => rfl
    | true =>
      rcases (g7 t (by omega)).mp q with z | z | z
      · have z' : 0 < le t := z
        rw [← show sz t = le t from g3 t (by omega), hs] at z'
        exact absurd z' (Nat.lt_irrefl 0)
      · rw [hn] at z; cases z
      · cases z
  have h9 : cn t = rn t := g8 t (by omega) hb
  have e : tC (ro, le, rn, be, none, wn, is, ni) t = (ro, le, updN rn t (rn t + 1), updB be t true, some t, 0, is, ni) := if_pos ⟨by omega, rfl, hb⟩
  rw [e] at hi ho ⊢
  subst hc
  refine ⟨⟨hi, ho, g3, fun w hw => ⟨rfl, fun j hj => absurd hj (Nat.not_lt_zero j)⟩, g5, g6, fun p hp => ?_, fun p hp hf => ?_, fun p hp => ?_⟩, rfl, rfl⟩
  · show updB be t true p = true ↔ (0 < le p ∨ nv p = true ∨ some t = some p)
    by_cases q : p = t
    · rw [q, updB_s]
      exact ⟨fun _ => Or.inr (Or.inr rfl), fun _ => rfl⟩
    · rw [updB_n q]
      exact (g7 p hp).trans ⟨fun z => z.elim Or.inl (fun z => Or.inr (z.elim Or.inl (fun z => by cases z))), fun z => z.elim Or.inl (fun z => Or.inr (z.elim Or.inl (fun z => absurd (Option.some.inj z).symm q)))⟩
  · have hf' : updB be t true p = false := hf
    have q : p ≠ t := fun z => by rw [z, updB_s] at hf'; cases hf'
    rw [updB_n q] at hf'
    show updN cn t (cn t + 1) p = updN rn t (rn t + 1) p
    rw [updN_n q, updN_n q]
    exact g8 p hp hf'
  · rw [upd_1]
    split
    · have := g9 t (by omega); omega
    · exact Nat.le_succ_of_le (g9 p hp)
end TMC

