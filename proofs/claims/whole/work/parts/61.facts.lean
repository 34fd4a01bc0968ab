/-! ===== what a text without faults tells (hand-written) ===== -/
theorem rdEnd_e {tx : Nat → Nat} {n : Nat} {t : tT} {k v : Nat} {b : Bool} {m : Nat} {kd vl : Nat → Nat} {mk : Nat → Bool} {mc gc gs : Nat → Nat} {y : rS} (h : rdEnd tx n t k v b m kd vl mk mc gc gs = .inr y) : y = (tokS tx n t.2.2, m + 1, updN kd m k, updN vl m v, updB mk m b, mc, gc, gs) := by
  unfold rdEnd at h
  split at h
  · cases h; rfl
  · cases h
theorem rdO_g2 {tx : Nat → Nat} {n : Nat} {t : tT} {ws w : Nat} {b : Bool} {m : Nat} {kd vl : Nat → Nat} {mk : Nat → Bool} {mc gc gs : Nat → Nat} {y : rS} (ht : tkOk tx n t.1 t.2.1 t.2.2) (h : rdOrder tx n t ws w b m kd vl mk mc gc gs = .inr y) :
    y.2.2.2.2.1 = updB mk m b ∧ y.2.2.2.2.2.1 = mc ∧ y.2.1 = m + 1 ∧ ∃ (k : Nat) (g : Nat → Nat), y.2.2.1 = updN kd m k ∧ y.2.2.2.2.2.2.1 = g ∧ ((kO k = 3 ∧ ∃ w', w' ≠ 0 ∧ g = updN gc m w') ∨ (kO k ≠ 3 ∧ g = gc)) := by
  cases hk : kindL w with
  | none => rw [rdO_none hk] at h; cases h
  | some k =>
    rw [rdO_some hk] at h
    split at h
    · split at h
      · next h3 =>
        split at h
        · next h1 =>
          have e := rdEnd_e h
          subst e
          obtain ⟨a1, a2⟩ := ht.2.2.2.1 h1
          exact ⟨rfl, rfl, rfl, k, _, rfl, rfl, Or.inl ⟨h3, _, wrd_nz a1 a2, rfl⟩⟩
        · cases h
      · next h3 =>
        split at h
        · have e := rdEnd_e h
          subst e
          exact ⟨rfl, rfl, rfl, k, _, rfl, rfl, Or.inr ⟨h3, rfl⟩⟩
        · split at h
          · split at h
            · cases h
            · have e := rdEnd_e h
              subst e
              exact ⟨rfl, rfl, rfl, k, _, rfl, rfl, Or.inr ⟨h3, rfl⟩⟩
          · cases h
    · cases h
/-- marked places have their words, goals have theirs -/
def rdV (x : rS) : Prop := (∀ j, j < x.2.1 → x.2.2.2.2.2.1 j ≠ 0 → x.2.2.2.2.1 j = true) ∧ ∀ j, j < x.2.1 → kO (x.2.2.1 j) = 3 → x.2.2.2.2.2.2.1 j ≠ 0
theorem rdV_o {tx : Nat → Nat} {n : Nat} {t : tT} {ws w : Nat} {b : Bool} {m : Nat} {kd vl : Nat → Nat} {mk : Nat → Bool} {mc0 gc gs : Nat → Nat} {w0 : Nat} {y : rS} (ht : tkOk tx n t.1 t.2.1 t.2.2) (h : rdOrder tx n t ws w b m kd vl mk (updN mc0 m w0) gc gs = .inr y) (hb : w0 ≠ 0 → b = true) (h1 : ∀ j, j < m → mc0 j ≠ 0 → mk j = true) (h2 : ∀ j, j < m → kO (kd j) = 3 → gc j ≠ 0) : rdV y := by
  obtain ⟨e1, e2, e3, k, g, e4, e5, e6⟩ := rdO_g2 ht h
  constructor
  · intro j hj hz
    rw [e3] at hj
    rw [e2] at hz
    rw [e1]
    rcases Nat.lt_succ_iff_lt_or_eq.mp hj with q | q
    · rw [updN_n (Nat.ne_of_lt q)] at hz
      rw [updB_n (Nat.ne_of_lt q)]
      exact h1 j q hz
    · rw [q, updN_s] at hz
      rw [q, updB_s]
      exact hb hz
  · intro j hj ho
    rw [e3] at hj
    rw [e4] at ho
    rw [e5]
    rcases Nat.lt_succ_iff_lt_or_eq.mp hj with q | q
    · rw [updN_n (Nat.ne_of_lt q)] at ho
      rcases e6 with ⟨-, w', -, e6⟩ | ⟨-, e6⟩
      · rw [e6, updN_n (Nat.ne_of_lt q)]
        exact h2 j q ho
      · rw [e6]
        exact h2 j q ho
    · rw [q, updN_s] at ho
      rcases e6 with ⟨-, w', hw, e6⟩ | ⟨h3, -⟩
      · rw [e6, q, updN_s]
        exact hw
      · exact absurd ho h3
theorem rdV_i {tx : Nat → Nat} {n : Nat} {x y : rS} (ht : tkOk tx n x.1.1 x.1.2.1 x.1.2.2) (hv : rdV x) (h : rdItem tx n x = .inr y) : rdV y := by
  have t1 : tkOk tx n (tkK tx n x.1.2.2) (tkS tx n x.1.2.2) (tkE tx n x.1.2.2) := tok_ok ht.2.1
  have t2 := tok_ok (tx := tx) t1.2.1
  have t3 := tok_ok (tx := tx) t2.2.1
  unfold rdItem at h
  split at h
  · split at h
    · split at h
      · split at h
        · exact rdV_o (by exact t3) h (fun _ => rfl) hv.1 hv.2
        · cases h
      · cases h
    · exact rdV_o (by exact t1) h (fun z => absurd rfl z) hv.1 hv.2
  · cases h
theorem rdV_l {tx : Nat → Nat} {n : Nat} {y : rS} : ∀ (f : Nat) (x : rS), tkOk tx n x.1.1 x.1.2.1 x.1.2.2 → xOk x.2.1 x.2.2.1 x.2.2.2.1 → rdV x → rdLoop tx n f x = .inr y → xOk y.2.1 y.2.2.1 y.2.2.2.1 ∧ rdV y
  | 0, x, _, h2, h3, h => by
    rw [rdLoop] at h
    cases h
    exact ⟨h2, h3⟩
  | f + 1, x, h1, h2, h3, h => by
    rw [rdLoop] at h
    cases q : rdItem tx n x with
    | inl e => rw [q] at h; cases h
    | inr z =>
      rw [q] at h
      have g1 := (rdI_r h1 q).2.2.2
      have g2 := xOk_item h1 q h2
      have g3 := rdV_i h1 h3 q
      simp only at h
      split at h
      · cases h; exact ⟨g2, g3⟩
      · exact rdV_l f z g1 g2 g3 h
theorem rsv_ok {kd mc gc gs v : Nat → Nat} {m : Nat} : ∀ (c i : Nat) (vl : Nat → Nat), i + c = m → (∀ j, j < m → kO (kd j) = 2 → vl j < 8) → (∀ j, j < i → kO (kd j) = 3 → vl j < m ∧ mc (vl j) = gc j) → rsv kd mc gc gs m c i vl = .inr v →
    (∀ j, j < m → kO (kd j) = 2 → v j < 8) ∧ ∀ j, j < m → kO (kd j) = 3 → v j < m ∧ mc (v j) = gc j
  | 0, i, vl, hm, h1, h2, h => by
    rw [rsv] at h
    cases h
    exact ⟨h1, fun j hj => h2 j (by omega)⟩
  | c + 1, i, vl, hm, h1, h2, h => by
    by_cases ho : kO (kd i) = 3
    · cases q : kfind mc (gc i) m 0 with
      | none => rw [rsv_x ho q] at h; cases h
      | some t =>
        rw [rsv_g ho q] at h
        obtain ⟨-, k2, k3⟩ := kfind_some q
        refine rsv_ok c (i + 1) (updN vl i t) (by omega) (fun j hj hz => ?_) (fun j hj hz => ?_) h
        · rw [updN_n (fun z => by rw [z, ho] at hz; cases hz)]
          exact h1 j hj hz
        · rcases Nat.lt_succ_iff_lt_or_eq.mp hj with z | z
          · rw [updN_n (Nat.ne_of_lt z)]
            exact h2 j z hz
          · rw [z, updN_s]
            exact ⟨by omega, k3⟩
    · rw [rsv_o ho] at h
      exact rsv_ok c (i + 1) vl (by omega) h1 (fun j hj hz => by
        rcases Nat.lt_succ_iff_lt_or_eq.mp hj with z | z
        · exact h2 j z hz
        · rw [z] at hz; exact absurd hz ho) h
/-- what a text without faults tells is a program -/
theorem rdAll_ok {tx : Nat → Nat} {n : Nat} {kd vl : Nat → Nat} {mk : Nat → Bool} {y : Nat × (Nat → Nat) × (Nat → Nat) × (Nat → Bool)} (h : rdAll tx n kd vl mk = .inr y) : pOk y.1 y.2.1 y.2.2.1 ∧ gMk y.1 y.2.1 y.2.2.1 y.2.2.2 := by
  unfold rdAll at h
  cases h1 : rdLoop tx n 101 (tokS tx n 0, 0, kd, vl, mk, fun _ => 0, fun _ => 0, fun _ => 0) with
  | inl e => rw [h1] at h; cases h
  | inr x =>
    rw [h1] at h
    simp only at h
    obtain ⟨g1, g2⟩ := rdV_l 101 _ (tok_ok (Nat.zero_le n)) ⟨Nat.zero_le _, fun j h => absurd h (Nat.not_lt_zero j), fun j h => absurd h (Nat.not_lt_zero j), fun j h => absurd h (Nat.not_lt_zero j)⟩ ⟨fun j h => absurd h (Nat.not_lt_zero j), fun j h => absurd h (Nat.not_lt_zero j)⟩ h1
    cases h2 : rsv x.2.2.1 x.2.2.2.2.2.1 x.2.2.2.2.2.2.1 x.2.2.2.2.2.2.2 x.2.1 x.2.1 0 x.2.2.2.1 with
    | inl e => rw [h2] at h; cases h
    | inr v =>
      rw [h2] at h
      cases h
      obtain ⟨k1, k2⟩ := rsv_ok x.2.1 0 x.2.2.2.1 (Nat.zero_add _) g1.2.2.1 (fun j h => absurd h (Nat.not_lt_zero j)) h2
      refine ⟨⟨g1.1, g1.2.1, fun j hj hz => k1 j hj (kO_2 hz), fun j hj hz => (k2 j hj (kO_3 hz)).1⟩, fun j hj hz => ?_⟩
      obtain ⟨z1, z2⟩ := k2 j hj (kO_3 hz)
      exact g2.1 _ z1 (by rw [z2]; exact g2.2 j hj (kO_3 hz))
