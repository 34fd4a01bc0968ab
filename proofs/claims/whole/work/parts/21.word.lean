/-! ===== words and numbers (written by wip/whole/gen/spec6.py) ===== -/
def encF (d : Nat → Nat) : Nat → Nat
  | 0 => 0
  | m + 1 => 32 * encF d m + d m
theorem encF_congr {d1 d2 : Nat → Nat} : ∀ m, (∀ j, j < m → d1 j = d2 j) → encF d1 m = encF d2 m
  | 0, _ => rfl
  | m + 1, h => by rw [encF, encF, encF_congr m (fun j hj => h j (by omega)), h m (by omega)]
theorem encF_inj : ∀ (m1 m2 : Nat) (d1 d2 : Nat → Nat), (∀ j, j < m1 → 1 ≤ d1 j ∧ d1 j ≤ 26) → (∀ j, j < m2 → 1 ≤ d2 j ∧ d2 j ≤ 26) → encF d1 m1 = encF d2 m2 → m1 = m2 ∧ ∀ j, j < m1 → d1 j = d2 j := by
  intro m1
  induction m1 with
  | zero =>
    intro m2 d1 d2 _ h2 he
    cases m2 with
    | zero => exact ⟨rfl, fun j hj => absurd hj (Nat.not_lt_zero j)⟩
    | succ k =>
      have := (h2 k (by omega)).1
      rw [encF, encF] at he
      omega
  | succ k1 ih =>
    intro m2 d1 d2 h1 h2 he
    have a1 := h1 k1 (by omega)
    cases m2 with
    | zero => rw [encF, encF] at he; omega
    | succ k2 =>
      have a2 := h2 k2 (by omega)
      rw [encF, encF] at he
      obtain ⟨e1, e2⟩ := ih k2 d1 d2 (fun j hj => h1 j (by omega)) (fun j hj => h2 j (by omega)) (by omega)
      subst e1
      refine ⟨rfl, fun j hj => ?_⟩
      rcases Nat.lt_succ_iff_lt_or_eq.mp hj with q | q
      · exact e2 j q
      · rw [q]; omega
def wrd (tx : Nat → Nat) (s e : Nat) : Nat := encF (fun j => tx (s + j) - 96) (e - s)
def dec (tx : Nat → Nat) (s : Nat) : Nat → Nat
  | 0 => 0
  | m + 1 => dec tx s m * 10 + tx (s + m) - 48
def wOk (tx : Nat → Nat) (n s e : Nat) : Prop := s ≤ e ∧ e ≤ n ∧ e - s ≤ 8 ∧ ∀ j, s ≤ j → j < e → isL (tx j) = true
def dOk (tx : Nat → Nat) (n s e : Nat) : Prop := s ≤ e ∧ e ≤ n ∧ e - s ≤ 3 ∧ ∀ j, s ≤ j → j < e → isD (tx j) = true
theorem wOk_0 (tx : Nat → Nat) (n : Nat) : wOk tx n 0 0 := ⟨Nat.le_refl _, Nat.zero_le _, Nat.zero_le _, fun j _ h => absurd h (Nat.not_lt_zero j)⟩
theorem wOk_d {tx : Nat → Nat} {n s e : Nat} (h : wOk tx n s e) : ∀ j, j < e - s → 1 ≤ tx (s + j) - 96 ∧ tx (s + j) - 96 ≤ 26 := fun j hj => by
  have := isL_b (h.2.2.2 (s + j) (by omega) (by omega))
  omega
theorem wrd_eq {tx : Nat → Nat} {n s e s' e' : Nat} (h : wOk tx n s e) (h' : wOk tx n s' e') : wrd tx s e = wrd tx s' e' ↔ e - s = e' - s' ∧ ∀ j, j < e - s → tx (s + j) = tx (s' + j) := by
  constructor
  · intro z
    obtain ⟨z1, z2⟩ := encF_inj _ _ _ _ (wOk_d h) (wOk_d h') z
    refine ⟨z1, fun j hj => ?_⟩
    have a1 := isL_b (h.2.2.2 (s + j) (by omega) (by omega))
    have a2 := isL_b (h'.2.2.2 (s' + j) (by omega) (by omega))
    have a3 := z2 j hj
    omega
  · intro z
    unfold wrd
    rw [← z.1]
    exact encF_congr _ (fun j hj => by rw [z.2 j hj])
def encN (i : Nat) : Nat := encF (fun j => kC i j - 96) (kL i)
theorem encN_eq {tx : Nat → Nat} {n s e i : Nat} (hi : i < 15) (h : wOk tx n s e) : encN i = wrd tx s e ↔ kL i = e - s ∧ ∀ j, j < e - s → tx (s + j) = kC i j := by
  constructor
  · intro z
    obtain ⟨z1, z2⟩ := encF_inj _ _ _ _ (fun j hj => by have := kC_lt i hi j hj; omega) (wOk_d h) z
    refine ⟨z1, fun j hj => ?_⟩
    have a1 := isL_b (h.2.2.2 (s + j) (by omega) (by omega))
    have a2 := kC_lt i hi j (by omega)
    have a3 := z2 j (by omega)
    omega
  · intro z
    unfold encN wrd
    rw [z.1]
    exact encF_congr _ (fun j hj => by rw [z.2 j hj])
def kfind (f : Nat → Nat) (w : Nat) : Nat → Nat → Option Nat
  | 0, _ => none
  | c + 1, i => if f i = w then some i else kfind f w c (i + 1)
theorem kfind_some {f : Nat → Nat} {w j : Nat} : ∀ {c i : Nat}, kfind f w c i = some j → i ≤ j ∧ j < i + c ∧ f j = w
  | 0, _, h => by cases h
  | c + 1, i, h => by
    rw [kfind] at h
    split at h
    · next q => cases h; exact ⟨Nat.le_refl _, by omega, q⟩
    · have := kfind_some h; omega
theorem kfind_congr {f g' : Nat → Nat} {w : Nat} : ∀ {c i : Nat}, (∀ j, i ≤ j → j < i + c → f j = g' j) → kfind f w c i = kfind g' w c i
  | 0, _, _ => rfl
  | c + 1, i, h => by
    rw [kfind, kfind, h i (Nat.le_refl _) (by omega), kfind_congr (fun j h1 h2 => h j (by omega) (by omega))]
def kindL (w : Nat) : Option Nat := kfind encN w 15 0
theorem kindL_lt {w k : Nat} (h : kindL w = some k) : k < 15 := by have := kfind_some h; omega
theorem dec_lt {tx : Nat → Nat} {n s e : Nat} (h : dOk tx n s e) : ∀ m, m ≤ e - s → dec tx s m < 10 ^ m
  | 0, _ => Nat.one_pos
  | m + 1, hm => by
    have h1 := dec_lt h m (by omega)
    have h2 := isD_b (h.2.2.2 (s + m) (by omega) (by omega))
    rw [dec, Nat.pow_succ]
    omega
theorem dec_3 {tx : Nat → Nat} {n s e : Nat} (h : dOk tx n s e) : dec tx s (e - s) < 1000 :=
  Nat.lt_of_lt_of_le (dec_lt h _ (Nat.le_refl _)) (Nat.pow_le_pow_right (by decide) h.2.2.1)
theorem kO_le : ∀ i, kO i ≤ 3 := by
  intro i
  rcases Nat.lt_or_ge i 15 with h | h
  · revert i; decide
  · unfold kO; rw [List.getD_eq_getElem?_getD, List.getElem?_eq_none (by simpa using h)]; decide
/-- a token as it stands in the text -/
def tkOk (tx : Nat → Nat) (n tk ts te : Nat) : Prop := ts ≤ te ∧ te ≤ n ∧ tk ≤ 5 ∧ (tk = 1 → wOk tx n ts te ∧ ts < te) ∧ (tk = 2 → dOk tx n ts te)
theorem tok_ok {tx : Nat → Nat} {n k : Nat} (h : k ≤ n) : tkOk tx n (tkK tx n k) (tkS tx n k) (tkE tx n k) := by
  have hs : tkS tx n k ≤ n := scan_le _ h
  rcases Nat.lt_or_ge (tkS tx n k) n with q | q
  · rcases Bool.eq_false_or_eq_true (isL (tx (tkS tx n k))) with hl | hl
    · have eE : tkE tx n k = scan (fun j => isL (tx j)) n (tkS tx n k + 1) := (if_pos q).trans (if_pos hl)
      have e1 : tkS tx n k + 1 ≤ tkE tx n k := by rw [eE]; exact scan_ge _ _ _
      have e2 : tkE tx n k ≤ n := by rw [eE]; exact scan_le _ q
      have eK : tkK tx n k = if tkE tx n k - tkS tx n k ≤ 8 then 1 else 0 := (if_pos q).trans (if_pos hl)
      refine ⟨by omega, e2, by rw [eK]; split <;> decide, fun z => ⟨⟨by omega, e2, ?_, fun j h1 h2 => ?_⟩, by omega⟩, fun z => ?_⟩
      · rw [eK] at z; split at z
        · assumption
        · cases z
      · rcases Nat.eq_or_lt_of_le h1 with z1 | z1
        · rw [← z1]; exact hl
        · rw [eE] at h2; exact scan_in (p := fun j => isL (tx j)) z1 h2
      · rw [eK] at z; split at z <;> cases z
    · have n1 : ¬ isL (tx (tkS tx n k)) = true := by rw [hl]; exact Bool.false_ne_true
      rcases Bool.eq_false_or_eq_true (isD (tx (tkS tx n k))) with hd | hd
      · have eE : tkE tx n k = scan (fun j => isD (tx j)) n (tkS tx n k + 1) := (if_pos q).trans ((if_neg n1).trans (if_pos hd))
        have e1 : tkS tx n k + 1 ≤ tkE tx n k := by rw [eE]; exact scan_ge _ _ _
        have e2 : tkE tx n k ≤ n := by rw [eE]; exact scan_le _ q
        have eK : tkK tx n k = if tkE tx n k - tkS tx n k ≤ 3 then 2 else 0 := (if_pos q).trans ((if_neg n1).trans (if_pos hd))
        refine ⟨by omega, e2, by rw [eK]; split <;> decide, fun z => ?_, fun z => ⟨by omega, e2, ?_, fun j h1 h2 => ?_⟩⟩
        · rw [eK] at z; split at z <;> cases z
        · rw [eK] at z; split at z
          · assumption
          · cases z
        · rcases Nat.eq_or_lt_of_le h1 with z1 | z1
          · rw [← z1]; exact hd
          · rw [eE] at h2; exact scan_in (p := fun j => isD (tx j)) z1 h2
      · have n2 : ¬ isD (tx (tkS tx n k)) = true := by rw [hd]; exact Bool.false_ne_true
        have eE : tkE tx n k = tkS tx n k + 1 := (if_pos q).trans ((if_neg n1).trans (if_neg n2))
        have eK : tkK tx n k = if tx (tkS tx n k) = 58 then 3 else if tx (tkS tx n k) = 59 then 4 else 0 := (if_pos q).trans ((if_neg n1).trans (if_neg n2))
        refine ⟨by omega, by omega, ?_, fun z => ?_, fun z => ?_⟩
        · rw [eK]; split
          · decide
          · split <;> decide
        · rw [eK] at z; split at z
          · cases z
          · split at z <;> cases z
        · rw [eK] at z; split at z
          · cases z
          · split at z <;> cases z
  · have eE : tkE tx n k = tkS tx n k := if_neg (Nat.not_lt.mpr q)
    have eK : tkK tx n k = 5 := if_neg (Nat.not_lt.mpr q)
    exact ⟨by omega, by omega, by rw [eK]; decide, fun z => (by rw [eK] at z; cases z), fun z => (by rw [eK] at z; cases z)⟩
/-! ===== items ===== -/
abbrev tT : Type := Nat × Nat × Nat
/-- token; orders, kinds, values, marked; the marks' words by place, the goals' words and places -/
abbrev rS : Type := tT × Nat × (Nat → Nat) × (Nat → Nat) × (Nat → Bool) × (Nat → Nat) × (Nat → Nat) × (Nat → Nat)
abbrev rR : Type := (Nat × Nat) ⊕ rS
def tokS (tx : Nat → Nat) (n k : Nat) : tT := (tkK tx n k, tkS tx n k, tkE tx n k)
def rdEnd (tx : Nat → Nat) (n : Nat) (t : tT) (k v : Nat) (b : Bool) (m : Nat) (kd vl : Nat → Nat) (mk : Nat → Bool) (mc gc gs : Nat → Nat) : rR :=
  if t.1 = 4 then .inr (tokS tx n t.2.2, m + 1, updN kd m k, updN vl m v, updB mk m b, mc, gc, gs) else .inl (1, t.2.1)
def rdOrder (tx : Nat → Nat) (n : Nat) (t : tT) (ws w : Nat) (b : Bool) (m : Nat) (kd vl : Nat → Nat) (mk : Nat → Bool) (mc gc gs : Nat → Nat) : rR :=
  match kindL w with
  | none => .inl (2, ws)
  | some k => if m < 100 then
      (if kO k = 3 then (if t.1 = 1 then rdEnd tx n (tokS tx n t.2.2) k 0 b m kd vl mk mc (updN gc m (wrd tx t.2.1 t.2.2)) (updN gs m t.2.1) else .inl (1, t.2.1))
       else if kO k = 0 then rdEnd tx n t k 0 b m kd vl mk mc gc gs
       else if t.1 = 2 then (if kO k = 2 ∧ 8 ≤ dec tx t.2.1 (t.2.2 - t.2.1) then .inl (4, t.2.1) else rdEnd tx n (tokS tx n t.2.2) k (dec tx t.2.1 (t.2.2 - t.2.1)) b m kd vl mk mc gc gs) else .inl (1, t.2.1))
    else .inl (5, ws)
def rdItem (tx : Nat → Nat) (n : Nat) (x : rS) : rR :=
  if x.1.1 = 1 then
    (if tkK tx n x.1.2.2 = 3 then
      (if kfind x.2.2.2.2.2.1 (wrd tx x.1.2.1 x.1.2.2) x.2.1 0 = none then
        (if tkK tx n (tkE tx n x.1.2.2) = 1 then
          rdOrder tx n (tokS tx n (tkE tx n (tkE tx n x.1.2.2))) (tkS tx n (tkE tx n x.1.2.2)) (wrd tx (tkS tx n (tkE tx n x.1.2.2)) (tkE tx n (tkE tx n x.1.2.2))) true x.2.1 x.2.2.1 x.2.2.2.1 x.2.2.2.2.1 (updN x.2.2.2.2.2.1 x.2.1 (wrd tx x.1.2.1 x.1.2.2)) x.2.2.2.2.2.2.1 x.2.2.2.2.2.2.2
        else .inl (1, tkS tx n (tkE tx n x.1.2.2)))
      else .inl (3, x.1.2.1))
    else rdOrder tx n (tokS tx n x.1.2.2) x.1.2.1 (wrd tx x.1.2.1 x.1.2.2) false x.2.1 x.2.2.1 x.2.2.2.1 x.2.2.2.2.1 (updN x.2.2.2.2.2.1 x.2.1 0) x.2.2.2.2.2.2.1 x.2.2.2.2.2.2.2)
  else .inl (1, x.1.2.1)

abbrev rm_X9_sameWords : Room := ({ frames := 1, cells := 0, slots := 0, locals := 21 } : Room)
set_option maxRecDepth 100000 in
set_option maxHeartbeats 4000000 in
theorem c_X9_sameWords (g : gC) (l : Launch) {h : Nat} {r0 : Nat} {r1 : Nat} {r2 : Nat} {r3 : Nat} {r4 : Nat} {f6 : Int32} {f7 : Int32} {f8 : Int32} {f9 : Int32} {f10 : Int32} {f11 : Int32} {f12 : Int32} {n : Nat} {s1 : Nat} {e1 : Nat} {s2 : Nat} {e2 : Nat} {tx : Nat → Nat} {R : va_W} (hn : n ≤ 600) (hx : ∀ j, tx j < 256) (w1 : wOk tx n s1 e1) (w2 : wOk tx n s2 e2) : cI g l yX9_sameWords wsX9_sameWords rm_X9_sameWords 0 0 [.ref h, .int (nI s1), .int (nI e1), .int (nI s2), .int (nI e2)] ((h, .inr (6, [.ref r0, .ref r1, .ref r2, .ref r3, .ref r4, .int (nI n), .int f6, .int f7, .int f8, .int f9, .int f10, .int f11, .int f12])) :: (r0, .inl (g.2.1 0, 600, .inl (nA tx))) :: R) (fun r u => (bI (decide (wrd tx s1 e1 = wrd tx s2 e2))) = r ∧ (h, .inr (6, [.ref r0, .ref r1, .ref r2, .ref r3, .ref r4, .int (nI n), .int f6, .int f7, .int f8, .int f9, .int f10, .int f11, .int f12])) :: (r0, .inl (g.2.1 0, 600, .inl (nA tx))) :: R = u) := by
  refine gEnterQ (cc := cX9_sameWords) (maxL := 6) (ret := (some (.boolean))) (by decide +kernel) rfl (Nat.le_of_ble_eq_true rfl) ?_
  intro p e s m below meth c F hG hW ls hl
  have hS : va_S (gA g) s.heap s.heap [] := va_S.rf
  have hl : lv_has ls 6 [(0, .ref h), (1, .int (nI s1)), (2, .int (nI e1)), (3, .int (nI s2)), (4, .int (nI e2))] := hl
  have hW : gW g ((h, .inr (6, [.ref r0, .ref r1, .ref r2, .ref r3, .ref r4, .int (nI n), .int f6, .int f7, .int f8, .int f9, .int f10, .int f11, .int f12])) :: (r0, .inl (g.2.1 0, 600, .inl (nA tx))) :: R) s.heap := hW
  have a1 := w1.1
  have a2 := w1.2.1
  have b1 := w2.1
  have b2 := w2.2.1
  refine lv_iload_n F.1 F.2.1 dX9_sameWords_0 rfl (lv_at hl 2 rfl) ?_
  refine lv_iload_n F.1 F.2.1 dX9_sameWords_1 rfl (lv_at hl 1 rfl) ?_
  refine gSub F (by omega) dX9_sameWords_2 ?_
  refine lv_iload F.1 F.2.1 dX9_sameWords_3 (lv_at hl 4 rfl) ?_
  refine lv_iload_n F.1 F.2.1 dX9_sameWords_5 rfl (lv_at hl 3 rfl) ?_
  refine gSub F (by omega) dX9_sameWords_6 ?_
  refine gEq (tgt := 12) F (by omega) (by omega) dX9_sameWords_7 (by decide) (fun c_7 => ?_) (fun c_7 => ?_)
  · refine lv_iconst (v := nI 0) F.1 F.2.1 dX9_sameWords_12 rfl ?_
    refine lv_istore (lv' := [(5, .int (nI 0)), (0, .ref h), (1, .int (nI s1)), (2, .int (nI e1)), (3, .int (nI s2)), (4, .int (nI e2))]) F.1 F.2.1 dX9_sameWords_13 hl (by decide) rfl (fun ls hl => ?_)
    have L_15 : ∀ (fu : Nat), ∀ (i : Nat) (hi : i ≤ e1 - s1) (heq : ∀ j, j < i → tx (s1 + j) = tx (s2 + j)) (hm_15 : e1 - s1 - i < fu) (H : Heap) (locs : List Loc) (ls : Array Slot) (hW : gW g ((h, .inr (6, [.ref r0, .ref r1, .ref r2, .ref r3, .ref r4, .int (nI n), .int f6, .int f7, .int f8, .int f9, .int f10, .int f11, .int f12])) :: (r0, .inl (g.2.1 0, 600, .inl (nA tx))) :: R) H) (hS : va_S (gA g) s.heap H locs) (hl : lv_has ls 6 [(0, .ref h), (1, .int (nI s1)), (2, .int (nI e1)), (3, .int (nI s2)), (4, .int (nI e2)), (5, .int (nI i))]), W p l e (headSpec wsX9_sameWords rm_X9_sameWords).room s m ([.ref h, .int (nI s1), .int (nI e1), .int (nI s2), .int (nI e2)] : List Value).toArray below meth c H locs 0 0 (MQ below (va_Qi (fun r u => (bI (decide (wrd tx s1 e1 = wrd tx s2 e2))) = r ∧ (h, .inr (6, [.ref r0, .ref r1, .ref r2, .ref r3, .ref r4, .int (nI n), .int f6, .int f7, .int f8, .int f9, .int f10, .int f11, .int f12])) :: (r0, .inl (g.2.1 0, 600, .inl (nA tx))) :: R = u) (fun u t => gW g u t.heap) (gA g)) ([.ref h, .int (nI s1), .int (nI e1), .int (nI s2), .int (nI e2)] : List Value).toArray s 0 0 (gA g)) (F0 m 15 ls []) := by
      intro fu
      induction fu with
      | zero =>
        intros _ _ _ hm_15
        exact absurd hm_15 (Nat.not_lt_zero _)
      | succ fu ih_15 =>
        intro i hi heq hm_15 H locs ls hW hS hl
        refine lv_iload F.1 F.2.1 dX9_sameWords_15 (lv_at hl 5 rfl) ?_
        refine lv_iload_n F.1 F.2.1 dX9_sameWords_17 rfl (lv_at hl 2 rfl) ?_
        refine lv_iload_n F.1 F.2.1 dX9_sameWords_18 rfl (lv_at hl 1 rfl) ?_
        refine gSub F (by omega) dX9_sameWords_19 ?_
        refine gGe (tgt := 50) F (by omega) (by omega) dX9_sameWords_20 (by decide) (fun c_20 => ?_) (fun c_20 => ?_)
        · refine lv_iconst (v := nI 1) F.1 F.2.1 dX9_sameWords_50 rfl ?_
          refine gRz rfl F hW hS dX9_sameWords_51 ?_
          exact ⟨by rw [decide_eq_true ((wrd_eq w1 w2).mpr ⟨c_7, fun j hj => heq j (by omega)⟩)]; rfl, rfl⟩
        · refine lv_aload_n F.1 F.2.1 dX9_sameWords_23 rfl (lv_at hl 0 rfl) ?_
          refine lv_iload_n F.1 F.2.1 dX9_sameWords_24 rfl (lv_at hl 1 rfl) ?_
          refine lv_iload F.1 F.2.1 dX9_sameWords_25 (lv_at hl 5 rfl) ?_
          refine gAdd F dX9_sameWords_27 ?_
          refine gVi (n := 1) (q := (RX9, TX9, 13)) (q0 := 0) (As := [.int (nI (s1 + i))]) F hG hS hW (c_X9_byteAt g l  (by omega) (by omega)) rfl gX9_sameWords_X9_byteAt rfl rfl rfl (by decide +kernel) ⟨rfl, rfl, Nat.le_of_ble_eq_true rfl, Nat.le_of_ble_eq_true rfl⟩ hl.1 (Nat.le_of_ble_eq_true rfl) ⟨Nat.le_of_ble_eq_true rfl, Nat.le_of_ble_eq_true rfl⟩ rfl rfl dX9_sameWords_28 (fun r u H locs hq hW hS => ?_)
          obtain ⟨rfl, rfl⟩ := hq
          have hW : gW g ((h, .inr (6, [.ref r0, .ref r1, .ref r2, .ref r3, .ref r4, .int (nI n), .int f6, .int f7, .int f8, .int f9, .int f10, .int f11, .int f12])) :: (r0, .inl (g.2.1 0, 600, .inl (nA tx))) :: R) _ := hW
          refine lv_aload_n F.1 F.2.1 dX9_sameWords_31 rfl (lv_at hl 0 rfl) ?_
          refine lv_iload_n F.1 F.2.1 dX9_sameWords_32 rfl (lv_at hl 3 rfl) ?_
          refine lv_iload F.1 F.2.1 dX9_sameWords_33 (lv_at hl 5 rfl) ?_
          refine gAdd F dX9_sameWords_35 ?_
          refine gVi (n := 1) (q := (RX9, TX9, 13)) (q0 := 0) (As := [.int (nI (s2 + i))]) F hG hS hW (c_X9_byteAt g l  (by omega) (by omega)) rfl gX9_sameWords_X9_byteAt rfl rfl rfl (by decide +kernel) ⟨rfl, rfl, Nat.le_of_ble_eq_true rfl, Nat.le_of_ble_eq_true rfl⟩ hl.1 (Nat.le_of_ble_eq_true rfl) ⟨Nat.le_of_ble_eq_true rfl, Nat.le_of_ble_eq_true rfl⟩ rfl rfl dX9_sameWords_36 (fun r u H locs hq hW hS => ?_)
          obtain ⟨rfl, rfl⟩ := hq
          have hW : gW g ((h, .inr (6, [.ref r0, .ref r1, .ref r2, .ref r3, .ref r4, .int (nI n), .int f6, .int f7, .int f8, .int f9, .int f10, .int f11, .int f12])) :: (r0, .inl (g.2.1 0, 600, .inl (nA tx))) :: R) _ := hW
          have x1 := hx (s1 + i)
          have x2 := hx (s2 + i)
          refine gEq (tgt := 44) F (by omega) (by omega) dX9_sameWords_39 (by decide) (fun c_39 => ?_) (fun c_39 => ?_)
          · refine lv_iinc (v := nI (i + 1)) (lv' := [(5, .int (nI (i + 1))), (0, .ref h), (1, .int (nI s1)), (2, .int (nI e1)), (3, .int (nI s2)), (4, .int (nI e2))]) F.1 F.2.1 dX9_sameWords_44 hl (k := 5) rfl (nI_add i 1) (by decide) rfl (fun ls hl => ?_)
            refine lv_goto (tgt := 15) F.1 F.2.1 dX9_sameWords_47 (by decide) ?_
            exact ih_15 (i + 1) (by omega) (fun j hj => (Nat.lt_succ_iff_lt_or_eq.mp hj).elim (heq j) (fun q => by rw [q]; exact c_39)) (by omega) _ _ _ hW hS (lv_sub hl [1, 2, 3, 4, 5, 0] rfl)
          · refine lv_iconst (v := nI 0) F.1 F.2.1 dX9_sameWords_42 rfl ?_
            refine gRz rfl F hW hS dX9_sameWords_43 ?_
            exact ⟨by rw [decide_eq_false (fun z => c_39 (((wrd_eq w1 w2).mp z).2 i (by omega)))]; rfl, rfl⟩
    exact L_15 _ 0 (by omega) (fun j hj => absurd hj (Nat.not_lt_zero j)) (Nat.lt_succ_self _) _ _ _ hW hS (lv_sub hl [1, 2, 3, 4, 5, 0] rfl)
  · refine lv_iconst (v := nI 0) F.1 F.2.1 dX9_sameWords_10 rfl ?_
    refine gRz rfl F hW hS dX9_sameWords_11 ?_
    exact ⟨by rw [decide_eq_false (fun z => c_7 ((wrd_eq w1 w2).mp z).1)]; rfl, rfl⟩

abbrev rm_X9_placeOfMark : Room := ({ frames := 2, cells := 0, slots := 0, locals := 46 } : Room)
theorem mX9_placeOfMark_1 : Cond.fieldLink RX9 15 "StepperHearts$Reader" "markStarts" "[I" ∈ wsX9_placeOfMark := List.mem_of_getElem? (i := 1) rfl
theorem nX9_placeOfMark_X9 : ∀ w ∈ wsX90, w ∈ wsX9_placeOfMark := fun _ h => List.mem_cons_of_mem _ (List.mem_append_right _ (h))
theorem mX9_placeOfMark_2 : Cond.fieldLink RX9 18 "StepperHearts$Reader" "markEnds" "[I" ∈ wsX9_placeOfMark := List.mem_of_getElem? (i := 2) rfl
set_option maxRecDepth 100000 in
set_option maxHeartbeats 4000000 in
theorem c_X9_placeOfMark (g : gC) (l : Launch) {h : Nat} {r0 : Nat} {r1 : Nat} {r2 : Nat} {r3 : Nat} {r4 : Nat} {f6 : Int32} {f7 : Int32} {f8 : Int32} {f9 : Int32} {f10 : Int32} {f11 : Int32} {f12 : Int32} {n : Nat} {s1 : Nat} {e1 : Nat} {mm : Nat} {tx : Nat → Nat} {ms : Nat → Nat} {me : Nat → Nat} {R : va_W} (hn : n ≤ 600) (hx : ∀ j, tx j < 256) (hm : mm ≤ 100) (w1 : wOk tx n s1 e1) (hw : ∀ j, j < mm → wOk tx n (ms j) (me j)) : cI g l yX9_placeOfMark wsX9_placeOfMark rm_X9_placeOfMark 0 0 [.ref h, .int (nI s1), .int (nI e1), .int (nI mm)] ((h, .inr (6, [.ref r0, .ref r1, .ref r2, .ref r3, .ref r4, .int (nI n), .int f6, .int f7, .int f8, .int f9, .int f10, .int f11, .int f12])) :: (r0, .inl (g.2.1 0, 600, .inl (nA tx))) :: (r1, .inl (g.2.1 0, 100, .inl (nA ms))) :: (r2, .inl (g.2.1 0, 100, .inl (nA me))) :: R) (fun r u => (oI (kfind (fun j => wrd tx (ms j) (me j)) (wrd tx s1 e1) mm 0)) = r ∧ (h, .inr (6, [.ref r0, .ref r1, .ref r2, .ref r3, .ref r4, .int (nI n), .int f6, .int f7, .int f8, .int f9, .int f10, .int f11, .int f12])) :: (r0, .inl (g.2.1 0, 600, .inl (nA tx))) :: (r1, .inl (g.2.1 0, 100, .inl (nA ms))) :: (r2, .inl (g.2.1 0, 100, .inl (nA me))) :: R = u) := by
  refine gEnterQ (cc := cX9_placeOfMark) (maxL := 5) (ret := (some (.int))) (by decide +kernel) rfl (Nat.le_of_ble_eq_true rfl) ?_
  intro p e s m below meth c F hG hW ls hl
  have hS : va_S (gA g) s.heap s.heap [] := va_S.rf
  have hl : lv_has ls 5 [(0, .ref h), (1, .int (nI s1)), (2, .int (nI e1)), (3, .int (nI mm))] := hl
  have hW : gW g ((h, .inr (6, [.ref r0, .ref r1, .ref r2, .ref r3, .ref r4, .int (nI n), .int f6, .int f7, .int f8, .int f9, .int f10, .int f11, .int f12])) :: (r0, .inl (g.2.1 0, 600, .inl (nA tx))) :: (r1, .inl (g.2.1 0, 100, .inl (nA ms))) :: (r2, .inl (g.2.1 0, 100, .inl (nA me))) :: R) s.heap := hW
  refine lv_iconst (v := nI 0) F.1 F.2.1 dX9_placeOfMark_0 rfl ?_
  refine lv_istore (lv' := [(4, .int (nI 0)), (0, .ref h), (1, .int (nI s1)), (2, .int (nI e1)), (3, .int (nI mm))]) F.1 F.2.1 dX9_placeOfMark_1 hl (by decide) rfl (fun ls hl => ?_)
  have L_3 : ∀ (fu : Nat), ∀ (i : Nat) (hi : i ≤ mm) (hk : kfind (fun j => wrd tx (ms j) (me j)) (wrd tx s1 e1) (mm - i) i = kfind (fun j => wrd tx (ms j) (me j)) (wrd tx s1 e1) mm 0) (hm_3 : mm - i < fu) (H : Heap) (locs : List Loc) (ls : Array Slot) (hW : gW g ((h, .inr (6, [.ref r0, .ref r1, .ref r2, .ref r3, .ref r4, .int (nI n), .int f6, .int f7, .int f8, .int f9, .int f10, .int f11, .int f12])) :: (r0, .inl (g.2.1 0, 600, .inl (nA tx))) :: (r1, .inl (g.2.1 0, 100, .inl (nA ms))) :: (r2, .inl (g.2.1 0, 100, .inl (nA me))) :: R) H) (hS : va_S (gA g) s.heap H locs) (hl : lv_has ls 5 [(0, .ref h), (1, .int (nI s1)), (2, .int (nI e1)), (3, .int (nI mm)), (4, .int (nI i))]), W p l e (headSpec wsX9_placeOfMark rm_X9_placeOfMark).room s m ([.ref h, .int (nI s1), .int (nI e1), .int (nI mm)] : List Value).toArray below meth c H locs 0 0 (MQ below (va_Qi (fun r u => (oI (kfind (fun j => wrd tx (ms j) (me j)) (wrd tx s1 e1) mm 0)) = r ∧ (h, .inr (6, [.ref r0, .ref r1, .ref r2, .ref r3, .ref r4, .int (nI n), .int f6, .int f7, .int f8, .int f9, .int f10, .int f11, .int f12])) :: (r0, .inl (g.2.1 0, 600, .inl (nA tx))) :: (r1, .inl (g.2.1 0, 100, .inl (nA ms))) :: (r2, .inl (g.2.1 0, 100, .inl (nA me))) :: R = u) (fun u t => gW g u t.heap) (gA g)) ([.ref h, .int (nI s1), .int (nI e1), .int (nI mm)] : List Value).toArray s 0 0 (gA g)) (F0 m 3 ls []) := by
    intro fu
    induction fu with
    | zero =>
      intros _ _ _ hm_3
      exact absurd hm_3 (Nat.not_lt_zero _)
    | succ fu ih_3 =>
      intro i hi hk hm_3 H locs ls hW hS hl
      refine lv_iload F.1 F.2.1 dX9_placeOfMark_3 (lv_at hl 4 rfl) ?_
      refine lv_iload_n F.1 F.2.1 dX9_placeOfMark_5 rfl (lv_at hl 3 rfl) ?_
      refine gGe (tgt := 48) F (by omega) (by omega) dX9_placeOfMark_6 (by decide) (fun c_6 => ?_) (fun c_6 => ?_)
      · refine lv_iconst (v := -1) F.1 F.2.1 dX9_placeOfMark_48 rfl ?_
        refine gRi F hW hS dX9_placeOfMark_49 ?_
        exact ⟨by rw [← hk, show mm - i = 0 by omega]; rfl, rfl⟩
      · refine lv_iload F.1 F.2.1 dX9_placeOfMark_9 (lv_at hl 4 rfl) ?_
        refine lv_bipush (v := nI 100) F.1 F.2.1 dX9_placeOfMark_11 (by decide) ?_
        refine gGe (tgt := 48) F (by omega) (by omega) dX9_placeOfMark_13 (by decide) (fun c_13 => by exfalso; omega) (fun c_13 => ?_)
        refine lv_aload_n F.1 F.2.1 dX9_placeOfMark_16 rfl (lv_at hl 0 rfl) ?_
        refine lv_iload_n F.1 F.2.1 dX9_placeOfMark_17 rfl (lv_at hl 1 rfl) ?_
        refine lv_iload_n F.1 F.2.1 dX9_placeOfMark_18 rfl (lv_at hl 2 rfl) ?_
        refine lv_aload_n F.1 F.2.1 dX9_placeOfMark_19 rfl (lv_at hl 0 rfl) ?_
        refine gGet F hG hW nX9_placeOfMark_X9 0 rfl rfl 1 (by decide) mX9_placeOfMark_1 rfl dX9_placeOfMark_20 ?_
        refine lv_iload F.1 F.2.1 dX9_placeOfMark_23 (lv_at hl 4 rfl) ?_
        refine gLdI F hG hW 2 rfl (by omega) (by decide) dX9_placeOfMark_25 ?_
        refine gTop (y := nI (ms i)) rfl ?_
        refine lv_aload_n F.1 F.2.1 dX9_placeOfMark_26 rfl (lv_at hl 0 rfl) ?_
        refine gGet F hG hW nX9_placeOfMark_X9 0 rfl rfl 2 (by decide) mX9_placeOfMark_2 rfl dX9_placeOfMark_27 ?_
        refine lv_iload F.1 F.2.1 dX9_placeOfMark_30 (lv_at hl 4 rfl) ?_
        refine gLdI F hG hW 3 rfl (by omega) (by decide) dX9_placeOfMark_32 ?_
        refine gTop (y := nI (me i)) rfl ?_
        refine gVi (n := 4) (q := (RX9, TX9, 13)) (q0 := 0) (As := [.int (nI s1), .int (nI e1), .int (nI (ms i)), .int (nI (me i))]) F hG hS hW (c_X9_sameWords g l  (by omega) hx w1 (hw i (by omega))) rfl gX9_placeOfMark_X9_sameWords rfl rfl rfl (by decide +kernel) ⟨rfl, rfl, Nat.le_of_ble_eq_true rfl, Nat.le_of_ble_eq_true rfl⟩ hl.1 (Nat.le_of_ble_eq_true rfl) ⟨Nat.le_of_ble_eq_true rfl, Nat.le_of_ble_eq_true rfl⟩ rfl rfl dX9_placeOfMark_33 (fun r u H locs hq hW hS => ?_)
        obtain ⟨rfl, rfl⟩ := hq
        have hW : gW g ((h, .inr (6, [.ref r0, .ref r1, .ref r2, .ref r3, .ref r4, .int (nI n), .int f6, .int f7, .int f8, .int f9, .int f10, .int f11, .int f12])) :: (r0, .inl (g.2.1 0, 600, .inl (nA tx))) :: (r1, .inl (g.2.1 0, 100, .inl (nA ms))) :: (r2, .inl (g.2.1 0, 100, .inl (nA me))) :: R) _ := hW
        refine gIfEqB (tgt := 42) F dX9_placeOfMark_36 (by decide) (fun c_36 => ?_) (fun c_36 => ?_)
        · refine lv_iinc (v := nI (i + 1)) (lv' := [(4, .int (nI (i + 1))), (0, .ref h), (1, .int (nI s1)), (2, .int (nI e1)), (3, .int (nI mm))]) F.1 F.2.1 dX9_placeOfMark_42 hl (k := 4) rfl (nI_add i 1) (by decide) rfl (fun ls hl => ?_)
          refine lv_goto (tgt := 3) F.1 F.2.1 dX9_placeOfMark_45 (by decide) ?_
          exact ih_3 (i + 1) (by omega) (by rw [← hk, show mm - i = (mm - (i + 1)) + 1 by omega, kfind, if_neg (fun z => of_decide_eq_false c_36 z.symm)]) (by omega) _ _ _ hW hS (lv_sub hl [1, 2, 3, 4, 0] rfl)
        · refine lv_iload F.1 F.2.1 dX9_placeOfMark_39 (lv_at hl 4 rfl) ?_
          refine gRi F hW hS dX9_placeOfMark_41 ?_
          exact ⟨by rw [← hk, show mm - i = (mm - i - 1) + 1 by omega, kfind, if_pos (of_decide_eq_true c_36).symm]; rfl, rfl⟩
  exact L_3 _ 0 (by omega) rfl (Nat.lt_succ_self _) _ _ _ hW hS (lv_sub hl [1, 2, 3, 4, 0] rfl)

abbrev rm_X9_wordIs : Room := ({ frames := 4, cells := 0, slots := 0, locals := 85 } : Room)
theorem mX9_wordIs_1 : Cond.fieldLink RX9 43 "StepperHearts$Reader" "wordEnd" "I" ∈ wsX9_wordIs := List.mem_of_getElem? (i := 1) rfl
theorem nX9_wordIs_X9 : ∀ w ∈ wsX90, w ∈ wsX9_wordIs := fun _ h => List.mem_cons_of_mem _ (List.mem_append_right _ (h))
theorem mX9_wordIs_2 : Cond.fieldLink RX9 40 "StepperHearts$Reader" "wordStart" "I" ∈ wsX9_wordIs := List.mem_of_getElem? (i := 2) rfl
set_option maxRecDepth 100000 in
set_option maxHeartbeats 4000000 in
theorem c_X9_wordIs (g : gC) (l : Launch) {h : Nat} {r0 : Nat} {r1 : Nat} {r2 : Nat} {r3 : Nat} {r4 : Nat} {f6 : Int32} {f7 : Int32} {f8 : Int32} {f11 : Int32} {f12 : Int32} {n : Nat} {ws : Nat} {we : Nat} {i : Nat} {tx : Nat → Nat} {R : va_W} (hn : n ≤ 600) (hx : ∀ j, tx j < 256) (hi : i < 15) (w1 : wOk tx n ws we) : cI g l yX9_wordIs wsX9_wordIs rm_X9_wordIs 0 0 [.ref h, .ref (g.2.2.2 (20 + i))] ((h, .inr (6, [.ref r0, .ref r1, .ref r2, .ref r3, .ref r4, .int (nI n), .int f6, .int f7, .int f8, .int (nI ws), .int (nI we), .int f11, .int f12])) :: (r0, .inl (g.2.1 0, 600, .inl (nA tx))) :: R) (fun r u => (bI (decide (encN i = wrd tx ws we))) = r ∧ (h, .inr (6, [.ref r0, .ref r1, .ref r2, .ref r3, .ref r4, .int (nI n), .int f6, .int f7, .int f8, .int (nI ws), .int (nI we), .int f11, .int f12])) :: (r0, .inl (g.2.1 0, 600, .inl (nA tx))) :: R = u) := by
  refine gEnterQ (cc := cX9_wordIs) (maxL := 3) (ret := (some (.boolean))) (by decide +kernel) rfl (Nat.le_of_ble_eq_true rfl) ?_
  intro p e s m below meth c F hG hW ls hl
  have hS : va_S (gA g) s.heap s.heap [] := va_S.rf
  have hl : lv_has ls 3 [(0, .ref h), (1, .ref (g.2.2.2 (20 + i)))] := hl
  have hW : gW g ((h, .inr (6, [.ref r0, .ref r1, .ref r2, .ref r3, .ref r4, .int (nI n), .int f6, .int f7, .int f8, .int (nI ws), .int (nI we), .int f11, .int f12])) :: (r0, .inl (g.2.1 0, 600, .inl (nA tx))) :: R) s.heap := hW
  have a1 := w1.1
  have a2 := w1.2.1
  have a3 := kL_lt i hi
  refine lv_aload_n F.1 F.2.1 dX9_wordIs_0 rfl (lv_at hl 1 rfl) ?_
  refine gTi (n := 0) (As := []) F hG hS hW (c_J0_length_8abf5 g l  (by omega)) rfl gX9_wordIs_J0_length_8abf5 rfl (by omega) (by decide +kernel) ⟨rfl, rfl, Nat.le_of_ble_eq_true rfl, Nat.le_of_ble_eq_true rfl⟩ hl.1 (Nat.le_of_ble_eq_true rfl) ⟨Nat.le_of_ble_eq_true rfl, Nat.le_of_ble_eq_true rfl⟩ rfl rfl dX9_wordIs_1 (fun r u H locs hq hW hS => ?_)
  obtain ⟨rfl, rfl⟩ := hq
  have hW : gW g ((h, .inr (6, [.ref r0, .ref r1, .ref r2, .ref r3, .ref r4, .int (nI n), .int f6, .int f7, .int f8, .int (nI ws), .int (nI we), .int f11, .int f12])) :: (r0, .inl (g.2.1 0, 600, .inl (nA tx))) :: R) _ := hW
  refine lv_aload_n F.1 F.2.1 dX9_wordIs_4 rfl (lv_at hl 0 rfl) ?_
  refine gGet F hG hW nX9_wordIs_X9 0 rfl rfl 10 (by decide) mX9_wordIs_1 rfl dX9_wordIs_5 ?_
  refine lv_aload_n F.1 F.2.1 dX9_wordIs_8 rfl (lv_at hl 0 rfl) ?_
  refine gGet F hG hW nX9_wordIs_X9 0 rfl rfl 9 (by decide) mX9_wordIs_2 rfl dX9_wordIs_9 ?_
  refine gSub F (by omega) dX9_wordIs_12 ?_
  refine gEq (tgt := 18) F (by omega) (by omega) dX9_wordIs_13 (by decide) (fun c_13 => ?_) (fun c_13 => ?_)
  · refine lv_iconst (v := nI 0) F.1 F.2.1 dX9_wordIs_18 rfl ?_
    refine lv_istore_n (lv' := [(2, .int (nI 0)), (0, .ref h), (1, .ref (g.2.2.2 (20 + i)))]) F.1 F.2.1 dX9_wordIs_19 rfl hl (by decide) rfl (fun ls hl => ?_)
    have L_20 : ∀ (fu : Nat), ∀ (j : Nat) (hj : j ≤ kL i) (heq : ∀ k, k < j → tx (ws + k) = kC i k) (hm_20 : kL i - j < fu) (H : Heap) (locs : List Loc) (ls : Array Slot) (hW : gW g ((h, .inr (6, [.ref r0, .ref r1, .ref r2, .ref r3, .ref r4, .int (nI n), .int f6, .int f7, .int f8, .int (nI ws), .int (nI we), .int f11, .int f12])) :: (r0, .inl (g.2.1 0, 600, .inl (nA tx))) :: R) H) (hS : va_S (gA g) s.heap H locs) (hl : lv_has ls 3 [(0, .ref h), (1, .ref (g.2.2.2 (20 + i))), (2, .int (nI j))]), W p l e (headSpec wsX9_wordIs rm_X9_wordIs).room s m ([.ref h, .ref (g.2.2.2 (20 + i))] : List Value).toArray below meth c H locs 0 0 (MQ below (va_Qi (fun r u => (bI (decide (encN i = wrd tx ws we))) = r ∧ (h, .inr (6, [.ref r0, .ref r1, .ref r2, .ref r3, .ref r4, .int (nI n), .int f6, .int f7, .int f8, .int (nI ws), .int (nI we), .int f11, .int f12])) :: (r0, .inl (g.2.1 0, 600, .inl (nA tx))) :: R = u) (fun u t => gW g u t.heap) (gA g)) ([.ref h, .ref (g.2.2.2 (20 + i))] : List Value).toArray s 0 0 (gA g)) (F0 m 20 ls []) := by
      intro fu
      induction fu with
      | zero =>
        intros _ _ _ hm_20
        exact absurd hm_20 (Nat.not_lt_zero _)
      | succ fu ih_20 =>
        intro j hj heq hm_20 H locs ls hW hS hl
        refine lv_iload_n F.1 F.2.1 dX9_wordIs_20 rfl (lv_at hl 2 rfl) ?_
        refine lv_aload_n F.1 F.2.1 dX9_wordIs_21 rfl (lv_at hl 1 rfl) ?_
        refine gTi (n := 0) (As := []) F hG hS hW (c_J0_length_8abf5 g l  (by omega)) rfl gX9_wordIs_J0_length_8abf5 rfl (by omega) (by decide +kernel) ⟨rfl, rfl, Nat.le_of_ble_eq_true rfl, Nat.le_of_ble_eq_true rfl⟩ hl.1 (Nat.le_of_ble_eq_true rfl) ⟨Nat.le_of_ble_eq_true rfl, Nat.le_of_ble_eq_true rfl⟩ rfl rfl dX9_wordIs_22 (fun r u H locs hq hW hS => ?_)
        obtain ⟨rfl, rfl⟩ := hq
        have hW : gW g ((h, .inr (6, [.ref r0, .ref r1, .ref r2, .ref r3, .ref r4, .int (nI n), .int f6, .int f7, .int f8, .int (nI ws), .int (nI we), .int f11, .int f12])) :: (r0, .inl (g.2.1 0, 600, .inl (nA tx))) :: R) _ := hW
        refine gGe (tgt := 54) F (by omega) (by omega) dX9_wordIs_25 (by decide) (fun c_25 => ?_) (fun c_25 => ?_)
        · refine lv_iconst (v := nI 1) F.1 F.2.1 dX9_wordIs_54 rfl ?_
          refine gRz rfl F hW hS dX9_wordIs_55 ?_
          exact ⟨by rw [decide_eq_true ((encN_eq hi w1).mpr ⟨c_13, fun k hk => heq k (by omega)⟩)]; rfl, rfl⟩
        · refine lv_aload_n F.1 F.2.1 dX9_wordIs_28 rfl (lv_at hl 0 rfl) ?_
          refine lv_aload_n F.1 F.2.1 dX9_wordIs_29 rfl (lv_at hl 0 rfl) ?_
          refine gGet F hG hW nX9_wordIs_X9 0 rfl rfl 9 (by decide) mX9_wordIs_2 rfl dX9_wordIs_30 ?_
          refine lv_iload_n F.1 F.2.1 dX9_wordIs_33 rfl (lv_at hl 2 rfl) ?_
          refine gAdd F dX9_wordIs_34 ?_
          refine gVi (n := 1) (q := (RX9, TX9, 13)) (q0 := 0) (As := [.int (nI (ws + j))]) F hG hS hW (c_X9_byteAt g l  (by omega) (by omega)) rfl gX9_wordIs_X9_byteAt rfl rfl rfl (by decide +kernel) ⟨rfl, rfl, Nat.le_of_ble_eq_true rfl, Nat.le_of_ble_eq_true rfl⟩ hl.1 (Nat.le_of_ble_eq_true rfl) ⟨Nat.le_of_ble_eq_true rfl, Nat.le_of_ble_eq_true rfl⟩ rfl rfl dX9_wordIs_35 (fun r u H locs hq hW hS => ?_)
          obtain ⟨rfl, rfl⟩ := hq
          have hW : gW g ((h, .inr (6, [.ref r0, .ref r1, .ref r2, .ref r3, .ref r4, .int (nI n), .int f6, .int f7, .int f8, .int (nI ws), .int (nI we), .int f11, .int f12])) :: (r0, .inl (g.2.1 0, 600, .inl (nA tx))) :: R) _ := hW
          refine lv_aload_n F.1 F.2.1 dX9_wordIs_38 rfl (lv_at hl 1 rfl) ?_
          refine lv_iload_n F.1 F.2.1 dX9_wordIs_39 rfl (lv_at hl 2 rfl) ?_
          refine gTi (n := 1) (As := [.int (nI j)]) F hG hS hW (c_J0_charAt_5068e g l  (by omega) c_25) rfl gX9_wordIs_J0_charAt_5068e rfl (by omega) (by decide +kernel) ⟨rfl, rfl, Nat.le_of_ble_eq_true rfl, Nat.le_of_ble_eq_true rfl⟩ hl.1 (Nat.le_of_ble_eq_true rfl) ⟨Nat.le_of_ble_eq_true rfl, Nat.le_of_ble_eq_true rfl⟩ rfl rfl dX9_wordIs_40 (fun r u H locs hq hW hS => ?_)
          obtain ⟨rfl, rfl⟩ := hq
          have hW : gW g ((h, .inr (6, [.ref r0, .ref r1, .ref r2, .ref r3, .ref r4, .int (nI n), .int f6, .int f7, .int f8, .int (nI ws), .int (nI we), .int f11, .int f12])) :: (r0, .inl (g.2.1 0, 600, .inl (nA tx))) :: R) _ := hW
          have x1 := hx (ws + j)
          have x2 := kC_lt i hi j c_25
          refine gEq (tgt := 48) F (by omega) (by omega) dX9_wordIs_43 (by decide) (fun c_43 => ?_) (fun c_43 => ?_)
          · refine lv_iinc (v := nI (j + 1)) (lv' := [(2, .int (nI (j + 1))), (0, .ref h), (1, .ref (g.2.2.2 (20 + i)))]) F.1 F.2.1 dX9_wordIs_48 hl (k := 2) rfl (nI_add j 1) (by decide) rfl (fun ls hl => ?_)
            refine lv_goto (tgt := 20) F.1 F.2.1 dX9_wordIs_51 (by decide) ?_
            exact ih_20 (j + 1) (by omega) (fun k hk => (Nat.lt_succ_iff_lt_or_eq.mp hk).elim (heq k) (fun q => by rw [q]; exact c_43)) (by omega) _ _ _ hW hS (lv_sub hl [1, 2, 0] rfl)
          · refine lv_iconst (v := nI 0) F.1 F.2.1 dX9_wordIs_46 rfl ?_
            refine gRz rfl F hW hS dX9_wordIs_47 ?_
            exact ⟨by rw [decide_eq_false (fun z => c_43 (((encN_eq hi w1).mp z).2 j (by omega)))]; rfl, rfl⟩
    exact L_20 _ 0 (by omega) (fun j hj => absurd hj (Nat.not_lt_zero j)) (Nat.lt_succ_self _) _ _ _ hW hS (lv_sub hl [1, 2, 0] rfl)
  · refine lv_iconst (v := nI 0) F.1 F.2.1 dX9_wordIs_16 rfl ?_
    refine gRz rfl F hW hS dX9_wordIs_17 ?_
    exact ⟨by rw [decide_eq_false (fun z => c_13 ((encN_eq hi w1).mp z).1)]; rfl, rfl⟩

abbrev rm_X9_kindOfWord : Room := ({ frames := 5, cells := 0, slots := 0, locals := 107 } : Room)
theorem fX9_kindOfWord_110 : (yX9_kindOfWord.cls, 110, "StepperHearts", "KINDS", "[LStepperHearts$Kind;", "StepperHearts") ∈ gNF := List.mem_of_getElem? (i := 20) rfl
theorem mX9_kindOfWord_1 : Cond.fieldLink RX9 146 "StepperHearts$Kind" "word" "Ljava/lang/String;" ∈ wsX9_kindOfWord := List.mem_of_getElem? (i := 1) rfl
set_option maxRecDepth 100000 in
set_option maxHeartbeats 4000000 in
theorem c_X9_kindOfWord (g : gC) (l : Launch) {h : Nat} {r0 : Nat} {r1 : Nat} {r2 : Nat} {r3 : Nat} {r4 : Nat} {f6 : Int32} {f7 : Int32} {f8 : Int32} {f11 : Int32} {f12 : Int32} {n : Nat} {ws : Nat} {we : Nat} {tx : Nat → Nat} {R : va_W} (hn : n ≤ 600) (hx : ∀ j, tx j < 256) (w1 : wOk tx n ws we) : cI g l yX9_kindOfWord wsX9_kindOfWord rm_X9_kindOfWord 0 0 [.ref h] ((h, .inr (6, [.ref r0, .ref r1, .ref r2, .ref r3, .ref r4, .int (nI n), .int f6, .int f7, .int f8, .int (nI ws), .int (nI we), .int f11, .int f12])) :: (r0, .inl (g.2.1 0, 600, .inl (nA tx))) :: R) (fun r u => (oI (kindL (wrd tx ws we))) = r ∧ (h, .inr (6, [.ref r0, .ref r1, .ref r2, .ref r3, .ref r4, .int (nI n), .int f6, .int f7, .int f8, .int (nI ws), .int (nI we), .int f11, .int f12])) :: (r0, .inl (g.2.1 0, 600, .inl (nA tx))) :: R = u) := by
  refine gEnterQ (cc := cX9_kindOfWord) (maxL := 2) (ret := (some (.int))) (by decide +kernel) rfl (Nat.le_of_ble_eq_true rfl) ?_
  intro p e s m below meth c F hG hW ls hl
  have hS : va_S (gA g) s.heap s.heap [] := va_S.rf
  have hl : lv_has ls 2 [(0, .ref h)] := hl
  have hW : gW g ((h, .inr (6, [.ref r0, .ref r1, .ref r2, .ref r3, .ref r4, .int (nI n), .int f6, .int f7, .int f8, .int (nI ws), .int (nI we), .int f11, .int f12])) :: (r0, .inl (g.2.1 0, 600, .inl (nA tx))) :: R) s.heap := hW
  refine lv_iconst (v := nI 0) F.1 F.2.1 dX9_kindOfWord_0 rfl ?_
  refine lv_istore_n (lv' := [(1, .int (nI 0)), (0, .ref h)]) F.1 F.2.1 dX9_kindOfWord_1 rfl hl (by decide) rfl (fun ls hl => ?_)
  have L_2 : ∀ (fu : Nat), ∀ (i : Nat) (hi : i ≤ 15) (hk : kfind encN (wrd tx ws we) (15 - i) i = kindL (wrd tx ws we)) (hm_2 : 15 - i < fu) (H : Heap) (locs : List Loc) (ls : Array Slot) (hW : gW g ((h, .inr (6, [.ref r0, .ref r1, .ref r2, .ref r3, .ref r4, .int (nI n), .int f6, .int f7, .int f8, .int (nI ws), .int (nI we), .int f11, .int f12])) :: (r0, .inl (g.2.1 0, 600, .inl (nA tx))) :: R) H) (hS : va_S (gA g) s.heap H locs) (hl : lv_has ls 2 [(0, .ref h), (1, .int (nI i))]), W p l e (headSpec wsX9_kindOfWord rm_X9_kindOfWord).room s m ([.ref h] : List Value).toArray below meth c H locs 0 0 (MQ below (va_Qi (fun r u => (oI (kindL (wrd tx ws we))) = r ∧ (h, .inr (6, [.ref r0, .ref r1, .ref r2, .ref r3, .ref r4, .int (nI n), .int f6, .int f7, .int f8, .int (nI ws), .int (nI we), .int f11, .int f12])) :: (r0, .inl (g.2.1 0, 600, .inl (nA tx))) :: R = u) (fun u t => gW g u t.heap) (gA g)) ([.ref h] : List Value).toArray s 0 0 (gA g)) (F0 m 2 ls []) := by
    intro fu
    induction fu with
    | zero =>
      intros _ _ _ hm_2
      exact absurd hm_2 (Nat.not_lt_zero _)
    | succ fu ih_2 =>
      intro i hi hk hm_2 H locs ls hW hS hl
      refine lv_iload_n F.1 F.2.1 dX9_kindOfWord_2 rfl (lv_at hl 1 rfl) ?_
      refine gsKindsN F hG hS fX9_kindOfWord_110 dX9_kindOfWord_3 ?_
      refine gLenKinds F hG hS dX9_kindOfWord_6 ?_
      refine gGe (tgt := 33) F (by omega) (by omega) dX9_kindOfWord_7 (by decide) (fun c_7 => ?_) (fun c_7 => ?_)
      · refine lv_iconst (v := -1) F.1 F.2.1 dX9_kindOfWord_33 rfl ?_
        refine gRi F hW hS dX9_kindOfWord_34 ?_
        exact ⟨by rw [← hk, show 15 - i = 0 by omega]; rfl, rfl⟩
      · refine lv_aload_n F.1 F.2.1 dX9_kindOfWord_10 rfl (lv_at hl 0 rfl) ?_
        refine gsKindsN F hG hS fX9_kindOfWord_110 dX9_kindOfWord_11 ?_
        refine lv_iload_n F.1 F.2.1 dX9_kindOfWord_14 rfl (lv_at hl 1 rfl) ?_
        refine gLdKind F hG hS (by omega) dX9_kindOfWord_15 ?_
        refine gKword F hG hS (by omega) mX9_kindOfWord_1 dX9_kindOfWord_16 ?_
        refine gVi (n := 1) (q := (RX9, TX9, 13)) (q0 := 0) (As := [.ref (g.2.2.2 (20 + i))]) F hG hS hW (c_X9_wordIs g l  (by omega) hx (by omega) w1) rfl gX9_kindOfWord_X9_wordIs rfl rfl rfl (by decide +kernel) ⟨rfl, rfl, Nat.le_of_ble_eq_true rfl, Nat.le_of_ble_eq_true rfl⟩ hl.1 (Nat.le_of_ble_eq_true rfl) ⟨Nat.le_of_ble_eq_true rfl, Nat.le_of_ble_eq_true rfl⟩ rfl rfl dX9_kindOfWord_19 (fun r u H locs hq hW hS => ?_)
        obtain ⟨rfl, rfl⟩ := hq
        have hW : gW g ((h, .inr (6, [.ref r0, .ref r1, .ref r2, .ref r3, .ref r4, .int (nI n), .int f6, .int f7, .int f8, .int (nI ws), .int (nI we), .int f11, .int f12])) :: (r0, .inl (g.2.1 0, 600, .inl (nA tx))) :: R) _ := hW
        refine gIfEqB (tgt := 27) F dX9_kindOfWord_22 (by decide) (fun c_22 => ?_) (fun c_22 => ?_)
        · refine lv_iinc (v := nI (i + 1)) (lv' := [(1, .int (nI (i + 1))), (0, .ref h)]) F.1 F.2.1 dX9_kindOfWord_27 hl (k := 1) rfl (nI_add i 1) (by decide) rfl (fun ls hl => ?_)
          refine lv_goto (tgt := 2) F.1 F.2.1 dX9_kindOfWord_30 (by decide) ?_
          exact ih_2 (i + 1) (by omega) (by rw [← hk, show 15 - i = (15 - (i + 1)) + 1 by omega, kfind, if_neg (of_decide_eq_false c_22)]) (by omega) _ _ _ hW hS (lv_sub hl [1, 0] rfl)
        · refine lv_iload_n F.1 F.2.1 dX9_kindOfWord_25 rfl (lv_at hl 1 rfl) ?_
          refine gRi F hW hS dX9_kindOfWord_26 ?_
          exact ⟨by rw [← hk, show 15 - i = (15 - i - 1) + 1 by omega, kfind, if_pos (of_decide_eq_true c_22)]; rfl, rfl⟩
  exact L_2 _ 0 (by omega) rfl (Nat.lt_succ_self _) _ _ _ hW hS (lv_sub hl [1, 0] rfl)

abbrev rm_X9_tokenNumber : Room := ({ frames := 1, cells := 0, slots := 0, locals := 21 } : Room)
theorem mX9_tokenNumber_1 : Cond.fieldLink RX9 34 "StepperHearts$Reader" "tokenStart" "I" ∈ wsX9_tokenNumber := List.mem_of_getElem? (i := 1) rfl
theorem nX9_tokenNumber_X9 : ∀ w ∈ wsX90, w ∈ wsX9_tokenNumber := fun _ h => List.mem_cons_of_mem _ (List.mem_append_right _ (h))
theorem mX9_tokenNumber_2 : Cond.fieldLink RX9 37 "StepperHearts$Reader" "tokenEnd" "I" ∈ wsX9_tokenNumber := List.mem_of_getElem? (i := 2) rfl
set_option maxRecDepth 100000 in
set_option maxHeartbeats 4000000 in
theorem c_X9_tokenNumber (g : gC) (l : Launch) {h : Nat} {r0 : Nat} {r1 : Nat} {r2 : Nat} {r3 : Nat} {r4 : Nat} {f6 : Int32} {f9 : Int32} {f10 : Int32} {f11 : Int32} {f12 : Int32} {n : Nat} {ts : Nat} {te : Nat} {tx : Nat → Nat} {R : va_W} (hn : n ≤ 600) (d1 : dOk tx n ts te) : cI g l yX9_tokenNumber wsX9_tokenNumber rm_X9_tokenNumber 0 0 [.ref h] ((h, .inr (6, [.ref r0, .ref r1, .ref r2, .ref r3, .ref r4, .int (nI n), .int f6, .int (nI ts), .int (nI te), .int f9, .int f10, .int f11, .int f12])) :: (r0, .inl (g.2.1 0, 600, .inl (nA tx))) :: R) (fun r u => (nI (dec tx ts (te - ts))) = r ∧ (h, .inr (6, [.ref r0, .ref r1, .ref r2, .ref r3, .ref r4, .int (nI n), .int f6, .int (nI ts), .int (nI te), .int f9, .int f10, .int f11, .int f12])) :: (r0, .inl (g.2.1 0, 600, .inl (nA tx))) :: R = u) := by
  refine gEnterQ (cc := cX9_tokenNumber) (maxL := 3) (ret := (some (.int))) (by decide +kernel) rfl (Nat.le_of_ble_eq_true rfl) ?_
  intro p e s m below meth c F hG hW ls hl
  have hS : va_S (gA g) s.heap s.heap [] := va_S.rf
  have hl : lv_has ls 3 [(0, .ref h)] := hl
  have hW : gW g ((h, .inr (6, [.ref r0, .ref r1, .ref r2, .ref r3, .ref r4, .int (nI n), .int f6, .int (nI ts), .int (nI te), .int f9, .int f10, .int f11, .int f12])) :: (r0, .inl (g.2.1 0, 600, .inl (nA tx))) :: R) s.heap := hW
  have a1 := d1.1
  have a2 := d1.2.1
  refine lv_iconst (v := nI 0) F.1 F.2.1 dX9_tokenNumber_0 rfl ?_
  refine lv_istore_n (lv' := [(1, .int (nI 0)), (0, .ref h)]) F.1 F.2.1 dX9_tokenNumber_1 rfl hl (by decide) rfl (fun ls hl => ?_)
  refine lv_aload_n F.1 F.2.1 dX9_tokenNumber_2 rfl (lv_at hl 1 rfl) ?_
  refine gGet F hG hW nX9_tokenNumber_X9 0 rfl rfl 7 (by decide) mX9_tokenNumber_1 rfl dX9_tokenNumber_3 ?_
  refine lv_istore_n (lv' := [(2, .int (nI ts)), (1, .int (nI 0)), (0, .ref h)]) F.1 F.2.1 dX9_tokenNumber_6 rfl hl (by decide) rfl (fun ls hl => ?_)
  have L_7 : ∀ (fu : Nat), ∀ (v : Nat) (i : Nat) (hi : ts ≤ i ∧ i ≤ te) (hv : v = dec tx ts (i - ts)) (hm_7 : te - i < fu) (H : Heap) (locs : List Loc) (ls : Array Slot) (hW : gW g ((h, .inr (6, [.ref r0, .ref r1, .ref r2, .ref r3, .ref r4, .int (nI n), .int f6, .int (nI ts), .int (nI te), .int f9, .int f10, .int f11, .int f12])) :: (r0, .inl (g.2.1 0, 600, .inl (nA tx))) :: R) H) (hS : va_S (gA g) s.heap H locs) (hl : lv_has ls 3 [(0, .ref h), (1, .int (nI v)), (2, .int (nI i))]), W p l e (headSpec wsX9_tokenNumber rm_X9_tokenNumber).room s m ([.ref h] : List Value).toArray below meth c H locs 0 0 (MQ below (va_Qi (fun r u => (nI (dec tx ts (te - ts))) = r ∧ (h, .inr (6, [.ref r0, .ref r1, .ref r2, .ref r3, .ref r4, .int (nI n), .int f6, .int (nI ts), .int (nI te), .int f9, .int f10, .int f11, .int f12])) :: (r0, .inl (g.2.1 0, 600, .inl (nA tx))) :: R = u) (fun u t => gW g u t.heap) (gA g)) ([.ref h] : List Value).toArray s 0 0 (gA g)) (F0 m 7 ls []) := by
    intro fu
    induction fu with
    | zero =>
      intros _ _ _ _ hm_7
      exact absurd hm_7 (Nat.not_lt_zero _)
    | succ fu ih_7 =>
      intro v i hi hv hm_7 H locs ls hW hS hl
      refine lv_iload_n F.1 F.2.1 dX9_tokenNumber_7 rfl (lv_at hl 2 rfl) ?_
      refine lv_aload_n F.1 F.2.1 dX9_tokenNumber_8 rfl (lv_at hl 0 rfl) ?_
      refine gGet F hG hW nX9_tokenNumber_X9 0 rfl rfl 8 (by decide) mX9_tokenNumber_2 rfl dX9_tokenNumber_9 ?_
      refine gGe (tgt := 35) F (by omega) (by omega) dX9_tokenNumber_12 (by decide) (fun c_12 => ?_) (fun c_12 => ?_)
      · refine lv_iload_n F.1 F.2.1 dX9_tokenNumber_35 rfl (lv_at hl 1 rfl) ?_
        refine gRi F hW hS dX9_tokenNumber_36 ?_
        exact ⟨by rw [hv, show i = te by omega], rfl⟩
      · refine lv_iload_n F.1 F.2.1 dX9_tokenNumber_15 rfl (lv_at hl 1 rfl) ?_
        refine lv_bipush (v := nI 10) F.1 F.2.1 dX9_tokenNumber_16 (by decide) ?_
        refine gMul F dX9_tokenNumber_18 ?_
        refine lv_aload_n F.1 F.2.1 dX9_tokenNumber_19 rfl (lv_at hl 0 rfl) ?_
        refine lv_iload_n F.1 F.2.1 dX9_tokenNumber_20 rfl (lv_at hl 2 rfl) ?_
        refine gVi (n := 1) (q := (RX9, TX9, 13)) (q0 := 0) (As := [.int (nI i)]) F hG hS hW (c_X9_byteAt g l  (by omega) (by omega)) rfl gX9_tokenNumber_X9_byteAt rfl rfl rfl (by decide +kernel) ⟨rfl, rfl, Nat.le_of_ble_eq_true rfl, Nat.le_of_ble_eq_true rfl⟩ hl.1 (Nat.le_of_ble_eq_true rfl) ⟨Nat.le_of_ble_eq_true rfl, Nat.le_of_ble_eq_true rfl⟩ rfl rfl dX9_tokenNumber_21 (fun r u H locs hq hW hS => ?_)
        obtain ⟨rfl, rfl⟩ := hq
        have hW : gW g ((h, .inr (6, [.ref r0, .ref r1, .ref r2, .ref r3, .ref r4, .int (nI n), .int f6, .int (nI ts), .int (nI te), .int f9, .int f10, .int f11, .int f12])) :: (r0, .inl (g.2.1 0, 600, .inl (nA tx))) :: R) _ := hW
        refine gAdd F dX9_tokenNumber_24 ?_
        refine lv_bipush (v := nI 48) F.1 F.2.1 dX9_tokenNumber_25 (by decide) ?_
        have x1 := isD_b (d1.2.2.2 i hi.1 c_12)
        refine gSub F (by omega) dX9_tokenNumber_27 ?_
        refine lv_istore_n (lv' := [(1, .int (nI (((v * 10) + (tx i)) - 48))), (0, .ref h), (2, .int (nI i))]) F.1 F.2.1 dX9_tokenNumber_28 rfl hl (by decide) rfl (fun ls hl => ?_)
        refine lv_iinc (v := nI (i + 1)) (lv' := [(2, .int (nI (i + 1))), (1, .int (nI (((v * 10) + (tx i)) - 48))), (0, .ref h)]) F.1 F.2.1 dX9_tokenNumber_29 hl (k := 2) rfl (nI_add i 1) (by decide) rfl (fun ls hl => ?_)
        refine lv_goto (tgt := 7) F.1 F.2.1 dX9_tokenNumber_32 (by decide) ?_
        exact ih_7 (((v * 10) + (tx i)) - 48) (i + 1) (by omega) (by rw [show i + 1 - ts = (i - ts) + 1 by omega, dec, show ts + (i - ts) = i by omega, ← hv]) (by omega) _ _ _ hW hS (lv_sub hl [2, 1, 0] rfl)
  exact L_7 _ 0 ts (by omega) (by rw [Nat.sub_self]; rfl) (Nat.lt_succ_self _) _ _ _ hW hS (lv_sub hl [2, 1, 0] rfl)

abbrev rm_X9_keepMark : Room := ({ frames := 0, cells := 0, slots := 0, locals := 0 } : Room)
theorem mX9_keepMark_1 : Cond.fieldLink RX9 15 "StepperHearts$Reader" "markStarts" "[I" ∈ wsX9_keepMark := List.mem_of_getElem? (i := 1) rfl
theorem nX9_keepMark_X9 : ∀ w ∈ wsX90, w ∈ wsX9_keepMark := fun _ h => List.mem_cons_of_mem _ (List.mem_append_right _ (h))
theorem mX9_keepMark_2 : Cond.fieldLink RX9 18 "StepperHearts$Reader" "markEnds" "[I" ∈ wsX9_keepMark := List.mem_of_getElem? (i := 2) rfl
set_option maxRecDepth 100000 in
set_option maxHeartbeats 4000000 in
theorem c_X9_keepMark (g : gC) (l : Launch) {h : Nat} {r0 : Nat} {r1 : Nat} {r2 : Nat} {r3 : Nat} {r4 : Nat} {f5 : Int32} {f6 : Int32} {f7 : Int32} {f8 : Int32} {f9 : Int32} {f10 : Int32} {f11 : Int32} {f12 : Int32} {mm : Nat} {s1 : Nat} {e1 : Nat} {ms : Nat → Nat} {me : Nat → Nat} {R : va_W} (hm : mm < 100) : cV g l yX9_keepMark wsX9_keepMark rm_X9_keepMark 0 0 [.ref h, .int (nI mm), .int (nI s1), .int (nI e1)] ((h, .inr (6, [.ref r0, .ref r1, .ref r2, .ref r3, .ref r4, .int f5, .int f6, .int f7, .int f8, .int f9, .int f10, .int f11, .int f12])) :: (r1, .inl (g.2.1 0, 100, .inl (nA ms))) :: (r2, .inl (g.2.1 0, 100, .inl (nA me))) :: R) (fun u => (h, .inr (6, [.ref r0, .ref r1, .ref r2, .ref r3, .ref r4, .int f5, .int f6, .int f7, .int f8, .int f9, .int f10, .int f11, .int f12])) :: (r1, .inl (g.2.1 0, 100, .inl (nA (updN ms mm s1)))) :: (r2, .inl (g.2.1 0, 100, .inl (nA (updN me mm e1)))) :: R = u) := by
  refine gEnterQ (cc := cX9_keepMark) (maxL := 4) (ret := none) (by decide +kernel) rfl (Nat.le_of_ble_eq_true rfl) ?_
  intro p e s m below meth c F hG hW ls hl
  have hS : va_S (gA g) s.heap s.heap [] := va_S.rf
  have hl : lv_has ls 4 [(0, .ref h), (1, .int (nI mm)), (2, .int (nI s1)), (3, .int (nI e1))] := hl
  have hW : gW g ((h, .inr (6, [.ref r0, .ref r1, .ref r2, .ref r3, .ref r4, .int f5, .int f6, .int f7, .int f8, .int f9, .int f10, .int f11, .int f12])) :: (r1, .inl (g.2.1 0, 100, .inl (nA ms))) :: (r2, .inl (g.2.1 0, 100, .inl (nA me))) :: R) s.heap := hW
  refine lv_iload_n F.1 F.2.1 dX9_keepMark_0 rfl (lv_at hl 1 rfl) ?_
  refine gIfLt (tgt := 24) F (by omega) dX9_keepMark_1 (by decide) (fun c_1 => by exfalso; omega) (fun c_1 => ?_)
  refine lv_iload_n F.1 F.2.1 dX9_keepMark_4 rfl (lv_at hl 1 rfl) ?_
  refine lv_bipush (v := nI 100) F.1 F.2.1 dX9_keepMark_5 (by decide) ?_
  refine gGe (tgt := 24) F (by omega) (by omega) dX9_keepMark_7 (by decide) (fun c_7 => by exfalso; omega) (fun c_7 => ?_)
  refine lv_aload_n F.1 F.2.1 dX9_keepMark_10 rfl (lv_at hl 0 rfl) ?_
  refine gGet F hG hW nX9_keepMark_X9 0 rfl rfl 1 (by decide) mX9_keepMark_1 rfl dX9_keepMark_11 ?_
  refine lv_iload_n F.1 F.2.1 dX9_keepMark_14 rfl (lv_at hl 1 rfl) ?_
  refine lv_iload_n F.1 F.2.1 dX9_keepMark_15 rfl (lv_at hl 2 rfl) ?_
  refine gStIN (w2 := (h, .inr (6, [.ref r0, .ref r1, .ref r2, .ref r3, .ref r4, .int f5, .int f6, .int f7, .int f8, .int f9, .int f10, .int f11, .int f12])) :: (r1, .inl (g.2.1 0, 100, .inl (nA (updN ms mm s1)))) :: (r2, .inl (g.2.1 0, 100, .inl (nA me))) :: R) F hG hW 1 rfl (by omega) (by decide) hS rfl dX9_keepMark_16 (fun H locs hW hS => ?_)
  refine lv_aload_n F.1 F.2.1 dX9_keepMark_17 rfl (lv_at hl 0 rfl) ?_
  refine gGet F hG hW nX9_keepMark_X9 0 rfl rfl 2 (by decide) mX9_keepMark_2 rfl dX9_keepMark_18 ?_
  refine lv_iload_n F.1 F.2.1 dX9_keepMark_21 rfl (lv_at hl 1 rfl) ?_
  refine lv_iload_n F.1 F.2.1 dX9_keepMark_22 rfl (lv_at hl 3 rfl) ?_
  refine gStIN (w2 := (h, .inr (6, [.ref r0, .ref r1, .ref r2, .ref r3, .ref r4, .int f5, .int f6, .int f7, .int f8, .int f9, .int f10, .int f11, .int f12])) :: (r1, .inl (g.2.1 0, 100, .inl (nA (updN ms mm s1)))) :: (r2, .inl (g.2.1 0, 100, .inl (nA (updN me mm e1)))) :: R) F hG hW 2 rfl (by omega) (by decide) hS rfl dX9_keepMark_23 (fun H locs hW hS => ?_)
  refine gRv F hW hS dX9_keepMark_24 ?_
  rfl

abbrev rm_X9_keepMark_o : Room := ({ frames := 0, cells := 0, slots := 0, locals := 0 } : Room)
set_option maxRecDepth 100000 in
set_option maxHeartbeats 4000000 in
theorem c_X9_keepMark_o (g : gC) (l : Launch) {h : Nat} {r0 : Nat} {r1 : Nat} {r2 : Nat} {r3 : Nat} {r4 : Nat} {f5 : Int32} {f6 : Int32} {f7 : Int32} {f8 : Int32} {f9 : Int32} {f10 : Int32} {f11 : Int32} {f12 : Int32} {mm : Nat} {s1 : Nat} {e1 : Nat} {ms : Nat → Nat} {me : Nat → Nat} {R : va_W} (hm : 100 ≤ mm) (hb : mm < 2 ^ 31) : cV g l yX9_keepMark wsX9_keepMark rm_X9_keepMark_o 0 0 [.ref h, .int (nI mm), .int (nI s1), .int (nI e1)] ((h, .inr (6, [.ref r0, .ref r1, .ref r2, .ref r3, .ref r4, .int f5, .int f6, .int f7, .int f8, .int f9, .int f10, .int f11, .int f12])) :: (r1, .inl (g.2.1 0, 100, .inl (nA ms))) :: (r2, .inl (g.2.1 0, 100, .inl (nA me))) :: R) (fun u => (h, .inr (6, [.ref r0, .ref r1, .ref r2, .ref r3, .ref r4, .int f5, .int f6, .int f7, .int f8, .int f9, .int f10, .int f11, .int f12])) :: (r1, .inl (g.2.1 0, 100, .inl (nA ms))) :: (r2, .inl (g.2.1 0, 100, .inl (nA me))) :: R = u) := by
  refine gEnterQ (cc := cX9_keepMark) (maxL := 4) (ret := none) (by decide +kernel) rfl (Nat.le_of_ble_eq_true rfl) ?_
  intro p e s m below meth c F hG hW ls hl
  have hS : va_S (gA g) s.heap s.heap [] := va_S.rf
  have hl : lv_has ls 4 [(0, .ref h), (1, .int (nI mm)), (2, .int (nI s1)), (3, .int (nI e1))] := hl
  have hW : gW g ((h, .inr (6, [.ref r0, .ref r1, .ref r2, .ref r3, .ref r4, .int f5, .int f6, .int f7, .int f8, .int f9, .int f10, .int f11, .int f12])) :: (r1, .inl (g.2.1 0, 100, .inl (nA ms))) :: (r2, .inl (g.2.1 0, 100, .inl (nA me))) :: R) s.heap := hW
  refine lv_iload_n F.1 F.2.1 dX9_keepMark_0 rfl (lv_at hl 1 rfl) ?_
  refine gIfLt (tgt := 24) F (by omega) dX9_keepMark_1 (by decide) (fun c_1 => by exfalso; omega) (fun c_1 => ?_)
  refine lv_iload_n F.1 F.2.1 dX9_keepMark_4 rfl (lv_at hl 1 rfl) ?_
  refine lv_bipush (v := nI 100) F.1 F.2.1 dX9_keepMark_5 (by decide) ?_
  refine gGe (tgt := 24) F (by omega) (by omega) dX9_keepMark_7 (by decide) (fun c_7 => ?_) (fun c_7 => by exfalso; omega)
  refine gRv F hW hS dX9_keepMark_24 ?_
  rfl

abbrev rm_X9_keepGoal : Room := ({ frames := 0, cells := 0, slots := 0, locals := 0 } : Room)
theorem mX9_keepGoal_1 : Cond.fieldLink RX9 21 "StepperHearts$Reader" "goalStarts" "[I" ∈ wsX9_keepGoal := List.mem_of_getElem? (i := 1) rfl
theorem nX9_keepGoal_X9 : ∀ w ∈ wsX90, w ∈ wsX9_keepGoal := fun _ h => List.mem_cons_of_mem _ (List.mem_append_right _ (h))
theorem mX9_keepGoal_2 : Cond.fieldLink RX9 40 "StepperHearts$Reader" "wordStart" "I" ∈ wsX9_keepGoal := List.mem_of_getElem? (i := 2) rfl
theorem mX9_keepGoal_3 : Cond.fieldLink RX9 24 "StepperHearts$Reader" "goalEnds" "[I" ∈ wsX9_keepGoal := List.mem_of_getElem? (i := 3) rfl
theorem mX9_keepGoal_4 : Cond.fieldLink RX9 43 "StepperHearts$Reader" "wordEnd" "I" ∈ wsX9_keepGoal := List.mem_of_getElem? (i := 4) rfl
set_option maxRecDepth 100000 in
set_option maxHeartbeats 4000000 in
theorem c_X9_keepGoal (g : gC) (l : Launch) {h : Nat} {r0 : Nat} {r1 : Nat} {r2 : Nat} {r3 : Nat} {r4 : Nat} {f5 : Int32} {f6 : Int32} {f7 : Int32} {f8 : Int32} {f11 : Int32} {f12 : Int32} {mm : Nat} {ws : Nat} {we : Nat} {gS : Nat → Nat} {gE : Nat → Nat} {R : va_W} (hm : mm < 100) : cV g l yX9_keepGoal wsX9_keepGoal rm_X9_keepGoal 0 0 [.ref h, .int (nI mm)] ((h, .inr (6, [.ref r0, .ref r1, .ref r2, .ref r3, .ref r4, .int f5, .int f6, .int f7, .int f8, .int (nI ws), .int (nI we), .int f11, .int f12])) :: (r3, .inl (g.2.1 0, 100, .inl (nA gS))) :: (r4, .inl (g.2.1 0, 100, .inl (nA gE))) :: R) (fun u => (h, .inr (6, [.ref r0, .ref r1, .ref r2, .ref r3, .ref r4, .int f5, .int f6, .int f7, .int f8, .int (nI ws), .int (nI we), .int f11, .int f12])) :: (r3, .inl (g.2.1 0, 100, .inl (nA (updN gS mm ws)))) :: (r4, .inl (g.2.1 0, 100, .inl (nA (updN gE mm we)))) :: R = u) := by
  refine gEnterQ (cc := cX9_keepGoal) (maxL := 2) (ret := none) (by decide +kernel) rfl (Nat.le_of_ble_eq_true rfl) ?_
  intro p e s m below meth c F hG hW ls hl
  have hS : va_S (gA g) s.heap s.heap [] := va_S.rf
  have hl : lv_has ls 2 [(0, .ref h), (1, .int (nI mm))] := hl
  have hW : gW g ((h, .inr (6, [.ref r0, .ref r1, .ref r2, .ref r3, .ref r4, .int f5, .int f6, .int f7, .int f8, .int (nI ws), .int (nI we), .int f11, .int f12])) :: (r3, .inl (g.2.1 0, 100, .inl (nA gS))) :: (r4, .inl (g.2.1 0, 100, .inl (nA gE))) :: R) s.heap := hW
  refine lv_iload_n F.1 F.2.1 dX9_keepGoal_0 rfl (lv_at hl 1 rfl) ?_
  refine gIfLt (tgt := 30) F (by omega) dX9_keepGoal_1 (by decide) (fun c_1 => by exfalso; omega) (fun c_1 => ?_)
  refine lv_iload_n F.1 F.2.1 dX9_keepGoal_4 rfl (lv_at hl 1 rfl) ?_
  refine lv_bipush (v := nI 100) F.1 F.2.1 dX9_keepGoal_5 (by decide) ?_
  refine gGe (tgt := 30) F (by omega) (by omega) dX9_keepGoal_7 (by decide) (fun c_7 => by exfalso; omega) (fun c_7 => ?_)
  refine lv_aload_n F.1 F.2.1 dX9_keepGoal_10 rfl (lv_at hl 0 rfl) ?_
  refine gGet F hG hW nX9_keepGoal_X9 0 rfl rfl 3 (by decide) mX9_keepGoal_1 rfl dX9_keepGoal_11 ?_
  refine lv_iload_n F.1 F.2.1 dX9_keepGoal_14 rfl (lv_at hl 1 rfl) ?_
  refine lv_aload_n F.1 F.2.1 dX9_keepGoal_15 rfl (lv_at hl 0 rfl) ?_
  refine gGet F hG hW nX9_keepGoal_X9 0 rfl rfl 9 (by decide) mX9_keepGoal_2 rfl dX9_keepGoal_16 ?_
  refine gStIN (w2 := (h, .inr (6, [.ref r0, .ref r1, .ref r2, .ref r3, .ref r4, .int f5, .int f6, .int f7, .int f8, .int (nI ws), .int (nI we), .int f11, .int f12])) :: (r3, .inl (g.2.1 0, 100, .inl (nA (updN gS mm ws)))) :: (r4, .inl (g.2.1 0, 100, .inl (nA gE))) :: R) F hG hW 1 rfl (by omega) (by decide) hS rfl dX9_keepGoal_19 (fun H locs hW hS => ?_)
  refine lv_aload_n F.1 F.2.1 dX9_keepGoal_20 rfl (lv_at hl 0 rfl) ?_
  refine gGet F hG hW nX9_keepGoal_X9 0 rfl rfl 4 (by decide) mX9_keepGoal_3 rfl dX9_keepGoal_21 ?_
  refine lv_iload_n F.1 F.2.1 dX9_keepGoal_24 rfl (lv_at hl 1 rfl) ?_
  refine lv_aload_n F.1 F.2.1 dX9_keepGoal_25 rfl (lv_at hl 0 rfl) ?_
  refine gGet F hG hW nX9_keepGoal_X9 0 rfl rfl 10 (by decide) mX9_keepGoal_4 rfl dX9_keepGoal_26 ?_
  refine gStIN (w2 := (h, .inr (6, [.ref r0, .ref r1, .ref r2, .ref r3, .ref r4, .int f5, .int f6, .int f7, .int f8, .int (nI ws), .int (nI we), .int f11, .int f12])) :: (r3, .inl (g.2.1 0, 100, .inl (nA (updN gS mm ws)))) :: (r4, .inl (g.2.1 0, 100, .inl (nA (updN gE mm we)))) :: R) F hG hW 2 rfl (by omega) (by decide) hS rfl dX9_keepGoal_29 (fun H locs hW hS => ?_)
  refine gRv F hW hS dX9_keepGoal_30 ?_
  rfl

abbrev rm_X9_readWord_y : Room := ({ frames := 2, cells := 0, slots := 0, locals := 43 } : Room)
theorem mX9_readWord_1 : Cond.fieldLink RX9 31 "StepperHearts$Reader" "token" "I" ∈ wsX9_readWord := List.mem_of_getElem? (i := 1) rfl
theorem nX9_readWord_X9 : ∀ w ∈ wsX90, w ∈ wsX9_readWord := fun _ h => List.mem_cons_of_mem _ (List.mem_append_right _ (h))
theorem mX9_readWord_2 : Cond.fieldLink RX9 34 "StepperHearts$Reader" "tokenStart" "I" ∈ wsX9_readWord := List.mem_of_getElem? (i := 2) rfl
theorem mX9_readWord_3 : Cond.fieldLink RX9 40 "StepperHearts$Reader" "wordStart" "I" ∈ wsX9_readWord := List.mem_of_getElem? (i := 3) rfl
theorem mX9_readWord_4 : Cond.fieldLink RX9 37 "StepperHearts$Reader" "tokenEnd" "I" ∈ wsX9_readWord := List.mem_of_getElem? (i := 4) rfl
theorem mX9_readWord_5 : Cond.fieldLink RX9 43 "StepperHearts$Reader" "wordEnd" "I" ∈ wsX9_readWord := List.mem_of_getElem? (i := 5) rfl
set_option maxRecDepth 100000 in
set_option maxHeartbeats 4000000 in
theorem c_X9_readWord_y (g : gC) (l : Launch) {h : Nat} {r0 : Nat} {r1 : Nat} {r2 : Nat} {r3 : Nat} {r4 : Nat} {f9 : Int32} {f10 : Int32} {f11 : Int32} {f12 : Int32} {n : Nat} {tk : Nat} {ts : Nat} {te : Nat} {tx : Nat → Nat} {R : va_W} (hn : n ≤ 600) (hx : ∀ j, tx j < 256) (hk : tk = 1) (ht : te ≤ n) : cI g l yX9_readWord wsX9_readWord rm_X9_readWord_y 0 0 [.ref h] ((h, .inr (6, [.ref r0, .ref r1, .ref r2, .ref r3, .ref r4, .int (nI n), .int (nI tk), .int (nI ts), .int (nI te), .int f9, .int f10, .int f11, .int f12])) :: (r0, .inl (g.2.1 0, 600, .inl (nA tx))) :: R) (fun r u => (bI true) = r ∧ (h, .inr (6, [.ref r0, .ref r1, .ref r2, .ref r3, .ref r4, .int (nI n), .int (nI (tkK tx n te)), .int (nI (tkS tx n te)), .int (nI (tkE tx n te)), .int (nI ts), .int (nI te), .int f11, .int f12])) :: (r0, .inl (g.2.1 0, 600, .inl (nA tx))) :: R = u) := by
  refine gEnterQ (cc := cX9_readWord) (maxL := 1) (ret := (some (.boolean))) (by decide +kernel) rfl (Nat.le_of_ble_eq_true rfl) ?_
  intro p e s m below meth c F hG hW ls hl
  have hS : va_S (gA g) s.heap s.heap [] := va_S.rf
  have hl : lv_has ls 1 [(0, .ref h)] := hl
  have hW : gW g ((h, .inr (6, [.ref r0, .ref r1, .ref r2, .ref r3, .ref r4, .int (nI n), .int (nI tk), .int (nI ts), .int (nI te), .int f9, .int f10, .int f11, .int f12])) :: (r0, .inl (g.2.1 0, 600, .inl (nA tx))) :: R) s.heap := hW
  refine lv_aload_n F.1 F.2.1 dX9_readWord_0 rfl (lv_at hl 0 rfl) ?_
  refine gGet F hG hW nX9_readWord_X9 0 rfl rfl 6 (by decide) mX9_readWord_1 rfl dX9_readWord_1 ?_
  refine lv_iconst (v := nI 1) F.1 F.2.1 dX9_readWord_4 rfl ?_
  refine gEq (tgt := 18) F (by omega) (by omega) dX9_readWord_5 (by decide) (fun c_5 => ?_) (fun c_5 => by exfalso; omega)
  refine lv_aload_n F.1 F.2.1 dX9_readWord_18 rfl (lv_at hl 0 rfl) ?_
  refine lv_aload_n F.1 F.2.1 dX9_readWord_19 rfl (lv_at hl 0 rfl) ?_
  refine gGet F hG hW nX9_readWord_X9 0 rfl rfl 7 (by decide) mX9_readWord_2 rfl dX9_readWord_20 ?_
  refine gPut (w2 := (h, .inr (6, [.ref r0, .ref r1, .ref r2, .ref r3, .ref r4, .int (nI n), .int (nI tk), .int (nI ts), .int (nI te), .int (nI ts), .int f10, .int f11, .int f12])) :: (r0, .inl (g.2.1 0, 600, .inl (nA tx))) :: R) F hS hG hW nX9_readWord_X9 0 rfl rfl 9 (by decide) tyX9 tyX9_ok nmX9 mX9_readWord_3 rfl rfl rfl rfl (Nat.le_of_ble_eq_true rfl) rfl dX9_readWord_23 (fun H locs hW hS => ?_)
  refine lv_aload_n F.1 F.2.1 dX9_readWord_26 rfl (lv_at hl 0 rfl) ?_
  refine lv_aload_n F.1 F.2.1 dX9_readWord_27 rfl (lv_at hl 0 rfl) ?_
  refine gGet F hG hW nX9_readWord_X9 0 rfl rfl 8 (by decide) mX9_readWord_4 rfl dX9_readWord_28 ?_
  refine gPut (w2 := (h, .inr (6, [.ref r0, .ref r1, .ref r2, .ref r3, .ref r4, .int (nI n), .int (nI tk), .int (nI ts), .int (nI te), .int (nI ts), .int (nI te), .int f11, .int f12])) :: (r0, .inl (g.2.1 0, 600, .inl (nA tx))) :: R) F hS hG hW nX9_readWord_X9 0 rfl rfl 10 (by decide) tyX9 tyX9_ok nmX9 mX9_readWord_5 rfl rfl rfl rfl (Nat.le_of_ble_eq_true rfl) rfl dX9_readWord_31 (fun H locs hW hS => ?_)
  refine lv_aload_n F.1 F.2.1 dX9_readWord_34 rfl (lv_at hl 0 rfl) ?_
  refine gVv (n := 0) (q := (RX9, TX9, 13)) (q0 := 0) (As := []) F hG hS hW (c_X9_advance g l  (by omega) (by omega) hx) rfl gX9_readWord_X9_advance rfl rfl rfl (by decide +kernel) ⟨rfl, rfl, Nat.le_of_ble_eq_true rfl, Nat.le_of_ble_eq_true rfl⟩ hl.1 (Nat.le_of_ble_eq_true rfl) ⟨Nat.le_of_ble_eq_true rfl, Nat.le_of_ble_eq_true rfl⟩ rfl rfl dX9_readWord_35 (fun u H locs hq hW hS => ?_)
  obtain rfl := hq
  have hW : gW g ((h, .inr (6, [.ref r0, .ref r1, .ref r2, .ref r3, .ref r4, .int (nI n), .int (nI (tkK tx n te)), .int (nI (tkS tx n te)), .int (nI (tkE tx n te)), .int (nI ts), .int (nI te), .int f11, .int f12])) :: (r0, .inl (g.2.1 0, 600, .inl (nA tx))) :: R) _ := hW
  refine lv_iconst (v := nI 1) F.1 F.2.1 dX9_readWord_38 rfl ?_
  refine gRz rfl F hW hS dX9_readWord_39 ?_
  exact ⟨rfl, rfl⟩

abbrev rm_X9_readWord_n : Room := ({ frames := 1, cells := 0, slots := 0, locals := 22 } : Room)
set_option maxRecDepth 100000 in
set_option maxHeartbeats 4000000 in
theorem c_X9_readWord_n (g : gC) (l : Launch) {h : Nat} {r0 : Nat} {r1 : Nat} {r2 : Nat} {r3 : Nat} {r4 : Nat} {f9 : Int32} {f10 : Int32} {f11 : Int32} {f12 : Int32} {n : Nat} {tk : Nat} {ts : Nat} {te : Nat} {tx : Nat → Nat} {R : va_W} (hk : tk ≠ 1) (hk5 : tk ≤ 5) : cI g l yX9_readWord wsX9_readWord rm_X9_readWord_n 0 0 [.ref h] ((h, .inr (6, [.ref r0, .ref r1, .ref r2, .ref r3, .ref r4, .int (nI n), .int (nI tk), .int (nI ts), .int (nI te), .int f9, .int f10, .int f11, .int f12])) :: (r0, .inl (g.2.1 0, 600, .inl (nA tx))) :: R) (fun r u => (bI false) = r ∧ (h, .inr (6, [.ref r0, .ref r1, .ref r2, .ref r3, .ref r4, .int (nI n), .int (nI tk), .int (nI ts), .int (nI te), .int f9, .int f10, .int (nI 1), .int (nI ts)])) :: (r0, .inl (g.2.1 0, 600, .inl (nA tx))) :: R = u) := by
  refine gEnterQ (cc := cX9_readWord) (maxL := 1) (ret := (some (.boolean))) (by decide +kernel) rfl (Nat.le_of_ble_eq_true rfl) ?_
  intro p e s m below meth c F hG hW ls hl
  have hS : va_S (gA g) s.heap s.heap [] := va_S.rf
  have hl : lv_has ls 1 [(0, .ref h)] := hl
  have hW : gW g ((h, .inr (6, [.ref r0, .ref r1, .ref r2, .ref r3, .ref r4, .int (nI n), .int (nI tk), .int (nI ts), .int (nI te), .int f9, .int f10, .int f11, .int f12])) :: (r0, .inl (g.2.1 0, 600, .inl (nA tx))) :: R) s.heap := hW
  refine lv_aload_n F.1 F.2.1 dX9_readWord_0 rfl (lv_at hl 0 rfl) ?_
  refine gGet F hG hW nX9_readWord_X9 0 rfl rfl 6 (by decide) mX9_readWord_1 rfl dX9_readWord_1 ?_
  refine lv_iconst (v := nI 1) F.1 F.2.1 dX9_readWord_4 rfl ?_
  refine gEq (tgt := 18) F (by omega) (by omega) dX9_readWord_5 (by decide) (fun c_5 => by exfalso; omega) (fun c_5 => ?_)
  refine lv_aload_n F.1 F.2.1 dX9_readWord_8 rfl (lv_at hl 0 rfl) ?_
  refine lv_iconst (v := nI 1) F.1 F.2.1 dX9_readWord_9 rfl ?_
  refine lv_aload_n F.1 F.2.1 dX9_readWord_10 rfl (lv_at hl 0 rfl) ?_
  refine gGet F hG hW nX9_readWord_X9 0 rfl rfl 7 (by decide) mX9_readWord_2 rfl dX9_readWord_11 ?_
  refine gVi (n := 2) (q := (RX9, TX9, 13)) (q0 := 0) (As := [.int (nI 1), .int (nI ts)]) F hG hS hW (c_X9_fail g l  ) rfl gX9_readWord_X9_fail rfl rfl rfl (by decide +kernel) ⟨rfl, rfl, Nat.le_of_ble_eq_true rfl, Nat.le_of_ble_eq_true rfl⟩ hl.1 (Nat.le_of_ble_eq_true rfl) ⟨Nat.le_of_ble_eq_true rfl, Nat.le_of_ble_eq_true rfl⟩ rfl rfl dX9_readWord_14 (fun r u H locs hq hW hS => ?_)
  obtain ⟨rfl, rfl⟩ := hq
  have hW : gW g ((h, .inr (6, [.ref r0, .ref r1, .ref r2, .ref r3, .ref r4, .int (nI n), .int (nI tk), .int (nI ts), .int (nI te), .int f9, .int f10, .int (nI 1), .int (nI ts)])) :: (r0, .inl (g.2.1 0, 600, .inl (nA tx))) :: R) _ := hW
  refine gRz bI_nr F hW hS dX9_readWord_17 ?_
  exact ⟨rfl, rfl⟩

