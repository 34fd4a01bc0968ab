/-! ===== texts: bytes, tokens, words (written by wip/whole/gen/spec5.py) ===== -/
def isL (b : Nat) : Bool := decide (97 ≤ b) && decide (b ≤ 122)
def isD (b : Nat) : Bool := decide (48 ≤ b) && decide (b ≤ 57)
def isBl (b : Nat) : Bool := decide (b = 32) || decide (b = 10)
theorem isL_b {b : Nat} (h : isL b = true) : 97 ≤ b ∧ b ≤ 122 := by
  unfold isL at h
  rw [Bool.and_eq_true] at h
  exact ⟨of_decide_eq_true h.1, of_decide_eq_true h.2⟩
theorem isD_b {b : Nat} (h : isD b = true) : 48 ≤ b ∧ b ≤ 57 := by
  unfold isD at h
  rw [Bool.and_eq_true] at h
  exact ⟨of_decide_eq_true h.1, of_decide_eq_true h.2⟩
def scF (p : Nat → Bool) (n : Nat) : Nat → Nat → Nat
  | 0, k => k
  | f + 1, k => if k < n ∧ p k = true then scF p n f (k + 1) else k
/-- from k on past all that are p, up to n -/
def scan (p : Nat → Bool) (n k : Nat) : Nat := scF p n (n - k) k
theorem scan_s {p : Nat → Bool} {n k : Nat} (h : k < n) (hp : p k = true) : scan p n k = scan p n (k + 1) := by
  unfold scan
  rw [show n - k = (n - (k + 1)) + 1 by omega, scF, if_pos ⟨h, hp⟩]
theorem scan_p {p : Nat → Bool} {n k : Nat} (h : k < n) (hp : p k = false) : scan p n k = k := by
  unfold scan
  rw [show n - k = (n - (k + 1)) + 1 by omega, scF, if_neg (fun z => by rw [z.2] at hp; cases hp)]
theorem scan_n {p : Nat → Bool} {n k : Nat} (h : n ≤ k) : scan p n k = k := by
  unfold scan
  rw [show n - k = 0 by omega, scF]
theorem scan_ind {p : Nat → Bool} {n : Nat} {M : Nat → Nat → Prop} (hs : ∀ k r, k < n → p k = true → M (k + 1) r → M k r) (h0 : ∀ k, scan p n k = k → M k k) : ∀ d k, n - k ≤ d → M k (scan p n k) := by
  intro d
  induction d with
  | zero => intro k h; rw [scan_n (by omega)]; exact h0 k (scan_n (by omega))
  | succ d ih =>
    intro k h
    rcases Nat.lt_or_ge k n with q | q
    · cases hp : p k with
      | true => rw [scan_s q hp]; exact hs k _ q hp (ih (k + 1) (by omega))
      | false => rw [scan_p q hp]; exact h0 k (scan_p q hp)
    · rw [scan_n q]; exact h0 k (scan_n q)
theorem scan_ge (p : Nat → Bool) (n k : Nat) : k ≤ scan p n k :=
  scan_ind (M := fun k r => k ≤ r) (fun k r _ _ h => by omega) (fun k _ => Nat.le_refl k) (n - k) k (Nat.le_refl _)
theorem scan_le (p : Nat → Bool) {n k : Nat} (h : k ≤ n) : scan p n k ≤ n := by
  have := scan_ind (p := p) (n := n) (M := fun k r => k ≤ n → r ≤ n) (fun k r q hp h z => h (by omega)) (fun k _ z => z) (n - k) k (Nat.le_refl _)
  exact this h
theorem scan_in {p : Nat → Bool} {n k j : Nat} (h1 : k ≤ j) (h2 : j < scan p n k) : p j = true := by
  have := scan_ind (p := p) (n := n) (M := fun k r => ∀ j, k ≤ j → j < r → p j = true) (fun k r q hp h j h1 h2 => by
    rcases Nat.lt_or_ge k j with z | z
    · exact h j z h2
    · rw [show j = k by omega]; exact hp) (fun k _ j h1 h2 => by omega) (n - k) k (Nat.le_refl _)
  exact this j h1 h2
theorem scan_end {p : Nat → Bool} {n k : Nat} (h : scan p n k < n) : p (scan p n k) = false := by
  have := scan_ind (p := p) (n := n) (M := fun k r => r < n → p r = false) (fun k r q hp h z => h z) (fun k e z => by
    cases hp : p k with
    | false => rfl
    | true => have h1 := scan_s z hp; have h2 := scan_ge p n (k + 1); omega) (n - k) k (Nat.le_refl _)
  exact this h
/-- the token that begins at or behind k: its sort (0 none, 1 a word, 2 a whole, 3 :, 4 ;, 5 the end), its place, its end -/
def tkS (tx : Nat → Nat) (n k : Nat) : Nat := scan (fun j => isBl (tx j)) n k
def tkE (tx : Nat → Nat) (n k : Nat) : Nat :=
  if tkS tx n k < n then (if isL (tx (tkS tx n k)) = true then scan (fun j => isL (tx j)) n (tkS tx n k + 1) else if isD (tx (tkS tx n k)) = true then scan (fun j => isD (tx j)) n (tkS tx n k + 1) else tkS tx n k + 1) else tkS tx n k
def tkK (tx : Nat → Nat) (n k : Nat) : Nat :=
  if tkS tx n k < n then (if isL (tx (tkS tx n k)) = true then (if tkE tx n k - tkS tx n k ≤ 8 then 1 else 0) else if isD (tx (tkS tx n k)) = true then (if tkE tx n k - tkS tx n k ≤ 3 then 2 else 0) else if tx (tkS tx n k) = 58 then 3 else if tx (tkS tx n k) = 59 then 4 else 0) else 5

abbrev rm_X9_isBlank : Room := ({ frames := 0, cells := 0, slots := 0, locals := 0 } : Room)
set_option maxRecDepth 100000 in
set_option maxHeartbeats 4000000 in
theorem c_X9_isBlank (g : gC) (l : Launch) {k : Nat} {R : va_W} (hk : k < 2 ^ 31) : cI g l yX9_isBlank wsX9_isBlank rm_X9_isBlank 0 0 [.int (nI k)] (R) (fun r u => (bI (isBl k)) = r ∧ R = u) := by
  refine gEnterQ (cc := cX9_isBlank) (maxL := 1) (ret := (some (.boolean))) (by decide +kernel) rfl (Nat.le_of_ble_eq_true rfl) ?_
  intro p e s m below meth c F hG hW ls hl
  have hS : va_S (gA g) s.heap s.heap [] := va_S.rf
  have hl : lv_has ls 1 [(0, .int (nI k))] := hl
  have hW : gW g (R) s.heap := hW
  refine lv_iload_n F.1 F.2.1 dX9_isBlank_0 rfl (lv_at hl 0 rfl) ?_
  refine lv_bipush (v := nI 32) F.1 F.2.1 dX9_isBlank_1 (by decide) ?_
  refine gEq (tgt := 12) F (by omega) (by omega) dX9_isBlank_3 (by decide) (fun c_3 => ?_) (fun c_3 => ?_)
  · refine lv_iconst (v := nI 1) F.1 F.2.1 dX9_isBlank_12 rfl ?_
    refine lv_goto (tgt := 17) F.1 F.2.1 dX9_isBlank_13 (by decide) ?_
    refine gRz rfl F hW hS dX9_isBlank_17 ?_
    exact ⟨by rw [show isBl k = true by rw [isBl, decide_eq_true c_3]; rfl]; rfl, rfl⟩
  · refine lv_iload_n F.1 F.2.1 dX9_isBlank_6 rfl (lv_at hl 0 rfl) ?_
    refine lv_bipush (v := nI 10) F.1 F.2.1 dX9_isBlank_7 (by decide) ?_
    refine gNe (tgt := 16) F (by omega) (by omega) dX9_isBlank_9 (by decide) (fun c_9 => ?_) (fun c_9 => ?_)
    · refine lv_iconst (v := nI 0) F.1 F.2.1 dX9_isBlank_16 rfl ?_
      refine gRz rfl F hW hS dX9_isBlank_17 ?_
      exact ⟨by rw [show isBl k = false by rw [isBl, decide_eq_false c_3, decide_eq_false c_9]; rfl]; rfl, rfl⟩
    · refine lv_iconst (v := nI 1) F.1 F.2.1 dX9_isBlank_12 rfl ?_
      refine lv_goto (tgt := 17) F.1 F.2.1 dX9_isBlank_13 (by decide) ?_
      refine gRz rfl F hW hS dX9_isBlank_17 ?_
      exact ⟨by rw [show isBl k = true by rw [isBl, decide_eq_false c_3, decide_eq_true c_9]; rfl]; rfl, rfl⟩

abbrev rm_X9_isLetter : Room := ({ frames := 0, cells := 0, slots := 0, locals := 0 } : Room)
set_option maxRecDepth 100000 in
set_option maxHeartbeats 4000000 in
theorem c_X9_isLetter (g : gC) (l : Launch) {k : Nat} {R : va_W} (hk : k < 2 ^ 31) : cI g l yX9_isLetter wsX9_isLetter rm_X9_isLetter 0 0 [.int (nI k)] (R) (fun r u => (bI (isL k)) = r ∧ R = u) := by
  refine gEnterQ (cc := cX9_isLetter) (maxL := 1) (ret := (some (.boolean))) (by decide +kernel) rfl (Nat.le_of_ble_eq_true rfl) ?_
  intro p e s m below meth c F hG hW ls hl
  have hS : va_S (gA g) s.heap s.heap [] := va_S.rf
  have hl : lv_has ls 1 [(0, .int (nI k))] := hl
  have hW : gW g (R) s.heap := hW
  refine lv_iload_n F.1 F.2.1 dX9_isLetter_0 rfl (lv_at hl 0 rfl) ?_
  refine lv_bipush (v := nI 97) F.1 F.2.1 dX9_isLetter_1 (by decide) ?_
  refine gLt (tgt := 16) F (by omega) (by omega) dX9_isLetter_3 (by decide) (fun c_3 => ?_) (fun c_3 => ?_)
  · refine lv_iconst (v := nI 0) F.1 F.2.1 dX9_isLetter_16 rfl ?_
    refine gRz rfl F hW hS dX9_isLetter_17 ?_
    exact ⟨by rw [show isL k = false by rw [isL, decide_eq_false (Nat.not_le.mpr c_3)]; rfl]; rfl, rfl⟩
  · refine lv_iload_n F.1 F.2.1 dX9_isLetter_6 rfl (lv_at hl 0 rfl) ?_
    refine lv_bipush (v := nI 122) F.1 F.2.1 dX9_isLetter_7 (by decide) ?_
    refine gGt (tgt := 16) F (by omega) (by omega) dX9_isLetter_9 (by decide) (fun c_9 => ?_) (fun c_9 => ?_)
    · refine lv_iconst (v := nI 0) F.1 F.2.1 dX9_isLetter_16 rfl ?_
      refine gRz rfl F hW hS dX9_isLetter_17 ?_
      exact ⟨by rw [show isL k = false by rw [isL, decide_eq_true c_3, decide_eq_false (Nat.not_le.mpr c_9)]; rfl]; rfl, rfl⟩
    · refine lv_iconst (v := nI 1) F.1 F.2.1 dX9_isLetter_12 rfl ?_
      refine lv_goto (tgt := 17) F.1 F.2.1 dX9_isLetter_13 (by decide) ?_
      refine gRz rfl F hW hS dX9_isLetter_17 ?_
      exact ⟨by rw [show isL k = true by rw [isL, decide_eq_true c_3, decide_eq_true c_9]; rfl]; rfl, rfl⟩

abbrev rm_X9_isDigit : Room := ({ frames := 0, cells := 0, slots := 0, locals := 0 } : Room)
set_option maxRecDepth 100000 in
set_option maxHeartbeats 4000000 in
theorem c_X9_isDigit (g : gC) (l : Launch) {k : Nat} {R : va_W} (hk : k < 2 ^ 31) : cI g l yX9_isDigit wsX9_isDigit rm_X9_isDigit 0 0 [.int (nI k)] (R) (fun r u => (bI (isD k)) = r ∧ R = u) := by
  refine gEnterQ (cc := cX9_isDigit) (maxL := 1) (ret := (some (.boolean))) (by decide +kernel) rfl (Nat.le_of_ble_eq_true rfl) ?_
  intro p e s m below meth c F hG hW ls hl
  have hS : va_S (gA g) s.heap s.heap [] := va_S.rf
  have hl : lv_has ls 1 [(0, .int (nI k))] := hl
  have hW : gW g (R) s.heap := hW
  refine lv_iload_n F.1 F.2.1 dX9_isDigit_0 rfl (lv_at hl 0 rfl) ?_
  refine lv_bipush (v := nI 48) F.1 F.2.1 dX9_isDigit_1 (by decide) ?_
  refine gLt (tgt := 16) F (by omega) (by omega) dX9_isDigit_3 (by decide) (fun c_3 => ?_) (fun c_3 => ?_)
  · refine lv_iconst (v := nI 0) F.1 F.2.1 dX9_isDigit_16 rfl ?_
    refine gRz rfl F hW hS dX9_isDigit_17 ?_
    exact ⟨by rw [show isD k = false by rw [isD, decide_eq_false (Nat.not_le.mpr c_3)]; rfl]; rfl, rfl⟩
  · refine lv_iload_n F.1 F.2.1 dX9_isDigit_6 rfl (lv_at hl 0 rfl) ?_
    refine lv_bipush (v := nI 57) F.1 F.2.1 dX9_isDigit_7 (by decide) ?_
    refine gGt (tgt := 16) F (by omega) (by omega) dX9_isDigit_9 (by decide) (fun c_9 => ?_) (fun c_9 => ?_)
    · refine lv_iconst (v := nI 0) F.1 F.2.1 dX9_isDigit_16 rfl ?_
      refine gRz rfl F hW hS dX9_isDigit_17 ?_
      exact ⟨by rw [show isD k = false by rw [isD, decide_eq_true c_3, decide_eq_false (Nat.not_le.mpr c_9)]; rfl]; rfl, rfl⟩
    · refine lv_iconst (v := nI 1) F.1 F.2.1 dX9_isDigit_12 rfl ?_
      refine lv_goto (tgt := 17) F.1 F.2.1 dX9_isDigit_13 (by decide) ?_
      refine gRz rfl F hW hS dX9_isDigit_17 ?_
      exact ⟨by rw [show isD k = true by rw [isD, decide_eq_true c_3, decide_eq_true c_9]; rfl]; rfl, rfl⟩

abbrev rm_X9_byteAt : Room := ({ frames := 0, cells := 0, slots := 0, locals := 0 } : Room)
theorem mX9_byteAt_1 : Cond.fieldLink RX9 27 "StepperHearts$Reader" "length" "I" ∈ wsX9_byteAt := List.mem_of_getElem? (i := 1) rfl
theorem nX9_byteAt_X9 : ∀ w ∈ wsX90, w ∈ wsX9_byteAt := fun _ h => List.mem_cons_of_mem _ (List.mem_append_right _ (h))
theorem mX9_byteAt_2 : Cond.fieldLink RX9 9 "StepperHearts$Reader" "bytes" "[I" ∈ wsX9_byteAt := List.mem_of_getElem? (i := 2) rfl
set_option maxRecDepth 100000 in
set_option maxHeartbeats 4000000 in
theorem c_X9_byteAt (g : gC) (l : Launch) {h : Nat} {r0 : Nat} {r1 : Nat} {r2 : Nat} {r3 : Nat} {r4 : Nat} {f6 : Int32} {f7 : Int32} {f8 : Int32} {f9 : Int32} {f10 : Int32} {f11 : Int32} {f12 : Int32} {n : Nat} {k : Nat} {tx : Nat → Nat} {R : va_W} (hk : k < n) (hn : n ≤ 600) : cI g l yX9_byteAt wsX9_byteAt rm_X9_byteAt 0 0 [.ref h, .int (nI k)] ((h, .inr (6, [.ref r0, .ref r1, .ref r2, .ref r3, .ref r4, .int (nI n), .int f6, .int f7, .int f8, .int f9, .int f10, .int f11, .int f12])) :: (r0, .inl (g.2.1 0, 600, .inl (nA tx))) :: R) (fun r u => (nI (tx k)) = r ∧ (h, .inr (6, [.ref r0, .ref r1, .ref r2, .ref r3, .ref r4, .int (nI n), .int f6, .int f7, .int f8, .int f9, .int f10, .int f11, .int f12])) :: (r0, .inl (g.2.1 0, 600, .inl (nA tx))) :: R = u) := by
  refine gEnterQ (cc := cX9_byteAt) (maxL := 2) (ret := (some (.int))) (by decide +kernel) rfl (Nat.le_of_ble_eq_true rfl) ?_
  intro p e s m below meth c F hG hW ls hl
  have hS : va_S (gA g) s.heap s.heap [] := va_S.rf
  have hl : lv_has ls 2 [(0, .ref h), (1, .int (nI k))] := hl
  have hW : gW g ((h, .inr (6, [.ref r0, .ref r1, .ref r2, .ref r3, .ref r4, .int (nI n), .int f6, .int f7, .int f8, .int f9, .int f10, .int f11, .int f12])) :: (r0, .inl (g.2.1 0, 600, .inl (nA tx))) :: R) s.heap := hW
  refine lv_iload_n F.1 F.2.1 dX9_byteAt_0 rfl (lv_at hl 1 rfl) ?_
  refine gIfLt (tgt := 28) F (by omega) dX9_byteAt_1 (by decide) (fun c_1 => by exfalso; omega) (fun c_1 => ?_)
  refine lv_iload_n F.1 F.2.1 dX9_byteAt_4 rfl (lv_at hl 1 rfl) ?_
  refine lv_aload_n F.1 F.2.1 dX9_byteAt_5 rfl (lv_at hl 0 rfl) ?_
  refine gGet F hG hW nX9_byteAt_X9 0 rfl rfl 5 (by decide) mX9_byteAt_1 rfl dX9_byteAt_6 ?_
  refine gGe (tgt := 28) F (by omega) (by omega) dX9_byteAt_9 (by decide) (fun c_9 => by exfalso; omega) (fun c_9 => ?_)
  refine lv_iload_n F.1 F.2.1 dX9_byteAt_12 rfl (lv_at hl 1 rfl) ?_
  refine lv_sipush (v := nI 600) F.1 F.2.1 dX9_byteAt_13 (by decide) ?_
  refine gGe (tgt := 28) F (by omega) (by omega) dX9_byteAt_16 (by decide) (fun c_16 => by exfalso; omega) (fun c_16 => ?_)
  refine lv_aload_n F.1 F.2.1 dX9_byteAt_19 rfl (lv_at hl 0 rfl) ?_
  refine gGet F hG hW nX9_byteAt_X9 0 rfl rfl 0 (by decide) mX9_byteAt_2 rfl dX9_byteAt_20 ?_
  refine lv_iload_n F.1 F.2.1 dX9_byteAt_23 rfl (lv_at hl 1 rfl) ?_
  refine gLdI F hG hW 1 rfl (by omega) (by decide) dX9_byteAt_24 ?_
  refine gTop (y := nI (tx k)) rfl ?_
  refine lv_goto (tgt := 29) F.1 F.2.1 dX9_byteAt_25 (by decide) ?_
  refine gRi F hW hS dX9_byteAt_29 ?_
  exact ⟨rfl, rfl⟩

abbrev rm_X9_byteAt_o : Room := ({ frames := 0, cells := 0, slots := 0, locals := 0 } : Room)
set_option maxRecDepth 100000 in
set_option maxHeartbeats 4000000 in
theorem c_X9_byteAt_o (g : gC) (l : Launch) {h : Nat} {r0 : Nat} {r1 : Nat} {r2 : Nat} {r3 : Nat} {r4 : Nat} {f6 : Int32} {f7 : Int32} {f8 : Int32} {f9 : Int32} {f10 : Int32} {f11 : Int32} {f12 : Int32} {n : Nat} {k : Nat} {tx : Nat → Nat} {R : va_W} (hk : n ≤ k) (hn : n ≤ 600) (hb : k < 2 ^ 31) : cI g l yX9_byteAt wsX9_byteAt rm_X9_byteAt_o 0 0 [.ref h, .int (nI k)] ((h, .inr (6, [.ref r0, .ref r1, .ref r2, .ref r3, .ref r4, .int (nI n), .int f6, .int f7, .int f8, .int f9, .int f10, .int f11, .int f12])) :: (r0, .inl (g.2.1 0, 600, .inl (nA tx))) :: R) (fun r u => (-1) = r ∧ (h, .inr (6, [.ref r0, .ref r1, .ref r2, .ref r3, .ref r4, .int (nI n), .int f6, .int f7, .int f8, .int f9, .int f10, .int f11, .int f12])) :: (r0, .inl (g.2.1 0, 600, .inl (nA tx))) :: R = u) := by
  refine gEnterQ (cc := cX9_byteAt) (maxL := 2) (ret := (some (.int))) (by decide +kernel) rfl (Nat.le_of_ble_eq_true rfl) ?_
  intro p e s m below meth c F hG hW ls hl
  have hS : va_S (gA g) s.heap s.heap [] := va_S.rf
  have hl : lv_has ls 2 [(0, .ref h), (1, .int (nI k))] := hl
  have hW : gW g ((h, .inr (6, [.ref r0, .ref r1, .ref r2, .ref r3, .ref r4, .int (nI n), .int f6, .int f7, .int f8, .int f9, .int f10, .int f11, .int f12])) :: (r0, .inl (g.2.1 0, 600, .inl (nA tx))) :: R) s.heap := hW
  refine lv_iload_n F.1 F.2.1 dX9_byteAt_0 rfl (lv_at hl 1 rfl) ?_
  refine gIfLt (tgt := 28) F (by omega) dX9_byteAt_1 (by decide) (fun c_1 => by exfalso; omega) (fun c_1 => ?_)
  refine lv_iload_n F.1 F.2.1 dX9_byteAt_4 rfl (lv_at hl 1 rfl) ?_
  refine lv_aload_n F.1 F.2.1 dX9_byteAt_5 rfl (lv_at hl 0 rfl) ?_
  refine gGet F hG hW nX9_byteAt_X9 0 rfl rfl 5 (by decide) mX9_byteAt_1 rfl dX9_byteAt_6 ?_
  refine gGe (tgt := 28) F (by omega) (by omega) dX9_byteAt_9 (by decide) (fun c_9 => ?_) (fun c_9 => by exfalso; omega)
  refine lv_iconst (v := -1) F.1 F.2.1 dX9_byteAt_28 rfl ?_
  refine gRi F hW hS dX9_byteAt_29 ?_
  exact ⟨rfl, rfl⟩

abbrev rm_X9_fail : Room := ({ frames := 0, cells := 0, slots := 0, locals := 0 } : Room)
theorem mX9_fail_1 : Cond.fieldLink RX9 46 "StepperHearts$Reader" "faultNumber" "I" ∈ wsX9_fail := List.mem_of_getElem? (i := 1) rfl
theorem nX9_fail_X9 : ∀ w ∈ wsX90, w ∈ wsX9_fail := fun _ h => List.mem_cons_of_mem _ (List.mem_append_right _ (h))
theorem mX9_fail_2 : Cond.fieldLink RX9 49 "StepperHearts$Reader" "faultPlace" "I" ∈ wsX9_fail := List.mem_of_getElem? (i := 2) rfl
set_option maxRecDepth 100000 in
set_option maxHeartbeats 4000000 in
theorem c_X9_fail (g : gC) (l : Launch) {h : Nat} {r0 : Nat} {r1 : Nat} {r2 : Nat} {r3 : Nat} {r4 : Nat} {f5 : Int32} {f6 : Int32} {f7 : Int32} {f8 : Int32} {f9 : Int32} {f10 : Int32} {x1 : Int32} {x2 : Int32} {j : Nat} {k : Nat} {R : va_W} : cI g l yX9_fail wsX9_fail rm_X9_fail 0 0 [.ref h, .int (nI j), .int (nI k)] ((h, .inr (6, [.ref r0, .ref r1, .ref r2, .ref r3, .ref r4, .int f5, .int f6, .int f7, .int f8, .int f9, .int f10, .int x1, .int x2])) :: R) (fun r u => (bI false) = r ∧ (h, .inr (6, [.ref r0, .ref r1, .ref r2, .ref r3, .ref r4, .int f5, .int f6, .int f7, .int f8, .int f9, .int f10, .int (nI j), .int (nI k)])) :: R = u) := by
  refine gEnterQ (cc := cX9_fail) (maxL := 3) (ret := (some (.boolean))) (by decide +kernel) rfl (Nat.le_of_ble_eq_true rfl) ?_
  intro p e s m below meth c F hG hW ls hl
  have hS : va_S (gA g) s.heap s.heap [] := va_S.rf
  have hl : lv_has ls 3 [(0, .ref h), (1, .int (nI j)), (2, .int (nI k))] := hl
  have hW : gW g ((h, .inr (6, [.ref r0, .ref r1, .ref r2, .ref r3, .ref r4, .int f5, .int f6, .int f7, .int f8, .int f9, .int f10, .int x1, .int x2])) :: R) s.heap := hW
  refine lv_aload_n F.1 F.2.1 dX9_fail_0 rfl (lv_at hl 0 rfl) ?_
  refine lv_iload_n F.1 F.2.1 dX9_fail_1 rfl (lv_at hl 1 rfl) ?_
  refine gPut (w2 := (h, .inr (6, [.ref r0, .ref r1, .ref r2, .ref r3, .ref r4, .int f5, .int f6, .int f7, .int f8, .int f9, .int f10, .int (nI j), .int x2])) :: R) F hS hG hW nX9_fail_X9 0 rfl rfl 11 (by decide) tyX9 tyX9_ok nmX9 mX9_fail_1 rfl rfl rfl rfl (Nat.le_of_ble_eq_true rfl) rfl dX9_fail_2 (fun H locs hW hS => ?_)
  refine lv_aload_n F.1 F.2.1 dX9_fail_5 rfl (lv_at hl 0 rfl) ?_
  refine lv_iload_n F.1 F.2.1 dX9_fail_6 rfl (lv_at hl 2 rfl) ?_
  refine gPut (w2 := (h, .inr (6, [.ref r0, .ref r1, .ref r2, .ref r3, .ref r4, .int f5, .int f6, .int f7, .int f8, .int f9, .int f10, .int (nI j), .int (nI k)])) :: R) F hS hG hW nX9_fail_X9 0 rfl rfl 12 (by decide) tyX9 tyX9_ok nmX9 mX9_fail_2 rfl rfl rfl rfl (Nat.le_of_ble_eq_true rfl) rfl dX9_fail_7 (fun H locs hW hS => ?_)
  refine lv_iconst (v := nI 0) F.1 F.2.1 dX9_fail_10 rfl ?_
  refine gRz rfl F hW hS dX9_fail_11 ?_
  exact ⟨rfl, rfl⟩

abbrev rm_X9_advance : Room := ({ frames := 1, cells := 0, slots := 0, locals := 21 } : Room)
theorem mX9_advance_1 : Cond.fieldLink RX9 37 "StepperHearts$Reader" "tokenEnd" "I" ∈ wsX9_advance := List.mem_of_getElem? (i := 1) rfl
theorem nX9_advance_X9 : ∀ w ∈ wsX90, w ∈ wsX9_advance := fun _ h => List.mem_cons_of_mem _ (List.mem_append_right _ (h))
theorem mX9_advance_2 : Cond.fieldLink RX9 27 "StepperHearts$Reader" "length" "I" ∈ wsX9_advance := List.mem_of_getElem? (i := 2) rfl
theorem mX9_advance_3 : Cond.fieldLink RX9 34 "StepperHearts$Reader" "tokenStart" "I" ∈ wsX9_advance := List.mem_of_getElem? (i := 3) rfl
theorem mX9_advance_4 : Cond.fieldLink RX9 31 "StepperHearts$Reader" "token" "I" ∈ wsX9_advance := List.mem_of_getElem? (i := 4) rfl
set_option maxRecDepth 100000 in
set_option maxHeartbeats 4000000 in
theorem c_X9_advance (g : gC) (l : Launch) {h : Nat} {r0 : Nat} {r1 : Nat} {r2 : Nat} {r3 : Nat} {r4 : Nat} {f9 : Int32} {f10 : Int32} {f11 : Int32} {f12 : Int32} {n : Nat} {te : Nat} {f6 : Int32} {f7 : Int32} {tx : Nat → Nat} {R : va_W} (hn : n ≤ 600) (ht : te ≤ n) (hx : ∀ j, tx j < 256) : cV g l yX9_advance wsX9_advance rm_X9_advance 0 0 [.ref h] ((h, .inr (6, [.ref r0, .ref r1, .ref r2, .ref r3, .ref r4, .int (nI n), .int f6, .int f7, .int (nI te), .int f9, .int f10, .int f11, .int f12])) :: (r0, .inl (g.2.1 0, 600, .inl (nA tx))) :: R) (fun u => (h, .inr (6, [.ref r0, .ref r1, .ref r2, .ref r3, .ref r4, .int (nI n), .int (nI (tkK tx n te)), .int (nI (tkS tx n te)), .int (nI (tkE tx n te)), .int f9, .int f10, .int f11, .int f12])) :: (r0, .inl (g.2.1 0, 600, .inl (nA tx))) :: R = u) := by
  refine gEnterQ (cc := cX9_advance) (maxL := 3) (ret := none) (by decide +kernel) rfl (Nat.le_of_ble_eq_true rfl) ?_
  intro p e s m below meth c F hG hW ls hl
  have hS : va_S (gA g) s.heap s.heap [] := va_S.rf
  have hl : lv_has ls 3 [(0, .ref h)] := hl
  have hW : gW g ((h, .inr (6, [.ref r0, .ref r1, .ref r2, .ref r3, .ref r4, .int (nI n), .int f6, .int f7, .int (nI te), .int f9, .int f10, .int f11, .int f12])) :: (r0, .inl (g.2.1 0, 600, .inl (nA tx))) :: R) s.heap := hW
  refine lv_aload_n F.1 F.2.1 dX9_advance_0 rfl (lv_at hl 0 rfl) ?_
  refine gGet F hG hW nX9_advance_X9 0 rfl rfl 8 (by decide) mX9_advance_1 rfl dX9_advance_1 ?_
  refine lv_istore_n (lv' := [(1, .int (nI te)), (0, .ref h)]) F.1 F.2.1 dX9_advance_4 rfl hl (by decide) rfl (fun ls hl => ?_)
  have L_5 : ∀ (fu : Nat), ∀ (i : Nat) (hi : i ≤ n) (hs : scan (fun j => isBl (tx j)) n i = scan (fun j => isBl (tx j)) n te) (hm_5 : n - i < fu) (H : Heap) (locs : List Loc) (ls : Array Slot) (hW : gW g ((h, .inr (6, [.ref r0, .ref r1, .ref r2, .ref r3, .ref r4, .int (nI n), .int f6, .int f7, .int (nI te), .int f9, .int f10, .int f11, .int f12])) :: (r0, .inl (g.2.1 0, 600, .inl (nA tx))) :: R) H) (hS : va_S (gA g) s.heap H locs) (hl : lv_has ls 3 [(0, .ref h), (1, .int (nI i))]), W p l e (headSpec wsX9_advance rm_X9_advance).room s m ([.ref h] : List Value).toArray below meth c H locs 0 0 (MQ below (va_Qv (fun u => (h, .inr (6, [.ref r0, .ref r1, .ref r2, .ref r3, .ref r4, .int (nI n), .int (nI (tkK tx n te)), .int (nI (tkS tx n te)), .int (nI (tkE tx n te)), .int f9, .int f10, .int f11, .int f12])) :: (r0, .inl (g.2.1 0, 600, .inl (nA tx))) :: R = u) (fun u t => gW g u t.heap) (gA g)) ([.ref h] : List Value).toArray s 0 0 (gA g)) (F0 m 5 ls []) := by
    intro fu
    induction fu with
    | zero =>
      intros _ _ _ hm_5
      exact absurd hm_5 (Nat.not_lt_zero _)
    | succ fu ih_5 =>
      intro i hi hs hm_5 H locs ls hW hS hl
      refine lv_iload_n F.1 F.2.1 dX9_advance_5 rfl (lv_at hl 1 rfl) ?_
      refine lv_aload_n F.1 F.2.1 dX9_advance_6 rfl (lv_at hl 0 rfl) ?_
      refine gGet F hG hW nX9_advance_X9 0 rfl rfl 5 (by decide) mX9_advance_2 rfl dX9_advance_7 ?_
      refine gGe (tgt := 30) F (by omega) (by omega) dX9_advance_10 (by decide) (fun c_10 => ?_) (fun c_10 => ?_)
      · obtain rfl : i = tkS tx n te := by rw [tkS, ← hs]; exact (scan_n (by omega)).symm
        refine lv_aload_n F.1 F.2.1 dX9_advance_30 rfl (lv_at hl 0 rfl) ?_
        refine lv_iload_n F.1 F.2.1 dX9_advance_31 rfl (lv_at hl 1 rfl) ?_
        refine gPut (w2 := (h, .inr (6, [.ref r0, .ref r1, .ref r2, .ref r3, .ref r4, .int (nI n), .int f6, .int (nI (tkS tx n te)), .int (nI te), .int f9, .int f10, .int f11, .int f12])) :: (r0, .inl (g.2.1 0, 600, .inl (nA tx))) :: R) F hS hG hW nX9_advance_X9 0 rfl rfl 7 (by decide) tyX9 tyX9_ok nmX9 mX9_advance_3 rfl rfl rfl rfl (Nat.le_of_ble_eq_true rfl) rfl dX9_advance_32 (fun H locs hW hS => ?_)
        refine lv_aload_n F.1 F.2.1 dX9_advance_35 rfl (lv_at hl 0 rfl) ?_
        refine lv_iload_n F.1 F.2.1 dX9_advance_36 rfl (lv_at hl 1 rfl) ?_
        refine lv_iconst (v := nI 1) F.1 F.2.1 dX9_advance_37 rfl ?_
        refine gAdd F dX9_advance_38 ?_
        refine gPut (w2 := (h, .inr (6, [.ref r0, .ref r1, .ref r2, .ref r3, .ref r4, .int (nI n), .int f6, .int (nI (tkS tx n te)), .int (nI ((tkS tx n te) + 1)), .int f9, .int f10, .int f11, .int f12])) :: (r0, .inl (g.2.1 0, 600, .inl (nA tx))) :: R) F hS hG hW nX9_advance_X9 0 rfl rfl 8 (by decide) tyX9 tyX9_ok nmX9 mX9_advance_1 rfl rfl rfl rfl (Nat.le_of_ble_eq_true rfl) rfl dX9_advance_39 (fun H locs hW hS => ?_)
        refine lv_aload_n F.1 F.2.1 dX9_advance_42 rfl (lv_at hl 0 rfl) ?_
        refine lv_iload_n F.1 F.2.1 dX9_advance_43 rfl (lv_at hl 1 rfl) ?_
        have hk0 := scan_le (fun j => isBl (tx j)) ht
        have hk1 : tkS tx n te ≤ n := hk0
        have hx9 := hx (tkS tx n te)
        rcases Nat.lt_or_ge (tkS tx n te) n with q44 | q44
        · refine gVi (n := 1) (q := (RX9, TX9, 13)) (q0 := 0) (As := [.int (nI (tkS tx n te))]) F hG hS hW (c_X9_byteAt g l  q44 (by omega)) rfl gX9_advance_X9_byteAt rfl rfl rfl (by decide +kernel) ⟨rfl, rfl, Nat.le_of_ble_eq_true rfl, Nat.le_of_ble_eq_true rfl⟩ hl.1 (Nat.le_of_ble_eq_true rfl) ⟨Nat.le_of_ble_eq_true rfl, Nat.le_of_ble_eq_true rfl⟩ rfl rfl dX9_advance_44 (fun r u H locs hq hW hS => ?_)
          obtain ⟨rfl, rfl⟩ := hq
          have hW : gW g ((h, .inr (6, [.ref r0, .ref r1, .ref r2, .ref r3, .ref r4, .int (nI n), .int f6, .int (nI (tkS tx n te)), .int (nI ((tkS tx n te) + 1)), .int f9, .int f10, .int f11, .int f12])) :: (r0, .inl (g.2.1 0, 600, .inl (nA tx))) :: R) _ := hW
          refine lv_istore_n (lv' := [(2, .int (nI (tx (tkS tx n te)))), (0, .ref h), (1, .int (nI (tkS tx n te)))]) F.1 F.2.1 dX9_advance_47 rfl hl (by decide) rfl (fun ls hl => ?_)
          refine lv_iload_n F.1 F.2.1 dX9_advance_48 rfl (lv_at hl 2 rfl) ?_
          refine lv_aload_n F.1 F.2.1 dX9_advance_49 rfl (lv_at hl 1 rfl) ?_
          refine gGet F hG hW nX9_advance_X9 0 rfl rfl 5 (by decide) mX9_advance_2 rfl dX9_advance_50 ?_
          refine gLt (tgt := 69) F (by omega) (by omega) dX9_advance_53 (by decide) (fun c_53 => ?_) (fun c_53 => by exfalso; omega)
          refine lv_iload_n F.1 F.2.1 dX9_advance_69 rfl (lv_at hl 0 rfl) ?_
          refine gS_i (n := 1) (As := [.int (nI (tx (tkS tx n te)))]) F hG hS hW (c_X9_isLetter g l  (Nat.lt_of_lt_of_le (hx (tkS tx n te)) (by decide))) rfl gX9_advance_X9_isLetter (by decide +kernel) ⟨rfl, rfl, Nat.le_of_ble_eq_true rfl, Nat.le_of_ble_eq_true rfl⟩ hl.1 (Nat.le_of_ble_eq_true rfl) ⟨Nat.le_of_ble_eq_true rfl, Nat.le_of_ble_eq_true rfl⟩ rfl rfl dX9_advance_70 (fun r u H locs hq hW hS => ?_)
          obtain ⟨rfl, rfl⟩ := hq
          have hW : gW g ((h, .inr (6, [.ref r0, .ref r1, .ref r2, .ref r3, .ref r4, .int (nI n), .int f6, .int (nI (tkS tx n te)), .int (nI ((tkS tx n te) + 1)), .int f9, .int f10, .int f11, .int f12])) :: (r0, .inl (g.2.1 0, 600, .inl (nA tx))) :: R) _ := hW
          refine gIfEqB (tgt := 140) F dX9_advance_73 (by decide) (fun c_73 => ?_) (fun c_73 => ?_)
          · refine lv_iload_n F.1 F.2.1 dX9_advance_140 rfl (lv_at hl 0 rfl) ?_
            refine gS_i (n := 1) (As := [.int (nI (tx (tkS tx n te)))]) F hG hS hW (c_X9_isDigit g l  (Nat.lt_of_lt_of_le (hx (tkS tx n te)) (by decide))) rfl gX9_advance_X9_isDigit (by decide +kernel) ⟨rfl, rfl, Nat.le_of_ble_eq_true rfl, Nat.le_of_ble_eq_true rfl⟩ hl.1 (Nat.le_of_ble_eq_true rfl) ⟨Nat.le_of_ble_eq_true rfl, Nat.le_of_ble_eq_true rfl⟩ rfl rfl dX9_advance_141 (fun r u H locs hq hW hS => ?_)
            obtain ⟨rfl, rfl⟩ := hq
            have hW : gW g ((h, .inr (6, [.ref r0, .ref r1, .ref r2, .ref r3, .ref r4, .int (nI n), .int f6, .int (nI (tkS tx n te)), .int (nI ((tkS tx n te) + 1)), .int f9, .int f10, .int f11, .int f12])) :: (r0, .inl (g.2.1 0, 600, .inl (nA tx))) :: R) _ := hW
            refine gIfEqB (tgt := 210) F dX9_advance_144 (by decide) (fun c_144 => ?_) (fun c_144 => ?_)
            · refine lv_iload_n F.1 F.2.1 dX9_advance_210 rfl (lv_at hl 0 rfl) ?_
              refine lv_bipush (v := nI 58) F.1 F.2.1 dX9_advance_211 (by decide) ?_
              refine gNe (tgt := 224) F (by omega) (by omega) dX9_advance_213 (by decide) (fun c_213 => ?_) (fun c_213 => ?_)
              · refine lv_aload_n F.1 F.2.1 dX9_advance_224 rfl (lv_at hl 1 rfl) ?_
                refine lv_iload_n F.1 F.2.1 dX9_advance_225 rfl (lv_at hl 0 rfl) ?_
                refine lv_bipush (v := nI 59) F.1 F.2.1 dX9_advance_226 (by decide) ?_
                refine gNe (tgt := 235) F (by omega) (by omega) dX9_advance_228 (by decide) (fun c_228 => ?_) (fun c_228 => ?_)
                · refine lv_iconst (v := nI 0) F.1 F.2.1 dX9_advance_235 rfl ?_
                  refine gPut (w2 := (h, .inr (6, [.ref r0, .ref r1, .ref r2, .ref r3, .ref r4, .int (nI n), .int (nI 0), .int (nI (tkS tx n te)), .int (nI ((tkS tx n te) + 1)), .int f9, .int f10, .int f11, .int f12])) :: (r0, .inl (g.2.1 0, 600, .inl (nA tx))) :: R) F hS hG hW nX9_advance_X9 0 rfl rfl 6 (by decide) tyX9 tyX9_ok nmX9 mX9_advance_4 rfl rfl rfl rfl (Nat.le_of_ble_eq_true rfl) rfl dX9_advance_236 (fun H locs hW hS => ?_)
                  refine gRv F hW hS dX9_advance_239 ?_
                  show _ = _
                  have eE : tkE tx n te = tkS tx n te + 1 := (if_pos c_53).trans ((if_neg (by rw [c_73]; exact Bool.false_ne_true)).trans (if_neg (by rw [c_144]; exact Bool.false_ne_true)))
                  have eK : tkK tx n te = 0 := by rw [tkK, if_pos c_53, if_neg (by rw [c_73]; exact Bool.false_ne_true), if_neg (by rw [c_144]; exact Bool.false_ne_true)]; exact (if_neg c_213).trans (if_neg c_228)
                  rw [eK, eE]
                · refine lv_iconst (v := nI 4) F.1 F.2.1 dX9_advance_231 rfl ?_
                  refine lv_goto (tgt := 236) F.1 F.2.1 dX9_advance_232 (by decide) ?_
                  refine gPut (w2 := (h, .inr (6, [.ref r0, .ref r1, .ref r2, .ref r3, .ref r4, .int (nI n), .int (nI 4), .int (nI (tkS tx n te)), .int (nI ((tkS tx n te) + 1)), .int f9, .int f10, .int f11, .int f12])) :: (r0, .inl (g.2.1 0, 600, .inl (nA tx))) :: R) F hS hG hW nX9_advance_X9 0 rfl rfl 6 (by decide) tyX9 tyX9_ok nmX9 mX9_advance_4 rfl rfl rfl rfl (Nat.le_of_ble_eq_true rfl) rfl dX9_advance_236 (fun H locs hW hS => ?_)
                  refine gRv F hW hS dX9_advance_239 ?_
                  show _ = _
                  have eE : tkE tx n te = tkS tx n te + 1 := (if_pos c_53).trans ((if_neg (by rw [c_73]; exact Bool.false_ne_true)).trans (if_neg (by rw [c_144]; exact Bool.false_ne_true)))
                  have eK : tkK tx n te = 4 := by rw [tkK, if_pos c_53, if_neg (by rw [c_73]; exact Bool.false_ne_true), if_neg (by rw [c_144]; exact Bool.false_ne_true)]; exact (if_neg c_213).trans (if_pos c_228)
                  rw [eK, eE]
              · refine lv_aload_n F.1 F.2.1 dX9_advance_216 rfl (lv_at hl 1 rfl) ?_
                refine lv_iconst (v := nI 3) F.1 F.2.1 dX9_advance_217 rfl ?_
                refine gPut (w2 := (h, .inr (6, [.ref r0, .ref r1, .ref r2, .ref r3, .ref r4, .int (nI n), .int (nI 3), .int (nI (tkS tx n te)), .int (nI ((tkS tx n te) + 1)), .int f9, .int f10, .int f11, .int f12])) :: (r0, .inl (g.2.1 0, 600, .inl (nA tx))) :: R) F hS hG hW nX9_advance_X9 0 rfl rfl 6 (by decide) tyX9 tyX9_ok nmX9 mX9_advance_4 rfl rfl rfl rfl (Nat.le_of_ble_eq_true rfl) rfl dX9_advance_218 (fun H locs hW hS => ?_)
                refine lv_goto (tgt := 239) F.1 F.2.1 dX9_advance_221 (by decide) ?_
                refine gRv F hW hS dX9_advance_239 ?_
                show _ = _
                have eE : tkE tx n te = tkS tx n te + 1 := (if_pos c_53).trans ((if_neg (by rw [c_73]; exact Bool.false_ne_true)).trans (if_neg (by rw [c_144]; exact Bool.false_ne_true)))
                have eK : tkK tx n te = 3 := by rw [tkK, if_pos c_53, if_neg (by rw [c_73]; exact Bool.false_ne_true), if_neg (by rw [c_144]; exact Bool.false_ne_true)]; exact if_pos c_213
                rw [eK, eE]
            · have L_147 : ∀ (fu : Nat), ∀ (i : Nat) (hi : i ≤ n) (hge : tkS tx n te + 1 ≤ i) (hs : scan (fun j => isD (tx j)) n i = scan (fun j => isD (tx j)) n (tkS tx n te + 1)) (hm_147 : n - i < fu) (H : Heap) (locs : List Loc) (ls : Array Slot) (hW : gW g ((h, .inr (6, [.ref r0, .ref r1, .ref r2, .ref r3, .ref r4, .int (nI n), .int f6, .int (nI (tkS tx n te)), .int (nI i), .int f9, .int f10, .int f11, .int f12])) :: (r0, .inl (g.2.1 0, 600, .inl (nA tx))) :: R) H) (hS : va_S (gA g) s.heap H locs) (hl : lv_has ls 3 [(0, .ref h)]), W p l e (headSpec wsX9_advance rm_X9_advance).room s m ([.ref h] : List Value).toArray below meth c H locs 0 0 (MQ below (va_Qv (fun u => (h, .inr (6, [.ref r0, .ref r1, .ref r2, .ref r3, .ref r4, .int (nI n), .int (nI (tkK tx n te)), .int (nI (tkS tx n te)), .int (nI (tkE tx n te)), .int f9, .int f10, .int f11, .int f12])) :: (r0, .inl (g.2.1 0, 600, .inl (nA tx))) :: R = u) (fun u t => gW g u t.heap) (gA g)) ([.ref h] : List Value).toArray s 0 0 (gA g)) (F0 m 147 ls []) := by
                intro fu
                induction fu with
                | zero =>
                  intros _ _ _ _ hm_147
                  exact absurd hm_147 (Nat.not_lt_zero _)
                | succ fu ih_147 =>
                  intro i hi hge hs hm_147 H locs ls hW hS hl
                  refine lv_aload_n F.1 F.2.1 dX9_advance_147 rfl (lv_at hl 0 rfl) ?_
                  refine gGet F hG hW nX9_advance_X9 0 rfl rfl 8 (by decide) mX9_advance_1 rfl dX9_advance_148 ?_
                  refine lv_aload_n F.1 F.2.1 dX9_advance_151 rfl (lv_at hl 0 rfl) ?_
                  refine gGet F hG hW nX9_advance_X9 0 rfl rfl 5 (by decide) mX9_advance_2 rfl dX9_advance_152 ?_
                  refine gGe (tgt := 185) F (by omega) (by omega) dX9_advance_155 (by decide) (fun c_155 => ?_) (fun c_155 => ?_)
                  · have hs147 : scan (fun j => isD (tx j)) n (tkS tx n te + 1) = i := by rw [← hs]; exact scan_n (by omega)
                    refine lv_aload_n F.1 F.2.1 dX9_advance_185 rfl (lv_at hl 0 rfl) ?_
                    refine lv_aload_n F.1 F.2.1 dX9_advance_186 rfl (lv_at hl 0 rfl) ?_
                    refine gGet F hG hW nX9_advance_X9 0 rfl rfl 8 (by decide) mX9_advance_1 rfl dX9_advance_187 ?_
                    refine lv_aload_n F.1 F.2.1 dX9_advance_190 rfl (lv_at hl 0 rfl) ?_
                    refine gGet F hG hW nX9_advance_X9 0 rfl rfl 7 (by decide) mX9_advance_3 rfl dX9_advance_191 ?_
                    refine gSub F (by omega) dX9_advance_194 ?_
                    refine lv_iconst (v := nI 3) F.1 F.2.1 dX9_advance_195 rfl ?_
                    refine gGt (tgt := 203) F (by omega) (by omega) dX9_advance_196 (by decide) (fun c_196 => ?_) (fun c_196 => ?_)
                    · refine lv_iconst (v := nI 0) F.1 F.2.1 dX9_advance_203 rfl ?_
                      refine gPut (w2 := (h, .inr (6, [.ref r0, .ref r1, .ref r2, .ref r3, .ref r4, .int (nI n), .int (nI 0), .int (nI (tkS tx n te)), .int (nI i), .int f9, .int f10, .int f11, .int f12])) :: (r0, .inl (g.2.1 0, 600, .inl (nA tx))) :: R) F hS hG hW nX9_advance_X9 0 rfl rfl 6 (by decide) tyX9 tyX9_ok nmX9 mX9_advance_4 rfl rfl rfl rfl (Nat.le_of_ble_eq_true rfl) rfl dX9_advance_204 (fun H locs hW hS => ?_)
                      refine lv_goto (tgt := 239) F.1 F.2.1 dX9_advance_207 (by decide) ?_
                      refine gRv F hW hS dX9_advance_239 ?_
                      show _ = _
                      have eE : tkE tx n te = scan (fun j => isD (tx j)) n (tkS tx n te + 1) := (if_pos c_53).trans ((if_neg (by rw [c_73]; exact Bool.false_ne_true)).trans (if_pos c_144))
                      have eK : tkK tx n te = 0 := by rw [tkK, if_pos c_53, if_neg (by rw [c_73]; exact Bool.false_ne_true), if_pos c_144, eE, hs147]; exact if_neg (Nat.not_le.mpr c_196)
                      rw [hs147] at eE
                      rw [eK, eE]
                    · refine lv_iconst (v := nI 2) F.1 F.2.1 dX9_advance_199 rfl ?_
                      refine lv_goto (tgt := 204) F.1 F.2.1 dX9_advance_200 (by decide) ?_
                      refine gPut (w2 := (h, .inr (6, [.ref r0, .ref r1, .ref r2, .ref r3, .ref r4, .int (nI n), .int (nI 2), .int (nI (tkS tx n te)), .int (nI i), .int f9, .int f10, .int f11, .int f12])) :: (r0, .inl (g.2.1 0, 600, .inl (nA tx))) :: R) F hS hG hW nX9_advance_X9 0 rfl rfl 6 (by decide) tyX9 tyX9_ok nmX9 mX9_advance_4 rfl rfl rfl rfl (Nat.le_of_ble_eq_true rfl) rfl dX9_advance_204 (fun H locs hW hS => ?_)
                      refine lv_goto (tgt := 239) F.1 F.2.1 dX9_advance_207 (by decide) ?_
                      refine gRv F hW hS dX9_advance_239 ?_
                      show _ = _
                      have eE : tkE tx n te = scan (fun j => isD (tx j)) n (tkS tx n te + 1) := (if_pos c_53).trans ((if_neg (by rw [c_73]; exact Bool.false_ne_true)).trans (if_pos c_144))
                      have eK : tkK tx n te = 2 := by rw [tkK, if_pos c_53, if_neg (by rw [c_73]; exact Bool.false_ne_true), if_pos c_144, eE, hs147]; exact if_pos c_196
                      rw [hs147] at eE
                      rw [eK, eE]
                  · refine lv_aload_n F.1 F.2.1 dX9_advance_158 rfl (lv_at hl 0 rfl) ?_
                    refine lv_aload_n F.1 F.2.1 dX9_advance_159 rfl (lv_at hl 0 rfl) ?_
                    refine gGet F hG hW nX9_advance_X9 0 rfl rfl 8 (by decide) mX9_advance_1 rfl dX9_advance_160 ?_
                    refine gVi (n := 1) (q := (RX9, TX9, 13)) (q0 := 0) (As := [.int (nI i)]) F hG hS hW (c_X9_byteAt g l  (by omega) (by omega)) rfl gX9_advance_X9_byteAt rfl rfl rfl (by decide +kernel) ⟨rfl, rfl, Nat.le_of_ble_eq_true rfl, Nat.le_of_ble_eq_true rfl⟩ hl.1 (Nat.le_of_ble_eq_true rfl) ⟨Nat.le_of_ble_eq_true rfl, Nat.le_of_ble_eq_true rfl⟩ rfl rfl dX9_advance_163 (fun r u H locs hq hW hS => ?_)
                    obtain ⟨rfl, rfl⟩ := hq
                    have hW : gW g ((h, .inr (6, [.ref r0, .ref r1, .ref r2, .ref r3, .ref r4, .int (nI n), .int f6, .int (nI (tkS tx n te)), .int (nI i), .int f9, .int f10, .int f11, .int f12])) :: (r0, .inl (g.2.1 0, 600, .inl (nA tx))) :: R) _ := hW
                    refine gS_i (n := 1) (As := [.int (nI (tx i))]) F hG hS hW (c_X9_isDigit g l  (Nat.lt_of_lt_of_le (hx i) (by decide))) rfl gX9_advance_X9_isDigit (by decide +kernel) ⟨rfl, rfl, Nat.le_of_ble_eq_true rfl, Nat.le_of_ble_eq_true rfl⟩ hl.1 (Nat.le_of_ble_eq_true rfl) ⟨Nat.le_of_ble_eq_true rfl, Nat.le_of_ble_eq_true rfl⟩ rfl rfl dX9_advance_166 (fun r u H locs hq hW hS => ?_)
                    obtain ⟨rfl, rfl⟩ := hq
                    have hW : gW g ((h, .inr (6, [.ref r0, .ref r1, .ref r2, .ref r3, .ref r4, .int (nI n), .int f6, .int (nI (tkS tx n te)), .int (nI i), .int f9, .int f10, .int f11, .int f12])) :: (r0, .inl (g.2.1 0, 600, .inl (nA tx))) :: R) _ := hW
                    refine gIfEqB (tgt := 185) F dX9_advance_169 (by decide) (fun c_169 => ?_) (fun c_169 => ?_)
                    · have hs147 : scan (fun j => isD (tx j)) n (tkS tx n te + 1) = i := by rw [← hs]; exact scan_p c_155 c_169
                      refine lv_aload_n F.1 F.2.1 dX9_advance_185 rfl (lv_at hl 0 rfl) ?_
                      refine lv_aload_n F.1 F.2.1 dX9_advance_186 rfl (lv_at hl 0 rfl) ?_
                      refine gGet F hG hW nX9_advance_X9 0 rfl rfl 8 (by decide) mX9_advance_1 rfl dX9_advance_187 ?_
                      refine lv_aload_n F.1 F.2.1 dX9_advance_190 rfl (lv_at hl 0 rfl) ?_
                      refine gGet F hG hW nX9_advance_X9 0 rfl rfl 7 (by decide) mX9_advance_3 rfl dX9_advance_191 ?_
                      refine gSub F (by omega) dX9_advance_194 ?_
                      refine lv_iconst (v := nI 3) F.1 F.2.1 dX9_advance_195 rfl ?_
                      refine gGt (tgt := 203) F (by omega) (by omega) dX9_advance_196 (by decide) (fun c_196 => ?_) (fun c_196 => ?_)
                      · refine lv_iconst (v := nI 0) F.1 F.2.1 dX9_advance_203 rfl ?_
                        refine gPut (w2 := (h, .inr (6, [.ref r0, .ref r1, .ref r2, .ref r3, .ref r4, .int (nI n), .int (nI 0), .int (nI (tkS tx n te)), .int (nI i), .int f9, .int f10, .int f11, .int f12])) :: (r0, .inl (g.2.1 0, 600, .inl (nA tx))) :: R) F hS hG hW nX9_advance_X9 0 rfl rfl 6 (by decide) tyX9 tyX9_ok nmX9 mX9_advance_4 rfl rfl rfl rfl (Nat.le_of_ble_eq_true rfl) rfl dX9_advance_204 (fun H locs hW hS => ?_)
                        refine lv_goto (tgt := 239) F.1 F.2.1 dX9_advance_207 (by decide) ?_
                        refine gRv F hW hS dX9_advance_239 ?_
                        show _ = _
                        have eE : tkE tx n te = scan (fun j => isD (tx j)) n (tkS tx n te + 1) := (if_pos c_53).trans ((if_neg (by rw [c_73]; exact Bool.false_ne_true)).trans (if_pos c_144))
                        have eK : tkK tx n te = 0 := by rw [tkK, if_pos c_53, if_neg (by rw [c_73]; exact Bool.false_ne_true), if_pos c_144, eE, hs147]; exact if_neg (Nat.not_le.mpr c_196)
                        rw [hs147] at eE
                        rw [eK, eE]
                      · refine lv_iconst (v := nI 2) F.1 F.2.1 dX9_advance_199 rfl ?_
                        refine lv_goto (tgt := 204) F.1 F.2.1 dX9_advance_200 (by decide) ?_
                        refine gPut (w2 := (h, .inr (6, [.ref r0, .ref r1, .ref r2, .ref r3, .ref r4, .int (nI n), .int (nI 2), .int (nI (tkS tx n te)), .int (nI i), .int f9, .int f10, .int f11, .int f12])) :: (r0, .inl (g.2.1 0, 600, .inl (nA tx))) :: R) F hS hG hW nX9_advance_X9 0 rfl rfl 6 (by decide) tyX9 tyX9_ok nmX9 mX9_advance_4 rfl rfl rfl rfl (Nat.le_of_ble_eq_true rfl) rfl dX9_advance_204 (fun H locs hW hS => ?_)
                        refine lv_goto (tgt := 239) F.1 F.2.1 dX9_advance_207 (by decide) ?_
                        refine gRv F hW hS dX9_advance_239 ?_
                        show _ = _
                        have eE : tkE tx n te = scan (fun j => isD (tx j)) n (tkS tx n te + 1) := (if_pos c_53).trans ((if_neg (by rw [c_73]; exact Bool.false_ne_true)).trans (if_pos c_144))
                        have eK : tkK tx n te = 2 := by rw [tkK, if_pos c_53, if_neg (by rw [c_73]; exact Bool.false_ne_true), if_pos c_144, eE, hs147]; exact if_pos c_196
                        rw [hs147] at eE
                        rw [eK, eE]
                    · refine lv_aload_n F.1 F.2.1 dX9_advance_172 rfl (lv_at hl 0 rfl) ?_
                      refine lv_dup F.1 F.2.1 dX9_advance_173 rfl ?_
                      refine gGet F hG hW nX9_advance_X9 0 rfl rfl 8 (by decide) mX9_advance_1 rfl dX9_advance_174 ?_
                      refine lv_iconst (v := nI 1) F.1 F.2.1 dX9_advance_177 rfl ?_
                      refine gAdd F dX9_advance_178 ?_
                      refine gPut (w2 := (h, .inr (6, [.ref r0, .ref r1, .ref r2, .ref r3, .ref r4, .int (nI n), .int f6, .int (nI (tkS tx n te)), .int (nI (i + 1)), .int f9, .int f10, .int f11, .int f12])) :: (r0, .inl (g.2.1 0, 600, .inl (nA tx))) :: R) F hS hG hW nX9_advance_X9 0 rfl rfl 8 (by decide) tyX9 tyX9_ok nmX9 mX9_advance_1 rfl rfl rfl rfl (Nat.le_of_ble_eq_true rfl) rfl dX9_advance_179 (fun H locs hW hS => ?_)
                      refine lv_goto (tgt := 147) F.1 F.2.1 dX9_advance_182 (by decide) ?_
                      exact ih_147 (i + 1) (by omega) (by omega) ((scan_s (p := fun j => isD (tx j)) c_155 c_169).symm.trans hs) (by omega) _ _ _ hW hS (lv_sub hl [0] rfl)
              exact L_147 _ ((tkS tx n te) + 1) (by omega) (Nat.le_refl _) rfl (Nat.lt_succ_self _) _ _ _ hW hS (lv_sub hl [1] rfl)
          · have L_76 : ∀ (fu : Nat), ∀ (i : Nat) (hi : i ≤ n) (hge : tkS tx n te + 1 ≤ i) (hs : scan (fun j => isL (tx j)) n i = scan (fun j => isL (tx j)) n (tkS tx n te + 1)) (hm_76 : n - i < fu) (H : Heap) (locs : List Loc) (ls : Array Slot) (hW : gW g ((h, .inr (6, [.ref r0, .ref r1, .ref r2, .ref r3, .ref r4, .int (nI n), .int f6, .int (nI (tkS tx n te)), .int (nI i), .int f9, .int f10, .int f11, .int f12])) :: (r0, .inl (g.2.1 0, 600, .inl (nA tx))) :: R) H) (hS : va_S (gA g) s.heap H locs) (hl : lv_has ls 3 [(0, .ref h)]), W p l e (headSpec wsX9_advance rm_X9_advance).room s m ([.ref h] : List Value).toArray below meth c H locs 0 0 (MQ below (va_Qv (fun u => (h, .inr (6, [.ref r0, .ref r1, .ref r2, .ref r3, .ref r4, .int (nI n), .int (nI (tkK tx n te)), .int (nI (tkS tx n te)), .int (nI (tkE tx n te)), .int f9, .int f10, .int f11, .int f12])) :: (r0, .inl (g.2.1 0, 600, .inl (nA tx))) :: R = u) (fun u t => gW g u t.heap) (gA g)) ([.ref h] : List Value).toArray s 0 0 (gA g)) (F0 m 76 ls []) := by
              intro fu
              induction fu with
              | zero =>
                intros _ _ _ _ hm_76
                exact absurd hm_76 (Nat.not_lt_zero _)
              | succ fu ih_76 =>
                intro i hi hge hs hm_76 H locs ls hW hS hl
                refine lv_aload_n F.1 F.2.1 dX9_advance_76 rfl (lv_at hl 0 rfl) ?_
                refine gGet F hG hW nX9_advance_X9 0 rfl rfl 8 (by decide) mX9_advance_1 rfl dX9_advance_77 ?_
                refine lv_aload_n F.1 F.2.1 dX9_advance_80 rfl (lv_at hl 0 rfl) ?_
                refine gGet F hG hW nX9_advance_X9 0 rfl rfl 5 (by decide) mX9_advance_2 rfl dX9_advance_81 ?_
                refine gGe (tgt := 114) F (by omega) (by omega) dX9_advance_84 (by decide) (fun c_84 => ?_) (fun c_84 => ?_)
                · have hs76 : scan (fun j => isL (tx j)) n (tkS tx n te + 1) = i := by rw [← hs]; exact scan_n (by omega)
                  refine lv_aload_n F.1 F.2.1 dX9_advance_114 rfl (lv_at hl 0 rfl) ?_
                  refine lv_aload_n F.1 F.2.1 dX9_advance_115 rfl (lv_at hl 0 rfl) ?_
                  refine gGet F hG hW nX9_advance_X9 0 rfl rfl 8 (by decide) mX9_advance_1 rfl dX9_advance_116 ?_
                  refine lv_aload_n F.1 F.2.1 dX9_advance_119 rfl (lv_at hl 0 rfl) ?_
                  refine gGet F hG hW nX9_advance_X9 0 rfl rfl 7 (by decide) mX9_advance_3 rfl dX9_advance_120 ?_
                  refine gSub F (by omega) dX9_advance_123 ?_
                  refine lv_bipush (v := nI 8) F.1 F.2.1 dX9_advance_124 (by decide) ?_
                  refine gGt (tgt := 133) F (by omega) (by omega) dX9_advance_126 (by decide) (fun c_126 => ?_) (fun c_126 => ?_)
                  · refine lv_iconst (v := nI 0) F.1 F.2.1 dX9_advance_133 rfl ?_
                    refine gPut (w2 := (h, .inr (6, [.ref r0, .ref r1, .ref r2, .ref r3, .ref r4, .int (nI n), .int (nI 0), .int (nI (tkS tx n te)), .int (nI i), .int f9, .int f10, .int f11, .int f12])) :: (r0, .inl (g.2.1 0, 600, .inl (nA tx))) :: R) F hS hG hW nX9_advance_X9 0 rfl rfl 6 (by decide) tyX9 tyX9_ok nmX9 mX9_advance_4 rfl rfl rfl rfl (Nat.le_of_ble_eq_true rfl) rfl dX9_advance_134 (fun H locs hW hS => ?_)
                    refine lv_goto (tgt := 239) F.1 F.2.1 dX9_advance_137 (by decide) ?_
                    refine gRv F hW hS dX9_advance_239 ?_
                    show _ = _
                    have eE : tkE tx n te = scan (fun j => isL (tx j)) n (tkS tx n te + 1) := (if_pos c_53).trans (if_pos c_73)
                    have eK : tkK tx n te = 0 := by rw [tkK, if_pos c_53, if_pos c_73, eE, hs76]; exact if_neg (Nat.not_le.mpr c_126)
                    rw [hs76] at eE
                    rw [eK, eE]
                  · refine lv_iconst (v := nI 1) F.1 F.2.1 dX9_advance_129 rfl ?_
                    refine lv_goto (tgt := 134) F.1 F.2.1 dX9_advance_130 (by decide) ?_
                    refine gPut (w2 := (h, .inr (6, [.ref r0, .ref r1, .ref r2, .ref r3, .ref r4, .int (nI n), .int (nI 1), .int (nI (tkS tx n te)), .int (nI i), .int f9, .int f10, .int f11, .int f12])) :: (r0, .inl (g.2.1 0, 600, .inl (nA tx))) :: R) F hS hG hW nX9_advance_X9 0 rfl rfl 6 (by decide) tyX9 tyX9_ok nmX9 mX9_advance_4 rfl rfl rfl rfl (Nat.le_of_ble_eq_true rfl) rfl dX9_advance_134 (fun H locs hW hS => ?_)
                    refine lv_goto (tgt := 239) F.1 F.2.1 dX9_advance_137 (by decide) ?_
                    refine gRv F hW hS dX9_advance_239 ?_
                    show _ = _
                    have eE : tkE tx n te = scan (fun j => isL (tx j)) n (tkS tx n te + 1) := (if_pos c_53).trans (if_pos c_73)
                    have eK : tkK tx n te = 1 := by rw [tkK, if_pos c_53, if_pos c_73, eE, hs76]; exact if_pos c_126
                    rw [hs76] at eE
                    rw [eK, eE]
                · refine lv_aload_n F.1 F.2.1 dX9_advance_87 rfl (lv_at hl 0 rfl) ?_
                  refine lv_aload_n F.1 F.2.1 dX9_advance_88 rfl (lv_at hl 0 rfl) ?_
                  refine gGet F hG hW nX9_advance_X9 0 rfl rfl 8 (by decide) mX9_advance_1 rfl dX9_advance_89 ?_
                  refine gVi (n := 1) (q := (RX9, TX9, 13)) (q0 := 0) (As := [.int (nI i)]) F hG hS hW (c_X9_byteAt g l  (by omega) (by omega)) rfl gX9_advance_X9_byteAt rfl rfl rfl (by decide +kernel) ⟨rfl, rfl, Nat.le_of_ble_eq_true rfl, Nat.le_of_ble_eq_true rfl⟩ hl.1 (Nat.le_of_ble_eq_true rfl) ⟨Nat.le_of_ble_eq_true rfl, Nat.le_of_ble_eq_true rfl⟩ rfl rfl dX9_advance_92 (fun r u H locs hq hW hS => ?_)
                  obtain ⟨rfl, rfl⟩ := hq
                  have hW : gW g ((h, .inr (6, [.ref r0, .ref r1, .ref r2, .ref r3, .ref r4, .int (nI n), .int f6, .int (nI (tkS tx n te)), .int (nI i), .int f9, .int f10, .int f11, .int f12])) :: (r0, .inl (g.2.1 0, 600, .inl (nA tx))) :: R) _ := hW
                  refine gS_i (n := 1) (As := [.int (nI (tx i))]) F hG hS hW (c_X9_isLetter g l  (Nat.lt_of_lt_of_le (hx i) (by decide))) rfl gX9_advance_X9_isLetter (by decide +kernel) ⟨rfl, rfl, Nat.le_of_ble_eq_true rfl, Nat.le_of_ble_eq_true rfl⟩ hl.1 (Nat.le_of_ble_eq_true rfl) ⟨Nat.le_of_ble_eq_true rfl, Nat.le_of_ble_eq_true rfl⟩ rfl rfl dX9_advance_95 (fun r u H locs hq hW hS => ?_)
                  obtain ⟨rfl, rfl⟩ := hq
                  have hW : gW g ((h, .inr (6, [.ref r0, .ref r1, .ref r2, .ref r3, .ref r4, .int (nI n), .int f6, .int (nI (tkS tx n te)), .int (nI i), .int f9, .int f10, .int f11, .int f12])) :: (r0, .inl (g.2.1 0, 600, .inl (nA tx))) :: R) _ := hW
                  refine gIfEqB (tgt := 114) F dX9_advance_98 (by decide) (fun c_98 => ?_) (fun c_98 => ?_)
                  · have hs76 : scan (fun j => isL (tx j)) n (tkS tx n te + 1) = i := by rw [← hs]; exact scan_p c_84 c_98
                    refine lv_aload_n F.1 F.2.1 dX9_advance_114 rfl (lv_at hl 0 rfl) ?_
                    refine lv_aload_n F.1 F.2.1 dX9_advance_115 rfl (lv_at hl 0 rfl) ?_
                    refine gGet F hG hW nX9_advance_X9 0 rfl rfl 8 (by decide) mX9_advance_1 rfl dX9_advance_116 ?_
                    refine lv_aload_n F.1 F.2.1 dX9_advance_119 rfl (lv_at hl 0 rfl) ?_
                    refine gGet F hG hW nX9_advance_X9 0 rfl rfl 7 (by decide) mX9_advance_3 rfl dX9_advance_120 ?_
                    refine gSub F (by omega) dX9_advance_123 ?_
                    refine lv_bipush (v := nI 8) F.1 F.2.1 dX9_advance_124 (by decide) ?_
                    refine gGt (tgt := 133) F (by omega) (by omega) dX9_advance_126 (by decide) (fun c_126 => ?_) (fun c_126 => ?_)
                    · refine lv_iconst (v := nI 0) F.1 F.2.1 dX9_advance_133 rfl ?_
                      refine gPut (w2 := (h, .inr (6, [.ref r0, .ref r1, .ref r2, .ref r3, .ref r4, .int (nI n), .int (nI 0), .int (nI (tkS tx n te)), .int (nI i), .int f9, .int f10, .int f11, .int f12])) :: (r0, .inl (g.2.1 0, 600, .inl (nA tx))) :: R) F hS hG hW nX9_advance_X9 0 rfl rfl 6 (by decide) tyX9 tyX9_ok nmX9 mX9_advance_4 rfl rfl rfl rfl (Nat.le_of_ble_eq_true rfl) rfl dX9_advance_134 (fun H locs hW hS => ?_)
                      refine lv_goto (tgt := 239) F.1 F.2.1 dX9_advance_137 (by decide) ?_
                      refine gRv F hW hS dX9_advance_239 ?_
                      show _ = _
                      have eE : tkE tx n te = scan (fun j => isL (tx j)) n (tkS tx n te + 1) := (if_pos c_53).trans (if_pos c_73)
                      have eK : tkK tx n te = 0 := by rw [tkK, if_pos c_53, if_pos c_73, eE, hs76]; exact if_neg (Nat.not_le.mpr c_126)
                      rw [hs76] at eE
                      rw [eK, eE]
                    · refine lv_iconst (v := nI 1) F.1 F.2.1 dX9_advance_129 rfl ?_
                      refine lv_goto (tgt := 134) F.1 F.2.1 dX9_advance_130 (by decide) ?_
                      refine gPut (w2 := (h, .inr (6, [.ref r0, .ref r1, .ref r2, .ref r3, .ref r4, .int (nI n), .int (nI 1), .int (nI (tkS tx n te)), .int (nI i), .int f9, .int f10, .int f11, .int f12])) :: (r0, .inl (g.2.1 0, 600, .inl (nA tx))) :: R) F hS hG hW nX9_advance_X9 0 rfl rfl 6 (by decide) tyX9 tyX9_ok nmX9 mX9_advance_4 rfl rfl rfl rfl (Nat.le_of_ble_eq_true rfl) rfl dX9_advance_134 (fun H locs hW hS => ?_)
                      refine lv_goto (tgt := 239) F.1 F.2.1 dX9_advance_137 (by decide) ?_
                      refine gRv F hW hS dX9_advance_239 ?_
                      show _ = _
                      have eE : tkE tx n te = scan (fun j => isL (tx j)) n (tkS tx n te + 1) := (if_pos c_53).trans (if_pos c_73)
                      have eK : tkK tx n te = 1 := by rw [tkK, if_pos c_53, if_pos c_73, eE, hs76]; exact if_pos c_126
                      rw [hs76] at eE
                      rw [eK, eE]
                  · refine lv_aload_n F.1 F.2.1 dX9_advance_101 rfl (lv_at hl 0 rfl) ?_
                    refine lv_dup F.1 F.2.1 dX9_advance_102 rfl ?_
                    refine gGet F hG hW nX9_advance_X9 0 rfl rfl 8 (by decide) mX9_advance_1 rfl dX9_advance_103 ?_
                    refine lv_iconst (v := nI 1) F.1 F.2.1 dX9_advance_106 rfl ?_
                    refine gAdd F dX9_advance_107 ?_
                    refine gPut (w2 := (h, .inr (6, [.ref r0, .ref r1, .ref r2, .ref r3, .ref r4, .int (nI n), .int f6, .int (nI (tkS tx n te)), .int (nI (i + 1)), .int f9, .int f10, .int f11, .int f12])) :: (r0, .inl (g.2.1 0, 600, .inl (nA tx))) :: R) F hS hG hW nX9_advance_X9 0 rfl rfl 8 (by decide) tyX9 tyX9_ok nmX9 mX9_advance_1 rfl rfl rfl rfl (Nat.le_of_ble_eq_true rfl) rfl dX9_advance_108 (fun H locs hW hS => ?_)
                    refine lv_goto (tgt := 76) F.1 F.2.1 dX9_advance_111 (by decide) ?_
                    exact ih_76 (i + 1) (by omega) (by omega) ((scan_s (p := fun j => isL (tx j)) c_84 c_98).symm.trans hs) (by omega) _ _ _ hW hS (lv_sub hl [0] rfl)
            exact L_76 _ ((tkS tx n te) + 1) (by omega) (Nat.le_refl _) rfl (Nat.lt_succ_self _) _ _ _ hW hS (lv_sub hl [1] rfl)
        · refine gVi (n := 1) (q := (RX9, TX9, 13)) (q0 := 0) (As := [.int (nI (tkS tx n te))]) F hG hS hW (c_X9_byteAt_o g l  q44 (by omega) (by omega)) rfl gX9_advance_X9_byteAt rfl rfl rfl (by decide +kernel) ⟨rfl, rfl, Nat.le_of_ble_eq_true rfl, Nat.le_of_ble_eq_true rfl⟩ hl.1 (Nat.le_of_ble_eq_true rfl) ⟨Nat.le_of_ble_eq_true rfl, Nat.le_of_ble_eq_true rfl⟩ rfl rfl dX9_advance_44 (fun r u H locs hq hW hS => ?_)
          obtain ⟨rfl, rfl⟩ := hq
          have hW : gW g ((h, .inr (6, [.ref r0, .ref r1, .ref r2, .ref r3, .ref r4, .int (nI n), .int f6, .int (nI (tkS tx n te)), .int (nI ((tkS tx n te) + 1)), .int f9, .int f10, .int f11, .int f12])) :: (r0, .inl (g.2.1 0, 600, .inl (nA tx))) :: R) _ := hW
          refine lv_istore_n (lv' := [(2, .int (-1)), (0, .ref h), (1, .int (nI (tkS tx n te)))]) F.1 F.2.1 dX9_advance_47 rfl hl (by decide) rfl (fun ls hl => ?_)
          refine lv_iload_n F.1 F.2.1 dX9_advance_48 rfl (lv_at hl 2 rfl) ?_
          refine lv_aload_n F.1 F.2.1 dX9_advance_49 rfl (lv_at hl 1 rfl) ?_
          refine gGet F hG hW nX9_advance_X9 0 rfl rfl 5 (by decide) mX9_advance_2 rfl dX9_advance_50 ?_
          refine gLt (tgt := 69) F (by omega) (by omega) dX9_advance_53 (by decide) (fun c_53 => by exfalso; omega) (fun c_53 => ?_)
          refine lv_aload_n F.1 F.2.1 dX9_advance_56 rfl (lv_at hl 1 rfl) ?_
          refine lv_iconst (v := nI 5) F.1 F.2.1 dX9_advance_57 rfl ?_
          refine gPut (w2 := (h, .inr (6, [.ref r0, .ref r1, .ref r2, .ref r3, .ref r4, .int (nI n), .int (nI 5), .int (nI (tkS tx n te)), .int (nI ((tkS tx n te) + 1)), .int f9, .int f10, .int f11, .int f12])) :: (r0, .inl (g.2.1 0, 600, .inl (nA tx))) :: R) F hS hG hW nX9_advance_X9 0 rfl rfl 6 (by decide) tyX9 tyX9_ok nmX9 mX9_advance_4 rfl rfl rfl rfl (Nat.le_of_ble_eq_true rfl) rfl dX9_advance_58 (fun H locs hW hS => ?_)
          refine lv_aload_n F.1 F.2.1 dX9_advance_61 rfl (lv_at hl 1 rfl) ?_
          refine lv_iload_n F.1 F.2.1 dX9_advance_62 rfl (lv_at hl 2 rfl) ?_
          refine gPut (w2 := (h, .inr (6, [.ref r0, .ref r1, .ref r2, .ref r3, .ref r4, .int (nI n), .int (nI 5), .int (nI (tkS tx n te)), .int (nI (tkS tx n te)), .int f9, .int f10, .int f11, .int f12])) :: (r0, .inl (g.2.1 0, 600, .inl (nA tx))) :: R) F hS hG hW nX9_advance_X9 0 rfl rfl 8 (by decide) tyX9 tyX9_ok nmX9 mX9_advance_1 rfl rfl rfl rfl (Nat.le_of_ble_eq_true rfl) rfl dX9_advance_63 (fun H locs hW hS => ?_)
          refine lv_goto (tgt := 239) F.1 F.2.1 dX9_advance_66 (by decide) ?_
          refine gRv F hW hS dX9_advance_239 ?_
          show _ = _
          have eE : tkE tx n te = tkS tx n te := if_neg (Nat.not_lt.mpr c_53)
          have eK : tkK tx n te = 5 := if_neg (Nat.not_lt.mpr c_53)
          rw [eK, eE]
      · refine lv_aload_n F.1 F.2.1 dX9_advance_13 rfl (lv_at hl 0 rfl) ?_
        refine lv_iload_n F.1 F.2.1 dX9_advance_14 rfl (lv_at hl 1 rfl) ?_
        refine gVi (n := 1) (q := (RX9, TX9, 13)) (q0 := 0) (As := [.int (nI i)]) F hG hS hW (c_X9_byteAt g l  (by omega) (by omega)) rfl gX9_advance_X9_byteAt rfl rfl rfl (by decide +kernel) ⟨rfl, rfl, Nat.le_of_ble_eq_true rfl, Nat.le_of_ble_eq_true rfl⟩ hl.1 (Nat.le_of_ble_eq_true rfl) ⟨Nat.le_of_ble_eq_true rfl, Nat.le_of_ble_eq_true rfl⟩ rfl rfl dX9_advance_15 (fun r u H locs hq hW hS => ?_)
        obtain ⟨rfl, rfl⟩ := hq
        have hW : gW g ((h, .inr (6, [.ref r0, .ref r1, .ref r2, .ref r3, .ref r4, .int (nI n), .int f6, .int f7, .int (nI te), .int f9, .int f10, .int f11, .int f12])) :: (r0, .inl (g.2.1 0, 600, .inl (nA tx))) :: R) _ := hW
        refine gS_i (n := 1) (As := [.int (nI (tx i))]) F hG hS hW (c_X9_isBlank g l  (Nat.lt_of_lt_of_le (hx i) (by decide))) rfl gX9_advance_X9_isBlank (by decide +kernel) ⟨rfl, rfl, Nat.le_of_ble_eq_true rfl, Nat.le_of_ble_eq_true rfl⟩ hl.1 (Nat.le_of_ble_eq_true rfl) ⟨Nat.le_of_ble_eq_true rfl, Nat.le_of_ble_eq_true rfl⟩ rfl rfl dX9_advance_18 (fun r u H locs hq hW hS => ?_)
        obtain ⟨rfl, rfl⟩ := hq
        have hW : gW g ((h, .inr (6, [.ref r0, .ref r1, .ref r2, .ref r3, .ref r4, .int (nI n), .int f6, .int f7, .int (nI te), .int f9, .int f10, .int f11, .int f12])) :: (r0, .inl (g.2.1 0, 600, .inl (nA tx))) :: R) _ := hW
        refine gIfEqB (tgt := 30) F dX9_advance_21 (by decide) (fun c_21 => ?_) (fun c_21 => ?_)
        · obtain rfl : i = tkS tx n te := by rw [tkS, ← hs]; exact (scan_p c_10 c_21).symm
          refine lv_aload_n F.1 F.2.1 dX9_advance_30 rfl (lv_at hl 0 rfl) ?_
          refine lv_iload_n F.1 F.2.1 dX9_advance_31 rfl (lv_at hl 1 rfl) ?_
          refine gPut (w2 := (h, .inr (6, [.ref r0, .ref r1, .ref r2, .ref r3, .ref r4, .int (nI n), .int f6, .int (nI (tkS tx n te)), .int (nI te), .int f9, .int f10, .int f11, .int f12])) :: (r0, .inl (g.2.1 0, 600, .inl (nA tx))) :: R) F hS hG hW nX9_advance_X9 0 rfl rfl 7 (by decide) tyX9 tyX9_ok nmX9 mX9_advance_3 rfl rfl rfl rfl (Nat.le_of_ble_eq_true rfl) rfl dX9_advance_32 (fun H locs hW hS => ?_)
          refine lv_aload_n F.1 F.2.1 dX9_advance_35 rfl (lv_at hl 0 rfl) ?_
          refine lv_iload_n F.1 F.2.1 dX9_advance_36 rfl (lv_at hl 1 rfl) ?_
          refine lv_iconst (v := nI 1) F.1 F.2.1 dX9_advance_37 rfl ?_
          refine gAdd F dX9_advance_38 ?_
          refine gPut (w2 := (h, .inr (6, [.ref r0, .ref r1, .ref r2, .ref r3, .ref r4, .int (nI n), .int f6, .int (nI (tkS tx n te)), .int (nI ((tkS tx n te) + 1)), .int f9, .int f10, .int f11, .int f12])) :: (r0, .inl (g.2.1 0, 600, .inl (nA tx))) :: R) F hS hG hW nX9_advance_X9 0 rfl rfl 8 (by decide) tyX9 tyX9_ok nmX9 mX9_advance_1 rfl rfl rfl rfl (Nat.le_of_ble_eq_true rfl) rfl dX9_advance_39 (fun H locs hW hS => ?_)
          refine lv_aload_n F.1 F.2.1 dX9_advance_42 rfl (lv_at hl 0 rfl) ?_
          refine lv_iload_n F.1 F.2.1 dX9_advance_43 rfl (lv_at hl 1 rfl) ?_
          have hk0 := scan_le (fun j => isBl (tx j)) ht
          have hk1 : tkS tx n te ≤ n := hk0
          have hx9 := hx (tkS tx n te)
          rcases Nat.lt_or_ge (tkS tx n te) n with q44 | q44
          · refine gVi (n := 1) (q := (RX9, TX9, 13)) (q0 := 0) (As := [.int (nI (tkS tx n te))]) F hG hS hW (c_X9_byteAt g l  q44 (by omega)) rfl gX9_advance_X9_byteAt rfl rfl rfl (by decide +kernel) ⟨rfl, rfl, Nat.le_of_ble_eq_true rfl, Nat.le_of_ble_eq_true rfl⟩ hl.1 (Nat.le_of_ble_eq_true rfl) ⟨Nat.le_of_ble_eq_true rfl, Nat.le_of_ble_eq_true rfl⟩ rfl rfl dX9_advance_44 (fun r u H locs hq hW hS => ?_)
            obtain ⟨rfl, rfl⟩ := hq
            have hW : gW g ((h, .inr (6, [.ref r0, .ref r1, .ref r2, .ref r3, .ref r4, .int (nI n), .int f6, .int (nI (tkS tx n te)), .int (nI ((tkS tx n te) + 1)), .int f9, .int f10, .int f11, .int f12])) :: (r0, .inl (g.2.1 0, 600, .inl (nA tx))) :: R) _ := hW
            refine lv_istore_n (lv' := [(2, .int (nI (tx (tkS tx n te)))), (0, .ref h), (1, .int (nI (tkS tx n te)))]) F.1 F.2.1 dX9_advance_47 rfl hl (by decide) rfl (fun ls hl => ?_)
            refine lv_iload_n F.1 F.2.1 dX9_advance_48 rfl (lv_at hl 2 rfl) ?_
            refine lv_aload_n F.1 F.2.1 dX9_advance_49 rfl (lv_at hl 1 rfl) ?_
            refine gGet F hG hW nX9_advance_X9 0 rfl rfl 5 (by decide) mX9_advance_2 rfl dX9_advance_50 ?_
            refine gLt (tgt := 69) F (by omega) (by omega) dX9_advance_53 (by decide) (fun c_53 => ?_) (fun c_53 => by exfalso; omega)
            refine lv_iload_n F.1 F.2.1 dX9_advance_69 rfl (lv_at hl 0 rfl) ?_
            refine gS_i (n := 1) (As := [.int (nI (tx (tkS tx n te)))]) F hG hS hW (c_X9_isLetter g l  (Nat.lt_of_lt_of_le (hx (tkS tx n te)) (by decide))) rfl gX9_advance_X9_isLetter (by decide +kernel) ⟨rfl, rfl, Nat.le_of_ble_eq_true rfl, Nat.le_of_ble_eq_true rfl⟩ hl.1 (Nat.le_of_ble_eq_true rfl) ⟨Nat.le_of_ble_eq_true rfl, Nat.le_of_ble_eq_true rfl⟩ rfl rfl dX9_advance_70 (fun r u H locs hq hW hS => ?_)
            obtain ⟨rfl, rfl⟩ := hq
            have hW : gW g ((h, .inr (6, [.ref r0, .ref r1, .ref r2, .ref r3, .ref r4, .int (nI n), .int f6, .int (nI (tkS tx n te)), .int (nI ((tkS tx n te) + 1)), .int f9, .int f10, .int f11, .int f12])) :: (r0, .inl (g.2.1 0, 600, .inl (nA tx))) :: R) _ := hW
            refine gIfEqB (tgt := 140) F dX9_advance_73 (by decide) (fun c_73 => ?_) (fun c_73 => ?_)
            · refine lv_iload_n F.1 F.2.1 dX9_advance_140 rfl (lv_at hl 0 rfl) ?_
              refine gS_i (n := 1) (As := [.int (nI (tx (tkS tx n te)))]) F hG hS hW (c_X9_isDigit g l  (Nat.lt_of_lt_of_le (hx (tkS tx n te)) (by decide))) rfl gX9_advance_X9_isDigit (by decide +kernel) ⟨rfl, rfl, Nat.le_of_ble_eq_true rfl, Nat.le_of_ble_eq_true rfl⟩ hl.1 (Nat.le_of_ble_eq_true rfl) ⟨Nat.le_of_ble_eq_true rfl, Nat.le_of_ble_eq_true rfl⟩ rfl rfl dX9_advance_141 (fun r u H locs hq hW hS => ?_)
              obtain ⟨rfl, rfl⟩ := hq
              have hW : gW g ((h, .inr (6, [.ref r0, .ref r1, .ref r2, .ref r3, .ref r4, .int (nI n), .int f6, .int (nI (tkS tx n te)), .int (nI ((tkS tx n te) + 1)), .int f9, .int f10, .int f11, .int f12])) :: (r0, .inl (g.2.1 0, 600, .inl (nA tx))) :: R) _ := hW
              refine gIfEqB (tgt := 210) F dX9_advance_144 (by decide) (fun c_144 => ?_) (fun c_144 => ?_)
              · refine lv_iload_n F.1 F.2.1 dX9_advance_210 rfl (lv_at hl 0 rfl) ?_
                refine lv_bipush (v := nI 58) F.1 F.2.1 dX9_advance_211 (by decide) ?_
                refine gNe (tgt := 224) F (by omega) (by omega) dX9_advance_213 (by decide) (fun c_213 => ?_) (fun c_213 => ?_)
                · refine lv_aload_n F.1 F.2.1 dX9_advance_224 rfl (lv_at hl 1 rfl) ?_
                  refine lv_iload_n F.1 F.2.1 dX9_advance_225 rfl (lv_at hl 0 rfl) ?_
                  refine lv_bipush (v := nI 59) F.1 F.2.1 dX9_advance_226 (by decide) ?_
                  refine gNe (tgt := 235) F (by omega) (by omega) dX9_advance_228 (by decide) (fun c_228 => ?_) (fun c_228 => ?_)
                  · refine lv_iconst (v := nI 0) F.1 F.2.1 dX9_advance_235 rfl ?_
                    refine gPut (w2 := (h, .inr (6, [.ref r0, .ref r1, .ref r2, .ref r3, .ref r4, .int (nI n), .int (nI 0), .int (nI (tkS tx n te)), .int (nI ((tkS tx n te) + 1)), .int f9, .int f10, .int f11, .int f12])) :: (r0, .inl (g.2.1 0, 600, .inl (nA tx))) :: R) F hS hG hW nX9_advance_X9 0 rfl rfl 6 (by decide) tyX9 tyX9_ok nmX9 mX9_advance_4 rfl rfl rfl rfl (Nat.le_of_ble_eq_true rfl) rfl dX9_advance_236 (fun H locs hW hS => ?_)
                    refine gRv F hW hS dX9_advance_239 ?_
                    show _ = _
                    have eE : tkE tx n te = tkS tx n te + 1 := (if_pos c_53).trans ((if_neg (by rw [c_73]; exact Bool.false_ne_true)).trans (if_neg (by rw [c_144]; exact Bool.false_ne_true)))
                    have eK : tkK tx n te = 0 := by rw [tkK, if_pos c_53, if_neg (by rw [c_73]; exact Bool.false_ne_true), if_neg (by rw [c_144]; exact Bool.false_ne_true)]; exact (if_neg c_213).trans (if_neg c_228)
                    rw [eK, eE]
                  · refine lv_iconst (v := nI 4) F.1 F.2.1 dX9_advance_231 rfl ?_
                    refine lv_goto (tgt := 236) F.1 F.2.1 dX9_advance_232 (by decide) ?_
                    refine gPut (w2 := (h, .inr (6, [.ref r0, .ref r1, .ref r2, .ref r3, .ref r4, .int (nI n), .int (nI 4), .int (nI (tkS tx n te)), .int (nI ((tkS tx n te) + 1)), .int f9, .int f10, .int f11, .int f12])) :: (r0, .inl (g.2.1 0, 600, .inl (nA tx))) :: R) F hS hG hW nX9_advance_X9 0 rfl rfl 6 (by decide) tyX9 tyX9_ok nmX9 mX9_advance_4 rfl rfl rfl rfl (Nat.le_of_ble_eq_true rfl) rfl dX9_advance_236 (fun H locs hW hS => ?_)
                    refine gRv F hW hS dX9_advance_239 ?_
                    show _ = _
                    have eE : tkE tx n te = tkS tx n te + 1 := (if_pos c_53).trans ((if_neg (by rw [c_73]; exact Bool.false_ne_true)).trans (if_neg (by rw [c_144]; exact Bool.false_ne_true)))
                    have eK : tkK tx n te = 4 := by rw [tkK, if_pos c_53, if_neg (by rw [c_73]; exact Bool.false_ne_true), if_neg (by rw [c_144]; exact Bool.false_ne_true)]; exact (if_neg c_213).trans (if_pos c_228)
                    rw [eK, eE]
                · refine lv_aload_n F.1 F.2.1 dX9_advance_216 rfl (lv_at hl 1 rfl) ?_
                  refine lv_iconst (v := nI 3) F.1 F.2.1 dX9_advance_217 rfl ?_
                  refine gPut (w2 := (h, .inr (6, [.ref r0, .ref r1, .ref r2, .ref r3, .ref r4, .int (nI n), .int (nI 3), .int (nI (tkS tx n te)), .int (nI ((tkS tx n te) + 1)), .int f9, .int f10, .int f11, .int f12])) :: (r0, .inl (g.2.1 0, 600, .inl (nA tx))) :: R) F hS hG hW nX9_advance_X9 0 rfl rfl 6 (by decide) tyX9 tyX9_ok nmX9 mX9_advance_4 rfl rfl rfl rfl (Nat.le_of_ble_eq_true rfl) rfl dX9_advance_218 (fun H locs hW hS => ?_)
                  refine lv_goto (tgt := 239) F.1 F.2.1 dX9_advance_221 (by decide) ?_
                  refine gRv F hW hS dX9_advance_239 ?_
                  show _ = _
                  have eE : tkE tx n te = tkS tx n te + 1 := (if_pos c_53).trans ((if_neg (by rw [c_73]; exact Bool.false_ne_true)).trans (if_neg (by rw [c_144]; exact Bool.false_ne_true)))
                  have eK : tkK tx n te = 3 := by rw [tkK, if_pos c_53, if_neg (by rw [c_73]; exact Bool.false_ne_true), if_neg (by rw [c_144]; exact Bool.false_ne_true)]; exact if_pos c_213
                  rw [eK, eE]
              · have L_147 : ∀ (fu : Nat), ∀ (i : Nat) (hi : i ≤ n) (hge : tkS tx n te + 1 ≤ i) (hs : scan (fun j => isD (tx j)) n i = scan (fun j => isD (tx j)) n (tkS tx n te + 1)) (hm_147 : n - i < fu) (H : Heap) (locs : List Loc) (ls : Array Slot) (hW : gW g ((h, .inr (6, [.ref r0, .ref r1, .ref r2, .ref r3, .ref r4, .int (nI n), .int f6, .int (nI (tkS tx n te)), .int (nI i), .int f9, .int f10, .int f11, .int f12])) :: (r0, .inl (g.2.1 0, 600, .inl (nA tx))) :: R) H) (hS : va_S (gA g) s.heap H locs) (hl : lv_has ls 3 [(0, .ref h)]), W p l e (headSpec wsX9_advance rm_X9_advance).room s m ([.ref h] : List Value).toArray below meth c H locs 0 0 (MQ below (va_Qv (fun u => (h, .inr (6, [.ref r0, .ref r1, .ref r2, .ref r3, .ref r4, .int (nI n), .int (nI (tkK tx n te)), .int (nI (tkS tx n te)), .int (nI (tkE tx n te)), .int f9, .int f10, .int f11, .int f12])) :: (r0, .inl (g.2.1 0, 600, .inl (nA tx))) :: R = u) (fun u t => gW g u t.heap) (gA g)) ([.ref h] : List Value).toArray s 0 0 (gA g)) (F0 m 147 ls []) := by
                  intro fu
                  induction fu with
                  | zero =>
                    intros _ _ _ _ hm_147
                    exact absurd hm_147 (Nat.not_lt_zero _)
                  | succ fu ih_147 =>
                    intro i hi hge hs hm_147 H locs ls hW hS hl
                    refine lv_aload_n F.1 F.2.1 dX9_advance_147 rfl (lv_at hl 0 rfl) ?_
                    refine gGet F hG hW nX9_advance_X9 0 rfl rfl 8 (by decide) mX9_advance_1 rfl dX9_advance_148 ?_
                    refine lv_aload_n F.1 F.2.1 dX9_advance_151 rfl (lv_at hl 0 rfl) ?_
                    refine gGet F hG hW nX9_advance_X9 0 rfl rfl 5 (by decide) mX9_advance_2 rfl dX9_advance_152 ?_
                    refine gGe (tgt := 185) F (by omega) (by omega) dX9_advance_155 (by decide) (fun c_155 => ?_) (fun c_155 => ?_)
                    · have hs147 : scan (fun j => isD (tx j)) n (tkS tx n te + 1) = i := by rw [← hs]; exact scan_n (by omega)
                      refine lv_aload_n F.1 F.2.1 dX9_advance_185 rfl (lv_at hl 0 rfl) ?_
                      refine lv_aload_n F.1 F.2.1 dX9_advance_186 rfl (lv_at hl 0 rfl) ?_
                      refine gGet F hG hW nX9_advance_X9 0 rfl rfl 8 (by decide) mX9_advance_1 rfl dX9_advance_187 ?_
                      refine lv_aload_n F.1 F.2.1 dX9_advance_190 rfl (lv_at hl 0 rfl) ?_
                      refine gGet F hG hW nX9_advance_X9 0 rfl rfl 7 (by decide) mX9_advance_3 rfl dX9_advance_191 ?_
                      refine gSub F (by omega) dX9_advance_194 ?_
                      refine lv_iconst (v := nI 3) F.1 F.2.1 dX9_advance_195 rfl ?_
                      refine gGt (tgt := 203) F (by omega) (by omega) dX9_advance_196 (by decide) (fun c_196 => ?_) (fun c_196 => ?_)
                      · refine lv_iconst (v := nI 0) F.1 F.2.1 dX9_advance_203 rfl ?_
                        refine gPut (w2 := (h, .inr (6, [.ref r0, .ref r1, .ref r2, .ref r3, .ref r4, .int (nI n), .int (nI 0), .int (nI (tkS tx n te)), .int (nI i), .int f9, .int f10, .int f11, .int f12])) :: (r0, .inl (g.2.1 0, 600, .inl (nA tx))) :: R) F hS hG hW nX9_advance_X9 0 rfl rfl 6 (by decide) tyX9 tyX9_ok nmX9 mX9_advance_4 rfl rfl rfl rfl (Nat.le_of_ble_eq_true rfl) rfl dX9_advance_204 (fun H locs hW hS => ?_)
                        refine lv_goto (tgt := 239) F.1 F.2.1 dX9_advance_207 (by decide) ?_
                        refine gRv F hW hS dX9_advance_239 ?_
                        show _ = _
                        have eE : tkE tx n te = scan (fun j => isD (tx j)) n (tkS tx n te + 1) := (if_pos c_53).trans ((if_neg (by rw [c_73]; exact Bool.false_ne_true)).trans (if_pos c_144))
                        have eK : tkK tx n te = 0 := by rw [tkK, if_pos c_53, if_neg (by rw [c_73]; exact Bool.false_ne_true), if_pos c_144, eE, hs147]; exact if_neg (Nat.not_le.mpr c_196)
                        rw [hs147] at eE
                        rw [eK, eE]
                      · refine lv_iconst (v := nI 2) F.1 F.2.1 dX9_advance_199 rfl ?_
                        refine lv_goto (tgt := 204) F.1 F.2.1 dX9_advance_200 (by decide) ?_
                        refine gPut (w2 := (h, .inr (6, [.ref r0, .ref r1, .ref r2, .ref r3, .ref r4, .int (nI n), .int (nI 2), .int (nI (tkS tx n te)), .int (nI i), .int f9, .int f10, .int f11, .int f12])) :: (r0, .inl (g.2.1 0, 600, .inl (nA tx))) :: R) F hS hG hW nX9_advance_X9 0 rfl rfl 6 (by decide) tyX9 tyX9_ok nmX9 mX9_advance_4 rfl rfl rfl rfl (Nat.le_of_ble_eq_true rfl) rfl dX9_advance_204 (fun H locs hW hS => ?_)
                        refine lv_goto (tgt := 239) F.1 F.2.1 dX9_advance_207 (by decide) ?_
                        refine gRv F hW hS dX9_advance_239 ?_
                        show _ = _
                        have eE : tkE tx n te = scan (fun j => isD (tx j)) n (tkS tx n te + 1) := (if_pos c_53).trans ((if_neg (by rw [c_73]; exact Bool.false_ne_true)).trans (if_pos c_144))
                        have eK : tkK tx n te = 2 := by rw [tkK, if_pos c_53, if_neg (by rw [c_73]; exact Bool.false_ne_true), if_pos c_144, eE, hs147]; exact if_pos c_196
                        rw [hs147] at eE
                        rw [eK, eE]
                    · refine lv_aload_n F.1 F.2.1 dX9_advance_158 rfl (lv_at hl 0 rfl) ?_
                      refine lv_aload_n F.1 F.2.1 dX9_advance_159 rfl (lv_at hl 0 rfl) ?_
                      refine gGet F hG hW nX9_advance_X9 0 rfl rfl 8 (by decide) mX9_advance_1 rfl dX9_advance_160 ?_
                      refine gVi (n := 1) (q := (RX9, TX9, 13)) (q0 := 0) (As := [.int (nI i)]) F hG hS hW (c_X9_byteAt g l  (by omega) (by omega)) rfl gX9_advance_X9_byteAt rfl rfl rfl (by decide +kernel) ⟨rfl, rfl, Nat.le_of_ble_eq_true rfl, Nat.le_of_ble_eq_true rfl⟩ hl.1 (Nat.le_of_ble_eq_true rfl) ⟨Nat.le_of_ble_eq_true rfl, Nat.le_of_ble_eq_true rfl⟩ rfl rfl dX9_advance_163 (fun r u H locs hq hW hS => ?_)
                      obtain ⟨rfl, rfl⟩ := hq
                      have hW : gW g ((h, .inr (6, [.ref r0, .ref r1, .ref r2, .ref r3, .ref r4, .int (nI n), .int f6, .int (nI (tkS tx n te)), .int (nI i), .int f9, .int f10, .int f11, .int f12])) :: (r0, .inl (g.2.1 0, 600, .inl (nA tx))) :: R) _ := hW
                      refine gS_i (n := 1) (As := [.int (nI (tx i))]) F hG hS hW (c_X9_isDigit g l  (Nat.lt_of_lt_of_le (hx i) (by decide))) rfl gX9_advance_X9_isDigit (by decide +kernel) ⟨rfl, rfl, Nat.le_of_ble_eq_true rfl, Nat.le_of_ble_eq_true rfl⟩ hl.1 (Nat.le_of_ble_eq_true rfl) ⟨Nat.le_of_ble_eq_true rfl, Nat.le_of_ble_eq_true rfl⟩ rfl rfl dX9_advance_166 (fun r u H locs hq hW hS => ?_)
                      obtain ⟨rfl, rfl⟩ := hq
                      have hW : gW g ((h, .inr (6, [.ref r0, .ref r1, .ref r2, .ref r3, .ref r4, .int (nI n), .int f6, .int (nI (tkS tx n te)), .int (nI i), .int f9, .int f10, .int f11, .int f12])) :: (r0, .inl (g.2.1 0, 600, .inl (nA tx))) :: R) _ := hW
                      refine gIfEqB (tgt := 185) F dX9_advance_169 (by decide) (fun c_169 => ?_) (fun c_169 => ?_)
                      · have hs147 : scan (fun j => isD (tx j)) n (tkS tx n te + 1) = i := by rw [← hs]; exact scan_p c_155 c_169
                        refine lv_aload_n F.1 F.2.1 dX9_advance_185 rfl (lv_at hl 0 rfl) ?_
                        refine lv_aload_n F.1 F.2.1 dX9_advance_186 rfl (lv_at hl 0 rfl) ?_
                        refine gGet F hG hW nX9_advance_X9 0 rfl rfl 8 (by decide) mX9_advance_1 rfl dX9_advance_187 ?_
                        refine lv_aload_n F.1 F.2.1 dX9_advance_190 rfl (lv_at hl 0 rfl) ?_
                        refine gGet F hG hW nX9_advance_X9 0 rfl rfl 7 (by decide) mX9_advance_3 rfl dX9_advance_191 ?_
                        refine gSub F (by omega) dX9_advance_194 ?_
                        refine lv_iconst (v := nI 3) F.1 F.2.1 dX9_advance_195 rfl ?_
                        refine gGt (tgt := 203) F (by omega) (by omega) dX9_advance_196 (by decide) (fun c_196 => ?_) (fun c_196 => ?_)
                        · refine lv_iconst (v := nI 0) F.1 F.2.1 dX9_advance_203 rfl ?_
                          refine gPut (w2 := (h, .inr (6, [.ref r0, .ref r1, .ref r2, .ref r3, .ref r4, .int (nI n), .int (nI 0), .int (nI (tkS tx n te)), .int (nI i), .int f9, .int f10, .int f11, .int f12])) :: (r0, .inl (g.2.1 0, 600, .inl (nA tx))) :: R) F hS hG hW nX9_advance_X9 0 rfl rfl 6 (by decide) tyX9 tyX9_ok nmX9 mX9_advance_4 rfl rfl rfl rfl (Nat.le_of_ble_eq_true rfl) rfl dX9_advance_204 (fun H locs hW hS => ?_)
                          refine lv_goto (tgt := 239) F.1 F.2.1 dX9_advance_207 (by decide) ?_
                          refine gRv F hW hS dX9_advance_239 ?_
                          show _ = _
                          have eE : tkE tx n te = scan (fun j => isD (tx j)) n (tkS tx n te + 1) := (if_pos c_53).trans ((if_neg (by rw [c_73]; exact Bool.false_ne_true)).trans (if_pos c_144))
                          have eK : tkK tx n te = 0 := by rw [tkK, if_pos c_53, if_neg (by rw [c_73]; exact Bool.false_ne_true), if_pos c_144, eE, hs147]; exact if_neg (Nat.not_le.mpr c_196)
                          rw [hs147] at eE
                          rw [eK, eE]
                        · refine lv_iconst (v := nI 2) F.1 F.2.1 dX9_advance_199 rfl ?_
                          refine lv_goto (tgt := 204) F.1 F.2.1 dX9_advance_200 (by decide) ?_
                          refine gPut (w2 := (h, .inr (6, [.ref r0, .ref r1, .ref r2, .ref r3, .ref r4, .int (nI n), .int (nI 2), .int (nI (tkS tx n te)), .int (nI i), .int f9, .int f10, .int f11, .int f12])) :: (r0, .inl (g.2.1 0, 600, .inl (nA tx))) :: R) F hS hG hW nX9_advance_X9 0 rfl rfl 6 (by decide) tyX9 tyX9_ok nmX9 mX9_advance_4 rfl rfl rfl rfl (Nat.le_of_ble_eq_true rfl) rfl dX9_advance_204 (fun H locs hW hS => ?_)
                          refine lv_goto (tgt := 239) F.1 F.2.1 dX9_advance_207 (by decide) ?_
                          refine gRv F hW hS dX9_advance_239 ?_
                          show _ = _
                          have eE : tkE tx n te = scan (fun j => isD (tx j)) n (tkS tx n te + 1) := (if_pos c_53).trans ((if_neg (by rw [c_73]; exact Bool.false_ne_true)).trans (if_pos c_144))
                          have eK : tkK tx n te = 2 := by rw [tkK, if_pos c_53, if_neg (by rw [c_73]; exact Bool.false_ne_true), if_pos c_144, eE, hs147]; exact if_pos c_196
                          rw [hs147] at eE
                          rw [eK, eE]
                      · refine lv_aload_n F.1 F.2.1 dX9_advance_172 rfl (lv_at hl 0 rfl) ?_
                        refine lv_dup F.1 F.2.1 dX9_advance_173 rfl ?_
                        refine gGet F hG hW nX9_advance_X9 0 rfl rfl 8 (by decide) mX9_advance_1 rfl dX9_advance_174 ?_
                        refine lv_iconst (v := nI 1) F.1 F.2.1 dX9_advance_177 rfl ?_
                        refine gAdd F dX9_advance_178 ?_
                        refine gPut (w2 := (h, .inr (6, [.ref r0, .ref r1, .ref r2, .ref r3, .ref r4, .int (nI n), .int f6, .int (nI (tkS tx n te)), .int (nI (i + 1)), .int f9, .int f10, .int f11, .int f12])) :: (r0, .inl (g.2.1 0, 600, .inl (nA tx))) :: R) F hS hG hW nX9_advance_X9 0 rfl rfl 8 (by decide) tyX9 tyX9_ok nmX9 mX9_advance_1 rfl rfl rfl rfl (Nat.le_of_ble_eq_true rfl) rfl dX9_advance_179 (fun H locs hW hS => ?_)
                        refine lv_goto (tgt := 147) F.1 F.2.1 dX9_advance_182 (by decide) ?_
                        exact ih_147 (i + 1) (by omega) (by omega) ((scan_s (p := fun j => isD (tx j)) c_155 c_169).symm.trans hs) (by omega) _ _ _ hW hS (lv_sub hl [0] rfl)
                exact L_147 _ ((tkS tx n te) + 1) (by omega) (Nat.le_refl _) rfl (Nat.lt_succ_self _) _ _ _ hW hS (lv_sub hl [1] rfl)
            · have L_76 : ∀ (fu : Nat), ∀ (i : Nat) (hi : i ≤ n) (hge : tkS tx n te + 1 ≤ i) (hs : scan (fun j => isL (tx j)) n i = scan (fun j => isL (tx j)) n (tkS tx n te + 1)) (hm_76 : n - i < fu) (H : Heap) (locs : List Loc) (ls : Array Slot) (hW : gW g ((h, .inr (6, [.ref r0, .ref r1, .ref r2, .ref r3, .ref r4, .int (nI n), .int f6, .int (nI (tkS tx n te)), .int (nI i), .int f9, .int f10, .int f11, .int f12])) :: (r0, .inl (g.2.1 0, 600, .inl (nA tx))) :: R) H) (hS : va_S (gA g) s.heap H locs) (hl : lv_has ls 3 [(0, .ref h)]), W p l e (headSpec wsX9_advance rm_X9_advance).room s m ([.ref h] : List Value).toArray below meth c H locs 0 0 (MQ below (va_Qv (fun u => (h, .inr (6, [.ref r0, .ref r1, .ref r2, .ref r3, .ref r4, .int (nI n), .int (nI (tkK tx n te)), .int (nI (tkS tx n te)), .int (nI (tkE tx n te)), .int f9, .int f10, .int f11, .int f12])) :: (r0, .inl (g.2.1 0, 600, .inl (nA tx))) :: R = u) (fun u t => gW g u t.heap) (gA g)) ([.ref h] : List Value).toArray s 0 0 (gA g)) (F0 m 76 ls []) := by
                intro fu
                induction fu with
                | zero =>
                  intros _ _ _ _ hm_76
                  exact absurd hm_76 (Nat.not_lt_zero _)
                | succ fu ih_76 =>
                  intro i hi hge hs hm_76 H locs ls hW hS hl
                  refine lv_aload_n F.1 F.2.1 dX9_advance_76 rfl (lv_at hl 0 rfl) ?_
                  refine gGet F hG hW nX9_advance_X9 0 rfl rfl 8 (by decide) mX9_advance_1 rfl dX9_advance_77 ?_
                  refine lv_aload_n F.1 F.2.1 dX9_advance_80 rfl (lv_at hl 0 rfl) ?_
                  refine gGet F hG hW nX9_advance_X9 0 rfl rfl 5 (by decide) mX9_advance_2 rfl dX9_advance_81 ?_
                  refine gGe (tgt := 114) F (by omega) (by omega) dX9_advance_84 (by decide) (fun c_84 => ?_) (fun c_84 => ?_)
                  · have hs76 : scan (fun j => isL (tx j)) n (tkS tx n te + 1) = i := by rw [← hs]; exact scan_n (by omega)
                    refine lv_aload_n F.1 F.2.1 dX9_advance_114 rfl (lv_at hl 0 rfl) ?_
                    refine lv_aload_n F.1 F.2.1 dX9_advance_115 rfl (lv_at hl 0 rfl) ?_
                    refine gGet F hG hW nX9_advance_X9 0 rfl rfl 8 (by decide) mX9_advance_1 rfl dX9_advance_116 ?_
                    refine lv_aload_n F.1 F.2.1 dX9_advance_119 rfl (lv_at hl 0 rfl) ?_
                    refine gGet F hG hW nX9_advance_X9 0 rfl rfl 7 (by decide) mX9_advance_3 rfl dX9_advance_120 ?_
                    refine gSub F (by omega) dX9_advance_123 ?_
                    refine lv_bipush (v := nI 8) F.1 F.2.1 dX9_advance_124 (by decide) ?_
                    refine gGt (tgt := 133) F (by omega) (by omega) dX9_advance_126 (by decide) (fun c_126 => ?_) (fun c_126 => ?_)
                    · refine lv_iconst (v := nI 0) F.1 F.2.1 dX9_advance_133 rfl ?_
                      refine gPut (w2 := (h, .inr (6, [.ref r0, .ref r1, .ref r2, .ref r3, .ref r4, .int (nI n), .int (nI 0), .int (nI (tkS tx n te)), .int (nI i), .int f9, .int f10, .int f11, .int f12])) :: (r0, .inl (g.2.1 0, 600, .inl (nA tx))) :: R) F hS hG hW nX9_advance_X9 0 rfl rfl 6 (by decide) tyX9 tyX9_ok nmX9 mX9_advance_4 rfl rfl rfl rfl (Nat.le_of_ble_eq_true rfl) rfl dX9_advance_134 (fun H locs hW hS => ?_)
                      refine lv_goto (tgt := 239) F.1 F.2.1 dX9_advance_137 (by decide) ?_
                      refine gRv F hW hS dX9_advance_239 ?_
                      show _ = _
                      have eE : tkE tx n te = scan (fun j => isL (tx j)) n (tkS tx n te + 1) := (if_pos c_53).trans (if_pos c_73)
                      have eK : tkK tx n te = 0 := by rw [tkK, if_pos c_53, if_pos c_73, eE, hs76]; exact if_neg (Nat.not_le.mpr c_126)
                      rw [hs76] at eE
                      rw [eK, eE]
                    · refine lv_iconst (v := nI 1) F.1 F.2.1 dX9_advance_129 rfl ?_
                      refine lv_goto (tgt := 134) F.1 F.2.1 dX9_advance_130 (by decide) ?_
                      refine gPut (w2 := (h, .inr (6, [.ref r0, .ref r1, .ref r2, .ref r3, .ref r4, .int (nI n), .int (nI 1), .int (nI (tkS tx n te)), .int (nI i), .int f9, .int f10, .int f11, .int f12])) :: (r0, .inl (g.2.1 0, 600, .inl (nA tx))) :: R) F hS hG hW nX9_advance_X9 0 rfl rfl 6 (by decide) tyX9 tyX9_ok nmX9 mX9_advance_4 rfl rfl rfl rfl (Nat.le_of_ble_eq_true rfl) rfl dX9_advance_134 (fun H locs hW hS => ?_)
                      refine lv_goto (tgt := 239) F.1 F.2.1 dX9_advance_137 (by decide) ?_
                      refine gRv F hW hS dX9_advance_239 ?_
                      show _ = _
                      have eE : tkE tx n te = scan (fun j => isL (tx j)) n (tkS tx n te + 1) := (if_pos c_53).trans (if_pos c_73)
                      have eK : tkK tx n te = 1 := by rw [tkK, if_pos c_53, if_pos c_73, eE, hs76]; exact if_pos c_126
                      rw [hs76] at eE
                      rw [eK, eE]
                  · refine lv_aload_n F.1 F.2.1 dX9_advance_87 rfl (lv_at hl 0 rfl) ?_
                    refine lv_aload_n F.1 F.2.1 dX9_advance_88 rfl (lv_at hl 0 rfl) ?_
                    refine gGet F hG hW nX9_advance_X9 0 rfl rfl 8 (by decide) mX9_advance_1 rfl dX9_advance_89 ?_
                    refine gVi (n := 1) (q := (RX9, TX9, 13)) (q0 := 0) (As := [.int (nI i)]) F hG hS hW (c_X9_byteAt g l  (by omega) (by omega)) rfl gX9_advance_X9_byteAt rfl rfl rfl (by decide +kernel) ⟨rfl, rfl, Nat.le_of_ble_eq_true rfl, Nat.le_of_ble_eq_true rfl⟩ hl.1 (Nat.le_of_ble_eq_true rfl) ⟨Nat.le_of_ble_eq_true rfl, Nat.le_of_ble_eq_true rfl⟩ rfl rfl dX9_advance_92 (fun r u H locs hq hW hS => ?_)
                    obtain ⟨rfl, rfl⟩ := hq
                    have hW : gW g ((h, .inr (6, [.ref r0, .ref r1, .ref r2, .ref r3, .ref r4, .int (nI n), .int f6, .int (nI (tkS tx n te)), .int (nI i), .int f9, .int f10, .int f11, .int f12])) :: (r0, .inl (g.2.1 0, 600, .inl (nA tx))) :: R) _ := hW
                    refine gS_i (n := 1) (As := [.int (nI (tx i))]) F hG hS hW (c_X9_isLetter g l  (Nat.lt_of_lt_of_le (hx i) (by decide))) rfl gX9_advance_X9_isLetter (by decide +kernel) ⟨rfl, rfl, Nat.le_of_ble_eq_true rfl, Nat.le_of_ble_eq_true rfl⟩ hl.1 (Nat.le_of_ble_eq_true rfl) ⟨Nat.le_of_ble_eq_true rfl, Nat.le_of_ble_eq_true rfl⟩ rfl rfl dX9_advance_95 (fun r u H locs hq hW hS => ?_)
                    obtain ⟨rfl, rfl⟩ := hq
                    have hW : gW g ((h, .inr (6, [.ref r0, .ref r1, .ref r2, .ref r3, .ref r4, .int (nI n), .int f6, .int (nI (tkS tx n te)), .int (nI i), .int f9, .int f10, .int f11, .int f12])) :: (r0, .inl (g.2.1 0, 600, .inl (nA tx))) :: R) _ := hW
                    refine gIfEqB (tgt := 114) F dX9_advance_98 (by decide) (fun c_98 => ?_) (fun c_98 => ?_)
                    · have hs76 : scan (fun j => isL (tx j)) n (tkS tx n te + 1) = i := by rw [← hs]; exact scan_p c_84 c_98
                      refine lv_aload_n F.1 F.2.1 dX9_advance_114 rfl (lv_at hl 0 rfl) ?_
                      refine lv_aload_n F.1 F.2.1 dX9_advance_115 rfl (lv_at hl 0 rfl) ?_
                      refine gGet F hG hW nX9_advance_X9 0 rfl rfl 8 (by decide) mX9_advance_1 rfl dX9_advance_116 ?_
                      refine lv_aload_n F.1 F.2.1 dX9_advance_119 rfl (lv_at hl 0 rfl) ?_
                      refine gGet F hG hW nX9_advance_X9 0 rfl rfl 7 (by decide) mX9_advance_3 rfl dX9_advance_120 ?_
                      refine gSub F (by omega) dX9_advance_123 ?_
                      refine lv_bipush (v := nI 8) F.1 F.2.1 dX9_advance_124 (by decide) ?_
                      refine gGt (tgt := 133) F (by omega) (by omega) dX9_advance_126 (by decide) (fun c_126 => ?_) (fun c_126 => ?_)
                      · refine lv_iconst (v := nI 0) F.1 F.2.1 dX9_advance_133 rfl ?_
                        refine gPut (w2 := (h, .inr (6, [.ref r0, .ref r1, .ref r2, .ref r3, .ref r4, .int (nI n), .int (nI 0), .int (nI (tkS tx n te)), .int (nI i), .int f9, .int f10, .int f11, .int f12])) :: (r0, .inl (g.2.1 0, 600, .inl (nA tx))) :: R) F hS hG hW nX9_advance_X9 0 rfl rfl 6 (by decide) tyX9 tyX9_ok nmX9 mX9_advance_4 rfl rfl rfl rfl (Nat.le_of_ble_eq_true rfl) rfl dX9_advance_134 (fun H locs hW hS => ?_)
                        refine lv_goto (tgt := 239) F.1 F.2.1 dX9_advance_137 (by decide) ?_
                        refine gRv F hW hS dX9_advance_239 ?_
                        show _ = _
                        have eE : tkE tx n te = scan (fun j => isL (tx j)) n (tkS tx n te + 1) := (if_pos c_53).trans (if_pos c_73)
                        have eK : tkK tx n te = 0 := by rw [tkK, if_pos c_53, if_pos c_73, eE, hs76]; exact if_neg (Nat.not_le.mpr c_126)
                        rw [hs76] at eE
                        rw [eK, eE]
                      · refine lv_iconst (v := nI 1) F.1 F.2.1 dX9_advance_129 rfl ?_
                        refine lv_goto (tgt := 134) F.1 F.2.1 dX9_advance_130 (by decide) ?_
                        refine gPut (w2 := (h, .inr (6, [.ref r0, .ref r1, .ref r2, .ref r3, .ref r4, .int (nI n), .int (nI 1), .int (nI (tkS tx n te)), .int (nI i), .int f9, .int f10, .int f11, .int f12])) :: (r0, .inl (g.2.1 0, 600, .inl (nA tx))) :: R) F hS hG hW nX9_advance_X9 0 rfl rfl 6 (by decide) tyX9 tyX9_ok nmX9 mX9_advance_4 rfl rfl rfl rfl (Nat.le_of_ble_eq_true rfl) rfl dX9_advance_134 (fun H locs hW hS => ?_)
                        refine lv_goto (tgt := 239) F.1 F.2.1 dX9_advance_137 (by decide) ?_
                        refine gRv F hW hS dX9_advance_239 ?_
                        show _ = _
                        have eE : tkE tx n te = scan (fun j => isL (tx j)) n (tkS tx n te + 1) := (if_pos c_53).trans (if_pos c_73)
                        have eK : tkK tx n te = 1 := by rw [tkK, if_pos c_53, if_pos c_73, eE, hs76]; exact if_pos c_126
                        rw [hs76] at eE
                        rw [eK, eE]
                    · refine lv_aload_n F.1 F.2.1 dX9_advance_101 rfl (lv_at hl 0 rfl) ?_
                      refine lv_dup F.1 F.2.1 dX9_advance_102 rfl ?_
                      refine gGet F hG hW nX9_advance_X9 0 rfl rfl 8 (by decide) mX9_advance_1 rfl dX9_advance_103 ?_
                      refine lv_iconst (v := nI 1) F.1 F.2.1 dX9_advance_106 rfl ?_
                      refine gAdd F dX9_advance_107 ?_
                      refine gPut (w2 := (h, .inr (6, [.ref r0, .ref r1, .ref r2, .ref r3, .ref r4, .int (nI n), .int f6, .int (nI (tkS tx n te)), .int (nI (i + 1)), .int f9, .int f10, .int f11, .int f12])) :: (r0, .inl (g.2.1 0, 600, .inl (nA tx))) :: R) F hS hG hW nX9_advance_X9 0 rfl rfl 8 (by decide) tyX9 tyX9_ok nmX9 mX9_advance_1 rfl rfl rfl rfl (Nat.le_of_ble_eq_true rfl) rfl dX9_advance_108 (fun H locs hW hS => ?_)
                      refine lv_goto (tgt := 76) F.1 F.2.1 dX9_advance_111 (by decide) ?_
                      exact ih_76 (i + 1) (by omega) (by omega) ((scan_s (p := fun j => isL (tx j)) c_84 c_98).symm.trans hs) (by omega) _ _ _ hW hS (lv_sub hl [0] rfl)
              exact L_76 _ ((tkS tx n te) + 1) (by omega) (Nat.le_refl _) rfl (Nat.lt_succ_self _) _ _ _ hW hS (lv_sub hl [1] rfl)
          · refine gVi (n := 1) (q := (RX9, TX9, 13)) (q0 := 0) (As := [.int (nI (tkS tx n te))]) F hG hS hW (c_X9_byteAt_o g l  q44 (by omega) (by omega)) rfl gX9_advance_X9_byteAt rfl rfl rfl (by decide +kernel) ⟨rfl, rfl, Nat.le_of_ble_eq_true rfl, Nat.le_of_ble_eq_true rfl⟩ hl.1 (Nat.le_of_ble_eq_true rfl) ⟨Nat.le_of_ble_eq_true rfl, Nat.le_of_ble_eq_true rfl⟩ rfl rfl dX9_advance_44 (fun r u H locs hq hW hS => ?_)
            obtain ⟨rfl, rfl⟩ := hq
            have hW : gW g ((h, .inr (6, [.ref r0, .ref r1, .ref r2, .ref r3, .ref r4, .int (nI n), .int f6, .int (nI (tkS tx n te)), .int (nI ((tkS tx n te) + 1)), .int f9, .int f10, .int f11, .int f12])) :: (r0, .inl (g.2.1 0, 600, .inl (nA tx))) :: R) _ := hW
            refine lv_istore_n (lv' := [(2, .int (-1)), (0, .ref h), (1, .int (nI (tkS tx n te)))]) F.1 F.2.1 dX9_advance_47 rfl hl (by decide) rfl (fun ls hl => ?_)
            refine lv_iload_n F.1 F.2.1 dX9_advance_48 rfl (lv_at hl 2 rfl) ?_
            refine lv_aload_n F.1 F.2.1 dX9_advance_49 rfl (lv_at hl 1 rfl) ?_
            refine gGet F hG hW nX9_advance_X9 0 rfl rfl 5 (by decide) mX9_advance_2 rfl dX9_advance_50 ?_
            refine gLt (tgt := 69) F (by omega) (by omega) dX9_advance_53 (by decide) (fun c_53 => by exfalso; omega) (fun c_53 => ?_)
            refine lv_aload_n F.1 F.2.1 dX9_advance_56 rfl (lv_at hl 1 rfl) ?_
            refine lv_iconst (v := nI 5) F.1 F.2.1 dX9_advance_57 rfl ?_
            refine gPut (w2 := (h, .inr (6, [.ref r0, .ref r1, .ref r2, .ref r3, .ref r4, .int (nI n), .int (nI 5), .int (nI (tkS tx n te)), .int (nI ((tkS tx n te) + 1)), .int f9, .int f10, .int f11, .int f12])) :: (r0, .inl (g.2.1 0, 600, .inl (nA tx))) :: R) F hS hG hW nX9_advance_X9 0 rfl rfl 6 (by decide) tyX9 tyX9_ok nmX9 mX9_advance_4 rfl rfl rfl rfl (Nat.le_of_ble_eq_true rfl) rfl dX9_advance_58 (fun H locs hW hS => ?_)
            refine lv_aload_n F.1 F.2.1 dX9_advance_61 rfl (lv_at hl 1 rfl) ?_
            refine lv_iload_n F.1 F.2.1 dX9_advance_62 rfl (lv_at hl 2 rfl) ?_
            refine gPut (w2 := (h, .inr (6, [.ref r0, .ref r1, .ref r2, .ref r3, .ref r4, .int (nI n), .int (nI 5), .int (nI (tkS tx n te)), .int (nI (tkS tx n te)), .int f9, .int f10, .int f11, .int f12])) :: (r0, .inl (g.2.1 0, 600, .inl (nA tx))) :: R) F hS hG hW nX9_advance_X9 0 rfl rfl 8 (by decide) tyX9 tyX9_ok nmX9 mX9_advance_1 rfl rfl rfl rfl (Nat.le_of_ble_eq_true rfl) rfl dX9_advance_63 (fun H locs hW hS => ?_)
            refine lv_goto (tgt := 239) F.1 F.2.1 dX9_advance_66 (by decide) ?_
            refine gRv F hW hS dX9_advance_239 ?_
            show _ = _
            have eE : tkE tx n te = tkS tx n te := if_neg (Nat.not_lt.mpr c_53)
            have eK : tkK tx n te = 5 := if_neg (Nat.not_lt.mpr c_53)
            rw [eK, eE]
        · refine lv_iinc (v := nI (i + 1)) (lv' := [(1, .int (nI (i + 1))), (0, .ref h)]) F.1 F.2.1 dX9_advance_24 hl (k := 1) rfl (nI_add i 1) (by decide) rfl (fun ls hl => ?_)
          refine lv_goto (tgt := 5) F.1 F.2.1 dX9_advance_27 (by decide) ?_
          exact ih_5 (i + 1) (by omega) ((scan_s (p := fun j => isBl (tx j)) c_10 c_21).symm.trans hs) (by omega) _ _ _ hW hS (lv_sub hl [1, 0] rfl)
  exact L_5 _ te (by omega) rfl (Nat.lt_succ_self _) _ _ _ hW hS (lv_sub hl [1, 0] rfl)

