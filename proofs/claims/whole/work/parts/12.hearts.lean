/-! ===== the hearts (written by wip/whole/gen/spec3.py) ===== -/
theorem oI_n {p : Nat} {o : Option Nat} (hp : p < 2 ^ 31) (ho : ∀ q, o = some q → q < 2 ^ 31) : nI p = oI o ↔ o = some p := by
  cases o with
  | none => exact ⟨fun h => absurd h (nI_n1 hp), fun h => by cases h⟩
  | some q => exact ⟨fun h => by rw [(nI_eq hp (ho q rfl)).mp h], fun h => by cases h; rfl⟩
theorem oI_m {o : Option Nat} (ho : ∀ q, o = some q → q < 2 ^ 31) : oI o = -1 ↔ o = none := by
  cases o with
  | none => exact ⟨fun _ => rfl, fun _ => rfl⟩
  | some q => exact ⟨fun h => absurd h (nI_n1 (ho q rfl)), fun h => by cases h⟩
theorem nI_p1 {q pl : Nat} (hq : q < 2 ^ 30) (hp : pl < 2 ^ 30) : nI q = nI pl - nI 1 ↔ q + 1 = pl := by
  constructor
  · intro h
    have h1 : nI q + nI 1 = nI pl := by rw [h]; exact Int32.sub_add_cancel _ _
    rw [nI_add] at h1
    exact (nI_eq (by omega) (by omega)).mp h1
  · intro h
    rw [← h, ← nI_add]
    exact (Int32.add_sub_cancel _ _).symm
/-- joined places -/
def canJ (n : Nat) (kd : Nat → Nat) (mk P : Nat → Bool) (ex : Option Nat) (j : Nat) : Bool := decide (j < n) && (!mk j && (decide (ex = some (kd (j - 1) * 15 + kd j)) || P (kd (j - 1) * 15 + kd j)))
def secS (c : Nat → Bool) : Nat → Bool
  | 0 => false
  | j + 1 => !secS c j && c (j + 1)
def cntB (s : Nat → Bool) : Nat → Nat
  | 0 => 0
  | m + 1 => cntB s m + (if s m then 1 else 0)
def sumB (s : Nat → Bool) (f : Nat → Nat) : Nat → Nat
  | 0 => 0
  | m + 1 => sumB s f m + (if s m then f m else 0)
theorem secS_1 {c : Nat → Bool} {j : Nat} (h : 1 ≤ j) : secS c j = (!secS c (j - 1) && c j) := by
  obtain ⟨i, rfl⟩ : ∃ i, j = i + 1 := ⟨j - 1, by omega⟩
  rfl
def cfnS (fp : Option Nat) (pl : Nat) : Bool := match fp with | none => false | some q => decide (q + 1 = pl)
def jPr (sec : Nat → Bool) (fp : Option Nat) (pl : Nat) : Nat := if cfnS fp pl = true then (if sec pl = true then 0 else 4) else 4
def jCo (co : Nat → Nat) (fp : Option Nat) (pl : Nat) : Nat → Nat := if cfnS fp pl = true then updN co pl (co pl + 1) else co
/-- the top kept -/
def kPr (kept : Bool) (k : Nat) : Nat := (4 - (if kept = true ∧ 0 < kT k then 1 else 0) + (if kept = true ∧ kT k = 0 ∧ 0 < kP k then 1 else 0)) - (if 0 < kP k then 1 else 0)
def kKp (kept : Bool) (k : Nat) : Bool := if 0 < kP k then true else if 0 < kT k then false else kept
/-- traces: rows, lengths, rounds, begun; writing, written, inside, next -/
abbrev tH : Type := (Nat → Nat) × (Nat → Nat) × (Nat → Nat) × (Nat → Bool) × Option Nat × Nat × Option Nat × Nat
def tW (y : tH) (pl : Nat) : tH := match y with
  | (ro, le, rn, be, none, wn, is, ni) => (ro, le, rn, be, none, wn, is, ni)
  | (ro, le, rn, be, some w, wn, is, ni) => if 0 < wn ∧ pl = w then (ro, updN le w wn, rn, be, none, wn, is, ni) else if 40 ≤ wn then (ro, le, rn, be, none, wn, is, ni) else (updN ro (w * 40 + wn) pl, le, rn, be, some w, wn + 1, is, ni)
def tGo (le : Nat → Nat) (x ni : Nat) : Nat := if ni + 1 < le x then ni + 1 else 0
def tIn (ro : Nat → Nat) (is : Option Nat) (ni pl : Nat) : Bool := match is with | none => false | some x => decide (ro (x * 40 + ni) = pl)
def tG (y : tH) (pl pw : Nat) : Nat × tH := match y with
  | (ro, le, rn, be, wr, wn, is, ni) => if tIn ro is ni pl = true then (pw, (ro, le, rn, be, wr, wn, is, tGo le (is.getD 0) ni)) else (if le pl = 0 then ((if is = none then 0 else 10) + 4, (ro, le, rn, be, wr, wn, none, ni)) else ((if is = none then 0 else 10) + pw, (ro, le, rn, be, wr, wn, some pl, tGo le pl 0)))
def tC (y : tH) (p : Nat) : tH := match y with
  | (ro, le, rn, be, wr, wn, is, ni) => if 8 ≤ rn p + 1 ∧ wr = none ∧ be p = false then (ro, le, updN rn p (rn p + 1), updB be p true, some p, 0, is, ni) else (ro, le, updN rn p (rn p + 1), be, wr, wn, is, ni)
def tP (y : tH) (pl k : Nat) (la : Option Nat) : tH := match la with
  | none => (tG (tW y pl) pl (if k = 12 then 1 else 0)).2
  | some t => if t ≤ pl then tC (tG (tW y pl) pl (if k = 12 then 1 else 0)).2 t else (tG (tW y pl) pl (if k = 12 then 1 else 0)).2
def tPr (y : tH) (pl k : Nat) : Nat := (tG (tW y pl) pl (if k = 12 then 1 else 0)).1
/-- what keeps the traces' rows in range -/
def tOk (y : tH) (N : Nat) : Prop := (∀ j, y.1 j < 100) ∧ (∀ j, y.2.1 j ≤ 40) ∧ (∀ j, y.2.2.1 j ≤ N) ∧ (∀ w, y.2.2.2.2.1 = some w → w < 100) ∧ y.2.2.2.2.2.1 ≤ 40 ∧ (∀ x, y.2.2.2.2.2.2.1 = some x → x < 100) ∧ y.2.2.2.2.2.2.2 < 40
theorem updN_le {f : Nat → Nat} {k x b : Nat} (hf : ∀ j, f j ≤ b) (hx : x ≤ b) : ∀ j, updN f k x j ≤ b := by
  intro j; simp only [updN]; split
  · exact hx
  · exact hf j
theorem updN_lt {f : Nat → Nat} {k x b : Nat} (hf : ∀ j, f j < b) (hx : x < b) : ∀ j, updN f k x j < b := by
  intro j; simp only [updN]; split
  · exact hx
  · exact hf j
theorem tW_ok {y : tH} {N pl : Nat} (h : tOk y N) (hp : pl < 100) : tOk (tW y pl) N := by
  obtain ⟨ro, le, rn, be, wr, wn, is, ni⟩ := y
  obtain ⟨h1, h2, h3, h4, h5, h6, h7⟩ := h
  cases wr with
  | none => exact ⟨h1, h2, h3, h4, h5, h6, h7⟩
  | some w =>
    show tOk (if 0 < wn ∧ pl = w then _ else if 40 ≤ wn then _ else _) N
    split
    · exact ⟨h1, updN_le h2 h5, h3, fun w h => (by cases h), h5, h6, h7⟩
    · split
      · exact ⟨h1, h2, h3, fun w h => (by cases h), h5, h6, h7⟩
      · next q => exact ⟨updN_lt h1 hp, h2, h3, h4, by show wn + 1 ≤ 40; omega, h6, h7⟩
theorem tGo_lt {le : Nat → Nat} {x ni : Nat} (h : ∀ j, le j ≤ 40) : tGo le x ni < 40 := by
  unfold tGo; split
  · have := h x; omega
  · omega
theorem tG_ok {y : tH} {N pl pw : Nat} (h : tOk y N) (hp : pl < 100) : tOk (tG y pl pw).2 N := by
  obtain ⟨ro, le, rn, be, wr, wn, is, ni⟩ := y
  obtain ⟨h1, h2, h3, h4, h5, h6, h7⟩ := h
  show tOk (if tIn ro is ni pl = true then _ else if le pl = 0 then _ else _ : Nat × tH).2 N
  split
  · exact ⟨h1, h2, h3, h4, h5, h6, tGo_lt h2⟩
  · split
    · exact ⟨h1, h2, h3, h4, h5, fun x h => (by cases h), h7⟩
    · exact ⟨h1, h2, h3, h4, h5, fun x h => by cases h; exact hp, tGo_lt h2⟩
theorem tC_ok {y : tH} {N p : Nat} (h : tOk y N) (hp : p < 100) : tOk (tC y p) (N + 1) := by
  obtain ⟨ro, le, rn, be, wr, wn, is, ni⟩ := y
  obtain ⟨h1, h2, h3, h4, h5, h6, h7⟩ := h
  have h3' : ∀ j, updN rn p (rn p + 1) j ≤ N + 1 := updN_le (fun j => Nat.le_succ_of_le (h3 j)) (Nat.succ_le_succ (h3 p))
  show tOk (if 8 ≤ rn p + 1 ∧ wr = none ∧ be p = false then _ else _) (N + 1)
  split
  · exact ⟨h1, h2, h3', fun w h => by cases h; exact hp, Nat.zero_le _, h6, h7⟩
  · exact ⟨h1, h2, h3', h4, h5, h6, h7⟩
theorem tOk.mono {y : tH} {N M : Nat} (h : tOk y N) (hm : N ≤ M) : tOk y M := ⟨h.1, h.2.1, fun j => Nat.le_trans (h.2.2.1 j) hm, h.2.2.2⟩
theorem tP_ok {y : tH} {N pl k : Nat} {la : Option Nat} (h : tOk y N) (hp : pl < 100) : tOk (tP y pl k la) (N + 1) := by
  have h1 := tG_ok (pw := if k = 12 then 1 else 0) (tW_ok h hp) hp
  cases la with
  | none => exact h1.mono (Nat.le_succ N)
  | some t =>
    show tOk (if t ≤ pl then _ else _) (N + 1)
    split
    · next q => exact tC_ok h1 (by omega)
    · exact h1.mono (Nat.le_succ N)

abbrev rm_X7_begin : Room := ({ frames := 0, cells := 0, slots := 0, locals := 0 } : Room)
set_option maxRecDepth 100000 in
set_option maxHeartbeats 4000000 in
theorem c_X7_begin (g : gC) (l : Launch) {hb : Nat} {hp : Nat} {pr : Int32} {R : va_W} : cV g l yX7_begin wsX7_begin rm_X7_begin 0 0 [.ref hb, .ref hp] ((hb, .inr (4, [.int pr])) :: R) (fun u => (hb, .inr (4, [.int pr])) :: R = u) := by
  refine gEnterQ (cc := cX7_begin) (maxL := 2) (ret := none) (by decide +kernel) rfl (Nat.le_of_ble_eq_true rfl) ?_
  intro p e s m below meth c F hG hW ls hl
  have hS : va_S (gA g) s.heap s.heap [] := va_S.rf
  have hl : lv_has ls 2 [(0, .ref hb), (1, .ref hp)] := hl
  have hW : gW g ((hb, .inr (4, [.int pr])) :: R) s.heap := hW
  refine gRv F hW hS dX7_begin_0 ?_
  rfl

abbrev rm_X7_price : Room := ({ frames := 0, cells := 0, slots := 0, locals := 0 } : Room)
theorem mX7_price_1 : Cond.fieldLink RX7 7 "StepperHearts$PlainHeart" "priceOfStep" "I" ∈ wsX7_price := List.mem_of_getElem? (i := 1) rfl
theorem nX7_price_X7 : ∀ w ∈ wsX70, w ∈ wsX7_price := fun _ h => List.mem_cons_of_mem _ (List.mem_append_right _ (h))
set_option maxRecDepth 100000 in
set_option maxHeartbeats 4000000 in
theorem c_X7_price (g : gC) (l : Launch) {hb : Nat} {pl : Nat} {k : Nat} {pr : Int32} {la : Int32} {R : va_W} : cI g l yX7_price wsX7_price rm_X7_price 0 0 [.ref hb, .int (nI pl), .ref (g.2.2.2 k), .int la] ((hb, .inr (4, [.int pr])) :: R) (fun r u => pr = r ∧ (hb, .inr (4, [.int pr])) :: R = u) := by
  refine gEnterQ (cc := cX7_price) (maxL := 4) (ret := (some (.int))) (by decide +kernel) rfl (Nat.le_of_ble_eq_true rfl) ?_
  intro p e s m below meth c F hG hW ls hl
  have hS : va_S (gA g) s.heap s.heap [] := va_S.rf
  have hl : lv_has ls 4 [(0, .ref hb), (1, .int (nI pl)), (2, .ref (g.2.2.2 k)), (3, .int la)] := hl
  have hW : gW g ((hb, .inr (4, [.int pr])) :: R) s.heap := hW
  refine lv_aload_n F.1 F.2.1 dX7_price_0 rfl (lv_at hl 0 rfl) ?_
  refine gGet F hG hW nX7_price_X7 0 rfl rfl 0 (by decide) mX7_price_1 rfl dX7_price_1 ?_
  refine gRi F hW hS dX7_price_4 ?_
  exact ⟨rfl, rfl⟩

abbrev rm_X4_begin : Room := ({ frames := 0, cells := 0, slots := 0, locals := 0 } : Room)
theorem mX4_begin_1 : Cond.fieldLink RX4 9 "StepperHearts$KeptHeart" "isKept" "Z" ∈ wsX4_begin := List.mem_of_getElem? (i := 1) rfl
theorem nX4_begin_X4 : ∀ w ∈ wsX40, w ∈ wsX4_begin := fun _ h => List.mem_cons_of_mem _ (List.mem_append_right _ (h))
set_option maxRecDepth 100000 in
set_option maxHeartbeats 4000000 in
theorem c_X4_begin (g : gC) (l : Launch) {hk : Nat} {hp : Nat} {kp : Int32} {R : va_W} : cV g l yX4_begin wsX4_begin rm_X4_begin 0 0 [.ref hk, .ref hp] ((hk, .inr (2, [.int kp])) :: R) (fun u => (hk, .inr (2, [.int (bI false)])) :: R = u) := by
  refine gEnterQ (cc := cX4_begin) (maxL := 2) (ret := none) (by decide +kernel) rfl (Nat.le_of_ble_eq_true rfl) ?_
  intro p e s m below meth c F hG hW ls hl
  have hS : va_S (gA g) s.heap s.heap [] := va_S.rf
  have hl : lv_has ls 2 [(0, .ref hk), (1, .ref hp)] := hl
  have hW : gW g ((hk, .inr (2, [.int kp])) :: R) s.heap := hW
  refine lv_aload_n F.1 F.2.1 dX4_begin_0 rfl (lv_at hl 0 rfl) ?_
  refine lv_iconst (v := nI 0) F.1 F.2.1 dX4_begin_1 rfl ?_
  refine gPut (w2 := (hk, .inr (2, [.int (nI 0)])) :: R) F hS hG hW nX4_begin_X4 0 rfl rfl 0 (by decide) tyX4 tyX4_ok nmX4 mX4_begin_1 rfl rfl rfl rfl (Nat.le_of_ble_eq_true rfl) rfl dX4_begin_2 (fun H locs hW hS => ?_)
  refine gRv F hW hS dX4_begin_5 ?_
  exact rfl

abbrev rm_X4_price : Room := ({ frames := 0, cells := 0, slots := 0, locals := 0 } : Room)
theorem mX4_price_1 : Cond.fieldLink RX4 9 "StepperHearts$KeptHeart" "isKept" "Z" ∈ wsX4_price := List.mem_of_getElem? (i := 1) rfl
theorem nX4_price_X4 : ∀ w ∈ wsX40, w ∈ wsX4_price := fun _ h => List.mem_cons_of_mem _ (List.mem_append_right _ (h))
theorem mX4_price_3 : Cond.fieldLink RX4 21 "StepperHearts$Kind" "puts" "I" ∈ wsX4_price := List.mem_of_getElem? (i := 3) rfl
theorem mX4_price_2 : Cond.fieldLink RX4 15 "StepperHearts$Kind" "takes" "I" ∈ wsX4_price := List.mem_of_getElem? (i := 2) rfl
set_option maxRecDepth 100000 in
set_option maxHeartbeats 4000000 in
theorem c_X4_price (g : gC) (l : Launch) {hk : Nat} {k : Nat} {pl : Nat} {kept : Bool} {la : Int32} {R : va_W} (hki : k < 15) : cI g l yX4_price wsX4_price rm_X4_price 0 0 [.ref hk, .int (nI pl), .ref (g.2.2.2 k), .int la] ((hk, .inr (2, [.int (bI kept)])) :: R) (fun r u => (nI (kPr kept k)) = r ∧ (hk, .inr (2, [.int (bI (kKp kept k))])) :: R = u) := by
  refine gEnterQ (cc := cX4_price) (maxL := 5) (ret := (some (.int))) (by decide +kernel) rfl (Nat.le_of_ble_eq_true rfl) ?_
  intro p e s m below meth c F hG hW ls hl
  have hS : va_S (gA g) s.heap s.heap [] := va_S.rf
  have hl : lv_has ls 5 [(0, .ref hk), (1, .int (nI pl)), (2, .ref (g.2.2.2 k)), (3, .int la)] := hl
  have hW : gW g ((hk, .inr (2, [.int (bI kept)])) :: R) s.heap := hW
  cases kept <;> rcases (show k = 0 ∨ k = 1 ∨ k = 2 ∨ k = 3 ∨ k = 4 ∨ k = 5 ∨ k = 6 ∨ k = 7 ∨ k = 8 ∨ k = 9 ∨ k = 10 ∨ k = 11 ∨ k = 12 ∨ k = 13 ∨ k = 14 by omega) with rfl | rfl | rfl | rfl | rfl | rfl | rfl | rfl | rfl | rfl | rfl | rfl | rfl | rfl | rfl
  · have hl : lv_has ls 5 [(0, .ref hk), (1, .int (nI pl)), (2, .ref (g.2.2.2 0)), (3, .int la)] := hl
    have hW : gW g ((hk, .inr (2, [.int (bI false)])) :: R) s.heap := hW
    refine lv_iconst (v := nI 4) F.1 F.2.1 dX4_price_0 rfl ?_
    refine lv_istore (lv' := [(4, .int (nI 4)), (0, .ref hk), (1, .int (nI pl)), (2, .ref (g.2.2.2 0)), (3, .int la)]) F.1 F.2.1 dX4_price_1 hl (by decide) rfl (fun ls hl => ?_)
    refine lv_aload_n F.1 F.2.1 dX4_price_3 rfl (lv_at hl 1 rfl) ?_
    refine gGet F hG hW nX4_price_X4 0 rfl rfl 0 (by decide) mX4_price_1 rfl dX4_price_4 ?_
    refine gIfEqB (tgt := 20) F dX4_price_7 (by decide) (fun c_7 => ?_) (fun q => by simp at q)
    refine lv_aload_n F.1 F.2.1 dX4_price_20 rfl (lv_at hl 1 rfl) ?_
    refine gGet F hG hW nX4_price_X4 0 rfl rfl 0 (by decide) mX4_price_1 rfl dX4_price_21 ?_
    refine gIfEqB (tgt := 44) F dX4_price_24 (by decide) (fun c_24 => ?_) (fun q => by simp at q)
    refine lv_aload_n F.1 F.2.1 dX4_price_44 rfl (lv_at hl 3 rfl) ?_
    refine gKputs F hG hS (by omega) mX4_price_3 dX4_price_45 ?_
    refine gTop (y := nI 1) rfl ?_
    refine gIfLe (tgt := 54) F (by decide) dX4_price_48 (by decide) (fun c_48 => by exfalso; omega) (fun c_48 => ?_)
    refine lv_iinc (v := nI 3) (lv' := [(4, .int (nI 3)), (0, .ref hk), (1, .int (nI pl)), (2, .ref (g.2.2.2 0)), (3, .int la)]) F.1 F.2.1 dX4_price_51 hl (k := 0) rfl (by decide) (by decide) rfl (fun ls hl => ?_)
    refine lv_aload_n F.1 F.2.1 dX4_price_54 rfl (lv_at hl 3 rfl) ?_
    refine gKputs F hG hS (by omega) mX4_price_3 dX4_price_55 ?_
    refine gTop (y := nI 1) rfl ?_
    refine gIfLe (tgt := 69) F (by decide) dX4_price_58 (by decide) (fun c_58 => by exfalso; omega) (fun c_58 => ?_)
    refine lv_aload_n F.1 F.2.1 dX4_price_61 rfl (lv_at hl 1 rfl) ?_
    refine lv_iconst (v := nI 1) F.1 F.2.1 dX4_price_62 rfl ?_
    refine gPut (w2 := (hk, .inr (2, [.int (nI 1)])) :: R) F hS hG hW nX4_price_X4 0 rfl rfl 0 (by decide) tyX4 tyX4_ok nmX4 mX4_price_1 rfl rfl rfl rfl (Nat.le_of_ble_eq_true rfl) rfl dX4_price_63 (fun H locs hW hS => ?_)
    refine lv_goto (tgt := 81) F.1 F.2.1 dX4_price_66 (by decide) ?_
    refine lv_iload F.1 F.2.1 dX4_price_81 (lv_at hl 0 rfl) ?_
    refine gRi F hW hS dX4_price_83 ?_
    exact ⟨rfl, rfl⟩
  · have hl : lv_has ls 5 [(0, .ref hk), (1, .int (nI pl)), (2, .ref (g.2.2.2 1)), (3, .int la)] := hl
    have hW : gW g ((hk, .inr (2, [.int (bI false)])) :: R) s.heap := hW
    refine lv_iconst (v := nI 4) F.1 F.2.1 dX4_price_0 rfl ?_
    refine lv_istore (lv' := [(4, .int (nI 4)), (0, .ref hk), (1, .int (nI pl)), (2, .ref (g.2.2.2 1)), (3, .int la)]) F.1 F.2.1 dX4_price_1 hl (by decide) rfl (fun ls hl => ?_)
    refine lv_aload_n F.1 F.2.1 dX4_price_3 rfl (lv_at hl 1 rfl) ?_
    refine gGet F hG hW nX4_price_X4 0 rfl rfl 0 (by decide) mX4_price_1 rfl dX4_price_4 ?_
    refine gIfEqB (tgt := 20) F dX4_price_7 (by decide) (fun c_7 => ?_) (fun q => by simp at q)
    refine lv_aload_n F.1 F.2.1 dX4_price_20 rfl (lv_at hl 1 rfl) ?_
    refine gGet F hG hW nX4_price_X4 0 rfl rfl 0 (by decide) mX4_price_1 rfl dX4_price_21 ?_
    refine gIfEqB (tgt := 44) F dX4_price_24 (by decide) (fun c_24 => ?_) (fun q => by simp at q)
    refine lv_aload_n F.1 F.2.1 dX4_price_44 rfl (lv_at hl 3 rfl) ?_
    refine gKputs F hG hS (by omega) mX4_price_3 dX4_price_45 ?_
    refine gTop (y := nI 0) rfl ?_
    refine gIfLe (tgt := 54) F (by decide) dX4_price_48 (by decide) (fun c_48 => ?_) (fun c_48 => by exfalso; omega)
    refine lv_aload_n F.1 F.2.1 dX4_price_54 rfl (lv_at hl 3 rfl) ?_
    refine gKputs F hG hS (by omega) mX4_price_3 dX4_price_55 ?_
    refine gTop (y := nI 0) rfl ?_
    refine gIfLe (tgt := 69) F (by decide) dX4_price_58 (by decide) (fun c_58 => ?_) (fun c_58 => by exfalso; omega)
    refine lv_aload_n F.1 F.2.1 dX4_price_69 rfl (lv_at hl 3 rfl) ?_
    refine gKtakes F hG hS (by omega) mX4_price_2 dX4_price_70 ?_
    refine gTop (y := nI 1) rfl ?_
    refine gIfLe (tgt := 81) F (by decide) dX4_price_73 (by decide) (fun c_73 => by exfalso; omega) (fun c_73 => ?_)
    refine lv_aload_n F.1 F.2.1 dX4_price_76 rfl (lv_at hl 1 rfl) ?_
    refine lv_iconst (v := nI 0) F.1 F.2.1 dX4_price_77 rfl ?_
    refine gPut (w2 := (hk, .inr (2, [.int (nI 0)])) :: R) F hS hG hW nX4_price_X4 0 rfl rfl 0 (by decide) tyX4 tyX4_ok nmX4 mX4_price_1 rfl rfl rfl rfl (Nat.le_of_ble_eq_true rfl) rfl dX4_price_78 (fun H locs hW hS => ?_)
    refine lv_iload F.1 F.2.1 dX4_price_81 (lv_at hl 0 rfl) ?_
    refine gRi F hW hS dX4_price_83 ?_
    exact ⟨rfl, rfl⟩
  · have hl : lv_has ls 5 [(0, .ref hk), (1, .int (nI pl)), (2, .ref (g.2.2.2 2)), (3, .int la)] := hl
    have hW : gW g ((hk, .inr (2, [.int (bI false)])) :: R) s.heap := hW
    refine lv_iconst (v := nI 4) F.1 F.2.1 dX4_price_0 rfl ?_
    refine lv_istore (lv' := [(4, .int (nI 4)), (0, .ref hk), (1, .int (nI pl)), (2, .ref (g.2.2.2 2)), (3, .int la)]) F.1 F.2.1 dX4_price_1 hl (by decide) rfl (fun ls hl => ?_)
    refine lv_aload_n F.1 F.2.1 dX4_price_3 rfl (lv_at hl 1 rfl) ?_
    refine gGet F hG hW nX4_price_X4 0 rfl rfl 0 (by decide) mX4_price_1 rfl dX4_price_4 ?_
    refine gIfEqB (tgt := 20) F dX4_price_7 (by decide) (fun c_7 => ?_) (fun q => by simp at q)
    refine lv_aload_n F.1 F.2.1 dX4_price_20 rfl (lv_at hl 1 rfl) ?_
    refine gGet F hG hW nX4_price_X4 0 rfl rfl 0 (by decide) mX4_price_1 rfl dX4_price_21 ?_
    refine gIfEqB (tgt := 44) F dX4_price_24 (by decide) (fun c_24 => ?_) (fun q => by simp at q)
    refine lv_aload_n F.1 F.2.1 dX4_price_44 rfl (lv_at hl 3 rfl) ?_
    refine gKputs F hG hS (by omega) mX4_price_3 dX4_price_45 ?_
    refine gTop (y := nI 2) rfl ?_
    refine gIfLe (tgt := 54) F (by decide) dX4_price_48 (by decide) (fun c_48 => by exfalso; omega) (fun c_48 => ?_)
    refine lv_iinc (v := nI 3) (lv' := [(4, .int (nI 3)), (0, .ref hk), (1, .int (nI pl)), (2, .ref (g.2.2.2 2)), (3, .int la)]) F.1 F.2.1 dX4_price_51 hl (k := 0) rfl (by decide) (by decide) rfl (fun ls hl => ?_)
    refine lv_aload_n F.1 F.2.1 dX4_price_54 rfl (lv_at hl 3 rfl) ?_
    refine gKputs F hG hS (by omega) mX4_price_3 dX4_price_55 ?_
    refine gTop (y := nI 2) rfl ?_
    refine gIfLe (tgt := 69) F (by decide) dX4_price_58 (by decide) (fun c_58 => by exfalso; omega) (fun c_58 => ?_)
    refine lv_aload_n F.1 F.2.1 dX4_price_61 rfl (lv_at hl 1 rfl) ?_
    refine lv_iconst (v := nI 1) F.1 F.2.1 dX4_price_62 rfl ?_
    refine gPut (w2 := (hk, .inr (2, [.int (nI 1)])) :: R) F hS hG hW nX4_price_X4 0 rfl rfl 0 (by decide) tyX4 tyX4_ok nmX4 mX4_price_1 rfl rfl rfl rfl (Nat.le_of_ble_eq_true rfl) rfl dX4_price_63 (fun H locs hW hS => ?_)
    refine lv_goto (tgt := 81) F.1 F.2.1 dX4_price_66 (by decide) ?_
    refine lv_iload F.1 F.2.1 dX4_price_81 (lv_at hl 0 rfl) ?_
    refine gRi F hW hS dX4_price_83 ?_
    exact ⟨rfl, rfl⟩
  · have hl : lv_has ls 5 [(0, .ref hk), (1, .int (nI pl)), (2, .ref (g.2.2.2 3)), (3, .int la)] := hl
    have hW : gW g ((hk, .inr (2, [.int (bI false)])) :: R) s.heap := hW
    refine lv_iconst (v := nI 4) F.1 F.2.1 dX4_price_0 rfl ?_
    refine lv_istore (lv' := [(4, .int (nI 4)), (0, .ref hk), (1, .int (nI pl)), (2, .ref (g.2.2.2 3)), (3, .int la)]) F.1 F.2.1 dX4_price_1 hl (by decide) rfl (fun ls hl => ?_)
    refine lv_aload_n F.1 F.2.1 dX4_price_3 rfl (lv_at hl 1 rfl) ?_
    refine gGet F hG hW nX4_price_X4 0 rfl rfl 0 (by decide) mX4_price_1 rfl dX4_price_4 ?_
    refine gIfEqB (tgt := 20) F dX4_price_7 (by decide) (fun c_7 => ?_) (fun q => by simp at q)
    refine lv_aload_n F.1 F.2.1 dX4_price_20 rfl (lv_at hl 1 rfl) ?_
    refine gGet F hG hW nX4_price_X4 0 rfl rfl 0 (by decide) mX4_price_1 rfl dX4_price_21 ?_
    refine gIfEqB (tgt := 44) F dX4_price_24 (by decide) (fun c_24 => ?_) (fun q => by simp at q)
    refine lv_aload_n F.1 F.2.1 dX4_price_44 rfl (lv_at hl 3 rfl) ?_
    refine gKputs F hG hS (by omega) mX4_price_3 dX4_price_45 ?_
    refine gTop (y := nI 2) rfl ?_
    refine gIfLe (tgt := 54) F (by decide) dX4_price_48 (by decide) (fun c_48 => by exfalso; omega) (fun c_48 => ?_)
    refine lv_iinc (v := nI 3) (lv' := [(4, .int (nI 3)), (0, .ref hk), (1, .int (nI pl)), (2, .ref (g.2.2.2 3)), (3, .int la)]) F.1 F.2.1 dX4_price_51 hl (k := 0) rfl (by decide) (by decide) rfl (fun ls hl => ?_)
    refine lv_aload_n F.1 F.2.1 dX4_price_54 rfl (lv_at hl 3 rfl) ?_
    refine gKputs F hG hS (by omega) mX4_price_3 dX4_price_55 ?_
    refine gTop (y := nI 2) rfl ?_
    refine gIfLe (tgt := 69) F (by decide) dX4_price_58 (by decide) (fun c_58 => by exfalso; omega) (fun c_58 => ?_)
    refine lv_aload_n F.1 F.2.1 dX4_price_61 rfl (lv_at hl 1 rfl) ?_
    refine lv_iconst (v := nI 1) F.1 F.2.1 dX4_price_62 rfl ?_
    refine gPut (w2 := (hk, .inr (2, [.int (nI 1)])) :: R) F hS hG hW nX4_price_X4 0 rfl rfl 0 (by decide) tyX4 tyX4_ok nmX4 mX4_price_1 rfl rfl rfl rfl (Nat.le_of_ble_eq_true rfl) rfl dX4_price_63 (fun H locs hW hS => ?_)
    refine lv_goto (tgt := 81) F.1 F.2.1 dX4_price_66 (by decide) ?_
    refine lv_iload F.1 F.2.1 dX4_price_81 (lv_at hl 0 rfl) ?_
    refine gRi F hW hS dX4_price_83 ?_
    exact ⟨rfl, rfl⟩
  · have hl : lv_has ls 5 [(0, .ref hk), (1, .int (nI pl)), (2, .ref (g.2.2.2 4)), (3, .int la)] := hl
    have hW : gW g ((hk, .inr (2, [.int (bI false)])) :: R) s.heap := hW
    refine lv_iconst (v := nI 4) F.1 F.2.1 dX4_price_0 rfl ?_
    refine lv_istore (lv' := [(4, .int (nI 4)), (0, .ref hk), (1, .int (nI pl)), (2, .ref (g.2.2.2 4)), (3, .int la)]) F.1 F.2.1 dX4_price_1 hl (by decide) rfl (fun ls hl => ?_)
    refine lv_aload_n F.1 F.2.1 dX4_price_3 rfl (lv_at hl 1 rfl) ?_
    refine gGet F hG hW nX4_price_X4 0 rfl rfl 0 (by decide) mX4_price_1 rfl dX4_price_4 ?_
    refine gIfEqB (tgt := 20) F dX4_price_7 (by decide) (fun c_7 => ?_) (fun q => by simp at q)
    refine lv_aload_n F.1 F.2.1 dX4_price_20 rfl (lv_at hl 1 rfl) ?_
    refine gGet F hG hW nX4_price_X4 0 rfl rfl 0 (by decide) mX4_price_1 rfl dX4_price_21 ?_
    refine gIfEqB (tgt := 44) F dX4_price_24 (by decide) (fun c_24 => ?_) (fun q => by simp at q)
    refine lv_aload_n F.1 F.2.1 dX4_price_44 rfl (lv_at hl 3 rfl) ?_
    refine gKputs F hG hS (by omega) mX4_price_3 dX4_price_45 ?_
    refine gTop (y := nI 3) rfl ?_
    refine gIfLe (tgt := 54) F (by decide) dX4_price_48 (by decide) (fun c_48 => by exfalso; omega) (fun c_48 => ?_)
    refine lv_iinc (v := nI 3) (lv' := [(4, .int (nI 3)), (0, .ref hk), (1, .int (nI pl)), (2, .ref (g.2.2.2 4)), (3, .int la)]) F.1 F.2.1 dX4_price_51 hl (k := 0) rfl (by decide) (by decide) rfl (fun ls hl => ?_)
    refine lv_aload_n F.1 F.2.1 dX4_price_54 rfl (lv_at hl 3 rfl) ?_
    refine gKputs F hG hS (by omega) mX4_price_3 dX4_price_55 ?_
    refine gTop (y := nI 3) rfl ?_
    refine gIfLe (tgt := 69) F (by decide) dX4_price_58 (by decide) (fun c_58 => by exfalso; omega) (fun c_58 => ?_)
    refine lv_aload_n F.1 F.2.1 dX4_price_61 rfl (lv_at hl 1 rfl) ?_
    refine lv_iconst (v := nI 1) F.1 F.2.1 dX4_price_62 rfl ?_
    refine gPut (w2 := (hk, .inr (2, [.int (nI 1)])) :: R) F hS hG hW nX4_price_X4 0 rfl rfl 0 (by decide) tyX4 tyX4_ok nmX4 mX4_price_1 rfl rfl rfl rfl (Nat.le_of_ble_eq_true rfl) rfl dX4_price_63 (fun H locs hW hS => ?_)
    refine lv_goto (tgt := 81) F.1 F.2.1 dX4_price_66 (by decide) ?_
    refine lv_iload F.1 F.2.1 dX4_price_81 (lv_at hl 0 rfl) ?_
    refine gRi F hW hS dX4_price_83 ?_
    exact ⟨rfl, rfl⟩
  · have hl : lv_has ls 5 [(0, .ref hk), (1, .int (nI pl)), (2, .ref (g.2.2.2 5)), (3, .int la)] := hl
    have hW : gW g ((hk, .inr (2, [.int (bI false)])) :: R) s.heap := hW
    refine lv_iconst (v := nI 4) F.1 F.2.1 dX4_price_0 rfl ?_
    refine lv_istore (lv' := [(4, .int (nI 4)), (0, .ref hk), (1, .int (nI pl)), (2, .ref (g.2.2.2 5)), (3, .int la)]) F.1 F.2.1 dX4_price_1 hl (by decide) rfl (fun ls hl => ?_)
    refine lv_aload_n F.1 F.2.1 dX4_price_3 rfl (lv_at hl 1 rfl) ?_
    refine gGet F hG hW nX4_price_X4 0 rfl rfl 0 (by decide) mX4_price_1 rfl dX4_price_4 ?_
    refine gIfEqB (tgt := 20) F dX4_price_7 (by decide) (fun c_7 => ?_) (fun q => by simp at q)
    refine lv_aload_n F.1 F.2.1 dX4_price_20 rfl (lv_at hl 1 rfl) ?_
    refine gGet F hG hW nX4_price_X4 0 rfl rfl 0 (by decide) mX4_price_1 rfl dX4_price_21 ?_
    refine gIfEqB (tgt := 44) F dX4_price_24 (by decide) (fun c_24 => ?_) (fun q => by simp at q)
    refine lv_aload_n F.1 F.2.1 dX4_price_44 rfl (lv_at hl 3 rfl) ?_
    refine gKputs F hG hS (by omega) mX4_price_3 dX4_price_45 ?_
    refine gTop (y := nI 1) rfl ?_
    refine gIfLe (tgt := 54) F (by decide) dX4_price_48 (by decide) (fun c_48 => by exfalso; omega) (fun c_48 => ?_)
    refine lv_iinc (v := nI 3) (lv' := [(4, .int (nI 3)), (0, .ref hk), (1, .int (nI pl)), (2, .ref (g.2.2.2 5)), (3, .int la)]) F.1 F.2.1 dX4_price_51 hl (k := 0) rfl (by decide) (by decide) rfl (fun ls hl => ?_)
    refine lv_aload_n F.1 F.2.1 dX4_price_54 rfl (lv_at hl 3 rfl) ?_
    refine gKputs F hG hS (by omega) mX4_price_3 dX4_price_55 ?_
    refine gTop (y := nI 1) rfl ?_
    refine gIfLe (tgt := 69) F (by decide) dX4_price_58 (by decide) (fun c_58 => by exfalso; omega) (fun c_58 => ?_)
    refine lv_aload_n F.1 F.2.1 dX4_price_61 rfl (lv_at hl 1 rfl) ?_
    refine lv_iconst (v := nI 1) F.1 F.2.1 dX4_price_62 rfl ?_
    refine gPut (w2 := (hk, .inr (2, [.int (nI 1)])) :: R) F hS hG hW nX4_price_X4 0 rfl rfl 0 (by decide) tyX4 tyX4_ok nmX4 mX4_price_1 rfl rfl rfl rfl (Nat.le_of_ble_eq_true rfl) rfl dX4_price_63 (fun H locs hW hS => ?_)
    refine lv_goto (tgt := 81) F.1 F.2.1 dX4_price_66 (by decide) ?_
    refine lv_iload F.1 F.2.1 dX4_price_81 (lv_at hl 0 rfl) ?_
    refine gRi F hW hS dX4_price_83 ?_
    exact ⟨rfl, rfl⟩
  · have hl : lv_has ls 5 [(0, .ref hk), (1, .int (nI pl)), (2, .ref (g.2.2.2 6)), (3, .int la)] := hl
    have hW : gW g ((hk, .inr (2, [.int (bI false)])) :: R) s.heap := hW
    refine lv_iconst (v := nI 4) F.1 F.2.1 dX4_price_0 rfl ?_
    refine lv_istore (lv' := [(4, .int (nI 4)), (0, .ref hk), (1, .int (nI pl)), (2, .ref (g.2.2.2 6)), (3, .int la)]) F.1 F.2.1 dX4_price_1 hl (by decide) rfl (fun ls hl => ?_)
    refine lv_aload_n F.1 F.2.1 dX4_price_3 rfl (lv_at hl 1 rfl) ?_
    refine gGet F hG hW nX4_price_X4 0 rfl rfl 0 (by decide) mX4_price_1 rfl dX4_price_4 ?_
    refine gIfEqB (tgt := 20) F dX4_price_7 (by decide) (fun c_7 => ?_) (fun q => by simp at q)
    refine lv_aload_n F.1 F.2.1 dX4_price_20 rfl (lv_at hl 1 rfl) ?_
    refine gGet F hG hW nX4_price_X4 0 rfl rfl 0 (by decide) mX4_price_1 rfl dX4_price_21 ?_
    refine gIfEqB (tgt := 44) F dX4_price_24 (by decide) (fun c_24 => ?_) (fun q => by simp at q)
    refine lv_aload_n F.1 F.2.1 dX4_price_44 rfl (lv_at hl 3 rfl) ?_
    refine gKputs F hG hS (by omega) mX4_price_3 dX4_price_45 ?_
    refine gTop (y := nI 1) rfl ?_
    refine gIfLe (tgt := 54) F (by decide) dX4_price_48 (by decide) (fun c_48 => by exfalso; omega) (fun c_48 => ?_)
    refine lv_iinc (v := nI 3) (lv' := [(4, .int (nI 3)), (0, .ref hk), (1, .int (nI pl)), (2, .ref (g.2.2.2 6)), (3, .int la)]) F.1 F.2.1 dX4_price_51 hl (k := 0) rfl (by decide) (by decide) rfl (fun ls hl => ?_)
    refine lv_aload_n F.1 F.2.1 dX4_price_54 rfl (lv_at hl 3 rfl) ?_
    refine gKputs F hG hS (by omega) mX4_price_3 dX4_price_55 ?_
    refine gTop (y := nI 1) rfl ?_
    refine gIfLe (tgt := 69) F (by decide) dX4_price_58 (by decide) (fun c_58 => by exfalso; omega) (fun c_58 => ?_)
    refine lv_aload_n F.1 F.2.1 dX4_price_61 rfl (lv_at hl 1 rfl) ?_
    refine lv_iconst (v := nI 1) F.1 F.2.1 dX4_price_62 rfl ?_
    refine gPut (w2 := (hk, .inr (2, [.int (nI 1)])) :: R) F hS hG hW nX4_price_X4 0 rfl rfl 0 (by decide) tyX4 tyX4_ok nmX4 mX4_price_1 rfl rfl rfl rfl (Nat.le_of_ble_eq_true rfl) rfl dX4_price_63 (fun H locs hW hS => ?_)
    refine lv_goto (tgt := 81) F.1 F.2.1 dX4_price_66 (by decide) ?_
    refine lv_iload F.1 F.2.1 dX4_price_81 (lv_at hl 0 rfl) ?_
    refine gRi F hW hS dX4_price_83 ?_
    exact ⟨rfl, rfl⟩
  · have hl : lv_has ls 5 [(0, .ref hk), (1, .int (nI pl)), (2, .ref (g.2.2.2 7)), (3, .int la)] := hl
    have hW : gW g ((hk, .inr (2, [.int (bI false)])) :: R) s.heap := hW
    refine lv_iconst (v := nI 4) F.1 F.2.1 dX4_price_0 rfl ?_
    refine lv_istore (lv' := [(4, .int (nI 4)), (0, .ref hk), (1, .int (nI pl)), (2, .ref (g.2.2.2 7)), (3, .int la)]) F.1 F.2.1 dX4_price_1 hl (by decide) rfl (fun ls hl => ?_)
    refine lv_aload_n F.1 F.2.1 dX4_price_3 rfl (lv_at hl 1 rfl) ?_
    refine gGet F hG hW nX4_price_X4 0 rfl rfl 0 (by decide) mX4_price_1 rfl dX4_price_4 ?_
    refine gIfEqB (tgt := 20) F dX4_price_7 (by decide) (fun c_7 => ?_) (fun q => by simp at q)
    refine lv_aload_n F.1 F.2.1 dX4_price_20 rfl (lv_at hl 1 rfl) ?_
    refine gGet F hG hW nX4_price_X4 0 rfl rfl 0 (by decide) mX4_price_1 rfl dX4_price_21 ?_
    refine gIfEqB (tgt := 44) F dX4_price_24 (by decide) (fun c_24 => ?_) (fun q => by simp at q)
    refine lv_aload_n F.1 F.2.1 dX4_price_44 rfl (lv_at hl 3 rfl) ?_
    refine gKputs F hG hS (by omega) mX4_price_3 dX4_price_45 ?_
    refine gTop (y := nI 1) rfl ?_
    refine gIfLe (tgt := 54) F (by decide) dX4_price_48 (by decide) (fun c_48 => by exfalso; omega) (fun c_48 => ?_)
    refine lv_iinc (v := nI 3) (lv' := [(4, .int (nI 3)), (0, .ref hk), (1, .int (nI pl)), (2, .ref (g.2.2.2 7)), (3, .int la)]) F.1 F.2.1 dX4_price_51 hl (k := 0) rfl (by decide) (by decide) rfl (fun ls hl => ?_)
    refine lv_aload_n F.1 F.2.1 dX4_price_54 rfl (lv_at hl 3 rfl) ?_
    refine gKputs F hG hS (by omega) mX4_price_3 dX4_price_55 ?_
    refine gTop (y := nI 1) rfl ?_
    refine gIfLe (tgt := 69) F (by decide) dX4_price_58 (by decide) (fun c_58 => by exfalso; omega) (fun c_58 => ?_)
    refine lv_aload_n F.1 F.2.1 dX4_price_61 rfl (lv_at hl 1 rfl) ?_
    refine lv_iconst (v := nI 1) F.1 F.2.1 dX4_price_62 rfl ?_
    refine gPut (w2 := (hk, .inr (2, [.int (nI 1)])) :: R) F hS hG hW nX4_price_X4 0 rfl rfl 0 (by decide) tyX4 tyX4_ok nmX4 mX4_price_1 rfl rfl rfl rfl (Nat.le_of_ble_eq_true rfl) rfl dX4_price_63 (fun H locs hW hS => ?_)
    refine lv_goto (tgt := 81) F.1 F.2.1 dX4_price_66 (by decide) ?_
    refine lv_iload F.1 F.2.1 dX4_price_81 (lv_at hl 0 rfl) ?_
    refine gRi F hW hS dX4_price_83 ?_
    exact ⟨rfl, rfl⟩
  · have hl : lv_has ls 5 [(0, .ref hk), (1, .int (nI pl)), (2, .ref (g.2.2.2 8)), (3, .int la)] := hl
    have hW : gW g ((hk, .inr (2, [.int (bI false)])) :: R) s.heap := hW
    refine lv_iconst (v := nI 4) F.1 F.2.1 dX4_price_0 rfl ?_
    refine lv_istore (lv' := [(4, .int (nI 4)), (0, .ref hk), (1, .int (nI pl)), (2, .ref (g.2.2.2 8)), (3, .int la)]) F.1 F.2.1 dX4_price_1 hl (by decide) rfl (fun ls hl => ?_)
    refine lv_aload_n F.1 F.2.1 dX4_price_3 rfl (lv_at hl 1 rfl) ?_
    refine gGet F hG hW nX4_price_X4 0 rfl rfl 0 (by decide) mX4_price_1 rfl dX4_price_4 ?_
    refine gIfEqB (tgt := 20) F dX4_price_7 (by decide) (fun c_7 => ?_) (fun q => by simp at q)
    refine lv_aload_n F.1 F.2.1 dX4_price_20 rfl (lv_at hl 1 rfl) ?_
    refine gGet F hG hW nX4_price_X4 0 rfl rfl 0 (by decide) mX4_price_1 rfl dX4_price_21 ?_
    refine gIfEqB (tgt := 44) F dX4_price_24 (by decide) (fun c_24 => ?_) (fun q => by simp at q)
    refine lv_aload_n F.1 F.2.1 dX4_price_44 rfl (lv_at hl 3 rfl) ?_
    refine gKputs F hG hS (by omega) mX4_price_3 dX4_price_45 ?_
    refine gTop (y := nI 1) rfl ?_
    refine gIfLe (tgt := 54) F (by decide) dX4_price_48 (by decide) (fun c_48 => by exfalso; omega) (fun c_48 => ?_)
    refine lv_iinc (v := nI 3) (lv' := [(4, .int (nI 3)), (0, .ref hk), (1, .int (nI pl)), (2, .ref (g.2.2.2 8)), (3, .int la)]) F.1 F.2.1 dX4_price_51 hl (k := 0) rfl (by decide) (by decide) rfl (fun ls hl => ?_)
    refine lv_aload_n F.1 F.2.1 dX4_price_54 rfl (lv_at hl 3 rfl) ?_
    refine gKputs F hG hS (by omega) mX4_price_3 dX4_price_55 ?_
    refine gTop (y := nI 1) rfl ?_
    refine gIfLe (tgt := 69) F (by decide) dX4_price_58 (by decide) (fun c_58 => by exfalso; omega) (fun c_58 => ?_)
    refine lv_aload_n F.1 F.2.1 dX4_price_61 rfl (lv_at hl 1 rfl) ?_
    refine lv_iconst (v := nI 1) F.1 F.2.1 dX4_price_62 rfl ?_
    refine gPut (w2 := (hk, .inr (2, [.int (nI 1)])) :: R) F hS hG hW nX4_price_X4 0 rfl rfl 0 (by decide) tyX4 tyX4_ok nmX4 mX4_price_1 rfl rfl rfl rfl (Nat.le_of_ble_eq_true rfl) rfl dX4_price_63 (fun H locs hW hS => ?_)
    refine lv_goto (tgt := 81) F.1 F.2.1 dX4_price_66 (by decide) ?_
    refine lv_iload F.1 F.2.1 dX4_price_81 (lv_at hl 0 rfl) ?_
    refine gRi F hW hS dX4_price_83 ?_
    exact ⟨rfl, rfl⟩
  · have hl : lv_has ls 5 [(0, .ref hk), (1, .int (nI pl)), (2, .ref (g.2.2.2 9)), (3, .int la)] := hl
    have hW : gW g ((hk, .inr (2, [.int (bI false)])) :: R) s.heap := hW
    refine lv_iconst (v := nI 4) F.1 F.2.1 dX4_price_0 rfl ?_
    refine lv_istore (lv' := [(4, .int (nI 4)), (0, .ref hk), (1, .int (nI pl)), (2, .ref (g.2.2.2 9)), (3, .int la)]) F.1 F.2.1 dX4_price_1 hl (by decide) rfl (fun ls hl => ?_)
    refine lv_aload_n F.1 F.2.1 dX4_price_3 rfl (lv_at hl 1 rfl) ?_
    refine gGet F hG hW nX4_price_X4 0 rfl rfl 0 (by decide) mX4_price_1 rfl dX4_price_4 ?_
    refine gIfEqB (tgt := 20) F dX4_price_7 (by decide) (fun c_7 => ?_) (fun q => by simp at q)
    refine lv_aload_n F.1 F.2.1 dX4_price_20 rfl (lv_at hl 1 rfl) ?_
    refine gGet F hG hW nX4_price_X4 0 rfl rfl 0 (by decide) mX4_price_1 rfl dX4_price_21 ?_
    refine gIfEqB (tgt := 44) F dX4_price_24 (by decide) (fun c_24 => ?_) (fun q => by simp at q)
    refine lv_aload_n F.1 F.2.1 dX4_price_44 rfl (lv_at hl 3 rfl) ?_
    refine gKputs F hG hS (by omega) mX4_price_3 dX4_price_45 ?_
    refine gTop (y := nI 1) rfl ?_
    refine gIfLe (tgt := 54) F (by decide) dX4_price_48 (by decide) (fun c_48 => by exfalso; omega) (fun c_48 => ?_)
    refine lv_iinc (v := nI 3) (lv' := [(4, .int (nI 3)), (0, .ref hk), (1, .int (nI pl)), (2, .ref (g.2.2.2 9)), (3, .int la)]) F.1 F.2.1 dX4_price_51 hl (k := 0) rfl (by decide) (by decide) rfl (fun ls hl => ?_)
    refine lv_aload_n F.1 F.2.1 dX4_price_54 rfl (lv_at hl 3 rfl) ?_
    refine gKputs F hG hS (by omega) mX4_price_3 dX4_price_55 ?_
    refine gTop (y := nI 1) rfl ?_
    refine gIfLe (tgt := 69) F (by decide) dX4_price_58 (by decide) (fun c_58 => by exfalso; omega) (fun c_58 => ?_)
    refine lv_aload_n F.1 F.2.1 dX4_price_61 rfl (lv_at hl 1 rfl) ?_
    refine lv_iconst (v := nI 1) F.1 F.2.1 dX4_price_62 rfl ?_
    refine gPut (w2 := (hk, .inr (2, [.int (nI 1)])) :: R) F hS hG hW nX4_price_X4 0 rfl rfl 0 (by decide) tyX4 tyX4_ok nmX4 mX4_price_1 rfl rfl rfl rfl (Nat.le_of_ble_eq_true rfl) rfl dX4_price_63 (fun H locs hW hS => ?_)
    refine lv_goto (tgt := 81) F.1 F.2.1 dX4_price_66 (by decide) ?_
    refine lv_iload F.1 F.2.1 dX4_price_81 (lv_at hl 0 rfl) ?_
    refine gRi F hW hS dX4_price_83 ?_
    exact ⟨rfl, rfl⟩
  · have hl : lv_has ls 5 [(0, .ref hk), (1, .int (nI pl)), (2, .ref (g.2.2.2 10)), (3, .int la)] := hl
    have hW : gW g ((hk, .inr (2, [.int (bI false)])) :: R) s.heap := hW
    refine lv_iconst (v := nI 4) F.1 F.2.1 dX4_price_0 rfl ?_
    refine lv_istore (lv' := [(4, .int (nI 4)), (0, .ref hk), (1, .int (nI pl)), (2, .ref (g.2.2.2 10)), (3, .int la)]) F.1 F.2.1 dX4_price_1 hl (by decide) rfl (fun ls hl => ?_)
    refine lv_aload_n F.1 F.2.1 dX4_price_3 rfl (lv_at hl 1 rfl) ?_
    refine gGet F hG hW nX4_price_X4 0 rfl rfl 0 (by decide) mX4_price_1 rfl dX4_price_4 ?_
    refine gIfEqB (tgt := 20) F dX4_price_7 (by decide) (fun c_7 => ?_) (fun q => by simp at q)
    refine lv_aload_n F.1 F.2.1 dX4_price_20 rfl (lv_at hl 1 rfl) ?_
    refine gGet F hG hW nX4_price_X4 0 rfl rfl 0 (by decide) mX4_price_1 rfl dX4_price_21 ?_
    refine gIfEqB (tgt := 44) F dX4_price_24 (by decide) (fun c_24 => ?_) (fun q => by simp at q)
    refine lv_aload_n F.1 F.2.1 dX4_price_44 rfl (lv_at hl 3 rfl) ?_
    refine gKputs F hG hS (by omega) mX4_price_3 dX4_price_45 ?_
    refine gTop (y := nI 0) rfl ?_
    refine gIfLe (tgt := 54) F (by decide) dX4_price_48 (by decide) (fun c_48 => ?_) (fun c_48 => by exfalso; omega)
    refine lv_aload_n F.1 F.2.1 dX4_price_54 rfl (lv_at hl 3 rfl) ?_
    refine gKputs F hG hS (by omega) mX4_price_3 dX4_price_55 ?_
    refine gTop (y := nI 0) rfl ?_
    refine gIfLe (tgt := 69) F (by decide) dX4_price_58 (by decide) (fun c_58 => ?_) (fun c_58 => by exfalso; omega)
    refine lv_aload_n F.1 F.2.1 dX4_price_69 rfl (lv_at hl 3 rfl) ?_
    refine gKtakes F hG hS (by omega) mX4_price_2 dX4_price_70 ?_
    refine gTop (y := nI 1) rfl ?_
    refine gIfLe (tgt := 81) F (by decide) dX4_price_73 (by decide) (fun c_73 => by exfalso; omega) (fun c_73 => ?_)
    refine lv_aload_n F.1 F.2.1 dX4_price_76 rfl (lv_at hl 1 rfl) ?_
    refine lv_iconst (v := nI 0) F.1 F.2.1 dX4_price_77 rfl ?_
    refine gPut (w2 := (hk, .inr (2, [.int (nI 0)])) :: R) F hS hG hW nX4_price_X4 0 rfl rfl 0 (by decide) tyX4 tyX4_ok nmX4 mX4_price_1 rfl rfl rfl rfl (Nat.le_of_ble_eq_true rfl) rfl dX4_price_78 (fun H locs hW hS => ?_)
    refine lv_iload F.1 F.2.1 dX4_price_81 (lv_at hl 0 rfl) ?_
    refine gRi F hW hS dX4_price_83 ?_
    exact ⟨rfl, rfl⟩
  · have hl : lv_has ls 5 [(0, .ref hk), (1, .int (nI pl)), (2, .ref (g.2.2.2 11)), (3, .int la)] := hl
    have hW : gW g ((hk, .inr (2, [.int (bI false)])) :: R) s.heap := hW
    refine lv_iconst (v := nI 4) F.1 F.2.1 dX4_price_0 rfl ?_
    refine lv_istore (lv' := [(4, .int (nI 4)), (0, .ref hk), (1, .int (nI pl)), (2, .ref (g.2.2.2 11)), (3, .int la)]) F.1 F.2.1 dX4_price_1 hl (by decide) rfl (fun ls hl => ?_)
    refine lv_aload_n F.1 F.2.1 dX4_price_3 rfl (lv_at hl 1 rfl) ?_
    refine gGet F hG hW nX4_price_X4 0 rfl rfl 0 (by decide) mX4_price_1 rfl dX4_price_4 ?_
    refine gIfEqB (tgt := 20) F dX4_price_7 (by decide) (fun c_7 => ?_) (fun q => by simp at q)
    refine lv_aload_n F.1 F.2.1 dX4_price_20 rfl (lv_at hl 1 rfl) ?_
    refine gGet F hG hW nX4_price_X4 0 rfl rfl 0 (by decide) mX4_price_1 rfl dX4_price_21 ?_
    refine gIfEqB (tgt := 44) F dX4_price_24 (by decide) (fun c_24 => ?_) (fun q => by simp at q)
    refine lv_aload_n F.1 F.2.1 dX4_price_44 rfl (lv_at hl 3 rfl) ?_
    refine gKputs F hG hS (by omega) mX4_price_3 dX4_price_45 ?_
    refine gTop (y := nI 0) rfl ?_
    refine gIfLe (tgt := 54) F (by decide) dX4_price_48 (by decide) (fun c_48 => ?_) (fun c_48 => by exfalso; omega)
    refine lv_aload_n F.1 F.2.1 dX4_price_54 rfl (lv_at hl 3 rfl) ?_
    refine gKputs F hG hS (by omega) mX4_price_3 dX4_price_55 ?_
    refine gTop (y := nI 0) rfl ?_
    refine gIfLe (tgt := 69) F (by decide) dX4_price_58 (by decide) (fun c_58 => ?_) (fun c_58 => by exfalso; omega)
    refine lv_aload_n F.1 F.2.1 dX4_price_69 rfl (lv_at hl 3 rfl) ?_
    refine gKtakes F hG hS (by omega) mX4_price_2 dX4_price_70 ?_
    refine gTop (y := nI 0) rfl ?_
    refine gIfLe (tgt := 81) F (by decide) dX4_price_73 (by decide) (fun c_73 => ?_) (fun c_73 => by exfalso; omega)
    refine lv_iload F.1 F.2.1 dX4_price_81 (lv_at hl 0 rfl) ?_
    refine gRi F hW hS dX4_price_83 ?_
    exact ⟨rfl, rfl⟩
  · have hl : lv_has ls 5 [(0, .ref hk), (1, .int (nI pl)), (2, .ref (g.2.2.2 12)), (3, .int la)] := hl
    have hW : gW g ((hk, .inr (2, [.int (bI false)])) :: R) s.heap := hW
    refine lv_iconst (v := nI 4) F.1 F.2.1 dX4_price_0 rfl ?_
    refine lv_istore (lv' := [(4, .int (nI 4)), (0, .ref hk), (1, .int (nI pl)), (2, .ref (g.2.2.2 12)), (3, .int la)]) F.1 F.2.1 dX4_price_1 hl (by decide) rfl (fun ls hl => ?_)
    refine lv_aload_n F.1 F.2.1 dX4_price_3 rfl (lv_at hl 1 rfl) ?_
    refine gGet F hG hW nX4_price_X4 0 rfl rfl 0 (by decide) mX4_price_1 rfl dX4_price_4 ?_
    refine gIfEqB (tgt := 20) F dX4_price_7 (by decide) (fun c_7 => ?_) (fun q => by simp at q)
    refine lv_aload_n F.1 F.2.1 dX4_price_20 rfl (lv_at hl 1 rfl) ?_
    refine gGet F hG hW nX4_price_X4 0 rfl rfl 0 (by decide) mX4_price_1 rfl dX4_price_21 ?_
    refine gIfEqB (tgt := 44) F dX4_price_24 (by decide) (fun c_24 => ?_) (fun q => by simp at q)
    refine lv_aload_n F.1 F.2.1 dX4_price_44 rfl (lv_at hl 3 rfl) ?_
    refine gKputs F hG hS (by omega) mX4_price_3 dX4_price_45 ?_
    refine gTop (y := nI 0) rfl ?_
    refine gIfLe (tgt := 54) F (by decide) dX4_price_48 (by decide) (fun c_48 => ?_) (fun c_48 => by exfalso; omega)
    refine lv_aload_n F.1 F.2.1 dX4_price_54 rfl (lv_at hl 3 rfl) ?_
    refine gKputs F hG hS (by omega) mX4_price_3 dX4_price_55 ?_
    refine gTop (y := nI 0) rfl ?_
    refine gIfLe (tgt := 69) F (by decide) dX4_price_58 (by decide) (fun c_58 => ?_) (fun c_58 => by exfalso; omega)
    refine lv_aload_n F.1 F.2.1 dX4_price_69 rfl (lv_at hl 3 rfl) ?_
    refine gKtakes F hG hS (by omega) mX4_price_2 dX4_price_70 ?_
    refine gTop (y := nI 1) rfl ?_
    refine gIfLe (tgt := 81) F (by decide) dX4_price_73 (by decide) (fun c_73 => by exfalso; omega) (fun c_73 => ?_)
    refine lv_aload_n F.1 F.2.1 dX4_price_76 rfl (lv_at hl 1 rfl) ?_
    refine lv_iconst (v := nI 0) F.1 F.2.1 dX4_price_77 rfl ?_
    refine gPut (w2 := (hk, .inr (2, [.int (nI 0)])) :: R) F hS hG hW nX4_price_X4 0 rfl rfl 0 (by decide) tyX4 tyX4_ok nmX4 mX4_price_1 rfl rfl rfl rfl (Nat.le_of_ble_eq_true rfl) rfl dX4_price_78 (fun H locs hW hS => ?_)
    refine lv_iload F.1 F.2.1 dX4_price_81 (lv_at hl 0 rfl) ?_
    refine gRi F hW hS dX4_price_83 ?_
    exact ⟨rfl, rfl⟩
  · have hl : lv_has ls 5 [(0, .ref hk), (1, .int (nI pl)), (2, .ref (g.2.2.2 13)), (3, .int la)] := hl
    have hW : gW g ((hk, .inr (2, [.int (bI false)])) :: R) s.heap := hW
    refine lv_iconst (v := nI 4) F.1 F.2.1 dX4_price_0 rfl ?_
    refine lv_istore (lv' := [(4, .int (nI 4)), (0, .ref hk), (1, .int (nI pl)), (2, .ref (g.2.2.2 13)), (3, .int la)]) F.1 F.2.1 dX4_price_1 hl (by decide) rfl (fun ls hl => ?_)
    refine lv_aload_n F.1 F.2.1 dX4_price_3 rfl (lv_at hl 1 rfl) ?_
    refine gGet F hG hW nX4_price_X4 0 rfl rfl 0 (by decide) mX4_price_1 rfl dX4_price_4 ?_
    refine gIfEqB (tgt := 20) F dX4_price_7 (by decide) (fun c_7 => ?_) (fun q => by simp at q)
    refine lv_aload_n F.1 F.2.1 dX4_price_20 rfl (lv_at hl 1 rfl) ?_
    refine gGet F hG hW nX4_price_X4 0 rfl rfl 0 (by decide) mX4_price_1 rfl dX4_price_21 ?_
    refine gIfEqB (tgt := 44) F dX4_price_24 (by decide) (fun c_24 => ?_) (fun q => by simp at q)
    refine lv_aload_n F.1 F.2.1 dX4_price_44 rfl (lv_at hl 3 rfl) ?_
    refine gKputs F hG hS (by omega) mX4_price_3 dX4_price_45 ?_
    refine gTop (y := nI 0) rfl ?_
    refine gIfLe (tgt := 54) F (by decide) dX4_price_48 (by decide) (fun c_48 => ?_) (fun c_48 => by exfalso; omega)
    refine lv_aload_n F.1 F.2.1 dX4_price_54 rfl (lv_at hl 3 rfl) ?_
    refine gKputs F hG hS (by omega) mX4_price_3 dX4_price_55 ?_
    refine gTop (y := nI 0) rfl ?_
    refine gIfLe (tgt := 69) F (by decide) dX4_price_58 (by decide) (fun c_58 => ?_) (fun c_58 => by exfalso; omega)
    refine lv_aload_n F.1 F.2.1 dX4_price_69 rfl (lv_at hl 3 rfl) ?_
    refine gKtakes F hG hS (by omega) mX4_price_2 dX4_price_70 ?_
    refine gTop (y := nI 1) rfl ?_
    refine gIfLe (tgt := 81) F (by decide) dX4_price_73 (by decide) (fun c_73 => by exfalso; omega) (fun c_73 => ?_)
    refine lv_aload_n F.1 F.2.1 dX4_price_76 rfl (lv_at hl 1 rfl) ?_
    refine lv_iconst (v := nI 0) F.1 F.2.1 dX4_price_77 rfl ?_
    refine gPut (w2 := (hk, .inr (2, [.int (nI 0)])) :: R) F hS hG hW nX4_price_X4 0 rfl rfl 0 (by decide) tyX4 tyX4_ok nmX4 mX4_price_1 rfl rfl rfl rfl (Nat.le_of_ble_eq_true rfl) rfl dX4_price_78 (fun H locs hW hS => ?_)
    refine lv_iload F.1 F.2.1 dX4_price_81 (lv_at hl 0 rfl) ?_
    refine gRi F hW hS dX4_price_83 ?_
    exact ⟨rfl, rfl⟩
  · have hl : lv_has ls 5 [(0, .ref hk), (1, .int (nI pl)), (2, .ref (g.2.2.2 14)), (3, .int la)] := hl
    have hW : gW g ((hk, .inr (2, [.int (bI false)])) :: R) s.heap := hW
    refine lv_iconst (v := nI 4) F.1 F.2.1 dX4_price_0 rfl ?_
    refine lv_istore (lv' := [(4, .int (nI 4)), (0, .ref hk), (1, .int (nI pl)), (2, .ref (g.2.2.2 14)), (3, .int la)]) F.1 F.2.1 dX4_price_1 hl (by decide) rfl (fun ls hl => ?_)
    refine lv_aload_n F.1 F.2.1 dX4_price_3 rfl (lv_at hl 1 rfl) ?_
    refine gGet F hG hW nX4_price_X4 0 rfl rfl 0 (by decide) mX4_price_1 rfl dX4_price_4 ?_
    refine gIfEqB (tgt := 20) F dX4_price_7 (by decide) (fun c_7 => ?_) (fun q => by simp at q)
    refine lv_aload_n F.1 F.2.1 dX4_price_20 rfl (lv_at hl 1 rfl) ?_
    refine gGet F hG hW nX4_price_X4 0 rfl rfl 0 (by decide) mX4_price_1 rfl dX4_price_21 ?_
    refine gIfEqB (tgt := 44) F dX4_price_24 (by decide) (fun c_24 => ?_) (fun q => by simp at q)
    refine lv_aload_n F.1 F.2.1 dX4_price_44 rfl (lv_at hl 3 rfl) ?_
    refine gKputs F hG hS (by omega) mX4_price_3 dX4_price_45 ?_
    refine gTop (y := nI 0) rfl ?_
    refine gIfLe (tgt := 54) F (by decide) dX4_price_48 (by decide) (fun c_48 => ?_) (fun c_48 => by exfalso; omega)
    refine lv_aload_n F.1 F.2.1 dX4_price_54 rfl (lv_at hl 3 rfl) ?_
    refine gKputs F hG hS (by omega) mX4_price_3 dX4_price_55 ?_
    refine gTop (y := nI 0) rfl ?_
    refine gIfLe (tgt := 69) F (by decide) dX4_price_58 (by decide) (fun c_58 => ?_) (fun c_58 => by exfalso; omega)
    refine lv_aload_n F.1 F.2.1 dX4_price_69 rfl (lv_at hl 3 rfl) ?_
    refine gKtakes F hG hS (by omega) mX4_price_2 dX4_price_70 ?_
    refine gTop (y := nI 0) rfl ?_
    refine gIfLe (tgt := 81) F (by decide) dX4_price_73 (by decide) (fun c_73 => ?_) (fun c_73 => by exfalso; omega)
    refine lv_iload F.1 F.2.1 dX4_price_81 (lv_at hl 0 rfl) ?_
    refine gRi F hW hS dX4_price_83 ?_
    exact ⟨rfl, rfl⟩
  · have hl : lv_has ls 5 [(0, .ref hk), (1, .int (nI pl)), (2, .ref (g.2.2.2 0)), (3, .int la)] := hl
    have hW : gW g ((hk, .inr (2, [.int (bI true)])) :: R) s.heap := hW
    refine lv_iconst (v := nI 4) F.1 F.2.1 dX4_price_0 rfl ?_
    refine lv_istore (lv' := [(4, .int (nI 4)), (0, .ref hk), (1, .int (nI pl)), (2, .ref (g.2.2.2 0)), (3, .int la)]) F.1 F.2.1 dX4_price_1 hl (by decide) rfl (fun ls hl => ?_)
    refine lv_aload_n F.1 F.2.1 dX4_price_3 rfl (lv_at hl 1 rfl) ?_
    refine gGet F hG hW nX4_price_X4 0 rfl rfl 0 (by decide) mX4_price_1 rfl dX4_price_4 ?_
    refine gIfEqB (tgt := 20) F dX4_price_7 (by decide) (fun q => by simp at q) (fun c_7 => ?_)
    refine lv_aload_n F.1 F.2.1 dX4_price_10 rfl (lv_at hl 3 rfl) ?_
    refine gKtakes F hG hS (by omega) mX4_price_2 dX4_price_11 ?_
    refine gTop (y := nI 0) rfl ?_
    refine gIfLe (tgt := 20) F (by decide) dX4_price_14 (by decide) (fun c_14 => ?_) (fun c_14 => by exfalso; omega)
    refine lv_aload_n F.1 F.2.1 dX4_price_20 rfl (lv_at hl 1 rfl) ?_
    refine gGet F hG hW nX4_price_X4 0 rfl rfl 0 (by decide) mX4_price_1 rfl dX4_price_21 ?_
    refine gIfEqB (tgt := 44) F dX4_price_24 (by decide) (fun q => by simp at q) (fun c_24 => ?_)
    refine lv_aload_n F.1 F.2.1 dX4_price_27 rfl (lv_at hl 3 rfl) ?_
    refine gKtakes F hG hS (by omega) mX4_price_2 dX4_price_28 ?_
    refine gTop (y := nI 0) rfl ?_
    refine gIfNe (tgt := 44) F (by decide) dX4_price_31 (by decide) (fun c_31 => by exfalso; omega) (fun c_31 => ?_)
    refine lv_aload_n F.1 F.2.1 dX4_price_34 rfl (lv_at hl 3 rfl) ?_
    refine gKputs F hG hS (by omega) mX4_price_3 dX4_price_35 ?_
    refine gTop (y := nI 1) rfl ?_
    refine gIfLe (tgt := 44) F (by decide) dX4_price_38 (by decide) (fun c_38 => by exfalso; omega) (fun c_38 => ?_)
    refine lv_iinc (v := nI (4 + 1)) (lv' := [(4, .int (nI (4 + 1))), (0, .ref hk), (1, .int (nI pl)), (2, .ref (g.2.2.2 0)), (3, .int la)]) F.1 F.2.1 dX4_price_41 hl (k := 0) rfl (nI_add 4 1) (by decide) rfl (fun ls hl => ?_)
    refine lv_aload_n F.1 F.2.1 dX4_price_44 rfl (lv_at hl 3 rfl) ?_
    refine gKputs F hG hS (by omega) mX4_price_3 dX4_price_45 ?_
    refine gTop (y := nI 1) rfl ?_
    refine gIfLe (tgt := 54) F (by decide) dX4_price_48 (by decide) (fun c_48 => by exfalso; omega) (fun c_48 => ?_)
    refine lv_iinc (v := (nI (4 + 1)) + (-1)) (lv' := [(4, .int ((nI (4 + 1)) + (-1))), (0, .ref hk), (1, .int (nI pl)), (2, .ref (g.2.2.2 0)), (3, .int la)]) F.1 F.2.1 dX4_price_51 hl (k := 0) rfl (by rfl) (by decide) rfl (fun ls hl => ?_)
    refine lv_aload_n F.1 F.2.1 dX4_price_54 rfl (lv_at hl 3 rfl) ?_
    refine gKputs F hG hS (by omega) mX4_price_3 dX4_price_55 ?_
    refine gTop (y := nI 1) rfl ?_
    refine gIfLe (tgt := 69) F (by decide) dX4_price_58 (by decide) (fun c_58 => by exfalso; omega) (fun c_58 => ?_)
    refine lv_aload_n F.1 F.2.1 dX4_price_61 rfl (lv_at hl 1 rfl) ?_
    refine lv_iconst (v := nI 1) F.1 F.2.1 dX4_price_62 rfl ?_
    refine gPut (w2 := (hk, .inr (2, [.int (nI 1)])) :: R) F hS hG hW nX4_price_X4 0 rfl rfl 0 (by decide) tyX4 tyX4_ok nmX4 mX4_price_1 rfl rfl rfl rfl (Nat.le_of_ble_eq_true rfl) rfl dX4_price_63 (fun H locs hW hS => ?_)
    refine lv_goto (tgt := 81) F.1 F.2.1 dX4_price_66 (by decide) ?_
    refine lv_iload F.1 F.2.1 dX4_price_81 (lv_at hl 0 rfl) ?_
    refine gRi F hW hS dX4_price_83 ?_
    exact ⟨rfl, rfl⟩
  · have hl : lv_has ls 5 [(0, .ref hk), (1, .int (nI pl)), (2, .ref (g.2.2.2 1)), (3, .int la)] := hl
    have hW : gW g ((hk, .inr (2, [.int (bI true)])) :: R) s.heap := hW
    refine lv_iconst (v := nI 4) F.1 F.2.1 dX4_price_0 rfl ?_
    refine lv_istore (lv' := [(4, .int (nI 4)), (0, .ref hk), (1, .int (nI pl)), (2, .ref (g.2.2.2 1)), (3, .int la)]) F.1 F.2.1 dX4_price_1 hl (by decide) rfl (fun ls hl => ?_)
    refine lv_aload_n F.1 F.2.1 dX4_price_3 rfl (lv_at hl 1 rfl) ?_
    refine gGet F hG hW nX4_price_X4 0 rfl rfl 0 (by decide) mX4_price_1 rfl dX4_price_4 ?_
    refine gIfEqB (tgt := 20) F dX4_price_7 (by decide) (fun q => by simp at q) (fun c_7 => ?_)
    refine lv_aload_n F.1 F.2.1 dX4_price_10 rfl (lv_at hl 3 rfl) ?_
    refine gKtakes F hG hS (by omega) mX4_price_2 dX4_price_11 ?_
    refine gTop (y := nI 1) rfl ?_
    refine gIfLe (tgt := 20) F (by decide) dX4_price_14 (by decide) (fun c_14 => by exfalso; omega) (fun c_14 => ?_)
    refine lv_iinc (v := nI 3) (lv' := [(4, .int (nI 3)), (0, .ref hk), (1, .int (nI pl)), (2, .ref (g.2.2.2 1)), (3, .int la)]) F.1 F.2.1 dX4_price_17 hl (k := 0) rfl (by decide) (by decide) rfl (fun ls hl => ?_)
    refine lv_aload_n F.1 F.2.1 dX4_price_20 rfl (lv_at hl 1 rfl) ?_
    refine gGet F hG hW nX4_price_X4 0 rfl rfl 0 (by decide) mX4_price_1 rfl dX4_price_21 ?_
    refine gIfEqB (tgt := 44) F dX4_price_24 (by decide) (fun q => by simp at q) (fun c_24 => ?_)
    refine lv_aload_n F.1 F.2.1 dX4_price_27 rfl (lv_at hl 3 rfl) ?_
    refine gKtakes F hG hS (by omega) mX4_price_2 dX4_price_28 ?_
    refine gTop (y := nI 1) rfl ?_
    refine gIfNe (tgt := 44) F (by decide) dX4_price_31 (by decide) (fun c_31 => ?_) (fun c_31 => by exfalso; omega)
    refine lv_aload_n F.1 F.2.1 dX4_price_44 rfl (lv_at hl 3 rfl) ?_
    refine gKputs F hG hS (by omega) mX4_price_3 dX4_price_45 ?_
    refine gTop (y := nI 0) rfl ?_
    refine gIfLe (tgt := 54) F (by decide) dX4_price_48 (by decide) (fun c_48 => ?_) (fun c_48 => by exfalso; omega)
    refine lv_aload_n F.1 F.2.1 dX4_price_54 rfl (lv_at hl 3 rfl) ?_
    refine gKputs F hG hS (by omega) mX4_price_3 dX4_price_55 ?_
    refine gTop (y := nI 0) rfl ?_
    refine gIfLe (tgt := 69) F (by decide) dX4_price_58 (by decide) (fun c_58 => ?_) (fun c_58 => by exfalso; omega)
    refine lv_aload_n F.1 F.2.1 dX4_price_69 rfl (lv_at hl 3 rfl) ?_
    refine gKtakes F hG hS (by omega) mX4_price_2 dX4_price_70 ?_
    refine gTop (y := nI 1) rfl ?_
    refine gIfLe (tgt := 81) F (by decide) dX4_price_73 (by decide) (fun c_73 => by exfalso; omega) (fun c_73 => ?_)
    refine lv_aload_n F.1 F.2.1 dX4_price_76 rfl (lv_at hl 1 rfl) ?_
    refine lv_iconst (v := nI 0) F.1 F.2.1 dX4_price_77 rfl ?_
    refine gPut (w2 := (hk, .inr (2, [.int (nI 0)])) :: R) F hS hG hW nX4_price_X4 0 rfl rfl 0 (by decide) tyX4 tyX4_ok nmX4 mX4_price_1 rfl rfl rfl rfl (Nat.le_of_ble_eq_true rfl) rfl dX4_price_78 (fun H locs hW hS => ?_)
    refine lv_iload F.1 F.2.1 dX4_price_81 (lv_at hl 0 rfl) ?_
    refine gRi F hW hS dX4_price_83 ?_
    exact ⟨rfl, rfl⟩
  · have hl : lv_has ls 5 [(0, .ref hk), (1, .int (nI pl)), (2, .ref (g.2.2.2 2)), (3, .int la)] := hl
    have hW : gW g ((hk, .inr (2, [.int (bI true)])) :: R) s.heap := hW
    refine lv_iconst (v := nI 4) F.1 F.2.1 dX4_price_0 rfl ?_
    refine lv_istore (lv' := [(4, .int (nI 4)), (0, .ref hk), (1, .int (nI pl)), (2, .ref (g.2.2.2 2)), (3, .int la)]) F.1 F.2.1 dX4_price_1 hl (by decide) rfl (fun ls hl => ?_)
    refine lv_aload_n F.1 F.2.1 dX4_price_3 rfl (lv_at hl 1 rfl) ?_
    refine gGet F hG hW nX4_price_X4 0 rfl rfl 0 (by decide) mX4_price_1 rfl dX4_price_4 ?_
    refine gIfEqB (tgt := 20) F dX4_price_7 (by decide) (fun q => by simp at q) (fun c_7 => ?_)
    refine lv_aload_n F.1 F.2.1 dX4_price_10 rfl (lv_at hl 3 rfl) ?_
    refine gKtakes F hG hS (by omega) mX4_price_2 dX4_price_11 ?_
    refine gTop (y := nI 1) rfl ?_
    refine gIfLe (tgt := 20) F (by decide) dX4_price_14 (by decide) (fun c_14 => by exfalso; omega) (fun c_14 => ?_)
    refine lv_iinc (v := nI 3) (lv' := [(4, .int (nI 3)), (0, .ref hk), (1, .int (nI pl)), (2, .ref (g.2.2.2 2)), (3, .int la)]) F.1 F.2.1 dX4_price_17 hl (k := 0) rfl (by decide) (by decide) rfl (fun ls hl => ?_)
    refine lv_aload_n F.1 F.2.1 dX4_price_20 rfl (lv_at hl 1 rfl) ?_
    refine gGet F hG hW nX4_price_X4 0 rfl rfl 0 (by decide) mX4_price_1 rfl dX4_price_21 ?_
    refine gIfEqB (tgt := 44) F dX4_price_24 (by decide) (fun q => by simp at q) (fun c_24 => ?_)
    refine lv_aload_n F.1 F.2.1 dX4_price_27 rfl (lv_at hl 3 rfl) ?_
    refine gKtakes F hG hS (by omega) mX4_price_2 dX4_price_28 ?_
    refine gTop (y := nI 1) rfl ?_
    refine gIfNe (tgt := 44) F (by decide) dX4_price_31 (by decide) (fun c_31 => ?_) (fun c_31 => by exfalso; omega)
    refine lv_aload_n F.1 F.2.1 dX4_price_44 rfl (lv_at hl 3 rfl) ?_
    refine gKputs F hG hS (by omega) mX4_price_3 dX4_price_45 ?_
    refine gTop (y := nI 2) rfl ?_
    refine gIfLe (tgt := 54) F (by decide) dX4_price_48 (by decide) (fun c_48 => by exfalso; omega) (fun c_48 => ?_)
    refine lv_iinc (v := nI 2) (lv' := [(4, .int (nI 2)), (0, .ref hk), (1, .int (nI pl)), (2, .ref (g.2.2.2 2)), (3, .int la)]) F.1 F.2.1 dX4_price_51 hl (k := 0) rfl (by decide) (by decide) rfl (fun ls hl => ?_)
    refine lv_aload_n F.1 F.2.1 dX4_price_54 rfl (lv_at hl 3 rfl) ?_
    refine gKputs F hG hS (by omega) mX4_price_3 dX4_price_55 ?_
    refine gTop (y := nI 2) rfl ?_
    refine gIfLe (tgt := 69) F (by decide) dX4_price_58 (by decide) (fun c_58 => by exfalso; omega) (fun c_58 => ?_)
    refine lv_aload_n F.1 F.2.1 dX4_price_61 rfl (lv_at hl 1 rfl) ?_
    refine lv_iconst (v := nI 1) F.1 F.2.1 dX4_price_62 rfl ?_
    refine gPut (w2 := (hk, .inr (2, [.int (nI 1)])) :: R) F hS hG hW nX4_price_X4 0 rfl rfl 0 (by decide) tyX4 tyX4_ok nmX4 mX4_price_1 rfl rfl rfl rfl (Nat.le_of_ble_eq_true rfl) rfl dX4_price_63 (fun H locs hW hS => ?_)
    refine lv_goto (tgt := 81) F.1 F.2.1 dX4_price_66 (by decide) ?_
    refine lv_iload F.1 F.2.1 dX4_price_81 (lv_at hl 0 rfl) ?_
    refine gRi F hW hS dX4_price_83 ?_
    exact ⟨rfl, rfl⟩
  · have hl : lv_has ls 5 [(0, .ref hk), (1, .int (nI pl)), (2, .ref (g.2.2.2 3)), (3, .int la)] := hl
    have hW : gW g ((hk, .inr (2, [.int (bI true)])) :: R) s.heap := hW
    refine lv_iconst (v := nI 4) F.1 F.2.1 dX4_price_0 rfl ?_
    refine lv_istore (lv' := [(4, .int (nI 4)), (0, .ref hk), (1, .int (nI pl)), (2, .ref (g.2.2.2 3)), (3, .int la)]) F.1 F.2.1 dX4_price_1 hl (by decide) rfl (fun ls hl => ?_)
    refine lv_aload_n F.1 F.2.1 dX4_price_3 rfl (lv_at hl 1 rfl) ?_
    refine gGet F hG hW nX4_price_X4 0 rfl rfl 0 (by decide) mX4_price_1 rfl dX4_price_4 ?_
    refine gIfEqB (tgt := 20) F dX4_price_7 (by decide) (fun q => by simp at q) (fun c_7 => ?_)
    refine lv_aload_n F.1 F.2.1 dX4_price_10 rfl (lv_at hl 3 rfl) ?_
    refine gKtakes F hG hS (by omega) mX4_price_2 dX4_price_11 ?_
    refine gTop (y := nI 2) rfl ?_
    refine gIfLe (tgt := 20) F (by decide) dX4_price_14 (by decide) (fun c_14 => by exfalso; omega) (fun c_14 => ?_)
    refine lv_iinc (v := nI 3) (lv' := [(4, .int (nI 3)), (0, .ref hk), (1, .int (nI pl)), (2, .ref (g.2.2.2 3)), (3, .int la)]) F.1 F.2.1 dX4_price_17 hl (k := 0) rfl (by decide) (by decide) rfl (fun ls hl => ?_)
    refine lv_aload_n F.1 F.2.1 dX4_price_20 rfl (lv_at hl 1 rfl) ?_
    refine gGet F hG hW nX4_price_X4 0 rfl rfl 0 (by decide) mX4_price_1 rfl dX4_price_21 ?_
    refine gIfEqB (tgt := 44) F dX4_price_24 (by decide) (fun q => by simp at q) (fun c_24 => ?_)
    refine lv_aload_n F.1 F.2.1 dX4_price_27 rfl (lv_at hl 3 rfl) ?_
    refine gKtakes F hG hS (by omega) mX4_price_2 dX4_price_28 ?_
    refine gTop (y := nI 2) rfl ?_
    refine gIfNe (tgt := 44) F (by decide) dX4_price_31 (by decide) (fun c_31 => ?_) (fun c_31 => by exfalso; omega)
    refine lv_aload_n F.1 F.2.1 dX4_price_44 rfl (lv_at hl 3 rfl) ?_
    refine gKputs F hG hS (by omega) mX4_price_3 dX4_price_45 ?_
    refine gTop (y := nI 2) rfl ?_
    refine gIfLe (tgt := 54) F (by decide) dX4_price_48 (by decide) (fun c_48 => by exfalso; omega) (fun c_48 => ?_)
    refine lv_iinc (v := nI 2) (lv' := [(4, .int (nI 2)), (0, .ref hk), (1, .int (nI pl)), (2, .ref (g.2.2.2 3)), (3, .int la)]) F.1 F.2.1 dX4_price_51 hl (k := 0) rfl (by decide) (by decide) rfl (fun ls hl => ?_)
    refine lv_aload_n F.1 F.2.1 dX4_price_54 rfl (lv_at hl 3 rfl) ?_
    refine gKputs F hG hS (by omega) mX4_price_3 dX4_price_55 ?_
    refine gTop (y := nI 2) rfl ?_
    refine gIfLe (tgt := 69) F (by decide) dX4_price_58 (by decide) (fun c_58 => by exfalso; omega) (fun c_58 => ?_)
    refine lv_aload_n F.1 F.2.1 dX4_price_61 rfl (lv_at hl 1 rfl) ?_
    refine lv_iconst (v := nI 1) F.1 F.2.1 dX4_price_62 rfl ?_
    refine gPut (w2 := (hk, .inr (2, [.int (nI 1)])) :: R) F hS hG hW nX4_price_X4 0 rfl rfl 0 (by decide) tyX4 tyX4_ok nmX4 mX4_price_1 rfl rfl rfl rfl (Nat.le_of_ble_eq_true rfl) rfl dX4_price_63 (fun H locs hW hS => ?_)
    refine lv_goto (tgt := 81) F.1 F.2.1 dX4_price_66 (by decide) ?_
    refine lv_iload F.1 F.2.1 dX4_price_81 (lv_at hl 0 rfl) ?_
    refine gRi F hW hS dX4_price_83 ?_
    exact ⟨rfl, rfl⟩
  · have hl : lv_has ls 5 [(0, .ref hk), (1, .int (nI pl)), (2, .ref (g.2.2.2 4)), (3, .int la)] := hl
    have hW : gW g ((hk, .inr (2, [.int (bI true)])) :: R) s.heap := hW
    refine lv_iconst (v := nI 4) F.1 F.2.1 dX4_price_0 rfl ?_
    refine lv_istore (lv' := [(4, .int (nI 4)), (0, .ref hk), (1, .int (nI pl)), (2, .ref (g.2.2.2 4)), (3, .int la)]) F.1 F.2.1 dX4_price_1 hl (by decide) rfl (fun ls hl => ?_)
    refine lv_aload_n F.1 F.2.1 dX4_price_3 rfl (lv_at hl 1 rfl) ?_
    refine gGet F hG hW nX4_price_X4 0 rfl rfl 0 (by decide) mX4_price_1 rfl dX4_price_4 ?_
    refine gIfEqB (tgt := 20) F dX4_price_7 (by decide) (fun q => by simp at q) (fun c_7 => ?_)
    refine lv_aload_n F.1 F.2.1 dX4_price_10 rfl (lv_at hl 3 rfl) ?_
    refine gKtakes F hG hS (by omega) mX4_price_2 dX4_price_11 ?_
    refine gTop (y := nI 2) rfl ?_
    refine gIfLe (tgt := 20) F (by decide) dX4_price_14 (by decide) (fun c_14 => by exfalso; omega) (fun c_14 => ?_)
    refine lv_iinc (v := nI 3) (lv' := [(4, .int (nI 3)), (0, .ref hk), (1, .int (nI pl)), (2, .ref (g.2.2.2 4)), (3, .int la)]) F.1 F.2.1 dX4_price_17 hl (k := 0) rfl (by decide) (by decide) rfl (fun ls hl => ?_)
    refine lv_aload_n F.1 F.2.1 dX4_price_20 rfl (lv_at hl 1 rfl) ?_
    refine gGet F hG hW nX4_price_X4 0 rfl rfl 0 (by decide) mX4_price_1 rfl dX4_price_21 ?_
    refine gIfEqB (tgt := 44) F dX4_price_24 (by decide) (fun q => by simp at q) (fun c_24 => ?_)
    refine lv_aload_n F.1 F.2.1 dX4_price_27 rfl (lv_at hl 3 rfl) ?_
    refine gKtakes F hG hS (by omega) mX4_price_2 dX4_price_28 ?_
    refine gTop (y := nI 2) rfl ?_
    refine gIfNe (tgt := 44) F (by decide) dX4_price_31 (by decide) (fun c_31 => ?_) (fun c_31 => by exfalso; omega)
    refine lv_aload_n F.1 F.2.1 dX4_price_44 rfl (lv_at hl 3 rfl) ?_
    refine gKputs F hG hS (by omega) mX4_price_3 dX4_price_45 ?_
    refine gTop (y := nI 3) rfl ?_
    refine gIfLe (tgt := 54) F (by decide) dX4_price_48 (by decide) (fun c_48 => by exfalso; omega) (fun c_48 => ?_)
    refine lv_iinc (v := nI 2) (lv' := [(4, .int (nI 2)), (0, .ref hk), (1, .int (nI pl)), (2, .ref (g.2.2.2 4)), (3, .int la)]) F.1 F.2.1 dX4_price_51 hl (k := 0) rfl (by decide) (by decide) rfl (fun ls hl => ?_)
    refine lv_aload_n F.1 F.2.1 dX4_price_54 rfl (lv_at hl 3 rfl) ?_
    refine gKputs F hG hS (by omega) mX4_price_3 dX4_price_55 ?_
    refine gTop (y := nI 3) rfl ?_
    refine gIfLe (tgt := 69) F (by decide) dX4_price_58 (by decide) (fun c_58 => by exfalso; omega) (fun c_58 => ?_)
    refine lv_aload_n F.1 F.2.1 dX4_price_61 rfl (lv_at hl 1 rfl) ?_
    refine lv_iconst (v := nI 1) F.1 F.2.1 dX4_price_62 rfl ?_
    refine gPut (w2 := (hk, .inr (2, [.int (nI 1)])) :: R) F hS hG hW nX4_price_X4 0 rfl rfl 0 (by decide) tyX4 tyX4_ok nmX4 mX4_price_1 rfl rfl rfl rfl (Nat.le_of_ble_eq_true rfl) rfl dX4_price_63 (fun H locs hW hS => ?_)
    refine lv_goto (tgt := 81) F.1 F.2.1 dX4_price_66 (by decide) ?_
    refine lv_iload F.1 F.2.1 dX4_price_81 (lv_at hl 0 rfl) ?_
    refine gRi F hW hS dX4_price_83 ?_
    exact ⟨rfl, rfl⟩
  · have hl : lv_has ls 5 [(0, .ref hk), (1, .int (nI pl)), (2, .ref (g.2.2.2 5)), (3, .int la)] := hl
    have hW : gW g ((hk, .inr (2, [.int (bI true)])) :: R) s.heap := hW
    refine lv_iconst (v := nI 4) F.1 F.2.1 dX4_price_0 rfl ?_
    refine lv_istore (lv' := [(4, .int (nI 4)), (0, .ref hk), (1, .int (nI pl)), (2, .ref (g.2.2.2 5)), (3, .int la)]) F.1 F.2.1 dX4_price_1 hl (by decide) rfl (fun ls hl => ?_)
    refine lv_aload_n F.1 F.2.1 dX4_price_3 rfl (lv_at hl 1 rfl) ?_
    refine gGet F hG hW nX4_price_X4 0 rfl rfl 0 (by decide) mX4_price_1 rfl dX4_price_4 ?_
    refine gIfEqB (tgt := 20) F dX4_price_7 (by decide) (fun q => by simp at q) (fun c_7 => ?_)
    refine lv_aload_n F.1 F.2.1 dX4_price_10 rfl (lv_at hl 3 rfl) ?_
    refine gKtakes F hG hS (by omega) mX4_price_2 dX4_price_11 ?_
    refine gTop (y := nI 2) rfl ?_
    refine gIfLe (tgt := 20) F (by decide) dX4_price_14 (by decide) (fun c_14 => by exfalso; omega) (fun c_14 => ?_)
    refine lv_iinc (v := nI 3) (lv' := [(4, .int (nI 3)), (0, .ref hk), (1, .int (nI pl)), (2, .ref (g.2.2.2 5)), (3, .int la)]) F.1 F.2.1 dX4_price_17 hl (k := 0) rfl (by decide) (by decide) rfl (fun ls hl => ?_)
    refine lv_aload_n F.1 F.2.1 dX4_price_20 rfl (lv_at hl 1 rfl) ?_
    refine gGet F hG hW nX4_price_X4 0 rfl rfl 0 (by decide) mX4_price_1 rfl dX4_price_21 ?_
    refine gIfEqB (tgt := 44) F dX4_price_24 (by decide) (fun q => by simp at q) (fun c_24 => ?_)
    refine lv_aload_n F.1 F.2.1 dX4_price_27 rfl (lv_at hl 3 rfl) ?_
    refine gKtakes F hG hS (by omega) mX4_price_2 dX4_price_28 ?_
    refine gTop (y := nI 2) rfl ?_
    refine gIfNe (tgt := 44) F (by decide) dX4_price_31 (by decide) (fun c_31 => ?_) (fun c_31 => by exfalso; omega)
    refine lv_aload_n F.1 F.2.1 dX4_price_44 rfl (lv_at hl 3 rfl) ?_
    refine gKputs F hG hS (by omega) mX4_price_3 dX4_price_45 ?_
    refine gTop (y := nI 1) rfl ?_
    refine gIfLe (tgt := 54) F (by decide) dX4_price_48 (by decide) (fun c_48 => by exfalso; omega) (fun c_48 => ?_)
    refine lv_iinc (v := nI 2) (lv' := [(4, .int (nI 2)), (0, .ref hk), (1, .int (nI pl)), (2, .ref (g.2.2.2 5)), (3, .int la)]) F.1 F.2.1 dX4_price_51 hl (k := 0) rfl (by decide) (by decide) rfl (fun ls hl => ?_)
    refine lv_aload_n F.1 F.2.1 dX4_price_54 rfl (lv_at hl 3 rfl) ?_
    refine gKputs F hG hS (by omega) mX4_price_3 dX4_price_55 ?_
    refine gTop (y := nI 1) rfl ?_
    refine gIfLe (tgt := 69) F (by decide) dX4_price_58 (by decide) (fun c_58 => by exfalso; omega) (fun c_58 => ?_)
    refine lv_aload_n F.1 F.2.1 dX4_price_61 rfl (lv_at hl 1 rfl) ?_
    refine lv_iconst (v := nI 1) F.1 F.2.1 dX4_price_62 rfl ?_
    refine gPut (w2 := (hk, .inr (2, [.int (nI 1)])) :: R) F hS hG hW nX4_price_X4 0 rfl rfl 0 (by decide) tyX4 tyX4_ok nmX4 mX4_price_1 rfl rfl rfl rfl (Nat.le_of_ble_eq_true rfl) rfl dX4_price_63 (fun H locs hW hS => ?_)
    refine lv_goto (tgt := 81) F.1 F.2.1 dX4_price_66 (by decide) ?_
    refine lv_iload F.1 F.2.1 dX4_price_81 (lv_at hl 0 rfl) ?_
    refine gRi F hW hS dX4_price_83 ?_
    exact ⟨rfl, rfl⟩
  · have hl : lv_has ls 5 [(0, .ref hk), (1, .int (nI pl)), (2, .ref (g.2.2.2 6)), (3, .int la)] := hl
    have hW : gW g ((hk, .inr (2, [.int (bI true)])) :: R) s.heap := hW
    refine lv_iconst (v := nI 4) F.1 F.2.1 dX4_price_0 rfl ?_
    refine lv_istore (lv' := [(4, .int (nI 4)), (0, .ref hk), (1, .int (nI pl)), (2, .ref (g.2.2.2 6)), (3, .int la)]) F.1 F.2.1 dX4_price_1 hl (by decide) rfl (fun ls hl => ?_)
    refine lv_aload_n F.1 F.2.1 dX4_price_3 rfl (lv_at hl 1 rfl) ?_
    refine gGet F hG hW nX4_price_X4 0 rfl rfl 0 (by decide) mX4_price_1 rfl dX4_price_4 ?_
    refine gIfEqB (tgt := 20) F dX4_price_7 (by decide) (fun q => by simp at q) (fun c_7 => ?_)
    refine lv_aload_n F.1 F.2.1 dX4_price_10 rfl (lv_at hl 3 rfl) ?_
    refine gKtakes F hG hS (by omega) mX4_price_2 dX4_price_11 ?_
    refine gTop (y := nI 2) rfl ?_
    refine gIfLe (tgt := 20) F (by decide) dX4_price_14 (by decide) (fun c_14 => by exfalso; omega) (fun c_14 => ?_)
    refine lv_iinc (v := nI 3) (lv' := [(4, .int (nI 3)), (0, .ref hk), (1, .int (nI pl)), (2, .ref (g.2.2.2 6)), (3, .int la)]) F.1 F.2.1 dX4_price_17 hl (k := 0) rfl (by decide) (by decide) rfl (fun ls hl => ?_)
    refine lv_aload_n F.1 F.2.1 dX4_price_20 rfl (lv_at hl 1 rfl) ?_
    refine gGet F hG hW nX4_price_X4 0 rfl rfl 0 (by decide) mX4_price_1 rfl dX4_price_21 ?_
    refine gIfEqB (tgt := 44) F dX4_price_24 (by decide) (fun q => by simp at q) (fun c_24 => ?_)
    refine lv_aload_n F.1 F.2.1 dX4_price_27 rfl (lv_at hl 3 rfl) ?_
    refine gKtakes F hG hS (by omega) mX4_price_2 dX4_price_28 ?_
    refine gTop (y := nI 2) rfl ?_
    refine gIfNe (tgt := 44) F (by decide) dX4_price_31 (by decide) (fun c_31 => ?_) (fun c_31 => by exfalso; omega)
    refine lv_aload_n F.1 F.2.1 dX4_price_44 rfl (lv_at hl 3 rfl) ?_
    refine gKputs F hG hS (by omega) mX4_price_3 dX4_price_45 ?_
    refine gTop (y := nI 1) rfl ?_
    refine gIfLe (tgt := 54) F (by decide) dX4_price_48 (by decide) (fun c_48 => by exfalso; omega) (fun c_48 => ?_)
    refine lv_iinc (v := nI 2) (lv' := [(4, .int (nI 2)), (0, .ref hk), (1, .int (nI pl)), (2, .ref (g.2.2.2 6)), (3, .int la)]) F.1 F.2.1 dX4_price_51 hl (k := 0) rfl (by decide) (by decide) rfl (fun ls hl => ?_)
    refine lv_aload_n F.1 F.2.1 dX4_price_54 rfl (lv_at hl 3 rfl) ?_
    refine gKputs F hG hS (by omega) mX4_price_3 dX4_price_55 ?_
    refine gTop (y := nI 1) rfl ?_
    refine gIfLe (tgt := 69) F (by decide) dX4_price_58 (by decide) (fun c_58 => by exfalso; omega) (fun c_58 => ?_)
    refine lv_aload_n F.1 F.2.1 dX4_price_61 rfl (lv_at hl 1 rfl) ?_
    refine lv_iconst (v := nI 1) F.1 F.2.1 dX4_price_62 rfl ?_
    refine gPut (w2 := (hk, .inr (2, [.int (nI 1)])) :: R) F hS hG hW nX4_price_X4 0 rfl rfl 0 (by decide) tyX4 tyX4_ok nmX4 mX4_price_1 rfl rfl rfl rfl (Nat.le_of_ble_eq_true rfl) rfl dX4_price_63 (fun H locs hW hS => ?_)
    refine lv_goto (tgt := 81) F.1 F.2.1 dX4_price_66 (by decide) ?_
    refine lv_iload F.1 F.2.1 dX4_price_81 (lv_at hl 0 rfl) ?_
    refine gRi F hW hS dX4_price_83 ?_
    exact ⟨rfl, rfl⟩
  · have hl : lv_has ls 5 [(0, .ref hk), (1, .int (nI pl)), (2, .ref (g.2.2.2 7)), (3, .int la)] := hl
    have hW : gW g ((hk, .inr (2, [.int (bI true)])) :: R) s.heap := hW
    refine lv_iconst (v := nI 4) F.1 F.2.1 dX4_price_0 rfl ?_
    refine lv_istore (lv' := [(4, .int (nI 4)), (0, .ref hk), (1, .int (nI pl)), (2, .ref (g.2.2.2 7)), (3, .int la)]) F.1 F.2.1 dX4_price_1 hl (by decide) rfl (fun ls hl => ?_)
    refine lv_aload_n F.1 F.2.1 dX4_price_3 rfl (lv_at hl 1 rfl) ?_
    refine gGet F hG hW nX4_price_X4 0 rfl rfl 0 (by decide) mX4_price_1 rfl dX4_price_4 ?_
    refine gIfEqB (tgt := 20) F dX4_price_7 (by decide) (fun q => by simp at q) (fun c_7 => ?_)
    refine lv_aload_n F.1 F.2.1 dX4_price_10 rfl (lv_at hl 3 rfl) ?_
    refine gKtakes F hG hS (by omega) mX4_price_2 dX4_price_11 ?_
    refine gTop (y := nI 2) rfl ?_
    refine gIfLe (tgt := 20) F (by decide) dX4_price_14 (by decide) (fun c_14 => by exfalso; omega) (fun c_14 => ?_)
    refine lv_iinc (v := nI 3) (lv' := [(4, .int (nI 3)), (0, .ref hk), (1, .int (nI pl)), (2, .ref (g.2.2.2 7)), (3, .int la)]) F.1 F.2.1 dX4_price_17 hl (k := 0) rfl (by decide) (by decide) rfl (fun ls hl => ?_)
    refine lv_aload_n F.1 F.2.1 dX4_price_20 rfl (lv_at hl 1 rfl) ?_
    refine gGet F hG hW nX4_price_X4 0 rfl rfl 0 (by decide) mX4_price_1 rfl dX4_price_21 ?_
    refine gIfEqB (tgt := 44) F dX4_price_24 (by decide) (fun q => by simp at q) (fun c_24 => ?_)
    refine lv_aload_n F.1 F.2.1 dX4_price_27 rfl (lv_at hl 3 rfl) ?_
    refine gKtakes F hG hS (by omega) mX4_price_2 dX4_price_28 ?_
    refine gTop (y := nI 2) rfl ?_
    refine gIfNe (tgt := 44) F (by decide) dX4_price_31 (by decide) (fun c_31 => ?_) (fun c_31 => by exfalso; omega)
    refine lv_aload_n F.1 F.2.1 dX4_price_44 rfl (lv_at hl 3 rfl) ?_
    refine gKputs F hG hS (by omega) mX4_price_3 dX4_price_45 ?_
    refine gTop (y := nI 1) rfl ?_
    refine gIfLe (tgt := 54) F (by decide) dX4_price_48 (by decide) (fun c_48 => by exfalso; omega) (fun c_48 => ?_)
    refine lv_iinc (v := nI 2) (lv' := [(4, .int (nI 2)), (0, .ref hk), (1, .int (nI pl)), (2, .ref (g.2.2.2 7)), (3, .int la)]) F.1 F.2.1 dX4_price_51 hl (k := 0) rfl (by decide) (by decide) rfl (fun ls hl => ?_)
    refine lv_aload_n F.1 F.2.1 dX4_price_54 rfl (lv_at hl 3 rfl) ?_
    refine gKputs F hG hS (by omega) mX4_price_3 dX4_price_55 ?_
    refine gTop (y := nI 1) rfl ?_
    refine gIfLe (tgt := 69) F (by decide) dX4_price_58 (by decide) (fun c_58 => by exfalso; omega) (fun c_58 => ?_)
    refine lv_aload_n F.1 F.2.1 dX4_price_61 rfl (lv_at hl 1 rfl) ?_
    refine lv_iconst (v := nI 1) F.1 F.2.1 dX4_price_62 rfl ?_
    refine gPut (w2 := (hk, .inr (2, [.int (nI 1)])) :: R) F hS hG hW nX4_price_X4 0 rfl rfl 0 (by decide) tyX4 tyX4_ok nmX4 mX4_price_1 rfl rfl rfl rfl (Nat.le_of_ble_eq_true rfl) rfl dX4_price_63 (fun H locs hW hS => ?_)
    refine lv_goto (tgt := 81) F.1 F.2.1 dX4_price_66 (by decide) ?_
    refine lv_iload F.1 F.2.1 dX4_price_81 (lv_at hl 0 rfl) ?_
    refine gRi F hW hS dX4_price_83 ?_
    exact ⟨rfl, rfl⟩
  · have hl : lv_has ls 5 [(0, .ref hk), (1, .int (nI pl)), (2, .ref (g.2.2.2 8)), (3, .int la)] := hl
    have hW : gW g ((hk, .inr (2, [.int (bI true)])) :: R) s.heap := hW
    refine lv_iconst (v := nI 4) F.1 F.2.1 dX4_price_0 rfl ?_
    refine lv_istore (lv' := [(4, .int (nI 4)), (0, .ref hk), (1, .int (nI pl)), (2, .ref (g.2.2.2 8)), (3, .int la)]) F.1 F.2.1 dX4_price_1 hl (by decide) rfl (fun ls hl => ?_)
    refine lv_aload_n F.1 F.2.1 dX4_price_3 rfl (lv_at hl 1 rfl) ?_
    refine gGet F hG hW nX4_price_X4 0 rfl rfl 0 (by decide) mX4_price_1 rfl dX4_price_4 ?_
    refine gIfEqB (tgt := 20) F dX4_price_7 (by decide) (fun q => by simp at q) (fun c_7 => ?_)
    refine lv_aload_n F.1 F.2.1 dX4_price_10 rfl (lv_at hl 3 rfl) ?_
    refine gKtakes F hG hS (by omega) mX4_price_2 dX4_price_11 ?_
    refine gTop (y := nI 2) rfl ?_
    refine gIfLe (tgt := 20) F (by decide) dX4_price_14 (by decide) (fun c_14 => by exfalso; omega) (fun c_14 => ?_)
    refine lv_iinc (v := nI 3) (lv' := [(4, .int (nI 3)), (0, .ref hk), (1, .int (nI pl)), (2, .ref (g.2.2.2 8)), (3, .int la)]) F.1 F.2.1 dX4_price_17 hl (k := 0) rfl (by decide) (by decide) rfl (fun ls hl => ?_)
    refine lv_aload_n F.1 F.2.1 dX4_price_20 rfl (lv_at hl 1 rfl) ?_
    refine gGet F hG hW nX4_price_X4 0 rfl rfl 0 (by decide) mX4_price_1 rfl dX4_price_21 ?_
    refine gIfEqB (tgt := 44) F dX4_price_24 (by decide) (fun q => by simp at q) (fun c_24 => ?_)
    refine lv_aload_n F.1 F.2.1 dX4_price_27 rfl (lv_at hl 3 rfl) ?_
    refine gKtakes F hG hS (by omega) mX4_price_2 dX4_price_28 ?_
    refine gTop (y := nI 2) rfl ?_
    refine gIfNe (tgt := 44) F (by decide) dX4_price_31 (by decide) (fun c_31 => ?_) (fun c_31 => by exfalso; omega)
    refine lv_aload_n F.1 F.2.1 dX4_price_44 rfl (lv_at hl 3 rfl) ?_
    refine gKputs F hG hS (by omega) mX4_price_3 dX4_price_45 ?_
    refine gTop (y := nI 1) rfl ?_
    refine gIfLe (tgt := 54) F (by decide) dX4_price_48 (by decide) (fun c_48 => by exfalso; omega) (fun c_48 => ?_)
    refine lv_iinc (v := nI 2) (lv' := [(4, .int (nI 2)), (0, .ref hk), (1, .int (nI pl)), (2, .ref (g.2.2.2 8)), (3, .int la)]) F.1 F.2.1 dX4_price_51 hl (k := 0) rfl (by decide) (by decide) rfl (fun ls hl => ?_)
    refine lv_aload_n F.1 F.2.1 dX4_price_54 rfl (lv_at hl 3 rfl) ?_
    refine gKputs F hG hS (by omega) mX4_price_3 dX4_price_55 ?_
    refine gTop (y := nI 1) rfl ?_
    refine gIfLe (tgt := 69) F (by decide) dX4_price_58 (by decide) (fun c_58 => by exfalso; omega) (fun c_58 => ?_)
    refine lv_aload_n F.1 F.2.1 dX4_price_61 rfl (lv_at hl 1 rfl) ?_
    refine lv_iconst (v := nI 1) F.1 F.2.1 dX4_price_62 rfl ?_
    refine gPut (w2 := (hk, .inr (2, [.int (nI 1)])) :: R) F hS hG hW nX4_price_X4 0 rfl rfl 0 (by decide) tyX4 tyX4_ok nmX4 mX4_price_1 rfl rfl rfl rfl (Nat.le_of_ble_eq_true rfl) rfl dX4_price_63 (fun H locs hW hS => ?_)
    refine lv_goto (tgt := 81) F.1 F.2.1 dX4_price_66 (by decide) ?_
    refine lv_iload F.1 F.2.1 dX4_price_81 (lv_at hl 0 rfl) ?_
    refine gRi F hW hS dX4_price_83 ?_
    exact ⟨rfl, rfl⟩
  · have hl : lv_has ls 5 [(0, .ref hk), (1, .int (nI pl)), (2, .ref (g.2.2.2 9)), (3, .int la)] := hl
    have hW : gW g ((hk, .inr (2, [.int (bI true)])) :: R) s.heap := hW
    refine lv_iconst (v := nI 4) F.1 F.2.1 dX4_price_0 rfl ?_
    refine lv_istore (lv' := [(4, .int (nI 4)), (0, .ref hk), (1, .int (nI pl)), (2, .ref (g.2.2.2 9)), (3, .int la)]) F.1 F.2.1 dX4_price_1 hl (by decide) rfl (fun ls hl => ?_)
    refine lv_aload_n F.1 F.2.1 dX4_price_3 rfl (lv_at hl 1 rfl) ?_
    refine gGet F hG hW nX4_price_X4 0 rfl rfl 0 (by decide) mX4_price_1 rfl dX4_price_4 ?_
    refine gIfEqB (tgt := 20) F dX4_price_7 (by decide) (fun q => by simp at q) (fun c_7 => ?_)
    refine lv_aload_n F.1 F.2.1 dX4_price_10 rfl (lv_at hl 3 rfl) ?_
    refine gKtakes F hG hS (by omega) mX4_price_2 dX4_price_11 ?_
    refine gTop (y := nI 0) rfl ?_
    refine gIfLe (tgt := 20) F (by decide) dX4_price_14 (by decide) (fun c_14 => ?_) (fun c_14 => by exfalso; omega)
    refine lv_aload_n F.1 F.2.1 dX4_price_20 rfl (lv_at hl 1 rfl) ?_
    refine gGet F hG hW nX4_price_X4 0 rfl rfl 0 (by decide) mX4_price_1 rfl dX4_price_21 ?_
    refine gIfEqB (tgt := 44) F dX4_price_24 (by decide) (fun q => by simp at q) (fun c_24 => ?_)
    refine lv_aload_n F.1 F.2.1 dX4_price_27 rfl (lv_at hl 3 rfl) ?_
    refine gKtakes F hG hS (by omega) mX4_price_2 dX4_price_28 ?_
    refine gTop (y := nI 0) rfl ?_
    refine gIfNe (tgt := 44) F (by decide) dX4_price_31 (by decide) (fun c_31 => by exfalso; omega) (fun c_31 => ?_)
    refine lv_aload_n F.1 F.2.1 dX4_price_34 rfl (lv_at hl 3 rfl) ?_
    refine gKputs F hG hS (by omega) mX4_price_3 dX4_price_35 ?_
    refine gTop (y := nI 1) rfl ?_
    refine gIfLe (tgt := 44) F (by decide) dX4_price_38 (by decide) (fun c_38 => by exfalso; omega) (fun c_38 => ?_)
    refine lv_iinc (v := nI (4 + 1)) (lv' := [(4, .int (nI (4 + 1))), (0, .ref hk), (1, .int (nI pl)), (2, .ref (g.2.2.2 9)), (3, .int la)]) F.1 F.2.1 dX4_price_41 hl (k := 0) rfl (nI_add 4 1) (by decide) rfl (fun ls hl => ?_)
    refine lv_aload_n F.1 F.2.1 dX4_price_44 rfl (lv_at hl 3 rfl) ?_
    refine gKputs F hG hS (by omega) mX4_price_3 dX4_price_45 ?_
    refine gTop (y := nI 1) rfl ?_
    refine gIfLe (tgt := 54) F (by decide) dX4_price_48 (by decide) (fun c_48 => by exfalso; omega) (fun c_48 => ?_)
    refine lv_iinc (v := (nI (4 + 1)) + (-1)) (lv' := [(4, .int ((nI (4 + 1)) + (-1))), (0, .ref hk), (1, .int (nI pl)), (2, .ref (g.2.2.2 9)), (3, .int la)]) F.1 F.2.1 dX4_price_51 hl (k := 0) rfl (by rfl) (by decide) rfl (fun ls hl => ?_)
    refine lv_aload_n F.1 F.2.1 dX4_price_54 rfl (lv_at hl 3 rfl) ?_
    refine gKputs F hG hS (by omega) mX4_price_3 dX4_price_55 ?_
    refine gTop (y := nI 1) rfl ?_
    refine gIfLe (tgt := 69) F (by decide) dX4_price_58 (by decide) (fun c_58 => by exfalso; omega) (fun c_58 => ?_)
    refine lv_aload_n F.1 F.2.1 dX4_price_61 rfl (lv_at hl 1 rfl) ?_
    refine lv_iconst (v := nI 1) F.1 F.2.1 dX4_price_62 rfl ?_
    refine gPut (w2 := (hk, .inr (2, [.int (nI 1)])) :: R) F hS hG hW nX4_price_X4 0 rfl rfl 0 (by decide) tyX4 tyX4_ok nmX4 mX4_price_1 rfl rfl rfl rfl (Nat.le_of_ble_eq_true rfl) rfl dX4_price_63 (fun H locs hW hS => ?_)
    refine lv_goto (tgt := 81) F.1 F.2.1 dX4_price_66 (by decide) ?_
    refine lv_iload F.1 F.2.1 dX4_price_81 (lv_at hl 0 rfl) ?_
    refine gRi F hW hS dX4_price_83 ?_
    exact ⟨rfl, rfl⟩
  · have hl : lv_has ls 5 [(0, .ref hk), (1, .int (nI pl)), (2, .ref (g.2.2.2 10)), (3, .int la)] := hl
    have hW : gW g ((hk, .inr (2, [.int (bI true)])) :: R) s.heap := hW
    refine lv_iconst (v := nI 4) F.1 F.2.1 dX4_price_0 rfl ?_
    refine lv_istore (lv' := [(4, .int (nI 4)), (0, .ref hk), (1, .int (nI pl)), (2, .ref (g.2.2.2 10)), (3, .int la)]) F.1 F.2.1 dX4_price_1 hl (by decide) rfl (fun ls hl => ?_)
    refine lv_aload_n F.1 F.2.1 dX4_price_3 rfl (lv_at hl 1 rfl) ?_
    refine gGet F hG hW nX4_price_X4 0 rfl rfl 0 (by decide) mX4_price_1 rfl dX4_price_4 ?_
    refine gIfEqB (tgt := 20) F dX4_price_7 (by decide) (fun q => by simp at q) (fun c_7 => ?_)
    refine lv_aload_n F.1 F.2.1 dX4_price_10 rfl (lv_at hl 3 rfl) ?_
    refine gKtakes F hG hS (by omega) mX4_price_2 dX4_price_11 ?_
    refine gTop (y := nI 1) rfl ?_
    refine gIfLe (tgt := 20) F (by decide) dX4_price_14 (by decide) (fun c_14 => by exfalso; omega) (fun c_14 => ?_)
    refine lv_iinc (v := nI 3) (lv' := [(4, .int (nI 3)), (0, .ref hk), (1, .int (nI pl)), (2, .ref (g.2.2.2 10)), (3, .int la)]) F.1 F.2.1 dX4_price_17 hl (k := 0) rfl (by decide) (by decide) rfl (fun ls hl => ?_)
    refine lv_aload_n F.1 F.2.1 dX4_price_20 rfl (lv_at hl 1 rfl) ?_
    refine gGet F hG hW nX4_price_X4 0 rfl rfl 0 (by decide) mX4_price_1 rfl dX4_price_21 ?_
    refine gIfEqB (tgt := 44) F dX4_price_24 (by decide) (fun q => by simp at q) (fun c_24 => ?_)
    refine lv_aload_n F.1 F.2.1 dX4_price_27 rfl (lv_at hl 3 rfl) ?_
    refine gKtakes F hG hS (by omega) mX4_price_2 dX4_price_28 ?_
    refine gTop (y := nI 1) rfl ?_
    refine gIfNe (tgt := 44) F (by decide) dX4_price_31 (by decide) (fun c_31 => ?_) (fun c_31 => by exfalso; omega)
    refine lv_aload_n F.1 F.2.1 dX4_price_44 rfl (lv_at hl 3 rfl) ?_
    refine gKputs F hG hS (by omega) mX4_price_3 dX4_price_45 ?_
    refine gTop (y := nI 0) rfl ?_
    refine gIfLe (tgt := 54) F (by decide) dX4_price_48 (by decide) (fun c_48 => ?_) (fun c_48 => by exfalso; omega)
    refine lv_aload_n F.1 F.2.1 dX4_price_54 rfl (lv_at hl 3 rfl) ?_
    refine gKputs F hG hS (by omega) mX4_price_3 dX4_price_55 ?_
    refine gTop (y := nI 0) rfl ?_
    refine gIfLe (tgt := 69) F (by decide) dX4_price_58 (by decide) (fun c_58 => ?_) (fun c_58 => by exfalso; omega)
    refine lv_aload_n F.1 F.2.1 dX4_price_69 rfl (lv_at hl 3 rfl) ?_
    refine gKtakes F hG hS (by omega) mX4_price_2 dX4_price_70 ?_
    refine gTop (y := nI 1) rfl ?_
    refine gIfLe (tgt := 81) F (by decide) dX4_price_73 (by decide) (fun c_73 => by exfalso; omega) (fun c_73 => ?_)
    refine lv_aload_n F.1 F.2.1 dX4_price_76 rfl (lv_at hl 1 rfl) ?_
    refine lv_iconst (v := nI 0) F.1 F.2.1 dX4_price_77 rfl ?_
    refine gPut (w2 := (hk, .inr (2, [.int (nI 0)])) :: R) F hS hG hW nX4_price_X4 0 rfl rfl 0 (by decide) tyX4 tyX4_ok nmX4 mX4_price_1 rfl rfl rfl rfl (Nat.le_of_ble_eq_true rfl) rfl dX4_price_78 (fun H locs hW hS => ?_)
    refine lv_iload F.1 F.2.1 dX4_price_81 (lv_at hl 0 rfl) ?_
    refine gRi F hW hS dX4_price_83 ?_
    exact ⟨rfl, rfl⟩
  · have hl : lv_has ls 5 [(0, .ref hk), (1, .int (nI pl)), (2, .ref (g.2.2.2 11)), (3, .int la)] := hl
    have hW : gW g ((hk, .inr (2, [.int (bI true)])) :: R) s.heap := hW
    refine lv_iconst (v := nI 4) F.1 F.2.1 dX4_price_0 rfl ?_
    refine lv_istore (lv' := [(4, .int (nI 4)), (0, .ref hk), (1, .int (nI pl)), (2, .ref (g.2.2.2 11)), (3, .int la)]) F.1 F.2.1 dX4_price_1 hl (by decide) rfl (fun ls hl => ?_)
    refine lv_aload_n F.1 F.2.1 dX4_price_3 rfl (lv_at hl 1 rfl) ?_
    refine gGet F hG hW nX4_price_X4 0 rfl rfl 0 (by decide) mX4_price_1 rfl dX4_price_4 ?_
    refine gIfEqB (tgt := 20) F dX4_price_7 (by decide) (fun q => by simp at q) (fun c_7 => ?_)
    refine lv_aload_n F.1 F.2.1 dX4_price_10 rfl (lv_at hl 3 rfl) ?_
    refine gKtakes F hG hS (by omega) mX4_price_2 dX4_price_11 ?_
    refine gTop (y := nI 0) rfl ?_
    refine gIfLe (tgt := 20) F (by decide) dX4_price_14 (by decide) (fun c_14 => ?_) (fun c_14 => by exfalso; omega)
    refine lv_aload_n F.1 F.2.1 dX4_price_20 rfl (lv_at hl 1 rfl) ?_
    refine gGet F hG hW nX4_price_X4 0 rfl rfl 0 (by decide) mX4_price_1 rfl dX4_price_21 ?_
    refine gIfEqB (tgt := 44) F dX4_price_24 (by decide) (fun q => by simp at q) (fun c_24 => ?_)
    refine lv_aload_n F.1 F.2.1 dX4_price_27 rfl (lv_at hl 3 rfl) ?_
    refine gKtakes F hG hS (by omega) mX4_price_2 dX4_price_28 ?_
    refine gTop (y := nI 0) rfl ?_
    refine gIfNe (tgt := 44) F (by decide) dX4_price_31 (by decide) (fun c_31 => by exfalso; omega) (fun c_31 => ?_)
    refine lv_aload_n F.1 F.2.1 dX4_price_34 rfl (lv_at hl 3 rfl) ?_
    refine gKputs F hG hS (by omega) mX4_price_3 dX4_price_35 ?_
    refine gTop (y := nI 0) rfl ?_
    refine gIfLe (tgt := 44) F (by decide) dX4_price_38 (by decide) (fun c_38 => ?_) (fun c_38 => by exfalso; omega)
    refine lv_aload_n F.1 F.2.1 dX4_price_44 rfl (lv_at hl 3 rfl) ?_
    refine gKputs F hG hS (by omega) mX4_price_3 dX4_price_45 ?_
    refine gTop (y := nI 0) rfl ?_
    refine gIfLe (tgt := 54) F (by decide) dX4_price_48 (by decide) (fun c_48 => ?_) (fun c_48 => by exfalso; omega)
    refine lv_aload_n F.1 F.2.1 dX4_price_54 rfl (lv_at hl 3 rfl) ?_
    refine gKputs F hG hS (by omega) mX4_price_3 dX4_price_55 ?_
    refine gTop (y := nI 0) rfl ?_
    refine gIfLe (tgt := 69) F (by decide) dX4_price_58 (by decide) (fun c_58 => ?_) (fun c_58 => by exfalso; omega)
    refine lv_aload_n F.1 F.2.1 dX4_price_69 rfl (lv_at hl 3 rfl) ?_
    refine gKtakes F hG hS (by omega) mX4_price_2 dX4_price_70 ?_
    refine gTop (y := nI 0) rfl ?_
    refine gIfLe (tgt := 81) F (by decide) dX4_price_73 (by decide) (fun c_73 => ?_) (fun c_73 => by exfalso; omega)
    refine lv_iload F.1 F.2.1 dX4_price_81 (lv_at hl 0 rfl) ?_
    refine gRi F hW hS dX4_price_83 ?_
    exact ⟨rfl, rfl⟩
  · have hl : lv_has ls 5 [(0, .ref hk), (1, .int (nI pl)), (2, .ref (g.2.2.2 12)), (3, .int la)] := hl
    have hW : gW g ((hk, .inr (2, [.int (bI true)])) :: R) s.heap := hW
    refine lv_iconst (v := nI 4) F.1 F.2.1 dX4_price_0 rfl ?_
    refine lv_istore (lv' := [(4, .int (nI 4)), (0, .ref hk), (1, .int (nI pl)), (2, .ref (g.2.2.2 12)), (3, .int la)]) F.1 F.2.1 dX4_price_1 hl (by decide) rfl (fun ls hl => ?_)
    refine lv_aload_n F.1 F.2.1 dX4_price_3 rfl (lv_at hl 1 rfl) ?_
    refine gGet F hG hW nX4_price_X4 0 rfl rfl 0 (by decide) mX4_price_1 rfl dX4_price_4 ?_
    refine gIfEqB (tgt := 20) F dX4_price_7 (by decide) (fun q => by simp at q) (fun c_7 => ?_)
    refine lv_aload_n F.1 F.2.1 dX4_price_10 rfl (lv_at hl 3 rfl) ?_
    refine gKtakes F hG hS (by omega) mX4_price_2 dX4_price_11 ?_
    refine gTop (y := nI 1) rfl ?_
    refine gIfLe (tgt := 20) F (by decide) dX4_price_14 (by decide) (fun c_14 => by exfalso; omega) (fun c_14 => ?_)
    refine lv_iinc (v := nI 3) (lv' := [(4, .int (nI 3)), (0, .ref hk), (1, .int (nI pl)), (2, .ref (g.2.2.2 12)), (3, .int la)]) F.1 F.2.1 dX4_price_17 hl (k := 0) rfl (by decide) (by decide) rfl (fun ls hl => ?_)
    refine lv_aload_n F.1 F.2.1 dX4_price_20 rfl (lv_at hl 1 rfl) ?_
    refine gGet F hG hW nX4_price_X4 0 rfl rfl 0 (by decide) mX4_price_1 rfl dX4_price_21 ?_
    refine gIfEqB (tgt := 44) F dX4_price_24 (by decide) (fun q => by simp at q) (fun c_24 => ?_)
    refine lv_aload_n F.1 F.2.1 dX4_price_27 rfl (lv_at hl 3 rfl) ?_
    refine gKtakes F hG hS (by omega) mX4_price_2 dX4_price_28 ?_
    refine gTop (y := nI 1) rfl ?_
    refine gIfNe (tgt := 44) F (by decide) dX4_price_31 (by decide) (fun c_31 => ?_) (fun c_31 => by exfalso; omega)
    refine lv_aload_n F.1 F.2.1 dX4_price_44 rfl (lv_at hl 3 rfl) ?_
    refine gKputs F hG hS (by omega) mX4_price_3 dX4_price_45 ?_
    refine gTop (y := nI 0) rfl ?_
    refine gIfLe (tgt := 54) F (by decide) dX4_price_48 (by decide) (fun c_48 => ?_) (fun c_48 => by exfalso; omega)
    refine lv_aload_n F.1 F.2.1 dX4_price_54 rfl (lv_at hl 3 rfl) ?_
    refine gKputs F hG hS (by omega) mX4_price_3 dX4_price_55 ?_
    refine gTop (y := nI 0) rfl ?_
    refine gIfLe (tgt := 69) F (by decide) dX4_price_58 (by decide) (fun c_58 => ?_) (fun c_58 => by exfalso; omega)
    refine lv_aload_n F.1 F.2.1 dX4_price_69 rfl (lv_at hl 3 rfl) ?_
    refine gKtakes F hG hS (by omega) mX4_price_2 dX4_price_70 ?_
    refine gTop (y := nI 1) rfl ?_
    refine gIfLe (tgt := 81) F (by decide) dX4_price_73 (by decide) (fun c_73 => by exfalso; omega) (fun c_73 => ?_)
    refine lv_aload_n F.1 F.2.1 dX4_price_76 rfl (lv_at hl 1 rfl) ?_
    refine lv_iconst (v := nI 0) F.1 F.2.1 dX4_price_77 rfl ?_
    refine gPut (w2 := (hk, .inr (2, [.int (nI 0)])) :: R) F hS hG hW nX4_price_X4 0 rfl rfl 0 (by decide) tyX4 tyX4_ok nmX4 mX4_price_1 rfl rfl rfl rfl (Nat.le_of_ble_eq_true rfl) rfl dX4_price_78 (fun H locs hW hS => ?_)
    refine lv_iload F.1 F.2.1 dX4_price_81 (lv_at hl 0 rfl) ?_
    refine gRi F hW hS dX4_price_83 ?_
    exact ⟨rfl, rfl⟩
  · have hl : lv_has ls 5 [(0, .ref hk), (1, .int (nI pl)), (2, .ref (g.2.2.2 13)), (3, .int la)] := hl
    have hW : gW g ((hk, .inr (2, [.int (bI true)])) :: R) s.heap := hW
    refine lv_iconst (v := nI 4) F.1 F.2.1 dX4_price_0 rfl ?_
    refine lv_istore (lv' := [(4, .int (nI 4)), (0, .ref hk), (1, .int (nI pl)), (2, .ref (g.2.2.2 13)), (3, .int la)]) F.1 F.2.1 dX4_price_1 hl (by decide) rfl (fun ls hl => ?_)
    refine lv_aload_n F.1 F.2.1 dX4_price_3 rfl (lv_at hl 1 rfl) ?_
    refine gGet F hG hW nX4_price_X4 0 rfl rfl 0 (by decide) mX4_price_1 rfl dX4_price_4 ?_
    refine gIfEqB (tgt := 20) F dX4_price_7 (by decide) (fun q => by simp at q) (fun c_7 => ?_)
    refine lv_aload_n F.1 F.2.1 dX4_price_10 rfl (lv_at hl 3 rfl) ?_
    refine gKtakes F hG hS (by omega) mX4_price_2 dX4_price_11 ?_
    refine gTop (y := nI 1) rfl ?_
    refine gIfLe (tgt := 20) F (by decide) dX4_price_14 (by decide) (fun c_14 => by exfalso; omega) (fun c_14 => ?_)
    refine lv_iinc (v := nI 3) (lv' := [(4, .int (nI 3)), (0, .ref hk), (1, .int (nI pl)), (2, .ref (g.2.2.2 13)), (3, .int la)]) F.1 F.2.1 dX4_price_17 hl (k := 0) rfl (by decide) (by decide) rfl (fun ls hl => ?_)
    refine lv_aload_n F.1 F.2.1 dX4_price_20 rfl (lv_at hl 1 rfl) ?_
    refine gGet F hG hW nX4_price_X4 0 rfl rfl 0 (by decide) mX4_price_1 rfl dX4_price_21 ?_
    refine gIfEqB (tgt := 44) F dX4_price_24 (by decide) (fun q => by simp at q) (fun c_24 => ?_)
    refine lv_aload_n F.1 F.2.1 dX4_price_27 rfl (lv_at hl 3 rfl) ?_
    refine gKtakes F hG hS (by omega) mX4_price_2 dX4_price_28 ?_
    refine gTop (y := nI 1) rfl ?_
    refine gIfNe (tgt := 44) F (by decide) dX4_price_31 (by decide) (fun c_31 => ?_) (fun c_31 => by exfalso; omega)
    refine lv_aload_n F.1 F.2.1 dX4_price_44 rfl (lv_at hl 3 rfl) ?_
    refine gKputs F hG hS (by omega) mX4_price_3 dX4_price_45 ?_
    refine gTop (y := nI 0) rfl ?_
    refine gIfLe (tgt := 54) F (by decide) dX4_price_48 (by decide) (fun c_48 => ?_) (fun c_48 => by exfalso; omega)
    refine lv_aload_n F.1 F.2.1 dX4_price_54 rfl (lv_at hl 3 rfl) ?_
    refine gKputs F hG hS (by omega) mX4_price_3 dX4_price_55 ?_
    refine gTop (y := nI 0) rfl ?_
    refine gIfLe (tgt := 69) F (by decide) dX4_price_58 (by decide) (fun c_58 => ?_) (fun c_58 => by exfalso; omega)
    refine lv_aload_n F.1 F.2.1 dX4_price_69 rfl (lv_at hl 3 rfl) ?_
    refine gKtakes F hG hS (by omega) mX4_price_2 dX4_price_70 ?_
    refine gTop (y := nI 1) rfl ?_
    refine gIfLe (tgt := 81) F (by decide) dX4_price_73 (by decide) (fun c_73 => by exfalso; omega) (fun c_73 => ?_)
    refine lv_aload_n F.1 F.2.1 dX4_price_76 rfl (lv_at hl 1 rfl) ?_
    refine lv_iconst (v := nI 0) F.1 F.2.1 dX4_price_77 rfl ?_
    refine gPut (w2 := (hk, .inr (2, [.int (nI 0)])) :: R) F hS hG hW nX4_price_X4 0 rfl rfl 0 (by decide) tyX4 tyX4_ok nmX4 mX4_price_1 rfl rfl rfl rfl (Nat.le_of_ble_eq_true rfl) rfl dX4_price_78 (fun H locs hW hS => ?_)
    refine lv_iload F.1 F.2.1 dX4_price_81 (lv_at hl 0 rfl) ?_
    refine gRi F hW hS dX4_price_83 ?_
    exact ⟨rfl, rfl⟩
  · have hl : lv_has ls 5 [(0, .ref hk), (1, .int (nI pl)), (2, .ref (g.2.2.2 14)), (3, .int la)] := hl
    have hW : gW g ((hk, .inr (2, [.int (bI true)])) :: R) s.heap := hW
    refine lv_iconst (v := nI 4) F.1 F.2.1 dX4_price_0 rfl ?_
    refine lv_istore (lv' := [(4, .int (nI 4)), (0, .ref hk), (1, .int (nI pl)), (2, .ref (g.2.2.2 14)), (3, .int la)]) F.1 F.2.1 dX4_price_1 hl (by decide) rfl (fun ls hl => ?_)
    refine lv_aload_n F.1 F.2.1 dX4_price_3 rfl (lv_at hl 1 rfl) ?_
    refine gGet F hG hW nX4_price_X4 0 rfl rfl 0 (by decide) mX4_price_1 rfl dX4_price_4 ?_
    refine gIfEqB (tgt := 20) F dX4_price_7 (by decide) (fun q => by simp at q) (fun c_7 => ?_)
    refine lv_aload_n F.1 F.2.1 dX4_price_10 rfl (lv_at hl 3 rfl) ?_
    refine gKtakes F hG hS (by omega) mX4_price_2 dX4_price_11 ?_
    refine gTop (y := nI 0) rfl ?_
    refine gIfLe (tgt := 20) F (by decide) dX4_price_14 (by decide) (fun c_14 => ?_) (fun c_14 => by exfalso; omega)
    refine lv_aload_n F.1 F.2.1 dX4_price_20 rfl (lv_at hl 1 rfl) ?_
    refine gGet F hG hW nX4_price_X4 0 rfl rfl 0 (by decide) mX4_price_1 rfl dX4_price_21 ?_
    refine gIfEqB (tgt := 44) F dX4_price_24 (by decide) (fun q => by simp at q) (fun c_24 => ?_)
    refine lv_aload_n F.1 F.2.1 dX4_price_27 rfl (lv_at hl 3 rfl) ?_
    refine gKtakes F hG hS (by omega) mX4_price_2 dX4_price_28 ?_
    refine gTop (y := nI 0) rfl ?_
    refine gIfNe (tgt := 44) F (by decide) dX4_price_31 (by decide) (fun c_31 => by exfalso; omega) (fun c_31 => ?_)
    refine lv_aload_n F.1 F.2.1 dX4_price_34 rfl (lv_at hl 3 rfl) ?_
    refine gKputs F hG hS (by omega) mX4_price_3 dX4_price_35 ?_
    refine gTop (y := nI 0) rfl ?_
    refine gIfLe (tgt := 44) F (by decide) dX4_price_38 (by decide) (fun c_38 => ?_) (fun c_38 => by exfalso; omega)
    refine lv_aload_n F.1 F.2.1 dX4_price_44 rfl (lv_at hl 3 rfl) ?_
    refine gKputs F hG hS (by omega) mX4_price_3 dX4_price_45 ?_
    refine gTop (y := nI 0) rfl ?_
    refine gIfLe (tgt := 54) F (by decide) dX4_price_48 (by decide) (fun c_48 => ?_) (fun c_48 => by exfalso; omega)
    refine lv_aload_n F.1 F.2.1 dX4_price_54 rfl (lv_at hl 3 rfl) ?_
    refine gKputs F hG hS (by omega) mX4_price_3 dX4_price_55 ?_
    refine gTop (y := nI 0) rfl ?_
    refine gIfLe (tgt := 69) F (by decide) dX4_price_58 (by decide) (fun c_58 => ?_) (fun c_58 => by exfalso; omega)
    refine lv_aload_n F.1 F.2.1 dX4_price_69 rfl (lv_at hl 3 rfl) ?_
    refine gKtakes F hG hS (by omega) mX4_price_2 dX4_price_70 ?_
    refine gTop (y := nI 0) rfl ?_
    refine gIfLe (tgt := 81) F (by decide) dX4_price_73 (by decide) (fun c_73 => ?_) (fun c_73 => by exfalso; omega)
    refine lv_iload F.1 F.2.1 dX4_price_81 (lv_at hl 0 rfl) ?_
    refine gRi F hW hS dX4_price_83 ?_
    exact ⟨rfl, rfl⟩

abbrev rm_X2_canJoin : Room := ({ frames := 2, cells := 0, slots := 0, locals := 43 } : Room)
theorem mX2_canJoin_1 : Cond.fieldLink RX2 54 "StepperHearts$Kind" "number" "I" ∈ wsX2_canJoin := List.mem_of_getElem? (i := 1) rfl
theorem fX2_canJoin_m59 : (yX2_canJoin.cls, 59, yX11_pairOf, "StepperHearts") ∈ gNM := List.mem_of_getElem? (i := 10) rfl
theorem mX2_canJoin_22 : Cond.initialized RX11 ∈ wsX2_canJoin := List.mem_of_getElem? (i := 22) rfl
theorem mX2_canJoin_21 : Cond.static yX11_pairOf ∈ wsX2_canJoin := List.mem_of_getElem? (i := 21) rfl
theorem mX2_canJoin_2 : Cond.fieldLink RX2 23 "StepperHearts$JoinedHeart" "joins" "LStepperHearts$Joins;" ∈ wsX2_canJoin := List.mem_of_getElem? (i := 2) rfl
theorem nX2_canJoin_X2 : ∀ w ∈ wsX20, w ∈ wsX2_canJoin := fun _ h => List.mem_cons_of_mem _ (List.mem_append_left _ (List.mem_append_left _ (List.mem_append_right _ (h))))
set_option maxRecDepth 100000 in
set_option maxHeartbeats 4000000 in
theorem c_X2_canJoin (g : gC) (l : Launch) {hj : Nat} {hx : Nat} {js : Nat} {jc : Nat} {jp : Nat} {Pj : Nat → Bool} {sz : Nat} {f3 : Int32} {hp : Nat} {pk : Nat} {po : Nat} {pm : Nat} {n : Nat} {kd : Nat → Nat} {mk : Nat → Bool} {j : Nat} {ex : Option Nat} {R : va_W} (h1 : 1 ≤ j) (hj1 : j < 100) (hn : n ≤ 100) (hK : ∀ i, i < n → kd i < 15) (hx1 : ∀ q, ex = some q → q < 2 ^ 31) : cI g l yX2_canJoin wsX2_canJoin rm_X2_canJoin 0 0 [.ref hj, .ref hp, .int (nI j), .int (oI ex)] ((hj, .inr (0, [.ref hx, .ref js, .ref jc, .int f3])) :: (hx, .inr (1, [.ref jp, .int (nI sz)])) :: (jp, .inl (g.2.1 1, 225, .inl (bA Pj))) :: (hp, .inr (5, [.ref pk, .ref po, .ref pm, .int (nI n)])) :: (pk, .inl (g.2.1 0, 100, .inl (nA kd))) :: (pm, .inl (g.2.1 1, 100, .inl (bA mk))) :: R) (fun r u => (bI (canJ n kd mk Pj ex j)) = r ∧ (hj, .inr (0, [.ref hx, .ref js, .ref jc, .int f3])) :: (hx, .inr (1, [.ref jp, .int (nI sz)])) :: (jp, .inl (g.2.1 1, 225, .inl (bA Pj))) :: (hp, .inr (5, [.ref pk, .ref po, .ref pm, .int (nI n)])) :: (pk, .inl (g.2.1 0, 100, .inl (nA kd))) :: (pm, .inl (g.2.1 1, 100, .inl (bA mk))) :: R = u) := by
  refine gEnterQ (cc := cX2_canJoin) (maxL := 5) (ret := (some (.boolean))) (by decide +kernel) rfl (Nat.le_of_ble_eq_true rfl) ?_
  intro p e s m below meth c F hG hW ls hl
  have hS : va_S (gA g) s.heap s.heap [] := va_S.rf
  have hl : lv_has ls 5 [(0, .ref hj), (1, .ref hp), (2, .int (nI j)), (3, .int (oI ex))] := hl
  have hW : gW g ((hj, .inr (0, [.ref hx, .ref js, .ref jc, .int f3])) :: (hx, .inr (1, [.ref jp, .int (nI sz)])) :: (jp, .inl (g.2.1 1, 225, .inl (bA Pj))) :: (hp, .inr (5, [.ref pk, .ref po, .ref pm, .int (nI n)])) :: (pk, .inl (g.2.1 0, 100, .inl (nA kd))) :: (pm, .inl (g.2.1 1, 100, .inl (bA mk))) :: R) s.heap := hW
  refine lv_aload_n F.1 F.2.1 dX2_canJoin_0 rfl (lv_at hl 1 rfl) ?_
  refine lv_iload_n F.1 F.2.1 dX2_canJoin_1 rfl (lv_at hl 2 rfl) ?_
  refine lv_iconst (v := nI 1) F.1 F.2.1 dX2_canJoin_2 rfl ?_
  refine gSub F (by omega) dX2_canJoin_3 ?_
  have hW := gW.re (l := [(hj, .inr (0, [.ref hx, .ref js, .ref jc, .int f3])), (hx, .inr (1, [.ref jp, .int (nI sz)])), (jp, .inl (g.2.1 1, 225, .inl (bA Pj))), (hp, .inr (5, [.ref pk, .ref po, .ref pm, .int (nI n)]))]) (l' := [(hp, .inr (5, [.ref pk, .ref po, .ref pm, .int (nI n)])), (hj, .inr (0, [.ref hx, .ref js, .ref jc, .int f3])), (hx, .inr (1, [.ref jp, .int (nI sz)])), (jp, .inl (g.2.1 1, 225, .inl (bA Pj)))]) (R := (pk, .inl (g.2.1 0, 100, .inl (nA kd))) :: (pm, .inl (g.2.1 1, 100, .inl (bA mk))) :: R) hW [3, 0, 1, 2] 4 rfl (by decide) rfl
  have hW : gW g ((hp, .inr (5, [.ref pk, .ref po, .ref pm, .int (nI n)])) :: (hj, .inr (0, [.ref hx, .ref js, .ref jc, .int f3])) :: (hx, .inr (1, [.ref jp, .int (nI sz)])) :: (jp, .inl (g.2.1 1, 225, .inl (bA Pj))) :: (pk, .inl (g.2.1 0, 100, .inl (nA kd))) :: (pm, .inl (g.2.1 1, 100, .inl (bA mk))) :: R) _ := hW
  refine gVi (n := 1) (q := (RX8, TX8, 4)) (q0 := 0) (As := [.int (nI (j - 1))]) F hG hS hW (c_X8_has g l  (by omega) (by omega)) rfl gX2_canJoin_X8_has rfl rfl rfl (by decide +kernel) ⟨rfl, rfl, Nat.le_of_ble_eq_true rfl, Nat.le_of_ble_eq_true rfl⟩ hl.1 (Nat.le_of_ble_eq_true rfl) ⟨Nat.le_of_ble_eq_true rfl, Nat.le_of_ble_eq_true rfl⟩ rfl rfl dX2_canJoin_4 (fun r u H locs hq hW hS => ?_)
  obtain ⟨rfl, rfl⟩ := hq
  have hW : gW g ((hp, .inr (5, [.ref pk, .ref po, .ref pm, .int (nI n)])) :: (hj, .inr (0, [.ref hx, .ref js, .ref jc, .int f3])) :: (hx, .inr (1, [.ref jp, .int (nI sz)])) :: (jp, .inl (g.2.1 1, 225, .inl (bA Pj))) :: (pk, .inl (g.2.1 0, 100, .inl (nA kd))) :: (pm, .inl (g.2.1 1, 100, .inl (bA mk))) :: R) _ := hW
  refine gIfEqB (tgt := 26) F dX2_canJoin_7 (by decide) (fun c_7 => ?_) (fun c_7 => ?_)
  · refine lv_iconst (v := nI 0) F.1 F.2.1 dX2_canJoin_26 rfl ?_
    have hW := gW.re (l := [(hp, .inr (5, [.ref pk, .ref po, .ref pm, .int (nI n)])), (hj, .inr (0, [.ref hx, .ref js, .ref jc, .int f3])), (hx, .inr (1, [.ref jp, .int (nI sz)])), (jp, .inl (g.2.1 1, 225, .inl (bA Pj)))]) (l' := [(hj, .inr (0, [.ref hx, .ref js, .ref jc, .int f3])), (hx, .inr (1, [.ref jp, .int (nI sz)])), (jp, .inl (g.2.1 1, 225, .inl (bA Pj))), (hp, .inr (5, [.ref pk, .ref po, .ref pm, .int (nI n)]))]) (R := (pk, .inl (g.2.1 0, 100, .inl (nA kd))) :: (pm, .inl (g.2.1 1, 100, .inl (bA mk))) :: R) hW [1, 2, 3, 0] 4 rfl (by decide) rfl
    have hW : gW g ((hj, .inr (0, [.ref hx, .ref js, .ref jc, .int f3])) :: (hx, .inr (1, [.ref jp, .int (nI sz)])) :: (jp, .inl (g.2.1 1, 225, .inl (bA Pj))) :: (hp, .inr (5, [.ref pk, .ref po, .ref pm, .int (nI n)])) :: (pk, .inl (g.2.1 0, 100, .inl (nA kd))) :: (pm, .inl (g.2.1 1, 100, .inl (bA mk))) :: R) _ := hW
    refine gRz rfl F hW hS dX2_canJoin_27 ?_
    exact ⟨by rw [canJ, decide_eq_false (show ¬ j < n by have := of_decide_eq_false c_7; omega)]; rfl, rfl⟩
  · have q7 : j - 1 < n := of_decide_eq_true c_7
    refine lv_aload_n F.1 F.2.1 dX2_canJoin_10 rfl (lv_at hl 1 rfl) ?_
    refine lv_iload_n F.1 F.2.1 dX2_canJoin_11 rfl (lv_at hl 2 rfl) ?_
    refine gVi (n := 1) (q := (RX8, TX8, 4)) (q0 := 0) (As := [.int (nI j)]) F hG hS hW (c_X8_has g l  (by omega) (by omega)) rfl gX2_canJoin_X8_has rfl rfl rfl (by decide +kernel) ⟨rfl, rfl, Nat.le_of_ble_eq_true rfl, Nat.le_of_ble_eq_true rfl⟩ hl.1 (Nat.le_of_ble_eq_true rfl) ⟨Nat.le_of_ble_eq_true rfl, Nat.le_of_ble_eq_true rfl⟩ rfl rfl dX2_canJoin_12 (fun r u H locs hq hW hS => ?_)
    obtain ⟨rfl, rfl⟩ := hq
    have hW : gW g ((hp, .inr (5, [.ref pk, .ref po, .ref pm, .int (nI n)])) :: (hj, .inr (0, [.ref hx, .ref js, .ref jc, .int f3])) :: (hx, .inr (1, [.ref jp, .int (nI sz)])) :: (jp, .inl (g.2.1 1, 225, .inl (bA Pj))) :: (pk, .inl (g.2.1 0, 100, .inl (nA kd))) :: (pm, .inl (g.2.1 1, 100, .inl (bA mk))) :: R) _ := hW
    refine gIfEqB (tgt := 26) F dX2_canJoin_15 (by decide) (fun c_15 => ?_) (fun c_15 => ?_)
    · refine lv_iconst (v := nI 0) F.1 F.2.1 dX2_canJoin_26 rfl ?_
      have hW := gW.re (l := [(hp, .inr (5, [.ref pk, .ref po, .ref pm, .int (nI n)])), (hj, .inr (0, [.ref hx, .ref js, .ref jc, .int f3])), (hx, .inr (1, [.ref jp, .int (nI sz)])), (jp, .inl (g.2.1 1, 225, .inl (bA Pj)))]) (l' := [(hj, .inr (0, [.ref hx, .ref js, .ref jc, .int f3])), (hx, .inr (1, [.ref jp, .int (nI sz)])), (jp, .inl (g.2.1 1, 225, .inl (bA Pj))), (hp, .inr (5, [.ref pk, .ref po, .ref pm, .int (nI n)]))]) (R := (pk, .inl (g.2.1 0, 100, .inl (nA kd))) :: (pm, .inl (g.2.1 1, 100, .inl (bA mk))) :: R) hW [1, 2, 3, 0] 4 rfl (by decide) rfl
      have hW : gW g ((hj, .inr (0, [.ref hx, .ref js, .ref jc, .int f3])) :: (hx, .inr (1, [.ref jp, .int (nI sz)])) :: (jp, .inl (g.2.1 1, 225, .inl (bA Pj))) :: (hp, .inr (5, [.ref pk, .ref po, .ref pm, .int (nI n)])) :: (pk, .inl (g.2.1 0, 100, .inl (nA kd))) :: (pm, .inl (g.2.1 1, 100, .inl (bA mk))) :: R) _ := hW
      refine gRz rfl F hW hS dX2_canJoin_27 ?_
      exact ⟨by rw [canJ, c_15]; rfl, rfl⟩
    · have q15 : j < n := of_decide_eq_true c_15
      refine lv_aload_n F.1 F.2.1 dX2_canJoin_18 rfl (lv_at hl 1 rfl) ?_
      refine lv_iload_n F.1 F.2.1 dX2_canJoin_19 rfl (lv_at hl 2 rfl) ?_
      have hW := gW.re (l := [(hp, .inr (5, [.ref pk, .ref po, .ref pm, .int (nI n)])), (hj, .inr (0, [.ref hx, .ref js, .ref jc, .int f3])), (hx, .inr (1, [.ref jp, .int (nI sz)])), (jp, .inl (g.2.1 1, 225, .inl (bA Pj))), (pk, .inl (g.2.1 0, 100, .inl (nA kd))), (pm, .inl (g.2.1 1, 100, .inl (bA mk)))]) (l' := [(hp, .inr (5, [.ref pk, .ref po, .ref pm, .int (nI n)])), (pm, .inl (g.2.1 1, 100, .inl (bA mk))), (hj, .inr (0, [.ref hx, .ref js, .ref jc, .int f3])), (hx, .inr (1, [.ref jp, .int (nI sz)])), (jp, .inl (g.2.1 1, 225, .inl (bA Pj))), (pk, .inl (g.2.1 0, 100, .inl (nA kd)))]) (R := R) hW [0, 5, 1, 2, 3, 4] 6 rfl (by decide) rfl
      have hW : gW g ((hp, .inr (5, [.ref pk, .ref po, .ref pm, .int (nI n)])) :: (pm, .inl (g.2.1 1, 100, .inl (bA mk))) :: (hj, .inr (0, [.ref hx, .ref js, .ref jc, .int f3])) :: (hx, .inr (1, [.ref jp, .int (nI sz)])) :: (jp, .inl (g.2.1 1, 225, .inl (bA Pj))) :: (pk, .inl (g.2.1 0, 100, .inl (nA kd))) :: R) _ := hW
      refine gVi (n := 1) (q := (RX8, TX8, 4)) (q0 := 0) (As := [.int (nI j)]) F hG hS hW (c_X8_isMarked g l  (by omega) q15) rfl gX2_canJoin_X8_isMarked rfl rfl rfl (by decide +kernel) ⟨rfl, rfl, Nat.le_of_ble_eq_true rfl, Nat.le_of_ble_eq_true rfl⟩ hl.1 (Nat.le_of_ble_eq_true rfl) ⟨Nat.le_of_ble_eq_true rfl, Nat.le_of_ble_eq_true rfl⟩ rfl rfl dX2_canJoin_20 (fun r u H locs hq hW hS => ?_)
      obtain ⟨rfl, rfl⟩ := hq
      have hW : gW g ((hp, .inr (5, [.ref pk, .ref po, .ref pm, .int (nI n)])) :: (pm, .inl (g.2.1 1, 100, .inl (bA mk))) :: (hj, .inr (0, [.ref hx, .ref js, .ref jc, .int f3])) :: (hx, .inr (1, [.ref jp, .int (nI sz)])) :: (jp, .inl (g.2.1 1, 225, .inl (bA Pj))) :: (pk, .inl (g.2.1 0, 100, .inl (nA kd))) :: R) _ := hW
      refine gIfEqB (tgt := 28) F dX2_canJoin_23 (by decide) (fun c_23 => ?_) (fun c_23 => ?_)
      · have k1 := hK (j - 1) q7
        have k2 := hK j q15
        refine lv_aload_n F.1 F.2.1 dX2_canJoin_28 rfl (lv_at hl 1 rfl) ?_
        refine lv_iload_n F.1 F.2.1 dX2_canJoin_29 rfl (lv_at hl 2 rfl) ?_
        refine lv_iconst (v := nI 1) F.1 F.2.1 dX2_canJoin_30 rfl ?_
        refine gSub F (by omega) dX2_canJoin_31 ?_
        have hW := gW.re (l := [(hp, .inr (5, [.ref pk, .ref po, .ref pm, .int (nI n)])), (pm, .inl (g.2.1 1, 100, .inl (bA mk))), (hj, .inr (0, [.ref hx, .ref js, .ref jc, .int f3])), (hx, .inr (1, [.ref jp, .int (nI sz)])), (jp, .inl (g.2.1 1, 225, .inl (bA Pj))), (pk, .inl (g.2.1 0, 100, .inl (nA kd)))]) (l' := [(hp, .inr (5, [.ref pk, .ref po, .ref pm, .int (nI n)])), (pk, .inl (g.2.1 0, 100, .inl (nA kd))), (pm, .inl (g.2.1 1, 100, .inl (bA mk))), (hj, .inr (0, [.ref hx, .ref js, .ref jc, .int f3])), (hx, .inr (1, [.ref jp, .int (nI sz)])), (jp, .inl (g.2.1 1, 225, .inl (bA Pj)))]) (R := R) hW [0, 5, 1, 2, 3, 4] 6 rfl (by decide) rfl
        have hW : gW g ((hp, .inr (5, [.ref pk, .ref po, .ref pm, .int (nI n)])) :: (pk, .inl (g.2.1 0, 100, .inl (nA kd))) :: (pm, .inl (g.2.1 1, 100, .inl (bA mk))) :: (hj, .inr (0, [.ref hx, .ref js, .ref jc, .int f3])) :: (hx, .inr (1, [.ref jp, .int (nI sz)])) :: (jp, .inl (g.2.1 1, 225, .inl (bA Pj))) :: R) _ := hW
        refine gVr (n := 1) (q := (RX8, TX8, 4)) (q0 := 0) (As := [.int (nI (j - 1))]) F hG hS hW (c_X8_kindAt g l  (by omega) q7 k1) rfl gX2_canJoin_X8_kindAt rfl rfl rfl (by decide +kernel) ⟨rfl, rfl, Nat.le_of_ble_eq_true rfl, Nat.le_of_ble_eq_true rfl⟩ hl.1 (Nat.le_of_ble_eq_true rfl) ⟨Nat.le_of_ble_eq_true rfl, Nat.le_of_ble_eq_true rfl⟩ rfl rfl dX2_canJoin_32 (fun r u H locs hq hW hS => ?_)
        obtain ⟨rfl, rfl⟩ := hq
        have hW : gW g ((hp, .inr (5, [.ref pk, .ref po, .ref pm, .int (nI n)])) :: (pk, .inl (g.2.1 0, 100, .inl (nA kd))) :: (pm, .inl (g.2.1 1, 100, .inl (bA mk))) :: (hj, .inr (0, [.ref hx, .ref js, .ref jc, .int f3])) :: (hx, .inr (1, [.ref jp, .int (nI sz)])) :: (jp, .inl (g.2.1 1, 225, .inl (bA Pj))) :: R) _ := hW
        refine gKnumber F hG hS (by omega) mX2_canJoin_1 dX2_canJoin_35 ?_
        refine lv_aload_n F.1 F.2.1 dX2_canJoin_38 rfl (lv_at hl 1 rfl) ?_
        refine lv_iload_n F.1 F.2.1 dX2_canJoin_39 rfl (lv_at hl 2 rfl) ?_
        refine gVr (n := 1) (q := (RX8, TX8, 4)) (q0 := 0) (As := [.int (nI j)]) F hG hS hW (c_X8_kindAt g l  (by omega) q15 k2) rfl gX2_canJoin_X8_kindAt rfl rfl rfl (by decide +kernel) ⟨rfl, rfl, Nat.le_of_ble_eq_true rfl, Nat.le_of_ble_eq_true rfl⟩ hl.1 (Nat.le_of_ble_eq_true rfl) ⟨Nat.le_of_ble_eq_true rfl, Nat.le_of_ble_eq_true rfl⟩ rfl rfl dX2_canJoin_40 (fun r u H locs hq hW hS => ?_)
        obtain ⟨rfl, rfl⟩ := hq
        have hW : gW g ((hp, .inr (5, [.ref pk, .ref po, .ref pm, .int (nI n)])) :: (pk, .inl (g.2.1 0, 100, .inl (nA kd))) :: (pm, .inl (g.2.1 1, 100, .inl (bA mk))) :: (hj, .inr (0, [.ref hx, .ref js, .ref jc, .int f3])) :: (hx, .inr (1, [.ref jp, .int (nI sz)])) :: (jp, .inl (g.2.1 1, 225, .inl (bA Pj))) :: R) _ := hW
        refine gKnumber F hG hS (by omega) mX2_canJoin_1 dX2_canJoin_43 ?_
        refine gN_i (n := 2) (As := [.int (nI (kd (j - 1))), .int (nI (kd j))]) F hG hS hW (c_X11_pairOf g l  ) rfl gX2_canJoin_X11_pairOf_n59 fX2_canJoin_m59 mX2_canJoin_22 mX2_canJoin_21 (by decide +kernel) ⟨rfl, rfl, Nat.le_of_ble_eq_true rfl, Nat.le_of_ble_eq_true rfl⟩ hl.1 (Nat.le_of_ble_eq_true rfl) ⟨Nat.le_of_ble_eq_true rfl, Nat.le_of_ble_eq_true rfl⟩ rfl rfl dX2_canJoin_46 (fun r u H locs hq hW hS => ?_)
        obtain ⟨rfl, rfl⟩ := hq
        have hW : gW g ((hp, .inr (5, [.ref pk, .ref po, .ref pm, .int (nI n)])) :: (pk, .inl (g.2.1 0, 100, .inl (nA kd))) :: (pm, .inl (g.2.1 1, 100, .inl (bA mk))) :: (hj, .inr (0, [.ref hx, .ref js, .ref jc, .int f3])) :: (hx, .inr (1, [.ref jp, .int (nI sz)])) :: (jp, .inl (g.2.1 1, 225, .inl (bA Pj))) :: R) _ := hW
        refine lv_istore (lv' := [(4, .int (nI ((kd (j - 1)) * 15 + (kd j)))), (0, .ref hj), (1, .ref hp), (2, .int (nI j)), (3, .int (oI ex))]) F.1 F.2.1 dX2_canJoin_49 hl (by decide) rfl (fun ls hl => ?_)
        refine lv_iload F.1 F.2.1 dX2_canJoin_51 (lv_at hl 0 rfl) ?_
        refine lv_iload_n F.1 F.2.1 dX2_canJoin_53 rfl (lv_at hl 4 rfl) ?_
        refine lv_icmp_eq (tgt := 69) F.1 F.2.1 dX2_canJoin_54 (by decide) (fun c_54 => ?_) (fun c_54 => ?_)
        · refine lv_iconst (v := nI 1) F.1 F.2.1 dX2_canJoin_69 rfl ?_
          refine lv_goto (tgt := 74) F.1 F.2.1 dX2_canJoin_70 (by decide) ?_
          have hW := gW.re (l := [(hp, .inr (5, [.ref pk, .ref po, .ref pm, .int (nI n)])), (pk, .inl (g.2.1 0, 100, .inl (nA kd))), (pm, .inl (g.2.1 1, 100, .inl (bA mk))), (hj, .inr (0, [.ref hx, .ref js, .ref jc, .int f3])), (hx, .inr (1, [.ref jp, .int (nI sz)])), (jp, .inl (g.2.1 1, 225, .inl (bA Pj)))]) (l' := [(hj, .inr (0, [.ref hx, .ref js, .ref jc, .int f3])), (hx, .inr (1, [.ref jp, .int (nI sz)])), (jp, .inl (g.2.1 1, 225, .inl (bA Pj))), (hp, .inr (5, [.ref pk, .ref po, .ref pm, .int (nI n)])), (pk, .inl (g.2.1 0, 100, .inl (nA kd))), (pm, .inl (g.2.1 1, 100, .inl (bA mk)))]) (R := R) hW [3, 4, 5, 0, 1, 2] 6 rfl (by decide) rfl
          have hW : gW g ((hj, .inr (0, [.ref hx, .ref js, .ref jc, .int f3])) :: (hx, .inr (1, [.ref jp, .int (nI sz)])) :: (jp, .inl (g.2.1 1, 225, .inl (bA Pj))) :: (hp, .inr (5, [.ref pk, .ref po, .ref pm, .int (nI n)])) :: (pk, .inl (g.2.1 0, 100, .inl (nA kd))) :: (pm, .inl (g.2.1 1, 100, .inl (bA mk))) :: R) _ := hW
          refine gRz rfl F hW hS dX2_canJoin_74 ?_
          exact ⟨by rw [canJ, c_15, c_23, decide_eq_true ((oI_n (by omega) hx1).mp c_54)]; rfl, rfl⟩
        · refine lv_aload_n F.1 F.2.1 dX2_canJoin_57 rfl (lv_at hl 1 rfl) ?_
          refine gGet F hG hW nX2_canJoin_X2 3 rfl rfl 0 (by decide) mX2_canJoin_2 rfl dX2_canJoin_58 ?_
          refine lv_iload F.1 F.2.1 dX2_canJoin_61 (lv_at hl 0 rfl) ?_
          have hW := gW.re (l := [(hp, .inr (5, [.ref pk, .ref po, .ref pm, .int (nI n)])), (pk, .inl (g.2.1 0, 100, .inl (nA kd))), (pm, .inl (g.2.1 1, 100, .inl (bA mk))), (hj, .inr (0, [.ref hx, .ref js, .ref jc, .int f3])), (hx, .inr (1, [.ref jp, .int (nI sz)])), (jp, .inl (g.2.1 1, 225, .inl (bA Pj)))]) (l' := [(hx, .inr (1, [.ref jp, .int (nI sz)])), (jp, .inl (g.2.1 1, 225, .inl (bA Pj))), (hp, .inr (5, [.ref pk, .ref po, .ref pm, .int (nI n)])), (pk, .inl (g.2.1 0, 100, .inl (nA kd))), (pm, .inl (g.2.1 1, 100, .inl (bA mk))), (hj, .inr (0, [.ref hx, .ref js, .ref jc, .int f3]))]) (R := R) hW [4, 5, 0, 1, 2, 3] 6 rfl (by decide) rfl
          have hW : gW g ((hx, .inr (1, [.ref jp, .int (nI sz)])) :: (jp, .inl (g.2.1 1, 225, .inl (bA Pj))) :: (hp, .inr (5, [.ref pk, .ref po, .ref pm, .int (nI n)])) :: (pk, .inl (g.2.1 0, 100, .inl (nA kd))) :: (pm, .inl (g.2.1 1, 100, .inl (bA mk))) :: (hj, .inr (0, [.ref hx, .ref js, .ref jc, .int f3])) :: R) _ := hW
          refine gVi (n := 1) (q := (RX3, TX3, 2)) (q0 := 0) (As := [.int (nI ((kd (j - 1)) * 15 + (kd j)))]) F hG hS hW (c_X3_has g l  (by omega)) rfl gX2_canJoin_X3_has rfl rfl rfl (by decide +kernel) ⟨rfl, rfl, Nat.le_of_ble_eq_true rfl, Nat.le_of_ble_eq_true rfl⟩ hl.1 (Nat.le_of_ble_eq_true rfl) ⟨Nat.le_of_ble_eq_true rfl, Nat.le_of_ble_eq_true rfl⟩ rfl rfl dX2_canJoin_63 (fun r u H locs hq hW hS => ?_)
          obtain ⟨rfl, rfl⟩ := hq
          have hW : gW g ((hx, .inr (1, [.ref jp, .int (nI sz)])) :: (jp, .inl (g.2.1 1, 225, .inl (bA Pj))) :: (hp, .inr (5, [.ref pk, .ref po, .ref pm, .int (nI n)])) :: (pk, .inl (g.2.1 0, 100, .inl (nA kd))) :: (pm, .inl (g.2.1 1, 100, .inl (bA mk))) :: (hj, .inr (0, [.ref hx, .ref js, .ref jc, .int f3])) :: R) _ := hW
          refine gIfEqB (tgt := 73) F dX2_canJoin_66 (by decide) (fun c_66 => ?_) (fun c_66 => ?_)
          · refine lv_iconst (v := nI 0) F.1 F.2.1 dX2_canJoin_73 rfl ?_
            have hW := gW.re (l := [(hx, .inr (1, [.ref jp, .int (nI sz)])), (jp, .inl (g.2.1 1, 225, .inl (bA Pj))), (hp, .inr (5, [.ref pk, .ref po, .ref pm, .int (nI n)])), (pk, .inl (g.2.1 0, 100, .inl (nA kd))), (pm, .inl (g.2.1 1, 100, .inl (bA mk))), (hj, .inr (0, [.ref hx, .ref js, .ref jc, .int f3]))]) (l' := [(hj, .inr (0, [.ref hx, .ref js, .ref jc, .int f3])), (hx, .inr (1, [.ref jp, .int (nI sz)])), (jp, .inl (g.2.1 1, 225, .inl (bA Pj))), (hp, .inr (5, [.ref pk, .ref po, .ref pm, .int (nI n)])), (pk, .inl (g.2.1 0, 100, .inl (nA kd))), (pm, .inl (g.2.1 1, 100, .inl (bA mk)))]) (R := R) hW [5, 0, 1, 2, 3, 4] 6 rfl (by decide) rfl
            have hW : gW g ((hj, .inr (0, [.ref hx, .ref js, .ref jc, .int f3])) :: (hx, .inr (1, [.ref jp, .int (nI sz)])) :: (jp, .inl (g.2.1 1, 225, .inl (bA Pj))) :: (hp, .inr (5, [.ref pk, .ref po, .ref pm, .int (nI n)])) :: (pk, .inl (g.2.1 0, 100, .inl (nA kd))) :: (pm, .inl (g.2.1 1, 100, .inl (bA mk))) :: R) _ := hW
            refine gRz rfl F hW hS dX2_canJoin_74 ?_
            exact ⟨by rw [canJ, c_15, c_23, decide_eq_false (fun z => c_54 ((oI_n (by omega) hx1).mpr z)), c_66]; rfl, rfl⟩
          · refine lv_iconst (v := nI 1) F.1 F.2.1 dX2_canJoin_69 rfl ?_
            refine lv_goto (tgt := 74) F.1 F.2.1 dX2_canJoin_70 (by decide) ?_
            have hW := gW.re (l := [(hx, .inr (1, [.ref jp, .int (nI sz)])), (jp, .inl (g.2.1 1, 225, .inl (bA Pj))), (hp, .inr (5, [.ref pk, .ref po, .ref pm, .int (nI n)])), (pk, .inl (g.2.1 0, 100, .inl (nA kd))), (pm, .inl (g.2.1 1, 100, .inl (bA mk))), (hj, .inr (0, [.ref hx, .ref js, .ref jc, .int f3]))]) (l' := [(hj, .inr (0, [.ref hx, .ref js, .ref jc, .int f3])), (hx, .inr (1, [.ref jp, .int (nI sz)])), (jp, .inl (g.2.1 1, 225, .inl (bA Pj))), (hp, .inr (5, [.ref pk, .ref po, .ref pm, .int (nI n)])), (pk, .inl (g.2.1 0, 100, .inl (nA kd))), (pm, .inl (g.2.1 1, 100, .inl (bA mk)))]) (R := R) hW [5, 0, 1, 2, 3, 4] 6 rfl (by decide) rfl
            have hW : gW g ((hj, .inr (0, [.ref hx, .ref js, .ref jc, .int f3])) :: (hx, .inr (1, [.ref jp, .int (nI sz)])) :: (jp, .inl (g.2.1 1, 225, .inl (bA Pj))) :: (hp, .inr (5, [.ref pk, .ref po, .ref pm, .int (nI n)])) :: (pk, .inl (g.2.1 0, 100, .inl (nA kd))) :: (pm, .inl (g.2.1 1, 100, .inl (bA mk))) :: R) _ := hW
            refine gRz rfl F hW hS dX2_canJoin_74 ?_
            exact ⟨by rw [canJ, c_15, c_23, decide_eq_false (fun z => c_54 ((oI_n (by omega) hx1).mpr z)), c_66]; rfl, rfl⟩
      · refine lv_iconst (v := nI 0) F.1 F.2.1 dX2_canJoin_26 rfl ?_
        have hW := gW.re (l := [(hp, .inr (5, [.ref pk, .ref po, .ref pm, .int (nI n)])), (pm, .inl (g.2.1 1, 100, .inl (bA mk))), (hj, .inr (0, [.ref hx, .ref js, .ref jc, .int f3])), (hx, .inr (1, [.ref jp, .int (nI sz)])), (jp, .inl (g.2.1 1, 225, .inl (bA Pj))), (pk, .inl (g.2.1 0, 100, .inl (nA kd)))]) (l' := [(hj, .inr (0, [.ref hx, .ref js, .ref jc, .int f3])), (hx, .inr (1, [.ref jp, .int (nI sz)])), (jp, .inl (g.2.1 1, 225, .inl (bA Pj))), (hp, .inr (5, [.ref pk, .ref po, .ref pm, .int (nI n)])), (pk, .inl (g.2.1 0, 100, .inl (nA kd))), (pm, .inl (g.2.1 1, 100, .inl (bA mk)))]) (R := R) hW [2, 3, 4, 0, 5, 1] 6 rfl (by decide) rfl
        have hW : gW g ((hj, .inr (0, [.ref hx, .ref js, .ref jc, .int f3])) :: (hx, .inr (1, [.ref jp, .int (nI sz)])) :: (jp, .inl (g.2.1 1, 225, .inl (bA Pj))) :: (hp, .inr (5, [.ref pk, .ref po, .ref pm, .int (nI n)])) :: (pk, .inl (g.2.1 0, 100, .inl (nA kd))) :: (pm, .inl (g.2.1 1, 100, .inl (bA mk))) :: R) _ := hW
        refine gRz rfl F hW hS dX2_canJoin_27 ?_
        exact ⟨by rw [canJ, c_15, c_23]; rfl, rfl⟩

abbrev rm_X2_pairUp : Room := ({ frames := 3, cells := 0, slots := 0, locals := 67 } : Room)
theorem mX2_pairUp_1 : Cond.fieldLink RX2 9 "StepperHearts$JoinedHeart" "isSecond" "[Z" ∈ wsX2_pairUp := List.mem_of_getElem? (i := 1) rfl
theorem nX2_pairUp_X2 : ∀ w ∈ wsX20, w ∈ wsX2_pairUp := fun _ h => List.mem_cons_of_mem _ (List.mem_append_left _ (List.mem_append_left _ (List.mem_append_right _ (h))))
set_option maxRecDepth 100000 in
set_option maxHeartbeats 4000000 in
theorem c_X2_pairUp (g : gC) (l : Launch) {hj : Nat} {hx : Nat} {js : Nat} {jc : Nat} {jp : Nat} {sec : Nat → Bool} {Pj : Nat → Bool} {sz : Nat} {f3 : Int32} {hp : Nat} {pk : Nat} {po : Nat} {pm : Nat} {n : Nat} {kd : Nat → Nat} {mk : Nat → Bool} {ex : Option Nat} {R : va_W} (hn : n ≤ 100) (hK : ∀ i, i < n → kd i < 15) (hx1 : ∀ q, ex = some q → q < 2 ^ 31) : cI g l yX2_pairUp wsX2_pairUp rm_X2_pairUp 0 0 [.ref hj, .ref hp, .int (oI ex)] ((hj, .inr (0, [.ref hx, .ref js, .ref jc, .int f3])) :: (js, .inl (g.2.1 1, 100, .inl (bA sec))) :: (hx, .inr (1, [.ref jp, .int (nI sz)])) :: (jp, .inl (g.2.1 1, 225, .inl (bA Pj))) :: (hp, .inr (5, [.ref pk, .ref po, .ref pm, .int (nI n)])) :: (pk, .inl (g.2.1 0, 100, .inl (nA kd))) :: (pm, .inl (g.2.1 1, 100, .inl (bA mk))) :: R) (fun r u => (nI (cntB (secS (canJ n kd mk Pj ex)) 100)) = r ∧ (hj, .inr (0, [.ref hx, .ref js, .ref jc, .int f3])) :: (js, .inl (g.2.1 1, 100, .inl (bA (secS (canJ n kd mk Pj ex))))) :: (hx, .inr (1, [.ref jp, .int (nI sz)])) :: (jp, .inl (g.2.1 1, 225, .inl (bA Pj))) :: (hp, .inr (5, [.ref pk, .ref po, .ref pm, .int (nI n)])) :: (pk, .inl (g.2.1 0, 100, .inl (nA kd))) :: (pm, .inl (g.2.1 1, 100, .inl (bA mk))) :: R = u) := by
  refine gEnterQ (cc := cX2_pairUp) (maxL := 5) (ret := (some (.int))) (by decide +kernel) rfl (Nat.le_of_ble_eq_true rfl) ?_
  intro p e s m below meth c F hG hW ls hl
  have hS : va_S (gA g) s.heap s.heap [] := va_S.rf
  have hl : lv_has ls 5 [(0, .ref hj), (1, .ref hp), (2, .int (oI ex))] := hl
  have hW : gW g ((hj, .inr (0, [.ref hx, .ref js, .ref jc, .int f3])) :: (js, .inl (g.2.1 1, 100, .inl (bA sec))) :: (hx, .inr (1, [.ref jp, .int (nI sz)])) :: (jp, .inl (g.2.1 1, 225, .inl (bA Pj))) :: (hp, .inr (5, [.ref pk, .ref po, .ref pm, .int (nI n)])) :: (pk, .inl (g.2.1 0, 100, .inl (nA kd))) :: (pm, .inl (g.2.1 1, 100, .inl (bA mk))) :: R) s.heap := hW
  refine lv_iconst (v := nI 0) F.1 F.2.1 dX2_pairUp_0 rfl ?_
  refine lv_istore_n (lv' := [(3, .int (nI 0)), (0, .ref hj), (1, .ref hp), (2, .int (oI ex))]) F.1 F.2.1 dX2_pairUp_1 rfl hl (by decide) rfl (fun ls hl => ?_)
  refine lv_aload_n F.1 F.2.1 dX2_pairUp_2 rfl (lv_at hl 1 rfl) ?_
  refine gGet F hG hW nX2_pairUp_X2 0 rfl rfl 1 (by decide) mX2_pairUp_1 rfl dX2_pairUp_3 ?_
  refine lv_iconst (v := nI 0) F.1 F.2.1 dX2_pairUp_6 rfl ?_
  refine lv_iconst (v := nI 0) F.1 F.2.1 dX2_pairUp_7 rfl ?_
  refine gTop (y := bI false) rfl ?_
  refine gStZB (w2 := (hj, .inr (0, [.ref hx, .ref js, .ref jc, .int f3])) :: (js, .inl (g.2.1 1, 100, .inl (bA (updB sec 0 false)))) :: (hx, .inr (1, [.ref jp, .int (nI sz)])) :: (jp, .inl (g.2.1 1, 225, .inl (bA Pj))) :: (hp, .inr (5, [.ref pk, .ref po, .ref pm, .int (nI n)])) :: (pk, .inl (g.2.1 0, 100, .inl (nA kd))) :: (pm, .inl (g.2.1 1, 100, .inl (bA mk))) :: R) F hG hW 1 rfl (by omega) (by decide) hS rfl dX2_pairUp_8 (fun H locs hW hS => ?_)
  refine lv_iconst (v := nI 1) F.1 F.2.1 dX2_pairUp_9 rfl ?_
  refine lv_istore (lv' := [(4, .int (nI 1)), (3, .int (nI 0)), (0, .ref hj), (1, .ref hp), (2, .int (oI ex))]) F.1 F.2.1 dX2_pairUp_10 hl (by decide) rfl (fun ls hl => ?_)
  have L_12 : ∀ (fu : Nat), ∀ (j : Nat) (cn : Nat) (sec : Nat → Bool) (hjj : 1 ≤ j ∧ j ≤ 100) (hs : ∀ i, i < j → sec i = secS (canJ n kd mk Pj ex) i) (hc : cn = cntB (secS (canJ n kd mk Pj ex)) j) (hm_12 : 100 - j < fu) (H : Heap) (locs : List Loc) (ls : Array Slot) (hW : gW g ((hj, .inr (0, [.ref hx, .ref js, .ref jc, .int f3])) :: (js, .inl (g.2.1 1, 100, .inl (bA sec))) :: (hx, .inr (1, [.ref jp, .int (nI sz)])) :: (jp, .inl (g.2.1 1, 225, .inl (bA Pj))) :: (hp, .inr (5, [.ref pk, .ref po, .ref pm, .int (nI n)])) :: (pk, .inl (g.2.1 0, 100, .inl (nA kd))) :: (pm, .inl (g.2.1 1, 100, .inl (bA mk))) :: R) H) (hS : va_S (gA g) s.heap H locs) (hl : lv_has ls 5 [(0, .ref hj), (1, .ref hp), (2, .int (oI ex)), (3, .int (nI cn)), (4, .int (nI j))]), W p l e (headSpec wsX2_pairUp rm_X2_pairUp).room s m ([.ref hj, .ref hp, .int (oI ex)] : List Value).toArray below meth c H locs 0 0 (MQ below (va_Qi (fun r u => (nI (cntB (secS (canJ n kd mk Pj ex)) 100)) = r ∧ (hj, .inr (0, [.ref hx, .ref js, .ref jc, .int f3])) :: (js, .inl (g.2.1 1, 100, .inl (bA (secS (canJ n kd mk Pj ex))))) :: (hx, .inr (1, [.ref jp, .int (nI sz)])) :: (jp, .inl (g.2.1 1, 225, .inl (bA Pj))) :: (hp, .inr (5, [.ref pk, .ref po, .ref pm, .int (nI n)])) :: (pk, .inl (g.2.1 0, 100, .inl (nA kd))) :: (pm, .inl (g.2.1 1, 100, .inl (bA mk))) :: R = u) (fun u t => gW g u t.heap) (gA g)) ([.ref hj, .ref hp, .int (oI ex)] : List Value).toArray s 0 0 (gA g)) (F0 m 12 ls []) := by
    intro fu
    induction fu with
    | zero =>
      intros _ _ _ _ _ _ hm_12
      exact absurd hm_12 (Nat.not_lt_zero _)
    | succ fu ih_12 =>
      intro j cn sec hjj hs hc hm_12 H locs ls hW hS hl
      refine lv_iload F.1 F.2.1 dX2_pairUp_12 (lv_at hl 4 rfl) ?_
      refine lv_bipush (v := nI 100) F.1 F.2.1 dX2_pairUp_14 (by decide) ?_
      refine gGe (tgt := 73) F (by omega) (by omega) dX2_pairUp_16 (by decide) (fun c_16 => ?_) (fun c_16 => ?_)
      · have hj100 : j = 100 := by omega
        subst hj100
        have hW := gW.arr (f' := bA (secS (canJ n kd mk Pj ex))) hW 1 rfl (fun i hi => by rw [show bA sec i = bI (sec i) from rfl, hs i hi]; rfl) rfl
        have hl : lv_has ls 5 [(0, .ref hj), (1, .ref hp), (2, .int (oI ex)), (3, .int (nI cn)), (4, .int (nI 100))] := hl
        have hW : gW g ((hj, .inr (0, [.ref hx, .ref js, .ref jc, .int f3])) :: (js, .inl (g.2.1 1, 100, .inl (bA (secS (canJ n kd mk Pj ex))))) :: (hx, .inr (1, [.ref jp, .int (nI sz)])) :: (jp, .inl (g.2.1 1, 225, .inl (bA Pj))) :: (hp, .inr (5, [.ref pk, .ref po, .ref pm, .int (nI n)])) :: (pk, .inl (g.2.1 0, 100, .inl (nA kd))) :: (pm, .inl (g.2.1 1, 100, .inl (bA mk))) :: R) _ := hW
        refine lv_iload_n F.1 F.2.1 dX2_pairUp_73 rfl (lv_at hl 3 rfl) ?_
        refine gRi F hW hS dX2_pairUp_74 ?_
        exact ⟨by rw [hc], rfl⟩
      · refine lv_aload_n F.1 F.2.1 dX2_pairUp_19 rfl (lv_at hl 0 rfl) ?_
        refine gGet F hG hW nX2_pairUp_X2 0 rfl rfl 1 (by decide) mX2_pairUp_1 rfl dX2_pairUp_20 ?_
        refine lv_iload F.1 F.2.1 dX2_pairUp_23 (lv_at hl 4 rfl) ?_
        refine lv_aload_n F.1 F.2.1 dX2_pairUp_25 rfl (lv_at hl 0 rfl) ?_
        refine gGet F hG hW nX2_pairUp_X2 0 rfl rfl 1 (by decide) mX2_pairUp_1 rfl dX2_pairUp_26 ?_
        refine lv_iload F.1 F.2.1 dX2_pairUp_29 (lv_at hl 4 rfl) ?_
        refine lv_iconst (v := nI 1) F.1 F.2.1 dX2_pairUp_31 rfl ?_
        refine gSub F (by omega) dX2_pairUp_32 ?_
        refine gLdZ F hG hW 1 rfl (by omega) (by decide) dX2_pairUp_33 ?_
        refine gTop (y := bI (sec (j - 1))) rfl ?_
        refine gIfNeB (tgt := 52) F dX2_pairUp_34 (by decide) (fun c_34 => ?_) (fun c_34 => ?_)
        · refine lv_iconst (v := nI 0) F.1 F.2.1 dX2_pairUp_52 rfl ?_
          refine gTop (y := bI false) rfl ?_
          refine gStZB (w2 := (hj, .inr (0, [.ref hx, .ref js, .ref jc, .int f3])) :: (js, .inl (g.2.1 1, 100, .inl (bA (updB sec j false)))) :: (hx, .inr (1, [.ref jp, .int (nI sz)])) :: (jp, .inl (g.2.1 1, 225, .inl (bA Pj))) :: (hp, .inr (5, [.ref pk, .ref po, .ref pm, .int (nI n)])) :: (pk, .inl (g.2.1 0, 100, .inl (nA kd))) :: (pm, .inl (g.2.1 1, 100, .inl (bA mk))) :: R) F hG hW 1 rfl (by omega) (by decide) hS rfl dX2_pairUp_53 (fun H locs hW hS => ?_)
          refine lv_aload_n F.1 F.2.1 dX2_pairUp_54 rfl (lv_at hl 0 rfl) ?_
          refine gGet F hG hW nX2_pairUp_X2 0 rfl rfl 1 (by decide) mX2_pairUp_1 rfl dX2_pairUp_55 ?_
          refine lv_iload F.1 F.2.1 dX2_pairUp_58 (lv_at hl 4 rfl) ?_
          refine gLdZ F hG hW 1 rfl (by omega) (by decide) dX2_pairUp_60 ?_
          refine gTop (y := bI ((updB sec j false) j)) rfl ?_
          refine gTop (y := bI false) (by rw [updB_s]) ?_
          refine gIfEqB (tgt := 67) F dX2_pairUp_61 (by decide) (fun c_61 => ?_) (fun q => by simp at q)
          refine lv_iinc (v := nI (j + 1)) (lv' := [(4, .int (nI (j + 1))), (0, .ref hj), (1, .ref hp), (2, .int (oI ex)), (3, .int (nI cn))]) F.1 F.2.1 dX2_pairUp_67 hl (k := 4) rfl (nI_add j 1) (by decide) rfl (fun ls hl => ?_)
          refine lv_goto (tgt := 12) F.1 F.2.1 dX2_pairUp_70 (by decide) ?_
          exact ih_12 (j + 1) cn (updB sec j false) (by omega) (fun i hi => (Nat.lt_succ_iff_lt_or_eq.mp hi).elim (fun q => (updB_n (Nat.ne_of_lt q)).trans (hs i q)) (fun q => by rw [q, updB_s, secS_1 (by omega), ← hs (j - 1) (by omega), c_34]; rfl)) (by rw [cntB, show secS (canJ n kd mk Pj ex) j = false from (by rw [secS_1 (by omega), ← hs (j - 1) (by omega), c_34]; rfl), hc]; rfl) (by omega) _ _ _ hW hS (lv_sub hl [1, 2, 3, 4, 0] rfl)
        · refine lv_aload_n F.1 F.2.1 dX2_pairUp_37 rfl (lv_at hl 0 rfl) ?_
          refine lv_aload_n F.1 F.2.1 dX2_pairUp_38 rfl (lv_at hl 1 rfl) ?_
          refine lv_iload F.1 F.2.1 dX2_pairUp_39 (lv_at hl 4 rfl) ?_
          refine lv_iload_n F.1 F.2.1 dX2_pairUp_41 rfl (lv_at hl 2 rfl) ?_
          have hW := gW.re (l := [(hj, .inr (0, [.ref hx, .ref js, .ref jc, .int f3])), (js, .inl (g.2.1 1, 100, .inl (bA sec))), (hx, .inr (1, [.ref jp, .int (nI sz)])), (jp, .inl (g.2.1 1, 225, .inl (bA Pj))), (hp, .inr (5, [.ref pk, .ref po, .ref pm, .int (nI n)])), (pk, .inl (g.2.1 0, 100, .inl (nA kd))), (pm, .inl (g.2.1 1, 100, .inl (bA mk)))]) (l' := [(hj, .inr (0, [.ref hx, .ref js, .ref jc, .int f3])), (hx, .inr (1, [.ref jp, .int (nI sz)])), (jp, .inl (g.2.1 1, 225, .inl (bA Pj))), (hp, .inr (5, [.ref pk, .ref po, .ref pm, .int (nI n)])), (pk, .inl (g.2.1 0, 100, .inl (nA kd))), (pm, .inl (g.2.1 1, 100, .inl (bA mk))), (js, .inl (g.2.1 1, 100, .inl (bA sec)))]) (R := R) hW [0, 2, 3, 4, 5, 6, 1] 7 rfl (by decide) rfl
          have hW : gW g ((hj, .inr (0, [.ref hx, .ref js, .ref jc, .int f3])) :: (hx, .inr (1, [.ref jp, .int (nI sz)])) :: (jp, .inl (g.2.1 1, 225, .inl (bA Pj))) :: (hp, .inr (5, [.ref pk, .ref po, .ref pm, .int (nI n)])) :: (pk, .inl (g.2.1 0, 100, .inl (nA kd))) :: (pm, .inl (g.2.1 1, 100, .inl (bA mk))) :: (js, .inl (g.2.1 1, 100, .inl (bA sec))) :: R) _ := hW
          refine gVi (n := 3) (q := (RX2, TX2, 4)) (q0 := 0) (As := [.ref hp, .int (nI j), .int (oI ex)]) F hG hS hW (c_X2_canJoin g l  (by omega) (by omega) (by omega) (by omega) (by omega)) rfl gX2_pairUp_X2_canJoin rfl rfl rfl (by decide +kernel) ⟨rfl, rfl, Nat.le_of_ble_eq_true rfl, Nat.le_of_ble_eq_true rfl⟩ hl.1 (Nat.le_of_ble_eq_true rfl) ⟨Nat.le_of_ble_eq_true rfl, Nat.le_of_ble_eq_true rfl⟩ rfl rfl dX2_pairUp_42 (fun r u H locs hq hW hS => ?_)
          obtain ⟨rfl, rfl⟩ := hq
          have hW : gW g ((hj, .inr (0, [.ref hx, .ref js, .ref jc, .int f3])) :: (hx, .inr (1, [.ref jp, .int (nI sz)])) :: (jp, .inl (g.2.1 1, 225, .inl (bA Pj))) :: (hp, .inr (5, [.ref pk, .ref po, .ref pm, .int (nI n)])) :: (pk, .inl (g.2.1 0, 100, .inl (nA kd))) :: (pm, .inl (g.2.1 1, 100, .inl (bA mk))) :: (js, .inl (g.2.1 1, 100, .inl (bA sec))) :: R) _ := hW
          refine gIfEqB (tgt := 52) F dX2_pairUp_45 (by decide) (fun c_45 => ?_) (fun c_45 => ?_)
          · refine lv_iconst (v := nI 0) F.1 F.2.1 dX2_pairUp_52 rfl ?_
            refine gTop (y := bI false) rfl ?_
            refine gStZB (w2 := (hj, .inr (0, [.ref hx, .ref js, .ref jc, .int f3])) :: (hx, .inr (1, [.ref jp, .int (nI sz)])) :: (jp, .inl (g.2.1 1, 225, .inl (bA Pj))) :: (hp, .inr (5, [.ref pk, .ref po, .ref pm, .int (nI n)])) :: (pk, .inl (g.2.1 0, 100, .inl (nA kd))) :: (pm, .inl (g.2.1 1, 100, .inl (bA mk))) :: (js, .inl (g.2.1 1, 100, .inl (bA (updB sec j false)))) :: R) F hG hW 6 rfl (by omega) (by decide) hS rfl dX2_pairUp_53 (fun H locs hW hS => ?_)
            refine lv_aload_n F.1 F.2.1 dX2_pairUp_54 rfl (lv_at hl 0 rfl) ?_
            refine gGet F hG hW nX2_pairUp_X2 0 rfl rfl 1 (by decide) mX2_pairUp_1 rfl dX2_pairUp_55 ?_
            refine lv_iload F.1 F.2.1 dX2_pairUp_58 (lv_at hl 4 rfl) ?_
            refine gLdZ F hG hW 6 rfl (by omega) (by decide) dX2_pairUp_60 ?_
            refine gTop (y := bI ((updB sec j false) j)) rfl ?_
            refine gTop (y := bI false) (by rw [updB_s]) ?_
            refine gIfEqB (tgt := 67) F dX2_pairUp_61 (by decide) (fun c_61 => ?_) (fun q => by simp at q)
            refine lv_iinc (v := nI (j + 1)) (lv' := [(4, .int (nI (j + 1))), (0, .ref hj), (1, .ref hp), (2, .int (oI ex)), (3, .int (nI cn))]) F.1 F.2.1 dX2_pairUp_67 hl (k := 4) rfl (nI_add j 1) (by decide) rfl (fun ls hl => ?_)
            refine lv_goto (tgt := 12) F.1 F.2.1 dX2_pairUp_70 (by decide) ?_
            have hW := gW.re (l := [(hj, .inr (0, [.ref hx, .ref js, .ref jc, .int f3])), (hx, .inr (1, [.ref jp, .int (nI sz)])), (jp, .inl (g.2.1 1, 225, .inl (bA Pj))), (hp, .inr (5, [.ref pk, .ref po, .ref pm, .int (nI n)])), (pk, .inl (g.2.1 0, 100, .inl (nA kd))), (pm, .inl (g.2.1 1, 100, .inl (bA mk))), (js, .inl (g.2.1 1, 100, .inl (bA (updB sec j false))))]) (l' := [(hj, .inr (0, [.ref hx, .ref js, .ref jc, .int f3])), (js, .inl (g.2.1 1, 100, .inl (bA (updB sec j false)))), (hx, .inr (1, [.ref jp, .int (nI sz)])), (jp, .inl (g.2.1 1, 225, .inl (bA Pj))), (hp, .inr (5, [.ref pk, .ref po, .ref pm, .int (nI n)])), (pk, .inl (g.2.1 0, 100, .inl (nA kd))), (pm, .inl (g.2.1 1, 100, .inl (bA mk)))]) (R := R) hW [0, 6, 1, 2, 3, 4, 5] 7 rfl (by decide) rfl
            have hW : gW g ((hj, .inr (0, [.ref hx, .ref js, .ref jc, .int f3])) :: (js, .inl (g.2.1 1, 100, .inl (bA (updB sec j false)))) :: (hx, .inr (1, [.ref jp, .int (nI sz)])) :: (jp, .inl (g.2.1 1, 225, .inl (bA Pj))) :: (hp, .inr (5, [.ref pk, .ref po, .ref pm, .int (nI n)])) :: (pk, .inl (g.2.1 0, 100, .inl (nA kd))) :: (pm, .inl (g.2.1 1, 100, .inl (bA mk))) :: R) _ := hW
            exact ih_12 (j + 1) cn (updB sec j false) (by omega) (fun i hi => (Nat.lt_succ_iff_lt_or_eq.mp hi).elim (fun q => (updB_n (Nat.ne_of_lt q)).trans (hs i q)) (fun q => by rw [q, updB_s, secS_1 (by omega), ← hs (j - 1) (by omega), c_34, c_45]; rfl)) (by rw [cntB, show secS (canJ n kd mk Pj ex) j = false from (by rw [secS_1 (by omega), ← hs (j - 1) (by omega), c_34, c_45]; rfl), hc]; rfl) (by omega) _ _ _ hW hS (lv_sub hl [1, 2, 3, 4, 0] rfl)
          · refine lv_iconst (v := nI 1) F.1 F.2.1 dX2_pairUp_48 rfl ?_
            refine lv_goto (tgt := 53) F.1 F.2.1 dX2_pairUp_49 (by decide) ?_
            refine gTop (y := bI true) rfl ?_
            refine gStZB (w2 := (hj, .inr (0, [.ref hx, .ref js, .ref jc, .int f3])) :: (hx, .inr (1, [.ref jp, .int (nI sz)])) :: (jp, .inl (g.2.1 1, 225, .inl (bA Pj))) :: (hp, .inr (5, [.ref pk, .ref po, .ref pm, .int (nI n)])) :: (pk, .inl (g.2.1 0, 100, .inl (nA kd))) :: (pm, .inl (g.2.1 1, 100, .inl (bA mk))) :: (js, .inl (g.2.1 1, 100, .inl (bA (updB sec j true)))) :: R) F hG hW 6 rfl (by omega) (by decide) hS rfl dX2_pairUp_53 (fun H locs hW hS => ?_)
            refine lv_aload_n F.1 F.2.1 dX2_pairUp_54 rfl (lv_at hl 0 rfl) ?_
            refine gGet F hG hW nX2_pairUp_X2 0 rfl rfl 1 (by decide) mX2_pairUp_1 rfl dX2_pairUp_55 ?_
            refine lv_iload F.1 F.2.1 dX2_pairUp_58 (lv_at hl 4 rfl) ?_
            refine gLdZ F hG hW 6 rfl (by omega) (by decide) dX2_pairUp_60 ?_
            refine gTop (y := bI ((updB sec j true) j)) rfl ?_
            refine gTop (y := bI true) (by rw [updB_s]) ?_
            refine gIfEqB (tgt := 67) F dX2_pairUp_61 (by decide) (fun q => by simp at q) (fun c_61 => ?_)
            refine lv_iinc (v := nI (cn + 1)) (lv' := [(3, .int (nI (cn + 1))), (0, .ref hj), (1, .ref hp), (2, .int (oI ex)), (4, .int (nI j))]) F.1 F.2.1 dX2_pairUp_64 hl (k := 3) rfl (nI_add cn 1) (by decide) rfl (fun ls hl => ?_)
            refine lv_iinc (v := nI (j + 1)) (lv' := [(4, .int (nI (j + 1))), (3, .int (nI (cn + 1))), (0, .ref hj), (1, .ref hp), (2, .int (oI ex))]) F.1 F.2.1 dX2_pairUp_67 hl (k := 4) rfl (nI_add j 1) (by decide) rfl (fun ls hl => ?_)
            refine lv_goto (tgt := 12) F.1 F.2.1 dX2_pairUp_70 (by decide) ?_
            have hW := gW.re (l := [(hj, .inr (0, [.ref hx, .ref js, .ref jc, .int f3])), (hx, .inr (1, [.ref jp, .int (nI sz)])), (jp, .inl (g.2.1 1, 225, .inl (bA Pj))), (hp, .inr (5, [.ref pk, .ref po, .ref pm, .int (nI n)])), (pk, .inl (g.2.1 0, 100, .inl (nA kd))), (pm, .inl (g.2.1 1, 100, .inl (bA mk))), (js, .inl (g.2.1 1, 100, .inl (bA (updB sec j true))))]) (l' := [(hj, .inr (0, [.ref hx, .ref js, .ref jc, .int f3])), (js, .inl (g.2.1 1, 100, .inl (bA (updB sec j true)))), (hx, .inr (1, [.ref jp, .int (nI sz)])), (jp, .inl (g.2.1 1, 225, .inl (bA Pj))), (hp, .inr (5, [.ref pk, .ref po, .ref pm, .int (nI n)])), (pk, .inl (g.2.1 0, 100, .inl (nA kd))), (pm, .inl (g.2.1 1, 100, .inl (bA mk)))]) (R := R) hW [0, 6, 1, 2, 3, 4, 5] 7 rfl (by decide) rfl
            have hW : gW g ((hj, .inr (0, [.ref hx, .ref js, .ref jc, .int f3])) :: (js, .inl (g.2.1 1, 100, .inl (bA (updB sec j true)))) :: (hx, .inr (1, [.ref jp, .int (nI sz)])) :: (jp, .inl (g.2.1 1, 225, .inl (bA Pj))) :: (hp, .inr (5, [.ref pk, .ref po, .ref pm, .int (nI n)])) :: (pk, .inl (g.2.1 0, 100, .inl (nA kd))) :: (pm, .inl (g.2.1 1, 100, .inl (bA mk))) :: R) _ := hW
            exact ih_12 (j + 1) (cn + 1) (updB sec j true) (by omega) (fun i hi => (Nat.lt_succ_iff_lt_or_eq.mp hi).elim (fun q => (updB_n (Nat.ne_of_lt q)).trans (hs i q)) (fun q => by rw [q, updB_s, secS_1 (by omega), ← hs (j - 1) (by omega), c_34, c_45]; rfl)) (by rw [cntB, show secS (canJ n kd mk Pj ex) j = true from (by rw [secS_1 (by omega), ← hs (j - 1) (by omega), c_34, c_45]; rfl), hc]; rfl) (by omega) _ _ _ hW hS (lv_sub hl [2, 3, 4, 1, 0] rfl)
  exact L_12 _ 1 0 (updB sec 0 false) (by omega) (fun i hi => by rw [show i = 0 by omega, updB_s]; rfl) rfl (Nat.lt_succ_self _) _ _ _ hW hS (lv_sub hl [2, 3, 4, 1, 0] rfl)

abbrev rm_X2_savedWith : Room := ({ frames := 4, cells := 0, slots := 0, locals := 91 } : Room)
theorem mX2_savedWith_1 : Cond.fieldLink RX2 9 "StepperHearts$JoinedHeart" "isSecond" "[Z" ∈ wsX2_savedWith := List.mem_of_getElem? (i := 1) rfl
theorem nX2_savedWith_X2 : ∀ w ∈ wsX20, w ∈ wsX2_savedWith := fun _ h => List.mem_cons_of_mem _ (List.mem_append_left _ (List.mem_append_left _ (List.mem_append_right _ (h))))
theorem mX2_savedWith_2 : Cond.fieldLink RX2 15 "StepperHearts$JoinedHeart" "cameOver" "[I" ∈ wsX2_savedWith := List.mem_of_getElem? (i := 2) rfl
set_option maxRecDepth 100000 in
set_option maxHeartbeats 4000000 in
theorem c_X2_savedWith (g : gC) (l : Launch) {hj : Nat} {hx : Nat} {js : Nat} {jc : Nat} {jp : Nat} {sec : Nat → Bool} {co : Nat → Nat} {Pj : Nat → Bool} {sz : Nat} {f3 : Int32} {hp : Nat} {pk : Nat} {po : Nat} {pm : Nat} {n : Nat} {kd : Nat → Nat} {mk : Nat → Bool} {ex : Option Nat} {R : va_W} (hn : n ≤ 100) (hK : ∀ i, i < n → kd i < 15) (hx1 : ∀ q, ex = some q → q < 2 ^ 31) : cI g l yX2_savedWith wsX2_savedWith rm_X2_savedWith 0 0 [.ref hj, .ref hp, .int (oI ex)] ((hj, .inr (0, [.ref hx, .ref js, .ref jc, .int f3])) :: (js, .inl (g.2.1 1, 100, .inl (bA sec))) :: (hx, .inr (1, [.ref jp, .int (nI sz)])) :: (jp, .inl (g.2.1 1, 225, .inl (bA Pj))) :: (hp, .inr (5, [.ref pk, .ref po, .ref pm, .int (nI n)])) :: (pk, .inl (g.2.1 0, 100, .inl (nA kd))) :: (pm, .inl (g.2.1 1, 100, .inl (bA mk))) :: (jc, .inl (g.2.1 0, 100, .inl (nA co))) :: R) (fun r u => (nI (sumB (secS (canJ n kd mk Pj ex)) co 100 * 4)) = r ∧ (hj, .inr (0, [.ref hx, .ref js, .ref jc, .int f3])) :: (js, .inl (g.2.1 1, 100, .inl (bA (secS (canJ n kd mk Pj ex))))) :: (hx, .inr (1, [.ref jp, .int (nI sz)])) :: (jp, .inl (g.2.1 1, 225, .inl (bA Pj))) :: (hp, .inr (5, [.ref pk, .ref po, .ref pm, .int (nI n)])) :: (pk, .inl (g.2.1 0, 100, .inl (nA kd))) :: (pm, .inl (g.2.1 1, 100, .inl (bA mk))) :: (jc, .inl (g.2.1 0, 100, .inl (nA co))) :: R = u) := by
  refine gEnterQ (cc := cX2_savedWith) (maxL := 5) (ret := (some (.int))) (by decide +kernel) rfl (Nat.le_of_ble_eq_true rfl) ?_
  intro p e s m below meth c F hG hW ls hl
  have hS : va_S (gA g) s.heap s.heap [] := va_S.rf
  have hl : lv_has ls 5 [(0, .ref hj), (1, .ref hp), (2, .int (oI ex))] := hl
  have hW : gW g ((hj, .inr (0, [.ref hx, .ref js, .ref jc, .int f3])) :: (js, .inl (g.2.1 1, 100, .inl (bA sec))) :: (hx, .inr (1, [.ref jp, .int (nI sz)])) :: (jp, .inl (g.2.1 1, 225, .inl (bA Pj))) :: (hp, .inr (5, [.ref pk, .ref po, .ref pm, .int (nI n)])) :: (pk, .inl (g.2.1 0, 100, .inl (nA kd))) :: (pm, .inl (g.2.1 1, 100, .inl (bA mk))) :: (jc, .inl (g.2.1 0, 100, .inl (nA co))) :: R) s.heap := hW
  refine lv_aload_n F.1 F.2.1 dX2_savedWith_0 rfl (lv_at hl 0 rfl) ?_
  refine lv_aload_n F.1 F.2.1 dX2_savedWith_1 rfl (lv_at hl 1 rfl) ?_
  refine lv_iload_n F.1 F.2.1 dX2_savedWith_2 rfl (lv_at hl 2 rfl) ?_
  refine gVi (n := 2) (q := (RX2, TX2, 4)) (q0 := 0) (As := [.ref hp, .int (oI ex)]) F hG hS hW (c_X2_pairUp g l  (by omega) hK hx1) rfl gX2_savedWith_X2_pairUp rfl rfl rfl (by decide +kernel) ⟨rfl, rfl, Nat.le_of_ble_eq_true rfl, Nat.le_of_ble_eq_true rfl⟩ hl.1 (Nat.le_of_ble_eq_true rfl) ⟨Nat.le_of_ble_eq_true rfl, Nat.le_of_ble_eq_true rfl⟩ rfl rfl dX2_savedWith_3 (fun r u H locs hq hW hS => ?_)
  obtain ⟨rfl, rfl⟩ := hq
  have hW : gW g ((hj, .inr (0, [.ref hx, .ref js, .ref jc, .int f3])) :: (js, .inl (g.2.1 1, 100, .inl (bA (secS (canJ n kd mk Pj ex))))) :: (hx, .inr (1, [.ref jp, .int (nI sz)])) :: (jp, .inl (g.2.1 1, 225, .inl (bA Pj))) :: (hp, .inr (5, [.ref pk, .ref po, .ref pm, .int (nI n)])) :: (pk, .inl (g.2.1 0, 100, .inl (nA kd))) :: (pm, .inl (g.2.1 1, 100, .inl (bA mk))) :: (jc, .inl (g.2.1 0, 100, .inl (nA co))) :: R) _ := hW
  refine lv_pop F.1 F.2.1 dX2_savedWith_6 rfl ?_
  refine lv_iconst (v := nI 0) F.1 F.2.1 dX2_savedWith_7 rfl ?_
  refine lv_istore_n (lv' := [(3, .int (nI 0)), (0, .ref hj), (1, .ref hp), (2, .int (oI ex))]) F.1 F.2.1 dX2_savedWith_8 rfl hl (by decide) rfl (fun ls hl => ?_)
  refine lv_iconst (v := nI 0) F.1 F.2.1 dX2_savedWith_9 rfl ?_
  refine lv_istore (lv' := [(4, .int (nI 0)), (3, .int (nI 0)), (0, .ref hj), (1, .ref hp), (2, .int (oI ex))]) F.1 F.2.1 dX2_savedWith_10 hl (by decide) rfl (fun ls hl => ?_)
  have L_12 : ∀ (fu : Nat), ∀ (j : Nat) (cn : Nat) (hjj : j ≤ 100) (hc : cn = sumB (secS (canJ n kd mk Pj ex)) co j) (hm_12 : 100 - j < fu) (H : Heap) (locs : List Loc) (ls : Array Slot) (hW : gW g ((hj, .inr (0, [.ref hx, .ref js, .ref jc, .int f3])) :: (js, .inl (g.2.1 1, 100, .inl (bA (secS (canJ n kd mk Pj ex))))) :: (hx, .inr (1, [.ref jp, .int (nI sz)])) :: (jp, .inl (g.2.1 1, 225, .inl (bA Pj))) :: (hp, .inr (5, [.ref pk, .ref po, .ref pm, .int (nI n)])) :: (pk, .inl (g.2.1 0, 100, .inl (nA kd))) :: (pm, .inl (g.2.1 1, 100, .inl (bA mk))) :: (jc, .inl (g.2.1 0, 100, .inl (nA co))) :: R) H) (hS : va_S (gA g) s.heap H locs) (hl : lv_has ls 5 [(0, .ref hj), (1, .ref hp), (2, .int (oI ex)), (3, .int (nI cn)), (4, .int (nI j))]), W p l e (headSpec wsX2_savedWith rm_X2_savedWith).room s m ([.ref hj, .ref hp, .int (oI ex)] : List Value).toArray below meth c H locs 0 0 (MQ below (va_Qi (fun r u => (nI (sumB (secS (canJ n kd mk Pj ex)) co 100 * 4)) = r ∧ (hj, .inr (0, [.ref hx, .ref js, .ref jc, .int f3])) :: (js, .inl (g.2.1 1, 100, .inl (bA (secS (canJ n kd mk Pj ex))))) :: (hx, .inr (1, [.ref jp, .int (nI sz)])) :: (jp, .inl (g.2.1 1, 225, .inl (bA Pj))) :: (hp, .inr (5, [.ref pk, .ref po, .ref pm, .int (nI n)])) :: (pk, .inl (g.2.1 0, 100, .inl (nA kd))) :: (pm, .inl (g.2.1 1, 100, .inl (bA mk))) :: (jc, .inl (g.2.1 0, 100, .inl (nA co))) :: R = u) (fun u t => gW g u t.heap) (gA g)) ([.ref hj, .ref hp, .int (oI ex)] : List Value).toArray s 0 0 (gA g)) (F0 m 12 ls []) := by
    intro fu
    induction fu with
    | zero =>
      intros _ _ _ _ hm_12
      exact absurd hm_12 (Nat.not_lt_zero _)
    | succ fu ih_12 =>
      intro j cn hjj hc hm_12 H locs ls hW hS hl
      refine lv_iload F.1 F.2.1 dX2_savedWith_12 (lv_at hl 4 rfl) ?_
      refine lv_bipush (v := nI 100) F.1 F.2.1 dX2_savedWith_14 (by decide) ?_
      refine gGe (tgt := 45) F (by omega) (by omega) dX2_savedWith_16 (by decide) (fun c_16 => ?_) (fun c_16 => ?_)
      · refine lv_iload_n F.1 F.2.1 dX2_savedWith_45 rfl (lv_at hl 3 rfl) ?_
        refine lv_iconst (v := nI 4) F.1 F.2.1 dX2_savedWith_46 rfl ?_
        refine gMul F dX2_savedWith_47 ?_
        refine gRi F hW hS dX2_savedWith_48 ?_
        exact ⟨by rw [hc, show j = 100 by omega], rfl⟩
      · refine lv_aload_n F.1 F.2.1 dX2_savedWith_19 rfl (lv_at hl 0 rfl) ?_
        refine gGet F hG hW nX2_savedWith_X2 0 rfl rfl 1 (by decide) mX2_savedWith_1 rfl dX2_savedWith_20 ?_
        refine lv_iload F.1 F.2.1 dX2_savedWith_23 (lv_at hl 4 rfl) ?_
        refine gLdZ F hG hW 1 rfl (by omega) (by decide) dX2_savedWith_25 ?_
        refine gTop (y := bI ((secS (canJ n kd mk Pj ex)) j)) rfl ?_
        refine gIfEqB (tgt := 39) F dX2_savedWith_26 (by decide) (fun c_26 => ?_) (fun c_26 => ?_)
        · refine lv_iinc (v := nI (j + 1)) (lv' := [(4, .int (nI (j + 1))), (0, .ref hj), (1, .ref hp), (2, .int (oI ex)), (3, .int (nI cn))]) F.1 F.2.1 dX2_savedWith_39 hl (k := 4) rfl (nI_add j 1) (by decide) rfl (fun ls hl => ?_)
          refine lv_goto (tgt := 12) F.1 F.2.1 dX2_savedWith_42 (by decide) ?_
          exact ih_12 (j + 1) cn (by omega) (by rw [sumB, c_26, hc]; rfl) (by omega) _ _ _ hW hS (lv_sub hl [1, 2, 3, 4, 0] rfl)
        · refine lv_iload_n F.1 F.2.1 dX2_savedWith_29 rfl (lv_at hl 3 rfl) ?_
          refine lv_aload_n F.1 F.2.1 dX2_savedWith_30 rfl (lv_at hl 0 rfl) ?_
          refine gGet F hG hW nX2_savedWith_X2 0 rfl rfl 2 (by decide) mX2_savedWith_2 rfl dX2_savedWith_31 ?_
          refine lv_iload F.1 F.2.1 dX2_savedWith_34 (lv_at hl 4 rfl) ?_
          refine gLdI F hG hW 7 rfl (by omega) (by decide) dX2_savedWith_36 ?_
          refine gTop (y := nI (co j)) rfl ?_
          refine gAdd F dX2_savedWith_37 ?_
          refine lv_istore_n (lv' := [(3, .int (nI (cn + (co j)))), (0, .ref hj), (1, .ref hp), (2, .int (oI ex)), (4, .int (nI j))]) F.1 F.2.1 dX2_savedWith_38 rfl hl (by decide) rfl (fun ls hl => ?_)
          refine lv_iinc (v := nI (j + 1)) (lv' := [(4, .int (nI (j + 1))), (3, .int (nI (cn + (co j)))), (0, .ref hj), (1, .ref hp), (2, .int (oI ex))]) F.1 F.2.1 dX2_savedWith_39 hl (k := 4) rfl (nI_add j 1) (by decide) rfl (fun ls hl => ?_)
          refine lv_goto (tgt := 12) F.1 F.2.1 dX2_savedWith_42 (by decide) ?_
          exact ih_12 (j + 1) (cn + (co j)) (by omega) (by rw [sumB, c_26, hc]; rfl) (by omega) _ _ _ hW hS (lv_sub hl [2, 3, 4, 1, 0] rfl)
  exact L_12 _ 0 0 (by omega) rfl (Nat.lt_succ_self _) _ _ _ hW hS (lv_sub hl [2, 3, 4, 1, 0] rfl)

abbrev rm_X2_begin : Room := ({ frames := 4, cells := 0, slots := 0, locals := 91 } : Room)
theorem mX2_begin_1 : Cond.fieldLink RX2 15 "StepperHearts$JoinedHeart" "cameOver" "[I" ∈ wsX2_begin := List.mem_of_getElem? (i := 1) rfl
theorem nX2_begin_X2 : ∀ w ∈ wsX20, w ∈ wsX2_begin := fun _ h => List.mem_cons_of_mem _ (List.mem_append_left _ (List.mem_append_left _ (List.mem_append_right _ (h))))
theorem mX2_begin_2 : Cond.fieldLink RX2 19 "StepperHearts$JoinedHeart" "formerPlace" "I" ∈ wsX2_begin := List.mem_of_getElem? (i := 2) rfl
set_option maxRecDepth 100000 in
set_option maxHeartbeats 4000000 in
theorem c_X2_begin (g : gC) (l : Launch) {hj : Nat} {hx : Nat} {js : Nat} {jc : Nat} {jp : Nat} {sec : Nat → Bool} {co : Nat → Nat} {Pj : Nat → Bool} {sz : Nat} {f3 : Int32} {hp : Nat} {pk : Nat} {po : Nat} {pm : Nat} {n : Nat} {kd : Nat → Nat} {mk : Nat → Bool} {R : va_W} (hn : n ≤ 100) (hK : ∀ i, i < n → kd i < 15) : cV g l yX2_begin wsX2_begin rm_X2_begin 0 0 [.ref hj, .ref hp] ((hj, .inr (0, [.ref hx, .ref js, .ref jc, .int f3])) :: (js, .inl (g.2.1 1, 100, .inl (bA sec))) :: (hx, .inr (1, [.ref jp, .int (nI sz)])) :: (jp, .inl (g.2.1 1, 225, .inl (bA Pj))) :: (hp, .inr (5, [.ref pk, .ref po, .ref pm, .int (nI n)])) :: (pk, .inl (g.2.1 0, 100, .inl (nA kd))) :: (pm, .inl (g.2.1 1, 100, .inl (bA mk))) :: (jc, .inl (g.2.1 0, 100, .inl (nA co))) :: R) (fun u => (hj, .inr (0, [.ref hx, .ref js, .ref jc, .int (-1)])) :: (js, .inl (g.2.1 1, 100, .inl (bA (secS (canJ n kd mk Pj none))))) :: (hx, .inr (1, [.ref jp, .int (nI sz)])) :: (jp, .inl (g.2.1 1, 225, .inl (bA Pj))) :: (hp, .inr (5, [.ref pk, .ref po, .ref pm, .int (nI n)])) :: (pk, .inl (g.2.1 0, 100, .inl (nA kd))) :: (pm, .inl (g.2.1 1, 100, .inl (bA mk))) :: (jc, .inl (g.2.1 0, 100, .inl (nA (fun _ => 0)))) :: R = u) := by
  refine gEnterQ (cc := cX2_begin) (maxL := 2) (ret := none) (by decide +kernel) rfl (Nat.le_of_ble_eq_true rfl) ?_
  intro p e s m below meth c F hG hW ls hl
  have hS : va_S (gA g) s.heap s.heap [] := va_S.rf
  have hl : lv_has ls 2 [(0, .ref hj), (1, .ref hp)] := hl
  have hW : gW g ((hj, .inr (0, [.ref hx, .ref js, .ref jc, .int f3])) :: (js, .inl (g.2.1 1, 100, .inl (bA sec))) :: (hx, .inr (1, [.ref jp, .int (nI sz)])) :: (jp, .inl (g.2.1 1, 225, .inl (bA Pj))) :: (hp, .inr (5, [.ref pk, .ref po, .ref pm, .int (nI n)])) :: (pk, .inl (g.2.1 0, 100, .inl (nA kd))) :: (pm, .inl (g.2.1 1, 100, .inl (bA mk))) :: (jc, .inl (g.2.1 0, 100, .inl (nA co))) :: R) s.heap := hW
  refine lv_aload_n F.1 F.2.1 dX2_begin_0 rfl (lv_at hl 0 rfl) ?_
  refine lv_aload_n F.1 F.2.1 dX2_begin_1 rfl (lv_at hl 1 rfl) ?_
  refine lv_iconst (v := -1) F.1 F.2.1 dX2_begin_2 rfl ?_
  refine gVi (n := 2) (q := (RX2, TX2, 4)) (q0 := 0) (As := [.ref hp, .int (-1)]) F hG hS hW (c_X2_pairUp g l (ex := none) (by omega) hK (fun q h => by cases h)) rfl gX2_begin_X2_pairUp rfl rfl rfl (by decide +kernel) ⟨rfl, rfl, Nat.le_of_ble_eq_true rfl, Nat.le_of_ble_eq_true rfl⟩ hl.1 (Nat.le_of_ble_eq_true rfl) ⟨Nat.le_of_ble_eq_true rfl, Nat.le_of_ble_eq_true rfl⟩ rfl rfl dX2_begin_3 (fun r u H locs hq hW hS => ?_)
  obtain ⟨rfl, rfl⟩ := hq
  have hW : gW g ((hj, .inr (0, [.ref hx, .ref js, .ref jc, .int f3])) :: (js, .inl (g.2.1 1, 100, .inl (bA (secS (canJ n kd mk Pj none))))) :: (hx, .inr (1, [.ref jp, .int (nI sz)])) :: (jp, .inl (g.2.1 1, 225, .inl (bA Pj))) :: (hp, .inr (5, [.ref pk, .ref po, .ref pm, .int (nI n)])) :: (pk, .inl (g.2.1 0, 100, .inl (nA kd))) :: (pm, .inl (g.2.1 1, 100, .inl (bA mk))) :: (jc, .inl (g.2.1 0, 100, .inl (nA co))) :: R) _ := hW
  refine lv_pop F.1 F.2.1 dX2_begin_6 rfl ?_
  refine lv_aload_n F.1 F.2.1 dX2_begin_7 rfl (lv_at hl 0 rfl) ?_
  refine gGet F hG hW nX2_begin_X2 0 rfl rfl 2 (by decide) mX2_begin_1 rfl dX2_begin_8 ?_
  refine lv_iconst (v := nI 0) F.1 F.2.1 dX2_begin_11 rfl ?_
  have hW := gW.re (l := [(hj, .inr (0, [.ref hx, .ref js, .ref jc, .int f3])), (js, .inl (g.2.1 1, 100, .inl (bA (secS (canJ n kd mk Pj none))))), (hx, .inr (1, [.ref jp, .int (nI sz)])), (jp, .inl (g.2.1 1, 225, .inl (bA Pj))), (hp, .inr (5, [.ref pk, .ref po, .ref pm, .int (nI n)])), (pk, .inl (g.2.1 0, 100, .inl (nA kd))), (pm, .inl (g.2.1 1, 100, .inl (bA mk))), (jc, .inl (g.2.1 0, 100, .inl (nA co)))]) (l' := [(jc, .inl (g.2.1 0, 100, .inl (nA co))), (hj, .inr (0, [.ref hx, .ref js, .ref jc, .int f3])), (js, .inl (g.2.1 1, 100, .inl (bA (secS (canJ n kd mk Pj none))))), (hx, .inr (1, [.ref jp, .int (nI sz)])), (jp, .inl (g.2.1 1, 225, .inl (bA Pj))), (hp, .inr (5, [.ref pk, .ref po, .ref pm, .int (nI n)])), (pk, .inl (g.2.1 0, 100, .inl (nA kd))), (pm, .inl (g.2.1 1, 100, .inl (bA mk)))]) (R := R) hW [7, 0, 1, 2, 3, 4, 5, 6] 8 rfl (by decide) rfl
  have hW : gW g ((jc, .inl (g.2.1 0, 100, .inl (nA co))) :: (hj, .inr (0, [.ref hx, .ref js, .ref jc, .int f3])) :: (js, .inl (g.2.1 1, 100, .inl (bA (secS (canJ n kd mk Pj none))))) :: (hx, .inr (1, [.ref jp, .int (nI sz)])) :: (jp, .inl (g.2.1 1, 225, .inl (bA Pj))) :: (hp, .inr (5, [.ref pk, .ref po, .ref pm, .int (nI n)])) :: (pk, .inl (g.2.1 0, 100, .inl (nA kd))) :: (pm, .inl (g.2.1 1, 100, .inl (bA mk))) :: R) _ := hW
  refine gS_v (n := 2) (As := [.ref jc, .int (nI 0)]) F hG hS hW (c_J7_fill_53178_n g l  (by omega)) rfl gX2_begin_J7_fill_53178 (by decide +kernel) ⟨rfl, rfl, Nat.le_of_ble_eq_true rfl, Nat.le_of_ble_eq_true rfl⟩ hl.1 (Nat.le_of_ble_eq_true rfl) ⟨Nat.le_of_ble_eq_true rfl, Nat.le_of_ble_eq_true rfl⟩ rfl rfl dX2_begin_12 (fun u H locs hq hW hS => ?_)
  obtain rfl := hq
  have hW : gW g ((jc, .inl (g.2.1 0, 100, .inl (nA (fun _ => 0)))) :: (hj, .inr (0, [.ref hx, .ref js, .ref jc, .int f3])) :: (js, .inl (g.2.1 1, 100, .inl (bA (secS (canJ n kd mk Pj none))))) :: (hx, .inr (1, [.ref jp, .int (nI sz)])) :: (jp, .inl (g.2.1 1, 225, .inl (bA Pj))) :: (hp, .inr (5, [.ref pk, .ref po, .ref pm, .int (nI n)])) :: (pk, .inl (g.2.1 0, 100, .inl (nA kd))) :: (pm, .inl (g.2.1 1, 100, .inl (bA mk))) :: R) _ := hW
  refine lv_aload_n F.1 F.2.1 dX2_begin_15 rfl (lv_at hl 0 rfl) ?_
  refine lv_iconst (v := -1) F.1 F.2.1 dX2_begin_16 rfl ?_
  refine gPut (w2 := (jc, .inl (g.2.1 0, 100, .inl (nA (fun _ => 0)))) :: (hj, .inr (0, [.ref hx, .ref js, .ref jc, .int (-1)])) :: (js, .inl (g.2.1 1, 100, .inl (bA (secS (canJ n kd mk Pj none))))) :: (hx, .inr (1, [.ref jp, .int (nI sz)])) :: (jp, .inl (g.2.1 1, 225, .inl (bA Pj))) :: (hp, .inr (5, [.ref pk, .ref po, .ref pm, .int (nI n)])) :: (pk, .inl (g.2.1 0, 100, .inl (nA kd))) :: (pm, .inl (g.2.1 1, 100, .inl (bA mk))) :: R) F hS hG hW nX2_begin_X2 1 rfl rfl 3 (by decide) tyX2 tyX2_ok nmX2 mX2_begin_2 rfl rfl rfl rfl (Nat.le_of_ble_eq_true rfl) rfl dX2_begin_17 (fun H locs hW hS => ?_)
  have hW := gW.re (l := [(jc, .inl (g.2.1 0, 100, .inl (nA (fun _ => 0)))), (hj, .inr (0, [.ref hx, .ref js, .ref jc, .int (-1)])), (js, .inl (g.2.1 1, 100, .inl (bA (secS (canJ n kd mk Pj none))))), (hx, .inr (1, [.ref jp, .int (nI sz)])), (jp, .inl (g.2.1 1, 225, .inl (bA Pj))), (hp, .inr (5, [.ref pk, .ref po, .ref pm, .int (nI n)])), (pk, .inl (g.2.1 0, 100, .inl (nA kd))), (pm, .inl (g.2.1 1, 100, .inl (bA mk)))]) (l' := [(hj, .inr (0, [.ref hx, .ref js, .ref jc, .int (-1)])), (js, .inl (g.2.1 1, 100, .inl (bA (secS (canJ n kd mk Pj none))))), (hx, .inr (1, [.ref jp, .int (nI sz)])), (jp, .inl (g.2.1 1, 225, .inl (bA Pj))), (hp, .inr (5, [.ref pk, .ref po, .ref pm, .int (nI n)])), (pk, .inl (g.2.1 0, 100, .inl (nA kd))), (pm, .inl (g.2.1 1, 100, .inl (bA mk))), (jc, .inl (g.2.1 0, 100, .inl (nA (fun _ => 0))))]) (R := R) hW [1, 2, 3, 4, 5, 6, 7, 0] 8 rfl (by decide) rfl
  have hW : gW g ((hj, .inr (0, [.ref hx, .ref js, .ref jc, .int (-1)])) :: (js, .inl (g.2.1 1, 100, .inl (bA (secS (canJ n kd mk Pj none))))) :: (hx, .inr (1, [.ref jp, .int (nI sz)])) :: (jp, .inl (g.2.1 1, 225, .inl (bA Pj))) :: (hp, .inr (5, [.ref pk, .ref po, .ref pm, .int (nI n)])) :: (pk, .inl (g.2.1 0, 100, .inl (nA kd))) :: (pm, .inl (g.2.1 1, 100, .inl (bA mk))) :: (jc, .inl (g.2.1 0, 100, .inl (nA (fun _ => 0)))) :: R) _ := hW
  refine gRv F hW hS dX2_begin_20 ?_
  exact rfl

abbrev rm_X2_price : Room := ({ frames := 0, cells := 0, slots := 0, locals := 0 } : Room)
theorem mX2_price_1 : Cond.fieldLink RX2 19 "StepperHearts$JoinedHeart" "formerPlace" "I" ∈ wsX2_price := List.mem_of_getElem? (i := 1) rfl
theorem nX2_price_X2 : ∀ w ∈ wsX20, w ∈ wsX2_price := fun _ h => List.mem_cons_of_mem _ (List.mem_append_right _ (h))
theorem mX2_price_2 : Cond.fieldLink RX2 15 "StepperHearts$JoinedHeart" "cameOver" "[I" ∈ wsX2_price := List.mem_of_getElem? (i := 2) rfl
theorem mX2_price_3 : Cond.fieldLink RX2 9 "StepperHearts$JoinedHeart" "isSecond" "[Z" ∈ wsX2_price := List.mem_of_getElem? (i := 3) rfl
set_option maxRecDepth 100000 in
set_option maxHeartbeats 4000000 in
theorem c_X2_price (g : gC) (l : Launch) {hj : Nat} {hx : Nat} {js : Nat} {jc : Nat} {pl : Nat} {k : Nat} {fp : Option Nat} {sec : Nat → Bool} {co : Nat → Nat} {la : Int32} {R : va_W} (hp : pl < 100) (hf : ∀ q, fp = some q → q < 100) : cI g l yX2_price wsX2_price rm_X2_price 0 0 [.ref hj, .int (nI pl), .ref (g.2.2.2 k), .int la] ((hj, .inr (0, [.ref hx, .ref js, .ref jc, .int (oI fp)])) :: (js, .inl (g.2.1 1, 100, .inl (bA sec))) :: (jc, .inl (g.2.1 0, 100, .inl (nA co))) :: R) (fun r u => (nI (jPr sec fp pl)) = r ∧ (hj, .inr (0, [.ref hx, .ref js, .ref jc, .int (oI (some pl))])) :: (js, .inl (g.2.1 1, 100, .inl (bA sec))) :: (jc, .inl (g.2.1 0, 100, .inl (nA (jCo co fp pl)))) :: R = u) := by
  refine gEnterQ (cc := cX2_price) (maxL := 5) (ret := (some (.int))) (by decide +kernel) rfl (Nat.le_of_ble_eq_true rfl) ?_
  intro p e s m below meth c F hG hW ls hl
  have hS : va_S (gA g) s.heap s.heap [] := va_S.rf
  have hl : lv_has ls 5 [(0, .ref hj), (1, .int (nI pl)), (2, .ref (g.2.2.2 k)), (3, .int la)] := hl
  have hW : gW g ((hj, .inr (0, [.ref hx, .ref js, .ref jc, .int (oI fp)])) :: (js, .inl (g.2.1 1, 100, .inl (bA sec))) :: (jc, .inl (g.2.1 0, 100, .inl (nA co))) :: R) s.heap := hW
  rcases fp with _ | q
  · have hl : lv_has ls 5 [(0, .ref hj), (1, .int (nI pl)), (2, .ref (g.2.2.2 k)), (3, .int la)] := hl
    have hW : gW g ((hj, .inr (0, [.ref hx, .ref js, .ref jc, .int (-1)])) :: (js, .inl (g.2.1 1, 100, .inl (bA sec))) :: (jc, .inl (g.2.1 0, 100, .inl (nA co))) :: R) s.heap := hW
    refine lv_aload_n F.1 F.2.1 dX2_price_0 rfl (lv_at hl 0 rfl) ?_
    refine gGet F hG hW nX2_price_X2 0 rfl rfl 3 (by decide) mX2_price_1 rfl dX2_price_1 ?_
    refine lv_iconst (v := -1) F.1 F.2.1 dX2_price_4 rfl ?_
    refine lv_icmp_eq (tgt := 22) F.1 F.2.1 dX2_price_5 (by decide) (fun c_5 => ?_) (fun z => absurd rfl z)
    refine lv_iconst (v := nI 0) F.1 F.2.1 dX2_price_22 rfl ?_
    refine lv_istore (lv' := [(4, .int (nI 0)), (0, .ref hj), (1, .int (nI pl)), (2, .ref (g.2.2.2 k)), (3, .int la)]) F.1 F.2.1 dX2_price_23 hl (by decide) rfl (fun ls hl => ?_)
    refine lv_aload_n F.1 F.2.1 dX2_price_25 rfl (lv_at hl 1 rfl) ?_
    refine lv_iload_n F.1 F.2.1 dX2_price_26 rfl (lv_at hl 2 rfl) ?_
    refine gPut (w2 := (hj, .inr (0, [.ref hx, .ref js, .ref jc, .int (nI pl)])) :: (js, .inl (g.2.1 1, 100, .inl (bA sec))) :: (jc, .inl (g.2.1 0, 100, .inl (nA co))) :: R) F hS hG hW nX2_price_X2 0 rfl rfl 3 (by decide) tyX2 tyX2_ok nmX2 mX2_price_1 rfl rfl rfl rfl (Nat.le_of_ble_eq_true rfl) rfl dX2_price_27 (fun H locs hW hS => ?_)
    refine lv_iload F.1 F.2.1 dX2_price_30 (lv_at hl 0 rfl) ?_
    refine gIfEq (tgt := 45) F (by decide) dX2_price_32 (by decide) (fun c_32 => ?_) (fun c_32 => by exfalso; omega)
    refine lv_iconst (v := nI 4) F.1 F.2.1 dX2_price_45 rfl ?_
    refine gRi F hW hS dX2_price_46 ?_
    exact ⟨by rw [jPr, show cfnS none pl = false from rfl]; rfl, by rw [jCo, show cfnS none pl = false from rfl]; rfl⟩
  · have hq : q < 100 := hf q rfl
    have hl : lv_has ls 5 [(0, .ref hj), (1, .int (nI pl)), (2, .ref (g.2.2.2 k)), (3, .int la)] := hl
    have hW : gW g ((hj, .inr (0, [.ref hx, .ref js, .ref jc, .int (nI q)])) :: (js, .inl (g.2.1 1, 100, .inl (bA sec))) :: (jc, .inl (g.2.1 0, 100, .inl (nA co))) :: R) s.heap := hW
    refine lv_aload_n F.1 F.2.1 dX2_price_0 rfl (lv_at hl 0 rfl) ?_
    refine gGet F hG hW nX2_price_X2 0 rfl rfl 3 (by decide) mX2_price_1 rfl dX2_price_1 ?_
    refine lv_iconst (v := -1) F.1 F.2.1 dX2_price_4 rfl ?_
    refine lv_icmp_eq (tgt := 22) F.1 F.2.1 dX2_price_5 (by decide) (fun z => absurd z (nI_n1 (by omega))) (fun c_5 => ?_)
    refine lv_aload_n F.1 F.2.1 dX2_price_8 rfl (lv_at hl 0 rfl) ?_
    refine gGet F hG hW nX2_price_X2 0 rfl rfl 3 (by decide) mX2_price_1 rfl dX2_price_9 ?_
    refine lv_iload_n F.1 F.2.1 dX2_price_12 rfl (lv_at hl 1 rfl) ?_
    refine lv_iconst (v := nI 1) F.1 F.2.1 dX2_price_13 rfl ?_
    refine lv_isub F.1 F.2.1 dX2_price_14 ?_
    refine lv_icmp_ne (tgt := 22) F.1 F.2.1 dX2_price_15 (by decide) (fun c_15 => ?_) (fun c_15 => ?_)
    · refine lv_iconst (v := nI 0) F.1 F.2.1 dX2_price_22 rfl ?_
      refine lv_istore (lv' := [(4, .int (nI 0)), (0, .ref hj), (1, .int (nI pl)), (2, .ref (g.2.2.2 k)), (3, .int la)]) F.1 F.2.1 dX2_price_23 hl (by decide) rfl (fun ls hl => ?_)
      refine lv_aload_n F.1 F.2.1 dX2_price_25 rfl (lv_at hl 1 rfl) ?_
      refine lv_iload_n F.1 F.2.1 dX2_price_26 rfl (lv_at hl 2 rfl) ?_
      refine gPut (w2 := (hj, .inr (0, [.ref hx, .ref js, .ref jc, .int (nI pl)])) :: (js, .inl (g.2.1 1, 100, .inl (bA sec))) :: (jc, .inl (g.2.1 0, 100, .inl (nA co))) :: R) F hS hG hW nX2_price_X2 0 rfl rfl 3 (by decide) tyX2 tyX2_ok nmX2 mX2_price_1 rfl rfl rfl rfl (Nat.le_of_ble_eq_true rfl) rfl dX2_price_27 (fun H locs hW hS => ?_)
      refine lv_iload F.1 F.2.1 dX2_price_30 (lv_at hl 0 rfl) ?_
      refine gIfEq (tgt := 45) F (by decide) dX2_price_32 (by decide) (fun c_32 => ?_) (fun c_32 => by exfalso; omega)
      refine lv_iconst (v := nI 4) F.1 F.2.1 dX2_price_45 rfl ?_
      refine gRi F hW hS dX2_price_46 ?_
      exact ⟨by rw [jPr, show cfnS (some q) pl = false from decide_eq_false (fun z => c_15 ((nI_p1 (by omega) (by omega)).mpr z))]; rfl, by rw [jCo, show cfnS (some q) pl = false from decide_eq_false (fun z => c_15 ((nI_p1 (by omega) (by omega)).mpr z))]; rfl⟩
    · refine lv_iconst (v := nI 1) F.1 F.2.1 dX2_price_18 rfl ?_
      refine lv_goto (tgt := 23) F.1 F.2.1 dX2_price_19 (by decide) ?_
      refine lv_istore (lv' := [(4, .int (nI 1)), (0, .ref hj), (1, .int (nI pl)), (2, .ref (g.2.2.2 k)), (3, .int la)]) F.1 F.2.1 dX2_price_23 hl (by decide) rfl (fun ls hl => ?_)
      refine lv_aload_n F.1 F.2.1 dX2_price_25 rfl (lv_at hl 1 rfl) ?_
      refine lv_iload_n F.1 F.2.1 dX2_price_26 rfl (lv_at hl 2 rfl) ?_
      refine gPut (w2 := (hj, .inr (0, [.ref hx, .ref js, .ref jc, .int (nI pl)])) :: (js, .inl (g.2.1 1, 100, .inl (bA sec))) :: (jc, .inl (g.2.1 0, 100, .inl (nA co))) :: R) F hS hG hW nX2_price_X2 0 rfl rfl 3 (by decide) tyX2 tyX2_ok nmX2 mX2_price_1 rfl rfl rfl rfl (Nat.le_of_ble_eq_true rfl) rfl dX2_price_27 (fun H locs hW hS => ?_)
      refine lv_iload F.1 F.2.1 dX2_price_30 (lv_at hl 0 rfl) ?_
      refine gIfEq (tgt := 45) F (by decide) dX2_price_32 (by decide) (fun c_32 => by exfalso; omega) (fun c_32 => ?_)
      refine lv_iload_n F.1 F.2.1 dX2_price_35 rfl (lv_at hl 2 rfl) ?_
      refine gIfLt (tgt := 45) F (by omega) dX2_price_36 (by decide) (fun c_36 => by exfalso; omega) (fun c_36 => ?_)
      refine lv_iload_n F.1 F.2.1 dX2_price_39 rfl (lv_at hl 2 rfl) ?_
      refine lv_bipush (v := nI 100) F.1 F.2.1 dX2_price_40 (by decide) ?_
      refine gLt (tgt := 47) F (by omega) (by omega) dX2_price_42 (by decide) (fun c_42 => ?_) (fun c_42 => by exfalso; omega)
      refine lv_aload_n F.1 F.2.1 dX2_price_47 rfl (lv_at hl 1 rfl) ?_
      refine gGet F hG hW nX2_price_X2 0 rfl rfl 2 (by decide) mX2_price_2 rfl dX2_price_48 ?_
      refine lv_iload_n F.1 F.2.1 dX2_price_51 rfl (lv_at hl 2 rfl) ?_
      refine lv_dup2_11 F.1 F.2.1 dX2_price_52 rfl rfl ?_
      refine gLdI F hG hW 2 rfl (by omega) (by decide) dX2_price_53 ?_
      refine gTop (y := nI (co pl)) rfl ?_
      refine lv_iconst (v := nI 1) F.1 F.2.1 dX2_price_54 rfl ?_
      refine gAdd F dX2_price_55 ?_
      refine gStIN (w2 := (hj, .inr (0, [.ref hx, .ref js, .ref jc, .int (nI pl)])) :: (js, .inl (g.2.1 1, 100, .inl (bA sec))) :: (jc, .inl (g.2.1 0, 100, .inl (nA (updN co pl ((co pl) + 1))))) :: R) F hG hW 2 rfl (by omega) (by decide) hS rfl dX2_price_56 (fun H locs hW hS => ?_)
      refine lv_aload_n F.1 F.2.1 dX2_price_57 rfl (lv_at hl 1 rfl) ?_
      refine gGet F hG hW nX2_price_X2 0 rfl rfl 1 (by decide) mX2_price_3 rfl dX2_price_58 ?_
      refine lv_iload_n F.1 F.2.1 dX2_price_61 rfl (lv_at hl 2 rfl) ?_
      refine gLdZ F hG hW 1 rfl (by omega) (by decide) dX2_price_62 ?_
      refine gTop (y := bI (sec pl)) rfl ?_
      refine gIfEqB (tgt := 70) F dX2_price_63 (by decide) (fun c_63 => ?_) (fun c_63 => ?_)
      · refine lv_iconst (v := nI 4) F.1 F.2.1 dX2_price_70 rfl ?_
        refine gRi F hW hS dX2_price_71 ?_
        exact ⟨by rw [jPr, show cfnS (some q) pl = true from decide_eq_true ((nI_p1 (by omega) (by omega)).mp c_15), if_pos rfl, c_63]; rfl, by rw [jCo, show cfnS (some q) pl = true from decide_eq_true ((nI_p1 (by omega) (by omega)).mp c_15), if_pos rfl]; rfl⟩
      · refine lv_iconst (v := nI 0) F.1 F.2.1 dX2_price_66 rfl ?_
        refine lv_goto (tgt := 71) F.1 F.2.1 dX2_price_67 (by decide) ?_
        refine gRi F hW hS dX2_price_71 ?_
        exact ⟨by rw [jPr, show cfnS (some q) pl = true from decide_eq_true ((nI_p1 (by omega) (by omega)).mp c_15), if_pos rfl, c_63]; rfl, by rw [jCo, show cfnS (some q) pl = true from decide_eq_true ((nI_p1 (by omega) (by omega)).mp c_15), if_pos rfl]; rfl⟩

abbrev rm_X10_isPlace_n : Room := ({ frames := 0, cells := 0, slots := 0, locals := 0 } : Room)
set_option maxRecDepth 100000 in
set_option maxHeartbeats 4000000 in
theorem c_X10_isPlace_n (g : gC) (l : Launch) {k : Nat} {R : va_W} (hk : k < 100) : cI g l yX10_isPlace wsX10_isPlace rm_X10_isPlace_n 0 0 [.int (nI k)] (R) (fun r u => (bI true) = r ∧ R = u) := by
  refine gEnterQ (cc := cX10_isPlace) (maxL := 1) (ret := (some (.boolean))) (by decide +kernel) rfl (Nat.le_of_ble_eq_true rfl) ?_
  intro p e s m below meth c F hG hW ls hl
  have hS : va_S (gA g) s.heap s.heap [] := va_S.rf
  have hl : lv_has ls 1 [(0, .int (nI k))] := hl
  have hW : gW g (R) s.heap := hW
  refine lv_iload_n F.1 F.2.1 dX10_isPlace_0 rfl (lv_at hl 0 rfl) ?_
  refine gIfLt (tgt := 14) F (by omega) dX10_isPlace_1 (by decide) (fun c_1 => by exfalso; omega) (fun c_1 => ?_)
  refine lv_iload_n F.1 F.2.1 dX10_isPlace_4 rfl (lv_at hl 0 rfl) ?_
  refine lv_bipush (v := nI 100) F.1 F.2.1 dX10_isPlace_5 (by decide) ?_
  refine gGe (tgt := 14) F (by omega) (by omega) dX10_isPlace_7 (by decide) (fun c_7 => by exfalso; omega) (fun c_7 => ?_)
  refine lv_iconst (v := nI 1) F.1 F.2.1 dX10_isPlace_10 rfl ?_
  refine lv_goto (tgt := 15) F.1 F.2.1 dX10_isPlace_11 (by decide) ?_
  refine gRz rfl F hW hS dX10_isPlace_15 ?_
  exact ⟨rfl, rfl⟩

abbrev rm_X10_isPlace_m : Room := ({ frames := 0, cells := 0, slots := 0, locals := 0 } : Room)
set_option maxRecDepth 100000 in
set_option maxHeartbeats 4000000 in
theorem c_X10_isPlace_m (g : gC) (l : Launch) {R : va_W} : cI g l yX10_isPlace wsX10_isPlace rm_X10_isPlace_m 0 0 [.int (-1)] (R) (fun r u => (bI false) = r ∧ R = u) := by
  refine gEnterQ (cc := cX10_isPlace) (maxL := 1) (ret := (some (.boolean))) (by decide +kernel) rfl (Nat.le_of_ble_eq_true rfl) ?_
  intro p e s m below meth c F hG hW ls hl
  have hS : va_S (gA g) s.heap s.heap [] := va_S.rf
  have hl : lv_has ls 1 [(0, .int (-1))] := hl
  have hW : gW g (R) s.heap := hW
  refine lv_iload_n F.1 F.2.1 dX10_isPlace_0 rfl (lv_at hl 0 rfl) ?_
  refine lv_if_lt (tgt := 14) F.1 F.2.1 dX10_isPlace_1 (by decide) (fun c_1 => ?_) (fun q => absurd (by decide) q)
  refine lv_iconst (v := nI 0) F.1 F.2.1 dX10_isPlace_14 rfl ?_
  refine gRz rfl F hW hS dX10_isPlace_15 ?_
  exact ⟨rfl, rfl⟩

abbrev rm_X10_write : Room := ({ frames := 1, cells := 0, slots := 0, locals := 20 } : Room)
theorem mX10_write_1 : Cond.fieldLink RX10 25 "StepperHearts$TraceHeart" "writing" "I" ∈ wsX10_write := List.mem_of_getElem? (i := 1) rfl
theorem nX10_write_X10 : ∀ w ∈ wsX100, w ∈ wsX10_write := fun _ h => List.mem_cons_of_mem _ (List.mem_append_right _ (h))
theorem mX10_write_2 : Cond.fieldLink RX10 29 "StepperHearts$TraceHeart" "written" "I" ∈ wsX10_write := List.mem_of_getElem? (i := 2) rfl
theorem mX10_write_4 : Cond.fieldLink RX10 11 "StepperHearts$TraceHeart" "rows" "[I" ∈ wsX10_write := List.mem_of_getElem? (i := 4) rfl
theorem mX10_write_3 : Cond.fieldLink RX10 15 "StepperHearts$TraceHeart" "lengths" "[I" ∈ wsX10_write := List.mem_of_getElem? (i := 3) rfl
set_option maxRecDepth 100000 in
set_option maxHeartbeats 4000000 in
theorem c_X10_write (g : gC) (l : Launch) {ht0 : Nat} {tr : Nat} {tl : Nat} {tn : Nat} {tb : Nat} {wn : Nat} {ni : Nat} {wr : Option Nat} {is : Option Nat} {ro : Nat → Nat} {le : Nat → Nat} {rn : Nat → Nat} {be : Nat → Bool} {pl : Nat} {R : va_W} (hp : pl < 100) (hw0 : ∀ w, wr = some w → w < 100) (hwn : wn ≤ 40) : cV g l yX10_write wsX10_write rm_X10_write 0 0 [.ref ht0, .int (nI pl)] ((ht0, .inr (7, [.ref tr, .ref tl, .ref tn, .ref tb, .int (oI wr), .int (nI wn), .int (oI is), .int (nI ni)])) :: (tr, .inl (g.2.1 0, 4000, .inl (nA ro))) :: (tl, .inl (g.2.1 0, 100, .inl (nA le))) :: (tn, .inl (g.2.1 0, 100, .inl (nA rn))) :: (tb, .inl (g.2.1 1, 100, .inl (bA be))) :: R) (fun u => (ht0, .inr (7, [.ref tr, .ref tl, .ref tn, .ref tb, .int (oI ((tW (ro, le, rn, be, wr, wn, is, ni) pl).2.2.2.2.1)), .int (nI ((tW (ro, le, rn, be, wr, wn, is, ni) pl).2.2.2.2.2.1)), .int (oI ((tW (ro, le, rn, be, wr, wn, is, ni) pl).2.2.2.2.2.2.1)), .int (nI ((tW (ro, le, rn, be, wr, wn, is, ni) pl).2.2.2.2.2.2.2))])) :: (tr, .inl (g.2.1 0, 4000, .inl (nA ((tW (ro, le, rn, be, wr, wn, is, ni) pl).1)))) :: (tl, .inl (g.2.1 0, 100, .inl (nA ((tW (ro, le, rn, be, wr, wn, is, ni) pl).2.1)))) :: (tn, .inl (g.2.1 0, 100, .inl (nA ((tW (ro, le, rn, be, wr, wn, is, ni) pl).2.2.1)))) :: (tb, .inl (g.2.1 1, 100, .inl (bA ((tW (ro, le, rn, be, wr, wn, is, ni) pl).2.2.2.1)))) :: R = u) := by
  refine gEnterQ (cc := cX10_write) (maxL := 2) (ret := none) (by decide +kernel) rfl (Nat.le_of_ble_eq_true rfl) ?_
  intro p e s m below meth c F hG hW ls hl
  have hS : va_S (gA g) s.heap s.heap [] := va_S.rf
  have hl : lv_has ls 2 [(0, .ref ht0), (1, .int (nI pl))] := hl
  have hW : gW g ((ht0, .inr (7, [.ref tr, .ref tl, .ref tn, .ref tb, .int (oI wr), .int (nI wn), .int (oI is), .int (nI ni)])) :: (tr, .inl (g.2.1 0, 4000, .inl (nA ro))) :: (tl, .inl (g.2.1 0, 100, .inl (nA le))) :: (tn, .inl (g.2.1 0, 100, .inl (nA rn))) :: (tb, .inl (g.2.1 1, 100, .inl (bA be))) :: R) s.heap := hW
  rcases wr with _ | w
  · have hl : lv_has ls 2 [(0, .ref ht0), (1, .int (nI pl))] := hl
    have hW : gW g ((ht0, .inr (7, [.ref tr, .ref tl, .ref tn, .ref tb, .int (-1), .int (nI wn), .int (oI is), .int (nI ni)])) :: (tr, .inl (g.2.1 0, 4000, .inl (nA ro))) :: (tl, .inl (g.2.1 0, 100, .inl (nA le))) :: (tn, .inl (g.2.1 0, 100, .inl (nA rn))) :: (tb, .inl (g.2.1 1, 100, .inl (bA be))) :: R) s.heap := hW
    refine lv_aload_n F.1 F.2.1 dX10_write_0 rfl (lv_at hl 0 rfl) ?_
    refine gGet F hG hW nX10_write_X10 0 rfl rfl 4 (by decide) mX10_write_1 rfl dX10_write_1 ?_
    refine gS_i (n := 1) (As := [.int (-1)]) F hG hS hW (c_X10_isPlace_m g l  ) rfl gX10_write_X10_isPlace (by decide +kernel) ⟨rfl, rfl, Nat.le_of_ble_eq_true rfl, Nat.le_of_ble_eq_true rfl⟩ hl.1 (Nat.le_of_ble_eq_true rfl) ⟨Nat.le_of_ble_eq_true rfl, Nat.le_of_ble_eq_true rfl⟩ rfl rfl dX10_write_4 (fun r u H locs hq hW hS => ?_)
    obtain ⟨rfl, rfl⟩ := hq
    have hW : gW g ((ht0, .inr (7, [.ref tr, .ref tl, .ref tn, .ref tb, .int (-1), .int (nI wn), .int (oI is), .int (nI ni)])) :: (tr, .inl (g.2.1 0, 4000, .inl (nA ro))) :: (tl, .inl (g.2.1 0, 100, .inl (nA le))) :: (tn, .inl (g.2.1 0, 100, .inl (nA rn))) :: (tb, .inl (g.2.1 1, 100, .inl (bA be))) :: R) _ := hW
    refine gIfNeB (tgt := 11) F dX10_write_7 (by decide) (fun q => by simp at q) (fun c_7 => ?_)
    refine gRv F hW hS dX10_write_10 ?_
    exact rfl
  · have hw : w < 100 := hw0 w rfl
    have hl : lv_has ls 2 [(0, .ref ht0), (1, .int (nI pl))] := hl
    have hW : gW g ((ht0, .inr (7, [.ref tr, .ref tl, .ref tn, .ref tb, .int (nI w), .int (nI wn), .int (oI is), .int (nI ni)])) :: (tr, .inl (g.2.1 0, 4000, .inl (nA ro))) :: (tl, .inl (g.2.1 0, 100, .inl (nA le))) :: (tn, .inl (g.2.1 0, 100, .inl (nA rn))) :: (tb, .inl (g.2.1 1, 100, .inl (bA be))) :: R) s.heap := hW
    refine lv_aload_n F.1 F.2.1 dX10_write_0 rfl (lv_at hl 0 rfl) ?_
    refine gGet F hG hW nX10_write_X10 0 rfl rfl 4 (by decide) mX10_write_1 rfl dX10_write_1 ?_
    refine gS_i (n := 1) (As := [.int (nI w)]) F hG hS hW (c_X10_isPlace_n g l  (by omega)) rfl gX10_write_X10_isPlace (by decide +kernel) ⟨rfl, rfl, Nat.le_of_ble_eq_true rfl, Nat.le_of_ble_eq_true rfl⟩ hl.1 (Nat.le_of_ble_eq_true rfl) ⟨Nat.le_of_ble_eq_true rfl, Nat.le_of_ble_eq_true rfl⟩ rfl rfl dX10_write_4 (fun r u H locs hq hW hS => ?_)
    obtain ⟨rfl, rfl⟩ := hq
    have hW : gW g ((ht0, .inr (7, [.ref tr, .ref tl, .ref tn, .ref tb, .int (nI w), .int (nI wn), .int (oI is), .int (nI ni)])) :: (tr, .inl (g.2.1 0, 4000, .inl (nA ro))) :: (tl, .inl (g.2.1 0, 100, .inl (nA le))) :: (tn, .inl (g.2.1 0, 100, .inl (nA rn))) :: (tb, .inl (g.2.1 1, 100, .inl (bA be))) :: R) _ := hW
    refine gIfNeB (tgt := 11) F dX10_write_7 (by decide) (fun c_7 => ?_) (fun q => by simp at q)
    refine lv_aload_n F.1 F.2.1 dX10_write_11 rfl (lv_at hl 0 rfl) ?_
    refine gGet F hG hW nX10_write_X10 0 rfl rfl 5 (by decide) mX10_write_2 rfl dX10_write_12 ?_
    refine gIfLe (tgt := 47) F (by omega) dX10_write_15 (by decide) (fun c_15 => ?_) (fun c_15 => ?_)
    · refine lv_aload_n F.1 F.2.1 dX10_write_47 rfl (lv_at hl 0 rfl) ?_
      refine gGet F hG hW nX10_write_X10 0 rfl rfl 5 (by decide) mX10_write_2 rfl dX10_write_48 ?_
      refine lv_bipush (v := nI 40) F.1 F.2.1 dX10_write_51 (by decide) ?_
      refine gLt (tgt := 64) F (by omega) (by omega) dX10_write_53 (by decide) (fun c_53 => ?_) (fun c_53 => ?_)
      · refine lv_aload_n F.1 F.2.1 dX10_write_64 rfl (lv_at hl 0 rfl) ?_
        refine gGet F hG hW nX10_write_X10 0 rfl rfl 0 (by decide) mX10_write_4 rfl dX10_write_65 ?_
        refine lv_aload_n F.1 F.2.1 dX10_write_68 rfl (lv_at hl 0 rfl) ?_
        refine gGet F hG hW nX10_write_X10 0 rfl rfl 4 (by decide) mX10_write_1 rfl dX10_write_69 ?_
        refine lv_bipush (v := nI 40) F.1 F.2.1 dX10_write_72 (by decide) ?_
        refine gMul F dX10_write_74 ?_
        refine lv_aload_n F.1 F.2.1 dX10_write_75 rfl (lv_at hl 0 rfl) ?_
        refine gGet F hG hW nX10_write_X10 0 rfl rfl 5 (by decide) mX10_write_2 rfl dX10_write_76 ?_
        refine gAdd F dX10_write_79 ?_
        refine lv_iload_n F.1 F.2.1 dX10_write_80 rfl (lv_at hl 1 rfl) ?_
        refine gStIN (w2 := (ht0, .inr (7, [.ref tr, .ref tl, .ref tn, .ref tb, .int (nI w), .int (nI wn), .int (oI is), .int (nI ni)])) :: (tr, .inl (g.2.1 0, 4000, .inl (nA (updN ro ((w * 40) + wn) pl)))) :: (tl, .inl (g.2.1 0, 100, .inl (nA le))) :: (tn, .inl (g.2.1 0, 100, .inl (nA rn))) :: (tb, .inl (g.2.1 1, 100, .inl (bA be))) :: R) F hG hW 1 rfl (by omega) (by decide) hS rfl dX10_write_81 (fun H locs hW hS => ?_)
        refine lv_aload_n F.1 F.2.1 dX10_write_82 rfl (lv_at hl 0 rfl) ?_
        refine lv_dup F.1 F.2.1 dX10_write_83 rfl ?_
        refine gGet F hG hW nX10_write_X10 0 rfl rfl 5 (by decide) mX10_write_2 rfl dX10_write_84 ?_
        refine lv_iconst (v := nI 1) F.1 F.2.1 dX10_write_87 rfl ?_
        refine gAdd F dX10_write_88 ?_
        refine gPut (w2 := (ht0, .inr (7, [.ref tr, .ref tl, .ref tn, .ref tb, .int (nI w), .int (nI (wn + 1)), .int (oI is), .int (nI ni)])) :: (tr, .inl (g.2.1 0, 4000, .inl (nA (updN ro ((w * 40) + wn) pl)))) :: (tl, .inl (g.2.1 0, 100, .inl (nA le))) :: (tn, .inl (g.2.1 0, 100, .inl (nA rn))) :: (tb, .inl (g.2.1 1, 100, .inl (bA be))) :: R) F hS hG hW nX10_write_X10 0 rfl rfl 5 (by decide) tyX10 tyX10_ok nmX10 mX10_write_2 rfl rfl rfl rfl (Nat.le_of_ble_eq_true rfl) rfl dX10_write_89 (fun H locs hW hS => ?_)
        refine gRv F hW hS dX10_write_92 ?_
        have e : tW (ro, le, rn, be, some w, wn, is, ni) pl = (updN ro (w * 40 + wn) pl, le, rn, be, some w, wn + 1, is, ni) := (if_neg (fun z : 0 < wn ∧ pl = w => absurd c_15 (Nat.ne_of_gt z.1))).trans (if_neg (Nat.not_le.mpr c_53))
        show _ = _
        exact (by first | (rw [e]; done) | (rw [e]; rfl))
      · refine lv_aload_n F.1 F.2.1 dX10_write_56 rfl (lv_at hl 0 rfl) ?_
        refine lv_iconst (v := -1) F.1 F.2.1 dX10_write_57 rfl ?_
        refine gPut (w2 := (ht0, .inr (7, [.ref tr, .ref tl, .ref tn, .ref tb, .int (-1), .int (nI wn), .int (oI is), .int (nI ni)])) :: (tr, .inl (g.2.1 0, 4000, .inl (nA ro))) :: (tl, .inl (g.2.1 0, 100, .inl (nA le))) :: (tn, .inl (g.2.1 0, 100, .inl (nA rn))) :: (tb, .inl (g.2.1 1, 100, .inl (bA be))) :: R) F hS hG hW nX10_write_X10 0 rfl rfl 4 (by decide) tyX10 tyX10_ok nmX10 mX10_write_1 rfl rfl rfl rfl (Nat.le_of_ble_eq_true rfl) rfl dX10_write_58 (fun H locs hW hS => ?_)
        refine lv_goto (tgt := 92) F.1 F.2.1 dX10_write_61 (by decide) ?_
        refine gRv F hW hS dX10_write_92 ?_
        have e : tW (ro, le, rn, be, some w, wn, is, ni) pl = (ro, le, rn, be, none, wn, is, ni) := (if_neg (fun z : 0 < wn ∧ pl = w => absurd c_15 (Nat.ne_of_gt z.1))).trans (if_pos c_53)
        show _ = _
        exact (by first | (rw [e]; done) | (rw [e]; rfl))
    · refine lv_iload_n F.1 F.2.1 dX10_write_18 rfl (lv_at hl 1 rfl) ?_
      refine lv_aload_n F.1 F.2.1 dX10_write_19 rfl (lv_at hl 0 rfl) ?_
      refine gGet F hG hW nX10_write_X10 0 rfl rfl 4 (by decide) mX10_write_1 rfl dX10_write_20 ?_
      refine gNe (tgt := 47) F (by omega) (by omega) dX10_write_23 (by decide) (fun c_23 => ?_) (fun c_23 => ?_)
      · refine lv_aload_n F.1 F.2.1 dX10_write_47 rfl (lv_at hl 0 rfl) ?_
        refine gGet F hG hW nX10_write_X10 0 rfl rfl 5 (by decide) mX10_write_2 rfl dX10_write_48 ?_
        refine lv_bipush (v := nI 40) F.1 F.2.1 dX10_write_51 (by decide) ?_
        refine gLt (tgt := 64) F (by omega) (by omega) dX10_write_53 (by decide) (fun c_53 => ?_) (fun c_53 => ?_)
        · refine lv_aload_n F.1 F.2.1 dX10_write_64 rfl (lv_at hl 0 rfl) ?_
          refine gGet F hG hW nX10_write_X10 0 rfl rfl 0 (by decide) mX10_write_4 rfl dX10_write_65 ?_
          refine lv_aload_n F.1 F.2.1 dX10_write_68 rfl (lv_at hl 0 rfl) ?_
          refine gGet F hG hW nX10_write_X10 0 rfl rfl 4 (by decide) mX10_write_1 rfl dX10_write_69 ?_
          refine lv_bipush (v := nI 40) F.1 F.2.1 dX10_write_72 (by decide) ?_
          refine gMul F dX10_write_74 ?_
          refine lv_aload_n F.1 F.2.1 dX10_write_75 rfl (lv_at hl 0 rfl) ?_
          refine gGet F hG hW nX10_write_X10 0 rfl rfl 5 (by decide) mX10_write_2 rfl dX10_write_76 ?_
          refine gAdd F dX10_write_79 ?_
          refine lv_iload_n F.1 F.2.1 dX10_write_80 rfl (lv_at hl 1 rfl) ?_
          refine gStIN (w2 := (ht0, .inr (7, [.ref tr, .ref tl, .ref tn, .ref tb, .int (nI w), .int (nI wn), .int (oI is), .int (nI ni)])) :: (tr, .inl (g.2.1 0, 4000, .inl (nA (updN ro ((w * 40) + wn) pl)))) :: (tl, .inl (g.2.1 0, 100, .inl (nA le))) :: (tn, .inl (g.2.1 0, 100, .inl (nA rn))) :: (tb, .inl (g.2.1 1, 100, .inl (bA be))) :: R) F hG hW 1 rfl (by omega) (by decide) hS rfl dX10_write_81 (fun H locs hW hS => ?_)
          refine lv_aload_n F.1 F.2.1 dX10_write_82 rfl (lv_at hl 0 rfl) ?_
          refine lv_dup F.1 F.2.1 dX10_write_83 rfl ?_
          refine gGet F hG hW nX10_write_X10 0 rfl rfl 5 (by decide) mX10_write_2 rfl dX10_write_84 ?_
          refine lv_iconst (v := nI 1) F.1 F.2.1 dX10_write_87 rfl ?_
          refine gAdd F dX10_write_88 ?_
          refine gPut (w2 := (ht0, .inr (7, [.ref tr, .ref tl, .ref tn, .ref tb, .int (nI w), .int (nI (wn + 1)), .int (oI is), .int (nI ni)])) :: (tr, .inl (g.2.1 0, 4000, .inl (nA (updN ro ((w * 40) + wn) pl)))) :: (tl, .inl (g.2.1 0, 100, .inl (nA le))) :: (tn, .inl (g.2.1 0, 100, .inl (nA rn))) :: (tb, .inl (g.2.1 1, 100, .inl (bA be))) :: R) F hS hG hW nX10_write_X10 0 rfl rfl 5 (by decide) tyX10 tyX10_ok nmX10 mX10_write_2 rfl rfl rfl rfl (Nat.le_of_ble_eq_true rfl) rfl dX10_write_89 (fun H locs hW hS => ?_)
          refine gRv F hW hS dX10_write_92 ?_
          have e : tW (ro, le, rn, be, some w, wn, is, ni) pl = (updN ro (w * 40 + wn) pl, le, rn, be, some w, wn + 1, is, ni) := (if_neg (fun z : 0 < wn ∧ pl = w => c_23 z.2)).trans (if_neg (Nat.not_le.mpr c_53))
          show _ = _
          exact (by first | (rw [e]; done) | (rw [e]; rfl))
        · refine lv_aload_n F.1 F.2.1 dX10_write_56 rfl (lv_at hl 0 rfl) ?_
          refine lv_iconst (v := -1) F.1 F.2.1 dX10_write_57 rfl ?_
          refine gPut (w2 := (ht0, .inr (7, [.ref tr, .ref tl, .ref tn, .ref tb, .int (-1), .int (nI wn), .int (oI is), .int (nI ni)])) :: (tr, .inl (g.2.1 0, 4000, .inl (nA ro))) :: (tl, .inl (g.2.1 0, 100, .inl (nA le))) :: (tn, .inl (g.2.1 0, 100, .inl (nA rn))) :: (tb, .inl (g.2.1 1, 100, .inl (bA be))) :: R) F hS hG hW nX10_write_X10 0 rfl rfl 4 (by decide) tyX10 tyX10_ok nmX10 mX10_write_1 rfl rfl rfl rfl (Nat.le_of_ble_eq_true rfl) rfl dX10_write_58 (fun H locs hW hS => ?_)
          refine lv_goto (tgt := 92) F.1 F.2.1 dX10_write_61 (by decide) ?_
          refine gRv F hW hS dX10_write_92 ?_
          have e : tW (ro, le, rn, be, some w, wn, is, ni) pl = (ro, le, rn, be, none, wn, is, ni) := (if_neg (fun z : 0 < wn ∧ pl = w => c_23 z.2)).trans (if_pos c_53)
          show _ = _
          exact (by first | (rw [e]; done) | (rw [e]; rfl))
      · refine lv_aload_n F.1 F.2.1 dX10_write_26 rfl (lv_at hl 0 rfl) ?_
        refine gGet F hG hW nX10_write_X10 0 rfl rfl 1 (by decide) mX10_write_3 rfl dX10_write_27 ?_
        refine lv_aload_n F.1 F.2.1 dX10_write_30 rfl (lv_at hl 0 rfl) ?_
        refine gGet F hG hW nX10_write_X10 0 rfl rfl 4 (by decide) mX10_write_1 rfl dX10_write_31 ?_
        refine lv_aload_n F.1 F.2.1 dX10_write_34 rfl (lv_at hl 0 rfl) ?_
        refine gGet F hG hW nX10_write_X10 0 rfl rfl 5 (by decide) mX10_write_2 rfl dX10_write_35 ?_
        refine gStIN (w2 := (ht0, .inr (7, [.ref tr, .ref tl, .ref tn, .ref tb, .int (nI w), .int (nI wn), .int (oI is), .int (nI ni)])) :: (tr, .inl (g.2.1 0, 4000, .inl (nA ro))) :: (tl, .inl (g.2.1 0, 100, .inl (nA (updN le w wn)))) :: (tn, .inl (g.2.1 0, 100, .inl (nA rn))) :: (tb, .inl (g.2.1 1, 100, .inl (bA be))) :: R) F hG hW 2 rfl (by omega) (by decide) hS rfl dX10_write_38 (fun H locs hW hS => ?_)
        refine lv_aload_n F.1 F.2.1 dX10_write_39 rfl (lv_at hl 0 rfl) ?_
        refine lv_iconst (v := -1) F.1 F.2.1 dX10_write_40 rfl ?_
        refine gPut (w2 := (ht0, .inr (7, [.ref tr, .ref tl, .ref tn, .ref tb, .int (-1), .int (nI wn), .int (oI is), .int (nI ni)])) :: (tr, .inl (g.2.1 0, 4000, .inl (nA ro))) :: (tl, .inl (g.2.1 0, 100, .inl (nA (updN le w wn)))) :: (tn, .inl (g.2.1 0, 100, .inl (nA rn))) :: (tb, .inl (g.2.1 1, 100, .inl (bA be))) :: R) F hS hG hW nX10_write_X10 0 rfl rfl 4 (by decide) tyX10 tyX10_ok nmX10 mX10_write_1 rfl rfl rfl rfl (Nat.le_of_ble_eq_true rfl) rfl dX10_write_41 (fun H locs hW hS => ?_)
        refine lv_goto (tgt := 92) F.1 F.2.1 dX10_write_44 (by decide) ?_
        refine gRv F hW hS dX10_write_92 ?_
        have e : tW (ro, le, rn, be, some w, wn, is, ni) pl = (ro, updN le w wn, rn, be, none, wn, is, ni) := if_pos ⟨c_15, c_23⟩
        show _ = _
        exact (by first | (rw [e]; done) | (rw [e]; rfl))

abbrev rm_X10_placeWithin : Room := ({ frames := 1, cells := 0, slots := 0, locals := 20 } : Room)
theorem mX10_placeWithin_1 : Cond.fieldLink RX10 32 "StepperHearts$TraceHeart" "inside" "I" ∈ wsX10_placeWithin := List.mem_of_getElem? (i := 1) rfl
theorem nX10_placeWithin_X10 : ∀ w ∈ wsX100, w ∈ wsX10_placeWithin := fun _ h => List.mem_cons_of_mem _ (List.mem_append_right _ (h))
theorem mX10_placeWithin_2 : Cond.fieldLink RX10 35 "StepperHearts$TraceHeart" "nextInside" "I" ∈ wsX10_placeWithin := List.mem_of_getElem? (i := 2) rfl
theorem mX10_placeWithin_3 : Cond.fieldLink RX10 11 "StepperHearts$TraceHeart" "rows" "[I" ∈ wsX10_placeWithin := List.mem_of_getElem? (i := 3) rfl
set_option maxRecDepth 100000 in
set_option maxHeartbeats 4000000 in
theorem c_X10_placeWithin (g : gC) (l : Launch) {ht0 : Nat} {tr : Nat} {tl : Nat} {tn : Nat} {tb : Nat} {x : Nat} {ni : Nat} {w0 : Int32} {w1 : Int32} {ro : Nat → Nat} {R : va_W} (hx : x < 100) (hni : ni < 40) : cI g l yX10_placeWithin wsX10_placeWithin rm_X10_placeWithin 0 0 [.ref ht0] ((ht0, .inr (7, [.ref tr, .ref tl, .ref tn, .ref tb, .int w0, .int w1, .int (nI x), .int (nI ni)])) :: (tr, .inl (g.2.1 0, 4000, .inl (nA ro))) :: R) (fun r u => (nI (ro (x * 40 + ni))) = r ∧ (ht0, .inr (7, [.ref tr, .ref tl, .ref tn, .ref tb, .int w0, .int w1, .int (nI x), .int (nI ni)])) :: (tr, .inl (g.2.1 0, 4000, .inl (nA ro))) :: R = u) := by
  refine gEnterQ (cc := cX10_placeWithin) (maxL := 2) (ret := (some (.int))) (by decide +kernel) rfl (Nat.le_of_ble_eq_true rfl) ?_
  intro p e s m below meth c F hG hW ls hl
  have hS : va_S (gA g) s.heap s.heap [] := va_S.rf
  have hl : lv_has ls 2 [(0, .ref ht0)] := hl
  have hW : gW g ((ht0, .inr (7, [.ref tr, .ref tl, .ref tn, .ref tb, .int w0, .int w1, .int (nI x), .int (nI ni)])) :: (tr, .inl (g.2.1 0, 4000, .inl (nA ro))) :: R) s.heap := hW
  refine lv_aload_n F.1 F.2.1 dX10_placeWithin_0 rfl (lv_at hl 0 rfl) ?_
  refine gGet F hG hW nX10_placeWithin_X10 0 rfl rfl 6 (by decide) mX10_placeWithin_1 rfl dX10_placeWithin_1 ?_
  refine gS_i (n := 1) (As := [.int (nI x)]) F hG hS hW (c_X10_isPlace_n g l  (by omega)) rfl gX10_placeWithin_X10_isPlace (by decide +kernel) ⟨rfl, rfl, Nat.le_of_ble_eq_true rfl, Nat.le_of_ble_eq_true rfl⟩ hl.1 (Nat.le_of_ble_eq_true rfl) ⟨Nat.le_of_ble_eq_true rfl, Nat.le_of_ble_eq_true rfl⟩ rfl rfl dX10_placeWithin_4 (fun r u H locs hq hW hS => ?_)
  obtain ⟨rfl, rfl⟩ := hq
  have hW : gW g ((ht0, .inr (7, [.ref tr, .ref tl, .ref tn, .ref tb, .int w0, .int w1, .int (nI x), .int (nI ni)])) :: (tr, .inl (g.2.1 0, 4000, .inl (nA ro))) :: R) _ := hW
  refine gIfEqB (tgt := 30) F dX10_placeWithin_7 (by decide) (fun q => by simp at q) (fun c_7 => ?_)
  refine lv_aload_n F.1 F.2.1 dX10_placeWithin_10 rfl (lv_at hl 0 rfl) ?_
  refine gGet F hG hW nX10_placeWithin_X10 0 rfl rfl 7 (by decide) mX10_placeWithin_2 rfl dX10_placeWithin_11 ?_
  refine gIfLt (tgt := 30) F (by omega) dX10_placeWithin_14 (by decide) (fun c_14 => by exfalso; omega) (fun c_14 => ?_)
  refine lv_aload_n F.1 F.2.1 dX10_placeWithin_17 rfl (lv_at hl 0 rfl) ?_
  refine gGet F hG hW nX10_placeWithin_X10 0 rfl rfl 7 (by decide) mX10_placeWithin_2 rfl dX10_placeWithin_18 ?_
  refine lv_bipush (v := nI 40) F.1 F.2.1 dX10_placeWithin_21 (by decide) ?_
  refine gGe (tgt := 30) F (by omega) (by omega) dX10_placeWithin_23 (by decide) (fun c_23 => by exfalso; omega) (fun c_23 => ?_)
  refine lv_iconst (v := nI 1) F.1 F.2.1 dX10_placeWithin_26 rfl ?_
  refine lv_goto (tgt := 31) F.1 F.2.1 dX10_placeWithin_27 (by decide) ?_
  refine lv_istore_n (lv' := [(1, .int (nI 1)), (0, .ref ht0)]) F.1 F.2.1 dX10_placeWithin_31 rfl hl (by decide) rfl (fun ls hl => ?_)
  refine lv_iload_n F.1 F.2.1 dX10_placeWithin_32 rfl (lv_at hl 0 rfl) ?_
  refine gIfEq (tgt := 56) F (by decide) dX10_placeWithin_33 (by decide) (fun c_33 => by exfalso; omega) (fun c_33 => ?_)
  refine lv_aload_n F.1 F.2.1 dX10_placeWithin_36 rfl (lv_at hl 1 rfl) ?_
  refine gGet F hG hW nX10_placeWithin_X10 0 rfl rfl 0 (by decide) mX10_placeWithin_3 rfl dX10_placeWithin_37 ?_
  refine lv_aload_n F.1 F.2.1 dX10_placeWithin_40 rfl (lv_at hl 1 rfl) ?_
  refine gGet F hG hW nX10_placeWithin_X10 0 rfl rfl 6 (by decide) mX10_placeWithin_1 rfl dX10_placeWithin_41 ?_
  refine lv_bipush (v := nI 40) F.1 F.2.1 dX10_placeWithin_44 (by decide) ?_
  refine gMul F dX10_placeWithin_46 ?_
  refine lv_aload_n F.1 F.2.1 dX10_placeWithin_47 rfl (lv_at hl 1 rfl) ?_
  refine gGet F hG hW nX10_placeWithin_X10 0 rfl rfl 7 (by decide) mX10_placeWithin_2 rfl dX10_placeWithin_48 ?_
  refine gAdd F dX10_placeWithin_51 ?_
  refine gLdI F hG hW 1 rfl (by omega) (by decide) dX10_placeWithin_52 ?_
  refine gTop (y := nI (ro ((x * 40) + ni))) rfl ?_
  refine lv_goto (tgt := 57) F.1 F.2.1 dX10_placeWithin_53 (by decide) ?_
  refine gRi F hW hS dX10_placeWithin_57 ?_
  exact ⟨rfl, rfl⟩

abbrev rm_X10_goRound : Room := ({ frames := 1, cells := 0, slots := 0, locals := 20 } : Room)
theorem mX10_goRound_1 : Cond.fieldLink RX10 35 "StepperHearts$TraceHeart" "nextInside" "I" ∈ wsX10_goRound := List.mem_of_getElem? (i := 1) rfl
theorem nX10_goRound_X10 : ∀ w ∈ wsX100, w ∈ wsX10_goRound := fun _ h => List.mem_cons_of_mem _ (List.mem_append_right _ (h))
theorem mX10_goRound_2 : Cond.fieldLink RX10 32 "StepperHearts$TraceHeart" "inside" "I" ∈ wsX10_goRound := List.mem_of_getElem? (i := 2) rfl
theorem mX10_goRound_3 : Cond.fieldLink RX10 15 "StepperHearts$TraceHeart" "lengths" "[I" ∈ wsX10_goRound := List.mem_of_getElem? (i := 3) rfl
set_option maxRecDepth 100000 in
set_option maxHeartbeats 4000000 in
theorem c_X10_goRound (g : gC) (l : Launch) {ht0 : Nat} {tr : Nat} {tl : Nat} {tn : Nat} {tb : Nat} {x : Nat} {ni : Nat} {w0 : Int32} {w1 : Int32} {le : Nat → Nat} {R : va_W} (hx : x < 100) (hni : ni < 40) (hle : ∀ j, le j ≤ 40) : cV g l yX10_goRound wsX10_goRound rm_X10_goRound 0 0 [.ref ht0] ((ht0, .inr (7, [.ref tr, .ref tl, .ref tn, .ref tb, .int w0, .int w1, .int (nI x), .int (nI ni)])) :: (tl, .inl (g.2.1 0, 100, .inl (nA le))) :: R) (fun u => (ht0, .inr (7, [.ref tr, .ref tl, .ref tn, .ref tb, .int w0, .int w1, .int (nI x), .int (nI (tGo le x ni))])) :: (tl, .inl (g.2.1 0, 100, .inl (nA le))) :: R = u) := by
  refine gEnterQ (cc := cX10_goRound) (maxL := 1) (ret := none) (by decide +kernel) rfl (Nat.le_of_ble_eq_true rfl) ?_
  intro p e s m below meth c F hG hW ls hl
  have hS : va_S (gA g) s.heap s.heap [] := va_S.rf
  have hl : lv_has ls 1 [(0, .ref ht0)] := hl
  have hW : gW g ((ht0, .inr (7, [.ref tr, .ref tl, .ref tn, .ref tb, .int w0, .int w1, .int (nI x), .int (nI ni)])) :: (tl, .inl (g.2.1 0, 100, .inl (nA le))) :: R) s.heap := hW
  refine lv_aload_n F.1 F.2.1 dX10_goRound_0 rfl (lv_at hl 0 rfl) ?_
  refine lv_dup F.1 F.2.1 dX10_goRound_1 rfl ?_
  refine gGet F hG hW nX10_goRound_X10 0 rfl rfl 7 (by decide) mX10_goRound_1 rfl dX10_goRound_2 ?_
  refine lv_iconst (v := nI 1) F.1 F.2.1 dX10_goRound_5 rfl ?_
  refine gAdd F dX10_goRound_6 ?_
  refine gPut (w2 := (ht0, .inr (7, [.ref tr, .ref tl, .ref tn, .ref tb, .int w0, .int w1, .int (nI x), .int (nI (ni + 1))])) :: (tl, .inl (g.2.1 0, 100, .inl (nA le))) :: R) F hS hG hW nX10_goRound_X10 0 rfl rfl 7 (by decide) tyX10 tyX10_ok nmX10 mX10_goRound_1 rfl rfl rfl rfl (Nat.le_of_ble_eq_true rfl) rfl dX10_goRound_7 (fun H locs hW hS => ?_)
  refine lv_aload_n F.1 F.2.1 dX10_goRound_10 rfl (lv_at hl 0 rfl) ?_
  refine gGet F hG hW nX10_goRound_X10 0 rfl rfl 6 (by decide) mX10_goRound_2 rfl dX10_goRound_11 ?_
  refine gS_i (n := 1) (As := [.int (nI x)]) F hG hS hW (c_X10_isPlace_n g l  (by omega)) rfl gX10_goRound_X10_isPlace (by decide +kernel) ⟨rfl, rfl, Nat.le_of_ble_eq_true rfl, Nat.le_of_ble_eq_true rfl⟩ hl.1 (Nat.le_of_ble_eq_true rfl) ⟨Nat.le_of_ble_eq_true rfl, Nat.le_of_ble_eq_true rfl⟩ rfl rfl dX10_goRound_14 (fun r u H locs hq hW hS => ?_)
  obtain ⟨rfl, rfl⟩ := hq
  have hW : gW g ((ht0, .inr (7, [.ref tr, .ref tl, .ref tn, .ref tb, .int w0, .int w1, .int (nI x), .int (nI (ni + 1))])) :: (tl, .inl (g.2.1 0, 100, .inl (nA le))) :: R) _ := hW
  refine gIfEqB (tgt := 36) F dX10_goRound_17 (by decide) (fun q => by simp at q) (fun c_17 => ?_)
  refine lv_aload_n F.1 F.2.1 dX10_goRound_20 rfl (lv_at hl 0 rfl) ?_
  refine gGet F hG hW nX10_goRound_X10 0 rfl rfl 7 (by decide) mX10_goRound_1 rfl dX10_goRound_21 ?_
  refine lv_aload_n F.1 F.2.1 dX10_goRound_24 rfl (lv_at hl 0 rfl) ?_
  refine gGet F hG hW nX10_goRound_X10 0 rfl rfl 1 (by decide) mX10_goRound_3 rfl dX10_goRound_25 ?_
  refine lv_aload_n F.1 F.2.1 dX10_goRound_28 rfl (lv_at hl 0 rfl) ?_
  refine gGet F hG hW nX10_goRound_X10 0 rfl rfl 6 (by decide) mX10_goRound_2 rfl dX10_goRound_29 ?_
  refine gLdI F hG hW 1 rfl (by omega) (by decide) dX10_goRound_32 ?_
  refine gTop (y := nI (le x)) rfl ?_
  have hl9 := hle x
  refine gLt (tgt := 41) F (by omega) (by omega) dX10_goRound_33 (by decide) (fun c_33 => ?_) (fun c_33 => ?_)
  · refine gRv F hW hS dX10_goRound_41 ?_
    show _ = _
    rw [show tGo le x ni = ni + 1 from if_pos c_33]
  · refine lv_aload_n F.1 F.2.1 dX10_goRound_36 rfl (lv_at hl 0 rfl) ?_
    refine lv_iconst (v := nI 0) F.1 F.2.1 dX10_goRound_37 rfl ?_
    refine gPut (w2 := (ht0, .inr (7, [.ref tr, .ref tl, .ref tn, .ref tb, .int w0, .int w1, .int (nI x), .int (nI 0)])) :: (tl, .inl (g.2.1 0, 100, .inl (nA le))) :: R) F hS hG hW nX10_goRound_X10 0 rfl rfl 7 (by decide) tyX10 tyX10_ok nmX10 mX10_goRound_1 rfl rfl rfl rfl (Nat.le_of_ble_eq_true rfl) rfl dX10_goRound_38 (fun H locs hW hS => ?_)
    refine gRv F hW hS dX10_goRound_41 ?_
    show _ = _
    rw [show tGo le x ni = 0 from if_neg (Nat.not_lt.mpr c_33)]

abbrev rm_X10_priceOfGoing : Room := ({ frames := 2, cells := 0, slots := 0, locals := 41 } : Room)
theorem mX10_priceOfGoing_1 : Cond.fieldLink RX10 32 "StepperHearts$TraceHeart" "inside" "I" ∈ wsX10_priceOfGoing := List.mem_of_getElem? (i := 1) rfl
theorem nX10_priceOfGoing_X10 : ∀ w ∈ wsX100, w ∈ wsX10_priceOfGoing := fun _ h => List.mem_cons_of_mem _ (List.mem_append_right _ (h))
theorem mX10_priceOfGoing_2 : Cond.fieldLink RX10 15 "StepperHearts$TraceHeart" "lengths" "[I" ∈ wsX10_priceOfGoing := List.mem_of_getElem? (i := 2) rfl
theorem mX10_priceOfGoing_3 : Cond.fieldLink RX10 35 "StepperHearts$TraceHeart" "nextInside" "I" ∈ wsX10_priceOfGoing := List.mem_of_getElem? (i := 3) rfl
set_option maxRecDepth 100000 in
set_option maxHeartbeats 4000000 in
theorem c_X10_priceOfGoing (g : gC) (l : Launch) {ht0 : Nat} {tr : Nat} {tl : Nat} {tn : Nat} {tb : Nat} {wn : Nat} {ni : Nat} {wr : Option Nat} {is : Option Nat} {ro : Nat → Nat} {le : Nat → Nat} {rn : Nat → Nat} {be : Nat → Bool} {pl : Nat} {pw : Nat} {R : va_W} (hp : pl < 100) (hro : ∀ j, ro j < 100) (hle : ∀ j, le j ≤ 40) (hx0 : ∀ x, is = some x → x < 100) (hni : ni < 40) : cI g l yX10_priceOfGoing wsX10_priceOfGoing rm_X10_priceOfGoing 0 0 [.ref ht0, .int (nI pl), .int (nI pw)] ((ht0, .inr (7, [.ref tr, .ref tl, .ref tn, .ref tb, .int (oI wr), .int (nI wn), .int (oI is), .int (nI ni)])) :: (tr, .inl (g.2.1 0, 4000, .inl (nA ro))) :: (tl, .inl (g.2.1 0, 100, .inl (nA le))) :: (tn, .inl (g.2.1 0, 100, .inl (nA rn))) :: (tb, .inl (g.2.1 1, 100, .inl (bA be))) :: R) (fun r u => (nI ((tG (ro, le, rn, be, wr, wn, is, ni) pl pw).1)) = r ∧ (ht0, .inr (7, [.ref tr, .ref tl, .ref tn, .ref tb, .int (oI (((tG (ro, le, rn, be, wr, wn, is, ni) pl pw).2).2.2.2.2.1)), .int (nI (((tG (ro, le, rn, be, wr, wn, is, ni) pl pw).2).2.2.2.2.2.1)), .int (oI (((tG (ro, le, rn, be, wr, wn, is, ni) pl pw).2).2.2.2.2.2.2.1)), .int (nI (((tG (ro, le, rn, be, wr, wn, is, ni) pl pw).2).2.2.2.2.2.2.2))])) :: (tr, .inl (g.2.1 0, 4000, .inl (nA (((tG (ro, le, rn, be, wr, wn, is, ni) pl pw).2).1)))) :: (tl, .inl (g.2.1 0, 100, .inl (nA (((tG (ro, le, rn, be, wr, wn, is, ni) pl pw).2).2.1)))) :: (tn, .inl (g.2.1 0, 100, .inl (nA (((tG (ro, le, rn, be, wr, wn, is, ni) pl pw).2).2.2.1)))) :: (tb, .inl (g.2.1 1, 100, .inl (bA (((tG (ro, le, rn, be, wr, wn, is, ni) pl pw).2).2.2.2.1)))) :: R = u) := by
  refine gEnterQ (cc := cX10_priceOfGoing) (maxL := 4) (ret := (some (.int))) (by decide +kernel) rfl (Nat.le_of_ble_eq_true rfl) ?_
  intro p e s m below meth c F hG hW ls hl
  have hS : va_S (gA g) s.heap s.heap [] := va_S.rf
  have hl : lv_has ls 4 [(0, .ref ht0), (1, .int (nI pl)), (2, .int (nI pw))] := hl
  have hW : gW g ((ht0, .inr (7, [.ref tr, .ref tl, .ref tn, .ref tb, .int (oI wr), .int (nI wn), .int (oI is), .int (nI ni)])) :: (tr, .inl (g.2.1 0, 4000, .inl (nA ro))) :: (tl, .inl (g.2.1 0, 100, .inl (nA le))) :: (tn, .inl (g.2.1 0, 100, .inl (nA rn))) :: (tb, .inl (g.2.1 1, 100, .inl (bA be))) :: R) s.heap := hW
  rcases is with _ | x
  · have hl : lv_has ls 4 [(0, .ref ht0), (1, .int (nI pl)), (2, .int (nI pw))] := hl
    have hW : gW g ((ht0, .inr (7, [.ref tr, .ref tl, .ref tn, .ref tb, .int (oI wr), .int (nI wn), .int (-1), .int (nI ni)])) :: (tr, .inl (g.2.1 0, 4000, .inl (nA ro))) :: (tl, .inl (g.2.1 0, 100, .inl (nA le))) :: (tn, .inl (g.2.1 0, 100, .inl (nA rn))) :: (tb, .inl (g.2.1 1, 100, .inl (bA be))) :: R) s.heap := hW
    refine lv_iconst (v := nI 0) F.1 F.2.1 dX10_priceOfGoing_0 rfl ?_
    refine lv_istore_n (lv' := [(3, .int (nI 0)), (0, .ref ht0), (1, .int (nI pl)), (2, .int (nI pw))]) F.1 F.2.1 dX10_priceOfGoing_1 rfl hl (by decide) rfl (fun ls hl => ?_)
    refine lv_aload_n F.1 F.2.1 dX10_priceOfGoing_2 rfl (lv_at hl 1 rfl) ?_
    refine gGet F hG hW nX10_priceOfGoing_X10 0 rfl rfl 6 (by decide) mX10_priceOfGoing_1 rfl dX10_priceOfGoing_3 ?_
    refine gS_i (n := 1) (As := [.int (-1)]) F hG hS hW (c_X10_isPlace_m g l  ) rfl gX10_priceOfGoing_X10_isPlace (by decide +kernel) ⟨rfl, rfl, Nat.le_of_ble_eq_true rfl, Nat.le_of_ble_eq_true rfl⟩ hl.1 (Nat.le_of_ble_eq_true rfl) ⟨Nat.le_of_ble_eq_true rfl, Nat.le_of_ble_eq_true rfl⟩ rfl rfl dX10_priceOfGoing_6 (fun r u H locs hq hW hS => ?_)
    obtain ⟨rfl, rfl⟩ := hq
    have hW : gW g ((ht0, .inr (7, [.ref tr, .ref tl, .ref tn, .ref tb, .int (oI wr), .int (nI wn), .int (-1), .int (nI ni)])) :: (tr, .inl (g.2.1 0, 4000, .inl (nA ro))) :: (tl, .inl (g.2.1 0, 100, .inl (nA le))) :: (tn, .inl (g.2.1 0, 100, .inl (nA rn))) :: (tb, .inl (g.2.1 1, 100, .inl (bA be))) :: R) _ := hW
    refine gIfEqB (tgt := 29) F dX10_priceOfGoing_9 (by decide) (fun c_9 => ?_) (fun q => by simp at q)
    refine lv_aload_n F.1 F.2.1 dX10_priceOfGoing_29 rfl (lv_at hl 1 rfl) ?_
    refine gGet F hG hW nX10_priceOfGoing_X10 0 rfl rfl 1 (by decide) mX10_priceOfGoing_2 rfl dX10_priceOfGoing_30 ?_
    refine lv_iload_n F.1 F.2.1 dX10_priceOfGoing_33 rfl (lv_at hl 2 rfl) ?_
    refine gLdI F hG hW 2 rfl (by omega) (by decide) dX10_priceOfGoing_34 ?_
    refine gTop (y := nI (le pl)) rfl ?_
    have hl9 := hle pl
    refine gIfNe (tgt := 47) F (by omega) dX10_priceOfGoing_35 (by decide) (fun c_35 => ?_) (fun c_35 => ?_)
    · refine lv_aload_n F.1 F.2.1 dX10_priceOfGoing_47 rfl (lv_at hl 1 rfl) ?_
      refine lv_iload_n F.1 F.2.1 dX10_priceOfGoing_48 rfl (lv_at hl 2 rfl) ?_
      refine gPut (w2 := (ht0, .inr (7, [.ref tr, .ref tl, .ref tn, .ref tb, .int (oI wr), .int (nI wn), .int (nI pl), .int (nI ni)])) :: (tr, .inl (g.2.1 0, 4000, .inl (nA ro))) :: (tl, .inl (g.2.1 0, 100, .inl (nA le))) :: (tn, .inl (g.2.1 0, 100, .inl (nA rn))) :: (tb, .inl (g.2.1 1, 100, .inl (bA be))) :: R) F hS hG hW nX10_priceOfGoing_X10 0 rfl rfl 6 (by decide) tyX10 tyX10_ok nmX10 mX10_priceOfGoing_1 rfl rfl rfl rfl (Nat.le_of_ble_eq_true rfl) rfl dX10_priceOfGoing_49 (fun H locs hW hS => ?_)
      refine lv_aload_n F.1 F.2.1 dX10_priceOfGoing_52 rfl (lv_at hl 1 rfl) ?_
      refine lv_iconst (v := nI 0) F.1 F.2.1 dX10_priceOfGoing_53 rfl ?_
      refine gPut (w2 := (ht0, .inr (7, [.ref tr, .ref tl, .ref tn, .ref tb, .int (oI wr), .int (nI wn), .int (nI pl), .int (nI 0)])) :: (tr, .inl (g.2.1 0, 4000, .inl (nA ro))) :: (tl, .inl (g.2.1 0, 100, .inl (nA le))) :: (tn, .inl (g.2.1 0, 100, .inl (nA rn))) :: (tb, .inl (g.2.1 1, 100, .inl (bA be))) :: R) F hS hG hW nX10_priceOfGoing_X10 0 rfl rfl 7 (by decide) tyX10 tyX10_ok nmX10 mX10_priceOfGoing_3 rfl rfl rfl rfl (Nat.le_of_ble_eq_true rfl) rfl dX10_priceOfGoing_54 (fun H locs hW hS => ?_)
      refine lv_aload_n F.1 F.2.1 dX10_priceOfGoing_57 rfl (lv_at hl 1 rfl) ?_
      have hW := gW.re (l := [(ht0, .inr (7, [.ref tr, .ref tl, .ref tn, .ref tb, .int (oI wr), .int (nI wn), .int (nI pl), .int (nI 0)])), (tr, .inl (g.2.1 0, 4000, .inl (nA ro))), (tl, .inl (g.2.1 0, 100, .inl (nA le)))]) (l' := [(ht0, .inr (7, [.ref tr, .ref tl, .ref tn, .ref tb, .int (oI wr), .int (nI wn), .int (nI pl), .int (nI 0)])), (tl, .inl (g.2.1 0, 100, .inl (nA le))), (tr, .inl (g.2.1 0, 4000, .inl (nA ro)))]) (R := (tn, .inl (g.2.1 0, 100, .inl (nA rn))) :: (tb, .inl (g.2.1 1, 100, .inl (bA be))) :: R) hW [0, 2, 1] 3 rfl (by decide) rfl
      have hW : gW g ((ht0, .inr (7, [.ref tr, .ref tl, .ref tn, .ref tb, .int (oI wr), .int (nI wn), .int (nI pl), .int (nI 0)])) :: (tl, .inl (g.2.1 0, 100, .inl (nA le))) :: (tr, .inl (g.2.1 0, 4000, .inl (nA ro))) :: (tn, .inl (g.2.1 0, 100, .inl (nA rn))) :: (tb, .inl (g.2.1 1, 100, .inl (bA be))) :: R) _ := hW
      refine gVv (n := 0) (q := (RX10, TX10, 8)) (q0 := 0) (As := []) F hG hS hW (c_X10_goRound g l  (by omega) (by omega) hle) rfl gX10_priceOfGoing_X10_goRound rfl rfl rfl (by decide +kernel) ⟨rfl, rfl, Nat.le_of_ble_eq_true rfl, Nat.le_of_ble_eq_true rfl⟩ hl.1 (Nat.le_of_ble_eq_true rfl) ⟨Nat.le_of_ble_eq_true rfl, Nat.le_of_ble_eq_true rfl⟩ rfl rfl dX10_priceOfGoing_58 (fun u H locs hq hW hS => ?_)
      obtain rfl := hq
      have hW : gW g ((ht0, .inr (7, [.ref tr, .ref tl, .ref tn, .ref tb, .int (oI wr), .int (nI wn), .int (nI pl), .int (nI (tGo le pl 0))])) :: (tl, .inl (g.2.1 0, 100, .inl (nA le))) :: (tr, .inl (g.2.1 0, 4000, .inl (nA ro))) :: (tn, .inl (g.2.1 0, 100, .inl (nA rn))) :: (tb, .inl (g.2.1 1, 100, .inl (bA be))) :: R) _ := hW
      refine lv_iload_n F.1 F.2.1 dX10_priceOfGoing_61 rfl (lv_at hl 0 rfl) ?_
      refine lv_iload_n F.1 F.2.1 dX10_priceOfGoing_62 rfl (lv_at hl 3 rfl) ?_
      refine gAdd F dX10_priceOfGoing_63 ?_
      have hW := gW.re (l := [(ht0, .inr (7, [.ref tr, .ref tl, .ref tn, .ref tb, .int (oI wr), .int (nI wn), .int (nI pl), .int (nI (tGo le pl 0))])), (tl, .inl (g.2.1 0, 100, .inl (nA le))), (tr, .inl (g.2.1 0, 4000, .inl (nA ro)))]) (l' := [(ht0, .inr (7, [.ref tr, .ref tl, .ref tn, .ref tb, .int (oI wr), .int (nI wn), .int (nI pl), .int (nI (tGo le pl 0))])), (tr, .inl (g.2.1 0, 4000, .inl (nA ro))), (tl, .inl (g.2.1 0, 100, .inl (nA le)))]) (R := (tn, .inl (g.2.1 0, 100, .inl (nA rn))) :: (tb, .inl (g.2.1 1, 100, .inl (bA be))) :: R) hW [0, 2, 1] 3 rfl (by decide) rfl
      have hW : gW g ((ht0, .inr (7, [.ref tr, .ref tl, .ref tn, .ref tb, .int (oI wr), .int (nI wn), .int (nI pl), .int (nI (tGo le pl 0))])) :: (tr, .inl (g.2.1 0, 4000, .inl (nA ro))) :: (tl, .inl (g.2.1 0, 100, .inl (nA le))) :: (tn, .inl (g.2.1 0, 100, .inl (nA rn))) :: (tb, .inl (g.2.1 1, 100, .inl (bA be))) :: R) _ := hW
      refine gRi F hW hS dX10_priceOfGoing_64 ?_
      have e : tG (ro, le, rn, be, wr, wn, none, ni) pl pw = (0 + pw, (ro, le, rn, be, wr, wn, some pl, tGo le pl 0)) := by rw [tG, show tIn ro none ni pl = false from rfl, if_neg Bool.false_ne_true, if_neg c_35]; rfl
      exact ⟨(by first | (rw [e]; done) | (rw [e]; rfl)), (by first | (rw [e]; done) | (rw [e]; rfl))⟩
    · refine lv_aload_n F.1 F.2.1 dX10_priceOfGoing_38 rfl (lv_at hl 1 rfl) ?_
      refine lv_iconst (v := -1) F.1 F.2.1 dX10_priceOfGoing_39 rfl ?_
      refine gPut (w2 := (ht0, .inr (7, [.ref tr, .ref tl, .ref tn, .ref tb, .int (oI wr), .int (nI wn), .int (-1), .int (nI ni)])) :: (tr, .inl (g.2.1 0, 4000, .inl (nA ro))) :: (tl, .inl (g.2.1 0, 100, .inl (nA le))) :: (tn, .inl (g.2.1 0, 100, .inl (nA rn))) :: (tb, .inl (g.2.1 1, 100, .inl (bA be))) :: R) F hS hG hW nX10_priceOfGoing_X10 0 rfl rfl 6 (by decide) tyX10 tyX10_ok nmX10 mX10_priceOfGoing_1 rfl rfl rfl rfl (Nat.le_of_ble_eq_true rfl) rfl dX10_priceOfGoing_40 (fun H locs hW hS => ?_)
      refine lv_iload_n F.1 F.2.1 dX10_priceOfGoing_43 rfl (lv_at hl 0 rfl) ?_
      refine lv_iconst (v := nI 4) F.1 F.2.1 dX10_priceOfGoing_44 rfl ?_
      refine gAdd F dX10_priceOfGoing_45 ?_
      refine gRi F hW hS dX10_priceOfGoing_46 ?_
      have e : tG (ro, le, rn, be, wr, wn, none, ni) pl pw = (0 + 4, (ro, le, rn, be, wr, wn, none, ni)) := by rw [tG, show tIn ro none ni pl = false from rfl, if_neg Bool.false_ne_true, if_pos c_35]; rfl
      exact ⟨(by first | (rw [e]; done) | (rw [e]; rfl)), (by first | (rw [e]; done) | (rw [e]; rfl))⟩
  · have hx : x < 100 := hx0 x rfl
    have hl : lv_has ls 4 [(0, .ref ht0), (1, .int (nI pl)), (2, .int (nI pw))] := hl
    have hW : gW g ((ht0, .inr (7, [.ref tr, .ref tl, .ref tn, .ref tb, .int (oI wr), .int (nI wn), .int (nI x), .int (nI ni)])) :: (tr, .inl (g.2.1 0, 4000, .inl (nA ro))) :: (tl, .inl (g.2.1 0, 100, .inl (nA le))) :: (tn, .inl (g.2.1 0, 100, .inl (nA rn))) :: (tb, .inl (g.2.1 1, 100, .inl (bA be))) :: R) s.heap := hW
    refine lv_iconst (v := nI 0) F.1 F.2.1 dX10_priceOfGoing_0 rfl ?_
    refine lv_istore_n (lv' := [(3, .int (nI 0)), (0, .ref ht0), (1, .int (nI pl)), (2, .int (nI pw))]) F.1 F.2.1 dX10_priceOfGoing_1 rfl hl (by decide) rfl (fun ls hl => ?_)
    refine lv_aload_n F.1 F.2.1 dX10_priceOfGoing_2 rfl (lv_at hl 1 rfl) ?_
    refine gGet F hG hW nX10_priceOfGoing_X10 0 rfl rfl 6 (by decide) mX10_priceOfGoing_1 rfl dX10_priceOfGoing_3 ?_
    refine gS_i (n := 1) (As := [.int (nI x)]) F hG hS hW (c_X10_isPlace_n g l  (by omega)) rfl gX10_priceOfGoing_X10_isPlace (by decide +kernel) ⟨rfl, rfl, Nat.le_of_ble_eq_true rfl, Nat.le_of_ble_eq_true rfl⟩ hl.1 (Nat.le_of_ble_eq_true rfl) ⟨Nat.le_of_ble_eq_true rfl, Nat.le_of_ble_eq_true rfl⟩ rfl rfl dX10_priceOfGoing_6 (fun r u H locs hq hW hS => ?_)
    obtain ⟨rfl, rfl⟩ := hq
    have hW : gW g ((ht0, .inr (7, [.ref tr, .ref tl, .ref tn, .ref tb, .int (oI wr), .int (nI wn), .int (nI x), .int (nI ni)])) :: (tr, .inl (g.2.1 0, 4000, .inl (nA ro))) :: (tl, .inl (g.2.1 0, 100, .inl (nA le))) :: (tn, .inl (g.2.1 0, 100, .inl (nA rn))) :: (tb, .inl (g.2.1 1, 100, .inl (bA be))) :: R) _ := hW
    refine gIfEqB (tgt := 29) F dX10_priceOfGoing_9 (by decide) (fun q => by simp at q) (fun c_9 => ?_)
    refine lv_aload_n F.1 F.2.1 dX10_priceOfGoing_12 rfl (lv_at hl 1 rfl) ?_
    refine gVi (n := 0) (q := (RX10, TX10, 8)) (q0 := 0) (As := []) F hG hS hW (c_X10_placeWithin g l  (by omega) (by omega)) rfl gX10_priceOfGoing_X10_placeWithin rfl rfl rfl (by decide +kernel) ⟨rfl, rfl, Nat.le_of_ble_eq_true rfl, Nat.le_of_ble_eq_true rfl⟩ hl.1 (Nat.le_of_ble_eq_true rfl) ⟨Nat.le_of_ble_eq_true rfl, Nat.le_of_ble_eq_true rfl⟩ rfl rfl dX10_priceOfGoing_13 (fun r u H locs hq hW hS => ?_)
    obtain ⟨rfl, rfl⟩ := hq
    have hW : gW g ((ht0, .inr (7, [.ref tr, .ref tl, .ref tn, .ref tb, .int (oI wr), .int (nI wn), .int (nI x), .int (nI ni)])) :: (tr, .inl (g.2.1 0, 4000, .inl (nA ro))) :: (tl, .inl (g.2.1 0, 100, .inl (nA le))) :: (tn, .inl (g.2.1 0, 100, .inl (nA rn))) :: (tb, .inl (g.2.1 1, 100, .inl (bA be))) :: R) _ := hW
    refine lv_iload_n F.1 F.2.1 dX10_priceOfGoing_16 rfl (lv_at hl 2 rfl) ?_
    have hr9 := hro (x * 40 + ni)
    refine gNe (tgt := 26) F (by omega) (by omega) dX10_priceOfGoing_17 (by decide) (fun c_17 => ?_) (fun c_17 => ?_)
    · refine lv_bipush (v := nI 10) F.1 F.2.1 dX10_priceOfGoing_26 (by decide) ?_
      refine lv_istore_n (lv' := [(3, .int (nI 10)), (0, .ref ht0), (1, .int (nI pl)), (2, .int (nI pw))]) F.1 F.2.1 dX10_priceOfGoing_28 rfl hl (by decide) rfl (fun ls hl => ?_)
      refine lv_aload_n F.1 F.2.1 dX10_priceOfGoing_29 rfl (lv_at hl 1 rfl) ?_
      refine gGet F hG hW nX10_priceOfGoing_X10 0 rfl rfl 1 (by decide) mX10_priceOfGoing_2 rfl dX10_priceOfGoing_30 ?_
      refine lv_iload_n F.1 F.2.1 dX10_priceOfGoing_33 rfl (lv_at hl 2 rfl) ?_
      refine gLdI F hG hW 2 rfl (by omega) (by decide) dX10_priceOfGoing_34 ?_
      refine gTop (y := nI (le pl)) rfl ?_
      have hl9 := hle pl
      refine gIfNe (tgt := 47) F (by omega) dX10_priceOfGoing_35 (by decide) (fun c_35 => ?_) (fun c_35 => ?_)
      · refine lv_aload_n F.1 F.2.1 dX10_priceOfGoing_47 rfl (lv_at hl 1 rfl) ?_
        refine lv_iload_n F.1 F.2.1 dX10_priceOfGoing_48 rfl (lv_at hl 2 rfl) ?_
        refine gPut (w2 := (ht0, .inr (7, [.ref tr, .ref tl, .ref tn, .ref tb, .int (oI wr), .int (nI wn), .int (nI pl), .int (nI ni)])) :: (tr, .inl (g.2.1 0, 4000, .inl (nA ro))) :: (tl, .inl (g.2.1 0, 100, .inl (nA le))) :: (tn, .inl (g.2.1 0, 100, .inl (nA rn))) :: (tb, .inl (g.2.1 1, 100, .inl (bA be))) :: R) F hS hG hW nX10_priceOfGoing_X10 0 rfl rfl 6 (by decide) tyX10 tyX10_ok nmX10 mX10_priceOfGoing_1 rfl rfl rfl rfl (Nat.le_of_ble_eq_true rfl) rfl dX10_priceOfGoing_49 (fun H locs hW hS => ?_)
        refine lv_aload_n F.1 F.2.1 dX10_priceOfGoing_52 rfl (lv_at hl 1 rfl) ?_
        refine lv_iconst (v := nI 0) F.1 F.2.1 dX10_priceOfGoing_53 rfl ?_
        refine gPut (w2 := (ht0, .inr (7, [.ref tr, .ref tl, .ref tn, .ref tb, .int (oI wr), .int (nI wn), .int (nI pl), .int (nI 0)])) :: (tr, .inl (g.2.1 0, 4000, .inl (nA ro))) :: (tl, .inl (g.2.1 0, 100, .inl (nA le))) :: (tn, .inl (g.2.1 0, 100, .inl (nA rn))) :: (tb, .inl (g.2.1 1, 100, .inl (bA be))) :: R) F hS hG hW nX10_priceOfGoing_X10 0 rfl rfl 7 (by decide) tyX10 tyX10_ok nmX10 mX10_priceOfGoing_3 rfl rfl rfl rfl (Nat.le_of_ble_eq_true rfl) rfl dX10_priceOfGoing_54 (fun H locs hW hS => ?_)
        refine lv_aload_n F.1 F.2.1 dX10_priceOfGoing_57 rfl (lv_at hl 1 rfl) ?_
        have hW := gW.re (l := [(ht0, .inr (7, [.ref tr, .ref tl, .ref tn, .ref tb, .int (oI wr), .int (nI wn), .int (nI pl), .int (nI 0)])), (tr, .inl (g.2.1 0, 4000, .inl (nA ro))), (tl, .inl (g.2.1 0, 100, .inl (nA le)))]) (l' := [(ht0, .inr (7, [.ref tr, .ref tl, .ref tn, .ref tb, .int (oI wr), .int (nI wn), .int (nI pl), .int (nI 0)])), (tl, .inl (g.2.1 0, 100, .inl (nA le))), (tr, .inl (g.2.1 0, 4000, .inl (nA ro)))]) (R := (tn, .inl (g.2.1 0, 100, .inl (nA rn))) :: (tb, .inl (g.2.1 1, 100, .inl (bA be))) :: R) hW [0, 2, 1] 3 rfl (by decide) rfl
        have hW : gW g ((ht0, .inr (7, [.ref tr, .ref tl, .ref tn, .ref tb, .int (oI wr), .int (nI wn), .int (nI pl), .int (nI 0)])) :: (tl, .inl (g.2.1 0, 100, .inl (nA le))) :: (tr, .inl (g.2.1 0, 4000, .inl (nA ro))) :: (tn, .inl (g.2.1 0, 100, .inl (nA rn))) :: (tb, .inl (g.2.1 1, 100, .inl (bA be))) :: R) _ := hW
        refine gVv (n := 0) (q := (RX10, TX10, 8)) (q0 := 0) (As := []) F hG hS hW (c_X10_goRound g l  (by omega) (by omega) hle) rfl gX10_priceOfGoing_X10_goRound rfl rfl rfl (by decide +kernel) ⟨rfl, rfl, Nat.le_of_ble_eq_true rfl, Nat.le_of_ble_eq_true rfl⟩ hl.1 (Nat.le_of_ble_eq_true rfl) ⟨Nat.le_of_ble_eq_true rfl, Nat.le_of_ble_eq_true rfl⟩ rfl rfl dX10_priceOfGoing_58 (fun u H locs hq hW hS => ?_)
        obtain rfl := hq
        have hW : gW g ((ht0, .inr (7, [.ref tr, .ref tl, .ref tn, .ref tb, .int (oI wr), .int (nI wn), .int (nI pl), .int (nI (tGo le pl 0))])) :: (tl, .inl (g.2.1 0, 100, .inl (nA le))) :: (tr, .inl (g.2.1 0, 4000, .inl (nA ro))) :: (tn, .inl (g.2.1 0, 100, .inl (nA rn))) :: (tb, .inl (g.2.1 1, 100, .inl (bA be))) :: R) _ := hW
        refine lv_iload_n F.1 F.2.1 dX10_priceOfGoing_61 rfl (lv_at hl 0 rfl) ?_
        refine lv_iload_n F.1 F.2.1 dX10_priceOfGoing_62 rfl (lv_at hl 3 rfl) ?_
        refine gAdd F dX10_priceOfGoing_63 ?_
        have hW := gW.re (l := [(ht0, .inr (7, [.ref tr, .ref tl, .ref tn, .ref tb, .int (oI wr), .int (nI wn), .int (nI pl), .int (nI (tGo le pl 0))])), (tl, .inl (g.2.1 0, 100, .inl (nA le))), (tr, .inl (g.2.1 0, 4000, .inl (nA ro)))]) (l' := [(ht0, .inr (7, [.ref tr, .ref tl, .ref tn, .ref tb, .int (oI wr), .int (nI wn), .int (nI pl), .int (nI (tGo le pl 0))])), (tr, .inl (g.2.1 0, 4000, .inl (nA ro))), (tl, .inl (g.2.1 0, 100, .inl (nA le)))]) (R := (tn, .inl (g.2.1 0, 100, .inl (nA rn))) :: (tb, .inl (g.2.1 1, 100, .inl (bA be))) :: R) hW [0, 2, 1] 3 rfl (by decide) rfl
        have hW : gW g ((ht0, .inr (7, [.ref tr, .ref tl, .ref tn, .ref tb, .int (oI wr), .int (nI wn), .int (nI pl), .int (nI (tGo le pl 0))])) :: (tr, .inl (g.2.1 0, 4000, .inl (nA ro))) :: (tl, .inl (g.2.1 0, 100, .inl (nA le))) :: (tn, .inl (g.2.1 0, 100, .inl (nA rn))) :: (tb, .inl (g.2.1 1, 100, .inl (bA be))) :: R) _ := hW
        refine gRi F hW hS dX10_priceOfGoing_64 ?_
        have e : tG (ro, le, rn, be, wr, wn, some x, ni) pl pw = (10 + pw, (ro, le, rn, be, wr, wn, some pl, tGo le pl 0)) := by rw [tG, show tIn ro (some x) ni pl = false from decide_eq_false c_17, if_neg Bool.false_ne_true, if_neg c_35]; rfl
        exact ⟨(by first | (rw [e]; done) | (rw [e]; rfl)), (by first | (rw [e]; done) | (rw [e]; rfl))⟩
      · refine lv_aload_n F.1 F.2.1 dX10_priceOfGoing_38 rfl (lv_at hl 1 rfl) ?_
        refine lv_iconst (v := -1) F.1 F.2.1 dX10_priceOfGoing_39 rfl ?_
        refine gPut (w2 := (ht0, .inr (7, [.ref tr, .ref tl, .ref tn, .ref tb, .int (oI wr), .int (nI wn), .int (-1), .int (nI ni)])) :: (tr, .inl (g.2.1 0, 4000, .inl (nA ro))) :: (tl, .inl (g.2.1 0, 100, .inl (nA le))) :: (tn, .inl (g.2.1 0, 100, .inl (nA rn))) :: (tb, .inl (g.2.1 1, 100, .inl (bA be))) :: R) F hS hG hW nX10_priceOfGoing_X10 0 rfl rfl 6 (by decide) tyX10 tyX10_ok nmX10 mX10_priceOfGoing_1 rfl rfl rfl rfl (Nat.le_of_ble_eq_true rfl) rfl dX10_priceOfGoing_40 (fun H locs hW hS => ?_)
        refine lv_iload_n F.1 F.2.1 dX10_priceOfGoing_43 rfl (lv_at hl 0 rfl) ?_
        refine lv_iconst (v := nI 4) F.1 F.2.1 dX10_priceOfGoing_44 rfl ?_
        refine gAdd F dX10_priceOfGoing_45 ?_
        refine gRi F hW hS dX10_priceOfGoing_46 ?_
        have e : tG (ro, le, rn, be, wr, wn, some x, ni) pl pw = (10 + 4, (ro, le, rn, be, wr, wn, none, ni)) := by rw [tG, show tIn ro (some x) ni pl = false from decide_eq_false c_17, if_neg Bool.false_ne_true, if_pos c_35]; rfl
        exact ⟨(by first | (rw [e]; done) | (rw [e]; rfl)), (by first | (rw [e]; done) | (rw [e]; rfl))⟩
    · refine lv_aload_n F.1 F.2.1 dX10_priceOfGoing_20 rfl (lv_at hl 1 rfl) ?_
      have hW := gW.re (l := [(ht0, .inr (7, [.ref tr, .ref tl, .ref tn, .ref tb, .int (oI wr), .int (nI wn), .int (nI x), .int (nI ni)])), (tr, .inl (g.2.1 0, 4000, .inl (nA ro))), (tl, .inl (g.2.1 0, 100, .inl (nA le)))]) (l' := [(ht0, .inr (7, [.ref tr, .ref tl, .ref tn, .ref tb, .int (oI wr), .int (nI wn), .int (nI x), .int (nI ni)])), (tl, .inl (g.2.1 0, 100, .inl (nA le))), (tr, .inl (g.2.1 0, 4000, .inl (nA ro)))]) (R := (tn, .inl (g.2.1 0, 100, .inl (nA rn))) :: (tb, .inl (g.2.1 1, 100, .inl (bA be))) :: R) hW [0, 2, 1] 3 rfl (by decide) rfl
      have hW : gW g ((ht0, .inr (7, [.ref tr, .ref tl, .ref tn, .ref tb, .int (oI wr), .int (nI wn), .int (nI x), .int (nI ni)])) :: (tl, .inl (g.2.1 0, 100, .inl (nA le))) :: (tr, .inl (g.2.1 0, 4000, .inl (nA ro))) :: (tn, .inl (g.2.1 0, 100, .inl (nA rn))) :: (tb, .inl (g.2.1 1, 100, .inl (bA be))) :: R) _ := hW
      refine gVv (n := 0) (q := (RX10, TX10, 8)) (q0 := 0) (As := []) F hG hS hW (c_X10_goRound g l  (by omega) (by omega) hle) rfl gX10_priceOfGoing_X10_goRound rfl rfl rfl (by decide +kernel) ⟨rfl, rfl, Nat.le_of_ble_eq_true rfl, Nat.le_of_ble_eq_true rfl⟩ hl.1 (Nat.le_of_ble_eq_true rfl) ⟨Nat.le_of_ble_eq_true rfl, Nat.le_of_ble_eq_true rfl⟩ rfl rfl dX10_priceOfGoing_21 (fun u H locs hq hW hS => ?_)
      obtain rfl := hq
      have hW : gW g ((ht0, .inr (7, [.ref tr, .ref tl, .ref tn, .ref tb, .int (oI wr), .int (nI wn), .int (nI x), .int (nI (tGo le x ni))])) :: (tl, .inl (g.2.1 0, 100, .inl (nA le))) :: (tr, .inl (g.2.1 0, 4000, .inl (nA ro))) :: (tn, .inl (g.2.1 0, 100, .inl (nA rn))) :: (tb, .inl (g.2.1 1, 100, .inl (bA be))) :: R) _ := hW
      refine lv_iload_n F.1 F.2.1 dX10_priceOfGoing_24 rfl (lv_at hl 3 rfl) ?_
      have hW := gW.re (l := [(ht0, .inr (7, [.ref tr, .ref tl, .ref tn, .ref tb, .int (oI wr), .int (nI wn), .int (nI x), .int (nI (tGo le x ni))])), (tl, .inl (g.2.1 0, 100, .inl (nA le))), (tr, .inl (g.2.1 0, 4000, .inl (nA ro)))]) (l' := [(ht0, .inr (7, [.ref tr, .ref tl, .ref tn, .ref tb, .int (oI wr), .int (nI wn), .int (nI x), .int (nI (tGo le x ni))])), (tr, .inl (g.2.1 0, 4000, .inl (nA ro))), (tl, .inl (g.2.1 0, 100, .inl (nA le)))]) (R := (tn, .inl (g.2.1 0, 100, .inl (nA rn))) :: (tb, .inl (g.2.1 1, 100, .inl (bA be))) :: R) hW [0, 2, 1] 3 rfl (by decide) rfl
      have hW : gW g ((ht0, .inr (7, [.ref tr, .ref tl, .ref tn, .ref tb, .int (oI wr), .int (nI wn), .int (nI x), .int (nI (tGo le x ni))])) :: (tr, .inl (g.2.1 0, 4000, .inl (nA ro))) :: (tl, .inl (g.2.1 0, 100, .inl (nA le))) :: (tn, .inl (g.2.1 0, 100, .inl (nA rn))) :: (tb, .inl (g.2.1 1, 100, .inl (bA be))) :: R) _ := hW
      refine gRi F hW hS dX10_priceOfGoing_25 ?_
      have e : tG (ro, le, rn, be, wr, wn, some x, ni) pl pw = (pw, (ro, le, rn, be, wr, wn, some x, tGo le x ni)) := if_pos (decide_eq_true c_17)
      exact ⟨(by first | (rw [e]; done) | (rw [e]; rfl)), (by first | (rw [e]; done) | (rw [e]; rfl))⟩

abbrev rm_X10_countRound : Room := ({ frames := 0, cells := 0, slots := 0, locals := 0 } : Room)
theorem mX10_countRound_1 : Cond.fieldLink RX10 18 "StepperHearts$TraceHeart" "rounds" "[I" ∈ wsX10_countRound := List.mem_of_getElem? (i := 1) rfl
theorem nX10_countRound_X10 : ∀ w ∈ wsX100, w ∈ wsX10_countRound := fun _ h => List.mem_cons_of_mem _ (List.mem_append_right _ (h))
theorem mX10_countRound_2 : Cond.fieldLink RX10 25 "StepperHearts$TraceHeart" "writing" "I" ∈ wsX10_countRound := List.mem_of_getElem? (i := 2) rfl
theorem mX10_countRound_3 : Cond.fieldLink RX10 21 "StepperHearts$TraceHeart" "wasBegun" "[Z" ∈ wsX10_countRound := List.mem_of_getElem? (i := 3) rfl
theorem mX10_countRound_4 : Cond.fieldLink RX10 29 "StepperHearts$TraceHeart" "written" "I" ∈ wsX10_countRound := List.mem_of_getElem? (i := 4) rfl
set_option maxRecDepth 100000 in
set_option maxHeartbeats 4000000 in
theorem c_X10_countRound (g : gC) (l : Launch) {ht0 : Nat} {tr : Nat} {tl : Nat} {tn : Nat} {tb : Nat} {wn : Nat} {ni : Nat} {wr : Option Nat} {is : Option Nat} {ro : Nat → Nat} {le : Nat → Nat} {rn : Nat → Nat} {be : Nat → Bool} {q : Nat} {R : va_W} (hq : q < 100) (hw0 : ∀ w, wr = some w → w < 2 ^ 31) (hrn : rn q < 2 ^ 30) : cV g l yX10_countRound wsX10_countRound rm_X10_countRound 0 0 [.ref ht0, .int (nI q)] ((ht0, .inr (7, [.ref tr, .ref tl, .ref tn, .ref tb, .int (oI wr), .int (nI wn), .int (oI is), .int (nI ni)])) :: (tr, .inl (g.2.1 0, 4000, .inl (nA ro))) :: (tl, .inl (g.2.1 0, 100, .inl (nA le))) :: (tn, .inl (g.2.1 0, 100, .inl (nA rn))) :: (tb, .inl (g.2.1 1, 100, .inl (bA be))) :: R) (fun u => (ht0, .inr (7, [.ref tr, .ref tl, .ref tn, .ref tb, .int (oI ((tC (ro, le, rn, be, wr, wn, is, ni) q).2.2.2.2.1)), .int (nI ((tC (ro, le, rn, be, wr, wn, is, ni) q).2.2.2.2.2.1)), .int (oI ((tC (ro, le, rn, be, wr, wn, is, ni) q).2.2.2.2.2.2.1)), .int (nI ((tC (ro, le, rn, be, wr, wn, is, ni) q).2.2.2.2.2.2.2))])) :: (tr, .inl (g.2.1 0, 4000, .inl (nA ((tC (ro, le, rn, be, wr, wn, is, ni) q).1)))) :: (tl, .inl (g.2.1 0, 100, .inl (nA ((tC (ro, le, rn, be, wr, wn, is, ni) q).2.1)))) :: (tn, .inl (g.2.1 0, 100, .inl (nA ((tC (ro, le, rn, be, wr, wn, is, ni) q).2.2.1)))) :: (tb, .inl (g.2.1 1, 100, .inl (bA ((tC (ro, le, rn, be, wr, wn, is, ni) q).2.2.2.1)))) :: R = u) := by
  refine gEnterQ (cc := cX10_countRound) (maxL := 2) (ret := none) (by decide +kernel) rfl (Nat.le_of_ble_eq_true rfl) ?_
  intro p e s m below meth c F hG hW ls hl
  have hS : va_S (gA g) s.heap s.heap [] := va_S.rf
  have hl : lv_has ls 2 [(0, .ref ht0), (1, .int (nI q))] := hl
  have hW : gW g ((ht0, .inr (7, [.ref tr, .ref tl, .ref tn, .ref tb, .int (oI wr), .int (nI wn), .int (oI is), .int (nI ni)])) :: (tr, .inl (g.2.1 0, 4000, .inl (nA ro))) :: (tl, .inl (g.2.1 0, 100, .inl (nA le))) :: (tn, .inl (g.2.1 0, 100, .inl (nA rn))) :: (tb, .inl (g.2.1 1, 100, .inl (bA be))) :: R) s.heap := hW
  refine lv_aload_n F.1 F.2.1 dX10_countRound_0 rfl (lv_at hl 0 rfl) ?_
  refine gGet F hG hW nX10_countRound_X10 0 rfl rfl 2 (by decide) mX10_countRound_1 rfl dX10_countRound_1 ?_
  refine lv_iload_n F.1 F.2.1 dX10_countRound_4 rfl (lv_at hl 1 rfl) ?_
  refine lv_dup2_11 F.1 F.2.1 dX10_countRound_5 rfl rfl ?_
  refine gLdI F hG hW 3 rfl (by omega) (by decide) dX10_countRound_6 ?_
  refine gTop (y := nI (rn q)) rfl ?_
  refine lv_iconst (v := nI 1) F.1 F.2.1 dX10_countRound_7 rfl ?_
  refine gAdd F dX10_countRound_8 ?_
  refine gStIN (w2 := (ht0, .inr (7, [.ref tr, .ref tl, .ref tn, .ref tb, .int (oI wr), .int (nI wn), .int (oI is), .int (nI ni)])) :: (tr, .inl (g.2.1 0, 4000, .inl (nA ro))) :: (tl, .inl (g.2.1 0, 100, .inl (nA le))) :: (tn, .inl (g.2.1 0, 100, .inl (nA (updN rn q ((rn q) + 1))))) :: (tb, .inl (g.2.1 1, 100, .inl (bA be))) :: R) F hG hW 3 rfl (by omega) (by decide) hS rfl dX10_countRound_9 (fun H locs hW hS => ?_)
  refine lv_aload_n F.1 F.2.1 dX10_countRound_10 rfl (lv_at hl 0 rfl) ?_
  refine gGet F hG hW nX10_countRound_X10 0 rfl rfl 2 (by decide) mX10_countRound_1 rfl dX10_countRound_11 ?_
  refine lv_iload_n F.1 F.2.1 dX10_countRound_14 rfl (lv_at hl 1 rfl) ?_
  refine gLdI F hG hW 3 rfl (by omega) (by decide) dX10_countRound_15 ?_
  refine gTop (y := nI ((updN rn q ((rn q) + 1)) q)) rfl ?_
  refine gTop (y := nI (rn q + 1)) (by rw [updN_s]) ?_
  refine lv_bipush (v := nI 8) F.1 F.2.1 dX10_countRound_16 (by decide) ?_
  refine gLt (tgt := 55) F (by omega) (by omega) dX10_countRound_18 (by decide) (fun c_18 => ?_) (fun c_18 => ?_)
  · refine gRv F hW hS dX10_countRound_55 ?_
    have e : tC (ro, le, rn, be, wr, wn, is, ni) q = (ro, le, updN rn q (rn q + 1), be, wr, wn, is, ni) := if_neg (fun z => absurd z.1 (Nat.not_le.mpr c_18))
    show _ = _
    exact (by first | (rw [e]; done) | (rw [e]; rfl))
  · refine lv_aload_n F.1 F.2.1 dX10_countRound_21 rfl (lv_at hl 0 rfl) ?_
    refine gGet F hG hW nX10_countRound_X10 0 rfl rfl 4 (by decide) mX10_countRound_2 rfl dX10_countRound_22 ?_
    refine lv_iconst (v := -1) F.1 F.2.1 dX10_countRound_25 rfl ?_
    refine lv_icmp_ne (tgt := 55) F.1 F.2.1 dX10_countRound_26 (by decide) (fun c_26 => ?_) (fun c_26 => ?_)
    · refine gRv F hW hS dX10_countRound_55 ?_
      have e : tC (ro, le, rn, be, wr, wn, is, ni) q = (ro, le, updN rn q (rn q + 1), be, wr, wn, is, ni) := if_neg (fun z => c_26 ((oI_m hw0).mpr z.2.1))
      show _ = _
      exact (by first | (rw [e]; done) | (rw [e]; rfl))
    · refine lv_aload_n F.1 F.2.1 dX10_countRound_29 rfl (lv_at hl 0 rfl) ?_
      refine gGet F hG hW nX10_countRound_X10 0 rfl rfl 3 (by decide) mX10_countRound_3 rfl dX10_countRound_30 ?_
      refine lv_iload_n F.1 F.2.1 dX10_countRound_33 rfl (lv_at hl 1 rfl) ?_
      refine gLdZ F hG hW 4 rfl (by omega) (by decide) dX10_countRound_34 ?_
      refine gTop (y := bI (be q)) rfl ?_
      refine gIfNeB (tgt := 55) F dX10_countRound_35 (by decide) (fun c_35 => ?_) (fun c_35 => ?_)
      · refine gRv F hW hS dX10_countRound_55 ?_
        have e : tC (ro, le, rn, be, wr, wn, is, ni) q = (ro, le, updN rn q (rn q + 1), be, wr, wn, is, ni) := if_neg (fun z => by rw [z.2.2] at c_35; cases c_35)
        show _ = _
        exact (by first | (rw [e]; done) | (rw [e]; rfl))
      · refine lv_aload_n F.1 F.2.1 dX10_countRound_38 rfl (lv_at hl 0 rfl) ?_
        refine gGet F hG hW nX10_countRound_X10 0 rfl rfl 3 (by decide) mX10_countRound_3 rfl dX10_countRound_39 ?_
        refine lv_iload_n F.1 F.2.1 dX10_countRound_42 rfl (lv_at hl 1 rfl) ?_
        refine lv_iconst (v := nI 1) F.1 F.2.1 dX10_countRound_43 rfl ?_
        refine gTop (y := bI true) rfl ?_
        refine gStZB (w2 := (ht0, .inr (7, [.ref tr, .ref tl, .ref tn, .ref tb, .int (oI wr), .int (nI wn), .int (oI is), .int (nI ni)])) :: (tr, .inl (g.2.1 0, 4000, .inl (nA ro))) :: (tl, .inl (g.2.1 0, 100, .inl (nA le))) :: (tn, .inl (g.2.1 0, 100, .inl (nA (updN rn q ((rn q) + 1))))) :: (tb, .inl (g.2.1 1, 100, .inl (bA (updB be q true)))) :: R) F hG hW 4 rfl (by omega) (by decide) hS rfl dX10_countRound_44 (fun H locs hW hS => ?_)
        refine lv_aload_n F.1 F.2.1 dX10_countRound_45 rfl (lv_at hl 0 rfl) ?_
        refine lv_iload_n F.1 F.2.1 dX10_countRound_46 rfl (lv_at hl 1 rfl) ?_
        refine gPut (w2 := (ht0, .inr (7, [.ref tr, .ref tl, .ref tn, .ref tb, .int (nI q), .int (nI wn), .int (oI is), .int (nI ni)])) :: (tr, .inl (g.2.1 0, 4000, .inl (nA ro))) :: (tl, .inl (g.2.1 0, 100, .inl (nA le))) :: (tn, .inl (g.2.1 0, 100, .inl (nA (updN rn q ((rn q) + 1))))) :: (tb, .inl (g.2.1 1, 100, .inl (bA (updB be q true)))) :: R) F hS hG hW nX10_countRound_X10 0 rfl rfl 4 (by decide) tyX10 tyX10_ok nmX10 mX10_countRound_2 rfl rfl rfl rfl (Nat.le_of_ble_eq_true rfl) rfl dX10_countRound_47 (fun H locs hW hS => ?_)
        refine lv_aload_n F.1 F.2.1 dX10_countRound_50 rfl (lv_at hl 0 rfl) ?_
        refine lv_iconst (v := nI 0) F.1 F.2.1 dX10_countRound_51 rfl ?_
        refine gPut (w2 := (ht0, .inr (7, [.ref tr, .ref tl, .ref tn, .ref tb, .int (nI q), .int (nI 0), .int (oI is), .int (nI ni)])) :: (tr, .inl (g.2.1 0, 4000, .inl (nA ro))) :: (tl, .inl (g.2.1 0, 100, .inl (nA le))) :: (tn, .inl (g.2.1 0, 100, .inl (nA (updN rn q ((rn q) + 1))))) :: (tb, .inl (g.2.1 1, 100, .inl (bA (updB be q true)))) :: R) F hS hG hW nX10_countRound_X10 0 rfl rfl 5 (by decide) tyX10 tyX10_ok nmX10 mX10_countRound_4 rfl rfl rfl rfl (Nat.le_of_ble_eq_true rfl) rfl dX10_countRound_52 (fun H locs hW hS => ?_)
        refine gRv F hW hS dX10_countRound_55 ?_
        have e : tC (ro, le, rn, be, wr, wn, is, ni) q = (ro, le, updN rn q (rn q + 1), updB be q true, some q, 0, is, ni) := if_pos ⟨c_18, (oI_m hw0).mp c_26, c_35⟩
        show _ = _
        exact (by first | (rw [e]; done) | (rw [e]; rfl))

abbrev rm_X10_price : Room := ({ frames := 3, cells := 0, slots := 0, locals := 64 } : Room)
theorem mX10_price_1 : Cond.fieldLink RX10 52 "StepperHearts$Kind" "ZERO" "LStepperHearts$Kind;" ∈ wsX10_price := List.mem_of_getElem? (i := 1) rfl
set_option maxRecDepth 100000 in
set_option maxHeartbeats 4000000 in
theorem c_X10_price (g : gC) (l : Launch) {ht0 : Nat} {tr : Nat} {tl : Nat} {tn : Nat} {tb : Nat} {wn : Nat} {ni : Nat} {wr : Option Nat} {is : Option Nat} {ro : Nat → Nat} {le : Nat → Nat} {rn : Nat → Nat} {be : Nat → Bool} {pl : Nat} {k : Nat} {M : Nat} {la : Option Nat} {R : va_W} (hp : pl < 100) (hk : k < 15) (hok : tOk (ro, le, rn, be, wr, wn, is, ni) M) (hN : M < 2 ^ 30) (hla : ∀ t, la = some t → t < 100) : cI g l yX10_price wsX10_price rm_X10_price 0 0 [.ref ht0, .int (nI pl), .ref (g.2.2.2 k), .int (oI la)] ((ht0, .inr (7, [.ref tr, .ref tl, .ref tn, .ref tb, .int (oI wr), .int (nI wn), .int (oI is), .int (nI ni)])) :: (tr, .inl (g.2.1 0, 4000, .inl (nA ro))) :: (tl, .inl (g.2.1 0, 100, .inl (nA le))) :: (tn, .inl (g.2.1 0, 100, .inl (nA rn))) :: (tb, .inl (g.2.1 1, 100, .inl (bA be))) :: R) (fun r u => (nI (tPr (ro, le, rn, be, wr, wn, is, ni) pl k)) = r ∧ (ht0, .inr (7, [.ref tr, .ref tl, .ref tn, .ref tb, .int (oI ((tP (ro, le, rn, be, wr, wn, is, ni) pl k la).2.2.2.2.1)), .int (nI ((tP (ro, le, rn, be, wr, wn, is, ni) pl k la).2.2.2.2.2.1)), .int (oI ((tP (ro, le, rn, be, wr, wn, is, ni) pl k la).2.2.2.2.2.2.1)), .int (nI ((tP (ro, le, rn, be, wr, wn, is, ni) pl k la).2.2.2.2.2.2.2))])) :: (tr, .inl (g.2.1 0, 4000, .inl (nA ((tP (ro, le, rn, be, wr, wn, is, ni) pl k la).1)))) :: (tl, .inl (g.2.1 0, 100, .inl (nA ((tP (ro, le, rn, be, wr, wn, is, ni) pl k la).2.1)))) :: (tn, .inl (g.2.1 0, 100, .inl (nA ((tP (ro, le, rn, be, wr, wn, is, ni) pl k la).2.2.1)))) :: (tb, .inl (g.2.1 1, 100, .inl (bA ((tP (ro, le, rn, be, wr, wn, is, ni) pl k la).2.2.2.1)))) :: R = u) := by
  refine gEnterQ (cc := cX10_price) (maxL := 5) (ret := (some (.int))) (by decide +kernel) rfl (Nat.le_of_ble_eq_true rfl) ?_
  intro p e s m below meth c F hG hW ls hl
  have hS : va_S (gA g) s.heap s.heap [] := va_S.rf
  have hl : lv_has ls 5 [(0, .ref ht0), (1, .int (nI pl)), (2, .ref (g.2.2.2 k)), (3, .int (oI la))] := hl
  have hW : gW g ((ht0, .inr (7, [.ref tr, .ref tl, .ref tn, .ref tb, .int (oI wr), .int (nI wn), .int (oI is), .int (nI ni)])) :: (tr, .inl (g.2.1 0, 4000, .inl (nA ro))) :: (tl, .inl (g.2.1 0, 100, .inl (nA le))) :: (tn, .inl (g.2.1 0, 100, .inl (nA rn))) :: (tb, .inl (g.2.1 1, 100, .inl (bA be))) :: R) s.heap := hW
  rcases la with _ | t
  · have hl : lv_has ls 5 [(0, .ref ht0), (1, .int (nI pl)), (2, .ref (g.2.2.2 k)), (3, .int (-1))] := hl
    have hW : gW g ((ht0, .inr (7, [.ref tr, .ref tl, .ref tn, .ref tb, .int (oI wr), .int (nI wn), .int (oI is), .int (nI ni)])) :: (tr, .inl (g.2.1 0, 4000, .inl (nA ro))) :: (tl, .inl (g.2.1 0, 100, .inl (nA le))) :: (tn, .inl (g.2.1 0, 100, .inl (nA rn))) :: (tb, .inl (g.2.1 1, 100, .inl (bA be))) :: R) s.heap := hW
    refine lv_iload_n F.1 F.2.1 dX10_price_0 rfl (lv_at hl 1 rfl) ?_
    refine gS_i (n := 1) (As := [.int (nI pl)]) F hG hS hW (c_X10_isPlace_n g l  (by omega)) rfl gX10_price_X10_isPlace (by decide +kernel) ⟨rfl, rfl, Nat.le_of_ble_eq_true rfl, Nat.le_of_ble_eq_true rfl⟩ hl.1 (Nat.le_of_ble_eq_true rfl) ⟨Nat.le_of_ble_eq_true rfl, Nat.le_of_ble_eq_true rfl⟩ rfl rfl dX10_price_1 (fun r u H locs hq hW hS => ?_)
    obtain ⟨rfl, rfl⟩ := hq
    have hW : gW g ((ht0, .inr (7, [.ref tr, .ref tl, .ref tn, .ref tb, .int (oI wr), .int (nI wn), .int (oI is), .int (nI ni)])) :: (tr, .inl (g.2.1 0, 4000, .inl (nA ro))) :: (tl, .inl (g.2.1 0, 100, .inl (nA le))) :: (tn, .inl (g.2.1 0, 100, .inl (nA rn))) :: (tb, .inl (g.2.1 1, 100, .inl (bA be))) :: R) _ := hW
    refine gIfNeB (tgt := 9) F dX10_price_4 (by decide) (fun c_4 => ?_) (fun q => by simp at q)
    have o1 := tW_ok hok hp
    refine lv_aload_n F.1 F.2.1 dX10_price_9 rfl (lv_at hl 0 rfl) ?_
    refine lv_iload_n F.1 F.2.1 dX10_price_10 rfl (lv_at hl 1 rfl) ?_
    refine gVv (n := 1) (q := (RX10, TX10, 8)) (q0 := 0) (As := [.int (nI pl)]) F hG hS hW (c_X10_write g l  hp hok.2.2.2.1 hok.2.2.2.2.1) rfl gX10_price_X10_write rfl rfl rfl (by decide +kernel) ⟨rfl, rfl, Nat.le_of_ble_eq_true rfl, Nat.le_of_ble_eq_true rfl⟩ hl.1 (Nat.le_of_ble_eq_true rfl) ⟨Nat.le_of_ble_eq_true rfl, Nat.le_of_ble_eq_true rfl⟩ rfl rfl dX10_price_11 (fun u H locs hq hW hS => ?_)
    obtain rfl := hq
    have hW : gW g ((ht0, .inr (7, [.ref tr, .ref tl, .ref tn, .ref tb, .int (oI ((tW (ro, le, rn, be, wr, wn, is, ni) pl).2.2.2.2.1)), .int (nI ((tW (ro, le, rn, be, wr, wn, is, ni) pl).2.2.2.2.2.1)), .int (oI ((tW (ro, le, rn, be, wr, wn, is, ni) pl).2.2.2.2.2.2.1)), .int (nI ((tW (ro, le, rn, be, wr, wn, is, ni) pl).2.2.2.2.2.2.2))])) :: (tr, .inl (g.2.1 0, 4000, .inl (nA ((tW (ro, le, rn, be, wr, wn, is, ni) pl).1)))) :: (tl, .inl (g.2.1 0, 100, .inl (nA ((tW (ro, le, rn, be, wr, wn, is, ni) pl).2.1)))) :: (tn, .inl (g.2.1 0, 100, .inl (nA ((tW (ro, le, rn, be, wr, wn, is, ni) pl).2.2.1)))) :: (tb, .inl (g.2.1 1, 100, .inl (bA ((tW (ro, le, rn, be, wr, wn, is, ni) pl).2.2.2.1)))) :: R) _ := hW
    refine lv_aload_n F.1 F.2.1 dX10_price_14 rfl (lv_at hl 0 rfl) ?_
    refine lv_iload_n F.1 F.2.1 dX10_price_15 rfl (lv_at hl 1 rfl) ?_
    refine lv_aload_n F.1 F.2.1 dX10_price_16 rfl (lv_at hl 2 rfl) ?_
    refine gsZero F hG hS mX10_price_1 dX10_price_17 ?_
    refine gKne (tgt := 27) F hG (by omega) (by omega) dX10_price_20 (by decide) (fun c_20 => ?_) (fun c_20 => ?_)
    · refine lv_iconst (v := nI 0) F.1 F.2.1 dX10_price_27 rfl ?_
      refine gVi (n := 2) (q := (RX10, TX10, 8)) (q0 := 0) (As := [.int (nI pl), .int (nI 0)]) F hG hS hW (c_X10_priceOfGoing g l  hp o1.1 o1.2.1 o1.2.2.2.2.2.1 o1.2.2.2.2.2.2) rfl gX10_price_X10_priceOfGoing rfl rfl rfl (by decide +kernel) ⟨rfl, rfl, Nat.le_of_ble_eq_true rfl, Nat.le_of_ble_eq_true rfl⟩ hl.1 (Nat.le_of_ble_eq_true rfl) ⟨Nat.le_of_ble_eq_true rfl, Nat.le_of_ble_eq_true rfl⟩ rfl rfl dX10_price_28 (fun r u H locs hq hW hS => ?_)
      obtain ⟨rfl, rfl⟩ := hq
      have hW : gW g ((ht0, .inr (7, [.ref tr, .ref tl, .ref tn, .ref tb, .int (oI (((tG (((tW (ro, le, rn, be, wr, wn, is, ni) pl).1), ((tW (ro, le, rn, be, wr, wn, is, ni) pl).2.1), ((tW (ro, le, rn, be, wr, wn, is, ni) pl).2.2.1), ((tW (ro, le, rn, be, wr, wn, is, ni) pl).2.2.2.1), ((tW (ro, le, rn, be, wr, wn, is, ni) pl).2.2.2.2.1), ((tW (ro, le, rn, be, wr, wn, is, ni) pl).2.2.2.2.2.1), ((tW (ro, le, rn, be, wr, wn, is, ni) pl).2.2.2.2.2.2.1), ((tW (ro, le, rn, be, wr, wn, is, ni) pl).2.2.2.2.2.2.2)) pl 0).2).2.2.2.2.1)), .int (nI (((tG (((tW (ro, le, rn, be, wr, wn, is, ni) pl).1), ((tW (ro, le, rn, be, wr, wn, is, ni) pl).2.1), ((tW (ro, le, rn, be, wr, wn, is, ni) pl).2.2.1), ((tW (ro, le, rn, be, wr, wn, is, ni) pl).2.2.2.1), ((tW (ro, le, rn, be, wr, wn, is, ni) pl).2.2.2.2.1), ((tW (ro, le, rn, be, wr, wn, is, ni) pl).2.2.2.2.2.1), ((tW (ro, le, rn, be, wr, wn, is, ni) pl).2.2.2.2.2.2.1), ((tW (ro, le, rn, be, wr, wn, is, ni) pl).2.2.2.2.2.2.2)) pl 0).2).2.2.2.2.2.1)), .int (oI (((tG (((tW (ro, le, rn, be, wr, wn, is, ni) pl).1), ((tW (ro, le, rn, be, wr, wn, is, ni) pl).2.1), ((tW (ro, le, rn, be, wr, wn, is, ni) pl).2.2.1), ((tW (ro, le, rn, be, wr, wn, is, ni) pl).2.2.2.1), ((tW (ro, le, rn, be, wr, wn, is, ni) pl).2.2.2.2.1), ((tW (ro, le, rn, be, wr, wn, is, ni) pl).2.2.2.2.2.1), ((tW (ro, le, rn, be, wr, wn, is, ni) pl).2.2.2.2.2.2.1), ((tW (ro, le, rn, be, wr, wn, is, ni) pl).2.2.2.2.2.2.2)) pl 0).2).2.2.2.2.2.2.1)), .int (nI (((tG (((tW (ro, le, rn, be, wr, wn, is, ni) pl).1), ((tW (ro, le, rn, be, wr, wn, is, ni) pl).2.1), ((tW (ro, le, rn, be, wr, wn, is, ni) pl).2.2.1), ((tW (ro, le, rn, be, wr, wn, is, ni) pl).2.2.2.1), ((tW (ro, le, rn, be, wr, wn, is, ni) pl).2.2.2.2.1), ((tW (ro, le, rn, be, wr, wn, is, ni) pl).2.2.2.2.2.1), ((tW (ro, le, rn, be, wr, wn, is, ni) pl).2.2.2.2.2.2.1), ((tW (ro, le, rn, be, wr, wn, is, ni) pl).2.2.2.2.2.2.2)) pl 0).2).2.2.2.2.2.2.2))])) :: (tr, .inl (g.2.1 0, 4000, .inl (nA (((tG (((tW (ro, le, rn, be, wr, wn, is, ni) pl).1), ((tW (ro, le, rn, be, wr, wn, is, ni) pl).2.1), ((tW (ro, le, rn, be, wr, wn, is, ni) pl).2.2.1), ((tW (ro, le, rn, be, wr, wn, is, ni) pl).2.2.2.1), ((tW (ro, le, rn, be, wr, wn, is, ni) pl).2.2.2.2.1), ((tW (ro, le, rn, be, wr, wn, is, ni) pl).2.2.2.2.2.1), ((tW (ro, le, rn, be, wr, wn, is, ni) pl).2.2.2.2.2.2.1), ((tW (ro, le, rn, be, wr, wn, is, ni) pl).2.2.2.2.2.2.2)) pl 0).2).1)))) :: (tl, .inl (g.2.1 0, 100, .inl (nA (((tG (((tW (ro, le, rn, be, wr, wn, is, ni) pl).1), ((tW (ro, le, rn, be, wr, wn, is, ni) pl).2.1), ((tW (ro, le, rn, be, wr, wn, is, ni) pl).2.2.1), ((tW (ro, le, rn, be, wr, wn, is, ni) pl).2.2.2.1), ((tW (ro, le, rn, be, wr, wn, is, ni) pl).2.2.2.2.1), ((tW (ro, le, rn, be, wr, wn, is, ni) pl).2.2.2.2.2.1), ((tW (ro, le, rn, be, wr, wn, is, ni) pl).2.2.2.2.2.2.1), ((tW (ro, le, rn, be, wr, wn, is, ni) pl).2.2.2.2.2.2.2)) pl 0).2).2.1)))) :: (tn, .inl (g.2.1 0, 100, .inl (nA (((tG (((tW (ro, le, rn, be, wr, wn, is, ni) pl).1), ((tW (ro, le, rn, be, wr, wn, is, ni) pl).2.1), ((tW (ro, le, rn, be, wr, wn, is, ni) pl).2.2.1), ((tW (ro, le, rn, be, wr, wn, is, ni) pl).2.2.2.1), ((tW (ro, le, rn, be, wr, wn, is, ni) pl).2.2.2.2.1), ((tW (ro, le, rn, be, wr, wn, is, ni) pl).2.2.2.2.2.1), ((tW (ro, le, rn, be, wr, wn, is, ni) pl).2.2.2.2.2.2.1), ((tW (ro, le, rn, be, wr, wn, is, ni) pl).2.2.2.2.2.2.2)) pl 0).2).2.2.1)))) :: (tb, .inl (g.2.1 1, 100, .inl (bA (((tG (((tW (ro, le, rn, be, wr, wn, is, ni) pl).1), ((tW (ro, le, rn, be, wr, wn, is, ni) pl).2.1), ((tW (ro, le, rn, be, wr, wn, is, ni) pl).2.2.1), ((tW (ro, le, rn, be, wr, wn, is, ni) pl).2.2.2.1), ((tW (ro, le, rn, be, wr, wn, is, ni) pl).2.2.2.2.1), ((tW (ro, le, rn, be, wr, wn, is, ni) pl).2.2.2.2.2.1), ((tW (ro, le, rn, be, wr, wn, is, ni) pl).2.2.2.2.2.2.1), ((tW (ro, le, rn, be, wr, wn, is, ni) pl).2.2.2.2.2.2.2)) pl 0).2).2.2.2.1)))) :: R) _ := hW
      have o2 := tG_ok (pw := 0) o1 hp
      refine lv_istore (lv' := [(4, .int (nI ((tG (((tW (ro, le, rn, be, wr, wn, is, ni) pl).1), ((tW (ro, le, rn, be, wr, wn, is, ni) pl).2.1), ((tW (ro, le, rn, be, wr, wn, is, ni) pl).2.2.1), ((tW (ro, le, rn, be, wr, wn, is, ni) pl).2.2.2.1), ((tW (ro, le, rn, be, wr, wn, is, ni) pl).2.2.2.2.1), ((tW (ro, le, rn, be, wr, wn, is, ni) pl).2.2.2.2.2.1), ((tW (ro, le, rn, be, wr, wn, is, ni) pl).2.2.2.2.2.2.1), ((tW (ro, le, rn, be, wr, wn, is, ni) pl).2.2.2.2.2.2.2)) pl 0).1))), (0, .ref ht0), (1, .int (nI pl)), (2, .ref (g.2.2.2 k)), (3, .int (-1))]) F.1 F.2.1 dX10_price_31 hl (by decide) rfl (fun ls hl => ?_)
      refine lv_iload_n F.1 F.2.1 dX10_price_33 rfl (lv_at hl 4 rfl) ?_
      refine gS_i (n := 1) (As := [.int (-1)]) F hG hS hW (c_X10_isPlace_m g l  ) rfl gX10_price_X10_isPlace (by decide +kernel) ⟨rfl, rfl, Nat.le_of_ble_eq_true rfl, Nat.le_of_ble_eq_true rfl⟩ hl.1 (Nat.le_of_ble_eq_true rfl) ⟨Nat.le_of_ble_eq_true rfl, Nat.le_of_ble_eq_true rfl⟩ rfl rfl dX10_price_34 (fun r u H locs hq hW hS => ?_)
      obtain ⟨rfl, rfl⟩ := hq
      have hW : gW g ((ht0, .inr (7, [.ref tr, .ref tl, .ref tn, .ref tb, .int (oI (((tG (((tW (ro, le, rn, be, wr, wn, is, ni) pl).1), ((tW (ro, le, rn, be, wr, wn, is, ni) pl).2.1), ((tW (ro, le, rn, be, wr, wn, is, ni) pl).2.2.1), ((tW (ro, le, rn, be, wr, wn, is, ni) pl).2.2.2.1), ((tW (ro, le, rn, be, wr, wn, is, ni) pl).2.2.2.2.1), ((tW (ro, le, rn, be, wr, wn, is, ni) pl).2.2.2.2.2.1), ((tW (ro, le, rn, be, wr, wn, is, ni) pl).2.2.2.2.2.2.1), ((tW (ro, le, rn, be, wr, wn, is, ni) pl).2.2.2.2.2.2.2)) pl 0).2).2.2.2.2.1)), .int (nI (((tG (((tW (ro, le, rn, be, wr, wn, is, ni) pl).1), ((tW (ro, le, rn, be, wr, wn, is, ni) pl).2.1), ((tW (ro, le, rn, be, wr, wn, is, ni) pl).2.2.1), ((tW (ro, le, rn, be, wr, wn, is, ni) pl).2.2.2.1), ((tW (ro, le, rn, be, wr, wn, is, ni) pl).2.2.2.2.1), ((tW (ro, le, rn, be, wr, wn, is, ni) pl).2.2.2.2.2.1), ((tW (ro, le, rn, be, wr, wn, is, ni) pl).2.2.2.2.2.2.1), ((tW (ro, le, rn, be, wr, wn, is, ni) pl).2.2.2.2.2.2.2)) pl 0).2).2.2.2.2.2.1)), .int (oI (((tG (((tW (ro, le, rn, be, wr, wn, is, ni) pl).1), ((tW (ro, le, rn, be, wr, wn, is, ni) pl).2.1), ((tW (ro, le, rn, be, wr, wn, is, ni) pl).2.2.1), ((tW (ro, le, rn, be, wr, wn, is, ni) pl).2.2.2.1), ((tW (ro, le, rn, be, wr, wn, is, ni) pl).2.2.2.2.1), ((tW (ro, le, rn, be, wr, wn, is, ni) pl).2.2.2.2.2.1), ((tW (ro, le, rn, be, wr, wn, is, ni) pl).2.2.2.2.2.2.1), ((tW (ro, le, rn, be, wr, wn, is, ni) pl).2.2.2.2.2.2.2)) pl 0).2).2.2.2.2.2.2.1)), .int (nI (((tG (((tW (ro, le, rn, be, wr, wn, is, ni) pl).1), ((tW (ro, le, rn, be, wr, wn, is, ni) pl).2.1), ((tW (ro, le, rn, be, wr, wn, is, ni) pl).2.2.1), ((tW (ro, le, rn, be, wr, wn, is, ni) pl).2.2.2.1), ((tW (ro, le, rn, be, wr, wn, is, ni) pl).2.2.2.2.1), ((tW (ro, le, rn, be, wr, wn, is, ni) pl).2.2.2.2.2.1), ((tW (ro, le, rn, be, wr, wn, is, ni) pl).2.2.2.2.2.2.1), ((tW (ro, le, rn, be, wr, wn, is, ni) pl).2.2.2.2.2.2.2)) pl 0).2).2.2.2.2.2.2.2))])) :: (tr, .inl (g.2.1 0, 4000, .inl (nA (((tG (((tW (ro, le, rn, be, wr, wn, is, ni) pl).1), ((tW (ro, le, rn, be, wr, wn, is, ni) pl).2.1), ((tW (ro, le, rn, be, wr, wn, is, ni) pl).2.2.1), ((tW (ro, le, rn, be, wr, wn, is, ni) pl).2.2.2.1), ((tW (ro, le, rn, be, wr, wn, is, ni) pl).2.2.2.2.1), ((tW (ro, le, rn, be, wr, wn, is, ni) pl).2.2.2.2.2.1), ((tW (ro, le, rn, be, wr, wn, is, ni) pl).2.2.2.2.2.2.1), ((tW (ro, le, rn, be, wr, wn, is, ni) pl).2.2.2.2.2.2.2)) pl 0).2).1)))) :: (tl, .inl (g.2.1 0, 100, .inl (nA (((tG (((tW (ro, le, rn, be, wr, wn, is, ni) pl).1), ((tW (ro, le, rn, be, wr, wn, is, ni) pl).2.1), ((tW (ro, le, rn, be, wr, wn, is, ni) pl).2.2.1), ((tW (ro, le, rn, be, wr, wn, is, ni) pl).2.2.2.1), ((tW (ro, le, rn, be, wr, wn, is, ni) pl).2.2.2.2.1), ((tW (ro, le, rn, be, wr, wn, is, ni) pl).2.2.2.2.2.1), ((tW (ro, le, rn, be, wr, wn, is, ni) pl).2.2.2.2.2.2.1), ((tW (ro, le, rn, be, wr, wn, is, ni) pl).2.2.2.2.2.2.2)) pl 0).2).2.1)))) :: (tn, .inl (g.2.1 0, 100, .inl (nA (((tG (((tW (ro, le, rn, be, wr, wn, is, ni) pl).1), ((tW (ro, le, rn, be, wr, wn, is, ni) pl).2.1), ((tW (ro, le, rn, be, wr, wn, is, ni) pl).2.2.1), ((tW (ro, le, rn, be, wr, wn, is, ni) pl).2.2.2.1), ((tW (ro, le, rn, be, wr, wn, is, ni) pl).2.2.2.2.1), ((tW (ro, le, rn, be, wr, wn, is, ni) pl).2.2.2.2.2.1), ((tW (ro, le, rn, be, wr, wn, is, ni) pl).2.2.2.2.2.2.1), ((tW (ro, le, rn, be, wr, wn, is, ni) pl).2.2.2.2.2.2.2)) pl 0).2).2.2.1)))) :: (tb, .inl (g.2.1 1, 100, .inl (bA (((tG (((tW (ro, le, rn, be, wr, wn, is, ni) pl).1), ((tW (ro, le, rn, be, wr, wn, is, ni) pl).2.1), ((tW (ro, le, rn, be, wr, wn, is, ni) pl).2.2.1), ((tW (ro, le, rn, be, wr, wn, is, ni) pl).2.2.2.1), ((tW (ro, le, rn, be, wr, wn, is, ni) pl).2.2.2.2.1), ((tW (ro, le, rn, be, wr, wn, is, ni) pl).2.2.2.2.2.1), ((tW (ro, le, rn, be, wr, wn, is, ni) pl).2.2.2.2.2.2.1), ((tW (ro, le, rn, be, wr, wn, is, ni) pl).2.2.2.2.2.2.2)) pl 0).2).2.2.2.1)))) :: R) _ := hW
      refine gIfEqB (tgt := 50) F dX10_price_37 (by decide) (fun c_37 => ?_) (fun q => by simp at q)
      refine lv_iload F.1 F.2.1 dX10_price_50 (lv_at hl 0 rfl) ?_
      refine gRi F hW hS dX10_price_52 ?_
      exact ⟨by rw [tPr, if_neg c_20], by rw [show tP (ro, le, rn, be, wr, wn, is, ni) pl k none = (tG (tW (ro, le, rn, be, wr, wn, is, ni) pl) pl (if k = 12 then 1 else 0)).2 from rfl, if_neg c_20]⟩
    · refine lv_iconst (v := nI 1) F.1 F.2.1 dX10_price_23 rfl ?_
      refine lv_goto (tgt := 28) F.1 F.2.1 dX10_price_24 (by decide) ?_
      refine gVi (n := 2) (q := (RX10, TX10, 8)) (q0 := 0) (As := [.int (nI pl), .int (nI 1)]) F hG hS hW (c_X10_priceOfGoing g l  hp o1.1 o1.2.1 o1.2.2.2.2.2.1 o1.2.2.2.2.2.2) rfl gX10_price_X10_priceOfGoing rfl rfl rfl (by decide +kernel) ⟨rfl, rfl, Nat.le_of_ble_eq_true rfl, Nat.le_of_ble_eq_true rfl⟩ hl.1 (Nat.le_of_ble_eq_true rfl) ⟨Nat.le_of_ble_eq_true rfl, Nat.le_of_ble_eq_true rfl⟩ rfl rfl dX10_price_28 (fun r u H locs hq hW hS => ?_)
      obtain ⟨rfl, rfl⟩ := hq
      have hW : gW g ((ht0, .inr (7, [.ref tr, .ref tl, .ref tn, .ref tb, .int (oI (((tG (((tW (ro, le, rn, be, wr, wn, is, ni) pl).1), ((tW (ro, le, rn, be, wr, wn, is, ni) pl).2.1), ((tW (ro, le, rn, be, wr, wn, is, ni) pl).2.2.1), ((tW (ro, le, rn, be, wr, wn, is, ni) pl).2.2.2.1), ((tW (ro, le, rn, be, wr, wn, is, ni) pl).2.2.2.2.1), ((tW (ro, le, rn, be, wr, wn, is, ni) pl).2.2.2.2.2.1), ((tW (ro, le, rn, be, wr, wn, is, ni) pl).2.2.2.2.2.2.1), ((tW (ro, le, rn, be, wr, wn, is, ni) pl).2.2.2.2.2.2.2)) pl 1).2).2.2.2.2.1)), .int (nI (((tG (((tW (ro, le, rn, be, wr, wn, is, ni) pl).1), ((tW (ro, le, rn, be, wr, wn, is, ni) pl).2.1), ((tW (ro, le, rn, be, wr, wn, is, ni) pl).2.2.1), ((tW (ro, le, rn, be, wr, wn, is, ni) pl).2.2.2.1), ((tW (ro, le, rn, be, wr, wn, is, ni) pl).2.2.2.2.1), ((tW (ro, le, rn, be, wr, wn, is, ni) pl).2.2.2.2.2.1), ((tW (ro, le, rn, be, wr, wn, is, ni) pl).2.2.2.2.2.2.1), ((tW (ro, le, rn, be, wr, wn, is, ni) pl).2.2.2.2.2.2.2)) pl 1).2).2.2.2.2.2.1)), .int (oI (((tG (((tW (ro, le, rn, be, wr, wn, is, ni) pl).1), ((tW (ro, le, rn, be, wr, wn, is, ni) pl).2.1), ((tW (ro, le, rn, be, wr, wn, is, ni) pl).2.2.1), ((tW (ro, le, rn, be, wr, wn, is, ni) pl).2.2.2.1), ((tW (ro, le, rn, be, wr, wn, is, ni) pl).2.2.2.2.1), ((tW (ro, le, rn, be, wr, wn, is, ni) pl).2.2.2.2.2.1), ((tW (ro, le, rn, be, wr, wn, is, ni) pl).2.2.2.2.2.2.1), ((tW (ro, le, rn, be, wr, wn, is, ni) pl).2.2.2.2.2.2.2)) pl 1).2).2.2.2.2.2.2.1)), .int (nI (((tG (((tW (ro, le, rn, be, wr, wn, is, ni) pl).1), ((tW (ro, le, rn, be, wr, wn, is, ni) pl).2.1), ((tW (ro, le, rn, be, wr, wn, is, ni) pl).2.2.1), ((tW (ro, le, rn, be, wr, wn, is, ni) pl).2.2.2.1), ((tW (ro, le, rn, be, wr, wn, is, ni) pl).2.2.2.2.1), ((tW (ro, le, rn, be, wr, wn, is, ni) pl).2.2.2.2.2.1), ((tW (ro, le, rn, be, wr, wn, is, ni) pl).2.2.2.2.2.2.1), ((tW (ro, le, rn, be, wr, wn, is, ni) pl).2.2.2.2.2.2.2)) pl 1).2).2.2.2.2.2.2.2))])) :: (tr, .inl (g.2.1 0, 4000, .inl (nA (((tG (((tW (ro, le, rn, be, wr, wn, is, ni) pl).1), ((tW (ro, le, rn, be, wr, wn, is, ni) pl).2.1), ((tW (ro, le, rn, be, wr, wn, is, ni) pl).2.2.1), ((tW (ro, le, rn, be, wr, wn, is, ni) pl).2.2.2.1), ((tW (ro, le, rn, be, wr, wn, is, ni) pl).2.2.2.2.1), ((tW (ro, le, rn, be, wr, wn, is, ni) pl).2.2.2.2.2.1), ((tW (ro, le, rn, be, wr, wn, is, ni) pl).2.2.2.2.2.2.1), ((tW (ro, le, rn, be, wr, wn, is, ni) pl).2.2.2.2.2.2.2)) pl 1).2).1)))) :: (tl, .inl (g.2.1 0, 100, .inl (nA (((tG (((tW (ro, le, rn, be, wr, wn, is, ni) pl).1), ((tW (ro, le, rn, be, wr, wn, is, ni) pl).2.1), ((tW (ro, le, rn, be, wr, wn, is, ni) pl).2.2.1), ((tW (ro, le, rn, be, wr, wn, is, ni) pl).2.2.2.1), ((tW (ro, le, rn, be, wr, wn, is, ni) pl).2.2.2.2.1), ((tW (ro, le, rn, be, wr, wn, is, ni) pl).2.2.2.2.2.1), ((tW (ro, le, rn, be, wr, wn, is, ni) pl).2.2.2.2.2.2.1), ((tW (ro, le, rn, be, wr, wn, is, ni) pl).2.2.2.2.2.2.2)) pl 1).2).2.1)))) :: (tn, .inl (g.2.1 0, 100, .inl (nA (((tG (((tW (ro, le, rn, be, wr, wn, is, ni) pl).1), ((tW (ro, le, rn, be, wr, wn, is, ni) pl).2.1), ((tW (ro, le, rn, be, wr, wn, is, ni) pl).2.2.1), ((tW (ro, le, rn, be, wr, wn, is, ni) pl).2.2.2.1), ((tW (ro, le, rn, be, wr, wn, is, ni) pl).2.2.2.2.1), ((tW (ro, le, rn, be, wr, wn, is, ni) pl).2.2.2.2.2.1), ((tW (ro, le, rn, be, wr, wn, is, ni) pl).2.2.2.2.2.2.1), ((tW (ro, le, rn, be, wr, wn, is, ni) pl).2.2.2.2.2.2.2)) pl 1).2).2.2.1)))) :: (tb, .inl (g.2.1 1, 100, .inl (bA (((tG (((tW (ro, le, rn, be, wr, wn, is, ni) pl).1), ((tW (ro, le, rn, be, wr, wn, is, ni) pl).2.1), ((tW (ro, le, rn, be, wr, wn, is, ni) pl).2.2.1), ((tW (ro, le, rn, be, wr, wn, is, ni) pl).2.2.2.1), ((tW (ro, le, rn, be, wr, wn, is, ni) pl).2.2.2.2.1), ((tW (ro, le, rn, be, wr, wn, is, ni) pl).2.2.2.2.2.1), ((tW (ro, le, rn, be, wr, wn, is, ni) pl).2.2.2.2.2.2.1), ((tW (ro, le, rn, be, wr, wn, is, ni) pl).2.2.2.2.2.2.2)) pl 1).2).2.2.2.1)))) :: R) _ := hW
      have o2 := tG_ok (pw := 1) o1 hp
      refine lv_istore (lv' := [(4, .int (nI ((tG (((tW (ro, le, rn, be, wr, wn, is, ni) pl).1), ((tW (ro, le, rn, be, wr, wn, is, ni) pl).2.1), ((tW (ro, le, rn, be, wr, wn, is, ni) pl).2.2.1), ((tW (ro, le, rn, be, wr, wn, is, ni) pl).2.2.2.1), ((tW (ro, le, rn, be, wr, wn, is, ni) pl).2.2.2.2.1), ((tW (ro, le, rn, be, wr, wn, is, ni) pl).2.2.2.2.2.1), ((tW (ro, le, rn, be, wr, wn, is, ni) pl).2.2.2.2.2.2.1), ((tW (ro, le, rn, be, wr, wn, is, ni) pl).2.2.2.2.2.2.2)) pl 1).1))), (0, .ref ht0), (1, .int (nI pl)), (2, .ref (g.2.2.2 k)), (3, .int (-1))]) F.1 F.2.1 dX10_price_31 hl (by decide) rfl (fun ls hl => ?_)
      refine lv_iload_n F.1 F.2.1 dX10_price_33 rfl (lv_at hl 4 rfl) ?_
      refine gS_i (n := 1) (As := [.int (-1)]) F hG hS hW (c_X10_isPlace_m g l  ) rfl gX10_price_X10_isPlace (by decide +kernel) ⟨rfl, rfl, Nat.le_of_ble_eq_true rfl, Nat.le_of_ble_eq_true rfl⟩ hl.1 (Nat.le_of_ble_eq_true rfl) ⟨Nat.le_of_ble_eq_true rfl, Nat.le_of_ble_eq_true rfl⟩ rfl rfl dX10_price_34 (fun r u H locs hq hW hS => ?_)
      obtain ⟨rfl, rfl⟩ := hq
      have hW : gW g ((ht0, .inr (7, [.ref tr, .ref tl, .ref tn, .ref tb, .int (oI (((tG (((tW (ro, le, rn, be, wr, wn, is, ni) pl).1), ((tW (ro, le, rn, be, wr, wn, is, ni) pl).2.1), ((tW (ro, le, rn, be, wr, wn, is, ni) pl).2.2.1), ((tW (ro, le, rn, be, wr, wn, is, ni) pl).2.2.2.1), ((tW (ro, le, rn, be, wr, wn, is, ni) pl).2.2.2.2.1), ((tW (ro, le, rn, be, wr, wn, is, ni) pl).2.2.2.2.2.1), ((tW (ro, le, rn, be, wr, wn, is, ni) pl).2.2.2.2.2.2.1), ((tW (ro, le, rn, be, wr, wn, is, ni) pl).2.2.2.2.2.2.2)) pl 1).2).2.2.2.2.1)), .int (nI (((tG (((tW (ro, le, rn, be, wr, wn, is, ni) pl).1), ((tW (ro, le, rn, be, wr, wn, is, ni) pl).2.1), ((tW (ro, le, rn, be, wr, wn, is, ni) pl).2.2.1), ((tW (ro, le, rn, be, wr, wn, is, ni) pl).2.2.2.1), ((tW (ro, le, rn, be, wr, wn, is, ni) pl).2.2.2.2.1), ((tW (ro, le, rn, be, wr, wn, is, ni) pl).2.2.2.2.2.1), ((tW (ro, le, rn, be, wr, wn, is, ni) pl).2.2.2.2.2.2.1), ((tW (ro, le, rn, be, wr, wn, is, ni) pl).2.2.2.2.2.2.2)) pl 1).2).2.2.2.2.2.1)), .int (oI (((tG (((tW (ro, le, rn, be, wr, wn, is, ni) pl).1), ((tW (ro, le, rn, be, wr, wn, is, ni) pl).2.1), ((tW (ro, le, rn, be, wr, wn, is, ni) pl).2.2.1), ((tW (ro, le, rn, be, wr, wn, is, ni) pl).2.2.2.1), ((tW (ro, le, rn, be, wr, wn, is, ni) pl).2.2.2.2.1), ((tW (ro, le, rn, be, wr, wn, is, ni) pl).2.2.2.2.2.1), ((tW (ro, le, rn, be, wr, wn, is, ni) pl).2.2.2.2.2.2.1), ((tW (ro, le, rn, be, wr, wn, is, ni) pl).2.2.2.2.2.2.2)) pl 1).2).2.2.2.2.2.2.1)), .int (nI (((tG (((tW (ro, le, rn, be, wr, wn, is, ni) pl).1), ((tW (ro, le, rn, be, wr, wn, is, ni) pl).2.1), ((tW (ro, le, rn, be, wr, wn, is, ni) pl).2.2.1), ((tW (ro, le, rn, be, wr, wn, is, ni) pl).2.2.2.1), ((tW (ro, le, rn, be, wr, wn, is, ni) pl).2.2.2.2.1), ((tW (ro, le, rn, be, wr, wn, is, ni) pl).2.2.2.2.2.1), ((tW (ro, le, rn, be, wr, wn, is, ni) pl).2.2.2.2.2.2.1), ((tW (ro, le, rn, be, wr, wn, is, ni) pl).2.2.2.2.2.2.2)) pl 1).2).2.2.2.2.2.2.2))])) :: (tr, .inl (g.2.1 0, 4000, .inl (nA (((tG (((tW (ro, le, rn, be, wr, wn, is, ni) pl).1), ((tW (ro, le, rn, be, wr, wn, is, ni) pl).2.1), ((tW (ro, le, rn, be, wr, wn, is, ni) pl).2.2.1), ((tW (ro, le, rn, be, wr, wn, is, ni) pl).2.2.2.1), ((tW (ro, le, rn, be, wr, wn, is, ni) pl).2.2.2.2.1), ((tW (ro, le, rn, be, wr, wn, is, ni) pl).2.2.2.2.2.1), ((tW (ro, le, rn, be, wr, wn, is, ni) pl).2.2.2.2.2.2.1), ((tW (ro, le, rn, be, wr, wn, is, ni) pl).2.2.2.2.2.2.2)) pl 1).2).1)))) :: (tl, .inl (g.2.1 0, 100, .inl (nA (((tG (((tW (ro, le, rn, be, wr, wn, is, ni) pl).1), ((tW (ro, le, rn, be, wr, wn, is, ni) pl).2.1), ((tW (ro, le, rn, be, wr, wn, is, ni) pl).2.2.1), ((tW (ro, le, rn, be, wr, wn, is, ni) pl).2.2.2.1), ((tW (ro, le, rn, be, wr, wn, is, ni) pl).2.2.2.2.1), ((tW (ro, le, rn, be, wr, wn, is, ni) pl).2.2.2.2.2.1), ((tW (ro, le, rn, be, wr, wn, is, ni) pl).2.2.2.2.2.2.1), ((tW (ro, le, rn, be, wr, wn, is, ni) pl).2.2.2.2.2.2.2)) pl 1).2).2.1)))) :: (tn, .inl (g.2.1 0, 100, .inl (nA (((tG (((tW (ro, le, rn, be, wr, wn, is, ni) pl).1), ((tW (ro, le, rn, be, wr, wn, is, ni) pl).2.1), ((tW (ro, le, rn, be, wr, wn, is, ni) pl).2.2.1), ((tW (ro, le, rn, be, wr, wn, is, ni) pl).2.2.2.1), ((tW (ro, le, rn, be, wr, wn, is, ni) pl).2.2.2.2.1), ((tW (ro, le, rn, be, wr, wn, is, ni) pl).2.2.2.2.2.1), ((tW (ro, le, rn, be, wr, wn, is, ni) pl).2.2.2.2.2.2.1), ((tW (ro, le, rn, be, wr, wn, is, ni) pl).2.2.2.2.2.2.2)) pl 1).2).2.2.1)))) :: (tb, .inl (g.2.1 1, 100, .inl (bA (((tG (((tW (ro, le, rn, be, wr, wn, is, ni) pl).1), ((tW (ro, le, rn, be, wr, wn, is, ni) pl).2.1), ((tW (ro, le, rn, be, wr, wn, is, ni) pl).2.2.1), ((tW (ro, le, rn, be, wr, wn, is, ni) pl).2.2.2.1), ((tW (ro, le, rn, be, wr, wn, is, ni) pl).2.2.2.2.1), ((tW (ro, le, rn, be, wr, wn, is, ni) pl).2.2.2.2.2.1), ((tW (ro, le, rn, be, wr, wn, is, ni) pl).2.2.2.2.2.2.1), ((tW (ro, le, rn, be, wr, wn, is, ni) pl).2.2.2.2.2.2.2)) pl 1).2).2.2.2.1)))) :: R) _ := hW
      refine gIfEqB (tgt := 50) F dX10_price_37 (by decide) (fun c_37 => ?_) (fun q => by simp at q)
      refine lv_iload F.1 F.2.1 dX10_price_50 (lv_at hl 0 rfl) ?_
      refine gRi F hW hS dX10_price_52 ?_
      exact ⟨by rw [tPr, if_pos c_20], by rw [show tP (ro, le, rn, be, wr, wn, is, ni) pl k none = (tG (tW (ro, le, rn, be, wr, wn, is, ni) pl) pl (if k = 12 then 1 else 0)).2 from rfl, if_pos c_20]⟩
  · have ht : t < 100 := hla t rfl
    have hl : lv_has ls 5 [(0, .ref ht0), (1, .int (nI pl)), (2, .ref (g.2.2.2 k)), (3, .int (nI t))] := hl
    have hW : gW g ((ht0, .inr (7, [.ref tr, .ref tl, .ref tn, .ref tb, .int (oI wr), .int (nI wn), .int (oI is), .int (nI ni)])) :: (tr, .inl (g.2.1 0, 4000, .inl (nA ro))) :: (tl, .inl (g.2.1 0, 100, .inl (nA le))) :: (tn, .inl (g.2.1 0, 100, .inl (nA rn))) :: (tb, .inl (g.2.1 1, 100, .inl (bA be))) :: R) s.heap := hW
    refine lv_iload_n F.1 F.2.1 dX10_price_0 rfl (lv_at hl 1 rfl) ?_
    refine gS_i (n := 1) (As := [.int (nI pl)]) F hG hS hW (c_X10_isPlace_n g l  (by omega)) rfl gX10_price_X10_isPlace (by decide +kernel) ⟨rfl, rfl, Nat.le_of_ble_eq_true rfl, Nat.le_of_ble_eq_true rfl⟩ hl.1 (Nat.le_of_ble_eq_true rfl) ⟨Nat.le_of_ble_eq_true rfl, Nat.le_of_ble_eq_true rfl⟩ rfl rfl dX10_price_1 (fun r u H locs hq hW hS => ?_)
    obtain ⟨rfl, rfl⟩ := hq
    have hW : gW g ((ht0, .inr (7, [.ref tr, .ref tl, .ref tn, .ref tb, .int (oI wr), .int (nI wn), .int (oI is), .int (nI ni)])) :: (tr, .inl (g.2.1 0, 4000, .inl (nA ro))) :: (tl, .inl (g.2.1 0, 100, .inl (nA le))) :: (tn, .inl (g.2.1 0, 100, .inl (nA rn))) :: (tb, .inl (g.2.1 1, 100, .inl (bA be))) :: R) _ := hW
    refine gIfNeB (tgt := 9) F dX10_price_4 (by decide) (fun c_4 => ?_) (fun q => by simp at q)
    have o1 := tW_ok hok hp
    refine lv_aload_n F.1 F.2.1 dX10_price_9 rfl (lv_at hl 0 rfl) ?_
    refine lv_iload_n F.1 F.2.1 dX10_price_10 rfl (lv_at hl 1 rfl) ?_
    refine gVv (n := 1) (q := (RX10, TX10, 8)) (q0 := 0) (As := [.int (nI pl)]) F hG hS hW (c_X10_write g l  hp hok.2.2.2.1 hok.2.2.2.2.1) rfl gX10_price_X10_write rfl rfl rfl (by decide +kernel) ⟨rfl, rfl, Nat.le_of_ble_eq_true rfl, Nat.le_of_ble_eq_true rfl⟩ hl.1 (Nat.le_of_ble_eq_true rfl) ⟨Nat.le_of_ble_eq_true rfl, Nat.le_of_ble_eq_true rfl⟩ rfl rfl dX10_price_11 (fun u H locs hq hW hS => ?_)
    obtain rfl := hq
    have hW : gW g ((ht0, .inr (7, [.ref tr, .ref tl, .ref tn, .ref tb, .int (oI ((tW (ro, le, rn, be, wr, wn, is, ni) pl).2.2.2.2.1)), .int (nI ((tW (ro, le, rn, be, wr, wn, is, ni) pl).2.2.2.2.2.1)), .int (oI ((tW (ro, le, rn, be, wr, wn, is, ni) pl).2.2.2.2.2.2.1)), .int (nI ((tW (ro, le, rn, be, wr, wn, is, ni) pl).2.2.2.2.2.2.2))])) :: (tr, .inl (g.2.1 0, 4000, .inl (nA ((tW (ro, le, rn, be, wr, wn, is, ni) pl).1)))) :: (tl, .inl (g.2.1 0, 100, .inl (nA ((tW (ro, le, rn, be, wr, wn, is, ni) pl).2.1)))) :: (tn, .inl (g.2.1 0, 100, .inl (nA ((tW (ro, le, rn, be, wr, wn, is, ni) pl).2.2.1)))) :: (tb, .inl (g.2.1 1, 100, .inl (bA ((tW (ro, le, rn, be, wr, wn, is, ni) pl).2.2.2.1)))) :: R) _ := hW
    refine lv_aload_n F.1 F.2.1 dX10_price_14 rfl (lv_at hl 0 rfl) ?_
    refine lv_iload_n F.1 F.2.1 dX10_price_15 rfl (lv_at hl 1 rfl) ?_
    refine lv_aload_n F.1 F.2.1 dX10_price_16 rfl (lv_at hl 2 rfl) ?_
    refine gsZero F hG hS mX10_price_1 dX10_price_17 ?_
    refine gKne (tgt := 27) F hG (by omega) (by omega) dX10_price_20 (by decide) (fun c_20 => ?_) (fun c_20 => ?_)
    · refine lv_iconst (v := nI 0) F.1 F.2.1 dX10_price_27 rfl ?_
      refine gVi (n := 2) (q := (RX10, TX10, 8)) (q0 := 0) (As := [.int (nI pl), .int (nI 0)]) F hG hS hW (c_X10_priceOfGoing g l  hp o1.1 o1.2.1 o1.2.2.2.2.2.1 o1.2.2.2.2.2.2) rfl gX10_price_X10_priceOfGoing rfl rfl rfl (by decide +kernel) ⟨rfl, rfl, Nat.le_of_ble_eq_true rfl, Nat.le_of_ble_eq_true rfl⟩ hl.1 (Nat.le_of_ble_eq_true rfl) ⟨Nat.le_of_ble_eq_true rfl, Nat.le_of_ble_eq_true rfl⟩ rfl rfl dX10_price_28 (fun r u H locs hq hW hS => ?_)
      obtain ⟨rfl, rfl⟩ := hq
      have hW : gW g ((ht0, .inr (7, [.ref tr, .ref tl, .ref tn, .ref tb, .int (oI (((tG (((tW (ro, le, rn, be, wr, wn, is, ni) pl).1), ((tW (ro, le, rn, be, wr, wn, is, ni) pl).2.1), ((tW (ro, le, rn, be, wr, wn, is, ni) pl).2.2.1), ((tW (ro, le, rn, be, wr, wn, is, ni) pl).2.2.2.1), ((tW (ro, le, rn, be, wr, wn, is, ni) pl).2.2.2.2.1), ((tW (ro, le, rn, be, wr, wn, is, ni) pl).2.2.2.2.2.1), ((tW (ro, le, rn, be, wr, wn, is, ni) pl).2.2.2.2.2.2.1), ((tW (ro, le, rn, be, wr, wn, is, ni) pl).2.2.2.2.2.2.2)) pl 0).2).2.2.2.2.1)), .int (nI (((tG (((tW (ro, le, rn, be, wr, wn, is, ni) pl).1), ((tW (ro, le, rn, be, wr, wn, is, ni) pl).2.1), ((tW (ro, le, rn, be, wr, wn, is, ni) pl).2.2.1), ((tW (ro, le, rn, be, wr, wn, is, ni) pl).2.2.2.1), ((tW (ro, le, rn, be, wr, wn, is, ni) pl).2.2.2.2.1), ((tW (ro, le, rn, be, wr, wn, is, ni) pl).2.2.2.2.2.1), ((tW (ro, le, rn, be, wr, wn, is, ni) pl).2.2.2.2.2.2.1), ((tW (ro, le, rn, be, wr, wn, is, ni) pl).2.2.2.2.2.2.2)) pl 0).2).2.2.2.2.2.1)), .int (oI (((tG (((tW (ro, le, rn, be, wr, wn, is, ni) pl).1), ((tW (ro, le, rn, be, wr, wn, is, ni) pl).2.1), ((tW (ro, le, rn, be, wr, wn, is, ni) pl).2.2.1), ((tW (ro, le, rn, be, wr, wn, is, ni) pl).2.2.2.1), ((tW (ro, le, rn, be, wr, wn, is, ni) pl).2.2.2.2.1), ((tW (ro, le, rn, be, wr, wn, is, ni) pl).2.2.2.2.2.1), ((tW (ro, le, rn, be, wr, wn, is, ni) pl).2.2.2.2.2.2.1), ((tW (ro, le, rn, be, wr, wn, is, ni) pl).2.2.2.2.2.2.2)) pl 0).2).2.2.2.2.2.2.1)), .int (nI (((tG (((tW (ro, le, rn, be, wr, wn, is, ni) pl).1), ((tW (ro, le, rn, be, wr, wn, is, ni) pl).2.1), ((tW (ro, le, rn, be, wr, wn, is, ni) pl).2.2.1), ((tW (ro, le, rn, be, wr, wn, is, ni) pl).2.2.2.1), ((tW (ro, le, rn, be, wr, wn, is, ni) pl).2.2.2.2.1), ((tW (ro, le, rn, be, wr, wn, is, ni) pl).2.2.2.2.2.1), ((tW (ro, le, rn, be, wr, wn, is, ni) pl).2.2.2.2.2.2.1), ((tW (ro, le, rn, be, wr, wn, is, ni) pl).2.2.2.2.2.2.2)) pl 0).2).2.2.2.2.2.2.2))])) :: (tr, .inl (g.2.1 0, 4000, .inl (nA (((tG (((tW (ro, le, rn, be, wr, wn, is, ni) pl).1), ((tW (ro, le, rn, be, wr, wn, is, ni) pl).2.1), ((tW (ro, le, rn, be, wr, wn, is, ni) pl).2.2.1), ((tW (ro, le, rn, be, wr, wn, is, ni) pl).2.2.2.1), ((tW (ro, le, rn, be, wr, wn, is, ni) pl).2.2.2.2.1), ((tW (ro, le, rn, be, wr, wn, is, ni) pl).2.2.2.2.2.1), ((tW (ro, le, rn, be, wr, wn, is, ni) pl).2.2.2.2.2.2.1), ((tW (ro, le, rn, be, wr, wn, is, ni) pl).2.2.2.2.2.2.2)) pl 0).2).1)))) :: (tl, .inl (g.2.1 0, 100, .inl (nA (((tG (((tW (ro, le, rn, be, wr, wn, is, ni) pl).1), ((tW (ro, le, rn, be, wr, wn, is, ni) pl).2.1), ((tW (ro, le, rn, be, wr, wn, is, ni) pl).2.2.1), ((tW (ro, le, rn, be, wr, wn, is, ni) pl).2.2.2.1), ((tW (ro, le, rn, be, wr, wn, is, ni) pl).2.2.2.2.1), ((tW (ro, le, rn, be, wr, wn, is, ni) pl).2.2.2.2.2.1), ((tW (ro, le, rn, be, wr, wn, is, ni) pl).2.2.2.2.2.2.1), ((tW (ro, le, rn, be, wr, wn, is, ni) pl).2.2.2.2.2.2.2)) pl 0).2).2.1)))) :: (tn, .inl (g.2.1 0, 100, .inl (nA (((tG (((tW (ro, le, rn, be, wr, wn, is, ni) pl).1), ((tW (ro, le, rn, be, wr, wn, is, ni) pl).2.1), ((tW (ro, le, rn, be, wr, wn, is, ni) pl).2.2.1), ((tW (ro, le, rn, be, wr, wn, is, ni) pl).2.2.2.1), ((tW (ro, le, rn, be, wr, wn, is, ni) pl).2.2.2.2.1), ((tW (ro, le, rn, be, wr, wn, is, ni) pl).2.2.2.2.2.1), ((tW (ro, le, rn, be, wr, wn, is, ni) pl).2.2.2.2.2.2.1), ((tW (ro, le, rn, be, wr, wn, is, ni) pl).2.2.2.2.2.2.2)) pl 0).2).2.2.1)))) :: (tb, .inl (g.2.1 1, 100, .inl (bA (((tG (((tW (ro, le, rn, be, wr, wn, is, ni) pl).1), ((tW (ro, le, rn, be, wr, wn, is, ni) pl).2.1), ((tW (ro, le, rn, be, wr, wn, is, ni) pl).2.2.1), ((tW (ro, le, rn, be, wr, wn, is, ni) pl).2.2.2.1), ((tW (ro, le, rn, be, wr, wn, is, ni) pl).2.2.2.2.1), ((tW (ro, le, rn, be, wr, wn, is, ni) pl).2.2.2.2.2.1), ((tW (ro, le, rn, be, wr, wn, is, ni) pl).2.2.2.2.2.2.1), ((tW (ro, le, rn, be, wr, wn, is, ni) pl).2.2.2.2.2.2.2)) pl 0).2).2.2.2.1)))) :: R) _ := hW
      have o2 := tG_ok (pw := 0) o1 hp
      refine lv_istore (lv' := [(4, .int (nI ((tG (((tW (ro, le, rn, be, wr, wn, is, ni) pl).1), ((tW (ro, le, rn, be, wr, wn, is, ni) pl).2.1), ((tW (ro, le, rn, be, wr, wn, is, ni) pl).2.2.1), ((tW (ro, le, rn, be, wr, wn, is, ni) pl).2.2.2.1), ((tW (ro, le, rn, be, wr, wn, is, ni) pl).2.2.2.2.1), ((tW (ro, le, rn, be, wr, wn, is, ni) pl).2.2.2.2.2.1), ((tW (ro, le, rn, be, wr, wn, is, ni) pl).2.2.2.2.2.2.1), ((tW (ro, le, rn, be, wr, wn, is, ni) pl).2.2.2.2.2.2.2)) pl 0).1))), (0, .ref ht0), (1, .int (nI pl)), (2, .ref (g.2.2.2 k)), (3, .int (nI t))]) F.1 F.2.1 dX10_price_31 hl (by decide) rfl (fun ls hl => ?_)
      refine lv_iload_n F.1 F.2.1 dX10_price_33 rfl (lv_at hl 4 rfl) ?_
      refine gS_i (n := 1) (As := [.int (nI t)]) F hG hS hW (c_X10_isPlace_n g l  (by omega)) rfl gX10_price_X10_isPlace (by decide +kernel) ⟨rfl, rfl, Nat.le_of_ble_eq_true rfl, Nat.le_of_ble_eq_true rfl⟩ hl.1 (Nat.le_of_ble_eq_true rfl) ⟨Nat.le_of_ble_eq_true rfl, Nat.le_of_ble_eq_true rfl⟩ rfl rfl dX10_price_34 (fun r u H locs hq hW hS => ?_)
      obtain ⟨rfl, rfl⟩ := hq
      have hW : gW g ((ht0, .inr (7, [.ref tr, .ref tl, .ref tn, .ref tb, .int (oI (((tG (((tW (ro, le, rn, be, wr, wn, is, ni) pl).1), ((tW (ro, le, rn, be, wr, wn, is, ni) pl).2.1), ((tW (ro, le, rn, be, wr, wn, is, ni) pl).2.2.1), ((tW (ro, le, rn, be, wr, wn, is, ni) pl).2.2.2.1), ((tW (ro, le, rn, be, wr, wn, is, ni) pl).2.2.2.2.1), ((tW (ro, le, rn, be, wr, wn, is, ni) pl).2.2.2.2.2.1), ((tW (ro, le, rn, be, wr, wn, is, ni) pl).2.2.2.2.2.2.1), ((tW (ro, le, rn, be, wr, wn, is, ni) pl).2.2.2.2.2.2.2)) pl 0).2).2.2.2.2.1)), .int (nI (((tG (((tW (ro, le, rn, be, wr, wn, is, ni) pl).1), ((tW (ro, le, rn, be, wr, wn, is, ni) pl).2.1), ((tW (ro, le, rn, be, wr, wn, is, ni) pl).2.2.1), ((tW (ro, le, rn, be, wr, wn, is, ni) pl).2.2.2.1), ((tW (ro, le, rn, be, wr, wn, is, ni) pl).2.2.2.2.1), ((tW (ro, le, rn, be, wr, wn, is, ni) pl).2.2.2.2.2.1), ((tW (ro, le, rn, be, wr, wn, is, ni) pl).2.2.2.2.2.2.1), ((tW (ro, le, rn, be, wr, wn, is, ni) pl).2.2.2.2.2.2.2)) pl 0).2).2.2.2.2.2.1)), .int (oI (((tG (((tW (ro, le, rn, be, wr, wn, is, ni) pl).1), ((tW (ro, le, rn, be, wr, wn, is, ni) pl).2.1), ((tW (ro, le, rn, be, wr, wn, is, ni) pl).2.2.1), ((tW (ro, le, rn, be, wr, wn, is, ni) pl).2.2.2.1), ((tW (ro, le, rn, be, wr, wn, is, ni) pl).2.2.2.2.1), ((tW (ro, le, rn, be, wr, wn, is, ni) pl).2.2.2.2.2.1), ((tW (ro, le, rn, be, wr, wn, is, ni) pl).2.2.2.2.2.2.1), ((tW (ro, le, rn, be, wr, wn, is, ni) pl).2.2.2.2.2.2.2)) pl 0).2).2.2.2.2.2.2.1)), .int (nI (((tG (((tW (ro, le, rn, be, wr, wn, is, ni) pl).1), ((tW (ro, le, rn, be, wr, wn, is, ni) pl).2.1), ((tW (ro, le, rn, be, wr, wn, is, ni) pl).2.2.1), ((tW (ro, le, rn, be, wr, wn, is, ni) pl).2.2.2.1), ((tW (ro, le, rn, be, wr, wn, is, ni) pl).2.2.2.2.1), ((tW (ro, le, rn, be, wr, wn, is, ni) pl).2.2.2.2.2.1), ((tW (ro, le, rn, be, wr, wn, is, ni) pl).2.2.2.2.2.2.1), ((tW (ro, le, rn, be, wr, wn, is, ni) pl).2.2.2.2.2.2.2)) pl 0).2).2.2.2.2.2.2.2))])) :: (tr, .inl (g.2.1 0, 4000, .inl (nA (((tG (((tW (ro, le, rn, be, wr, wn, is, ni) pl).1), ((tW (ro, le, rn, be, wr, wn, is, ni) pl).2.1), ((tW (ro, le, rn, be, wr, wn, is, ni) pl).2.2.1), ((tW (ro, le, rn, be, wr, wn, is, ni) pl).2.2.2.1), ((tW (ro, le, rn, be, wr, wn, is, ni) pl).2.2.2.2.1), ((tW (ro, le, rn, be, wr, wn, is, ni) pl).2.2.2.2.2.1), ((tW (ro, le, rn, be, wr, wn, is, ni) pl).2.2.2.2.2.2.1), ((tW (ro, le, rn, be, wr, wn, is, ni) pl).2.2.2.2.2.2.2)) pl 0).2).1)))) :: (tl, .inl (g.2.1 0, 100, .inl (nA (((tG (((tW (ro, le, rn, be, wr, wn, is, ni) pl).1), ((tW (ro, le, rn, be, wr, wn, is, ni) pl).2.1), ((tW (ro, le, rn, be, wr, wn, is, ni) pl).2.2.1), ((tW (ro, le, rn, be, wr, wn, is, ni) pl).2.2.2.1), ((tW (ro, le, rn, be, wr, wn, is, ni) pl).2.2.2.2.1), ((tW (ro, le, rn, be, wr, wn, is, ni) pl).2.2.2.2.2.1), ((tW (ro, le, rn, be, wr, wn, is, ni) pl).2.2.2.2.2.2.1), ((tW (ro, le, rn, be, wr, wn, is, ni) pl).2.2.2.2.2.2.2)) pl 0).2).2.1)))) :: (tn, .inl (g.2.1 0, 100, .inl (nA (((tG (((tW (ro, le, rn, be, wr, wn, is, ni) pl).1), ((tW (ro, le, rn, be, wr, wn, is, ni) pl).2.1), ((tW (ro, le, rn, be, wr, wn, is, ni) pl).2.2.1), ((tW (ro, le, rn, be, wr, wn, is, ni) pl).2.2.2.1), ((tW (ro, le, rn, be, wr, wn, is, ni) pl).2.2.2.2.1), ((tW (ro, le, rn, be, wr, wn, is, ni) pl).2.2.2.2.2.1), ((tW (ro, le, rn, be, wr, wn, is, ni) pl).2.2.2.2.2.2.1), ((tW (ro, le, rn, be, wr, wn, is, ni) pl).2.2.2.2.2.2.2)) pl 0).2).2.2.1)))) :: (tb, .inl (g.2.1 1, 100, .inl (bA (((tG (((tW (ro, le, rn, be, wr, wn, is, ni) pl).1), ((tW (ro, le, rn, be, wr, wn, is, ni) pl).2.1), ((tW (ro, le, rn, be, wr, wn, is, ni) pl).2.2.1), ((tW (ro, le, rn, be, wr, wn, is, ni) pl).2.2.2.1), ((tW (ro, le, rn, be, wr, wn, is, ni) pl).2.2.2.2.1), ((tW (ro, le, rn, be, wr, wn, is, ni) pl).2.2.2.2.2.1), ((tW (ro, le, rn, be, wr, wn, is, ni) pl).2.2.2.2.2.2.1), ((tW (ro, le, rn, be, wr, wn, is, ni) pl).2.2.2.2.2.2.2)) pl 0).2).2.2.2.1)))) :: R) _ := hW
      refine gIfEqB (tgt := 50) F dX10_price_37 (by decide) (fun q => by simp at q) (fun c_37 => ?_)
      refine lv_iload_n F.1 F.2.1 dX10_price_40 rfl (lv_at hl 4 rfl) ?_
      refine lv_iload_n F.1 F.2.1 dX10_price_41 rfl (lv_at hl 2 rfl) ?_
      refine gGt (tgt := 50) F (by omega) (by omega) dX10_price_42 (by decide) (fun c_42 => ?_) (fun c_42 => ?_)
      · refine lv_iload F.1 F.2.1 dX10_price_50 (lv_at hl 0 rfl) ?_
        refine gRi F hW hS dX10_price_52 ?_
        exact ⟨by rw [tPr, if_neg c_20], by rw [show tP (ro, le, rn, be, wr, wn, is, ni) pl k (some t) = _ from if_neg (Nat.not_le.mpr c_42), if_neg c_20]⟩
      · refine lv_aload_n F.1 F.2.1 dX10_price_45 rfl (lv_at hl 1 rfl) ?_
        refine lv_iload_n F.1 F.2.1 dX10_price_46 rfl (lv_at hl 4 rfl) ?_
        refine gVv (n := 1) (q := (RX10, TX10, 8)) (q0 := 0) (As := [.int (nI t)]) F hG hS hW (c_X10_countRound g l  (by omega) (fun w z => Nat.lt_trans (o2.2.2.2.1 w z) (by decide)) (Nat.lt_of_le_of_lt (o2.2.2.1 t) hN)) rfl gX10_price_X10_countRound rfl rfl rfl (by decide +kernel) ⟨rfl, rfl, Nat.le_of_ble_eq_true rfl, Nat.le_of_ble_eq_true rfl⟩ hl.1 (Nat.le_of_ble_eq_true rfl) ⟨Nat.le_of_ble_eq_true rfl, Nat.le_of_ble_eq_true rfl⟩ rfl rfl dX10_price_47 (fun u H locs hq hW hS => ?_)
        obtain rfl := hq
        have hW : gW g ((ht0, .inr (7, [.ref tr, .ref tl, .ref tn, .ref tb, .int (oI ((tC ((((tG (((tW (ro, le, rn, be, wr, wn, is, ni) pl).1), ((tW (ro, le, rn, be, wr, wn, is, ni) pl).2.1), ((tW (ro, le, rn, be, wr, wn, is, ni) pl).2.2.1), ((tW (ro, le, rn, be, wr, wn, is, ni) pl).2.2.2.1), ((tW (ro, le, rn, be, wr, wn, is, ni) pl).2.2.2.2.1), ((tW (ro, le, rn, be, wr, wn, is, ni) pl).2.2.2.2.2.1), ((tW (ro, le, rn, be, wr, wn, is, ni) pl).2.2.2.2.2.2.1), ((tW (ro, le, rn, be, wr, wn, is, ni) pl).2.2.2.2.2.2.2)) pl 0).2).1), (((tG (((tW (ro, le, rn, be, wr, wn, is, ni) pl).1), ((tW (ro, le, rn, be, wr, wn, is, ni) pl).2.1), ((tW (ro, le, rn, be, wr, wn, is, ni) pl).2.2.1), ((tW (ro, le, rn, be, wr, wn, is, ni) pl).2.2.2.1), ((tW (ro, le, rn, be, wr, wn, is, ni) pl).2.2.2.2.1), ((tW (ro, le, rn, be, wr, wn, is, ni) pl).2.2.2.2.2.1), ((tW (ro, le, rn, be, wr, wn, is, ni) pl).2.2.2.2.2.2.1), ((tW (ro, le, rn, be, wr, wn, is, ni) pl).2.2.2.2.2.2.2)) pl 0).2).2.1), (((tG (((tW (ro, le, rn, be, wr, wn, is, ni) pl).1), ((tW (ro, le, rn, be, wr, wn, is, ni) pl).2.1), ((tW (ro, le, rn, be, wr, wn, is, ni) pl).2.2.1), ((tW (ro, le, rn, be, wr, wn, is, ni) pl).2.2.2.1), ((tW (ro, le, rn, be, wr, wn, is, ni) pl).2.2.2.2.1), ((tW (ro, le, rn, be, wr, wn, is, ni) pl).2.2.2.2.2.1), ((tW (ro, le, rn, be, wr, wn, is, ni) pl).2.2.2.2.2.2.1), ((tW (ro, le, rn, be, wr, wn, is, ni) pl).2.2.2.2.2.2.2)) pl 0).2).2.2.1), (((tG (((tW (ro, le, rn, be, wr, wn, is, ni) pl).1), ((tW (ro, le, rn, be, wr, wn, is, ni) pl).2.1), ((tW (ro, le, rn, be, wr, wn, is, ni) pl).2.2.1), ((tW (ro, le, rn, be, wr, wn, is, ni) pl).2.2.2.1), ((tW (ro, le, rn, be, wr, wn, is, ni) pl).2.2.2.2.1), ((tW (ro, le, rn, be, wr, wn, is, ni) pl).2.2.2.2.2.1), ((tW (ro, le, rn, be, wr, wn, is, ni) pl).2.2.2.2.2.2.1), ((tW (ro, le, rn, be, wr, wn, is, ni) pl).2.2.2.2.2.2.2)) pl 0).2).2.2.2.1), (((tG (((tW (ro, le, rn, be, wr, wn, is, ni) pl).1), ((tW (ro, le, rn, be, wr, wn, is, ni) pl).2.1), ((tW (ro, le, rn, be, wr, wn, is, ni) pl).2.2.1), ((tW (ro, le, rn, be, wr, wn, is, ni) pl).2.2.2.1), ((tW (ro, le, rn, be, wr, wn, is, ni) pl).2.2.2.2.1), ((tW (ro, le, rn, be, wr, wn, is, ni) pl).2.2.2.2.2.1), ((tW (ro, le, rn, be, wr, wn, is, ni) pl).2.2.2.2.2.2.1), ((tW (ro, le, rn, be, wr, wn, is, ni) pl).2.2.2.2.2.2.2)) pl 0).2).2.2.2.2.1), (((tG (((tW (ro, le, rn, be, wr, wn, is, ni) pl).1), ((tW (ro, le, rn, be, wr, wn, is, ni) pl).2.1), ((tW (ro, le, rn, be, wr, wn, is, ni) pl).2.2.1), ((tW (ro, le, rn, be, wr, wn, is, ni) pl).2.2.2.1), ((tW (ro, le, rn, be, wr, wn, is, ni) pl).2.2.2.2.1), ((tW (ro, le, rn, be, wr, wn, is, ni) pl).2.2.2.2.2.1), ((tW (ro, le, rn, be, wr, wn, is, ni) pl).2.2.2.2.2.2.1), ((tW (ro, le, rn, be, wr, wn, is, ni) pl).2.2.2.2.2.2.2)) pl 0).2).2.2.2.2.2.1), (((tG (((tW (ro, le, rn, be, wr, wn, is, ni) pl).1), ((tW (ro, le, rn, be, wr, wn, is, ni) pl).2.1), ((tW (ro, le, rn, be, wr, wn, is, ni) pl).2.2.1), ((tW (ro, le, rn, be, wr, wn, is, ni) pl).2.2.2.1), ((tW (ro, le, rn, be, wr, wn, is, ni) pl).2.2.2.2.1), ((tW (ro, le, rn, be, wr, wn, is, ni) pl).2.2.2.2.2.1), ((tW (ro, le, rn, be, wr, wn, is, ni) pl).2.2.2.2.2.2.1), ((tW (ro, le, rn, be, wr, wn, is, ni) pl).2.2.2.2.2.2.2)) pl 0).2).2.2.2.2.2.2.1), (((tG (((tW (ro, le, rn, be, wr, wn, is, ni) pl).1), ((tW (ro, le, rn, be, wr, wn, is, ni) pl).2.1), ((tW (ro, le, rn, be, wr, wn, is, ni) pl).2.2.1), ((tW (ro, le, rn, be, wr, wn, is, ni) pl).2.2.2.1), ((tW (ro, le, rn, be, wr, wn, is, ni) pl).2.2.2.2.1), ((tW (ro, le, rn, be, wr, wn, is, ni) pl).2.2.2.2.2.1), ((tW (ro, le, rn, be, wr, wn, is, ni) pl).2.2.2.2.2.2.1), ((tW (ro, le, rn, be, wr, wn, is, ni) pl).2.2.2.2.2.2.2)) pl 0).2).2.2.2.2.2.2.2)) t).2.2.2.2.1)), .int (nI ((tC ((((tG (((tW (ro, le, rn, be, wr, wn, is, ni) pl).1), ((tW (ro, le, rn, be, wr, wn, is, ni) pl).2.1), ((tW (ro, le, rn, be, wr, wn, is, ni) pl).2.2.1), ((tW (ro, le, rn, be, wr, wn, is, ni) pl).2.2.2.1), ((tW (ro, le, rn, be, wr, wn, is, ni) pl).2.2.2.2.1), ((tW (ro, le, rn, be, wr, wn, is, ni) pl).2.2.2.2.2.1), ((tW (ro, le, rn, be, wr, wn, is, ni) pl).2.2.2.2.2.2.1), ((tW (ro, le, rn, be, wr, wn, is, ni) pl).2.2.2.2.2.2.2)) pl 0).2).1), (((tG (((tW (ro, le, rn, be, wr, wn, is, ni) pl).1), ((tW (ro, le, rn, be, wr, wn, is, ni) pl).2.1), ((tW (ro, le, rn, be, wr, wn, is, ni) pl).2.2.1), ((tW (ro, le, rn, be, wr, wn, is, ni) pl).2.2.2.1), ((tW (ro, le, rn, be, wr, wn, is, ni) pl).2.2.2.2.1), ((tW (ro, le, rn, be, wr, wn, is, ni) pl).2.2.2.2.2.1), ((tW (ro, le, rn, be, wr, wn, is, ni) pl).2.2.2.2.2.2.1), ((tW (ro, le, rn, be, wr, wn, is, ni) pl).2.2.2.2.2.2.2)) pl 0).2).2.1), (((tG (((tW (ro, le, rn, be, wr, wn, is, ni) pl).1), ((tW (ro, le, rn, be, wr, wn, is, ni) pl).2.1), ((tW (ro, le, rn, be, wr, wn, is, ni) pl).2.2.1), ((tW (ro, le, rn, be, wr, wn, is, ni) pl).2.2.2.1), ((tW (ro, le, rn, be, wr, wn, is, ni) pl).2.2.2.2.1), ((tW (ro, le, rn, be, wr, wn, is, ni) pl).2.2.2.2.2.1), ((tW (ro, le, rn, be, wr, wn, is, ni) pl).2.2.2.2.2.2.1), ((tW (ro, le, rn, be, wr, wn, is, ni) pl).2.2.2.2.2.2.2)) pl 0).2).2.2.1), (((tG (((tW (ro, le, rn, be, wr, wn, is, ni) pl).1), ((tW (ro, le, rn, be, wr, wn, is, ni) pl).2.1), ((tW (ro, le, rn, be, wr, wn, is, ni) pl).2.2.1), ((tW (ro, le, rn, be, wr, wn, is, ni) pl).2.2.2.1), ((tW (ro, le, rn, be, wr, wn, is, ni) pl).2.2.2.2.1), ((tW (ro, le, rn, be, wr, wn, is, ni) pl).2.2.2.2.2.1), ((tW (ro, le, rn, be, wr, wn, is, ni) pl).2.2.2.2.2.2.1), ((tW (ro, le, rn, be, wr, wn, is, ni) pl).2.2.2.2.2.2.2)) pl 0).2).2.2.2.1), (((tG (((tW (ro, le, rn, be, wr, wn, is, ni) pl).1), ((tW (ro, le, rn, be, wr, wn, is, ni) pl).2.1), ((tW (ro, le, rn, be, wr, wn, is, ni) pl).2.2.1), ((tW (ro, le, rn, be, wr, wn, is, ni) pl).2.2.2.1), ((tW (ro, le, rn, be, wr, wn, is, ni) pl).2.2.2.2.1), ((tW (ro, le, rn, be, wr, wn, is, ni) pl).2.2.2.2.2.1), ((tW (ro, le, rn, be, wr, wn, is, ni) pl).2.2.2.2.2.2.1), ((tW (ro, le, rn, be, wr, wn, is, ni) pl).2.2.2.2.2.2.2)) pl 0).2).2.2.2.2.1), (((tG (((tW (ro, le, rn, be, wr, wn, is, ni) pl).1), ((tW (ro, le, rn, be, wr, wn, is, ni) pl).2.1), ((tW (ro, le, rn, be, wr, wn, is, ni) pl).2.2.1), ((tW (ro, le, rn, be, wr, wn, is, ni) pl).2.2.2.1), ((tW (ro, le, rn, be, wr, wn, is, ni) pl).2.2.2.2.1), ((tW (ro, le, rn, be, wr, wn, is, ni) pl).2.2.2.2.2.1), ((tW (ro, le, rn, be, wr, wn, is, ni) pl).2.2.2.2.2.2.1), ((tW (ro, le, rn, be, wr, wn, is, ni) pl).2.2.2.2.2.2.2)) pl 0).2).2.2.2.2.2.1), (((tG (((tW (ro, le, rn, be, wr, wn, is, ni) pl).1), ((tW (ro, le, rn, be, wr, wn, is, ni) pl).2.1), ((tW (ro, le, rn, be, wr, wn, is, ni) pl).2.2.1), ((tW (ro, le, rn, be, wr, wn, is, ni) pl).2.2.2.1), ((tW (ro, le, rn, be, wr, wn, is, ni) pl).2.2.2.2.1), ((tW (ro, le, rn, be, wr, wn, is, ni) pl).2.2.2.2.2.1), ((tW (ro, le, rn, be, wr, wn, is, ni) pl).2.2.2.2.2.2.1), ((tW (ro, le, rn, be, wr, wn, is, ni) pl).2.2.2.2.2.2.2)) pl 0).2).2.2.2.2.2.2.1), (((tG (((tW (ro, le, rn, be, wr, wn, is, ni) pl).1), ((tW (ro, le, rn, be, wr, wn, is, ni) pl).2.1), ((tW (ro, le, rn, be, wr, wn, is, ni) pl).2.2.1), ((tW (ro, le, rn, be, wr, wn, is, ni) pl).2.2.2.1), ((tW (ro, le, rn, be, wr, wn, is, ni) pl).2.2.2.2.1), ((tW (ro, le, rn, be, wr, wn, is, ni) pl).2.2.2.2.2.1), ((tW (ro, le, rn, be, wr, wn, is, ni) pl).2.2.2.2.2.2.1), ((tW (ro, le, rn, be, wr, wn, is, ni) pl).2.2.2.2.2.2.2)) pl 0).2).2.2.2.2.2.2.2)) t).2.2.2.2.2.1)), .int (oI ((tC ((((tG (((tW (ro, le, rn, be, wr, wn, is, ni) pl).1), ((tW (ro, le, rn, be, wr, wn, is, ni) pl).2.1), ((tW (ro, le, rn, be, wr, wn, is, ni) pl).2.2.1), ((tW (ro, le, rn, be, wr, wn, is, ni) pl).2.2.2.1), ((tW (ro, le, rn, be, wr, wn, is, ni) pl).2.2.2.2.1), ((tW (ro, le, rn, be, wr, wn, is, ni) pl).2.2.2.2.2.1), ((tW (ro, le, rn, be, wr, wn, is, ni) pl).2.2.2.2.2.2.1), ((tW (ro, le, rn, be, wr, wn, is, ni) pl).2.2.2.2.2.2.2)) pl 0).2).1), (((tG (((tW (ro, le, rn, be, wr, wn, is, ni) pl).1), ((tW (ro, le, rn, be, wr, wn, is, ni) pl).2.1), ((tW (ro, le, rn, be, wr, wn, is, ni) pl).2.2.1), ((tW (ro, le, rn, be, wr, wn, is, ni) pl).2.2.2.1), ((tW (ro, le, rn, be, wr, wn, is, ni) pl).2.2.2.2.1), ((tW (ro, le, rn, be, wr, wn, is, ni) pl).2.2.2.2.2.1), ((tW (ro, le, rn, be, wr, wn, is, ni) pl).2.2.2.2.2.2.1), ((tW (ro, le, rn, be, wr, wn, is, ni) pl).2.2.2.2.2.2.2)) pl 0).2).2.1), (((tG (((tW (ro, le, rn, be, wr, wn, is, ni) pl).1), ((tW (ro, le, rn, be, wr, wn, is, ni) pl).2.1), ((tW (ro, le, rn, be, wr, wn, is, ni) pl).2.2.1), ((tW (ro, le, rn, be, wr, wn, is, ni) pl).2.2.2.1), ((tW (ro, le, rn, be, wr, wn, is, ni) pl).2.2.2.2.1), ((tW (ro, le, rn, be, wr, wn, is, ni) pl).2.2.2.2.2.1), ((tW (ro, le, rn, be, wr, wn, is, ni) pl).2.2.2.2.2.2.1), ((tW (ro, le, rn, be, wr, wn, is, ni) pl).2.2.2.2.2.2.2)) pl 0).2).2.2.1), (((tG (((tW (ro, le, rn, be, wr, wn, is, ni) pl).1), ((tW (ro, le, rn, be, wr, wn, is, ni) pl).2.1), ((tW (ro, le, rn, be, wr, wn, is, ni) pl).2.2.1), ((tW (ro, le, rn, be, wr, wn, is, ni) pl).2.2.2.1), ((tW (ro, le, rn, be, wr, wn, is, ni) pl).2.2.2.2.1), ((tW (ro, le, rn, be, wr, wn, is, ni) pl).2.2.2.2.2.1), ((tW (ro, le, rn, be, wr, wn, is, ni) pl).2.2.2.2.2.2.1), ((tW (ro, le, rn, be, wr, wn, is, ni) pl).2.2.2.2.2.2.2)) pl 0).2).2.2.2.1), (((tG (((tW (ro, le, rn, be, wr, wn, is, ni) pl).1), ((tW (ro, le, rn, be, wr, wn, is, ni) pl).2.1), ((tW (ro, le, rn, be, wr, wn, is, ni) pl).2.2.1), ((tW (ro, le, rn, be, wr, wn, is, ni) pl).2.2.2.1), ((tW (ro, le, rn, be, wr, wn, is, ni) pl).2.2.2.2.1), ((tW (ro, le, rn, be, wr, wn, is, ni) pl).2.2.2.2.2.1), ((tW (ro, le, rn, be, wr, wn, is, ni) pl).2.2.2.2.2.2.1), ((tW (ro, le, rn, be, wr, wn, is, ni) pl).2.2.2.2.2.2.2)) pl 0).2).2.2.2.2.1), (((tG (((tW (ro, le, rn, be, wr, wn, is, ni) pl).1), ((tW (ro, le, rn, be, wr, wn, is, ni) pl).2.1), ((tW (ro, le, rn, be, wr, wn, is, ni) pl).2.2.1), ((tW (ro, le, rn, be, wr, wn, is, ni) pl).2.2.2.1), ((tW (ro, le, rn, be, wr, wn, is, ni) pl).2.2.2.2.1), ((tW (ro, le, rn, be, wr, wn, is, ni) pl).2.2.2.2.2.1), ((tW (ro, le, rn, be, wr, wn, is, ni) pl).2.2.2.2.2.2.1), ((tW (ro, le, rn, be, wr, wn, is, ni) pl).2.2.2.2.2.2.2)) pl 0).2).2.2.2.2.2.1), (((tG (((tW (ro, le, rn, be, wr, wn, is, ni) pl).1), ((tW (ro, le, rn, be, wr, wn, is, ni) pl).2.1), ((tW (ro, le, rn, be, wr, wn, is, ni) pl).2.2.1), ((tW (ro, le, rn, be, wr, wn, is, ni) pl).2.2.2.1), ((tW (ro, le, rn, be, wr, wn, is, ni) pl).2.2.2.2.1), ((tW (ro, le, rn, be, wr, wn, is, ni) pl).2.2.2.2.2.1), ((tW (ro, le, rn, be, wr, wn, is, ni) pl).2.2.2.2.2.2.1), ((tW (ro, le, rn, be, wr, wn, is, ni) pl).2.2.2.2.2.2.2)) pl 0).2).2.2.2.2.2.2.1), (((tG (((tW (ro, le, rn, be, wr, wn, is, ni) pl).1), ((tW (ro, le, rn, be, wr, wn, is, ni) pl).2.1), ((tW (ro, le, rn, be, wr, wn, is, ni) pl).2.2.1), ((tW (ro, le, rn, be, wr, wn, is, ni) pl).2.2.2.1), ((tW (ro, le, rn, be, wr, wn, is, ni) pl).2.2.2.2.1), ((tW (ro, le, rn, be, wr, wn, is, ni) pl).2.2.2.2.2.1), ((tW (ro, le, rn, be, wr, wn, is, ni) pl).2.2.2.2.2.2.1), ((tW (ro, le, rn, be, wr, wn, is, ni) pl).2.2.2.2.2.2.2)) pl 0).2).2.2.2.2.2.2.2)) t).2.2.2.2.2.2.1)), .int (nI ((tC ((((tG (((tW (ro, le, rn, be, wr, wn, is, ni) pl).1), ((tW (ro, le, rn, be, wr, wn, is, ni) pl).2.1), ((tW (ro, le, rn, be, wr, wn, is, ni) pl).2.2.1), ((tW (ro, le, rn, be, wr, wn, is, ni) pl).2.2.2.1), ((tW (ro, le, rn, be, wr, wn, is, ni) pl).2.2.2.2.1), ((tW (ro, le, rn, be, wr, wn, is, ni) pl).2.2.2.2.2.1), ((tW (ro, le, rn, be, wr, wn, is, ni) pl).2.2.2.2.2.2.1), ((tW (ro, le, rn, be, wr, wn, is, ni) pl).2.2.2.2.2.2.2)) pl 0).2).1), (((tG (((tW (ro, le, rn, be, wr, wn, is, ni) pl).1), ((tW (ro, le, rn, be, wr, wn, is, ni) pl).2.1), ((tW (ro, le, rn, be, wr, wn, is, ni) pl).2.2.1), ((tW (ro, le, rn, be, wr, wn, is, ni) pl).2.2.2.1), ((tW (ro, le, rn, be, wr, wn, is, ni) pl).2.2.2.2.1), ((tW (ro, le, rn, be, wr, wn, is, ni) pl).2.2.2.2.2.1), ((tW (ro, le, rn, be, wr, wn, is, ni) pl).2.2.2.2.2.2.1), ((tW (ro, le, rn, be, wr, wn, is, ni) pl).2.2.2.2.2.2.2)) pl 0).2).2.1), (((tG (((tW (ro, le, rn, be, wr, wn, is, ni) pl).1), ((tW (ro, le, rn, be, wr, wn, is, ni) pl).2.1), ((tW (ro, le, rn, be, wr, wn, is, ni) pl).2.2.1), ((tW (ro, le, rn, be, wr, wn, is, ni) pl).2.2.2.1), ((tW (ro, le, rn, be, wr, wn, is, ni) pl).2.2.2.2.1), ((tW (ro, le, rn, be, wr, wn, is, ni) pl).2.2.2.2.2.1), ((tW (ro, le, rn, be, wr, wn, is, ni) pl).2.2.2.2.2.2.1), ((tW (ro, le, rn, be, wr, wn, is, ni) pl).2.2.2.2.2.2.2)) pl 0).2).2.2.1), (((tG (((tW (ro, le, rn, be, wr, wn, is, ni) pl).1), ((tW (ro, le, rn, be, wr, wn, is, ni) pl).2.1), ((tW (ro, le, rn, be, wr, wn, is, ni) pl).2.2.1), ((tW (ro, le, rn, be, wr, wn, is, ni) pl).2.2.2.1), ((tW (ro, le, rn, be, wr, wn, is, ni) pl).2.2.2.2.1), ((tW (ro, le, rn, be, wr, wn, is, ni) pl).2.2.2.2.2.1), ((tW (ro, le, rn, be, wr, wn, is, ni) pl).2.2.2.2.2.2.1), ((tW (ro, le, rn, be, wr, wn, is, ni) pl).2.2.2.2.2.2.2)) pl 0).2).2.2.2.1), (((tG (((tW (ro, le, rn, be, wr, wn, is, ni) pl).1), ((tW (ro, le, rn, be, wr, wn, is, ni) pl).2.1), ((tW (ro, le, rn, be, wr, wn, is, ni) pl).2.2.1), ((tW (ro, le, rn, be, wr, wn, is, ni) pl).2.2.2.1), ((tW (ro, le, rn, be, wr, wn, is, ni) pl).2.2.2.2.1), ((tW (ro, le, rn, be, wr, wn, is, ni) pl).2.2.2.2.2.1), ((tW (ro, le, rn, be, wr, wn, is, ni) pl).2.2.2.2.2.2.1), ((tW (ro, le, rn, be, wr, wn, is, ni) pl).2.2.2.2.2.2.2)) pl 0).2).2.2.2.2.1), (((tG (((tW (ro, le, rn, be, wr, wn, is, ni) pl).1), ((tW (ro, le, rn, be, wr, wn, is, ni) pl).2.1), ((tW (ro, le, rn, be, wr, wn, is, ni) pl).2.2.1), ((tW (ro, le, rn, be, wr, wn, is, ni) pl).2.2.2.1), ((tW (ro, le, rn, be, wr, wn, is, ni) pl).2.2.2.2.1), ((tW (ro, le, rn, be, wr, wn, is, ni) pl).2.2.2.2.2.1), ((tW (ro, le, rn, be, wr, wn, is, ni) pl).2.2.2.2.2.2.1), ((tW (ro, le, rn, be, wr, wn, is, ni) pl).2.2.2.2.2.2.2)) pl 0).2).2.2.2.2.2.1), (((tG (((tW (ro, le, rn, be, wr, wn, is, ni) pl).1), ((tW (ro, le, rn, be, wr, wn, is, ni) pl).2.1), ((tW (ro, le, rn, be, wr, wn, is, ni) pl).2.2.1), ((tW (ro, le, rn, be, wr, wn, is, ni) pl).2.2.2.1), ((tW (ro, le, rn, be, wr, wn, is, ni) pl).2.2.2.2.1), ((tW (ro, le, rn, be, wr, wn, is, ni) pl).2.2.2.2.2.1), ((tW (ro, le, rn, be, wr, wn, is, ni) pl).2.2.2.2.2.2.1), ((tW (ro, le, rn, be, wr, wn, is, ni) pl).2.2.2.2.2.2.2)) pl 0).2).2.2.2.2.2.2.1), (((tG (((tW (ro, le, rn, be, wr, wn, is, ni) pl).1), ((tW (ro, le, rn, be, wr, wn, is, ni) pl).2.1), ((tW (ro, le, rn, be, wr, wn, is, ni) pl).2.2.1), ((tW (ro, le, rn, be, wr, wn, is, ni) pl).2.2.2.1), ((tW (ro, le, rn, be, wr, wn, is, ni) pl).2.2.2.2.1), ((tW (ro, le, rn, be, wr, wn, is, ni) pl).2.2.2.2.2.1), ((tW (ro, le, rn, be, wr, wn, is, ni) pl).2.2.2.2.2.2.1), ((tW (ro, le, rn, be, wr, wn, is, ni) pl).2.2.2.2.2.2.2)) pl 0).2).2.2.2.2.2.2.2)) t).2.2.2.2.2.2.2))])) :: (tr, .inl (g.2.1 0, 4000, .inl (nA ((tC ((((tG (((tW (ro, le, rn, be, wr, wn, is, ni) pl).1), ((tW (ro, le, rn, be, wr, wn, is, ni) pl).2.1), ((tW (ro, le, rn, be, wr, wn, is, ni) pl).2.2.1), ((tW (ro, le, rn, be, wr, wn, is, ni) pl).2.2.2.1), ((tW (ro, le, rn, be, wr, wn, is, ni) pl).2.2.2.2.1), ((tW (ro, le, rn, be, wr, wn, is, ni) pl).2.2.2.2.2.1), ((tW (ro, le, rn, be, wr, wn, is, ni) pl).2.2.2.2.2.2.1), ((tW (ro, le, rn, be, wr, wn, is, ni) pl).2.2.2.2.2.2.2)) pl 0).2).1), (((tG (((tW (ro, le, rn, be, wr, wn, is, ni) pl).1), ((tW (ro, le, rn, be, wr, wn, is, ni) pl).2.1), ((tW (ro, le, rn, be, wr, wn, is, ni) pl).2.2.1), ((tW (ro, le, rn, be, wr, wn, is, ni) pl).2.2.2.1), ((tW (ro, le, rn, be, wr, wn, is, ni) pl).2.2.2.2.1), ((tW (ro, le, rn, be, wr, wn, is, ni) pl).2.2.2.2.2.1), ((tW (ro, le, rn, be, wr, wn, is, ni) pl).2.2.2.2.2.2.1), ((tW (ro, le, rn, be, wr, wn, is, ni) pl).2.2.2.2.2.2.2)) pl 0).2).2.1), (((tG (((tW (ro, le, rn, be, wr, wn, is, ni) pl).1), ((tW (ro, le, rn, be, wr, wn, is, ni) pl).2.1), ((tW (ro, le, rn, be, wr, wn, is, ni) pl).2.2.1), ((tW (ro, le, rn, be, wr, wn, is, ni) pl).2.2.2.1), ((tW (ro, le, rn, be, wr, wn, is, ni) pl).2.2.2.2.1), ((tW (ro, le, rn, be, wr, wn, is, ni) pl).2.2.2.2.2.1), ((tW (ro, le, rn, be, wr, wn, is, ni) pl).2.2.2.2.2.2.1), ((tW (ro, le, rn, be, wr, wn, is, ni) pl).2.2.2.2.2.2.2)) pl 0).2).2.2.1), (((tG (((tW (ro, le, rn, be, wr, wn, is, ni) pl).1), ((tW (ro, le, rn, be, wr, wn, is, ni) pl).2.1), ((tW (ro, le, rn, be, wr, wn, is, ni) pl).2.2.1), ((tW (ro, le, rn, be, wr, wn, is, ni) pl).2.2.2.1), ((tW (ro, le, rn, be, wr, wn, is, ni) pl).2.2.2.2.1), ((tW (ro, le, rn, be, wr, wn, is, ni) pl).2.2.2.2.2.1), ((tW (ro, le, rn, be, wr, wn, is, ni) pl).2.2.2.2.2.2.1), ((tW (ro, le, rn, be, wr, wn, is, ni) pl).2.2.2.2.2.2.2)) pl 0).2).2.2.2.1), (((tG (((tW (ro, le, rn, be, wr, wn, is, ni) pl).1), ((tW (ro, le, rn, be, wr, wn, is, ni) pl).2.1), ((tW (ro, le, rn, be, wr, wn, is, ni) pl).2.2.1), ((tW (ro, le, rn, be, wr, wn, is, ni) pl).2.2.2.1), ((tW (ro, le, rn, be, wr, wn, is, ni) pl).2.2.2.2.1), ((tW (ro, le, rn, be, wr, wn, is, ni) pl).2.2.2.2.2.1), ((tW (ro, le, rn, be, wr, wn, is, ni) pl).2.2.2.2.2.2.1), ((tW (ro, le, rn, be, wr, wn, is, ni) pl).2.2.2.2.2.2.2)) pl 0).2).2.2.2.2.1), (((tG (((tW (ro, le, rn, be, wr, wn, is, ni) pl).1), ((tW (ro, le, rn, be, wr, wn, is, ni) pl).2.1), ((tW (ro, le, rn, be, wr, wn, is, ni) pl).2.2.1), ((tW (ro, le, rn, be, wr, wn, is, ni) pl).2.2.2.1), ((tW (ro, le, rn, be, wr, wn, is, ni) pl).2.2.2.2.1), ((tW (ro, le, rn, be, wr, wn, is, ni) pl).2.2.2.2.2.1), ((tW (ro, le, rn, be, wr, wn, is, ni) pl).2.2.2.2.2.2.1), ((tW (ro, le, rn, be, wr, wn, is, ni) pl).2.2.2.2.2.2.2)) pl 0).2).2.2.2.2.2.1), (((tG (((tW (ro, le, rn, be, wr, wn, is, ni) pl).1), ((tW (ro, le, rn, be, wr, wn, is, ni) pl).2.1), ((tW (ro, le, rn, be, wr, wn, is, ni) pl).2.2.1), ((tW (ro, le, rn, be, wr, wn, is, ni) pl).2.2.2.1), ((tW (ro, le, rn, be, wr, wn, is, ni) pl).2.2.2.2.1), ((tW (ro, le, rn, be, wr, wn, is, ni) pl).2.2.2.2.2.1), ((tW (ro, le, rn, be, wr, wn, is, ni) pl).2.2.2.2.2.2.1), ((tW (ro, le, rn, be, wr, wn, is, ni) pl).2.2.2.2.2.2.2)) pl 0).2).2.2.2.2.2.2.1), (((tG (((tW (ro, le, rn, be, wr, wn, is, ni) pl).1), ((tW (ro, le, rn, be, wr, wn, is, ni) pl).2.1), ((tW (ro, le, rn, be, wr, wn, is, ni) pl).2.2.1), ((tW (ro, le, rn, be, wr, wn, is, ni) pl).2.2.2.1), ((tW (ro, le, rn, be, wr, wn, is, ni) pl).2.2.2.2.1), ((tW (ro, le, rn, be, wr, wn, is, ni) pl).2.2.2.2.2.1), ((tW (ro, le, rn, be, wr, wn, is, ni) pl).2.2.2.2.2.2.1), ((tW (ro, le, rn, be, wr, wn, is, ni) pl).2.2.2.2.2.2.2)) pl 0).2).2.2.2.2.2.2.2)) t).1)))) :: (tl, .inl (g.2.1 0, 100, .inl (nA ((tC ((((tG (((tW (ro, le, rn, be, wr, wn, is, ni) pl).1), ((tW (ro, le, rn, be, wr, wn, is, ni) pl).2.1), ((tW (ro, le, rn, be, wr, wn, is, ni) pl).2.2.1), ((tW (ro, le, rn, be, wr, wn, is, ni) pl).2.2.2.1), ((tW (ro, le, rn, be, wr, wn, is, ni) pl).2.2.2.2.1), ((tW (ro, le, rn, be, wr, wn, is, ni) pl).2.2.2.2.2.1), ((tW (ro, le, rn, be, wr, wn, is, ni) pl).2.2.2.2.2.2.1), ((tW (ro, le, rn, be, wr, wn, is, ni) pl).2.2.2.2.2.2.2)) pl 0).2).1), (((tG (((tW (ro, le, rn, be, wr, wn, is, ni) pl).1), ((tW (ro, le, rn, be, wr, wn, is, ni) pl).2.1), ((tW (ro, le, rn, be, wr, wn, is, ni) pl).2.2.1), ((tW (ro, le, rn, be, wr, wn, is, ni) pl).2.2.2.1), ((tW (ro, le, rn, be, wr, wn, is, ni) pl).2.2.2.2.1), ((tW (ro, le, rn, be, wr, wn, is, ni) pl).2.2.2.2.2.1), ((tW (ro, le, rn, be, wr, wn, is, ni) pl).2.2.2.2.2.2.1), ((tW (ro, le, rn, be, wr, wn, is, ni) pl).2.2.2.2.2.2.2)) pl 0).2).2.1), (((tG (((tW (ro, le, rn, be, wr, wn, is, ni) pl).1), ((tW (ro, le, rn, be, wr, wn, is, ni) pl).2.1), ((tW (ro, le, rn, be, wr, wn, is, ni) pl).2.2.1), ((tW (ro, le, rn, be, wr, wn, is, ni) pl).2.2.2.1), ((tW (ro, le, rn, be, wr, wn, is, ni) pl).2.2.2.2.1), ((tW (ro, le, rn, be, wr, wn, is, ni) pl).2.2.2.2.2.1), ((tW (ro, le, rn, be, wr, wn, is, ni) pl).2.2.2.2.2.2.1), ((tW (ro, le, rn, be, wr, wn, is, ni) pl).2.2.2.2.2.2.2)) pl 0).2).2.2.1), (((tG (((tW (ro, le, rn, be, wr, wn, is, ni) pl).1), ((tW (ro, le, rn, be, wr, wn, is, ni) pl).2.1), ((tW (ro, le, rn, be, wr, wn, is, ni) pl).2.2.1), ((tW (ro, le, rn, be, wr, wn, is, ni) pl).2.2.2.1), ((tW (ro, le, rn, be, wr, wn, is, ni) pl).2.2.2.2.1), ((tW (ro, le, rn, be, wr, wn, is, ni) pl).2.2.2.2.2.1), ((tW (ro, le, rn, be, wr, wn, is, ni) pl).2.2.2.2.2.2.1), ((tW (ro, le, rn, be, wr, wn, is, ni) pl).2.2.2.2.2.2.2)) pl 0).2).2.2.2.1), (((tG (((tW (ro, le, rn, be, wr, wn, is, ni) pl).1), ((tW (ro, le, rn, be, wr, wn, is, ni) pl).2.1), ((tW (ro, le, rn, be, wr, wn, is, ni) pl).2.2.1), ((tW (ro, le, rn, be, wr, wn, is, ni) pl).2.2.2.1), ((tW (ro, le, rn, be, wr, wn, is, ni) pl).2.2.2.2.1), ((tW (ro, le, rn, be, wr, wn, is, ni) pl).2.2.2.2.2.1), ((tW (ro, le, rn, be, wr, wn, is, ni) pl).2.2.2.2.2.2.1), ((tW (ro, le, rn, be, wr, wn, is, ni) pl).2.2.2.2.2.2.2)) pl 0).2).2.2.2.2.1), (((tG (((tW (ro, le, rn, be, wr, wn, is, ni) pl).1), ((tW (ro, le, rn, be, wr, wn, is, ni) pl).2.1), ((tW (ro, le, rn, be, wr, wn, is, ni) pl).2.2.1), ((tW (ro, le, rn, be, wr, wn, is, ni) pl).2.2.2.1), ((tW (ro, le, rn, be, wr, wn, is, ni) pl).2.2.2.2.1), ((tW (ro, le, rn, be, wr, wn, is, ni) pl).2.2.2.2.2.1), ((tW (ro, le, rn, be, wr, wn, is, ni) pl).2.2.2.2.2.2.1), ((tW (ro, le, rn, be, wr, wn, is, ni) pl).2.2.2.2.2.2.2)) pl 0).2).2.2.2.2.2.1), (((tG (((tW (ro, le, rn, be, wr, wn, is, ni) pl).1), ((tW (ro, le, rn, be, wr, wn, is, ni) pl).2.1), ((tW (ro, le, rn, be, wr, wn, is, ni) pl).2.2.1), ((tW (ro, le, rn, be, wr, wn, is, ni) pl).2.2.2.1), ((tW (ro, le, rn, be, wr, wn, is, ni) pl).2.2.2.2.1), ((tW (ro, le, rn, be, wr, wn, is, ni) pl).2.2.2.2.2.1), ((tW (ro, le, rn, be, wr, wn, is, ni) pl).2.2.2.2.2.2.1), ((tW (ro, le, rn, be, wr, wn, is, ni) pl).2.2.2.2.2.2.2)) pl 0).2).2.2.2.2.2.2.1), (((tG (((tW (ro, le, rn, be, wr, wn, is, ni) pl).1), ((tW (ro, le, rn, be, wr, wn, is, ni) pl).2.1), ((tW (ro, le, rn, be, wr, wn, is, ni) pl).2.2.1), ((tW (ro, le, rn, be, wr, wn, is, ni) pl).2.2.2.1), ((tW (ro, le, rn, be, wr, wn, is, ni) pl).2.2.2.2.1), ((tW (ro, le, rn, be, wr, wn, is, ni) pl).2.2.2.2.2.1), ((tW (ro, le, rn, be, wr, wn, is, ni) pl).2.2.2.2.2.2.1), ((tW (ro, le, rn, be, wr, wn, is, ni) pl).2.2.2.2.2.2.2)) pl 0).2).2.2.2.2.2.2.2)) t).2.1)))) :: (tn, .inl (g.2.1 0, 100, .inl (nA ((tC ((((tG (((tW (ro, le, rn, be, wr, wn, is, ni) pl).1), ((tW (ro, le, rn, be, wr, wn, is, ni) pl).2.1), ((tW (ro, le, rn, be, wr, wn, is, ni) pl).2.2.1), ((tW (ro, le, rn, be, wr, wn, is, ni) pl).2.2.2.1), ((tW (ro, le, rn, be, wr, wn, is, ni) pl).2.2.2.2.1), ((tW (ro, le, rn, be, wr, wn, is, ni) pl).2.2.2.2.2.1), ((tW (ro, le, rn, be, wr, wn, is, ni) pl).2.2.2.2.2.2.1), ((tW (ro, le, rn, be, wr, wn, is, ni) pl).2.2.2.2.2.2.2)) pl 0).2).1), (((tG (((tW (ro, le, rn, be, wr, wn, is, ni) pl).1), ((tW (ro, le, rn, be, wr, wn, is, ni) pl).2.1), ((tW (ro, le, rn, be, wr, wn, is, ni) pl).2.2.1), ((tW (ro, le, rn, be, wr, wn, is, ni) pl).2.2.2.1), ((tW (ro, le, rn, be, wr, wn, is, ni) pl).2.2.2.2.1), ((tW (ro, le, rn, be, wr, wn, is, ni) pl).2.2.2.2.2.1), ((tW (ro, le, rn, be, wr, wn, is, ni) pl).2.2.2.2.2.2.1), ((tW (ro, le, rn, be, wr, wn, is, ni) pl).2.2.2.2.2.2.2)) pl 0).2).2.1), (((tG (((tW (ro, le, rn, be, wr, wn, is, ni) pl).1), ((tW (ro, le, rn, be, wr, wn, is, ni) pl).2.1), ((tW (ro, le, rn, be, wr, wn, is, ni) pl).2.2.1), ((tW (ro, le, rn, be, wr, wn, is, ni) pl).2.2.2.1), ((tW (ro, le, rn, be, wr, wn, is, ni) pl).2.2.2.2.1), ((tW (ro, le, rn, be, wr, wn, is, ni) pl).2.2.2.2.2.1), ((tW (ro, le, rn, be, wr, wn, is, ni) pl).2.2.2.2.2.2.1), ((tW (ro, le, rn, be, wr, wn, is, ni) pl).2.2.2.2.2.2.2)) pl 0).2).2.2.1), (((tG (((tW (ro, le, rn, be, wr, wn, is, ni) pl).1), ((tW (ro, le, rn, be, wr, wn, is, ni) pl).2.1), ((tW (ro, le, rn, be, wr, wn, is, ni) pl).2.2.1), ((tW (ro, le, rn, be, wr, wn, is, ni) pl).2.2.2.1), ((tW (ro, le, rn, be, wr, wn, is, ni) pl).2.2.2.2.1), ((tW (ro, le, rn, be, wr, wn, is, ni) pl).2.2.2.2.2.1), ((tW (ro, le, rn, be, wr, wn, is, ni) pl).2.2.2.2.2.2.1), ((tW (ro, le, rn, be, wr, wn, is, ni) pl).2.2.2.2.2.2.2)) pl 0).2).2.2.2.1), (((tG (((tW (ro, le, rn, be, wr, wn, is, ni) pl).1), ((tW (ro, le, rn, be, wr, wn, is, ni) pl).2.1), ((tW (ro, le, rn, be, wr, wn, is, ni) pl).2.2.1), ((tW (ro, le, rn, be, wr, wn, is, ni) pl).2.2.2.1), ((tW (ro, le, rn, be, wr, wn, is, ni) pl).2.2.2.2.1), ((tW (ro, le, rn, be, wr, wn, is, ni) pl).2.2.2.2.2.1), ((tW (ro, le, rn, be, wr, wn, is, ni) pl).2.2.2.2.2.2.1), ((tW (ro, le, rn, be, wr, wn, is, ni) pl).2.2.2.2.2.2.2)) pl 0).2).2.2.2.2.1), (((tG (((tW (ro, le, rn, be, wr, wn, is, ni) pl).1), ((tW (ro, le, rn, be, wr, wn, is, ni) pl).2.1), ((tW (ro, le, rn, be, wr, wn, is, ni) pl).2.2.1), ((tW (ro, le, rn, be, wr, wn, is, ni) pl).2.2.2.1), ((tW (ro, le, rn, be, wr, wn, is, ni) pl).2.2.2.2.1), ((tW (ro, le, rn, be, wr, wn, is, ni) pl).2.2.2.2.2.1), ((tW (ro, le, rn, be, wr, wn, is, ni) pl).2.2.2.2.2.2.1), ((tW (ro, le, rn, be, wr, wn, is, ni) pl).2.2.2.2.2.2.2)) pl 0).2).2.2.2.2.2.1), (((tG (((tW (ro, le, rn, be, wr, wn, is, ni) pl).1), ((tW (ro, le, rn, be, wr, wn, is, ni) pl).2.1), ((tW (ro, le, rn, be, wr, wn, is, ni) pl).2.2.1), ((tW (ro, le, rn, be, wr, wn, is, ni) pl).2.2.2.1), ((tW (ro, le, rn, be, wr, wn, is, ni) pl).2.2.2.2.1), ((tW (ro, le, rn, be, wr, wn, is, ni) pl).2.2.2.2.2.1), ((tW (ro, le, rn, be, wr, wn, is, ni) pl).2.2.2.2.2.2.1), ((tW (ro, le, rn, be, wr, wn, is, ni) pl).2.2.2.2.2.2.2)) pl 0).2).2.2.2.2.2.2.1), (((tG (((tW (ro, le, rn, be, wr, wn, is, ni) pl).1), ((tW (ro, le, rn, be, wr, wn, is, ni) pl).2.1), ((tW (ro, le, rn, be, wr, wn, is, ni) pl).2.2.1), ((tW (ro, le, rn, be, wr, wn, is, ni) pl).2.2.2.1), ((tW (ro, le, rn, be, wr, wn, is, ni) pl).2.2.2.2.1), ((tW (ro, le, rn, be, wr, wn, is, ni) pl).2.2.2.2.2.1), ((tW (ro, le, rn, be, wr, wn, is, ni) pl).2.2.2.2.2.2.1), ((tW (ro, le, rn, be, wr, wn, is, ni) pl).2.2.2.2.2.2.2)) pl 0).2).2.2.2.2.2.2.2)) t).2.2.1)))) :: (tb, .inl (g.2.1 1, 100, .inl (bA ((tC ((((tG (((tW (ro, le, rn, be, wr, wn, is, ni) pl).1), ((tW (ro, le, rn, be, wr, wn, is, ni) pl).2.1), ((tW (ro, le, rn, be, wr, wn, is, ni) pl).2.2.1), ((tW (ro, le, rn, be, wr, wn, is, ni) pl).2.2.2.1), ((tW (ro, le, rn, be, wr, wn, is, ni) pl).2.2.2.2.1), ((tW (ro, le, rn, be, wr, wn, is, ni) pl).2.2.2.2.2.1), ((tW (ro, le, rn, be, wr, wn, is, ni) pl).2.2.2.2.2.2.1), ((tW (ro, le, rn, be, wr, wn, is, ni) pl).2.2.2.2.2.2.2)) pl 0).2).1), (((tG (((tW (ro, le, rn, be, wr, wn, is, ni) pl).1), ((tW (ro, le, rn, be, wr, wn, is, ni) pl).2.1), ((tW (ro, le, rn, be, wr, wn, is, ni) pl).2.2.1), ((tW (ro, le, rn, be, wr, wn, is, ni) pl).2.2.2.1), ((tW (ro, le, rn, be, wr, wn, is, ni) pl).2.2.2.2.1), ((tW (ro, le, rn, be, wr, wn, is, ni) pl).2.2.2.2.2.1), ((tW (ro, le, rn, be, wr, wn, is, ni) pl).2.2.2.2.2.2.1), ((tW (ro, le, rn, be, wr, wn, is, ni) pl).2.2.2.2.2.2.2)) pl 0).2).2.1), (((tG (((tW (ro, le, rn, be, wr, wn, is, ni) pl).1), ((tW (ro, le, rn, be, wr, wn, is, ni) pl).2.1), ((tW (ro, le, rn, be, wr, wn, is, ni) pl).2.2.1), ((tW (ro, le, rn, be, wr, wn, is, ni) pl).2.2.2.1), ((tW (ro, le, rn, be, wr, wn, is, ni) pl).2.2.2.2.1), ((tW (ro, le, rn, be, wr, wn, is, ni) pl).2.2.2.2.2.1), ((tW (ro, le, rn, be, wr, wn, is, ni) pl).2.2.2.2.2.2.1), ((tW (ro, le, rn, be, wr, wn, is, ni) pl).2.2.2.2.2.2.2)) pl 0).2).2.2.1), (((tG (((tW (ro, le, rn, be, wr, wn, is, ni) pl).1), ((tW (ro, le, rn, be, wr, wn, is, ni) pl).2.1), ((tW (ro, le, rn, be, wr, wn, is, ni) pl).2.2.1), ((tW (ro, le, rn, be, wr, wn, is, ni) pl).2.2.2.1), ((tW (ro, le, rn, be, wr, wn, is, ni) pl).2.2.2.2.1), ((tW (ro, le, rn, be, wr, wn, is, ni) pl).2.2.2.2.2.1), ((tW (ro, le, rn, be, wr, wn, is, ni) pl).2.2.2.2.2.2.1), ((tW (ro, le, rn, be, wr, wn, is, ni) pl).2.2.2.2.2.2.2)) pl 0).2).2.2.2.1), (((tG (((tW (ro, le, rn, be, wr, wn, is, ni) pl).1), ((tW (ro, le, rn, be, wr, wn, is, ni) pl).2.1), ((tW (ro, le, rn, be, wr, wn, is, ni) pl).2.2.1), ((tW (ro, le, rn, be, wr, wn, is, ni) pl).2.2.2.1), ((tW (ro, le, rn, be, wr, wn, is, ni) pl).2.2.2.2.1), ((tW (ro, le, rn, be, wr, wn, is, ni) pl).2.2.2.2.2.1), ((tW (ro, le, rn, be, wr, wn, is, ni) pl).2.2.2.2.2.2.1), ((tW (ro, le, rn, be, wr, wn, is, ni) pl).2.2.2.2.2.2.2)) pl 0).2).2.2.2.2.1), (((tG (((tW (ro, le, rn, be, wr, wn, is, ni) pl).1), ((tW (ro, le, rn, be, wr, wn, is, ni) pl).2.1), ((tW (ro, le, rn, be, wr, wn, is, ni) pl).2.2.1), ((tW (ro, le, rn, be, wr, wn, is, ni) pl).2.2.2.1), ((tW (ro, le, rn, be, wr, wn, is, ni) pl).2.2.2.2.1), ((tW (ro, le, rn, be, wr, wn, is, ni) pl).2.2.2.2.2.1), ((tW (ro, le, rn, be, wr, wn, is, ni) pl).2.2.2.2.2.2.1), ((tW (ro, le, rn, be, wr, wn, is, ni) pl).2.2.2.2.2.2.2)) pl 0).2).2.2.2.2.2.1), (((tG (((tW (ro, le, rn, be, wr, wn, is, ni) pl).1), ((tW (ro, le, rn, be, wr, wn, is, ni) pl).2.1), ((tW (ro, le, rn, be, wr, wn, is, ni) pl).2.2.1), ((tW (ro, le, rn, be, wr, wn, is, ni) pl).2.2.2.1), ((tW (ro, le, rn, be, wr, wn, is, ni) pl).2.2.2.2.1), ((tW (ro, le, rn, be, wr, wn, is, ni) pl).2.2.2.2.2.1), ((tW (ro, le, rn, be, wr, wn, is, ni) pl).2.2.2.2.2.2.1), ((tW (ro, le, rn, be, wr, wn, is, ni) pl).2.2.2.2.2.2.2)) pl 0).2).2.2.2.2.2.2.1), (((tG (((tW (ro, le, rn, be, wr, wn, is, ni) pl).1), ((tW (ro, le, rn, be, wr, wn, is, ni) pl).2.1), ((tW (ro, le, rn, be, wr, wn, is, ni) pl).2.2.1), ((tW (ro, le, rn, be, wr, wn, is, ni) pl).2.2.2.1), ((tW (ro, le, rn, be, wr, wn, is, ni) pl).2.2.2.2.1), ((tW (ro, le, rn, be, wr, wn, is, ni) pl).2.2.2.2.2.1), ((tW (ro, le, rn, be, wr, wn, is, ni) pl).2.2.2.2.2.2.1), ((tW (ro, le, rn, be, wr, wn, is, ni) pl).2.2.2.2.2.2.2)) pl 0).2).2.2.2.2.2.2.2)) t).2.2.2.1)))) :: R) _ := hW
        refine lv_iload F.1 F.2.1 dX10_price_50 (lv_at hl 0 rfl) ?_
        refine gRi F hW hS dX10_price_52 ?_
        exact ⟨by rw [tPr, if_neg c_20], by rw [show tP (ro, le, rn, be, wr, wn, is, ni) pl k (some t) = _ from if_pos c_42, if_neg c_20]⟩
    · refine lv_iconst (v := nI 1) F.1 F.2.1 dX10_price_23 rfl ?_
      refine lv_goto (tgt := 28) F.1 F.2.1 dX10_price_24 (by decide) ?_
      refine gVi (n := 2) (q := (RX10, TX10, 8)) (q0 := 0) (As := [.int (nI pl), .int (nI 1)]) F hG hS hW (c_X10_priceOfGoing g l  hp o1.1 o1.2.1 o1.2.2.2.2.2.1 o1.2.2.2.2.2.2) rfl gX10_price_X10_priceOfGoing rfl rfl rfl (by decide +kernel) ⟨rfl, rfl, Nat.le_of_ble_eq_true rfl, Nat.le_of_ble_eq_true rfl⟩ hl.1 (Nat.le_of_ble_eq_true rfl) ⟨Nat.le_of_ble_eq_true rfl, Nat.le_of_ble_eq_true rfl⟩ rfl rfl dX10_price_28 (fun r u H locs hq hW hS => ?_)
      obtain ⟨rfl, rfl⟩ := hq
      have hW : gW g ((ht0, .inr (7, [.ref tr, .ref tl, .ref tn, .ref tb, .int (oI (((tG (((tW (ro, le, rn, be, wr, wn, is, ni) pl).1), ((tW (ro, le, rn, be, wr, wn, is, ni) pl).2.1), ((tW (ro, le, rn, be, wr, wn, is, ni) pl).2.2.1), ((tW (ro, le, rn, be, wr, wn, is, ni) pl).2.2.2.1), ((tW (ro, le, rn, be, wr, wn, is, ni) pl).2.2.2.2.1), ((tW (ro, le, rn, be, wr, wn, is, ni) pl).2.2.2.2.2.1), ((tW (ro, le, rn, be, wr, wn, is, ni) pl).2.2.2.2.2.2.1), ((tW (ro, le, rn, be, wr, wn, is, ni) pl).2.2.2.2.2.2.2)) pl 1).2).2.2.2.2.1)), .int (nI (((tG (((tW (ro, le, rn, be, wr, wn, is, ni) pl).1), ((tW (ro, le, rn, be, wr, wn, is, ni) pl).2.1), ((tW (ro, le, rn, be, wr, wn, is, ni) pl).2.2.1), ((tW (ro, le, rn, be, wr, wn, is, ni) pl).2.2.2.1), ((tW (ro, le, rn, be, wr, wn, is, ni) pl).2.2.2.2.1), ((tW (ro, le, rn, be, wr, wn, is, ni) pl).2.2.2.2.2.1), ((tW (ro, le, rn, be, wr, wn, is, ni) pl).2.2.2.2.2.2.1), ((tW (ro, le, rn, be, wr, wn, is, ni) pl).2.2.2.2.2.2.2)) pl 1).2).2.2.2.2.2.1)), .int (oI (((tG (((tW (ro, le, rn, be, wr, wn, is, ni) pl).1), ((tW (ro, le, rn, be, wr, wn, is, ni) pl).2.1), ((tW (ro, le, rn, be, wr, wn, is, ni) pl).2.2.1), ((tW (ro, le, rn, be, wr, wn, is, ni) pl).2.2.2.1), ((tW (ro, le, rn, be, wr, wn, is, ni) pl).2.2.2.2.1), ((tW (ro, le, rn, be, wr, wn, is, ni) pl).2.2.2.2.2.1), ((tW (ro, le, rn, be, wr, wn, is, ni) pl).2.2.2.2.2.2.1), ((tW (ro, le, rn, be, wr, wn, is, ni) pl).2.2.2.2.2.2.2)) pl 1).2).2.2.2.2.2.2.1)), .int (nI (((tG (((tW (ro, le, rn, be, wr, wn, is, ni) pl).1), ((tW (ro, le, rn, be, wr, wn, is, ni) pl).2.1), ((tW (ro, le, rn, be, wr, wn, is, ni) pl).2.2.1), ((tW (ro, le, rn, be, wr, wn, is, ni) pl).2.2.2.1), ((tW (ro, le, rn, be, wr, wn, is, ni) pl).2.2.2.2.1), ((tW (ro, le, rn, be, wr, wn, is, ni) pl).2.2.2.2.2.1), ((tW (ro, le, rn, be, wr, wn, is, ni) pl).2.2.2.2.2.2.1), ((tW (ro, le, rn, be, wr, wn, is, ni) pl).2.2.2.2.2.2.2)) pl 1).2).2.2.2.2.2.2.2))])) :: (tr, .inl (g.2.1 0, 4000, .inl (nA (((tG (((tW (ro, le, rn, be, wr, wn, is, ni) pl).1), ((tW (ro, le, rn, be, wr, wn, is, ni) pl).2.1), ((tW (ro, le, rn, be, wr, wn, is, ni) pl).2.2.1), ((tW (ro, le, rn, be, wr, wn, is, ni) pl).2.2.2.1), ((tW (ro, le, rn, be, wr, wn, is, ni) pl).2.2.2.2.1), ((tW (ro, le, rn, be, wr, wn, is, ni) pl).2.2.2.2.2.1), ((tW (ro, le, rn, be, wr, wn, is, ni) pl).2.2.2.2.2.2.1), ((tW (ro, le, rn, be, wr, wn, is, ni) pl).2.2.2.2.2.2.2)) pl 1).2).1)))) :: (tl, .inl (g.2.1 0, 100, .inl (nA (((tG (((tW (ro, le, rn, be, wr, wn, is, ni) pl).1), ((tW (ro, le, rn, be, wr, wn, is, ni) pl).2.1), ((tW (ro, le, rn, be, wr, wn, is, ni) pl).2.2.1), ((tW (ro, le, rn, be, wr, wn, is, ni) pl).2.2.2.1), ((tW (ro, le, rn, be, wr, wn, is, ni) pl).2.2.2.2.1), ((tW (ro, le, rn, be, wr, wn, is, ni) pl).2.2.2.2.2.1), ((tW (ro, le, rn, be, wr, wn, is, ni) pl).2.2.2.2.2.2.1), ((tW (ro, le, rn, be, wr, wn, is, ni) pl).2.2.2.2.2.2.2)) pl 1).2).2.1)))) :: (tn, .inl (g.2.1 0, 100, .inl (nA (((tG (((tW (ro, le, rn, be, wr, wn, is, ni) pl).1), ((tW (ro, le, rn, be, wr, wn, is, ni) pl).2.1), ((tW (ro, le, rn, be, wr, wn, is, ni) pl).2.2.1), ((tW (ro, le, rn, be, wr, wn, is, ni) pl).2.2.2.1), ((tW (ro, le, rn, be, wr, wn, is, ni) pl).2.2.2.2.1), ((tW (ro, le, rn, be, wr, wn, is, ni) pl).2.2.2.2.2.1), ((tW (ro, le, rn, be, wr, wn, is, ni) pl).2.2.2.2.2.2.1), ((tW (ro, le, rn, be, wr, wn, is, ni) pl).2.2.2.2.2.2.2)) pl 1).2).2.2.1)))) :: (tb, .inl (g.2.1 1, 100, .inl (bA (((tG (((tW (ro, le, rn, be, wr, wn, is, ni) pl).1), ((tW (ro, le, rn, be, wr, wn, is, ni) pl).2.1), ((tW (ro, le, rn, be, wr, wn, is, ni) pl).2.2.1), ((tW (ro, le, rn, be, wr, wn, is, ni) pl).2.2.2.1), ((tW (ro, le, rn, be, wr, wn, is, ni) pl).2.2.2.2.1), ((tW (ro, le, rn, be, wr, wn, is, ni) pl).2.2.2.2.2.1), ((tW (ro, le, rn, be, wr, wn, is, ni) pl).2.2.2.2.2.2.1), ((tW (ro, le, rn, be, wr, wn, is, ni) pl).2.2.2.2.2.2.2)) pl 1).2).2.2.2.1)))) :: R) _ := hW
      have o2 := tG_ok (pw := 1) o1 hp
      refine lv_istore (lv' := [(4, .int (nI ((tG (((tW (ro, le, rn, be, wr, wn, is, ni) pl).1), ((tW (ro, le, rn, be, wr, wn, is, ni) pl).2.1), ((tW (ro, le, rn, be, wr, wn, is, ni) pl).2.2.1), ((tW (ro, le, rn, be, wr, wn, is, ni) pl).2.2.2.1), ((tW (ro, le, rn, be, wr, wn, is, ni) pl).2.2.2.2.1), ((tW (ro, le, rn, be, wr, wn, is, ni) pl).2.2.2.2.2.1), ((tW (ro, le, rn, be, wr, wn, is, ni) pl).2.2.2.2.2.2.1), ((tW (ro, le, rn, be, wr, wn, is, ni) pl).2.2.2.2.2.2.2)) pl 1).1))), (0, .ref ht0), (1, .int (nI pl)), (2, .ref (g.2.2.2 k)), (3, .int (nI t))]) F.1 F.2.1 dX10_price_31 hl (by decide) rfl (fun ls hl => ?_)
      refine lv_iload_n F.1 F.2.1 dX10_price_33 rfl (lv_at hl 4 rfl) ?_
      refine gS_i (n := 1) (As := [.int (nI t)]) F hG hS hW (c_X10_isPlace_n g l  (by omega)) rfl gX10_price_X10_isPlace (by decide +kernel) ⟨rfl, rfl, Nat.le_of_ble_eq_true rfl, Nat.le_of_ble_eq_true rfl⟩ hl.1 (Nat.le_of_ble_eq_true rfl) ⟨Nat.le_of_ble_eq_true rfl, Nat.le_of_ble_eq_true rfl⟩ rfl rfl dX10_price_34 (fun r u H locs hq hW hS => ?_)
      obtain ⟨rfl, rfl⟩ := hq
      have hW : gW g ((ht0, .inr (7, [.ref tr, .ref tl, .ref tn, .ref tb, .int (oI (((tG (((tW (ro, le, rn, be, wr, wn, is, ni) pl).1), ((tW (ro, le, rn, be, wr, wn, is, ni) pl).2.1), ((tW (ro, le, rn, be, wr, wn, is, ni) pl).2.2.1), ((tW (ro, le, rn, be, wr, wn, is, ni) pl).2.2.2.1), ((tW (ro, le, rn, be, wr, wn, is, ni) pl).2.2.2.2.1), ((tW (ro, le, rn, be, wr, wn, is, ni) pl).2.2.2.2.2.1), ((tW (ro, le, rn, be, wr, wn, is, ni) pl).2.2.2.2.2.2.1), ((tW (ro, le, rn, be, wr, wn, is, ni) pl).2.2.2.2.2.2.2)) pl 1).2).2.2.2.2.1)), .int (nI (((tG (((tW (ro, le, rn, be, wr, wn, is, ni) pl).1), ((tW (ro, le, rn, be, wr, wn, is, ni) pl).2.1), ((tW (ro, le, rn, be, wr, wn, is, ni) pl).2.2.1), ((tW (ro, le, rn, be, wr, wn, is, ni) pl).2.2.2.1), ((tW (ro, le, rn, be, wr, wn, is, ni) pl).2.2.2.2.1), ((tW (ro, le, rn, be, wr, wn, is, ni) pl).2.2.2.2.2.1), ((tW (ro, le, rn, be, wr, wn, is, ni) pl).2.2.2.2.2.2.1), ((tW (ro, le, rn, be, wr, wn, is, ni) pl).2.2.2.2.2.2.2)) pl 1).2).2.2.2.2.2.1)), .int (oI (((tG (((tW (ro, le, rn, be, wr, wn, is, ni) pl).1), ((tW (ro, le, rn, be, wr, wn, is, ni) pl).2.1), ((tW (ro, le, rn, be, wr, wn, is, ni) pl).2.2.1), ((tW (ro, le, rn, be, wr, wn, is, ni) pl).2.2.2.1), ((tW (ro, le, rn, be, wr, wn, is, ni) pl).2.2.2.2.1), ((tW (ro, le, rn, be, wr, wn, is, ni) pl).2.2.2.2.2.1), ((tW (ro, le, rn, be, wr, wn, is, ni) pl).2.2.2.2.2.2.1), ((tW (ro, le, rn, be, wr, wn, is, ni) pl).2.2.2.2.2.2.2)) pl 1).2).2.2.2.2.2.2.1)), .int (nI (((tG (((tW (ro, le, rn, be, wr, wn, is, ni) pl).1), ((tW (ro, le, rn, be, wr, wn, is, ni) pl).2.1), ((tW (ro, le, rn, be, wr, wn, is, ni) pl).2.2.1), ((tW (ro, le, rn, be, wr, wn, is, ni) pl).2.2.2.1), ((tW (ro, le, rn, be, wr, wn, is, ni) pl).2.2.2.2.1), ((tW (ro, le, rn, be, wr, wn, is, ni) pl).2.2.2.2.2.1), ((tW (ro, le, rn, be, wr, wn, is, ni) pl).2.2.2.2.2.2.1), ((tW (ro, le, rn, be, wr, wn, is, ni) pl).2.2.2.2.2.2.2)) pl 1).2).2.2.2.2.2.2.2))])) :: (tr, .inl (g.2.1 0, 4000, .inl (nA (((tG (((tW (ro, le, rn, be, wr, wn, is, ni) pl).1), ((tW (ro, le, rn, be, wr, wn, is, ni) pl).2.1), ((tW (ro, le, rn, be, wr, wn, is, ni) pl).2.2.1), ((tW (ro, le, rn, be, wr, wn, is, ni) pl).2.2.2.1), ((tW (ro, le, rn, be, wr, wn, is, ni) pl).2.2.2.2.1), ((tW (ro, le, rn, be, wr, wn, is, ni) pl).2.2.2.2.2.1), ((tW (ro, le, rn, be, wr, wn, is, ni) pl).2.2.2.2.2.2.1), ((tW (ro, le, rn, be, wr, wn, is, ni) pl).2.2.2.2.2.2.2)) pl 1).2).1)))) :: (tl, .inl (g.2.1 0, 100, .inl (nA (((tG (((tW (ro, le, rn, be, wr, wn, is, ni) pl).1), ((tW (ro, le, rn, be, wr, wn, is, ni) pl).2.1), ((tW (ro, le, rn, be, wr, wn, is, ni) pl).2.2.1), ((tW (ro, le, rn, be, wr, wn, is, ni) pl).2.2.2.1), ((tW (ro, le, rn, be, wr, wn, is, ni) pl).2.2.2.2.1), ((tW (ro, le, rn, be, wr, wn, is, ni) pl).2.2.2.2.2.1), ((tW (ro, le, rn, be, wr, wn, is, ni) pl).2.2.2.2.2.2.1), ((tW (ro, le, rn, be, wr, wn, is, ni) pl).2.2.2.2.2.2.2)) pl 1).2).2.1)))) :: (tn, .inl (g.2.1 0, 100, .inl (nA (((tG (((tW (ro, le, rn, be, wr, wn, is, ni) pl).1), ((tW (ro, le, rn, be, wr, wn, is, ni) pl).2.1), ((tW (ro, le, rn, be, wr, wn, is, ni) pl).2.2.1), ((tW (ro, le, rn, be, wr, wn, is, ni) pl).2.2.2.1), ((tW (ro, le, rn, be, wr, wn, is, ni) pl).2.2.2.2.1), ((tW (ro, le, rn, be, wr, wn, is, ni) pl).2.2.2.2.2.1), ((tW (ro, le, rn, be, wr, wn, is, ni) pl).2.2.2.2.2.2.1), ((tW (ro, le, rn, be, wr, wn, is, ni) pl).2.2.2.2.2.2.2)) pl 1).2).2.2.1)))) :: (tb, .inl (g.2.1 1, 100, .inl (bA (((tG (((tW (ro, le, rn, be, wr, wn, is, ni) pl).1), ((tW (ro, le, rn, be, wr, wn, is, ni) pl).2.1), ((tW (ro, le, rn, be, wr, wn, is, ni) pl).2.2.1), ((tW (ro, le, rn, be, wr, wn, is, ni) pl).2.2.2.1), ((tW (ro, le, rn, be, wr, wn, is, ni) pl).2.2.2.2.1), ((tW (ro, le, rn, be, wr, wn, is, ni) pl).2.2.2.2.2.1), ((tW (ro, le, rn, be, wr, wn, is, ni) pl).2.2.2.2.2.2.1), ((tW (ro, le, rn, be, wr, wn, is, ni) pl).2.2.2.2.2.2.2)) pl 1).2).2.2.2.1)))) :: R) _ := hW
      refine gIfEqB (tgt := 50) F dX10_price_37 (by decide) (fun q => by simp at q) (fun c_37 => ?_)
      refine lv_iload_n F.1 F.2.1 dX10_price_40 rfl (lv_at hl 4 rfl) ?_
      refine lv_iload_n F.1 F.2.1 dX10_price_41 rfl (lv_at hl 2 rfl) ?_
      refine gGt (tgt := 50) F (by omega) (by omega) dX10_price_42 (by decide) (fun c_42 => ?_) (fun c_42 => ?_)
      · refine lv_iload F.1 F.2.1 dX10_price_50 (lv_at hl 0 rfl) ?_
        refine gRi F hW hS dX10_price_52 ?_
        exact ⟨by rw [tPr, if_pos c_20], by rw [show tP (ro, le, rn, be, wr, wn, is, ni) pl k (some t) = _ from if_neg (Nat.not_le.mpr c_42), if_pos c_20]⟩
      · refine lv_aload_n F.1 F.2.1 dX10_price_45 rfl (lv_at hl 1 rfl) ?_
        refine lv_iload_n F.1 F.2.1 dX10_price_46 rfl (lv_at hl 4 rfl) ?_
        refine gVv (n := 1) (q := (RX10, TX10, 8)) (q0 := 0) (As := [.int (nI t)]) F hG hS hW (c_X10_countRound g l  (by omega) (fun w z => Nat.lt_trans (o2.2.2.2.1 w z) (by decide)) (Nat.lt_of_le_of_lt (o2.2.2.1 t) hN)) rfl gX10_price_X10_countRound rfl rfl rfl (by decide +kernel) ⟨rfl, rfl, Nat.le_of_ble_eq_true rfl, Nat.le_of_ble_eq_true rfl⟩ hl.1 (Nat.le_of_ble_eq_true rfl) ⟨Nat.le_of_ble_eq_true rfl, Nat.le_of_ble_eq_true rfl⟩ rfl rfl dX10_price_47 (fun u H locs hq hW hS => ?_)
        obtain rfl := hq
        have hW : gW g ((ht0, .inr (7, [.ref tr, .ref tl, .ref tn, .ref tb, .int (oI ((tC ((((tG (((tW (ro, le, rn, be, wr, wn, is, ni) pl).1), ((tW (ro, le, rn, be, wr, wn, is, ni) pl).2.1), ((tW (ro, le, rn, be, wr, wn, is, ni) pl).2.2.1), ((tW (ro, le, rn, be, wr, wn, is, ni) pl).2.2.2.1), ((tW (ro, le, rn, be, wr, wn, is, ni) pl).2.2.2.2.1), ((tW (ro, le, rn, be, wr, wn, is, ni) pl).2.2.2.2.2.1), ((tW (ro, le, rn, be, wr, wn, is, ni) pl).2.2.2.2.2.2.1), ((tW (ro, le, rn, be, wr, wn, is, ni) pl).2.2.2.2.2.2.2)) pl 1).2).1), (((tG (((tW (ro, le, rn, be, wr, wn, is, ni) pl).1), ((tW (ro, le, rn, be, wr, wn, is, ni) pl).2.1), ((tW (ro, le, rn, be, wr, wn, is, ni) pl).2.2.1), ((tW (ro, le, rn, be, wr, wn, is, ni) pl).2.2.2.1), ((tW (ro, le, rn, be, wr, wn, is, ni) pl).2.2.2.2.1), ((tW (ro, le, rn, be, wr, wn, is, ni) pl).2.2.2.2.2.1), ((tW (ro, le, rn, be, wr, wn, is, ni) pl).2.2.2.2.2.2.1), ((tW (ro, le, rn, be, wr, wn, is, ni) pl).2.2.2.2.2.2.2)) pl 1).2).2.1), (((tG (((tW (ro, le, rn, be, wr, wn, is, ni) pl).1), ((tW (ro, le, rn, be, wr, wn, is, ni) pl).2.1), ((tW (ro, le, rn, be, wr, wn, is, ni) pl).2.2.1), ((tW (ro, le, rn, be, wr, wn, is, ni) pl).2.2.2.1), ((tW (ro, le, rn, be, wr, wn, is, ni) pl).2.2.2.2.1), ((tW (ro, le, rn, be, wr, wn, is, ni) pl).2.2.2.2.2.1), ((tW (ro, le, rn, be, wr, wn, is, ni) pl).2.2.2.2.2.2.1), ((tW (ro, le, rn, be, wr, wn, is, ni) pl).2.2.2.2.2.2.2)) pl 1).2).2.2.1), (((tG (((tW (ro, le, rn, be, wr, wn, is, ni) pl).1), ((tW (ro, le, rn, be, wr, wn, is, ni) pl).2.1), ((tW (ro, le, rn, be, wr, wn, is, ni) pl).2.2.1), ((tW (ro, le, rn, be, wr, wn, is, ni) pl).2.2.2.1), ((tW (ro, le, rn, be, wr, wn, is, ni) pl).2.2.2.2.1), ((tW (ro, le, rn, be, wr, wn, is, ni) pl).2.2.2.2.2.1), ((tW (ro, le, rn, be, wr, wn, is, ni) pl).2.2.2.2.2.2.1), ((tW (ro, le, rn, be, wr, wn, is, ni) pl).2.2.2.2.2.2.2)) pl 1).2).2.2.2.1), (((tG (((tW (ro, le, rn, be, wr, wn, is, ni) pl).1), ((tW (ro, le, rn, be, wr, wn, is, ni) pl).2.1), ((tW (ro, le, rn, be, wr, wn, is, ni) pl).2.2.1), ((tW (ro, le, rn, be, wr, wn, is, ni) pl).2.2.2.1), ((tW (ro, le, rn, be, wr, wn, is, ni) pl).2.2.2.2.1), ((tW (ro, le, rn, be, wr, wn, is, ni) pl).2.2.2.2.2.1), ((tW (ro, le, rn, be, wr, wn, is, ni) pl).2.2.2.2.2.2.1), ((tW (ro, le, rn, be, wr, wn, is, ni) pl).2.2.2.2.2.2.2)) pl 1).2).2.2.2.2.1), (((tG (((tW (ro, le, rn, be, wr, wn, is, ni) pl).1), ((tW (ro, le, rn, be, wr, wn, is, ni) pl).2.1), ((tW (ro, le, rn, be, wr, wn, is, ni) pl).2.2.1), ((tW (ro, le, rn, be, wr, wn, is, ni) pl).2.2.2.1), ((tW (ro, le, rn, be, wr, wn, is, ni) pl).2.2.2.2.1), ((tW (ro, le, rn, be, wr, wn, is, ni) pl).2.2.2.2.2.1), ((tW (ro, le, rn, be, wr, wn, is, ni) pl).2.2.2.2.2.2.1), ((tW (ro, le, rn, be, wr, wn, is, ni) pl).2.2.2.2.2.2.2)) pl 1).2).2.2.2.2.2.1), (((tG (((tW (ro, le, rn, be, wr, wn, is, ni) pl).1), ((tW (ro, le, rn, be, wr, wn, is, ni) pl).2.1), ((tW (ro, le, rn, be, wr, wn, is, ni) pl).2.2.1), ((tW (ro, le, rn, be, wr, wn, is, ni) pl).2.2.2.1), ((tW (ro, le, rn, be, wr, wn, is, ni) pl).2.2.2.2.1), ((tW (ro, le, rn, be, wr, wn, is, ni) pl).2.2.2.2.2.1), ((tW (ro, le, rn, be, wr, wn, is, ni) pl).2.2.2.2.2.2.1), ((tW (ro, le, rn, be, wr, wn, is, ni) pl).2.2.2.2.2.2.2)) pl 1).2).2.2.2.2.2.2.1), (((tG (((tW (ro, le, rn, be, wr, wn, is, ni) pl).1), ((tW (ro, le, rn, be, wr, wn, is, ni) pl).2.1), ((tW (ro, le, rn, be, wr, wn, is, ni) pl).2.2.1), ((tW (ro, le, rn, be, wr, wn, is, ni) pl).2.2.2.1), ((tW (ro, le, rn, be, wr, wn, is, ni) pl).2.2.2.2.1), ((tW (ro, le, rn, be, wr, wn, is, ni) pl).2.2.2.2.2.1), ((tW (ro, le, rn, be, wr, wn, is, ni) pl).2.2.2.2.2.2.1), ((tW (ro, le, rn, be, wr, wn, is, ni) pl).2.2.2.2.2.2.2)) pl 1).2).2.2.2.2.2.2.2)) t).2.2.2.2.1)), .int (nI ((tC ((((tG (((tW (ro, le, rn, be, wr, wn, is, ni) pl).1), ((tW (ro, le, rn, be, wr, wn, is, ni) pl).2.1), ((tW (ro, le, rn, be, wr, wn, is, ni) pl).2.2.1), ((tW (ro, le, rn, be, wr, wn, is, ni) pl).2.2.2.1), ((tW (ro, le, rn, be, wr, wn, is, ni) pl).2.2.2.2.1), ((tW (ro, le, rn, be, wr, wn, is, ni) pl).2.2.2.2.2.1), ((tW (ro, le, rn, be, wr, wn, is, ni) pl).2.2.2.2.2.2.1), ((tW (ro, le, rn, be, wr, wn, is, ni) pl).2.2.2.2.2.2.2)) pl 1).2).1), (((tG (((tW (ro, le, rn, be, wr, wn, is, ni) pl).1), ((tW (ro, le, rn, be, wr, wn, is, ni) pl).2.1), ((tW (ro, le, rn, be, wr, wn, is, ni) pl).2.2.1), ((tW (ro, le, rn, be, wr, wn, is, ni) pl).2.2.2.1), ((tW (ro, le, rn, be, wr, wn, is, ni) pl).2.2.2.2.1), ((tW (ro, le, rn, be, wr, wn, is, ni) pl).2.2.2.2.2.1), ((tW (ro, le, rn, be, wr, wn, is, ni) pl).2.2.2.2.2.2.1), ((tW (ro, le, rn, be, wr, wn, is, ni) pl).2.2.2.2.2.2.2)) pl 1).2).2.1), (((tG (((tW (ro, le, rn, be, wr, wn, is, ni) pl).1), ((tW (ro, le, rn, be, wr, wn, is, ni) pl).2.1), ((tW (ro, le, rn, be, wr, wn, is, ni) pl).2.2.1), ((tW (ro, le, rn, be, wr, wn, is, ni) pl).2.2.2.1), ((tW (ro, le, rn, be, wr, wn, is, ni) pl).2.2.2.2.1), ((tW (ro, le, rn, be, wr, wn, is, ni) pl).2.2.2.2.2.1), ((tW (ro, le, rn, be, wr, wn, is, ni) pl).2.2.2.2.2.2.1), ((tW (ro, le, rn, be, wr, wn, is, ni) pl).2.2.2.2.2.2.2)) pl 1).2).2.2.1), (((tG (((tW (ro, le, rn, be, wr, wn, is, ni) pl).1), ((tW (ro, le, rn, be, wr, wn, is, ni) pl).2.1), ((tW (ro, le, rn, be, wr, wn, is, ni) pl).2.2.1), ((tW (ro, le, rn, be, wr, wn, is, ni) pl).2.2.2.1), ((tW (ro, le, rn, be, wr, wn, is, ni) pl).2.2.2.2.1), ((tW (ro, le, rn, be, wr, wn, is, ni) pl).2.2.2.2.2.1), ((tW (ro, le, rn, be, wr, wn, is, ni) pl).2.2.2.2.2.2.1), ((tW (ro, le, rn, be, wr, wn, is, ni) pl).2.2.2.2.2.2.2)) pl 1).2).2.2.2.1), (((tG (((tW (ro, le, rn, be, wr, wn, is, ni) pl).1), ((tW (ro, le, rn, be, wr, wn, is, ni) pl).2.1), ((tW (ro, le, rn, be, wr, wn, is, ni) pl).2.2.1), ((tW (ro, le, rn, be, wr, wn, is, ni) pl).2.2.2.1), ((tW (ro, le, rn, be, wr, wn, is, ni) pl).2.2.2.2.1), ((tW (ro, le, rn, be, wr, wn, is, ni) pl).2.2.2.2.2.1), ((tW (ro, le, rn, be, wr, wn, is, ni) pl).2.2.2.2.2.2.1), ((tW (ro, le, rn, be, wr, wn, is, ni) pl).2.2.2.2.2.2.2)) pl 1).2).2.2.2.2.1), (((tG (((tW (ro, le, rn, be, wr, wn, is, ni) pl).1), ((tW (ro, le, rn, be, wr, wn, is, ni) pl).2.1), ((tW (ro, le, rn, be, wr, wn, is, ni) pl).2.2.1), ((tW (ro, le, rn, be, wr, wn, is, ni) pl).2.2.2.1), ((tW (ro, le, rn, be, wr, wn, is, ni) pl).2.2.2.2.1), ((tW (ro, le, rn, be, wr, wn, is, ni) pl).2.2.2.2.2.1), ((tW (ro, le, rn, be, wr, wn, is, ni) pl).2.2.2.2.2.2.1), ((tW (ro, le, rn, be, wr, wn, is, ni) pl).2.2.2.2.2.2.2)) pl 1).2).2.2.2.2.2.1), (((tG (((tW (ro, le, rn, be, wr, wn, is, ni) pl).1), ((tW (ro, le, rn, be, wr, wn, is, ni) pl).2.1), ((tW (ro, le, rn, be, wr, wn, is, ni) pl).2.2.1), ((tW (ro, le, rn, be, wr, wn, is, ni) pl).2.2.2.1), ((tW (ro, le, rn, be, wr, wn, is, ni) pl).2.2.2.2.1), ((tW (ro, le, rn, be, wr, wn, is, ni) pl).2.2.2.2.2.1), ((tW (ro, le, rn, be, wr, wn, is, ni) pl).2.2.2.2.2.2.1), ((tW (ro, le, rn, be, wr, wn, is, ni) pl).2.2.2.2.2.2.2)) pl 1).2).2.2.2.2.2.2.1), (((tG (((tW (ro, le, rn, be, wr, wn, is, ni) pl).1), ((tW (ro, le, rn, be, wr, wn, is, ni) pl).2.1), ((tW (ro, le, rn, be, wr, wn, is, ni) pl).2.2.1), ((tW (ro, le, rn, be, wr, wn, is, ni) pl).2.2.2.1), ((tW (ro, le, rn, be, wr, wn, is, ni) pl).2.2.2.2.1), ((tW (ro, le, rn, be, wr, wn, is, ni) pl).2.2.2.2.2.1), ((tW (ro, le, rn, be, wr, wn, is, ni) pl).2.2.2.2.2.2.1), ((tW (ro, le, rn, be, wr, wn, is, ni) pl).2.2.2.2.2.2.2)) pl 1).2).2.2.2.2.2.2.2)) t).2.2.2.2.2.1)), .int (oI ((tC ((((tG (((tW (ro, le, rn, be, wr, wn, is, ni) pl).1), ((tW (ro, le, rn, be, wr, wn, is, ni) pl).2.1), ((tW (ro, le, rn, be, wr, wn, is, ni) pl).2.2.1), ((tW (ro, le, rn, be, wr, wn, is, ni) pl).2.2.2.1), ((tW (ro, le, rn, be, wr, wn, is, ni) pl).2.2.2.2.1), ((tW (ro, le, rn, be, wr, wn, is, ni) pl).2.2.2.2.2.1), ((tW (ro, le, rn, be, wr, wn, is, ni) pl).2.2.2.2.2.2.1), ((tW (ro, le, rn, be, wr, wn, is, ni) pl).2.2.2.2.2.2.2)) pl 1).2).1), (((tG (((tW (ro, le, rn, be, wr, wn, is, ni) pl).1), ((tW (ro, le, rn, be, wr, wn, is, ni) pl).2.1), ((tW (ro, le, rn, be, wr, wn, is, ni) pl).2.2.1), ((tW (ro, le, rn, be, wr, wn, is, ni) pl).2.2.2.1), ((tW (ro, le, rn, be, wr, wn, is, ni) pl).2.2.2.2.1), ((tW (ro, le, rn, be, wr, wn, is, ni) pl).2.2.2.2.2.1), ((tW (ro, le, rn, be, wr, wn, is, ni) pl).2.2.2.2.2.2.1), ((tW (ro, le, rn, be, wr, wn, is, ni) pl).2.2.2.2.2.2.2)) pl 1).2).2.1), (((tG (((tW (ro, le, rn, be, wr, wn, is, ni) pl).1), ((tW (ro, le, rn, be, wr, wn, is, ni) pl).2.1), ((tW (ro, le, rn, be, wr, wn, is, ni) pl).2.2.1), ((tW (ro, le, rn, be, wr, wn, is, ni) pl).2.2.2.1), ((tW (ro, le, rn, be, wr, wn, is, ni) pl).2.2.2.2.1), ((tW (ro, le, rn, be, wr, wn, is, ni) pl).2.2.2.2.2.1), ((tW (ro, le, rn, be, wr, wn, is, ni) pl).2.2.2.2.2.2.1), ((tW (ro, le, rn, be, wr, wn, is, ni) pl).2.2.2.2.2.2.2)) pl 1).2).2.2.1), (((tG (((tW (ro, le, rn, be, wr, wn, is, ni) pl).1), ((tW (ro, le, rn, be, wr, wn, is, ni) pl).2.1), ((tW (ro, le, rn, be, wr, wn, is, ni) pl).2.2.1), ((tW (ro, le, rn, be, wr, wn, is, ni) pl).2.2.2.1), ((tW (ro, le, rn, be, wr, wn, is, ni) pl).2.2.2.2.1), ((tW (ro, le, rn, be, wr, wn, is, ni) pl).2.2.2.2.2.1), ((tW (ro, le, rn, be, wr, wn, is, ni) pl).2.2.2.2.2.2.1), ((tW (ro, le, rn, be, wr, wn, is, ni) pl).2.2.2.2.2.2.2)) pl 1).2).2.2.2.1), (((tG (((tW (ro, le, rn, be, wr, wn, is, ni) pl).1), ((tW (ro, le, rn, be, wr, wn, is, ni) pl).2.1), ((tW (ro, le, rn, be, wr, wn, is, ni) pl).2.2.1), ((tW (ro, le, rn, be, wr, wn, is, ni) pl).2.2.2.1), ((tW (ro, le, rn, be, wr, wn, is, ni) pl).2.2.2.2.1), ((tW (ro, le, rn, be, wr, wn, is, ni) pl).2.2.2.2.2.1), ((tW (ro, le, rn, be, wr, wn, is, ni) pl).2.2.2.2.2.2.1), ((tW (ro, le, rn, be, wr, wn, is, ni) pl).2.2.2.2.2.2.2)) pl 1).2).2.2.2.2.1), (((tG (((tW (ro, le, rn, be, wr, wn, is, ni) pl).1), ((tW (ro, le, rn, be, wr, wn, is, ni) pl).2.1), ((tW (ro, le, rn, be, wr, wn, is, ni) pl).2.2.1), ((tW (ro, le, rn, be, wr, wn, is, ni) pl).2.2.2.1), ((tW (ro, le, rn, be, wr, wn, is, ni) pl).2.2.2.2.1), ((tW (ro, le, rn, be, wr, wn, is, ni) pl).2.2.2.2.2.1), ((tW (ro, le, rn, be, wr, wn, is, ni) pl).2.2.2.2.2.2.1), ((tW (ro, le, rn, be, wr, wn, is, ni) pl).2.2.2.2.2.2.2)) pl 1).2).2.2.2.2.2.1), (((tG (((tW (ro, le, rn, be, wr, wn, is, ni) pl).1), ((tW (ro, le, rn, be, wr, wn, is, ni) pl).2.1), ((tW (ro, le, rn, be, wr, wn, is, ni) pl).2.2.1), ((tW (ro, le, rn, be, wr, wn, is, ni) pl).2.2.2.1), ((tW (ro, le, rn, be, wr, wn, is, ni) pl).2.2.2.2.1), ((tW (ro, le, rn, be, wr, wn, is, ni) pl).2.2.2.2.2.1), ((tW (ro, le, rn, be, wr, wn, is, ni) pl).2.2.2.2.2.2.1), ((tW (ro, le, rn, be, wr, wn, is, ni) pl).2.2.2.2.2.2.2)) pl 1).2).2.2.2.2.2.2.1), (((tG (((tW (ro, le, rn, be, wr, wn, is, ni) pl).1), ((tW (ro, le, rn, be, wr, wn, is, ni) pl).2.1), ((tW (ro, le, rn, be, wr, wn, is, ni) pl).2.2.1), ((tW (ro, le, rn, be, wr, wn, is, ni) pl).2.2.2.1), ((tW (ro, le, rn, be, wr, wn, is, ni) pl).2.2.2.2.1), ((tW (ro, le, rn, be, wr, wn, is, ni) pl).2.2.2.2.2.1), ((tW (ro, le, rn, be, wr, wn, is, ni) pl).2.2.2.2.2.2.1), ((tW (ro, le, rn, be, wr, wn, is, ni) pl).2.2.2.2.2.2.2)) pl 1).2).2.2.2.2.2.2.2)) t).2.2.2.2.2.2.1)), .int (nI ((tC ((((tG (((tW (ro, le, rn, be, wr, wn, is, ni) pl).1), ((tW (ro, le, rn, be, wr, wn, is, ni) pl).2.1), ((tW (ro, le, rn, be, wr, wn, is, ni) pl).2.2.1), ((tW (ro, le, rn, be, wr, wn, is, ni) pl).2.2.2.1), ((tW (ro, le, rn, be, wr, wn, is, ni) pl).2.2.2.2.1), ((tW (ro, le, rn, be, wr, wn, is, ni) pl).2.2.2.2.2.1), ((tW (ro, le, rn, be, wr, wn, is, ni) pl).2.2.2.2.2.2.1), ((tW (ro, le, rn, be, wr, wn, is, ni) pl).2.2.2.2.2.2.2)) pl 1).2).1), (((tG (((tW (ro, le, rn, be, wr, wn, is, ni) pl).1), ((tW (ro, le, rn, be, wr, wn, is, ni) pl).2.1), ((tW (ro, le, rn, be, wr, wn, is, ni) pl).2.2.1), ((tW (ro, le, rn, be, wr, wn, is, ni) pl).2.2.2.1), ((tW (ro, le, rn, be, wr, wn, is, ni) pl).2.2.2.2.1), ((tW (ro, le, rn, be, wr, wn, is, ni) pl).2.2.2.2.2.1), ((tW (ro, le, rn, be, wr, wn, is, ni) pl).2.2.2.2.2.2.1), ((tW (ro, le, rn, be, wr, wn, is, ni) pl).2.2.2.2.2.2.2)) pl 1).2).2.1), (((tG (((tW (ro, le, rn, be, wr, wn, is, ni) pl).1), ((tW (ro, le, rn, be, wr, wn, is, ni) pl).2.1), ((tW (ro, le, rn, be, wr, wn, is, ni) pl).2.2.1), ((tW (ro, le, rn, be, wr, wn, is, ni) pl).2.2.2.1), ((tW (ro, le, rn, be, wr, wn, is, ni) pl).2.2.2.2.1), ((tW (ro, le, rn, be, wr, wn, is, ni) pl).2.2.2.2.2.1), ((tW (ro, le, rn, be, wr, wn, is, ni) pl).2.2.2.2.2.2.1), ((tW (ro, le, rn, be, wr, wn, is, ni) pl).2.2.2.2.2.2.2)) pl 1).2).2.2.1), (((tG (((tW (ro, le, rn, be, wr, wn, is, ni) pl).1), ((tW (ro, le, rn, be, wr, wn, is, ni) pl).2.1), ((tW (ro, le, rn, be, wr, wn, is, ni) pl).2.2.1), ((tW (ro, le, rn, be, wr, wn, is, ni) pl).2.2.2.1), ((tW (ro, le, rn, be, wr, wn, is, ni) pl).2.2.2.2.1), ((tW (ro, le, rn, be, wr, wn, is, ni) pl).2.2.2.2.2.1), ((tW (ro, le, rn, be, wr, wn, is, ni) pl).2.2.2.2.2.2.1), ((tW (ro, le, rn, be, wr, wn, is, ni) pl).2.2.2.2.2.2.2)) pl 1).2).2.2.2.1), (((tG (((tW (ro, le, rn, be, wr, wn, is, ni) pl).1), ((tW (ro, le, rn, be, wr, wn, is, ni) pl).2.1), ((tW (ro, le, rn, be, wr, wn, is, ni) pl).2.2.1), ((tW (ro, le, rn, be, wr, wn, is, ni) pl).2.2.2.1), ((tW (ro, le, rn, be, wr, wn, is, ni) pl).2.2.2.2.1), ((tW (ro, le, rn, be, wr, wn, is, ni) pl).2.2.2.2.2.1), ((tW (ro, le, rn, be, wr, wn, is, ni) pl).2.2.2.2.2.2.1), ((tW (ro, le, rn, be, wr, wn, is, ni) pl).2.2.2.2.2.2.2)) pl 1).2).2.2.2.2.1), (((tG (((tW (ro, le, rn, be, wr, wn, is, ni) pl).1), ((tW (ro, le, rn, be, wr, wn, is, ni) pl).2.1), ((tW (ro, le, rn, be, wr, wn, is, ni) pl).2.2.1), ((tW (ro, le, rn, be, wr, wn, is, ni) pl).2.2.2.1), ((tW (ro, le, rn, be, wr, wn, is, ni) pl).2.2.2.2.1), ((tW (ro, le, rn, be, wr, wn, is, ni) pl).2.2.2.2.2.1), ((tW (ro, le, rn, be, wr, wn, is, ni) pl).2.2.2.2.2.2.1), ((tW (ro, le, rn, be, wr, wn, is, ni) pl).2.2.2.2.2.2.2)) pl 1).2).2.2.2.2.2.1), (((tG (((tW (ro, le, rn, be, wr, wn, is, ni) pl).1), ((tW (ro, le, rn, be, wr, wn, is, ni) pl).2.1), ((tW (ro, le, rn, be, wr, wn, is, ni) pl).2.2.1), ((tW (ro, le, rn, be, wr, wn, is, ni) pl).2.2.2.1), ((tW (ro, le, rn, be, wr, wn, is, ni) pl).2.2.2.2.1), ((tW (ro, le, rn, be, wr, wn, is, ni) pl).2.2.2.2.2.1), ((tW (ro, le, rn, be, wr, wn, is, ni) pl).2.2.2.2.2.2.1), ((tW (ro, le, rn, be, wr, wn, is, ni) pl).2.2.2.2.2.2.2)) pl 1).2).2.2.2.2.2.2.1), (((tG (((tW (ro, le, rn, be, wr, wn, is, ni) pl).1), ((tW (ro, le, rn, be, wr, wn, is, ni) pl).2.1), ((tW (ro, le, rn, be, wr, wn, is, ni) pl).2.2.1), ((tW (ro, le, rn, be, wr, wn, is, ni) pl).2.2.2.1), ((tW (ro, le, rn, be, wr, wn, is, ni) pl).2.2.2.2.1), ((tW (ro, le, rn, be, wr, wn, is, ni) pl).2.2.2.2.2.1), ((tW (ro, le, rn, be, wr, wn, is, ni) pl).2.2.2.2.2.2.1), ((tW (ro, le, rn, be, wr, wn, is, ni) pl).2.2.2.2.2.2.2)) pl 1).2).2.2.2.2.2.2.2)) t).2.2.2.2.2.2.2))])) :: (tr, .inl (g.2.1 0, 4000, .inl (nA ((tC ((((tG (((tW (ro, le, rn, be, wr, wn, is, ni) pl).1), ((tW (ro, le, rn, be, wr, wn, is, ni) pl).2.1), ((tW (ro, le, rn, be, wr, wn, is, ni) pl).2.2.1), ((tW (ro, le, rn, be, wr, wn, is, ni) pl).2.2.2.1), ((tW (ro, le, rn, be, wr, wn, is, ni) pl).2.2.2.2.1), ((tW (ro, le, rn, be, wr, wn, is, ni) pl).2.2.2.2.2.1), ((tW (ro, le, rn, be, wr, wn, is, ni) pl).2.2.2.2.2.2.1), ((tW (ro, le, rn, be, wr, wn, is, ni) pl).2.2.2.2.2.2.2)) pl 1).2).1), (((tG (((tW (ro, le, rn, be, wr, wn, is, ni) pl).1), ((tW (ro, le, rn, be, wr, wn, is, ni) pl).2.1), ((tW (ro, le, rn, be, wr, wn, is, ni) pl).2.2.1), ((tW (ro, le, rn, be, wr, wn, is, ni) pl).2.2.2.1), ((tW (ro, le, rn, be, wr, wn, is, ni) pl).2.2.2.2.1), ((tW (ro, le, rn, be, wr, wn, is, ni) pl).2.2.2.2.2.1), ((tW (ro, le, rn, be, wr, wn, is, ni) pl).2.2.2.2.2.2.1), ((tW (ro, le, rn, be, wr, wn, is, ni) pl).2.2.2.2.2.2.2)) pl 1).2).2.1), (((tG (((tW (ro, le, rn, be, wr, wn, is, ni) pl).1), ((tW (ro, le, rn, be, wr, wn, is, ni) pl).2.1), ((tW (ro, le, rn, be, wr, wn, is, ni) pl).2.2.1), ((tW (ro, le, rn, be, wr, wn, is, ni) pl).2.2.2.1), ((tW (ro, le, rn, be, wr, wn, is, ni) pl).2.2.2.2.1), ((tW (ro, le, rn, be, wr, wn, is, ni) pl).2.2.2.2.2.1), ((tW (ro, le, rn, be, wr, wn, is, ni) pl).2.2.2.2.2.2.1), ((tW (ro, le, rn, be, wr, wn, is, ni) pl).2.2.2.2.2.2.2)) pl 1).2).2.2.1), (((tG (((tW (ro, le, rn, be, wr, wn, is, ni) pl).1), ((tW (ro, le, rn, be, wr, wn, is, ni) pl).2.1), ((tW (ro, le, rn, be, wr, wn, is, ni) pl).2.2.1), ((tW (ro, le, rn, be, wr, wn, is, ni) pl).2.2.2.1), ((tW (ro, le, rn, be, wr, wn, is, ni) pl).2.2.2.2.1), ((tW (ro, le, rn, be, wr, wn, is, ni) pl).2.2.2.2.2.1), ((tW (ro, le, rn, be, wr, wn, is, ni) pl).2.2.2.2.2.2.1), ((tW (ro, le, rn, be, wr, wn, is, ni) pl).2.2.2.2.2.2.2)) pl 1).2).2.2.2.1), (((tG (((tW (ro, le, rn, be, wr, wn, is, ni) pl).1), ((tW (ro, le, rn, be, wr, wn, is, ni) pl).2.1), ((tW (ro, le, rn, be, wr, wn, is, ni) pl).2.2.1), ((tW (ro, le, rn, be, wr, wn, is, ni) pl).2.2.2.1), ((tW (ro, le, rn, be, wr, wn, is, ni) pl).2.2.2.2.1), ((tW (ro, le, rn, be, wr, wn, is, ni) pl).2.2.2.2.2.1), ((tW (ro, le, rn, be, wr, wn, is, ni) pl).2.2.2.2.2.2.1), ((tW (ro, le, rn, be, wr, wn, is, ni) pl).2.2.2.2.2.2.2)) pl 1).2).2.2.2.2.1), (((tG (((tW (ro, le, rn, be, wr, wn, is, ni) pl).1), ((tW (ro, le, rn, be, wr, wn, is, ni) pl).2.1), ((tW (ro, le, rn, be, wr, wn, is, ni) pl).2.2.1), ((tW (ro, le, rn, be, wr, wn, is, ni) pl).2.2.2.1), ((tW (ro, le, rn, be, wr, wn, is, ni) pl).2.2.2.2.1), ((tW (ro, le, rn, be, wr, wn, is, ni) pl).2.2.2.2.2.1), ((tW (ro, le, rn, be, wr, wn, is, ni) pl).2.2.2.2.2.2.1), ((tW (ro, le, rn, be, wr, wn, is, ni) pl).2.2.2.2.2.2.2)) pl 1).2).2.2.2.2.2.1), (((tG (((tW (ro, le, rn, be, wr, wn, is, ni) pl).1), ((tW (ro, le, rn, be, wr, wn, is, ni) pl).2.1), ((tW (ro, le, rn, be, wr, wn, is, ni) pl).2.2.1), ((tW (ro, le, rn, be, wr, wn, is, ni) pl).2.2.2.1), ((tW (ro, le, rn, be, wr, wn, is, ni) pl).2.2.2.2.1), ((tW (ro, le, rn, be, wr, wn, is, ni) pl).2.2.2.2.2.1), ((tW (ro, le, rn, be, wr, wn, is, ni) pl).2.2.2.2.2.2.1), ((tW (ro, le, rn, be, wr, wn, is, ni) pl).2.2.2.2.2.2.2)) pl 1).2).2.2.2.2.2.2.1), (((tG (((tW (ro, le, rn, be, wr, wn, is, ni) pl).1), ((tW (ro, le, rn, be, wr, wn, is, ni) pl).2.1), ((tW (ro, le, rn, be, wr, wn, is, ni) pl).2.2.1), ((tW (ro, le, rn, be, wr, wn, is, ni) pl).2.2.2.1), ((tW (ro, le, rn, be, wr, wn, is, ni) pl).2.2.2.2.1), ((tW (ro, le, rn, be, wr, wn, is, ni) pl).2.2.2.2.2.1), ((tW (ro, le, rn, be, wr, wn, is, ni) pl).2.2.2.2.2.2.1), ((tW (ro, le, rn, be, wr, wn, is, ni) pl).2.2.2.2.2.2.2)) pl 1).2).2.2.2.2.2.2.2)) t).1)))) :: (tl, .inl (g.2.1 0, 100, .inl (nA ((tC ((((tG (((tW (ro, le, rn, be, wr, wn, is, ni) pl).1), ((tW (ro, le, rn, be, wr, wn, is, ni) pl).2.1), ((tW (ro, le, rn, be, wr, wn, is, ni) pl).2.2.1), ((tW (ro, le, rn, be, wr, wn, is, ni) pl).2.2.2.1), ((tW (ro, le, rn, be, wr, wn, is, ni) pl).2.2.2.2.1), ((tW (ro, le, rn, be, wr, wn, is, ni) pl).2.2.2.2.2.1), ((tW (ro, le, rn, be, wr, wn, is, ni) pl).2.2.2.2.2.2.1), ((tW (ro, le, rn, be, wr, wn, is, ni) pl).2.2.2.2.2.2.2)) pl 1).2).1), (((tG (((tW (ro, le, rn, be, wr, wn, is, ni) pl).1), ((tW (ro, le, rn, be, wr, wn, is, ni) pl).2.1), ((tW (ro, le, rn, be, wr, wn, is, ni) pl).2.2.1), ((tW (ro, le, rn, be, wr, wn, is, ni) pl).2.2.2.1), ((tW (ro, le, rn, be, wr, wn, is, ni) pl).2.2.2.2.1), ((tW (ro, le, rn, be, wr, wn, is, ni) pl).2.2.2.2.2.1), ((tW (ro, le, rn, be, wr, wn, is, ni) pl).2.2.2.2.2.2.1), ((tW (ro, le, rn, be, wr, wn, is, ni) pl).2.2.2.2.2.2.2)) pl 1).2).2.1), (((tG (((tW (ro, le, rn, be, wr, wn, is, ni) pl).1), ((tW (ro, le, rn, be, wr, wn, is, ni) pl).2.1), ((tW (ro, le, rn, be, wr, wn, is, ni) pl).2.2.1), ((tW (ro, le, rn, be, wr, wn, is, ni) pl).2.2.2.1), ((tW (ro, le, rn, be, wr, wn, is, ni) pl).2.2.2.2.1), ((tW (ro, le, rn, be, wr, wn, is, ni) pl).2.2.2.2.2.1), ((tW (ro, le, rn, be, wr, wn, is, ni) pl).2.2.2.2.2.2.1), ((tW (ro, le, rn, be, wr, wn, is, ni) pl).2.2.2.2.2.2.2)) pl 1).2).2.2.1), (((tG (((tW (ro, le, rn, be, wr, wn, is, ni) pl).1), ((tW (ro, le, rn, be, wr, wn, is, ni) pl).2.1), ((tW (ro, le, rn, be, wr, wn, is, ni) pl).2.2.1), ((tW (ro, le, rn, be, wr, wn, is, ni) pl).2.2.2.1), ((tW (ro, le, rn, be, wr, wn, is, ni) pl).2.2.2.2.1), ((tW (ro, le, rn, be, wr, wn, is, ni) pl).2.2.2.2.2.1), ((tW (ro, le, rn, be, wr, wn, is, ni) pl).2.2.2.2.2.2.1), ((tW (ro, le, rn, be, wr, wn, is, ni) pl).2.2.2.2.2.2.2)) pl 1).2).2.2.2.1), (((tG (((tW (ro, le, rn, be, wr, wn, is, ni) pl).1), ((tW (ro, le, rn, be, wr, wn, is, ni) pl).2.1), ((tW (ro, le, rn, be, wr, wn, is, ni) pl).2.2.1), ((tW (ro, le, rn, be, wr, wn, is, ni) pl).2.2.2.1), ((tW (ro, le, rn, be, wr, wn, is, ni) pl).2.2.2.2.1), ((tW (ro, le, rn, be, wr, wn, is, ni) pl).2.2.2.2.2.1), ((tW (ro, le, rn, be, wr, wn, is, ni) pl).2.2.2.2.2.2.1), ((tW (ro, le, rn, be, wr, wn, is, ni) pl).2.2.2.2.2.2.2)) pl 1).2).2.2.2.2.1), (((tG (((tW (ro, le, rn, be, wr, wn, is, ni) pl).1), ((tW (ro, le, rn, be, wr, wn, is, ni) pl).2.1), ((tW (ro, le, rn, be, wr, wn, is, ni) pl).2.2.1), ((tW (ro, le, rn, be, wr, wn, is, ni) pl).2.2.2.1), ((tW (ro, le, rn, be, wr, wn, is, ni) pl).2.2.2.2.1), ((tW (ro, le, rn, be, wr, wn, is, ni) pl).2.2.2.2.2.1), ((tW (ro, le, rn, be, wr, wn, is, ni) pl).2.2.2.2.2.2.1), ((tW (ro, le, rn, be, wr, wn, is, ni) pl).2.2.2.2.2.2.2)) pl 1).2).2.2.2.2.2.1), (((tG (((tW (ro, le, rn, be, wr, wn, is, ni) pl).1), ((tW (ro, le, rn, be, wr, wn, is, ni) pl).2.1), ((tW (ro, le, rn, be, wr, wn, is, ni) pl).2.2.1), ((tW (ro, le, rn, be, wr, wn, is, ni) pl).2.2.2.1), ((tW (ro, le, rn, be, wr, wn, is, ni) pl).2.2.2.2.1), ((tW (ro, le, rn, be, wr, wn, is, ni) pl).2.2.2.2.2.1), ((tW (ro, le, rn, be, wr, wn, is, ni) pl).2.2.2.2.2.2.1), ((tW (ro, le, rn, be, wr, wn, is, ni) pl).2.2.2.2.2.2.2)) pl 1).2).2.2.2.2.2.2.1), (((tG (((tW (ro, le, rn, be, wr, wn, is, ni) pl).1), ((tW (ro, le, rn, be, wr, wn, is, ni) pl).2.1), ((tW (ro, le, rn, be, wr, wn, is, ni) pl).2.2.1), ((tW (ro, le, rn, be, wr, wn, is, ni) pl).2.2.2.1), ((tW (ro, le, rn, be, wr, wn, is, ni) pl).2.2.2.2.1), ((tW (ro, le, rn, be, wr, wn, is, ni) pl).2.2.2.2.2.1), ((tW (ro, le, rn, be, wr, wn, is, ni) pl).2.2.2.2.2.2.1), ((tW (ro, le, rn, be, wr, wn, is, ni) pl).2.2.2.2.2.2.2)) pl 1).2).2.2.2.2.2.2.2)) t).2.1)))) :: (tn, .inl (g.2.1 0, 100, .inl (nA ((tC ((((tG (((tW (ro, le, rn, be, wr, wn, is, ni) pl).1), ((tW (ro, le, rn, be, wr, wn, is, ni) pl).2.1), ((tW (ro, le, rn, be, wr, wn, is, ni) pl).2.2.1), ((tW (ro, le, rn, be, wr, wn, is, ni) pl).2.2.2.1), ((tW (ro, le, rn, be, wr, wn, is, ni) pl).2.2.2.2.1), ((tW (ro, le, rn, be, wr, wn, is, ni) pl).2.2.2.2.2.1), ((tW (ro, le, rn, be, wr, wn, is, ni) pl).2.2.2.2.2.2.1), ((tW (ro, le, rn, be, wr, wn, is, ni) pl).2.2.2.2.2.2.2)) pl 1).2).1), (((tG (((tW (ro, le, rn, be, wr, wn, is, ni) pl).1), ((tW (ro, le, rn, be, wr, wn, is, ni) pl).2.1), ((tW (ro, le, rn, be, wr, wn, is, ni) pl).2.2.1), ((tW (ro, le, rn, be, wr, wn, is, ni) pl).2.2.2.1), ((tW (ro, le, rn, be, wr, wn, is, ni) pl).2.2.2.2.1), ((tW (ro, le, rn, be, wr, wn, is, ni) pl).2.2.2.2.2.1), ((tW (ro, le, rn, be, wr, wn, is, ni) pl).2.2.2.2.2.2.1), ((tW (ro, le, rn, be, wr, wn, is, ni) pl).2.2.2.2.2.2.2)) pl 1).2).2.1), (((tG (((tW (ro, le, rn, be, wr, wn, is, ni) pl).1), ((tW (ro, le, rn, be, wr, wn, is, ni) pl).2.1), ((tW (ro, le, rn, be, wr, wn, is, ni) pl).2.2.1), ((tW (ro, le, rn, be, wr, wn, is, ni) pl).2.2.2.1), ((tW (ro, le, rn, be, wr, wn, is, ni) pl).2.2.2.2.1), ((tW (ro, le, rn, be, wr, wn, is, ni) pl).2.2.2.2.2.1), ((tW (ro, le, rn, be, wr, wn, is, ni) pl).2.2.2.2.2.2.1), ((tW (ro, le, rn, be, wr, wn, is, ni) pl).2.2.2.2.2.2.2)) pl 1).2).2.2.1), (((tG (((tW (ro, le, rn, be, wr, wn, is, ni) pl).1), ((tW (ro, le, rn, be, wr, wn, is, ni) pl).2.1), ((tW (ro, le, rn, be, wr, wn, is, ni) pl).2.2.1), ((tW (ro, le, rn, be, wr, wn, is, ni) pl).2.2.2.1), ((tW (ro, le, rn, be, wr, wn, is, ni) pl).2.2.2.2.1), ((tW (ro, le, rn, be, wr, wn, is, ni) pl).2.2.2.2.2.1), ((tW (ro, le, rn, be, wr, wn, is, ni) pl).2.2.2.2.2.2.1), ((tW (ro, le, rn, be, wr, wn, is, ni) pl).2.2.2.2.2.2.2)) pl 1).2).2.2.2.1), (((tG (((tW (ro, le, rn, be, wr, wn, is, ni) pl).1), ((tW (ro, le, rn, be, wr, wn, is, ni) pl).2.1), ((tW (ro, le, rn, be, wr, wn, is, ni) pl).2.2.1), ((tW (ro, le, rn, be, wr, wn, is, ni) pl).2.2.2.1), ((tW (ro, le, rn, be, wr, wn, is, ni) pl).2.2.2.2.1), ((tW (ro, le, rn, be, wr, wn, is, ni) pl).2.2.2.2.2.1), ((tW (ro, le, rn, be, wr, wn, is, ni) pl).2.2.2.2.2.2.1), ((tW (ro, le, rn, be, wr, wn, is, ni) pl).2.2.2.2.2.2.2)) pl 1).2).2.2.2.2.1), (((tG (((tW (ro, le, rn, be, wr, wn, is, ni) pl).1), ((tW (ro, le, rn, be, wr, wn, is, ni) pl).2.1), ((tW (ro, le, rn, be, wr, wn, is, ni) pl).2.2.1), ((tW (ro, le, rn, be, wr, wn, is, ni) pl).2.2.2.1), ((tW (ro, le, rn, be, wr, wn, is, ni) pl).2.2.2.2.1), ((tW (ro, le, rn, be, wr, wn, is, ni) pl).2.2.2.2.2.1), ((tW (ro, le, rn, be, wr, wn, is, ni) pl).2.2.2.2.2.2.1), ((tW (ro, le, rn, be, wr, wn, is, ni) pl).2.2.2.2.2.2.2)) pl 1).2).2.2.2.2.2.1), (((tG (((tW (ro, le, rn, be, wr, wn, is, ni) pl).1), ((tW (ro, le, rn, be, wr, wn, is, ni) pl).2.1), ((tW (ro, le, rn, be, wr, wn, is, ni) pl).2.2.1), ((tW (ro, le, rn, be, wr, wn, is, ni) pl).2.2.2.1), ((tW (ro, le, rn, be, wr, wn, is, ni) pl).2.2.2.2.1), ((tW (ro, le, rn, be, wr, wn, is, ni) pl).2.2.2.2.2.1), ((tW (ro, le, rn, be, wr, wn, is, ni) pl).2.2.2.2.2.2.1), ((tW (ro, le, rn, be, wr, wn, is, ni) pl).2.2.2.2.2.2.2)) pl 1).2).2.2.2.2.2.2.1), (((tG (((tW (ro, le, rn, be, wr, wn, is, ni) pl).1), ((tW (ro, le, rn, be, wr, wn, is, ni) pl).2.1), ((tW (ro, le, rn, be, wr, wn, is, ni) pl).2.2.1), ((tW (ro, le, rn, be, wr, wn, is, ni) pl).2.2.2.1), ((tW (ro, le, rn, be, wr, wn, is, ni) pl).2.2.2.2.1), ((tW (ro, le, rn, be, wr, wn, is, ni) pl).2.2.2.2.2.1), ((tW (ro, le, rn, be, wr, wn, is, ni) pl).2.2.2.2.2.2.1), ((tW (ro, le, rn, be, wr, wn, is, ni) pl).2.2.2.2.2.2.2)) pl 1).2).2.2.2.2.2.2.2)) t).2.2.1)))) :: (tb, .inl (g.2.1 1, 100, .inl (bA ((tC ((((tG (((tW (ro, le, rn, be, wr, wn, is, ni) pl).1), ((tW (ro, le, rn, be, wr, wn, is, ni) pl).2.1), ((tW (ro, le, rn, be, wr, wn, is, ni) pl).2.2.1), ((tW (ro, le, rn, be, wr, wn, is, ni) pl).2.2.2.1), ((tW (ro, le, rn, be, wr, wn, is, ni) pl).2.2.2.2.1), ((tW (ro, le, rn, be, wr, wn, is, ni) pl).2.2.2.2.2.1), ((tW (ro, le, rn, be, wr, wn, is, ni) pl).2.2.2.2.2.2.1), ((tW (ro, le, rn, be, wr, wn, is, ni) pl).2.2.2.2.2.2.2)) pl 1).2).1), (((tG (((tW (ro, le, rn, be, wr, wn, is, ni) pl).1), ((tW (ro, le, rn, be, wr, wn, is, ni) pl).2.1), ((tW (ro, le, rn, be, wr, wn, is, ni) pl).2.2.1), ((tW (ro, le, rn, be, wr, wn, is, ni) pl).2.2.2.1), ((tW (ro, le, rn, be, wr, wn, is, ni) pl).2.2.2.2.1), ((tW (ro, le, rn, be, wr, wn, is, ni) pl).2.2.2.2.2.1), ((tW (ro, le, rn, be, wr, wn, is, ni) pl).2.2.2.2.2.2.1), ((tW (ro, le, rn, be, wr, wn, is, ni) pl).2.2.2.2.2.2.2)) pl 1).2).2.1), (((tG (((tW (ro, le, rn, be, wr, wn, is, ni) pl).1), ((tW (ro, le, rn, be, wr, wn, is, ni) pl).2.1), ((tW (ro, le, rn, be, wr, wn, is, ni) pl).2.2.1), ((tW (ro, le, rn, be, wr, wn, is, ni) pl).2.2.2.1), ((tW (ro, le, rn, be, wr, wn, is, ni) pl).2.2.2.2.1), ((tW (ro, le, rn, be, wr, wn, is, ni) pl).2.2.2.2.2.1), ((tW (ro, le, rn, be, wr, wn, is, ni) pl).2.2.2.2.2.2.1), ((tW (ro, le, rn, be, wr, wn, is, ni) pl).2.2.2.2.2.2.2)) pl 1).2).2.2.1), (((tG (((tW (ro, le, rn, be, wr, wn, is, ni) pl).1), ((tW (ro, le, rn, be, wr, wn, is, ni) pl).2.1), ((tW (ro, le, rn, be, wr, wn, is, ni) pl).2.2.1), ((tW (ro, le, rn, be, wr, wn, is, ni) pl).2.2.2.1), ((tW (ro, le, rn, be, wr, wn, is, ni) pl).2.2.2.2.1), ((tW (ro, le, rn, be, wr, wn, is, ni) pl).2.2.2.2.2.1), ((tW (ro, le, rn, be, wr, wn, is, ni) pl).2.2.2.2.2.2.1), ((tW (ro, le, rn, be, wr, wn, is, ni) pl).2.2.2.2.2.2.2)) pl 1).2).2.2.2.1), (((tG (((tW (ro, le, rn, be, wr, wn, is, ni) pl).1), ((tW (ro, le, rn, be, wr, wn, is, ni) pl).2.1), ((tW (ro, le, rn, be, wr, wn, is, ni) pl).2.2.1), ((tW (ro, le, rn, be, wr, wn, is, ni) pl).2.2.2.1), ((tW (ro, le, rn, be, wr, wn, is, ni) pl).2.2.2.2.1), ((tW (ro, le, rn, be, wr, wn, is, ni) pl).2.2.2.2.2.1), ((tW (ro, le, rn, be, wr, wn, is, ni) pl).2.2.2.2.2.2.1), ((tW (ro, le, rn, be, wr, wn, is, ni) pl).2.2.2.2.2.2.2)) pl 1).2).2.2.2.2.1), (((tG (((tW (ro, le, rn, be, wr, wn, is, ni) pl).1), ((tW (ro, le, rn, be, wr, wn, is, ni) pl).2.1), ((tW (ro, le, rn, be, wr, wn, is, ni) pl).2.2.1), ((tW (ro, le, rn, be, wr, wn, is, ni) pl).2.2.2.1), ((tW (ro, le, rn, be, wr, wn, is, ni) pl).2.2.2.2.1), ((tW (ro, le, rn, be, wr, wn, is, ni) pl).2.2.2.2.2.1), ((tW (ro, le, rn, be, wr, wn, is, ni) pl).2.2.2.2.2.2.1), ((tW (ro, le, rn, be, wr, wn, is, ni) pl).2.2.2.2.2.2.2)) pl 1).2).2.2.2.2.2.1), (((tG (((tW (ro, le, rn, be, wr, wn, is, ni) pl).1), ((tW (ro, le, rn, be, wr, wn, is, ni) pl).2.1), ((tW (ro, le, rn, be, wr, wn, is, ni) pl).2.2.1), ((tW (ro, le, rn, be, wr, wn, is, ni) pl).2.2.2.1), ((tW (ro, le, rn, be, wr, wn, is, ni) pl).2.2.2.2.1), ((tW (ro, le, rn, be, wr, wn, is, ni) pl).2.2.2.2.2.1), ((tW (ro, le, rn, be, wr, wn, is, ni) pl).2.2.2.2.2.2.1), ((tW (ro, le, rn, be, wr, wn, is, ni) pl).2.2.2.2.2.2.2)) pl 1).2).2.2.2.2.2.2.1), (((tG (((tW (ro, le, rn, be, wr, wn, is, ni) pl).1), ((tW (ro, le, rn, be, wr, wn, is, ni) pl).2.1), ((tW (ro, le, rn, be, wr, wn, is, ni) pl).2.2.1), ((tW (ro, le, rn, be, wr, wn, is, ni) pl).2.2.2.1), ((tW (ro, le, rn, be, wr, wn, is, ni) pl).2.2.2.2.1), ((tW (ro, le, rn, be, wr, wn, is, ni) pl).2.2.2.2.2.1), ((tW (ro, le, rn, be, wr, wn, is, ni) pl).2.2.2.2.2.2.1), ((tW (ro, le, rn, be, wr, wn, is, ni) pl).2.2.2.2.2.2.2)) pl 1).2).2.2.2.2.2.2.2)) t).2.2.2.1)))) :: R) _ := hW
        refine lv_iload F.1 F.2.1 dX10_price_50 (lv_at hl 0 rfl) ?_
        refine gRi F hW hS dX10_price_52 ?_
        exact ⟨by rw [tPr, if_pos c_20], by rw [show tP (ro, le, rn, be, wr, wn, is, ni) pl k (some t) = _ from if_pos c_42, if_pos c_20]⟩

abbrev rm_X10_traceLength : Room := ({ frames := 1, cells := 0, slots := 0, locals := 20 } : Room)
theorem mX10_traceLength_1 : Cond.fieldLink RX10 15 "StepperHearts$TraceHeart" "lengths" "[I" ∈ wsX10_traceLength := List.mem_of_getElem? (i := 1) rfl
theorem nX10_traceLength_X10 : ∀ w ∈ wsX100, w ∈ wsX10_traceLength := fun _ h => List.mem_cons_of_mem _ (List.mem_append_right _ (h))
set_option maxRecDepth 100000 in
set_option maxHeartbeats 4000000 in
theorem c_X10_traceLength (g : gC) (l : Launch) {ht0 : Nat} {tr : Nat} {tl : Nat} {tn : Nat} {tb : Nat} {k : Nat} {w0 : Int32} {w1 : Int32} {w2 : Int32} {w3 : Int32} {le : Nat → Nat} {R : va_W} (hk : k < 100) : cI g l yX10_traceLength wsX10_traceLength rm_X10_traceLength 0 0 [.ref ht0, .int (nI k)] ((ht0, .inr (7, [.ref tr, .ref tl, .ref tn, .ref tb, .int w0, .int w1, .int w2, .int w3])) :: (tl, .inl (g.2.1 0, 100, .inl (nA le))) :: R) (fun r u => (nI (le k)) = r ∧ (ht0, .inr (7, [.ref tr, .ref tl, .ref tn, .ref tb, .int w0, .int w1, .int w2, .int w3])) :: (tl, .inl (g.2.1 0, 100, .inl (nA le))) :: R = u) := by
  refine gEnterQ (cc := cX10_traceLength) (maxL := 2) (ret := (some (.int))) (by decide +kernel) rfl (Nat.le_of_ble_eq_true rfl) ?_
  intro p e s m below meth c F hG hW ls hl
  have hS : va_S (gA g) s.heap s.heap [] := va_S.rf
  have hl : lv_has ls 2 [(0, .ref ht0), (1, .int (nI k))] := hl
  have hW : gW g ((ht0, .inr (7, [.ref tr, .ref tl, .ref tn, .ref tb, .int w0, .int w1, .int w2, .int w3])) :: (tl, .inl (g.2.1 0, 100, .inl (nA le))) :: R) s.heap := hW
  refine lv_iload_n F.1 F.2.1 dX10_traceLength_0 rfl (lv_at hl 1 rfl) ?_
  refine gS_i (n := 1) (As := [.int (nI k)]) F hG hS hW (c_X10_isPlace_n g l  (by omega)) rfl gX10_traceLength_X10_isPlace (by decide +kernel) ⟨rfl, rfl, Nat.le_of_ble_eq_true rfl, Nat.le_of_ble_eq_true rfl⟩ hl.1 (Nat.le_of_ble_eq_true rfl) ⟨Nat.le_of_ble_eq_true rfl, Nat.le_of_ble_eq_true rfl⟩ rfl rfl dX10_traceLength_1 (fun r u H locs hq hW hS => ?_)
  obtain ⟨rfl, rfl⟩ := hq
  have hW : gW g ((ht0, .inr (7, [.ref tr, .ref tl, .ref tn, .ref tb, .int w0, .int w1, .int w2, .int w3])) :: (tl, .inl (g.2.1 0, 100, .inl (nA le))) :: R) _ := hW
  refine gIfEqB (tgt := 16) F dX10_traceLength_4 (by decide) (fun q => by simp at q) (fun c_4 => ?_)
  refine lv_aload_n F.1 F.2.1 dX10_traceLength_7 rfl (lv_at hl 0 rfl) ?_
  refine gGet F hG hW nX10_traceLength_X10 0 rfl rfl 1 (by decide) mX10_traceLength_1 rfl dX10_traceLength_8 ?_
  refine lv_iload_n F.1 F.2.1 dX10_traceLength_11 rfl (lv_at hl 1 rfl) ?_
  refine gLdI F hG hW 1 rfl (by omega) (by decide) dX10_traceLength_12 ?_
  refine gTop (y := nI (le k)) rfl ?_
  refine lv_goto (tgt := 17) F.1 F.2.1 dX10_traceLength_13 (by decide) ?_
  refine gRi F hW hS dX10_traceLength_17 ?_
  exact ⟨rfl, rfl⟩

abbrev rm_X1_traceLength : Room := ({ frames := 0, cells := 0, slots := 0, locals := 0 } : Room)
set_option maxRecDepth 100000 in
set_option maxHeartbeats 4000000 in
theorem c_X1_traceLength (g : gC) (l : Launch) {hb : Nat} {k : Nat} {R : va_W} : cI g l yX1_traceLength wsX1_traceLength rm_X1_traceLength 0 0 [.ref hb, .int (nI k)] (R) (fun r u => (nI 0) = r ∧ R = u) := by
  refine gEnterQ (cc := cX1_traceLength) (maxL := 2) (ret := (some (.int))) (by decide +kernel) rfl (Nat.le_of_ble_eq_true rfl) ?_
  intro p e s m below meth c F hG hW ls hl
  have hS : va_S (gA g) s.heap s.heap [] := va_S.rf
  have hl : lv_has ls 2 [(0, .ref hb), (1, .int (nI k))] := hl
  have hW : gW g (R) s.heap := hW
  refine lv_iconst (v := nI 0) F.1 F.2.1 dX1_traceLength_0 rfl ?_
  refine gRi F hW hS dX1_traceLength_1 ?_
  exact ⟨rfl, rfl⟩

abbrev rm_X10_begin : Room := ({ frames := 1, cells := 0, slots := 0, locals := 23 } : Room)
theorem mX10_begin_1 : Cond.fieldLink RX10 15 "StepperHearts$TraceHeart" "lengths" "[I" ∈ wsX10_begin := List.mem_of_getElem? (i := 1) rfl
theorem nX10_begin_X10 : ∀ w ∈ wsX100, w ∈ wsX10_begin := fun _ h => List.mem_cons_of_mem _ (List.mem_append_right _ (h))
theorem mX10_begin_2 : Cond.fieldLink RX10 18 "StepperHearts$TraceHeart" "rounds" "[I" ∈ wsX10_begin := List.mem_of_getElem? (i := 2) rfl
theorem mX10_begin_4 : Cond.fieldLink RX10 25 "StepperHearts$TraceHeart" "writing" "I" ∈ wsX10_begin := List.mem_of_getElem? (i := 4) rfl
theorem mX10_begin_5 : Cond.fieldLink RX10 29 "StepperHearts$TraceHeart" "written" "I" ∈ wsX10_begin := List.mem_of_getElem? (i := 5) rfl
theorem mX10_begin_6 : Cond.fieldLink RX10 32 "StepperHearts$TraceHeart" "inside" "I" ∈ wsX10_begin := List.mem_of_getElem? (i := 6) rfl
theorem mX10_begin_7 : Cond.fieldLink RX10 35 "StepperHearts$TraceHeart" "nextInside" "I" ∈ wsX10_begin := List.mem_of_getElem? (i := 7) rfl
theorem mX10_begin_3 : Cond.fieldLink RX10 21 "StepperHearts$TraceHeart" "wasBegun" "[Z" ∈ wsX10_begin := List.mem_of_getElem? (i := 3) rfl
set_option maxRecDepth 100000 in
set_option maxHeartbeats 4000000 in
theorem c_X10_begin (g : gC) (l : Launch) {ht0 : Nat} {tr : Nat} {tl : Nat} {tn : Nat} {tb : Nat} {hp : Nat} {w0 : Int32} {w1 : Int32} {w2 : Int32} {w3 : Int32} {le : Nat → Nat} {rn : Nat → Nat} {be : Nat → Bool} {R : va_W} : cV g l yX10_begin wsX10_begin rm_X10_begin 0 0 [.ref ht0, .ref hp] ((ht0, .inr (7, [.ref tr, .ref tl, .ref tn, .ref tb, .int w0, .int w1, .int w2, .int w3])) :: (tl, .inl (g.2.1 0, 100, .inl (nA le))) :: (tn, .inl (g.2.1 0, 100, .inl (nA rn))) :: (tb, .inl (g.2.1 1, 100, .inl (bA be))) :: R) (fun u => (ht0, .inr (7, [.ref tr, .ref tl, .ref tn, .ref tb, .int (-1), .int (nI 0), .int (-1), .int (nI 0)])) :: (tl, .inl (g.2.1 0, 100, .inl (nA (fun _ => 0)))) :: (tn, .inl (g.2.1 0, 100, .inl (nA (fun _ => 0)))) :: (tb, .inl (g.2.1 1, 100, .inl (bA (fun _ => false)))) :: R = u) := by
  refine gEnterQ (cc := cX10_begin) (maxL := 3) (ret := none) (by decide +kernel) rfl (Nat.le_of_ble_eq_true rfl) ?_
  intro p e s m below meth c F hG hW ls hl
  have hS : va_S (gA g) s.heap s.heap [] := va_S.rf
  have hl : lv_has ls 3 [(0, .ref ht0), (1, .ref hp)] := hl
  have hW : gW g ((ht0, .inr (7, [.ref tr, .ref tl, .ref tn, .ref tb, .int w0, .int w1, .int w2, .int w3])) :: (tl, .inl (g.2.1 0, 100, .inl (nA le))) :: (tn, .inl (g.2.1 0, 100, .inl (nA rn))) :: (tb, .inl (g.2.1 1, 100, .inl (bA be))) :: R) s.heap := hW
  refine lv_aload_n F.1 F.2.1 dX10_begin_0 rfl (lv_at hl 0 rfl) ?_
  refine gGet F hG hW nX10_begin_X10 0 rfl rfl 1 (by decide) mX10_begin_1 rfl dX10_begin_1 ?_
  refine lv_iconst (v := nI 0) F.1 F.2.1 dX10_begin_4 rfl ?_
  have hW := gW.re (l := [(ht0, .inr (7, [.ref tr, .ref tl, .ref tn, .ref tb, .int w0, .int w1, .int w2, .int w3])), (tl, .inl (g.2.1 0, 100, .inl (nA le)))]) (l' := [(tl, .inl (g.2.1 0, 100, .inl (nA le))), (ht0, .inr (7, [.ref tr, .ref tl, .ref tn, .ref tb, .int w0, .int w1, .int w2, .int w3]))]) (R := (tn, .inl (g.2.1 0, 100, .inl (nA rn))) :: (tb, .inl (g.2.1 1, 100, .inl (bA be))) :: R) hW [1, 0] 2 rfl (by decide) rfl
  have hW : gW g ((tl, .inl (g.2.1 0, 100, .inl (nA le))) :: (ht0, .inr (7, [.ref tr, .ref tl, .ref tn, .ref tb, .int w0, .int w1, .int w2, .int w3])) :: (tn, .inl (g.2.1 0, 100, .inl (nA rn))) :: (tb, .inl (g.2.1 1, 100, .inl (bA be))) :: R) _ := hW
  refine gS_v (n := 2) (As := [.ref tl, .int (nI 0)]) F hG hS hW (c_J7_fill_53178_n g l  (by omega)) rfl gX10_begin_J7_fill_53178 (by decide +kernel) ⟨rfl, rfl, Nat.le_of_ble_eq_true rfl, Nat.le_of_ble_eq_true rfl⟩ hl.1 (Nat.le_of_ble_eq_true rfl) ⟨Nat.le_of_ble_eq_true rfl, Nat.le_of_ble_eq_true rfl⟩ rfl rfl dX10_begin_5 (fun u H locs hq hW hS => ?_)
  obtain rfl := hq
  have hW : gW g ((tl, .inl (g.2.1 0, 100, .inl (nA (fun _ => 0)))) :: (ht0, .inr (7, [.ref tr, .ref tl, .ref tn, .ref tb, .int w0, .int w1, .int w2, .int w3])) :: (tn, .inl (g.2.1 0, 100, .inl (nA rn))) :: (tb, .inl (g.2.1 1, 100, .inl (bA be))) :: R) _ := hW
  refine lv_aload_n F.1 F.2.1 dX10_begin_8 rfl (lv_at hl 0 rfl) ?_
  refine gGet F hG hW nX10_begin_X10 1 rfl rfl 2 (by decide) mX10_begin_2 rfl dX10_begin_9 ?_
  refine lv_iconst (v := nI 0) F.1 F.2.1 dX10_begin_12 rfl ?_
  have hW := gW.re (l := [(tl, .inl (g.2.1 0, 100, .inl (nA (fun _ => 0)))), (ht0, .inr (7, [.ref tr, .ref tl, .ref tn, .ref tb, .int w0, .int w1, .int w2, .int w3])), (tn, .inl (g.2.1 0, 100, .inl (nA rn)))]) (l' := [(tn, .inl (g.2.1 0, 100, .inl (nA rn))), (tl, .inl (g.2.1 0, 100, .inl (nA (fun _ => 0)))), (ht0, .inr (7, [.ref tr, .ref tl, .ref tn, .ref tb, .int w0, .int w1, .int w2, .int w3]))]) (R := (tb, .inl (g.2.1 1, 100, .inl (bA be))) :: R) hW [2, 0, 1] 3 rfl (by decide) rfl
  have hW : gW g ((tn, .inl (g.2.1 0, 100, .inl (nA rn))) :: (tl, .inl (g.2.1 0, 100, .inl (nA (fun _ => 0)))) :: (ht0, .inr (7, [.ref tr, .ref tl, .ref tn, .ref tb, .int w0, .int w1, .int w2, .int w3])) :: (tb, .inl (g.2.1 1, 100, .inl (bA be))) :: R) _ := hW
  refine gS_v (n := 2) (As := [.ref tn, .int (nI 0)]) F hG hS hW (c_J7_fill_53178_n g l  (by omega)) rfl gX10_begin_J7_fill_53178 (by decide +kernel) ⟨rfl, rfl, Nat.le_of_ble_eq_true rfl, Nat.le_of_ble_eq_true rfl⟩ hl.1 (Nat.le_of_ble_eq_true rfl) ⟨Nat.le_of_ble_eq_true rfl, Nat.le_of_ble_eq_true rfl⟩ rfl rfl dX10_begin_13 (fun u H locs hq hW hS => ?_)
  obtain rfl := hq
  have hW : gW g ((tn, .inl (g.2.1 0, 100, .inl (nA (fun _ => 0)))) :: (tl, .inl (g.2.1 0, 100, .inl (nA (fun _ => 0)))) :: (ht0, .inr (7, [.ref tr, .ref tl, .ref tn, .ref tb, .int w0, .int w1, .int w2, .int w3])) :: (tb, .inl (g.2.1 1, 100, .inl (bA be))) :: R) _ := hW
  refine lv_iconst (v := nI 0) F.1 F.2.1 dX10_begin_16 rfl ?_
  refine lv_istore_n (lv' := [(2, .int (nI 0)), (0, .ref ht0), (1, .ref hp)]) F.1 F.2.1 dX10_begin_17 rfl hl (by decide) rfl (fun ls hl => ?_)
  have hW := gW.re (l := [(tn, .inl (g.2.1 0, 100, .inl (nA (fun _ => 0)))), (tl, .inl (g.2.1 0, 100, .inl (nA (fun _ => 0)))), (ht0, .inr (7, [.ref tr, .ref tl, .ref tn, .ref tb, .int w0, .int w1, .int w2, .int w3]))]) (l' := [(ht0, .inr (7, [.ref tr, .ref tl, .ref tn, .ref tb, .int w0, .int w1, .int w2, .int w3])), (tl, .inl (g.2.1 0, 100, .inl (nA (fun _ => 0)))), (tn, .inl (g.2.1 0, 100, .inl (nA (fun _ => 0))))]) (R := (tb, .inl (g.2.1 1, 100, .inl (bA be))) :: R) hW [2, 1, 0] 3 rfl (by decide) rfl
  have hW : gW g ((ht0, .inr (7, [.ref tr, .ref tl, .ref tn, .ref tb, .int w0, .int w1, .int w2, .int w3])) :: (tl, .inl (g.2.1 0, 100, .inl (nA (fun _ => 0)))) :: (tn, .inl (g.2.1 0, 100, .inl (nA (fun _ => 0)))) :: (tb, .inl (g.2.1 1, 100, .inl (bA be))) :: R) _ := hW
  have L_18 : ∀ (fu : Nat), ∀ (i : Nat) (be : Nat → Bool) (hi : i ≤ 100) (hf : ∀ j, j < i → be j = false) (hm_18 : 100 - i < fu) (H : Heap) (locs : List Loc) (ls : Array Slot) (hW : gW g ((ht0, .inr (7, [.ref tr, .ref tl, .ref tn, .ref tb, .int w0, .int w1, .int w2, .int w3])) :: (tl, .inl (g.2.1 0, 100, .inl (nA (fun _ => 0)))) :: (tn, .inl (g.2.1 0, 100, .inl (nA (fun _ => 0)))) :: (tb, .inl (g.2.1 1, 100, .inl (bA be))) :: R) H) (hS : va_S (gA g) s.heap H locs) (hl : lv_has ls 3 [(0, .ref ht0), (2, .int (nI i))]), W p l e (headSpec wsX10_begin rm_X10_begin).room s m ([.ref ht0, .ref hp] : List Value).toArray below meth c H locs 0 0 (MQ below (va_Qv (fun u => (ht0, .inr (7, [.ref tr, .ref tl, .ref tn, .ref tb, .int (-1), .int (nI 0), .int (-1), .int (nI 0)])) :: (tl, .inl (g.2.1 0, 100, .inl (nA (fun _ => 0)))) :: (tn, .inl (g.2.1 0, 100, .inl (nA (fun _ => 0)))) :: (tb, .inl (g.2.1 1, 100, .inl (bA (fun _ => false)))) :: R = u) (fun u t => gW g u t.heap) (gA g)) ([.ref ht0, .ref hp] : List Value).toArray s 0 0 (gA g)) (F0 m 18 ls []) := by
    intro fu
    induction fu with
    | zero =>
      intros _ _ _ _ hm_18
      exact absurd hm_18 (Nat.not_lt_zero _)
    | succ fu ih_18 =>
      intro i be hi hf hm_18 H locs ls hW hS hl
      refine lv_iload_n F.1 F.2.1 dX10_begin_18 rfl (lv_at hl 1 rfl) ?_
      refine lv_bipush (v := nI 100) F.1 F.2.1 dX10_begin_19 (by decide) ?_
      refine gGe (tgt := 37) F (by omega) (by omega) dX10_begin_21 (by decide) (fun c_21 => ?_) (fun c_21 => ?_)
      · have hW := gW.arr (f' := bA (fun _ => false)) hW 3 rfl (fun j hj => by rw [show bA be j = bI (be j) from rfl, hf j (by omega)]; rfl) rfl
        have hW : gW g ((ht0, .inr (7, [.ref tr, .ref tl, .ref tn, .ref tb, .int w0, .int w1, .int w2, .int w3])) :: (tl, .inl (g.2.1 0, 100, .inl (nA (fun _ => 0)))) :: (tn, .inl (g.2.1 0, 100, .inl (nA (fun _ => 0)))) :: (tb, .inl (g.2.1 1, 100, .inl (bA (fun _ => false)))) :: R) _ := hW
        refine lv_aload_n F.1 F.2.1 dX10_begin_37 rfl (lv_at hl 0 rfl) ?_
        refine lv_iconst (v := -1) F.1 F.2.1 dX10_begin_38 rfl ?_
        refine gPut (w2 := (ht0, .inr (7, [.ref tr, .ref tl, .ref tn, .ref tb, .int (-1), .int w1, .int w2, .int w3])) :: (tl, .inl (g.2.1 0, 100, .inl (nA (fun _ => 0)))) :: (tn, .inl (g.2.1 0, 100, .inl (nA (fun _ => 0)))) :: (tb, .inl (g.2.1 1, 100, .inl (bA (fun _ => false)))) :: R) F hS hG hW nX10_begin_X10 0 rfl rfl 4 (by decide) tyX10 tyX10_ok nmX10 mX10_begin_4 rfl rfl rfl rfl (Nat.le_of_ble_eq_true rfl) rfl dX10_begin_39 (fun H locs hW hS => ?_)
        refine lv_aload_n F.1 F.2.1 dX10_begin_42 rfl (lv_at hl 0 rfl) ?_
        refine lv_iconst (v := nI 0) F.1 F.2.1 dX10_begin_43 rfl ?_
        refine gPut (w2 := (ht0, .inr (7, [.ref tr, .ref tl, .ref tn, .ref tb, .int (-1), .int (nI 0), .int w2, .int w3])) :: (tl, .inl (g.2.1 0, 100, .inl (nA (fun _ => 0)))) :: (tn, .inl (g.2.1 0, 100, .inl (nA (fun _ => 0)))) :: (tb, .inl (g.2.1 1, 100, .inl (bA (fun _ => false)))) :: R) F hS hG hW nX10_begin_X10 0 rfl rfl 5 (by decide) tyX10 tyX10_ok nmX10 mX10_begin_5 rfl rfl rfl rfl (Nat.le_of_ble_eq_true rfl) rfl dX10_begin_44 (fun H locs hW hS => ?_)
        refine lv_aload_n F.1 F.2.1 dX10_begin_47 rfl (lv_at hl 0 rfl) ?_
        refine lv_iconst (v := -1) F.1 F.2.1 dX10_begin_48 rfl ?_
        refine gPut (w2 := (ht0, .inr (7, [.ref tr, .ref tl, .ref tn, .ref tb, .int (-1), .int (nI 0), .int (-1), .int w3])) :: (tl, .inl (g.2.1 0, 100, .inl (nA (fun _ => 0)))) :: (tn, .inl (g.2.1 0, 100, .inl (nA (fun _ => 0)))) :: (tb, .inl (g.2.1 1, 100, .inl (bA (fun _ => false)))) :: R) F hS hG hW nX10_begin_X10 0 rfl rfl 6 (by decide) tyX10 tyX10_ok nmX10 mX10_begin_6 rfl rfl rfl rfl (Nat.le_of_ble_eq_true rfl) rfl dX10_begin_49 (fun H locs hW hS => ?_)
        refine lv_aload_n F.1 F.2.1 dX10_begin_52 rfl (lv_at hl 0 rfl) ?_
        refine lv_iconst (v := nI 0) F.1 F.2.1 dX10_begin_53 rfl ?_
        refine gPut (w2 := (ht0, .inr (7, [.ref tr, .ref tl, .ref tn, .ref tb, .int (-1), .int (nI 0), .int (-1), .int (nI 0)])) :: (tl, .inl (g.2.1 0, 100, .inl (nA (fun _ => 0)))) :: (tn, .inl (g.2.1 0, 100, .inl (nA (fun _ => 0)))) :: (tb, .inl (g.2.1 1, 100, .inl (bA (fun _ => false)))) :: R) F hS hG hW nX10_begin_X10 0 rfl rfl 7 (by decide) tyX10 tyX10_ok nmX10 mX10_begin_7 rfl rfl rfl rfl (Nat.le_of_ble_eq_true rfl) rfl dX10_begin_54 (fun H locs hW hS => ?_)
        refine gRv F hW hS dX10_begin_57 ?_
        exact rfl
      · refine lv_aload_n F.1 F.2.1 dX10_begin_24 rfl (lv_at hl 0 rfl) ?_
        refine gGet F hG hW nX10_begin_X10 0 rfl rfl 3 (by decide) mX10_begin_3 rfl dX10_begin_25 ?_
        refine lv_iload_n F.1 F.2.1 dX10_begin_28 rfl (lv_at hl 1 rfl) ?_
        refine lv_iconst (v := nI 0) F.1 F.2.1 dX10_begin_29 rfl ?_
        refine gTop (y := bI false) rfl ?_
        refine gStZB (w2 := (ht0, .inr (7, [.ref tr, .ref tl, .ref tn, .ref tb, .int w0, .int w1, .int w2, .int w3])) :: (tl, .inl (g.2.1 0, 100, .inl (nA (fun _ => 0)))) :: (tn, .inl (g.2.1 0, 100, .inl (nA (fun _ => 0)))) :: (tb, .inl (g.2.1 1, 100, .inl (bA (updB be i false)))) :: R) F hG hW 3 rfl (by omega) (by decide) hS rfl dX10_begin_30 (fun H locs hW hS => ?_)
        refine lv_iinc (v := nI (i + 1)) (lv' := [(2, .int (nI (i + 1))), (0, .ref ht0)]) F.1 F.2.1 dX10_begin_31 hl (k := 1) rfl (nI_add i 1) (by decide) rfl (fun ls hl => ?_)
        refine lv_goto (tgt := 18) F.1 F.2.1 dX10_begin_34 (by decide) ?_
        exact ih_18 (i + 1) (updB be i false) (by omega) (fun j hj => (Nat.lt_succ_iff_lt_or_eq.mp hj).elim (fun q => (updB_n (Nat.ne_of_lt q)).trans (hf j q)) (fun q => by rw [q]; exact updB_s _ _ _)) (by omega) _ _ _ hW hS (lv_sub hl [1, 0] rfl)
  exact L_18 _ 0 be (by omega) (fun j hj => absurd hj (Nat.not_lt_zero j)) (Nat.lt_succ_self _) _ _ _ hW hS (lv_sub hl [1, 0] rfl)

