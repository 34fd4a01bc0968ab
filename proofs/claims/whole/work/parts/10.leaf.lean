/-! ===== leaves of the class (written by wip/whole/gen/spec1.py) ===== -/
def oI (o : Option Nat) : Int32 := match o with | none => -1 | some k => nI k
def isK (x : Int32) : Bool := decide (¬ x < 0) && decide (x < 15)
def outUp (ou : Nat → Int32) (oc : Nat) (x : Int32) : Nat → Int32 := if oc < 60 then upd ou oc x else ou
def folUp (fw : Nat → Nat) (fo : Option Nat) (k : Nat) : Nat → Nat := match fo with | none => fw | some j => updN fw (j * 15 + k) (fw (j * 15 + k) + 1)
theorem isK_n {k : Nat} (h : k < 15) : isK (nI k) = true := by
  have h1 : ¬ nI k < 0 := nI_pos (by omega)
  have h2 : nI k < 15 := nI_lt (b := 15) h (by decide)
  simp [isK, h1, h2]
theorem isK_m : isK (-1) = false := by decide
/-- below its length an array is all that counts -/
theorem arr_ext {cA n : Nat} {f f' : Nat → Int32} (h : ∀ j, j < n → f j = f' j) : vp_cell cA (n, .inl f) = vp_cell cA (n, .inl f') := by
  show arrV cA n (fun j => .int (f j)) = arrV cA n (fun j => .int (f' j))
  unfold arrV
  congr 1
  first
    | (apply Array.ext
       · simp
       · intro i h1 h2
         simp at h1
         simp [h i h1])
    | (apply congrArg
       apply List.map_congr_left
       intro j hj
       rw [h j (List.mem_range.mp hj)])
theorem gW.arr {g : gC} {w w' : va_W} {H : Heap} {a t n : Nat} {f f' : Nat → Int32} (h : gW g w H) (q0 : Nat) (he : w[q0]? = some (a, .inl (g.2.1 t, n, .inl f))) (hf : ∀ j, j < n → f j = f' j) (hw : w.set q0 (a, .inl (g.2.1 t, n, .inl f')) = w') : gW g w' H := by
  subst hw
  refine ⟨fun k q hk => ?_, h.2.set he⟩
  rw [List.getElem?_set] at hk
  split at hk
  · next e =>
    split at hk
    · cases hk
      have h1 := h.1 q0 _ he
      show H[a]? = some (vp_cell _ _)
      rw [← arr_ext hf]
      exact h1
    · cases hk
  · exact h.1 k q hk

abbrev rm_J7_fill_53178_n : Room := ({ frames := 0, cells := 0, slots := 0, locals := 0 } : Room)
set_option maxRecDepth 100000 in
set_option maxHeartbeats 4000000 in
theorem c_J7_fill_53178_n (g : gC) (l : Launch) {a : Nat} {n : Nat} {z : Nat} {f : Nat → Nat} {R : va_W} (hn : n < 2 ^ 31) : cV g l yJ7_fill_53178 wsJ7_fill_53178 rm_J7_fill_53178_n 0 0 [.ref a, .int (nI z)] ((a, .inl (g.2.1 0, n, .inl (nA f))) :: R) (fun u => (a, .inl (g.2.1 0, n, .inl (nA (fun _ => z)))) :: R = u) := by
  refine gEnterQ (cc := cJ7_fill_53178) (maxL := 4) (ret := none) (by decide +kernel) rfl (Nat.le_of_ble_eq_true rfl) ?_
  intro p e s m below meth c F hG hW ls hl
  have hS : va_S (gA g) s.heap s.heap [] := va_S.rf
  have hl : lv_has ls 4 [(0, .ref a), (1, .int (nI z))] := hl
  have hW : gW g ((a, .inl (g.2.1 0, n, .inl (nA f))) :: R) s.heap := hW
  refine lv_iconst (v := nI 0) F.1 F.2.1 dJ7_fill_53178_0 rfl ?_
  refine lv_istore_n (lv' := [(2, .int (nI 0)), (0, .ref a), (1, .int (nI z))]) F.1 F.2.1 dJ7_fill_53178_1 rfl hl (by decide) rfl (fun ls hl => ?_)
  refine lv_aload_n F.1 F.2.1 dJ7_fill_53178_2 rfl (lv_at hl 1 rfl) ?_
  refine gAlen F hG hW 0 rfl rfl dJ7_fill_53178_3 ?_
  refine lv_istore_n (lv' := [(3, .int (nI n)), (2, .int (nI 0)), (0, .ref a), (1, .int (nI z))]) F.1 F.2.1 dJ7_fill_53178_4 rfl hl (by decide) rfl (fun ls hl => ?_)
  have L_5 : ∀ (fu : Nat), ∀ (i : Nat) (f : Nat → Nat) (hi : i ≤ n) (hf : ∀ j, j < i → f j = z) (hm_5 : n - i < fu) (H : Heap) (locs : List Loc) (ls : Array Slot) (hW : gW g ((a, .inl (g.2.1 0, n, .inl (nA f))) :: R) H) (hS : va_S (gA g) s.heap H locs) (hl : lv_has ls 4 [(0, .ref a), (1, .int (nI z)), (2, .int (nI i)), (3, .int (nI n))]), W p l e (headSpec wsJ7_fill_53178 rm_J7_fill_53178_n).room s m ([.ref a, .int (nI z)] : List Value).toArray below meth c H locs 0 0 (MQ below (va_Qv (fun u => (a, .inl (g.2.1 0, n, .inl (nA (fun _ => z)))) :: R = u) (fun u t => gW g u t.heap) (gA g)) ([.ref a, .int (nI z)] : List Value).toArray s 0 0 (gA g)) (F0 m 5 ls []) := by
    intro fu
    induction fu with
    | zero =>
      intros _ _ _ _ hm_5
      exact absurd hm_5 (Nat.not_lt_zero _)
    | succ fu ih_5 =>
      intro i f hi hf hm_5 H locs ls hW hS hl
      refine lv_iload_n F.1 F.2.1 dJ7_fill_53178_5 rfl (lv_at hl 2 rfl) ?_
      refine lv_iload_n F.1 F.2.1 dJ7_fill_53178_6 rfl (lv_at hl 3 rfl) ?_
      refine gGe (tgt := 20) F (by omega) (by omega) dJ7_fill_53178_7 (by decide) (fun c_7 => ?_) (fun c_7 => ?_)
      · have hW := gW.arr (f' := nA (fun _ => z)) hW 0 rfl (fun j hj => by rw [show nA f j = nI (f j) from rfl, hf j (by omega)]; rfl) rfl
        have hW : gW g ((a, .inl (g.2.1 0, n, .inl (nA (fun _ => z)))) :: R) _ := hW
        refine gRv F hW hS dJ7_fill_53178_20 ?_
        exact rfl
      · refine lv_aload_n F.1 F.2.1 dJ7_fill_53178_10 rfl (lv_at hl 0 rfl) ?_
        refine lv_iload_n F.1 F.2.1 dJ7_fill_53178_11 rfl (lv_at hl 2 rfl) ?_
        refine lv_iload_n F.1 F.2.1 dJ7_fill_53178_12 rfl (lv_at hl 1 rfl) ?_
        refine gStIN (w2 := (a, .inl (g.2.1 0, n, .inl (nA (updN f i z)))) :: R) F hG hW 0 rfl (by omega) (by omega) hS rfl dJ7_fill_53178_13 (fun H locs hW hS => ?_)
        refine lv_iinc (v := nI (i + 1)) (lv' := [(2, .int (nI (i + 1))), (0, .ref a), (1, .int (nI z)), (3, .int (nI n))]) F.1 F.2.1 dJ7_fill_53178_14 hl (k := 2) rfl (nI_add i 1) (by decide) rfl (fun ls hl => ?_)
        refine lv_goto (tgt := 5) F.1 F.2.1 dJ7_fill_53178_17 (by decide) ?_
        exact ih_5 (i + 1) (updN f i z) (by omega) (fun j hj => (Nat.lt_succ_iff_lt_or_eq.mp hj).elim (fun q => (updN_n (Nat.ne_of_lt q)).trans (hf j q)) (fun q => by rw [q]; exact updN_s _ _ _)) (by omega) _ _ _ hW hS (lv_sub hl [1, 2, 0, 3] rfl)
  exact L_5 _ 0 f (by omega) (fun j hj => absurd hj (Nat.not_lt_zero j)) (Nat.lt_succ_self _) _ _ _ hW hS (lv_sub hl [2, 3, 1, 0] rfl)

abbrev rm_J7_fill_53178 : Room := ({ frames := 0, cells := 0, slots := 0, locals := 0 } : Room)
set_option maxRecDepth 100000 in
set_option maxHeartbeats 4000000 in
theorem c_J7_fill_53178 (g : gC) (l : Launch) {a : Nat} {n : Nat} {f : Nat → Int32} {z : Int32} {R : va_W} (hn : n < 2 ^ 31) : cV g l yJ7_fill_53178 wsJ7_fill_53178 rm_J7_fill_53178 0 0 [.ref a, .int z] ((a, .inl (g.2.1 0, n, .inl f)) :: R) (fun u => (a, .inl (g.2.1 0, n, .inl (fun _ => z))) :: R = u) := by
  refine gEnterQ (cc := cJ7_fill_53178) (maxL := 4) (ret := none) (by decide +kernel) rfl (Nat.le_of_ble_eq_true rfl) ?_
  intro p e s m below meth c F hG hW ls hl
  have hS : va_S (gA g) s.heap s.heap [] := va_S.rf
  have hl : lv_has ls 4 [(0, .ref a), (1, .int z)] := hl
  have hW : gW g ((a, .inl (g.2.1 0, n, .inl f)) :: R) s.heap := hW
  refine lv_iconst (v := nI 0) F.1 F.2.1 dJ7_fill_53178_0 rfl ?_
  refine lv_istore_n (lv' := [(2, .int (nI 0)), (0, .ref a), (1, .int z)]) F.1 F.2.1 dJ7_fill_53178_1 rfl hl (by decide) rfl (fun ls hl => ?_)
  refine lv_aload_n F.1 F.2.1 dJ7_fill_53178_2 rfl (lv_at hl 1 rfl) ?_
  refine gAlen F hG hW 0 rfl rfl dJ7_fill_53178_3 ?_
  refine lv_istore_n (lv' := [(3, .int (nI n)), (2, .int (nI 0)), (0, .ref a), (1, .int z)]) F.1 F.2.1 dJ7_fill_53178_4 rfl hl (by decide) rfl (fun ls hl => ?_)
  have L_5 : ∀ (fu : Nat), ∀ (i : Nat) (f : Nat → Int32) (hi : i ≤ n) (hf : ∀ j, j < i → f j = z) (hm_5 : n - i < fu) (H : Heap) (locs : List Loc) (ls : Array Slot) (hW : gW g ((a, .inl (g.2.1 0, n, .inl f)) :: R) H) (hS : va_S (gA g) s.heap H locs) (hl : lv_has ls 4 [(0, .ref a), (1, .int z), (2, .int (nI i)), (3, .int (nI n))]), W p l e (headSpec wsJ7_fill_53178 rm_J7_fill_53178).room s m ([.ref a, .int z] : List Value).toArray below meth c H locs 0 0 (MQ below (va_Qv (fun u => (a, .inl (g.2.1 0, n, .inl (fun _ => z))) :: R = u) (fun u t => gW g u t.heap) (gA g)) ([.ref a, .int z] : List Value).toArray s 0 0 (gA g)) (F0 m 5 ls []) := by
    intro fu
    induction fu with
    | zero =>
      intros _ _ _ _ hm_5
      exact absurd hm_5 (Nat.not_lt_zero _)
    | succ fu ih_5 =>
      intro i f hi hf hm_5 H locs ls hW hS hl
      refine lv_iload_n F.1 F.2.1 dJ7_fill_53178_5 rfl (lv_at hl 2 rfl) ?_
      refine lv_iload_n F.1 F.2.1 dJ7_fill_53178_6 rfl (lv_at hl 3 rfl) ?_
      refine gGe (tgt := 20) F (by omega) (by omega) dJ7_fill_53178_7 (by decide) (fun c_7 => ?_) (fun c_7 => ?_)
      · have hW := gW.arr (f' := fun _ => z) hW 0 rfl (fun j hj => hf j (by omega)) rfl
        have hW : gW g ((a, .inl (g.2.1 0, n, .inl (fun _ => z))) :: R) _ := hW
        refine gRv F hW hS dJ7_fill_53178_20 ?_
        exact rfl
      · refine lv_aload_n F.1 F.2.1 dJ7_fill_53178_10 rfl (lv_at hl 0 rfl) ?_
        refine lv_iload_n F.1 F.2.1 dJ7_fill_53178_11 rfl (lv_at hl 2 rfl) ?_
        refine lv_iload_n F.1 F.2.1 dJ7_fill_53178_12 rfl (lv_at hl 1 rfl) ?_
        refine gStI (w2 := (a, .inl (g.2.1 0, n, .inl (upd f i z))) :: R) F hG hW 0 rfl (by omega) (by omega) hS rfl dJ7_fill_53178_13 (fun H locs hW hS => ?_)
        refine lv_iinc (v := nI (i + 1)) (lv' := [(2, .int (nI (i + 1))), (0, .ref a), (1, .int z), (3, .int (nI n))]) F.1 F.2.1 dJ7_fill_53178_14 hl (k := 2) rfl (nI_add i 1) (by decide) rfl (fun ls hl => ?_)
        refine lv_goto (tgt := 5) F.1 F.2.1 dJ7_fill_53178_17 (by decide) ?_
        exact ih_5 (i + 1) (upd f i z) (by omega) (fun j hj => (Nat.lt_succ_iff_lt_or_eq.mp hj).elim (fun q => (upd_n (Nat.ne_of_lt q)).trans (hf j q)) (fun q => by rw [q]; exact upd_s _ _ _)) (by omega) _ _ _ hW hS (lv_sub hl [1, 2, 0, 3] rfl)
  exact L_5 _ 0 f (by omega) (fun j hj => absurd hj (Nat.not_lt_zero j)) (Nat.lt_succ_self _) _ _ _ hW hS (lv_sub hl [2, 3, 1, 0] rfl)

abbrev rm_Jx29ce0_ordinal_8abf5 : Room := ({ frames := 0, cells := 0, slots := 0, locals := 0 } : Room)
theorem mJx29ce0_ordinal_8abf5_1 : Cond.fieldLink RJx29ce0 7 "java/lang/Enum" "ordinal" "I" ∈ wsJx29ce0_ordinal_8abf5 := List.mem_of_getElem? (i := 1) rfl
set_option maxRecDepth 100000 in
set_option maxHeartbeats 4000000 in
theorem c_Jx29ce0_ordinal_8abf5 (g : gC) (l : Launch) {i : Nat} {R : va_W} (hi : i < 15) : cI g l yJx29ce0_ordinal_8abf5 wsJx29ce0_ordinal_8abf5 rm_Jx29ce0_ordinal_8abf5 0 0 [.ref (g.2.2.2 i)] (R) (fun r u => (nI i) = r ∧ R = u) := by
  refine gEnterQ (cc := cJx29ce0_ordinal_8abf5) (maxL := 1) (ret := (some (.int))) (by decide +kernel) rfl (Nat.le_of_ble_eq_true rfl) ?_
  intro p e s m below meth c F hG hW ls hl
  have hS : va_S (gA g) s.heap s.heap [] := va_S.rf
  have hl : lv_has ls 1 [(0, .ref (g.2.2.2 i))] := hl
  have hW : gW g (R) s.heap := hW
  refine lv_aload_n F.1 F.2.1 dJx29ce0_ordinal_8abf5_0 rfl (lv_at hl 0 rfl) ?_
  refine gKordinal F hG hS (by omega) mJx29ce0_ordinal_8abf5_1 dJx29ce0_ordinal_8abf5_1 ?_
  refine gRi F hW hS dJx29ce0_ordinal_8abf5_4 ?_
  exact ⟨rfl, rfl⟩

abbrev rm_J0_coder_7d493 : Room := ({ frames := 0, cells := 0, slots := 0, locals := 0 } : Room)
theorem mJ0_coder_7d493_1 : Cond.fieldLink RJ0 38 "java/lang/String" "COMPACT_STRINGS" "Z" ∈ wsJ0_coder_7d493 := List.mem_of_getElem? (i := 1) rfl
theorem mJ0_coder_7d493_2 : Cond.fieldLink RJ0 15 "java/lang/String" "coder" "B" ∈ wsJ0_coder_7d493 := List.mem_of_getElem? (i := 2) rfl
set_option maxRecDepth 100000 in
set_option maxHeartbeats 4000000 in
theorem c_J0_coder_7d493 (g : gC) (l : Launch) {i : Nat} {R : va_W} (hi : i < 15) : cI g l yJ0_coder_7d493 wsJ0_coder_7d493 rm_J0_coder_7d493 0 0 [.ref (g.2.2.2 (20 + i))] (R) (fun r u => (nI 0) = r ∧ R = u) := by
  refine gEnterQ (cc := cJ0_coder_7d493) (maxL := 1) (ret := (some (.byte))) (by decide +kernel) rfl (Nat.le_of_ble_eq_true rfl) ?_
  intro p e s m below meth c F hG hW ls hl
  have hS : va_S (gA g) s.heap s.heap [] := va_S.rf
  have hl : lv_has ls 1 [(0, .ref (g.2.2.2 (20 + i)))] := hl
  have hW : gW g (R) s.heap := hW
  refine gsCompact F hG hS mJ0_coder_7d493_1 dJ0_coder_7d493_0 ?_
  refine gIfEq (tgt := 13) F (by decide) dJ0_coder_7d493_3 (by decide) (fun c_3 => by exfalso; omega) (fun c_3 => ?_)
  refine lv_aload_n F.1 F.2.1 dJ0_coder_7d493_6 rfl (lv_at hl 0 rfl) ?_
  refine gTcoder F hG hS (by omega) mJ0_coder_7d493_2 dJ0_coder_7d493_7 ?_
  refine lv_goto (tgt := 14) F.1 F.2.1 dJ0_coder_7d493_10 (by decide) ?_
  refine gRz rfl F hW hS dJ0_coder_7d493_14 ?_
  exact ⟨rfl, rfl⟩

abbrev rm_J0_isLatin1_aae02 : Room := ({ frames := 0, cells := 0, slots := 0, locals := 0 } : Room)
theorem mJ0_isLatin1_aae02_1 : Cond.fieldLink RJ0 38 "java/lang/String" "COMPACT_STRINGS" "Z" ∈ wsJ0_isLatin1_aae02 := List.mem_of_getElem? (i := 1) rfl
theorem mJ0_isLatin1_aae02_2 : Cond.fieldLink RJ0 15 "java/lang/String" "coder" "B" ∈ wsJ0_isLatin1_aae02 := List.mem_of_getElem? (i := 2) rfl
set_option maxRecDepth 100000 in
set_option maxHeartbeats 4000000 in
theorem c_J0_isLatin1_aae02 (g : gC) (l : Launch) {i : Nat} {R : va_W} (hi : i < 15) : cI g l yJ0_isLatin1_aae02 wsJ0_isLatin1_aae02 rm_J0_isLatin1_aae02 0 0 [.ref (g.2.2.2 (20 + i))] (R) (fun r u => (nI 1) = r ∧ R = u) := by
  refine gEnterQ (cc := cJ0_isLatin1_aae02) (maxL := 1) (ret := (some (.boolean))) (by decide +kernel) rfl (Nat.le_of_ble_eq_true rfl) ?_
  intro p e s m below meth c F hG hW ls hl
  have hS : va_S (gA g) s.heap s.heap [] := va_S.rf
  have hl : lv_has ls 1 [(0, .ref (g.2.2.2 (20 + i)))] := hl
  have hW : gW g (R) s.heap := hW
  refine gsCompact F hG hS mJ0_isLatin1_aae02_1 dJ0_isLatin1_aae02_0 ?_
  refine gIfEq (tgt := 17) F (by decide) dJ0_isLatin1_aae02_3 (by decide) (fun c_3 => by exfalso; omega) (fun c_3 => ?_)
  refine lv_aload_n F.1 F.2.1 dJ0_isLatin1_aae02_6 rfl (lv_at hl 0 rfl) ?_
  refine gTcoder F hG hS (by omega) mJ0_isLatin1_aae02_2 dJ0_isLatin1_aae02_7 ?_
  refine gIfNe (tgt := 17) F (by decide) dJ0_isLatin1_aae02_10 (by decide) (fun c_10 => by exfalso; omega) (fun c_10 => ?_)
  refine lv_iconst (v := nI 1) F.1 F.2.1 dJ0_isLatin1_aae02_13 rfl ?_
  refine lv_goto (tgt := 18) F.1 F.2.1 dJ0_isLatin1_aae02_14 (by decide) ?_
  refine gRz rfl F hW hS dJ0_isLatin1_aae02_18 ?_
  exact ⟨rfl, rfl⟩

abbrev rm_J0_length_8abf5 : Room := ({ frames := 1, cells := 0, slots := 0, locals := 20 } : Room)
theorem mJ0_length_8abf5_1 : Cond.fieldLink RJ0 9 "java/lang/String" "value" "[B" ∈ wsJ0_length_8abf5 := List.mem_of_getElem? (i := 1) rfl
set_option maxRecDepth 100000 in
set_option maxHeartbeats 4000000 in
theorem c_J0_length_8abf5 (g : gC) (l : Launch) {i : Nat} {R : va_W} (hi : i < 15) : cI g l yJ0_length_8abf5 wsJ0_length_8abf5 rm_J0_length_8abf5 0 0 [.ref (g.2.2.2 (20 + i))] (R) (fun r u => (nI (kL i)) = r ∧ R = u) := by
  refine gEnterQ (cc := cJ0_length_8abf5) (maxL := 1) (ret := (some (.int))) (by decide +kernel) rfl (Nat.le_of_ble_eq_true rfl) ?_
  intro p e s m below meth c F hG hW ls hl
  have hS : va_S (gA g) s.heap s.heap [] := va_S.rf
  have hl : lv_has ls 1 [(0, .ref (g.2.2.2 (20 + i)))] := hl
  have hW : gW g (R) s.heap := hW
  refine lv_aload_n F.1 F.2.1 dJ0_length_8abf5_0 rfl (lv_at hl 0 rfl) ?_
  refine gTvalue F hG hS (by omega) mJ0_length_8abf5_1 dJ0_length_8abf5_1 ?_
  refine gTlen F hG hS (by omega) dJ0_length_8abf5_4 ?_
  refine lv_aload_n F.1 F.2.1 dJ0_length_8abf5_5 rfl (lv_at hl 0 rfl) ?_
  refine gTi (n := 0) (As := []) F hG hS hW (c_J0_coder_7d493 g l  (by omega)) rfl gJ0_length_8abf5_J0_coder_7d493 rfl (by omega) (by decide +kernel) ⟨rfl, rfl, Nat.le_of_ble_eq_true rfl, Nat.le_of_ble_eq_true rfl⟩ hl.1 (Nat.le_of_ble_eq_true rfl) ⟨Nat.le_of_ble_eq_true rfl, Nat.le_of_ble_eq_true rfl⟩ rfl rfl dJ0_length_8abf5_6 (fun r u H locs hq hW hS => ?_)
  obtain ⟨rfl, rfl⟩ := hq
  have hW : gW g (R) _ := hW
  refine lv_ishr F.1 F.2.1 dJ0_length_8abf5_9 ?_
  refine gTop (shr0 _) ?_
  refine gRi F hW hS dJ0_length_8abf5_10 ?_
  exact ⟨rfl, rfl⟩

abbrev rm_J3_checkIndex_8e157_n : Room := ({ frames := 0, cells := 0, slots := 0, locals := 0 } : Room)
set_option maxRecDepth 100000 in
set_option maxHeartbeats 4000000 in
theorem c_J3_checkIndex_8e157_n (g : gC) (l : Launch) {j : Nat} {k : Nat} {R : va_W} (hj : j < k) (hk : k < 2 ^ 31) : cI g l yJ3_checkIndex_8e157 wsJ3_checkIndex_8e157 rm_J3_checkIndex_8e157_n 0 0 [.int (nI j), .int (nI k), .null] (R) (fun r u => (nI j) = r ∧ R = u) := by
  refine gEnterQ (cc := cJ3_checkIndex_8e157) (maxL := 3) (ret := (some (.int))) (by decide +kernel) rfl (Nat.le_of_ble_eq_true rfl) ?_
  intro p e s m below meth c F hG hW ls hl
  have hS : va_S (gA g) s.heap s.heap [] := va_S.rf
  have hl : lv_has ls 3 [(0, .int (nI j)), (1, .int (nI k)), (2, .null)] := hl
  have hW : gW g (R) s.heap := hW
  refine lv_iload_n F.1 F.2.1 dJ3_checkIndex_8e157_0 rfl (lv_at hl 0 rfl) ?_
  refine gIfLt (tgt := 9) F (by omega) dJ3_checkIndex_8e157_1 (by decide) (fun c_1 => by exfalso; omega) (fun c_1 => ?_)
  refine lv_iload_n F.1 F.2.1 dJ3_checkIndex_8e157_4 rfl (lv_at hl 0 rfl) ?_
  refine lv_iload_n F.1 F.2.1 dJ3_checkIndex_8e157_5 rfl (lv_at hl 1 rfl) ?_
  refine gLt (tgt := 16) F (by omega) (by omega) dJ3_checkIndex_8e157_6 (by decide) (fun c_6 => ?_) (fun c_6 => by exfalso; omega)
  refine lv_iload_n F.1 F.2.1 dJ3_checkIndex_8e157_16 rfl (lv_at hl 0 rfl) ?_
  refine gRi F hW hS dJ3_checkIndex_8e157_17 ?_
  exact ⟨rfl, rfl⟩

abbrev rm_J3_checkIndex_8e157 : Room := ({ frames := 0, cells := 0, slots := 0, locals := 0 } : Room)
set_option maxRecDepth 100000 in
set_option maxHeartbeats 4000000 in
theorem c_J3_checkIndex_8e157 (g : gC) (l : Launch) {j : Nat} {k : Nat} {t : Nat} {R : va_W} (hj : j < k) (hk : k < 2 ^ 31) : cI g l yJ3_checkIndex_8e157 wsJ3_checkIndex_8e157 rm_J3_checkIndex_8e157 0 0 [.int (nI j), .int (nI k), .ref t] (R) (fun r u => (nI j) = r ∧ R = u) := by
  refine gEnterQ (cc := cJ3_checkIndex_8e157) (maxL := 3) (ret := (some (.int))) (by decide +kernel) rfl (Nat.le_of_ble_eq_true rfl) ?_
  intro p e s m below meth c F hG hW ls hl
  have hS : va_S (gA g) s.heap s.heap [] := va_S.rf
  have hl : lv_has ls 3 [(0, .int (nI j)), (1, .int (nI k)), (2, .ref t)] := hl
  have hW : gW g (R) s.heap := hW
  refine lv_iload_n F.1 F.2.1 dJ3_checkIndex_8e157_0 rfl (lv_at hl 0 rfl) ?_
  refine gIfLt (tgt := 9) F (by omega) dJ3_checkIndex_8e157_1 (by decide) (fun c_1 => by exfalso; omega) (fun c_1 => ?_)
  refine lv_iload_n F.1 F.2.1 dJ3_checkIndex_8e157_4 rfl (lv_at hl 0 rfl) ?_
  refine lv_iload_n F.1 F.2.1 dJ3_checkIndex_8e157_5 rfl (lv_at hl 1 rfl) ?_
  refine gLt (tgt := 16) F (by omega) (by omega) dJ3_checkIndex_8e157_6 (by decide) (fun c_6 => ?_) (fun c_6 => by exfalso; omega)
  refine lv_iload_n F.1 F.2.1 dJ3_checkIndex_8e157_16 rfl (lv_at hl 0 rfl) ?_
  refine gRi F hW hS dJ3_checkIndex_8e157_17 ?_
  exact ⟨rfl, rfl⟩

abbrev rm_J0_checkIndex_df160 : Room := ({ frames := 1, cells := 0, slots := 0, locals := 22 } : Room)
theorem mJ0_checkIndex_df160_1 : Cond.fieldLink RJ0 1053 "jdk/internal/util/Preconditions" "SIOOBE_FORMATTER" "Ljava/util/function/BiFunction;" ∈ wsJ0_checkIndex_df160 := List.mem_of_getElem? (i := 1) rfl
set_option maxRecDepth 100000 in
set_option maxHeartbeats 4000000 in
theorem c_J0_checkIndex_df160 (g : gC) (l : Launch) {j : Nat} {k : Nat} {R : va_W} (hj : j < k) (hk : k < 2 ^ 31) : cV g l yJ0_checkIndex_df160 wsJ0_checkIndex_df160 rm_J0_checkIndex_df160 0 0 [.int (nI j), .int (nI k)] (R) (fun u => R = u) := by
  refine gEnterQ (cc := cJ0_checkIndex_df160) (maxL := 2) (ret := none) (by decide +kernel) rfl (Nat.le_of_ble_eq_true rfl) ?_
  intro p e s m below meth c F hG hW ls hl
  have hS : va_S (gA g) s.heap s.heap [] := va_S.rf
  have hl : lv_has ls 2 [(0, .int (nI j)), (1, .int (nI k))] := hl
  have hW : gW g (R) s.heap := hW
  rcases hG.2.2.1.2.2.2.2.2.2.2.2.2.2.2.2.2.2 with hZ | ⟨t, hZ⟩
  · refine lv_iload_n F.1 F.2.1 dJ0_checkIndex_df160_0 rfl (lv_at hl 0 rfl) ?_
    refine lv_iload_n F.1 F.2.1 dJ0_checkIndex_df160_1 rfl (lv_at hl 1 rfl) ?_
    refine va_gets F.1 F.2.1 hZ hS F.2.2.2.2.2.1 (F.2.2.2.2.1 _ mJ0_checkIndex_df160_1) (fun _ h => h) dJ0_checkIndex_df160_2 ?_
    refine gS_i (n := 3) (As := [.int (nI j), .int (nI k), .null]) F hG hS hW (c_J3_checkIndex_8e157_n g l  (by omega) (by omega)) rfl gJ0_checkIndex_df160_J3_checkIndex_8e157 (by decide +kernel) ⟨rfl, rfl, Nat.le_of_ble_eq_true rfl, Nat.le_of_ble_eq_true rfl⟩ hl.1 (Nat.le_of_ble_eq_true rfl) ⟨Nat.le_of_ble_eq_true rfl, Nat.le_of_ble_eq_true rfl⟩ rfl rfl dJ0_checkIndex_df160_5 (fun r u H locs hq hW hS => ?_)
    obtain ⟨rfl, rfl⟩ := hq
    have hW : gW g (R) _ := hW
    refine lv_pop F.1 F.2.1 dJ0_checkIndex_df160_8 rfl ?_
    refine gRv F hW hS dJ0_checkIndex_df160_9 ?_
    exact rfl
  · refine lv_iload_n F.1 F.2.1 dJ0_checkIndex_df160_0 rfl (lv_at hl 0 rfl) ?_
    refine lv_iload_n F.1 F.2.1 dJ0_checkIndex_df160_1 rfl (lv_at hl 1 rfl) ?_
    refine va_gets F.1 F.2.1 hZ hS F.2.2.2.2.2.1 (F.2.2.2.2.1 _ mJ0_checkIndex_df160_1) (fun _ h => h) dJ0_checkIndex_df160_2 ?_
    refine gS_i (n := 3) (As := [.int (nI j), .int (nI k), .ref t]) F hG hS hW (c_J3_checkIndex_8e157 g l  (by omega) (by omega)) rfl gJ0_checkIndex_df160_J3_checkIndex_8e157 (by decide +kernel) ⟨rfl, rfl, Nat.le_of_ble_eq_true rfl, Nat.le_of_ble_eq_true rfl⟩ hl.1 (Nat.le_of_ble_eq_true rfl) ⟨Nat.le_of_ble_eq_true rfl, Nat.le_of_ble_eq_true rfl⟩ rfl rfl dJ0_checkIndex_df160_5 (fun r u H locs hq hW hS => ?_)
    obtain ⟨rfl, rfl⟩ := hq
    have hW : gW g (R) _ := hW
    refine lv_pop F.1 F.2.1 dJ0_checkIndex_df160_8 rfl ?_
    refine gRv F hW hS dJ0_checkIndex_df160_9 ?_
    exact rfl

abbrev rm_J1_charAt_3b067 : Room := ({ frames := 2, cells := 0, slots := 0, locals := 43 } : Room)
set_option maxRecDepth 100000 in
set_option maxHeartbeats 4000000 in
theorem c_J1_charAt_3b067 (g : gC) (l : Launch) {i : Nat} {j : Nat} {R : va_W} (hi : i < 15) (hj : j < kL i) : cI g l yJ1_charAt_3b067 wsJ1_charAt_3b067 rm_J1_charAt_3b067 0 0 [.ref (g.2.2.2 (40 + i)), .int (nI j)] (R) (fun r u => (nI (kC i j)) = r ∧ R = u) := by
  refine gEnterQ (cc := cJ1_charAt_3b067) (maxL := 2) (ret := (some (.char))) (by decide +kernel) rfl (Nat.le_of_ble_eq_true rfl) ?_
  intro p e s m below meth c F hG hW ls hl
  have hS : va_S (gA g) s.heap s.heap [] := va_S.rf
  have hl : lv_has ls 2 [(0, .ref (g.2.2.2 (40 + i))), (1, .int (nI j))] := hl
  have hW : gW g (R) s.heap := hW
  refine lv_iload_n F.1 F.2.1 dJ1_charAt_3b067_0 rfl (lv_at hl 1 rfl) ?_
  refine lv_aload_n F.1 F.2.1 dJ1_charAt_3b067_1 rfl (lv_at hl 0 rfl) ?_
  refine gTlen F hG hS (by omega) dJ1_charAt_3b067_2 ?_
  refine gS_v (n := 2) (As := [.int (nI j), .int (nI (kL i))]) F hG hS hW (c_J0_checkIndex_df160 g l  (by omega) (by have := kL_lt i hi; omega)) rfl gJ1_charAt_3b067_J0_checkIndex_df160 (by decide +kernel) ⟨rfl, rfl, Nat.le_of_ble_eq_true rfl, Nat.le_of_ble_eq_true rfl⟩ hl.1 (Nat.le_of_ble_eq_true rfl) ⟨Nat.le_of_ble_eq_true rfl, Nat.le_of_ble_eq_true rfl⟩ rfl rfl dJ1_charAt_3b067_3 (fun u H locs hq hW hS => ?_)
  obtain rfl := hq
  have hW : gW g (R) _ := hW
  refine lv_aload_n F.1 F.2.1 dJ1_charAt_3b067_6 rfl (lv_at hl 0 rfl) ?_
  refine lv_iload_n F.1 F.2.1 dJ1_charAt_3b067_7 rfl (lv_at hl 1 rfl) ?_
  refine gTld F hG hS (by omega) hj dJ1_charAt_3b067_8 ?_
  refine lv_sipush (v := nI 255) F.1 F.2.1 dJ1_charAt_3b067_9 (by decide) ?_
  refine lv_iand F.1 F.2.1 dJ1_charAt_3b067_12 ?_
  refine lv_i2c (v := nI (kC i j)) F.1 F.2.1 dJ1_charAt_3b067_13 (kC_ch i hi j hj) ?_
  refine gRz (kC_nar i hi j hj) F hW hS dJ1_charAt_3b067_14 ?_
  exact ⟨rfl, rfl⟩

abbrev rm_J0_charAt_5068e : Room := ({ frames := 3, cells := 0, slots := 0, locals := 64 } : Room)
theorem mJ0_charAt_5068e_1 : Cond.fieldLink RJ0 9 "java/lang/String" "value" "[B" ∈ wsJ0_charAt_5068e := List.mem_of_getElem? (i := 1) rfl
set_option maxRecDepth 100000 in
set_option maxHeartbeats 4000000 in
theorem c_J0_charAt_5068e (g : gC) (l : Launch) {i : Nat} {j : Nat} {R : va_W} (hi : i < 15) (hj : j < kL i) : cI g l yJ0_charAt_5068e wsJ0_charAt_5068e rm_J0_charAt_5068e 0 0 [.ref (g.2.2.2 (20 + i)), .int (nI j)] (R) (fun r u => (nI (kC i j)) = r ∧ R = u) := by
  refine gEnterQ (cc := cJ0_charAt_5068e) (maxL := 2) (ret := (some (.char))) (by decide +kernel) rfl (Nat.le_of_ble_eq_true rfl) ?_
  intro p e s m below meth c F hG hW ls hl
  have hS : va_S (gA g) s.heap s.heap [] := va_S.rf
  have hl : lv_has ls 2 [(0, .ref (g.2.2.2 (20 + i))), (1, .int (nI j))] := hl
  have hW : gW g (R) s.heap := hW
  refine lv_aload_n F.1 F.2.1 dJ0_charAt_5068e_0 rfl (lv_at hl 0 rfl) ?_
  refine gTi (n := 0) (As := []) F hG hS hW (c_J0_isLatin1_aae02 g l  (by omega)) rfl gJ0_charAt_5068e_J0_isLatin1_aae02 rfl (by omega) (by decide +kernel) ⟨rfl, rfl, Nat.le_of_ble_eq_true rfl, Nat.le_of_ble_eq_true rfl⟩ hl.1 (Nat.le_of_ble_eq_true rfl) ⟨Nat.le_of_ble_eq_true rfl, Nat.le_of_ble_eq_true rfl⟩ rfl rfl dJ0_charAt_5068e_1 (fun r u H locs hq hW hS => ?_)
  obtain ⟨rfl, rfl⟩ := hq
  have hW : gW g (R) _ := hW
  refine gIfEq (tgt := 16) F (by decide) dJ0_charAt_5068e_4 (by decide) (fun c_4 => by exfalso; omega) (fun c_4 => ?_)
  refine lv_aload_n F.1 F.2.1 dJ0_charAt_5068e_7 rfl (lv_at hl 0 rfl) ?_
  refine gTvalue F hG hS (by omega) mJ0_charAt_5068e_1 dJ0_charAt_5068e_8 ?_
  refine lv_iload_n F.1 F.2.1 dJ0_charAt_5068e_11 rfl (lv_at hl 1 rfl) ?_
  refine gS_i (n := 2) (As := [.ref (g.2.2.2 (40 + i)), .int (nI j)]) F hG hS hW (c_J1_charAt_3b067 g l  (by omega) hj) rfl gJ0_charAt_5068e_J1_charAt_3b067 (by decide +kernel) ⟨rfl, rfl, Nat.le_of_ble_eq_true rfl, Nat.le_of_ble_eq_true rfl⟩ hl.1 (Nat.le_of_ble_eq_true rfl) ⟨Nat.le_of_ble_eq_true rfl, Nat.le_of_ble_eq_true rfl⟩ rfl rfl dJ0_charAt_5068e_12 (fun r u H locs hq hW hS => ?_)
  obtain ⟨rfl, rfl⟩ := hq
  have hW : gW g (R) _ := hW
  refine gRz (kC_nar i hi j hj) F hW hS dJ0_charAt_5068e_15 ?_
  exact ⟨rfl, rfl⟩

abbrev rm_X3_has : Room := ({ frames := 0, cells := 0, slots := 0, locals := 0 } : Room)
theorem mX3_has_1 : Cond.fieldLink RX3 9 "StepperHearts$Joins" "pairs" "[Z" ∈ wsX3_has := List.mem_of_getElem? (i := 1) rfl
theorem nX3_has_X3 : ∀ w ∈ wsX30, w ∈ wsX3_has := fun _ h => List.mem_cons_of_mem _ (List.mem_append_right _ (h))
set_option maxRecDepth 100000 in
set_option maxHeartbeats 4000000 in
theorem c_X3_has (g : gC) (l : Launch) {h : Nat} {a0 : Nat} {sz : Nat} {k : Nat} {P : Nat → Bool} {R : va_W} (hk : k < 225) : cI g l yX3_has wsX3_has rm_X3_has 0 0 [.ref h, .int (nI k)] ((h, .inr (1, [.ref a0, .int (nI sz)])) :: (a0, .inl (g.2.1 1, 225, .inl (bA P))) :: R) (fun r u => (bI (P k)) = r ∧ (h, .inr (1, [.ref a0, .int (nI sz)])) :: (a0, .inl (g.2.1 1, 225, .inl (bA P))) :: R = u) := by
  refine gEnterQ (cc := cX3_has) (maxL := 2) (ret := (some (.boolean))) (by decide +kernel) rfl (Nat.le_of_ble_eq_true rfl) ?_
  intro p e s m below meth c F hG hW ls hl
  have hS : va_S (gA g) s.heap s.heap [] := va_S.rf
  have hl : lv_has ls 2 [(0, .ref h), (1, .int (nI k))] := hl
  have hW : gW g ((h, .inr (1, [.ref a0, .int (nI sz)])) :: (a0, .inl (g.2.1 1, 225, .inl (bA P))) :: R) s.heap := hW
  refine lv_iload_n F.1 F.2.1 dX3_has_0 rfl (lv_at hl 1 rfl) ?_
  refine gIfLt (tgt := 24) F (by omega) dX3_has_1 (by decide) (fun c_1 => by exfalso; omega) (fun c_1 => ?_)
  refine lv_iload_n F.1 F.2.1 dX3_has_4 rfl (lv_at hl 1 rfl) ?_
  refine lv_sipush (v := nI 225) F.1 F.2.1 dX3_has_5 (by decide) ?_
  refine gGe (tgt := 24) F (by omega) (by omega) dX3_has_8 (by decide) (fun c_8 => by exfalso; omega) (fun c_8 => ?_)
  refine lv_aload_n F.1 F.2.1 dX3_has_11 rfl (lv_at hl 0 rfl) ?_
  refine gGet F hG hW nX3_has_X3 0 rfl rfl 0 (by decide) mX3_has_1 rfl dX3_has_12 ?_
  refine lv_iload_n F.1 F.2.1 dX3_has_15 rfl (lv_at hl 1 rfl) ?_
  refine gLdZ F hG hW 1 rfl (by omega) (by decide) dX3_has_16 ?_
  refine gTop (y := bI (P k)) rfl ?_
  refine gIfEqB (tgt := 24) F dX3_has_17 (by decide) (fun c_17 => ?_) (fun c_17 => ?_)
  · refine lv_iconst (v := nI 0) F.1 F.2.1 dX3_has_24 rfl ?_
    refine gRz rfl F hW hS dX3_has_25 ?_
    exact ⟨by rw [c_17]; rfl, rfl⟩
  · refine lv_iconst (v := nI 1) F.1 F.2.1 dX3_has_20 rfl ?_
    refine lv_goto (tgt := 25) F.1 F.2.1 dX3_has_21 (by decide) ?_
    refine gRz rfl F hW hS dX3_has_25 ?_
    exact ⟨by rw [c_17]; rfl, rfl⟩

abbrev rm_X3_add : Room := ({ frames := 0, cells := 0, slots := 0, locals := 0 } : Room)
theorem mX3_add_1 : Cond.fieldLink RX3 9 "StepperHearts$Joins" "pairs" "[Z" ∈ wsX3_add := List.mem_of_getElem? (i := 1) rfl
theorem nX3_add_X3 : ∀ w ∈ wsX30, w ∈ wsX3_add := fun _ h => List.mem_cons_of_mem _ (List.mem_append_right _ (h))
theorem mX3_add_2 : Cond.fieldLink RX3 15 "StepperHearts$Joins" "size" "I" ∈ wsX3_add := List.mem_of_getElem? (i := 2) rfl
set_option maxRecDepth 100000 in
set_option maxHeartbeats 4000000 in
theorem c_X3_add (g : gC) (l : Launch) {h : Nat} {a0 : Nat} {sz : Nat} {k : Nat} {P : Nat → Bool} {R : va_W} (hk : k < 225) (hP : P k = false) : cV g l yX3_add wsX3_add rm_X3_add 0 0 [.ref h, .int (nI k)] ((h, .inr (1, [.ref a0, .int (nI sz)])) :: (a0, .inl (g.2.1 1, 225, .inl (bA P))) :: R) (fun u => (h, .inr (1, [.ref a0, .int (nI (sz + 1))])) :: (a0, .inl (g.2.1 1, 225, .inl (bA (updB P k true)))) :: R = u) := by
  refine gEnterQ (cc := cX3_add) (maxL := 2) (ret := none) (by decide +kernel) rfl (Nat.le_of_ble_eq_true rfl) ?_
  intro p e s m below meth c F hG hW ls hl
  have hS : va_S (gA g) s.heap s.heap [] := va_S.rf
  have hl : lv_has ls 2 [(0, .ref h), (1, .int (nI k))] := hl
  have hW : gW g ((h, .inr (1, [.ref a0, .int (nI sz)])) :: (a0, .inl (g.2.1 1, 225, .inl (bA P))) :: R) s.heap := hW
  refine lv_iload_n F.1 F.2.1 dX3_add_0 rfl (lv_at hl 1 rfl) ?_
  refine gIfLt (tgt := 37) F (by omega) dX3_add_1 (by decide) (fun c_1 => by exfalso; omega) (fun c_1 => ?_)
  refine lv_iload_n F.1 F.2.1 dX3_add_4 rfl (lv_at hl 1 rfl) ?_
  refine lv_sipush (v := nI 225) F.1 F.2.1 dX3_add_5 (by decide) ?_
  refine gGe (tgt := 37) F (by omega) (by omega) dX3_add_8 (by decide) (fun c_8 => by exfalso; omega) (fun c_8 => ?_)
  refine lv_aload_n F.1 F.2.1 dX3_add_11 rfl (lv_at hl 0 rfl) ?_
  refine gGet F hG hW nX3_add_X3 0 rfl rfl 0 (by decide) mX3_add_1 rfl dX3_add_12 ?_
  refine lv_iload_n F.1 F.2.1 dX3_add_15 rfl (lv_at hl 1 rfl) ?_
  refine gLdZ F hG hW 1 rfl (by omega) (by decide) dX3_add_16 ?_
  refine gTop (y := bI (P k)) rfl ?_
  refine gIfNeB (tgt := 37) F dX3_add_17 (by decide) (fun q => by rw [hP] at q; cases q) (fun c_17 => ?_)
  refine lv_aload_n F.1 F.2.1 dX3_add_20 rfl (lv_at hl 0 rfl) ?_
  refine gGet F hG hW nX3_add_X3 0 rfl rfl 0 (by decide) mX3_add_1 rfl dX3_add_21 ?_
  refine lv_iload_n F.1 F.2.1 dX3_add_24 rfl (lv_at hl 1 rfl) ?_
  refine lv_iconst (v := nI 1) F.1 F.2.1 dX3_add_25 rfl ?_
  refine gTop (y := bI true) rfl ?_
  refine gStZB (w2 := (h, .inr (1, [.ref a0, .int (nI sz)])) :: (a0, .inl (g.2.1 1, 225, .inl (bA (updB P k true)))) :: R) F hG hW 1 rfl (by omega) (by decide) hS rfl dX3_add_26 (fun H locs hW hS => ?_)
  refine lv_aload_n F.1 F.2.1 dX3_add_27 rfl (lv_at hl 0 rfl) ?_
  refine lv_dup F.1 F.2.1 dX3_add_28 rfl ?_
  refine gGet F hG hW nX3_add_X3 0 rfl rfl 1 (by decide) mX3_add_2 rfl dX3_add_29 ?_
  refine lv_iconst (v := nI 1) F.1 F.2.1 dX3_add_32 rfl ?_
  refine gAdd F dX3_add_33 ?_
  refine gPut (w2 := (h, .inr (1, [.ref a0, .int (nI (sz + 1))])) :: (a0, .inl (g.2.1 1, 225, .inl (bA (updB P k true)))) :: R) F hS hG hW nX3_add_X3 0 rfl rfl 1 (by decide) tyX3 tyX3_ok nmX3 mX3_add_2 rfl rfl rfl rfl (Nat.le_of_ble_eq_true rfl) rfl dX3_add_34 (fun H locs hW hS => ?_)
  refine gRv F hW hS dX3_add_37 ?_
  rfl

abbrev rm_X3_clear : Room := ({ frames := 0, cells := 0, slots := 0, locals := 0 } : Room)
theorem mX3_clear_2 : Cond.fieldLink RX3 15 "StepperHearts$Joins" "size" "I" ∈ wsX3_clear := List.mem_of_getElem? (i := 2) rfl
theorem nX3_clear_X3 : ∀ w ∈ wsX30, w ∈ wsX3_clear := fun _ h => List.mem_cons_of_mem _ (List.mem_append_right _ (h))
theorem mX3_clear_1 : Cond.fieldLink RX3 9 "StepperHearts$Joins" "pairs" "[Z" ∈ wsX3_clear := List.mem_of_getElem? (i := 1) rfl
set_option maxRecDepth 100000 in
set_option maxHeartbeats 4000000 in
theorem c_X3_clear (g : gC) (l : Launch) {h : Nat} {a0 : Nat} {sz : Nat} {P : Nat → Bool} {R : va_W} : cV g l yX3_clear wsX3_clear rm_X3_clear 0 0 [.ref h] ((h, .inr (1, [.ref a0, .int (nI sz)])) :: (a0, .inl (g.2.1 1, 225, .inl (bA P))) :: R) (fun u => (h, .inr (1, [.ref a0, .int (nI 0)])) :: (a0, .inl (g.2.1 1, 225, .inl (bA (fun _ => false)))) :: R = u) := by
  refine gEnterQ (cc := cX3_clear) (maxL := 2) (ret := none) (by decide +kernel) rfl (Nat.le_of_ble_eq_true rfl) ?_
  intro p e s m below meth c F hG hW ls hl
  have hS : va_S (gA g) s.heap s.heap [] := va_S.rf
  have hl : lv_has ls 2 [(0, .ref h)] := hl
  have hW : gW g ((h, .inr (1, [.ref a0, .int (nI sz)])) :: (a0, .inl (g.2.1 1, 225, .inl (bA P))) :: R) s.heap := hW
  refine lv_iconst (v := nI 0) F.1 F.2.1 dX3_clear_0 rfl ?_
  refine lv_istore_n (lv' := [(1, .int (nI 0)), (0, .ref h)]) F.1 F.2.1 dX3_clear_1 rfl hl (by decide) rfl (fun ls hl => ?_)
  have L_2 : ∀ (fu : Nat), ∀ (i : Nat) (P : Nat → Bool) (hi : i ≤ 225) (hf : ∀ j, j < i → P j = false) (hm_2 : 225 - i < fu) (H : Heap) (locs : List Loc) (ls : Array Slot) (hW : gW g ((h, .inr (1, [.ref a0, .int (nI sz)])) :: (a0, .inl (g.2.1 1, 225, .inl (bA P))) :: R) H) (hS : va_S (gA g) s.heap H locs) (hl : lv_has ls 2 [(0, .ref h), (1, .int (nI i))]), W p l e (headSpec wsX3_clear rm_X3_clear).room s m ([.ref h] : List Value).toArray below meth c H locs 0 0 (MQ below (va_Qv (fun u => (h, .inr (1, [.ref a0, .int (nI 0)])) :: (a0, .inl (g.2.1 1, 225, .inl (bA (fun _ => false)))) :: R = u) (fun u t => gW g u t.heap) (gA g)) ([.ref h] : List Value).toArray s 0 0 (gA g)) (F0 m 2 ls []) := by
    intro fu
    induction fu with
    | zero =>
      intros _ _ _ _ hm_2
      exact absurd hm_2 (Nat.not_lt_zero _)
    | succ fu ih_2 =>
      intro i P hi hf hm_2 H locs ls hW hS hl
      refine lv_iload_n F.1 F.2.1 dX3_clear_2 rfl (lv_at hl 1 rfl) ?_
      refine lv_sipush (v := nI 225) F.1 F.2.1 dX3_clear_3 (by decide) ?_
      refine gGe (tgt := 22) F (by omega) (by omega) dX3_clear_6 (by decide) (fun c_6 => ?_) (fun c_6 => ?_)
      · have hW := gW.arr (f' := bA (fun _ => false)) hW 1 rfl (fun j hj => by rw [show bA P j = bI (P j) from rfl, hf j (by omega)]; rfl) rfl
        have hW : gW g ((h, .inr (1, [.ref a0, .int (nI sz)])) :: (a0, .inl (g.2.1 1, 225, .inl (bA (fun _ => false)))) :: R) _ := hW
        refine lv_aload_n F.1 F.2.1 dX3_clear_22 rfl (lv_at hl 0 rfl) ?_
        refine lv_iconst (v := nI 0) F.1 F.2.1 dX3_clear_23 rfl ?_
        refine gPut (w2 := (h, .inr (1, [.ref a0, .int (nI 0)])) :: (a0, .inl (g.2.1 1, 225, .inl (bA (fun _ => false)))) :: R) F hS hG hW nX3_clear_X3 0 rfl rfl 1 (by decide) tyX3 tyX3_ok nmX3 mX3_clear_2 rfl rfl rfl rfl (Nat.le_of_ble_eq_true rfl) rfl dX3_clear_24 (fun H locs hW hS => ?_)
        refine gRv F hW hS dX3_clear_27 ?_
        rfl
      · refine lv_aload_n F.1 F.2.1 dX3_clear_9 rfl (lv_at hl 0 rfl) ?_
        refine gGet F hG hW nX3_clear_X3 0 rfl rfl 0 (by decide) mX3_clear_1 rfl dX3_clear_10 ?_
        refine lv_iload_n F.1 F.2.1 dX3_clear_13 rfl (lv_at hl 1 rfl) ?_
        refine lv_iconst (v := nI 0) F.1 F.2.1 dX3_clear_14 rfl ?_
        refine gTop (y := bI false) rfl ?_
        refine gStZB (w2 := (h, .inr (1, [.ref a0, .int (nI sz)])) :: (a0, .inl (g.2.1 1, 225, .inl (bA (updB P i false)))) :: R) F hG hW 1 rfl (by omega) (by decide) hS rfl dX3_clear_15 (fun H locs hW hS => ?_)
        refine lv_iinc (v := nI (i + 1)) (lv' := [(1, .int (nI (i + 1))), (0, .ref h)]) F.1 F.2.1 dX3_clear_16 hl (k := 1) rfl (nI_add i 1) (by decide) rfl (fun ls hl => ?_)
        refine lv_goto (tgt := 2) F.1 F.2.1 dX3_clear_19 (by decide) ?_
        exact ih_2 (i + 1) (updB P i false) (by omega) (fun j hj => (Nat.lt_succ_iff_lt_or_eq.mp hj).elim (fun q => (updB_n (Nat.ne_of_lt q)).trans (hf j q)) (fun q => by rw [q]; exact updB_s _ _ _)) (by omega) _ _ _ hW hS (lv_sub hl [1, 0] rfl)
  exact L_2 _ 0 P (by omega) (fun j hj => absurd hj (Nat.not_lt_zero j)) (Nat.lt_succ_self _) _ _ _ hW hS (lv_sub hl [1, 0] rfl)

abbrev rm_X8_clear : Room := ({ frames := 0, cells := 0, slots := 0, locals := 0 } : Room)
theorem mX8_clear_1 : Cond.fieldLink RX8 22 "StepperHearts$Program" "size" "I" ∈ wsX8_clear := List.mem_of_getElem? (i := 1) rfl
theorem nX8_clear_X8 : ∀ w ∈ wsX80, w ∈ wsX8_clear := fun _ h => List.mem_cons_of_mem _ (List.mem_append_right _ (h))
set_option maxRecDepth 100000 in
set_option maxHeartbeats 4000000 in
theorem c_X8_clear (g : gC) (l : Launch) {hp : Nat} {pk : Nat} {po : Nat} {pm : Nat} {n : Nat} {R : va_W} : cV g l yX8_clear wsX8_clear rm_X8_clear 0 0 [.ref hp] ((hp, .inr (5, [.ref pk, .ref po, .ref pm, .int (nI n)])) :: R) (fun u => (hp, .inr (5, [.ref pk, .ref po, .ref pm, .int (nI 0)])) :: R = u) := by
  refine gEnterQ (cc := cX8_clear) (maxL := 1) (ret := none) (by decide +kernel) rfl (Nat.le_of_ble_eq_true rfl) ?_
  intro p e s m below meth c F hG hW ls hl
  have hS : va_S (gA g) s.heap s.heap [] := va_S.rf
  have hl : lv_has ls 1 [(0, .ref hp)] := hl
  have hW : gW g ((hp, .inr (5, [.ref pk, .ref po, .ref pm, .int (nI n)])) :: R) s.heap := hW
  refine lv_aload_n F.1 F.2.1 dX8_clear_0 rfl (lv_at hl 0 rfl) ?_
  refine lv_iconst (v := nI 0) F.1 F.2.1 dX8_clear_1 rfl ?_
  refine gPut (w2 := (hp, .inr (5, [.ref pk, .ref po, .ref pm, .int (nI 0)])) :: R) F hS hG hW nX8_clear_X8 0 rfl rfl 3 (by decide) tyX8 tyX8_ok nmX8 mX8_clear_1 rfl rfl rfl rfl (Nat.le_of_ble_eq_true rfl) rfl dX8_clear_2 (fun H locs hW hS => ?_)
  refine gRv F hW hS dX8_clear_5 ?_
  rfl

abbrev rm_X8_has : Room := ({ frames := 0, cells := 0, slots := 0, locals := 0 } : Room)
theorem mX8_has_1 : Cond.fieldLink RX8 22 "StepperHearts$Program" "size" "I" ∈ wsX8_has := List.mem_of_getElem? (i := 1) rfl
theorem nX8_has_X8 : ∀ w ∈ wsX80, w ∈ wsX8_has := fun _ h => List.mem_cons_of_mem _ (List.mem_append_right _ (h))
set_option maxRecDepth 100000 in
set_option maxHeartbeats 4000000 in
theorem c_X8_has (g : gC) (l : Launch) {hp : Nat} {pk : Nat} {po : Nat} {pm : Nat} {n : Nat} {k : Nat} {R : va_W} (hk : k < 2 ^ 31) (hn : n ≤ 100) : cI g l yX8_has wsX8_has rm_X8_has 0 0 [.ref hp, .int (nI k)] ((hp, .inr (5, [.ref pk, .ref po, .ref pm, .int (nI n)])) :: R) (fun r u => (bI (decide (k < n))) = r ∧ (hp, .inr (5, [.ref pk, .ref po, .ref pm, .int (nI n)])) :: R = u) := by
  refine gEnterQ (cc := cX8_has) (maxL := 2) (ret := (some (.boolean))) (by decide +kernel) rfl (Nat.le_of_ble_eq_true rfl) ?_
  intro p e s m below meth c F hG hW ls hl
  have hS : va_S (gA g) s.heap s.heap [] := va_S.rf
  have hl : lv_has ls 2 [(0, .ref hp), (1, .int (nI k))] := hl
  have hW : gW g ((hp, .inr (5, [.ref pk, .ref po, .ref pm, .int (nI n)])) :: R) s.heap := hW
  refine lv_iload_n F.1 F.2.1 dX8_has_0 rfl (lv_at hl 1 rfl) ?_
  refine gIfLt (tgt := 22) F (by omega) dX8_has_1 (by decide) (fun c_1 => by exfalso; omega) (fun c_1 => ?_)
  refine lv_iload_n F.1 F.2.1 dX8_has_4 rfl (lv_at hl 1 rfl) ?_
  refine lv_aload_n F.1 F.2.1 dX8_has_5 rfl (lv_at hl 0 rfl) ?_
  refine gGet F hG hW nX8_has_X8 0 rfl rfl 3 (by decide) mX8_has_1 rfl dX8_has_6 ?_
  refine gGe (tgt := 22) F (by omega) (by omega) dX8_has_9 (by decide) (fun c_9 => ?_) (fun c_9 => ?_)
  · refine lv_iconst (v := nI 0) F.1 F.2.1 dX8_has_22 rfl ?_
    refine gRz rfl F hW hS dX8_has_23 ?_
    exact ⟨by rw [decide_eq_false (Nat.not_lt.mpr c_9)]; rfl, rfl⟩
  · refine lv_iload_n F.1 F.2.1 dX8_has_12 rfl (lv_at hl 1 rfl) ?_
    refine lv_bipush (v := nI 100) F.1 F.2.1 dX8_has_13 (by decide) ?_
    refine gGe (tgt := 22) F (by omega) (by omega) dX8_has_15 (by decide) (fun c_15 => by exfalso; omega) (fun c_15 => ?_)
    refine lv_iconst (v := nI 1) F.1 F.2.1 dX8_has_18 rfl ?_
    refine lv_goto (tgt := 23) F.1 F.2.1 dX8_has_19 (by decide) ?_
    refine gRz rfl F hW hS dX8_has_23 ?_
    exact ⟨by rw [decide_eq_true c_9]; rfl, rfl⟩

abbrev rm_X8_kindAt : Room := ({ frames := 1, cells := 0, slots := 0, locals := 21 } : Room)
theorem mX8_kindAt_1 : Cond.fieldLink RX8 9 "StepperHearts$Program" "kinds" "[I" ∈ wsX8_kindAt := List.mem_of_getElem? (i := 1) rfl
theorem nX8_kindAt_X8 : ∀ w ∈ wsX80, w ∈ wsX8_kindAt := fun _ h => List.mem_cons_of_mem _ (List.mem_append_right _ (h))
theorem fX8_kindAt_30 : (yX8_kindAt.cls, 30, "StepperHearts", "KINDS", "[LStepperHearts$Kind;", "StepperHearts") ∈ gNF := List.mem_of_getElem? (i := 21) rfl
set_option maxRecDepth 100000 in
set_option maxHeartbeats 4000000 in
theorem c_X8_kindAt (g : gC) (l : Launch) {hp : Nat} {pk : Nat} {po : Nat} {pm : Nat} {n : Nat} {kd : Nat → Nat} {k : Nat} {R : va_W} (hn : n ≤ 100) (hk : k < n) (hK : kd k < 15) : cR g l yX8_kindAt wsX8_kindAt rm_X8_kindAt 0 0 [.ref hp, .int (nI k)] ((hp, .inr (5, [.ref pk, .ref po, .ref pm, .int (nI n)])) :: (pk, .inl (g.2.1 0, 100, .inl (nA kd))) :: R) (fun r u => (g.2.2.2 (kd k)) = r ∧ (hp, .inr (5, [.ref pk, .ref po, .ref pm, .int (nI n)])) :: (pk, .inl (g.2.1 0, 100, .inl (nA kd))) :: R = u) := by
  refine gEnterQ (cc := cX8_kindAt) (maxL := 3) (ret := (some ((.object "StepperHearts$Kind")))) (by decide +kernel) rfl (Nat.le_of_ble_eq_true rfl) ?_
  intro p e s m below meth c F hG hW ls hl
  have hS : va_S (gA g) s.heap s.heap [] := va_S.rf
  have hl : lv_has ls 3 [(0, .ref hp), (1, .int (nI k))] := hl
  have hW : gW g ((hp, .inr (5, [.ref pk, .ref po, .ref pm, .int (nI n)])) :: (pk, .inl (g.2.1 0, 100, .inl (nA kd))) :: R) s.heap := hW
  refine lv_aload_n F.1 F.2.1 dX8_kindAt_0 rfl (lv_at hl 0 rfl) ?_
  refine lv_iload_n F.1 F.2.1 dX8_kindAt_1 rfl (lv_at hl 1 rfl) ?_
  refine gVi (n := 1) (q := (RX8, TX8, 4)) (q0 := 0) (As := [.int (nI k)]) F hG hS hW (c_X8_has g l  (by omega) (by omega)) rfl gX8_kindAt_X8_has rfl rfl rfl (by decide +kernel) ⟨rfl, rfl, Nat.le_of_ble_eq_true rfl, Nat.le_of_ble_eq_true rfl⟩ hl.1 (Nat.le_of_ble_eq_true rfl) ⟨Nat.le_of_ble_eq_true rfl, Nat.le_of_ble_eq_true rfl⟩ rfl rfl dX8_kindAt_2 (fun r u H locs hq hW hS => ?_)
  obtain ⟨rfl, rfl⟩ := hq
  have hW : gW g ((hp, .inr (5, [.ref pk, .ref po, .ref pm, .int (nI n)])) :: (pk, .inl (g.2.1 0, 100, .inl (nA kd))) :: R) _ := hW
  refine gIfEqB (tgt := 17) F dX8_kindAt_5 (by decide) (fun q => by rw [decide_eq_true hk] at q; cases q) (fun c_5 => ?_)
  refine lv_aload_n F.1 F.2.1 dX8_kindAt_8 rfl (lv_at hl 0 rfl) ?_
  refine gGet F hG hW nX8_kindAt_X8 0 rfl rfl 0 (by decide) mX8_kindAt_1 rfl dX8_kindAt_9 ?_
  refine lv_iload_n F.1 F.2.1 dX8_kindAt_12 rfl (lv_at hl 1 rfl) ?_
  refine gLdI F hG hW 1 rfl (by omega) (by decide) dX8_kindAt_13 ?_
  refine gTop (y := nI (kd k)) rfl ?_
  refine lv_goto (tgt := 18) F.1 F.2.1 dX8_kindAt_14 (by decide) ?_
  refine lv_istore_n (lv' := [(2, .int (nI (kd k))), (0, .ref hp), (1, .int (nI k))]) F.1 F.2.1 dX8_kindAt_18 rfl hl (by decide) rfl (fun ls hl => ?_)
  refine lv_iload_n F.1 F.2.1 dX8_kindAt_19 rfl (lv_at hl 0 rfl) ?_
  refine gIfLt (tgt := 39) F (by omega) dX8_kindAt_20 (by decide) (fun c_20 => by exfalso; omega) (fun c_20 => ?_)
  refine lv_iload_n F.1 F.2.1 dX8_kindAt_23 rfl (lv_at hl 0 rfl) ?_
  refine gsKindsN F hG hS fX8_kindAt_30 dX8_kindAt_24 ?_
  refine gLenKinds F hG hS dX8_kindAt_27 ?_
  refine gGe (tgt := 39) F (by omega) (by omega) dX8_kindAt_28 (by decide) (fun c_28 => by exfalso; omega) (fun c_28 => ?_)
  refine gsKindsN F hG hS fX8_kindAt_30 dX8_kindAt_31 ?_
  refine lv_iload_n F.1 F.2.1 dX8_kindAt_34 rfl (lv_at hl 0 rfl) ?_
  refine gLdKind F hG hS (by omega) dX8_kindAt_35 ?_
  refine lv_goto (tgt := 42) F.1 F.2.1 dX8_kindAt_36 (by decide) ?_
  refine gRr (Q := (fun r u => (g.2.2.2 (kd k)) = r ∧ (hp, .inr (5, [.ref pk, .ref po, .ref pm, .int (nI n)])) :: (pk, .inl (g.2.1 0, 100, .inl (nA kd))) :: R = u)) (Or.inl ⟨_, rfl⟩) F hW hS dX8_kindAt_42 ?_
  exact ⟨rfl, rfl⟩

abbrev rm_X8_operandAt : Room := ({ frames := 1, cells := 0, slots := 0, locals := 21 } : Room)
theorem mX8_operandAt_1 : Cond.fieldLink RX8 15 "StepperHearts$Program" "operands" "[I" ∈ wsX8_operandAt := List.mem_of_getElem? (i := 1) rfl
theorem nX8_operandAt_X8 : ∀ w ∈ wsX80, w ∈ wsX8_operandAt := fun _ h => List.mem_cons_of_mem _ (List.mem_append_right _ (h))
set_option maxRecDepth 100000 in
set_option maxHeartbeats 4000000 in
theorem c_X8_operandAt (g : gC) (l : Launch) {hp : Nat} {pk : Nat} {po : Nat} {pm : Nat} {n : Nat} {vl : Nat → Nat} {k : Nat} {R : va_W} (hn : n ≤ 100) (hk : k < n) : cI g l yX8_operandAt wsX8_operandAt rm_X8_operandAt 0 0 [.ref hp, .int (nI k)] ((hp, .inr (5, [.ref pk, .ref po, .ref pm, .int (nI n)])) :: (po, .inl (g.2.1 0, 100, .inl (nA vl))) :: R) (fun r u => (nI (vl k)) = r ∧ (hp, .inr (5, [.ref pk, .ref po, .ref pm, .int (nI n)])) :: (po, .inl (g.2.1 0, 100, .inl (nA vl))) :: R = u) := by
  refine gEnterQ (cc := cX8_operandAt) (maxL := 2) (ret := (some (.int))) (by decide +kernel) rfl (Nat.le_of_ble_eq_true rfl) ?_
  intro p e s m below meth c F hG hW ls hl
  have hS : va_S (gA g) s.heap s.heap [] := va_S.rf
  have hl : lv_has ls 2 [(0, .ref hp), (1, .int (nI k))] := hl
  have hW : gW g ((hp, .inr (5, [.ref pk, .ref po, .ref pm, .int (nI n)])) :: (po, .inl (g.2.1 0, 100, .inl (nA vl))) :: R) s.heap := hW
  refine lv_aload_n F.1 F.2.1 dX8_operandAt_0 rfl (lv_at hl 0 rfl) ?_
  refine lv_iload_n F.1 F.2.1 dX8_operandAt_1 rfl (lv_at hl 1 rfl) ?_
  refine gVi (n := 1) (q := (RX8, TX8, 4)) (q0 := 0) (As := [.int (nI k)]) F hG hS hW (c_X8_has g l  (by omega) (by omega)) rfl gX8_operandAt_X8_has rfl rfl rfl (by decide +kernel) ⟨rfl, rfl, Nat.le_of_ble_eq_true rfl, Nat.le_of_ble_eq_true rfl⟩ hl.1 (Nat.le_of_ble_eq_true rfl) ⟨Nat.le_of_ble_eq_true rfl, Nat.le_of_ble_eq_true rfl⟩ rfl rfl dX8_operandAt_2 (fun r u H locs hq hW hS => ?_)
  obtain ⟨rfl, rfl⟩ := hq
  have hW : gW g ((hp, .inr (5, [.ref pk, .ref po, .ref pm, .int (nI n)])) :: (po, .inl (g.2.1 0, 100, .inl (nA vl))) :: R) _ := hW
  refine gIfEqB (tgt := 17) F dX8_operandAt_5 (by decide) (fun q => by rw [decide_eq_true hk] at q; cases q) (fun c_5 => ?_)
  refine lv_aload_n F.1 F.2.1 dX8_operandAt_8 rfl (lv_at hl 0 rfl) ?_
  refine gGet F hG hW nX8_operandAt_X8 0 rfl rfl 1 (by decide) mX8_operandAt_1 rfl dX8_operandAt_9 ?_
  refine lv_iload_n F.1 F.2.1 dX8_operandAt_12 rfl (lv_at hl 1 rfl) ?_
  refine gLdI F hG hW 1 rfl (by omega) (by decide) dX8_operandAt_13 ?_
  refine gTop (y := nI (vl k)) rfl ?_
  refine lv_goto (tgt := 18) F.1 F.2.1 dX8_operandAt_14 (by decide) ?_
  refine gRi F hW hS dX8_operandAt_18 ?_
  exact ⟨rfl, rfl⟩

abbrev rm_X8_isMarked : Room := ({ frames := 1, cells := 0, slots := 0, locals := 21 } : Room)
theorem mX8_isMarked_1 : Cond.fieldLink RX8 18 "StepperHearts$Program" "marks" "[Z" ∈ wsX8_isMarked := List.mem_of_getElem? (i := 1) rfl
theorem nX8_isMarked_X8 : ∀ w ∈ wsX80, w ∈ wsX8_isMarked := fun _ h => List.mem_cons_of_mem _ (List.mem_append_right _ (h))
set_option maxRecDepth 100000 in
set_option maxHeartbeats 4000000 in
theorem c_X8_isMarked (g : gC) (l : Launch) {hp : Nat} {pk : Nat} {po : Nat} {pm : Nat} {n : Nat} {mk : Nat → Bool} {k : Nat} {R : va_W} (hn : n ≤ 100) (hk : k < n) : cI g l yX8_isMarked wsX8_isMarked rm_X8_isMarked 0 0 [.ref hp, .int (nI k)] ((hp, .inr (5, [.ref pk, .ref po, .ref pm, .int (nI n)])) :: (pm, .inl (g.2.1 1, 100, .inl (bA mk))) :: R) (fun r u => (bI (mk k)) = r ∧ (hp, .inr (5, [.ref pk, .ref po, .ref pm, .int (nI n)])) :: (pm, .inl (g.2.1 1, 100, .inl (bA mk))) :: R = u) := by
  refine gEnterQ (cc := cX8_isMarked) (maxL := 2) (ret := (some (.boolean))) (by decide +kernel) rfl (Nat.le_of_ble_eq_true rfl) ?_
  intro p e s m below meth c F hG hW ls hl
  have hS : va_S (gA g) s.heap s.heap [] := va_S.rf
  have hl : lv_has ls 2 [(0, .ref hp), (1, .int (nI k))] := hl
  have hW : gW g ((hp, .inr (5, [.ref pk, .ref po, .ref pm, .int (nI n)])) :: (pm, .inl (g.2.1 1, 100, .inl (bA mk))) :: R) s.heap := hW
  refine lv_aload_n F.1 F.2.1 dX8_isMarked_0 rfl (lv_at hl 0 rfl) ?_
  refine lv_iload_n F.1 F.2.1 dX8_isMarked_1 rfl (lv_at hl 1 rfl) ?_
  refine gVi (n := 1) (q := (RX8, TX8, 4)) (q0 := 0) (As := [.int (nI k)]) F hG hS hW (c_X8_has g l  (by omega) (by omega)) rfl gX8_isMarked_X8_has rfl rfl rfl (by decide +kernel) ⟨rfl, rfl, Nat.le_of_ble_eq_true rfl, Nat.le_of_ble_eq_true rfl⟩ hl.1 (Nat.le_of_ble_eq_true rfl) ⟨Nat.le_of_ble_eq_true rfl, Nat.le_of_ble_eq_true rfl⟩ rfl rfl dX8_isMarked_2 (fun r u H locs hq hW hS => ?_)
  obtain ⟨rfl, rfl⟩ := hq
  have hW : gW g ((hp, .inr (5, [.ref pk, .ref po, .ref pm, .int (nI n)])) :: (pm, .inl (g.2.1 1, 100, .inl (bA mk))) :: R) _ := hW
  refine gIfEqB (tgt := 21) F dX8_isMarked_5 (by decide) (fun q => by rw [decide_eq_true hk] at q; cases q) (fun c_5 => ?_)
  refine lv_aload_n F.1 F.2.1 dX8_isMarked_8 rfl (lv_at hl 0 rfl) ?_
  refine gGet F hG hW nX8_isMarked_X8 0 rfl rfl 2 (by decide) mX8_isMarked_1 rfl dX8_isMarked_9 ?_
  refine lv_iload_n F.1 F.2.1 dX8_isMarked_12 rfl (lv_at hl 1 rfl) ?_
  refine gLdZ F hG hW 1 rfl (by omega) (by decide) dX8_isMarked_13 ?_
  refine gTop (y := bI (mk k)) rfl ?_
  refine gIfEqB (tgt := 21) F dX8_isMarked_14 (by decide) (fun c_14 => ?_) (fun c_14 => ?_)
  · refine lv_iconst (v := nI 0) F.1 F.2.1 dX8_isMarked_21 rfl ?_
    refine gRz rfl F hW hS dX8_isMarked_22 ?_
    exact ⟨by rw [c_14]; rfl, rfl⟩
  · refine lv_iconst (v := nI 1) F.1 F.2.1 dX8_isMarked_17 rfl ?_
    refine lv_goto (tgt := 22) F.1 F.2.1 dX8_isMarked_18 (by decide) ?_
    refine gRz rfl F hW hS dX8_isMarked_22 ?_
    exact ⟨by rw [c_14]; rfl, rfl⟩

abbrev rm_X8_setOperand : Room := ({ frames := 1, cells := 0, slots := 0, locals := 21 } : Room)
theorem mX8_setOperand_1 : Cond.fieldLink RX8 15 "StepperHearts$Program" "operands" "[I" ∈ wsX8_setOperand := List.mem_of_getElem? (i := 1) rfl
theorem nX8_setOperand_X8 : ∀ w ∈ wsX80, w ∈ wsX8_setOperand := fun _ h => List.mem_cons_of_mem _ (List.mem_append_right _ (h))
set_option maxRecDepth 100000 in
set_option maxHeartbeats 4000000 in
theorem c_X8_setOperand (g : gC) (l : Launch) {hp : Nat} {pk : Nat} {po : Nat} {pm : Nat} {n : Nat} {vl : Nat → Nat} {k : Nat} {v : Nat} {R : va_W} (hn : n ≤ 100) (hk : k < n) : cV g l yX8_setOperand wsX8_setOperand rm_X8_setOperand 0 0 [.ref hp, .int (nI k), .int (nI v)] ((hp, .inr (5, [.ref pk, .ref po, .ref pm, .int (nI n)])) :: (po, .inl (g.2.1 0, 100, .inl (nA vl))) :: R) (fun u => (hp, .inr (5, [.ref pk, .ref po, .ref pm, .int (nI n)])) :: (po, .inl (g.2.1 0, 100, .inl (nA (updN vl k v)))) :: R = u) := by
  refine gEnterQ (cc := cX8_setOperand) (maxL := 3) (ret := none) (by decide +kernel) rfl (Nat.le_of_ble_eq_true rfl) ?_
  intro p e s m below meth c F hG hW ls hl
  have hS : va_S (gA g) s.heap s.heap [] := va_S.rf
  have hl : lv_has ls 3 [(0, .ref hp), (1, .int (nI k)), (2, .int (nI v))] := hl
  have hW : gW g ((hp, .inr (5, [.ref pk, .ref po, .ref pm, .int (nI n)])) :: (po, .inl (g.2.1 0, 100, .inl (nA vl))) :: R) s.heap := hW
  refine lv_aload_n F.1 F.2.1 dX8_setOperand_0 rfl (lv_at hl 0 rfl) ?_
  refine lv_iload_n F.1 F.2.1 dX8_setOperand_1 rfl (lv_at hl 1 rfl) ?_
  refine gVi (n := 1) (q := (RX8, TX8, 4)) (q0 := 0) (As := [.int (nI k)]) F hG hS hW (c_X8_has g l  (by omega) (by omega)) rfl gX8_setOperand_X8_has rfl rfl rfl (by decide +kernel) ⟨rfl, rfl, Nat.le_of_ble_eq_true rfl, Nat.le_of_ble_eq_true rfl⟩ hl.1 (Nat.le_of_ble_eq_true rfl) ⟨Nat.le_of_ble_eq_true rfl, Nat.le_of_ble_eq_true rfl⟩ rfl rfl dX8_setOperand_2 (fun r u H locs hq hW hS => ?_)
  obtain ⟨rfl, rfl⟩ := hq
  have hW : gW g ((hp, .inr (5, [.ref pk, .ref po, .ref pm, .int (nI n)])) :: (po, .inl (g.2.1 0, 100, .inl (nA vl))) :: R) _ := hW
  refine gIfEqB (tgt := 15) F dX8_setOperand_5 (by decide) (fun q => by rw [decide_eq_true hk] at q; cases q) (fun c_5 => ?_)
  refine lv_aload_n F.1 F.2.1 dX8_setOperand_8 rfl (lv_at hl 0 rfl) ?_
  refine gGet F hG hW nX8_setOperand_X8 0 rfl rfl 1 (by decide) mX8_setOperand_1 rfl dX8_setOperand_9 ?_
  refine lv_iload_n F.1 F.2.1 dX8_setOperand_12 rfl (lv_at hl 1 rfl) ?_
  refine lv_iload_n F.1 F.2.1 dX8_setOperand_13 rfl (lv_at hl 2 rfl) ?_
  refine gStIN (w2 := (hp, .inr (5, [.ref pk, .ref po, .ref pm, .int (nI n)])) :: (po, .inl (g.2.1 0, 100, .inl (nA (updN vl k v)))) :: R) F hG hW 1 rfl (by omega) (by decide) hS rfl dX8_setOperand_14 (fun H locs hW hS => ?_)
  refine gRv F hW hS dX8_setOperand_15 ?_
  rfl

abbrev rm_X8_add : Room := ({ frames := 0, cells := 0, slots := 0, locals := 0 } : Room)
theorem mX8_add_1 : Cond.fieldLink RX8 22 "StepperHearts$Program" "size" "I" ∈ wsX8_add := List.mem_of_getElem? (i := 1) rfl
theorem nX8_add_X8 : ∀ w ∈ wsX80, w ∈ wsX8_add := fun _ h => List.mem_cons_of_mem _ (List.mem_append_right _ (h))
theorem mX8_add_2 : Cond.fieldLink RX8 9 "StepperHearts$Program" "kinds" "[I" ∈ wsX8_add := List.mem_of_getElem? (i := 2) rfl
theorem mX8_add_3 : Cond.fieldLink RX8 15 "StepperHearts$Program" "operands" "[I" ∈ wsX8_add := List.mem_of_getElem? (i := 3) rfl
theorem mX8_add_4 : Cond.fieldLink RX8 18 "StepperHearts$Program" "marks" "[Z" ∈ wsX8_add := List.mem_of_getElem? (i := 4) rfl
set_option maxRecDepth 100000 in
set_option maxHeartbeats 4000000 in
theorem c_X8_add (g : gC) (l : Launch) {hp : Nat} {pk : Nat} {po : Nat} {pm : Nat} {n : Nat} {kd : Nat → Nat} {vl : Nat → Nat} {mk : Nat → Bool} {k : Nat} {v : Nat} {b : Bool} {R : va_W} (hn : n < 100) : cV g l yX8_add wsX8_add rm_X8_add 0 0 [.ref hp, .int (nI k), .int (nI v), .int (bI b)] ((hp, .inr (5, [.ref pk, .ref po, .ref pm, .int (nI n)])) :: (pk, .inl (g.2.1 0, 100, .inl (nA kd))) :: (po, .inl (g.2.1 0, 100, .inl (nA vl))) :: (pm, .inl (g.2.1 1, 100, .inl (bA mk))) :: R) (fun u => (hp, .inr (5, [.ref pk, .ref po, .ref pm, .int (nI (n + 1))])) :: (pk, .inl (g.2.1 0, 100, .inl (nA (updN kd n k)))) :: (po, .inl (g.2.1 0, 100, .inl (nA (updN vl n v)))) :: (pm, .inl (g.2.1 1, 100, .inl (bA (updB mk n b)))) :: R = u) := by
  refine gEnterQ (cc := cX8_add) (maxL := 4) (ret := none) (by decide +kernel) rfl (Nat.le_of_ble_eq_true rfl) ?_
  intro p e s m below meth c F hG hW ls hl
  have hS : va_S (gA g) s.heap s.heap [] := va_S.rf
  have hl : lv_has ls 4 [(0, .ref hp), (1, .int (nI k)), (2, .int (nI v)), (3, .int (bI b))] := hl
  have hW : gW g ((hp, .inr (5, [.ref pk, .ref po, .ref pm, .int (nI n)])) :: (pk, .inl (g.2.1 0, 100, .inl (nA kd))) :: (po, .inl (g.2.1 0, 100, .inl (nA vl))) :: (pm, .inl (g.2.1 1, 100, .inl (bA mk))) :: R) s.heap := hW
  refine lv_aload_n F.1 F.2.1 dX8_add_0 rfl (lv_at hl 0 rfl) ?_
  refine gGet F hG hW nX8_add_X8 0 rfl rfl 3 (by decide) mX8_add_1 rfl dX8_add_1 ?_
  refine lv_bipush (v := nI 100) F.1 F.2.1 dX8_add_4 (by decide) ?_
  refine gGe (tgt := 49) F (by omega) (by omega) dX8_add_6 (by decide) (fun c_6 => by exfalso; omega) (fun c_6 => ?_)
  refine lv_aload_n F.1 F.2.1 dX8_add_9 rfl (lv_at hl 0 rfl) ?_
  refine gGet F hG hW nX8_add_X8 0 rfl rfl 0 (by decide) mX8_add_2 rfl dX8_add_10 ?_
  refine lv_aload_n F.1 F.2.1 dX8_add_13 rfl (lv_at hl 0 rfl) ?_
  refine gGet F hG hW nX8_add_X8 0 rfl rfl 3 (by decide) mX8_add_1 rfl dX8_add_14 ?_
  refine lv_iload_n F.1 F.2.1 dX8_add_17 rfl (lv_at hl 1 rfl) ?_
  refine gStIN (w2 := (hp, .inr (5, [.ref pk, .ref po, .ref pm, .int (nI n)])) :: (pk, .inl (g.2.1 0, 100, .inl (nA (updN kd n k)))) :: (po, .inl (g.2.1 0, 100, .inl (nA vl))) :: (pm, .inl (g.2.1 1, 100, .inl (bA mk))) :: R) F hG hW 1 rfl (by omega) (by decide) hS rfl dX8_add_18 (fun H locs hW hS => ?_)
  refine lv_aload_n F.1 F.2.1 dX8_add_19 rfl (lv_at hl 0 rfl) ?_
  refine gGet F hG hW nX8_add_X8 0 rfl rfl 1 (by decide) mX8_add_3 rfl dX8_add_20 ?_
  refine lv_aload_n F.1 F.2.1 dX8_add_23 rfl (lv_at hl 0 rfl) ?_
  refine gGet F hG hW nX8_add_X8 0 rfl rfl 3 (by decide) mX8_add_1 rfl dX8_add_24 ?_
  refine lv_iload_n F.1 F.2.1 dX8_add_27 rfl (lv_at hl 2 rfl) ?_
  refine gStIN (w2 := (hp, .inr (5, [.ref pk, .ref po, .ref pm, .int (nI n)])) :: (pk, .inl (g.2.1 0, 100, .inl (nA (updN kd n k)))) :: (po, .inl (g.2.1 0, 100, .inl (nA (updN vl n v)))) :: (pm, .inl (g.2.1 1, 100, .inl (bA mk))) :: R) F hG hW 2 rfl (by omega) (by decide) hS rfl dX8_add_28 (fun H locs hW hS => ?_)
  refine lv_aload_n F.1 F.2.1 dX8_add_29 rfl (lv_at hl 0 rfl) ?_
  refine gGet F hG hW nX8_add_X8 0 rfl rfl 2 (by decide) mX8_add_4 rfl dX8_add_30 ?_
  refine lv_aload_n F.1 F.2.1 dX8_add_33 rfl (lv_at hl 0 rfl) ?_
  refine gGet F hG hW nX8_add_X8 0 rfl rfl 3 (by decide) mX8_add_1 rfl dX8_add_34 ?_
  refine lv_iload_n F.1 F.2.1 dX8_add_37 rfl (lv_at hl 3 rfl) ?_
  refine gStZB (w2 := (hp, .inr (5, [.ref pk, .ref po, .ref pm, .int (nI n)])) :: (pk, .inl (g.2.1 0, 100, .inl (nA (updN kd n k)))) :: (po, .inl (g.2.1 0, 100, .inl (nA (updN vl n v)))) :: (pm, .inl (g.2.1 1, 100, .inl (bA (updB mk n b)))) :: R) F hG hW 3 rfl (by omega) (by decide) hS rfl dX8_add_38 (fun H locs hW hS => ?_)
  refine lv_aload_n F.1 F.2.1 dX8_add_39 rfl (lv_at hl 0 rfl) ?_
  refine lv_dup F.1 F.2.1 dX8_add_40 rfl ?_
  refine gGet F hG hW nX8_add_X8 0 rfl rfl 3 (by decide) mX8_add_1 rfl dX8_add_41 ?_
  refine lv_iconst (v := nI 1) F.1 F.2.1 dX8_add_44 rfl ?_
  refine gAdd F dX8_add_45 ?_
  refine gPut (w2 := (hp, .inr (5, [.ref pk, .ref po, .ref pm, .int (nI (n + 1))])) :: (pk, .inl (g.2.1 0, 100, .inl (nA (updN kd n k)))) :: (po, .inl (g.2.1 0, 100, .inl (nA (updN vl n v)))) :: (pm, .inl (g.2.1 1, 100, .inl (bA (updB mk n b)))) :: R) F hS hG hW nX8_add_X8 0 rfl rfl 3 (by decide) tyX8 tyX8_ok nmX8 mX8_add_1 rfl rfl rfl rfl (Nat.le_of_ble_eq_true rfl) rfl dX8_add_46 (fun H locs hW hS => ?_)
  refine gRv F hW hS dX8_add_49 ?_
  rfl

abbrev rm_X11_isKind_n : Room := ({ frames := 0, cells := 0, slots := 0, locals := 0 } : Room)
set_option maxRecDepth 100000 in
set_option maxHeartbeats 4000000 in
theorem c_X11_isKind_n (g : gC) (l : Launch) {k : Nat} {R : va_W} (hk : k < 15) : cI g l yX11_isKind wsX11_isKind rm_X11_isKind_n 0 0 [.int (nI k)] (R) (fun r u => (bI true) = r ∧ R = u) := by
  refine gEnterQ (cc := cX11_isKind) (maxL := 1) (ret := (some (.boolean))) (by decide +kernel) rfl (Nat.le_of_ble_eq_true rfl) ?_
  intro p e s m below meth c F hG hW ls hl
  have hS : va_S (gA g) s.heap s.heap [] := va_S.rf
  have hl : lv_has ls 1 [(0, .int (nI k))] := hl
  have hW : gW g (R) s.heap := hW
  refine lv_iload_n F.1 F.2.1 dX11_isKind_0 rfl (lv_at hl 0 rfl) ?_
  refine gIfLt (tgt := 14) F (by omega) dX11_isKind_1 (by decide) (fun c_1 => by exfalso; omega) (fun c_1 => ?_)
  refine lv_iload_n F.1 F.2.1 dX11_isKind_4 rfl (lv_at hl 0 rfl) ?_
  refine lv_bipush (v := nI 15) F.1 F.2.1 dX11_isKind_5 (by decide) ?_
  refine gGe (tgt := 14) F (by omega) (by omega) dX11_isKind_7 (by decide) (fun c_7 => by exfalso; omega) (fun c_7 => ?_)
  refine lv_iconst (v := nI 1) F.1 F.2.1 dX11_isKind_10 rfl ?_
  refine lv_goto (tgt := 15) F.1 F.2.1 dX11_isKind_11 (by decide) ?_
  refine gRz rfl F hW hS dX11_isKind_15 ?_
  exact ⟨rfl, rfl⟩

abbrev rm_X11_isKind_m : Room := ({ frames := 0, cells := 0, slots := 0, locals := 0 } : Room)
set_option maxRecDepth 100000 in
set_option maxHeartbeats 4000000 in
theorem c_X11_isKind_m (g : gC) (l : Launch) {R : va_W} : cI g l yX11_isKind wsX11_isKind rm_X11_isKind_m 0 0 [.int (-1)] (R) (fun r u => (bI false) = r ∧ R = u) := by
  refine gEnterQ (cc := cX11_isKind) (maxL := 1) (ret := (some (.boolean))) (by decide +kernel) rfl (Nat.le_of_ble_eq_true rfl) ?_
  intro p e s m below meth c F hG hW ls hl
  have hS : va_S (gA g) s.heap s.heap [] := va_S.rf
  have hl : lv_has ls 1 [(0, .int (-1))] := hl
  have hW : gW g (R) s.heap := hW
  refine lv_iload_n F.1 F.2.1 dX11_isKind_0 rfl (lv_at hl 0 rfl) ?_
  refine lv_if_lt (tgt := 14) F.1 F.2.1 dX11_isKind_1 (by decide) (fun c_1 => ?_) (fun q => absurd (by decide) q)
  refine lv_iconst (v := nI 0) F.1 F.2.1 dX11_isKind_14 rfl ?_
  refine gRz rfl F hW hS dX11_isKind_15 ?_
  exact ⟨rfl, rfl⟩

abbrev rm_X11_pairOf : Room := ({ frames := 0, cells := 0, slots := 0, locals := 0 } : Room)
set_option maxRecDepth 100000 in
set_option maxHeartbeats 4000000 in
theorem c_X11_pairOf (g : gC) (l : Launch) {j : Nat} {k : Nat} {R : va_W} : cI g l yX11_pairOf wsX11_pairOf rm_X11_pairOf 0 0 [.int (nI j), .int (nI k)] (R) (fun r u => (nI (j * 15 + k)) = r ∧ R = u) := by
  refine gEnterQ (cc := cX11_pairOf) (maxL := 2) (ret := (some (.int))) (by decide +kernel) rfl (Nat.le_of_ble_eq_true rfl) ?_
  intro p e s m below meth c F hG hW ls hl
  have hS : va_S (gA g) s.heap s.heap [] := va_S.rf
  have hl : lv_has ls 2 [(0, .int (nI j)), (1, .int (nI k))] := hl
  have hW : gW g (R) s.heap := hW
  refine lv_iload_n F.1 F.2.1 dX11_pairOf_0 rfl (lv_at hl 0 rfl) ?_
  refine lv_bipush (v := nI 15) F.1 F.2.1 dX11_pairOf_1 (by decide) ?_
  refine gMul F dX11_pairOf_3 ?_
  refine lv_iload_n F.1 F.2.1 dX11_pairOf_4 rfl (lv_at hl 1 rfl) ?_
  refine gAdd F dX11_pairOf_5 ?_
  refine gRi F hW hS dX11_pairOf_6 ?_
  exact ⟨rfl, rfl⟩

abbrev rm_X11_tellPair : Room := ({ frames := 0, cells := 0, slots := 0, locals := 0 } : Room)
set_option maxRecDepth 100000 in
set_option maxHeartbeats 4000000 in
theorem c_X11_tellPair (g : gC) (l : Launch) {q : Nat} {R : va_W} (hq : q < 225) : cI g l yX11_tellPair wsX11_tellPair rm_X11_tellPair 0 0 [.int (nI q)] (R) (fun r u => (nI (q / 15 * 100 + q % 15)) = r ∧ R = u) := by
  refine gEnterQ (cc := cX11_tellPair) (maxL := 1) (ret := (some (.int))) (by decide +kernel) rfl (Nat.le_of_ble_eq_true rfl) ?_
  intro p e s m below meth c F hG hW ls hl
  have hS : va_S (gA g) s.heap s.heap [] := va_S.rf
  have hl : lv_has ls 1 [(0, .int (nI q))] := hl
  have hW : gW g (R) s.heap := hW
  refine lv_iload_n F.1 F.2.1 dX11_tellPair_0 rfl (lv_at hl 0 rfl) ?_
  refine lv_bipush (v := nI 15) F.1 F.2.1 dX11_tellPair_1 (by decide) ?_
  refine gDiv F (by omega) (by omega) (by omega) dX11_tellPair_3 ?_
  refine lv_bipush (v := nI 100) F.1 F.2.1 dX11_tellPair_4 (by decide) ?_
  refine gMul F dX11_tellPair_6 ?_
  refine lv_iload_n F.1 F.2.1 dX11_tellPair_7 rfl (lv_at hl 0 rfl) ?_
  refine lv_bipush (v := nI 15) F.1 F.2.1 dX11_tellPair_8 (by decide) ?_
  refine gRem F (by omega) (by omega) (by omega) dX11_tellPair_10 ?_
  refine gAdd F dX11_tellPair_11 ?_
  refine gRi F hW hS dX11_tellPair_12 ?_
  exact ⟨rfl, rfl⟩

abbrev rm_X6_put : Room := ({ frames := 0, cells := 0, slots := 0, locals := 0 } : Room)
theorem mX6_put_1 : Cond.fieldLink RX6 47 "StepperHearts$Machine" "height" "I" ∈ wsX6_put := List.mem_of_getElem? (i := 1) rfl
theorem nX6_put_X6 : ∀ w ∈ wsX60, w ∈ wsX6_put := fun _ h => List.mem_cons_of_mem _ (List.mem_append_right _ (h))
theorem mX6_put_2 : Cond.fieldLink RX6 9 "StepperHearts$Machine" "numbers" "[I" ∈ wsX6_put := List.mem_of_getElem? (i := 2) rfl
set_option maxRecDepth 100000 in
set_option maxHeartbeats 4000000 in
theorem c_X6_put (g : gC) (l : Launch) {h : Nat} {a0 : Nat} {a1 : Nat} {a2 : Nat} {a3 : Nat} {a4 : Nat} {a5 : Nat} {f6 : Int32} {f7 : Int32} {f8 : Int32} {f9 : Int32} {f10 : Int32} {f12 : Int32} {f13 : Int32} {f14 : Int32} {f15 : Int32} {f16 : Int32} {ht : Nat} {nu : Nat → Int32} {x : Int32} {R : va_W} (hh : ht < 32) : cV g l yX6_put wsX6_put rm_X6_put 0 0 [.ref h, .int x] ((h, .inr (3, [.ref a0, .ref a1, .ref a2, .ref a3, .ref a4, .ref a5, .int f6, .int f7, .int f8, .int f9, .int f10, .int (nI ht), .int f12, .int f13, .int f14, .int f15, .int f16])) :: (a0, .inl (g.2.1 0, 32, .inl nu)) :: R) (fun u => (h, .inr (3, [.ref a0, .ref a1, .ref a2, .ref a3, .ref a4, .ref a5, .int f6, .int f7, .int f8, .int f9, .int f10, .int (nI (ht + 1)), .int f12, .int f13, .int f14, .int f15, .int f16])) :: (a0, .inl (g.2.1 0, 32, .inl (upd nu ht x))) :: R = u) := by
  refine gEnterQ (cc := cX6_put) (maxL := 2) (ret := none) (by decide +kernel) rfl (Nat.le_of_ble_eq_true rfl) ?_
  intro p e s m below meth c F hG hW ls hl
  have hS : va_S (gA g) s.heap s.heap [] := va_S.rf
  have hl : lv_has ls 2 [(0, .ref h), (1, .int x)] := hl
  have hW : gW g ((h, .inr (3, [.ref a0, .ref a1, .ref a2, .ref a3, .ref a4, .ref a5, .int f6, .int f7, .int f8, .int f9, .int f10, .int (nI ht), .int f12, .int f13, .int f14, .int f15, .int f16])) :: (a0, .inl (g.2.1 0, 32, .inl nu)) :: R) s.heap := hW
  refine lv_aload_n F.1 F.2.1 dX6_put_0 rfl (lv_at hl 0 rfl) ?_
  refine gGet F hG hW nX6_put_X6 0 rfl rfl 11 (by decide) mX6_put_1 rfl dX6_put_1 ?_
  refine gIfLt (tgt := 36) F (by omega) dX6_put_4 (by decide) (fun c_4 => by exfalso; omega) (fun c_4 => ?_)
  refine lv_aload_n F.1 F.2.1 dX6_put_7 rfl (lv_at hl 0 rfl) ?_
  refine gGet F hG hW nX6_put_X6 0 rfl rfl 11 (by decide) mX6_put_1 rfl dX6_put_8 ?_
  refine lv_bipush (v := nI 32) F.1 F.2.1 dX6_put_11 (by decide) ?_
  refine gGe (tgt := 36) F (by omega) (by omega) dX6_put_13 (by decide) (fun c_13 => by exfalso; omega) (fun c_13 => ?_)
  refine lv_aload_n F.1 F.2.1 dX6_put_16 rfl (lv_at hl 0 rfl) ?_
  refine gGet F hG hW nX6_put_X6 0 rfl rfl 0 (by decide) mX6_put_2 rfl dX6_put_17 ?_
  refine lv_aload_n F.1 F.2.1 dX6_put_20 rfl (lv_at hl 0 rfl) ?_
  refine gGet F hG hW nX6_put_X6 0 rfl rfl 11 (by decide) mX6_put_1 rfl dX6_put_21 ?_
  refine lv_iload_n F.1 F.2.1 dX6_put_24 rfl (lv_at hl 1 rfl) ?_
  refine gStI (w2 := (h, .inr (3, [.ref a0, .ref a1, .ref a2, .ref a3, .ref a4, .ref a5, .int f6, .int f7, .int f8, .int f9, .int f10, .int (nI ht), .int f12, .int f13, .int f14, .int f15, .int f16])) :: (a0, .inl (g.2.1 0, 32, .inl (upd nu ht x))) :: R) F hG hW 1 rfl (by omega) (by decide) hS rfl dX6_put_25 (fun H locs hW hS => ?_)
  refine lv_aload_n F.1 F.2.1 dX6_put_26 rfl (lv_at hl 0 rfl) ?_
  refine lv_dup F.1 F.2.1 dX6_put_27 rfl ?_
  refine gGet F hG hW nX6_put_X6 0 rfl rfl 11 (by decide) mX6_put_1 rfl dX6_put_28 ?_
  refine lv_iconst (v := nI 1) F.1 F.2.1 dX6_put_31 rfl ?_
  refine gAdd F dX6_put_32 ?_
  refine gPut (w2 := (h, .inr (3, [.ref a0, .ref a1, .ref a2, .ref a3, .ref a4, .ref a5, .int f6, .int f7, .int f8, .int f9, .int f10, .int (nI (ht + 1)), .int f12, .int f13, .int f14, .int f15, .int f16])) :: (a0, .inl (g.2.1 0, 32, .inl (upd nu ht x))) :: R) F hS hG hW nX6_put_X6 0 rfl rfl 11 (by decide) tyX6 tyX6_ok nmX6 mX6_put_1 rfl rfl rfl rfl (Nat.le_of_ble_eq_true rfl) rfl dX6_put_33 (fun H locs hW hS => ?_)
  refine gRv F hW hS dX6_put_36 ?_
  rfl

abbrev rm_X6_take : Room := ({ frames := 0, cells := 0, slots := 0, locals := 0 } : Room)
theorem mX6_take_1 : Cond.fieldLink RX6 47 "StepperHearts$Machine" "height" "I" ∈ wsX6_take := List.mem_of_getElem? (i := 1) rfl
theorem nX6_take_X6 : ∀ w ∈ wsX60, w ∈ wsX6_take := fun _ h => List.mem_cons_of_mem _ (List.mem_append_right _ (h))
theorem mX6_take_2 : Cond.fieldLink RX6 9 "StepperHearts$Machine" "numbers" "[I" ∈ wsX6_take := List.mem_of_getElem? (i := 2) rfl
set_option maxRecDepth 100000 in
set_option maxHeartbeats 4000000 in
theorem c_X6_take (g : gC) (l : Launch) {h : Nat} {a0 : Nat} {a1 : Nat} {a2 : Nat} {a3 : Nat} {a4 : Nat} {a5 : Nat} {f6 : Int32} {f7 : Int32} {f8 : Int32} {f9 : Int32} {f10 : Int32} {f12 : Int32} {f13 : Int32} {f14 : Int32} {f15 : Int32} {f16 : Int32} {ht : Nat} {nu : Nat → Int32} {R : va_W} (h0 : 0 < ht) (hh : ht ≤ 32) : cI g l yX6_take wsX6_take rm_X6_take 0 0 [.ref h] ((h, .inr (3, [.ref a0, .ref a1, .ref a2, .ref a3, .ref a4, .ref a5, .int f6, .int f7, .int f8, .int f9, .int f10, .int (nI ht), .int f12, .int f13, .int f14, .int f15, .int f16])) :: (a0, .inl (g.2.1 0, 32, .inl nu)) :: R) (fun r u => (nu (ht - 1)) = r ∧ (h, .inr (3, [.ref a0, .ref a1, .ref a2, .ref a3, .ref a4, .ref a5, .int f6, .int f7, .int f8, .int f9, .int f10, .int (nI (ht - 1)), .int f12, .int f13, .int f14, .int f15, .int f16])) :: (a0, .inl (g.2.1 0, 32, .inl nu)) :: R = u) := by
  refine gEnterQ (cc := cX6_take) (maxL := 1) (ret := (some (.int))) (by decide +kernel) rfl (Nat.le_of_ble_eq_true rfl) ?_
  intro p e s m below meth c F hG hW ls hl
  have hS : va_S (gA g) s.heap s.heap [] := va_S.rf
  have hl : lv_has ls 1 [(0, .ref h)] := hl
  have hW : gW g ((h, .inr (3, [.ref a0, .ref a1, .ref a2, .ref a3, .ref a4, .ref a5, .int f6, .int f7, .int f8, .int f9, .int f10, .int (nI ht), .int f12, .int f13, .int f14, .int f15, .int f16])) :: (a0, .inl (g.2.1 0, 32, .inl nu)) :: R) s.heap := hW
  refine lv_aload_n F.1 F.2.1 dX6_take_0 rfl (lv_at hl 0 rfl) ?_
  refine gGet F hG hW nX6_take_X6 0 rfl rfl 11 (by decide) mX6_take_1 rfl dX6_take_1 ?_
  refine gIfLe (tgt := 16) F (by omega) dX6_take_4 (by decide) (fun c_4 => by exfalso; omega) (fun c_4 => ?_)
  refine lv_aload_n F.1 F.2.1 dX6_take_7 rfl (lv_at hl 0 rfl) ?_
  refine gGet F hG hW nX6_take_X6 0 rfl rfl 11 (by decide) mX6_take_1 rfl dX6_take_8 ?_
  refine lv_bipush (v := nI 32) F.1 F.2.1 dX6_take_11 (by decide) ?_
  refine gLe (tgt := 18) F (by omega) (by omega) dX6_take_13 (by decide) (fun c_13 => ?_) (fun c_13 => by exfalso; omega)
  refine lv_aload_n F.1 F.2.1 dX6_take_18 rfl (lv_at hl 0 rfl) ?_
  refine lv_dup F.1 F.2.1 dX6_take_19 rfl ?_
  refine gGet F hG hW nX6_take_X6 0 rfl rfl 11 (by decide) mX6_take_1 rfl dX6_take_20 ?_
  refine lv_iconst (v := nI 1) F.1 F.2.1 dX6_take_23 rfl ?_
  refine gSub F (by omega) dX6_take_24 ?_
  refine gPut (w2 := (h, .inr (3, [.ref a0, .ref a1, .ref a2, .ref a3, .ref a4, .ref a5, .int f6, .int f7, .int f8, .int f9, .int f10, .int (nI (ht - 1)), .int f12, .int f13, .int f14, .int f15, .int f16])) :: (a0, .inl (g.2.1 0, 32, .inl nu)) :: R) F hS hG hW nX6_take_X6 0 rfl rfl 11 (by decide) tyX6 tyX6_ok nmX6 mX6_take_1 rfl rfl rfl rfl (Nat.le_of_ble_eq_true rfl) rfl dX6_take_25 (fun H locs hW hS => ?_)
  refine lv_aload_n F.1 F.2.1 dX6_take_28 rfl (lv_at hl 0 rfl) ?_
  refine gGet F hG hW nX6_take_X6 0 rfl rfl 0 (by decide) mX6_take_2 rfl dX6_take_29 ?_
  refine lv_aload_n F.1 F.2.1 dX6_take_32 rfl (lv_at hl 0 rfl) ?_
  refine gGet F hG hW nX6_take_X6 0 rfl rfl 11 (by decide) mX6_take_1 rfl dX6_take_33 ?_
  refine gLdI F hG hW 1 rfl (by omega) (by decide) dX6_take_36 ?_
  refine gRi F hW hS dX6_take_37 ?_
  exact ⟨rfl, rfl⟩

abbrev rm_X6_cellAt_n : Room := ({ frames := 0, cells := 0, slots := 0, locals := 0 } : Room)
theorem mX6_cellAt_1 : Cond.fieldLink RX6 15 "StepperHearts$Machine" "cells" "[I" ∈ wsX6_cellAt := List.mem_of_getElem? (i := 1) rfl
theorem nX6_cellAt_X6 : ∀ w ∈ wsX60, w ∈ wsX6_cellAt := fun _ h => List.mem_cons_of_mem _ (List.mem_append_right _ (h))
set_option maxRecDepth 100000 in
set_option maxHeartbeats 4000000 in
theorem c_X6_cellAt_n (g : gC) (l : Launch) {h : Nat} {a0 : Nat} {a1 : Nat} {a2 : Nat} {a3 : Nat} {a4 : Nat} {a5 : Nat} {f6 : Int32} {f7 : Int32} {f8 : Int32} {f9 : Int32} {f10 : Int32} {f11 : Int32} {f12 : Int32} {f13 : Int32} {f14 : Int32} {f15 : Int32} {f16 : Int32} {k : Nat} {ce : Nat → Int32} {R : va_W} (hk : k < 8) : cI g l yX6_cellAt wsX6_cellAt rm_X6_cellAt_n 0 0 [.ref h, .int (nI k)] ((h, .inr (3, [.ref a0, .ref a1, .ref a2, .ref a3, .ref a4, .ref a5, .int f6, .int f7, .int f8, .int f9, .int f10, .int f11, .int f12, .int f13, .int f14, .int f15, .int f16])) :: (a1, .inl (g.2.1 0, 8, .inl ce)) :: R) (fun r u => (ce k) = r ∧ (h, .inr (3, [.ref a0, .ref a1, .ref a2, .ref a3, .ref a4, .ref a5, .int f6, .int f7, .int f8, .int f9, .int f10, .int f11, .int f12, .int f13, .int f14, .int f15, .int f16])) :: (a1, .inl (g.2.1 0, 8, .inl ce)) :: R = u) := by
  refine gEnterQ (cc := cX6_cellAt) (maxL := 2) (ret := (some (.int))) (by decide +kernel) rfl (Nat.le_of_ble_eq_true rfl) ?_
  intro p e s m below meth c F hG hW ls hl
  have hS : va_S (gA g) s.heap s.heap [] := va_S.rf
  have hl : lv_has ls 2 [(0, .ref h), (1, .int (nI k))] := hl
  have hW : gW g ((h, .inr (3, [.ref a0, .ref a1, .ref a2, .ref a3, .ref a4, .ref a5, .int f6, .int f7, .int f8, .int f9, .int f10, .int f11, .int f12, .int f13, .int f14, .int f15, .int f16])) :: (a1, .inl (g.2.1 0, 8, .inl ce)) :: R) s.heap := hW
  refine lv_iload_n F.1 F.2.1 dX6_cellAt_0 rfl (lv_at hl 1 rfl) ?_
  refine gIfLt (tgt := 19) F (by omega) dX6_cellAt_1 (by decide) (fun c_1 => by exfalso; omega) (fun c_1 => ?_)
  refine lv_iload_n F.1 F.2.1 dX6_cellAt_4 rfl (lv_at hl 1 rfl) ?_
  refine lv_bipush (v := nI 8) F.1 F.2.1 dX6_cellAt_5 (by decide) ?_
  refine gGe (tgt := 19) F (by omega) (by omega) dX6_cellAt_7 (by decide) (fun c_7 => by exfalso; omega) (fun c_7 => ?_)
  refine lv_aload_n F.1 F.2.1 dX6_cellAt_10 rfl (lv_at hl 0 rfl) ?_
  refine gGet F hG hW nX6_cellAt_X6 0 rfl rfl 1 (by decide) mX6_cellAt_1 rfl dX6_cellAt_11 ?_
  refine lv_iload_n F.1 F.2.1 dX6_cellAt_14 rfl (lv_at hl 1 rfl) ?_
  refine gLdI F hG hW 1 rfl (by omega) (by decide) dX6_cellAt_15 ?_
  refine lv_goto (tgt := 20) F.1 F.2.1 dX6_cellAt_16 (by decide) ?_
  refine gRi F hW hS dX6_cellAt_20 ?_
  exact ⟨rfl, rfl⟩

abbrev rm_X6_setCell : Room := ({ frames := 0, cells := 0, slots := 0, locals := 0 } : Room)
theorem mX6_setCell_1 : Cond.fieldLink RX6 15 "StepperHearts$Machine" "cells" "[I" ∈ wsX6_setCell := List.mem_of_getElem? (i := 1) rfl
theorem nX6_setCell_X6 : ∀ w ∈ wsX60, w ∈ wsX6_setCell := fun _ h => List.mem_cons_of_mem _ (List.mem_append_right _ (h))
set_option maxRecDepth 100000 in
set_option maxHeartbeats 4000000 in
theorem c_X6_setCell (g : gC) (l : Launch) {h : Nat} {a0 : Nat} {a1 : Nat} {a2 : Nat} {a3 : Nat} {a4 : Nat} {a5 : Nat} {f6 : Int32} {f7 : Int32} {f8 : Int32} {f9 : Int32} {f10 : Int32} {f11 : Int32} {f12 : Int32} {f13 : Int32} {f14 : Int32} {f15 : Int32} {f16 : Int32} {k : Nat} {ce : Nat → Int32} {x : Int32} {R : va_W} (hk : k < 8) : cV g l yX6_setCell wsX6_setCell rm_X6_setCell 0 0 [.ref h, .int (nI k), .int x] ((h, .inr (3, [.ref a0, .ref a1, .ref a2, .ref a3, .ref a4, .ref a5, .int f6, .int f7, .int f8, .int f9, .int f10, .int f11, .int f12, .int f13, .int f14, .int f15, .int f16])) :: (a1, .inl (g.2.1 0, 8, .inl ce)) :: R) (fun u => (h, .inr (3, [.ref a0, .ref a1, .ref a2, .ref a3, .ref a4, .ref a5, .int f6, .int f7, .int f8, .int f9, .int f10, .int f11, .int f12, .int f13, .int f14, .int f15, .int f16])) :: (a1, .inl (g.2.1 0, 8, .inl (upd ce k x))) :: R = u) := by
  refine gEnterQ (cc := cX6_setCell) (maxL := 3) (ret := none) (by decide +kernel) rfl (Nat.le_of_ble_eq_true rfl) ?_
  intro p e s m below meth c F hG hW ls hl
  have hS : va_S (gA g) s.heap s.heap [] := va_S.rf
  have hl : lv_has ls 3 [(0, .ref h), (1, .int (nI k)), (2, .int x)] := hl
  have hW : gW g ((h, .inr (3, [.ref a0, .ref a1, .ref a2, .ref a3, .ref a4, .ref a5, .int f6, .int f7, .int f8, .int f9, .int f10, .int f11, .int f12, .int f13, .int f14, .int f15, .int f16])) :: (a1, .inl (g.2.1 0, 8, .inl ce)) :: R) s.heap := hW
  refine lv_iload_n F.1 F.2.1 dX6_setCell_0 rfl (lv_at hl 1 rfl) ?_
  refine gIfLt (tgt := 17) F (by omega) dX6_setCell_1 (by decide) (fun c_1 => by exfalso; omega) (fun c_1 => ?_)
  refine lv_iload_n F.1 F.2.1 dX6_setCell_4 rfl (lv_at hl 1 rfl) ?_
  refine lv_bipush (v := nI 8) F.1 F.2.1 dX6_setCell_5 (by decide) ?_
  refine gGe (tgt := 17) F (by omega) (by omega) dX6_setCell_7 (by decide) (fun c_7 => by exfalso; omega) (fun c_7 => ?_)
  refine lv_aload_n F.1 F.2.1 dX6_setCell_10 rfl (lv_at hl 0 rfl) ?_
  refine gGet F hG hW nX6_setCell_X6 0 rfl rfl 1 (by decide) mX6_setCell_1 rfl dX6_setCell_11 ?_
  refine lv_iload_n F.1 F.2.1 dX6_setCell_14 rfl (lv_at hl 1 rfl) ?_
  refine lv_iload_n F.1 F.2.1 dX6_setCell_15 rfl (lv_at hl 2 rfl) ?_
  refine gStI (w2 := (h, .inr (3, [.ref a0, .ref a1, .ref a2, .ref a3, .ref a4, .ref a5, .int f6, .int f7, .int f8, .int f9, .int f10, .int f11, .int f12, .int f13, .int f14, .int f15, .int f16])) :: (a1, .inl (g.2.1 0, 8, .inl (upd ce k x))) :: R) F hG hW 1 rfl (by omega) (by decide) hS rfl dX6_setCell_16 (fun H locs hW hS => ?_)
  refine gRv F hW hS dX6_setCell_17 ?_
  rfl

abbrev rm_X6_tellOut : Room := ({ frames := 0, cells := 0, slots := 0, locals := 0 } : Room)
theorem mX6_tellOut_1 : Cond.fieldLink RX6 53 "StepperHearts$Machine" "outCount" "I" ∈ wsX6_tellOut := List.mem_of_getElem? (i := 1) rfl
theorem nX6_tellOut_X6 : ∀ w ∈ wsX60, w ∈ wsX6_tellOut := fun _ h => List.mem_cons_of_mem _ (List.mem_append_right _ (h))
theorem mX6_tellOut_2 : Cond.fieldLink RX6 18 "StepperHearts$Machine" "outs" "[I" ∈ wsX6_tellOut := List.mem_of_getElem? (i := 2) rfl
set_option maxRecDepth 100000 in
set_option maxHeartbeats 4000000 in
theorem c_X6_tellOut (g : gC) (l : Launch) {h : Nat} {a0 : Nat} {a1 : Nat} {a2 : Nat} {a3 : Nat} {a4 : Nat} {a5 : Nat} {f6 : Int32} {f7 : Int32} {f8 : Int32} {f9 : Int32} {f10 : Int32} {f11 : Int32} {f12 : Int32} {f14 : Int32} {f15 : Int32} {f16 : Int32} {oc : Nat} {ou : Nat → Int32} {x : Int32} {R : va_W} (ho : oc < 2 ^ 30) : cV g l yX6_tellOut wsX6_tellOut rm_X6_tellOut 0 0 [.ref h, .int x] ((h, .inr (3, [.ref a0, .ref a1, .ref a2, .ref a3, .ref a4, .ref a5, .int f6, .int f7, .int f8, .int f9, .int f10, .int f11, .int f12, .int (nI oc), .int f14, .int f15, .int f16])) :: (a2, .inl (g.2.1 0, 60, .inl ou)) :: R) (fun u => (h, .inr (3, [.ref a0, .ref a1, .ref a2, .ref a3, .ref a4, .ref a5, .int f6, .int f7, .int f8, .int f9, .int f10, .int f11, .int f12, .int (nI (oc + 1)), .int f14, .int f15, .int f16])) :: (a2, .inl (g.2.1 0, 60, .inl (outUp ou oc x))) :: R = u) := by
  refine gEnterQ (cc := cX6_tellOut) (maxL := 2) (ret := none) (by decide +kernel) rfl (Nat.le_of_ble_eq_true rfl) ?_
  intro p e s m below meth c F hG hW ls hl
  have hS : va_S (gA g) s.heap s.heap [] := va_S.rf
  have hl : lv_has ls 2 [(0, .ref h), (1, .int x)] := hl
  have hW : gW g ((h, .inr (3, [.ref a0, .ref a1, .ref a2, .ref a3, .ref a4, .ref a5, .int f6, .int f7, .int f8, .int f9, .int f10, .int f11, .int f12, .int (nI oc), .int f14, .int f15, .int f16])) :: (a2, .inl (g.2.1 0, 60, .inl ou)) :: R) s.heap := hW
  refine lv_aload_n F.1 F.2.1 dX6_tellOut_0 rfl (lv_at hl 0 rfl) ?_
  refine gGet F hG hW nX6_tellOut_X6 0 rfl rfl 13 (by decide) mX6_tellOut_1 rfl dX6_tellOut_1 ?_
  refine gIfLt (tgt := 26) F (by omega) dX6_tellOut_4 (by decide) (fun c_4 => by exfalso; omega) (fun c_4 => ?_)
  refine lv_aload_n F.1 F.2.1 dX6_tellOut_7 rfl (lv_at hl 0 rfl) ?_
  refine gGet F hG hW nX6_tellOut_X6 0 rfl rfl 13 (by decide) mX6_tellOut_1 rfl dX6_tellOut_8 ?_
  refine lv_bipush (v := nI 60) F.1 F.2.1 dX6_tellOut_11 (by decide) ?_
  refine gGe (tgt := 26) F (by omega) (by omega) dX6_tellOut_13 (by decide) (fun c_13 => ?_) (fun c_13 => ?_)
  · refine lv_aload_n F.1 F.2.1 dX6_tellOut_26 rfl (lv_at hl 0 rfl) ?_
    refine lv_dup F.1 F.2.1 dX6_tellOut_27 rfl ?_
    refine gGet F hG hW nX6_tellOut_X6 0 rfl rfl 13 (by decide) mX6_tellOut_1 rfl dX6_tellOut_28 ?_
    refine lv_iconst (v := nI 1) F.1 F.2.1 dX6_tellOut_31 rfl ?_
    refine gAdd F dX6_tellOut_32 ?_
    refine gPut (w2 := (h, .inr (3, [.ref a0, .ref a1, .ref a2, .ref a3, .ref a4, .ref a5, .int f6, .int f7, .int f8, .int f9, .int f10, .int f11, .int f12, .int (nI (oc + 1)), .int f14, .int f15, .int f16])) :: (a2, .inl (g.2.1 0, 60, .inl ou)) :: R) F hS hG hW nX6_tellOut_X6 0 rfl rfl 13 (by decide) tyX6 tyX6_ok nmX6 mX6_tellOut_1 rfl rfl rfl rfl (Nat.le_of_ble_eq_true rfl) rfl dX6_tellOut_33 (fun H locs hW hS => ?_)
    refine gRv F hW hS dX6_tellOut_36 ?_
    show _ = _
    rw [outUp, if_neg (Nat.not_lt.mpr c_13)]
  · refine lv_aload_n F.1 F.2.1 dX6_tellOut_16 rfl (lv_at hl 0 rfl) ?_
    refine gGet F hG hW nX6_tellOut_X6 0 rfl rfl 2 (by decide) mX6_tellOut_2 rfl dX6_tellOut_17 ?_
    refine lv_aload_n F.1 F.2.1 dX6_tellOut_20 rfl (lv_at hl 0 rfl) ?_
    refine gGet F hG hW nX6_tellOut_X6 0 rfl rfl 13 (by decide) mX6_tellOut_1 rfl dX6_tellOut_21 ?_
    refine lv_iload_n F.1 F.2.1 dX6_tellOut_24 rfl (lv_at hl 1 rfl) ?_
    refine gStI (w2 := (h, .inr (3, [.ref a0, .ref a1, .ref a2, .ref a3, .ref a4, .ref a5, .int f6, .int f7, .int f8, .int f9, .int f10, .int f11, .int f12, .int (nI oc), .int f14, .int f15, .int f16])) :: (a2, .inl (g.2.1 0, 60, .inl (upd ou oc x))) :: R) F hG hW 1 rfl (by omega) (by decide) hS rfl dX6_tellOut_25 (fun H locs hW hS => ?_)
    refine lv_aload_n F.1 F.2.1 dX6_tellOut_26 rfl (lv_at hl 0 rfl) ?_
    refine lv_dup F.1 F.2.1 dX6_tellOut_27 rfl ?_
    refine gGet F hG hW nX6_tellOut_X6 0 rfl rfl 13 (by decide) mX6_tellOut_1 rfl dX6_tellOut_28 ?_
    refine lv_iconst (v := nI 1) F.1 F.2.1 dX6_tellOut_31 rfl ?_
    refine gAdd F dX6_tellOut_32 ?_
    refine gPut (w2 := (h, .inr (3, [.ref a0, .ref a1, .ref a2, .ref a3, .ref a4, .ref a5, .int f6, .int f7, .int f8, .int f9, .int f10, .int f11, .int f12, .int (nI (oc + 1)), .int f14, .int f15, .int f16])) :: (a2, .inl (g.2.1 0, 60, .inl (upd ou oc x))) :: R) F hS hG hW nX6_tellOut_X6 0 rfl rfl 13 (by decide) tyX6 tyX6_ok nmX6 mX6_tellOut_1 rfl rfl rfl rfl (Nat.le_of_ble_eq_true rfl) rfl dX6_tellOut_33 (fun H locs hW hS => ?_)
    refine gRv F hW hS dX6_tellOut_36 ?_
    show _ = _
    rw [outUp, if_pos c_13]

abbrev rm_X6_tally : Room := ({ frames := 1, cells := 0, slots := 0, locals := 21 } : Room)
theorem fX6_tally_m149 : (yX6_tally.cls, 149, yX11_isKind, "StepperHearts") ∈ gNM := List.mem_of_getElem? (i := 11) rfl
theorem mX6_tally_5 : Cond.initialized RX11 ∈ wsX6_tally := List.mem_of_getElem? (i := 5) rfl
theorem mX6_tally_4 : Cond.static yX11_isKind ∈ wsX6_tally := List.mem_of_getElem? (i := 4) rfl
theorem mX6_tally_1 : Cond.fieldLink RX6 21 "StepperHearts$Machine" "done" "[I" ∈ wsX6_tally := List.mem_of_getElem? (i := 1) rfl
theorem nX6_tally_X6 : ∀ w ∈ wsX60, w ∈ wsX6_tally := fun _ h => List.mem_cons_of_mem _ (List.mem_append_right _ (h))
theorem mX6_tally_2 : Cond.fieldLink RX6 59 "StepperHearts$Machine" "formerKind" "I" ∈ wsX6_tally := List.mem_of_getElem? (i := 2) rfl
theorem mX6_tally_3 : Cond.fieldLink RX6 24 "StepperHearts$Machine" "followed" "[I" ∈ wsX6_tally := List.mem_of_getElem? (i := 3) rfl
theorem fX6_tally_m152 : (yX6_tally.cls, 152, yX11_pairOf, "StepperHearts") ∈ gNM := List.mem_of_getElem? (i := 12) rfl
theorem mX6_tally_7 : Cond.static yX11_pairOf ∈ wsX6_tally := List.mem_of_getElem? (i := 7) rfl
set_option maxRecDepth 100000 in
set_option maxHeartbeats 4000000 in
theorem c_X6_tally (g : gC) (l : Launch) {h : Nat} {a0 : Nat} {a1 : Nat} {a2 : Nat} {a3 : Nat} {a4 : Nat} {a5 : Nat} {f6 : Int32} {f7 : Int32} {f8 : Int32} {f9 : Int32} {f10 : Int32} {f11 : Int32} {f12 : Int32} {f13 : Int32} {f14 : Int32} {f16 : Int32} {k : Nat} {fo : Option Nat} {dn : Nat → Nat} {fw : Nat → Nat} {R : va_W} (hk : k < 15) (hf : ∀ j, fo = some j → j < 15) : cV g l yX6_tally wsX6_tally rm_X6_tally 0 0 [.ref h, .int (nI k)] ((h, .inr (3, [.ref a0, .ref a1, .ref a2, .ref a3, .ref a4, .ref a5, .int f6, .int f7, .int f8, .int f9, .int f10, .int f11, .int f12, .int f13, .int f14, .int (oI fo), .int f16])) :: (a3, .inl (g.2.1 0, 15, .inl (nA dn))) :: (a4, .inl (g.2.1 0, 225, .inl (nA fw))) :: R) (fun u => (h, .inr (3, [.ref a0, .ref a1, .ref a2, .ref a3, .ref a4, .ref a5, .int f6, .int f7, .int f8, .int f9, .int f10, .int f11, .int f12, .int f13, .int f14, .int (oI (some k)), .int f16])) :: (a3, .inl (g.2.1 0, 15, .inl (nA (updN dn k (dn k + 1))))) :: (a4, .inl (g.2.1 0, 225, .inl (nA (folUp fw fo k)))) :: R = u) := by
  refine gEnterQ (cc := cX6_tally) (maxL := 2) (ret := none) (by decide +kernel) rfl (Nat.le_of_ble_eq_true rfl) ?_
  intro p e s m below meth c F hG hW ls hl
  have hS : va_S (gA g) s.heap s.heap [] := va_S.rf
  have hl : lv_has ls 2 [(0, .ref h), (1, .int (nI k))] := hl
  have hW : gW g ((h, .inr (3, [.ref a0, .ref a1, .ref a2, .ref a3, .ref a4, .ref a5, .int f6, .int f7, .int f8, .int f9, .int f10, .int f11, .int f12, .int f13, .int f14, .int (oI fo), .int f16])) :: (a3, .inl (g.2.1 0, 15, .inl (nA dn))) :: (a4, .inl (g.2.1 0, 225, .inl (nA fw))) :: R) s.heap := hW
  rcases fo with _ | j
  · have hl : lv_has ls 2 [(0, .ref h), (1, .int (nI k))] := hl
    have hW : gW g ((h, .inr (3, [.ref a0, .ref a1, .ref a2, .ref a3, .ref a4, .ref a5, .int f6, .int f7, .int f8, .int f9, .int f10, .int f11, .int f12, .int f13, .int f14, .int (-1), .int f16])) :: (a3, .inl (g.2.1 0, 15, .inl (nA dn))) :: (a4, .inl (g.2.1 0, 225, .inl (nA fw))) :: R) s.heap := hW
    refine lv_iload_n F.1 F.2.1 dX6_tally_0 rfl (lv_at hl 1 rfl) ?_
    refine gN_i (n := 1) (As := [.int (nI k)]) F hG hS hW (c_X11_isKind_n g l  (by omega)) rfl gX6_tally_X11_isKind_n149 fX6_tally_m149 mX6_tally_5 mX6_tally_4 (by decide +kernel) ⟨rfl, rfl, Nat.le_of_ble_eq_true rfl, Nat.le_of_ble_eq_true rfl⟩ hl.1 (Nat.le_of_ble_eq_true rfl) ⟨Nat.le_of_ble_eq_true rfl, Nat.le_of_ble_eq_true rfl⟩ rfl rfl dX6_tally_1 (fun r u H locs hq hW hS => ?_)
    obtain ⟨rfl, rfl⟩ := hq
    have hW : gW g ((h, .inr (3, [.ref a0, .ref a1, .ref a2, .ref a3, .ref a4, .ref a5, .int f6, .int f7, .int f8, .int f9, .int f10, .int f11, .int f12, .int f13, .int f14, .int (-1), .int f16])) :: (a3, .inl (g.2.1 0, 15, .inl (nA dn))) :: (a4, .inl (g.2.1 0, 225, .inl (nA fw))) :: R) _ := hW
    refine gIfNeB (tgt := 8) F dX6_tally_4 (by decide) (fun c_4 => ?_) (fun q => by simp at q)
    refine lv_aload_n F.1 F.2.1 dX6_tally_8 rfl (lv_at hl 0 rfl) ?_
    refine gGet F hG hW nX6_tally_X6 0 rfl rfl 3 (by decide) mX6_tally_1 rfl dX6_tally_9 ?_
    refine lv_iload_n F.1 F.2.1 dX6_tally_12 rfl (lv_at hl 1 rfl) ?_
    refine lv_dup2_11 F.1 F.2.1 dX6_tally_13 rfl rfl ?_
    refine gLdI F hG hW 1 rfl (by omega) (by decide) dX6_tally_14 ?_
    refine gTop (y := nI (dn k)) rfl ?_
    refine lv_iconst (v := nI 1) F.1 F.2.1 dX6_tally_15 rfl ?_
    refine gAdd F dX6_tally_16 ?_
    refine gStIN (w2 := (h, .inr (3, [.ref a0, .ref a1, .ref a2, .ref a3, .ref a4, .ref a5, .int f6, .int f7, .int f8, .int f9, .int f10, .int f11, .int f12, .int f13, .int f14, .int (-1), .int f16])) :: (a3, .inl (g.2.1 0, 15, .inl (nA (updN dn k ((dn k) + 1))))) :: (a4, .inl (g.2.1 0, 225, .inl (nA fw))) :: R) F hG hW 1 rfl (by omega) (by decide) hS rfl dX6_tally_17 (fun H locs hW hS => ?_)
    refine lv_aload_n F.1 F.2.1 dX6_tally_18 rfl (lv_at hl 0 rfl) ?_
    refine gGet F hG hW nX6_tally_X6 0 rfl rfl 15 (by decide) mX6_tally_2 rfl dX6_tally_19 ?_
    refine gN_i (n := 1) (As := [.int (-1)]) F hG hS hW (c_X11_isKind_m g l  ) rfl gX6_tally_X11_isKind_n149 fX6_tally_m149 mX6_tally_5 mX6_tally_4 (by decide +kernel) ⟨rfl, rfl, Nat.le_of_ble_eq_true rfl, Nat.le_of_ble_eq_true rfl⟩ hl.1 (Nat.le_of_ble_eq_true rfl) ⟨Nat.le_of_ble_eq_true rfl, Nat.le_of_ble_eq_true rfl⟩ rfl rfl dX6_tally_22 (fun r u H locs hq hW hS => ?_)
    obtain ⟨rfl, rfl⟩ := hq
    have hW : gW g ((h, .inr (3, [.ref a0, .ref a1, .ref a2, .ref a3, .ref a4, .ref a5, .int f6, .int f7, .int f8, .int f9, .int f10, .int f11, .int f12, .int f13, .int f14, .int (-1), .int f16])) :: (a3, .inl (g.2.1 0, 15, .inl (nA (updN dn k ((dn k) + 1))))) :: (a4, .inl (g.2.1 0, 225, .inl (nA fw))) :: R) _ := hW
    refine gIfEqB (tgt := 45) F dX6_tally_25 (by decide) (fun c_25 => ?_) (fun q => by simp at q)
    refine lv_aload_n F.1 F.2.1 dX6_tally_45 rfl (lv_at hl 0 rfl) ?_
    refine lv_iload_n F.1 F.2.1 dX6_tally_46 rfl (lv_at hl 1 rfl) ?_
    refine gPut (w2 := (h, .inr (3, [.ref a0, .ref a1, .ref a2, .ref a3, .ref a4, .ref a5, .int f6, .int f7, .int f8, .int f9, .int f10, .int f11, .int f12, .int f13, .int f14, .int (nI k), .int f16])) :: (a3, .inl (g.2.1 0, 15, .inl (nA (updN dn k ((dn k) + 1))))) :: (a4, .inl (g.2.1 0, 225, .inl (nA fw))) :: R) F hS hG hW nX6_tally_X6 0 rfl rfl 15 (by decide) tyX6 tyX6_ok nmX6 mX6_tally_2 rfl rfl rfl rfl (Nat.le_of_ble_eq_true rfl) rfl dX6_tally_47 (fun H locs hW hS => ?_)
    refine gRv F hW hS dX6_tally_50 ?_
    exact rfl
  · have hj : j < 15 := hf j rfl
    have hl : lv_has ls 2 [(0, .ref h), (1, .int (nI k))] := hl
    have hW : gW g ((h, .inr (3, [.ref a0, .ref a1, .ref a2, .ref a3, .ref a4, .ref a5, .int f6, .int f7, .int f8, .int f9, .int f10, .int f11, .int f12, .int f13, .int f14, .int (nI j), .int f16])) :: (a3, .inl (g.2.1 0, 15, .inl (nA dn))) :: (a4, .inl (g.2.1 0, 225, .inl (nA fw))) :: R) s.heap := hW
    refine lv_iload_n F.1 F.2.1 dX6_tally_0 rfl (lv_at hl 1 rfl) ?_
    refine gN_i (n := 1) (As := [.int (nI k)]) F hG hS hW (c_X11_isKind_n g l  (by omega)) rfl gX6_tally_X11_isKind_n149 fX6_tally_m149 mX6_tally_5 mX6_tally_4 (by decide +kernel) ⟨rfl, rfl, Nat.le_of_ble_eq_true rfl, Nat.le_of_ble_eq_true rfl⟩ hl.1 (Nat.le_of_ble_eq_true rfl) ⟨Nat.le_of_ble_eq_true rfl, Nat.le_of_ble_eq_true rfl⟩ rfl rfl dX6_tally_1 (fun r u H locs hq hW hS => ?_)
    obtain ⟨rfl, rfl⟩ := hq
    have hW : gW g ((h, .inr (3, [.ref a0, .ref a1, .ref a2, .ref a3, .ref a4, .ref a5, .int f6, .int f7, .int f8, .int f9, .int f10, .int f11, .int f12, .int f13, .int f14, .int (nI j), .int f16])) :: (a3, .inl (g.2.1 0, 15, .inl (nA dn))) :: (a4, .inl (g.2.1 0, 225, .inl (nA fw))) :: R) _ := hW
    refine gIfNeB (tgt := 8) F dX6_tally_4 (by decide) (fun c_4 => ?_) (fun q => by simp at q)
    refine lv_aload_n F.1 F.2.1 dX6_tally_8 rfl (lv_at hl 0 rfl) ?_
    refine gGet F hG hW nX6_tally_X6 0 rfl rfl 3 (by decide) mX6_tally_1 rfl dX6_tally_9 ?_
    refine lv_iload_n F.1 F.2.1 dX6_tally_12 rfl (lv_at hl 1 rfl) ?_
    refine lv_dup2_11 F.1 F.2.1 dX6_tally_13 rfl rfl ?_
    refine gLdI F hG hW 1 rfl (by omega) (by decide) dX6_tally_14 ?_
    refine gTop (y := nI (dn k)) rfl ?_
    refine lv_iconst (v := nI 1) F.1 F.2.1 dX6_tally_15 rfl ?_
    refine gAdd F dX6_tally_16 ?_
    refine gStIN (w2 := (h, .inr (3, [.ref a0, .ref a1, .ref a2, .ref a3, .ref a4, .ref a5, .int f6, .int f7, .int f8, .int f9, .int f10, .int f11, .int f12, .int f13, .int f14, .int (nI j), .int f16])) :: (a3, .inl (g.2.1 0, 15, .inl (nA (updN dn k ((dn k) + 1))))) :: (a4, .inl (g.2.1 0, 225, .inl (nA fw))) :: R) F hG hW 1 rfl (by omega) (by decide) hS rfl dX6_tally_17 (fun H locs hW hS => ?_)
    refine lv_aload_n F.1 F.2.1 dX6_tally_18 rfl (lv_at hl 0 rfl) ?_
    refine gGet F hG hW nX6_tally_X6 0 rfl rfl 15 (by decide) mX6_tally_2 rfl dX6_tally_19 ?_
    refine gN_i (n := 1) (As := [.int (nI j)]) F hG hS hW (c_X11_isKind_n g l  (by omega)) rfl gX6_tally_X11_isKind_n149 fX6_tally_m149 mX6_tally_5 mX6_tally_4 (by decide +kernel) ⟨rfl, rfl, Nat.le_of_ble_eq_true rfl, Nat.le_of_ble_eq_true rfl⟩ hl.1 (Nat.le_of_ble_eq_true rfl) ⟨Nat.le_of_ble_eq_true rfl, Nat.le_of_ble_eq_true rfl⟩ rfl rfl dX6_tally_22 (fun r u H locs hq hW hS => ?_)
    obtain ⟨rfl, rfl⟩ := hq
    have hW : gW g ((h, .inr (3, [.ref a0, .ref a1, .ref a2, .ref a3, .ref a4, .ref a5, .int f6, .int f7, .int f8, .int f9, .int f10, .int f11, .int f12, .int f13, .int f14, .int (nI j), .int f16])) :: (a3, .inl (g.2.1 0, 15, .inl (nA (updN dn k ((dn k) + 1))))) :: (a4, .inl (g.2.1 0, 225, .inl (nA fw))) :: R) _ := hW
    refine gIfEqB (tgt := 45) F dX6_tally_25 (by decide) (fun q => by simp at q) (fun c_25 => ?_)
    refine lv_aload_n F.1 F.2.1 dX6_tally_28 rfl (lv_at hl 0 rfl) ?_
    refine gGet F hG hW nX6_tally_X6 0 rfl rfl 4 (by decide) mX6_tally_3 rfl dX6_tally_29 ?_
    refine lv_aload_n F.1 F.2.1 dX6_tally_32 rfl (lv_at hl 0 rfl) ?_
    refine gGet F hG hW nX6_tally_X6 0 rfl rfl 15 (by decide) mX6_tally_2 rfl dX6_tally_33 ?_
    refine lv_iload_n F.1 F.2.1 dX6_tally_36 rfl (lv_at hl 1 rfl) ?_
    refine gN_i (n := 2) (As := [.int (nI j), .int (nI k)]) F hG hS hW (c_X11_pairOf g l  ) rfl gX6_tally_X11_pairOf_n152 fX6_tally_m152 mX6_tally_5 mX6_tally_7 (by decide +kernel) ⟨rfl, rfl, Nat.le_of_ble_eq_true rfl, Nat.le_of_ble_eq_true rfl⟩ hl.1 (Nat.le_of_ble_eq_true rfl) ⟨Nat.le_of_ble_eq_true rfl, Nat.le_of_ble_eq_true rfl⟩ rfl rfl dX6_tally_37 (fun r u H locs hq hW hS => ?_)
    obtain ⟨rfl, rfl⟩ := hq
    have hW : gW g ((h, .inr (3, [.ref a0, .ref a1, .ref a2, .ref a3, .ref a4, .ref a5, .int f6, .int f7, .int f8, .int f9, .int f10, .int f11, .int f12, .int f13, .int f14, .int (nI j), .int f16])) :: (a3, .inl (g.2.1 0, 15, .inl (nA (updN dn k ((dn k) + 1))))) :: (a4, .inl (g.2.1 0, 225, .inl (nA fw))) :: R) _ := hW
    refine lv_dup2_11 F.1 F.2.1 dX6_tally_40 rfl rfl ?_
    refine gLdI F hG hW 2 rfl (by omega) (by decide) dX6_tally_41 ?_
    refine gTop (y := nI (fw (j * 15 + k))) rfl ?_
    refine lv_iconst (v := nI 1) F.1 F.2.1 dX6_tally_42 rfl ?_
    refine gAdd F dX6_tally_43 ?_
    refine gStIN (w2 := (h, .inr (3, [.ref a0, .ref a1, .ref a2, .ref a3, .ref a4, .ref a5, .int f6, .int f7, .int f8, .int f9, .int f10, .int f11, .int f12, .int f13, .int f14, .int (nI j), .int f16])) :: (a3, .inl (g.2.1 0, 15, .inl (nA (updN dn k ((dn k) + 1))))) :: (a4, .inl (g.2.1 0, 225, .inl (nA (updN fw (j * 15 + k) ((fw (j * 15 + k)) + 1))))) :: R) F hG hW 2 rfl (by omega) (by decide) hS rfl dX6_tally_44 (fun H locs hW hS => ?_)
    refine lv_aload_n F.1 F.2.1 dX6_tally_45 rfl (lv_at hl 0 rfl) ?_
    refine lv_iload_n F.1 F.2.1 dX6_tally_46 rfl (lv_at hl 1 rfl) ?_
    refine gPut (w2 := (h, .inr (3, [.ref a0, .ref a1, .ref a2, .ref a3, .ref a4, .ref a5, .int f6, .int f7, .int f8, .int f9, .int f10, .int f11, .int f12, .int f13, .int f14, .int (nI k), .int f16])) :: (a3, .inl (g.2.1 0, 15, .inl (nA (updN dn k ((dn k) + 1))))) :: (a4, .inl (g.2.1 0, 225, .inl (nA (updN fw (j * 15 + k) ((fw (j * 15 + k)) + 1))))) :: R) F hS hG hW nX6_tally_X6 0 rfl rfl 15 (by decide) tyX6 tyX6_ok nmX6 mX6_tally_2 rfl rfl rfl rfl (Nat.le_of_ble_eq_true rfl) rfl dX6_tally_47 (fun H locs hW hS => ?_)
    refine gRv F hW hS dX6_tally_50 ?_
    exact rfl

abbrev rm_X6_clear : Room := ({ frames := 1, cells := 0, slots := 0, locals := 23 } : Room)
theorem mX6_clear_1 : Cond.fieldLink RX6 15 "StepperHearts$Machine" "cells" "[I" ∈ wsX6_clear := List.mem_of_getElem? (i := 1) rfl
theorem nX6_clear_X6 : ∀ w ∈ wsX60, w ∈ wsX6_clear := fun _ h => List.mem_cons_of_mem _ (List.mem_append_right _ (h))
theorem mX6_clear_2 : Cond.fieldLink RX6 21 "StepperHearts$Machine" "done" "[I" ∈ wsX6_clear := List.mem_of_getElem? (i := 2) rfl
theorem mX6_clear_3 : Cond.fieldLink RX6 24 "StepperHearts$Machine" "followed" "[I" ∈ wsX6_clear := List.mem_of_getElem? (i := 3) rfl
theorem mX6_clear_4 : Cond.fieldLink RX6 38 "StepperHearts$Machine" "ending" "I" ∈ wsX6_clear := List.mem_of_getElem? (i := 4) rfl
theorem mX6_clear_5 : Cond.fieldLink RX6 41 "StepperHearts$Machine" "steps" "I" ∈ wsX6_clear := List.mem_of_getElem? (i := 5) rfl
theorem mX6_clear_6 : Cond.fieldLink RX6 44 "StepperHearts$Machine" "spent" "I" ∈ wsX6_clear := List.mem_of_getElem? (i := 6) rfl
theorem mX6_clear_7 : Cond.fieldLink RX6 47 "StepperHearts$Machine" "height" "I" ∈ wsX6_clear := List.mem_of_getElem? (i := 7) rfl
theorem mX6_clear_8 : Cond.fieldLink RX6 53 "StepperHearts$Machine" "outCount" "I" ∈ wsX6_clear := List.mem_of_getElem? (i := 8) rfl
theorem mX6_clear_9 : Cond.fieldLink RX6 56 "StepperHearts$Machine" "place" "I" ∈ wsX6_clear := List.mem_of_getElem? (i := 9) rfl
theorem mX6_clear_10 : Cond.fieldLink RX6 59 "StepperHearts$Machine" "formerKind" "I" ∈ wsX6_clear := List.mem_of_getElem? (i := 10) rfl
set_option maxRecDepth 100000 in
set_option maxHeartbeats 4000000 in
theorem c_X6_clear (g : gC) (l : Launch) {h : Nat} {a0 : Nat} {a1 : Nat} {a2 : Nat} {a3 : Nat} {a4 : Nat} {a5 : Nat} {f6 : Int32} {f7 : Int32} {f8 : Int32} {f9 : Int32} {f10 : Int32} {f11 : Int32} {f12 : Int32} {f13 : Int32} {f14 : Int32} {f15 : Int32} {f16 : Int32} {ce : Nat → Int32} {dn : Nat → Nat} {fw : Nat → Nat} {R : va_W} : cV g l yX6_clear wsX6_clear rm_X6_clear 0 0 [.ref h] ((h, .inr (3, [.ref a0, .ref a1, .ref a2, .ref a3, .ref a4, .ref a5, .int f6, .int f7, .int f8, .int f9, .int f10, .int f11, .int f12, .int f13, .int f14, .int f15, .int f16])) :: (a1, .inl (g.2.1 0, 8, .inl ce)) :: (a3, .inl (g.2.1 0, 15, .inl (nA dn))) :: (a4, .inl (g.2.1 0, 225, .inl (nA fw))) :: R) (fun u => (h, .inr (3, [.ref a0, .ref a1, .ref a2, .ref a3, .ref a4, .ref a5, .int f6, .int f7, .int (-1), .int (nI 0), .int (nI 0), .int (nI 0), .int f12, .int (nI 0), .int (nI 0), .int (-1), .int f16])) :: (a1, .inl (g.2.1 0, 8, .inl (fun _ => nI 0))) :: (a3, .inl (g.2.1 0, 15, .inl (nA (fun _ => 0)))) :: (a4, .inl (g.2.1 0, 225, .inl (nA (fun _ => 0)))) :: R = u) := by
  refine gEnterQ (cc := cX6_clear) (maxL := 1) (ret := none) (by decide +kernel) rfl (Nat.le_of_ble_eq_true rfl) ?_
  intro p e s m below meth c F hG hW ls hl
  have hS : va_S (gA g) s.heap s.heap [] := va_S.rf
  have hl : lv_has ls 1 [(0, .ref h)] := hl
  have hW : gW g ((h, .inr (3, [.ref a0, .ref a1, .ref a2, .ref a3, .ref a4, .ref a5, .int f6, .int f7, .int f8, .int f9, .int f10, .int f11, .int f12, .int f13, .int f14, .int f15, .int f16])) :: (a1, .inl (g.2.1 0, 8, .inl ce)) :: (a3, .inl (g.2.1 0, 15, .inl (nA dn))) :: (a4, .inl (g.2.1 0, 225, .inl (nA fw))) :: R) s.heap := hW
  refine lv_aload_n F.1 F.2.1 dX6_clear_0 rfl (lv_at hl 0 rfl) ?_
  refine gGet F hG hW nX6_clear_X6 0 rfl rfl 1 (by decide) mX6_clear_1 rfl dX6_clear_1 ?_
  refine lv_iconst (v := nI 0) F.1 F.2.1 dX6_clear_4 rfl ?_
  have hW := gW.re (l := [(h, .inr (3, [.ref a0, .ref a1, .ref a2, .ref a3, .ref a4, .ref a5, .int f6, .int f7, .int f8, .int f9, .int f10, .int f11, .int f12, .int f13, .int f14, .int f15, .int f16])), (a1, .inl (g.2.1 0, 8, .inl ce))]) (l' := [(a1, .inl (g.2.1 0, 8, .inl ce)), (h, .inr (3, [.ref a0, .ref a1, .ref a2, .ref a3, .ref a4, .ref a5, .int f6, .int f7, .int f8, .int f9, .int f10, .int f11, .int f12, .int f13, .int f14, .int f15, .int f16]))]) (R := (a3, .inl (g.2.1 0, 15, .inl (nA dn))) :: (a4, .inl (g.2.1 0, 225, .inl (nA fw))) :: R) hW [1, 0] 2 rfl (by decide) rfl
  have hW : gW g ((a1, .inl (g.2.1 0, 8, .inl ce)) :: (h, .inr (3, [.ref a0, .ref a1, .ref a2, .ref a3, .ref a4, .ref a5, .int f6, .int f7, .int f8, .int f9, .int f10, .int f11, .int f12, .int f13, .int f14, .int f15, .int f16])) :: (a3, .inl (g.2.1 0, 15, .inl (nA dn))) :: (a4, .inl (g.2.1 0, 225, .inl (nA fw))) :: R) _ := hW
  refine gS_v (n := 2) (As := [.ref a1, .int (nI 0)]) F hG hS hW (c_J7_fill_53178 g l  (by omega)) rfl gX6_clear_J7_fill_53178 (by decide +kernel) ⟨rfl, rfl, Nat.le_of_ble_eq_true rfl, Nat.le_of_ble_eq_true rfl⟩ hl.1 (Nat.le_of_ble_eq_true rfl) ⟨Nat.le_of_ble_eq_true rfl, Nat.le_of_ble_eq_true rfl⟩ rfl rfl dX6_clear_5 (fun u H locs hq hW hS => ?_)
  obtain rfl := hq
  have hW : gW g ((a1, .inl (g.2.1 0, 8, .inl (fun _ => (nI 0)))) :: (h, .inr (3, [.ref a0, .ref a1, .ref a2, .ref a3, .ref a4, .ref a5, .int f6, .int f7, .int f8, .int f9, .int f10, .int f11, .int f12, .int f13, .int f14, .int f15, .int f16])) :: (a3, .inl (g.2.1 0, 15, .inl (nA dn))) :: (a4, .inl (g.2.1 0, 225, .inl (nA fw))) :: R) _ := hW
  refine lv_aload_n F.1 F.2.1 dX6_clear_8 rfl (lv_at hl 0 rfl) ?_
  refine gGet F hG hW nX6_clear_X6 1 rfl rfl 3 (by decide) mX6_clear_2 rfl dX6_clear_9 ?_
  refine lv_iconst (v := nI 0) F.1 F.2.1 dX6_clear_12 rfl ?_
  have hW := gW.re (l := [(a1, .inl (g.2.1 0, 8, .inl (fun _ => (nI 0)))), (h, .inr (3, [.ref a0, .ref a1, .ref a2, .ref a3, .ref a4, .ref a5, .int f6, .int f7, .int f8, .int f9, .int f10, .int f11, .int f12, .int f13, .int f14, .int f15, .int f16])), (a3, .inl (g.2.1 0, 15, .inl (nA dn)))]) (l' := [(a3, .inl (g.2.1 0, 15, .inl (nA dn))), (a1, .inl (g.2.1 0, 8, .inl (fun _ => (nI 0)))), (h, .inr (3, [.ref a0, .ref a1, .ref a2, .ref a3, .ref a4, .ref a5, .int f6, .int f7, .int f8, .int f9, .int f10, .int f11, .int f12, .int f13, .int f14, .int f15, .int f16]))]) (R := (a4, .inl (g.2.1 0, 225, .inl (nA fw))) :: R) hW [2, 0, 1] 3 rfl (by decide) rfl
  have hW : gW g ((a3, .inl (g.2.1 0, 15, .inl (nA dn))) :: (a1, .inl (g.2.1 0, 8, .inl (fun _ => (nI 0)))) :: (h, .inr (3, [.ref a0, .ref a1, .ref a2, .ref a3, .ref a4, .ref a5, .int f6, .int f7, .int f8, .int f9, .int f10, .int f11, .int f12, .int f13, .int f14, .int f15, .int f16])) :: (a4, .inl (g.2.1 0, 225, .inl (nA fw))) :: R) _ := hW
  refine gS_v (n := 2) (As := [.ref a3, .int (nI 0)]) F hG hS hW (c_J7_fill_53178_n g l  (by omega)) rfl gX6_clear_J7_fill_53178 (by decide +kernel) ⟨rfl, rfl, Nat.le_of_ble_eq_true rfl, Nat.le_of_ble_eq_true rfl⟩ hl.1 (Nat.le_of_ble_eq_true rfl) ⟨Nat.le_of_ble_eq_true rfl, Nat.le_of_ble_eq_true rfl⟩ rfl rfl dX6_clear_13 (fun u H locs hq hW hS => ?_)
  obtain rfl := hq
  have hW : gW g ((a3, .inl (g.2.1 0, 15, .inl (nA (fun _ => 0)))) :: (a1, .inl (g.2.1 0, 8, .inl (fun _ => (nI 0)))) :: (h, .inr (3, [.ref a0, .ref a1, .ref a2, .ref a3, .ref a4, .ref a5, .int f6, .int f7, .int f8, .int f9, .int f10, .int f11, .int f12, .int f13, .int f14, .int f15, .int f16])) :: (a4, .inl (g.2.1 0, 225, .inl (nA fw))) :: R) _ := hW
  refine lv_aload_n F.1 F.2.1 dX6_clear_16 rfl (lv_at hl 0 rfl) ?_
  refine gGet F hG hW nX6_clear_X6 2 rfl rfl 4 (by decide) mX6_clear_3 rfl dX6_clear_17 ?_
  refine lv_iconst (v := nI 0) F.1 F.2.1 dX6_clear_20 rfl ?_
  have hW := gW.re (l := [(a3, .inl (g.2.1 0, 15, .inl (nA (fun _ => 0)))), (a1, .inl (g.2.1 0, 8, .inl (fun _ => (nI 0)))), (h, .inr (3, [.ref a0, .ref a1, .ref a2, .ref a3, .ref a4, .ref a5, .int f6, .int f7, .int f8, .int f9, .int f10, .int f11, .int f12, .int f13, .int f14, .int f15, .int f16])), (a4, .inl (g.2.1 0, 225, .inl (nA fw)))]) (l' := [(a4, .inl (g.2.1 0, 225, .inl (nA fw))), (a3, .inl (g.2.1 0, 15, .inl (nA (fun _ => 0)))), (a1, .inl (g.2.1 0, 8, .inl (fun _ => (nI 0)))), (h, .inr (3, [.ref a0, .ref a1, .ref a2, .ref a3, .ref a4, .ref a5, .int f6, .int f7, .int f8, .int f9, .int f10, .int f11, .int f12, .int f13, .int f14, .int f15, .int f16]))]) (R := R) hW [3, 0, 1, 2] 4 rfl (by decide) rfl
  have hW : gW g ((a4, .inl (g.2.1 0, 225, .inl (nA fw))) :: (a3, .inl (g.2.1 0, 15, .inl (nA (fun _ => 0)))) :: (a1, .inl (g.2.1 0, 8, .inl (fun _ => (nI 0)))) :: (h, .inr (3, [.ref a0, .ref a1, .ref a2, .ref a3, .ref a4, .ref a5, .int f6, .int f7, .int f8, .int f9, .int f10, .int f11, .int f12, .int f13, .int f14, .int f15, .int f16])) :: R) _ := hW
  refine gS_v (n := 2) (As := [.ref a4, .int (nI 0)]) F hG hS hW (c_J7_fill_53178_n g l  (by omega)) rfl gX6_clear_J7_fill_53178 (by decide +kernel) ⟨rfl, rfl, Nat.le_of_ble_eq_true rfl, Nat.le_of_ble_eq_true rfl⟩ hl.1 (Nat.le_of_ble_eq_true rfl) ⟨Nat.le_of_ble_eq_true rfl, Nat.le_of_ble_eq_true rfl⟩ rfl rfl dX6_clear_21 (fun u H locs hq hW hS => ?_)
  obtain rfl := hq
  have hW : gW g ((a4, .inl (g.2.1 0, 225, .inl (nA (fun _ => 0)))) :: (a3, .inl (g.2.1 0, 15, .inl (nA (fun _ => 0)))) :: (a1, .inl (g.2.1 0, 8, .inl (fun _ => (nI 0)))) :: (h, .inr (3, [.ref a0, .ref a1, .ref a2, .ref a3, .ref a4, .ref a5, .int f6, .int f7, .int f8, .int f9, .int f10, .int f11, .int f12, .int f13, .int f14, .int f15, .int f16])) :: R) _ := hW
  refine lv_aload_n F.1 F.2.1 dX6_clear_24 rfl (lv_at hl 0 rfl) ?_
  refine lv_iconst (v := -1) F.1 F.2.1 dX6_clear_25 rfl ?_
  refine gPut (w2 := (a4, .inl (g.2.1 0, 225, .inl (nA (fun _ => 0)))) :: (a3, .inl (g.2.1 0, 15, .inl (nA (fun _ => 0)))) :: (a1, .inl (g.2.1 0, 8, .inl (fun _ => (nI 0)))) :: (h, .inr (3, [.ref a0, .ref a1, .ref a2, .ref a3, .ref a4, .ref a5, .int f6, .int f7, .int (-1), .int f9, .int f10, .int f11, .int f12, .int f13, .int f14, .int f15, .int f16])) :: R) F hS hG hW nX6_clear_X6 3 rfl rfl 8 (by decide) tyX6 tyX6_ok nmX6 mX6_clear_4 rfl rfl rfl rfl (Nat.le_of_ble_eq_true rfl) rfl dX6_clear_26 (fun H locs hW hS => ?_)
  refine lv_aload_n F.1 F.2.1 dX6_clear_29 rfl (lv_at hl 0 rfl) ?_
  refine lv_iconst (v := nI 0) F.1 F.2.1 dX6_clear_30 rfl ?_
  refine gPut (w2 := (a4, .inl (g.2.1 0, 225, .inl (nA (fun _ => 0)))) :: (a3, .inl (g.2.1 0, 15, .inl (nA (fun _ => 0)))) :: (a1, .inl (g.2.1 0, 8, .inl (fun _ => (nI 0)))) :: (h, .inr (3, [.ref a0, .ref a1, .ref a2, .ref a3, .ref a4, .ref a5, .int f6, .int f7, .int (-1), .int (nI 0), .int f10, .int f11, .int f12, .int f13, .int f14, .int f15, .int f16])) :: R) F hS hG hW nX6_clear_X6 3 rfl rfl 9 (by decide) tyX6 tyX6_ok nmX6 mX6_clear_5 rfl rfl rfl rfl (Nat.le_of_ble_eq_true rfl) rfl dX6_clear_31 (fun H locs hW hS => ?_)
  refine lv_aload_n F.1 F.2.1 dX6_clear_34 rfl (lv_at hl 0 rfl) ?_
  refine lv_iconst (v := nI 0) F.1 F.2.1 dX6_clear_35 rfl ?_
  refine gPut (w2 := (a4, .inl (g.2.1 0, 225, .inl (nA (fun _ => 0)))) :: (a3, .inl (g.2.1 0, 15, .inl (nA (fun _ => 0)))) :: (a1, .inl (g.2.1 0, 8, .inl (fun _ => (nI 0)))) :: (h, .inr (3, [.ref a0, .ref a1, .ref a2, .ref a3, .ref a4, .ref a5, .int f6, .int f7, .int (-1), .int (nI 0), .int (nI 0), .int f11, .int f12, .int f13, .int f14, .int f15, .int f16])) :: R) F hS hG hW nX6_clear_X6 3 rfl rfl 10 (by decide) tyX6 tyX6_ok nmX6 mX6_clear_6 rfl rfl rfl rfl (Nat.le_of_ble_eq_true rfl) rfl dX6_clear_36 (fun H locs hW hS => ?_)
  refine lv_aload_n F.1 F.2.1 dX6_clear_39 rfl (lv_at hl 0 rfl) ?_
  refine lv_iconst (v := nI 0) F.1 F.2.1 dX6_clear_40 rfl ?_
  refine gPut (w2 := (a4, .inl (g.2.1 0, 225, .inl (nA (fun _ => 0)))) :: (a3, .inl (g.2.1 0, 15, .inl (nA (fun _ => 0)))) :: (a1, .inl (g.2.1 0, 8, .inl (fun _ => (nI 0)))) :: (h, .inr (3, [.ref a0, .ref a1, .ref a2, .ref a3, .ref a4, .ref a5, .int f6, .int f7, .int (-1), .int (nI 0), .int (nI 0), .int (nI 0), .int f12, .int f13, .int f14, .int f15, .int f16])) :: R) F hS hG hW nX6_clear_X6 3 rfl rfl 11 (by decide) tyX6 tyX6_ok nmX6 mX6_clear_7 rfl rfl rfl rfl (Nat.le_of_ble_eq_true rfl) rfl dX6_clear_41 (fun H locs hW hS => ?_)
  refine lv_aload_n F.1 F.2.1 dX6_clear_44 rfl (lv_at hl 0 rfl) ?_
  refine lv_iconst (v := nI 0) F.1 F.2.1 dX6_clear_45 rfl ?_
  refine gPut (w2 := (a4, .inl (g.2.1 0, 225, .inl (nA (fun _ => 0)))) :: (a3, .inl (g.2.1 0, 15, .inl (nA (fun _ => 0)))) :: (a1, .inl (g.2.1 0, 8, .inl (fun _ => (nI 0)))) :: (h, .inr (3, [.ref a0, .ref a1, .ref a2, .ref a3, .ref a4, .ref a5, .int f6, .int f7, .int (-1), .int (nI 0), .int (nI 0), .int (nI 0), .int f12, .int (nI 0), .int f14, .int f15, .int f16])) :: R) F hS hG hW nX6_clear_X6 3 rfl rfl 13 (by decide) tyX6 tyX6_ok nmX6 mX6_clear_8 rfl rfl rfl rfl (Nat.le_of_ble_eq_true rfl) rfl dX6_clear_46 (fun H locs hW hS => ?_)
  refine lv_aload_n F.1 F.2.1 dX6_clear_49 rfl (lv_at hl 0 rfl) ?_
  refine lv_iconst (v := nI 0) F.1 F.2.1 dX6_clear_50 rfl ?_
  refine gPut (w2 := (a4, .inl (g.2.1 0, 225, .inl (nA (fun _ => 0)))) :: (a3, .inl (g.2.1 0, 15, .inl (nA (fun _ => 0)))) :: (a1, .inl (g.2.1 0, 8, .inl (fun _ => (nI 0)))) :: (h, .inr (3, [.ref a0, .ref a1, .ref a2, .ref a3, .ref a4, .ref a5, .int f6, .int f7, .int (-1), .int (nI 0), .int (nI 0), .int (nI 0), .int f12, .int (nI 0), .int (nI 0), .int f15, .int f16])) :: R) F hS hG hW nX6_clear_X6 3 rfl rfl 14 (by decide) tyX6 tyX6_ok nmX6 mX6_clear_9 rfl rfl rfl rfl (Nat.le_of_ble_eq_true rfl) rfl dX6_clear_51 (fun H locs hW hS => ?_)
  refine lv_aload_n F.1 F.2.1 dX6_clear_54 rfl (lv_at hl 0 rfl) ?_
  refine lv_iconst (v := -1) F.1 F.2.1 dX6_clear_55 rfl ?_
  refine gPut (w2 := (a4, .inl (g.2.1 0, 225, .inl (nA (fun _ => 0)))) :: (a3, .inl (g.2.1 0, 15, .inl (nA (fun _ => 0)))) :: (a1, .inl (g.2.1 0, 8, .inl (fun _ => (nI 0)))) :: (h, .inr (3, [.ref a0, .ref a1, .ref a2, .ref a3, .ref a4, .ref a5, .int f6, .int f7, .int (-1), .int (nI 0), .int (nI 0), .int (nI 0), .int f12, .int (nI 0), .int (nI 0), .int (-1), .int f16])) :: R) F hS hG hW nX6_clear_X6 3 rfl rfl 15 (by decide) tyX6 tyX6_ok nmX6 mX6_clear_10 rfl rfl rfl rfl (Nat.le_of_ble_eq_true rfl) rfl dX6_clear_56 (fun H locs hW hS => ?_)
  have hW := gW.re (l := [(a4, .inl (g.2.1 0, 225, .inl (nA (fun _ => 0)))), (a3, .inl (g.2.1 0, 15, .inl (nA (fun _ => 0)))), (a1, .inl (g.2.1 0, 8, .inl (fun _ => (nI 0)))), (h, .inr (3, [.ref a0, .ref a1, .ref a2, .ref a3, .ref a4, .ref a5, .int f6, .int f7, .int (-1), .int (nI 0), .int (nI 0), .int (nI 0), .int f12, .int (nI 0), .int (nI 0), .int (-1), .int f16]))]) (l' := [(h, .inr (3, [.ref a0, .ref a1, .ref a2, .ref a3, .ref a4, .ref a5, .int f6, .int f7, .int (-1), .int (nI 0), .int (nI 0), .int (nI 0), .int f12, .int (nI 0), .int (nI 0), .int (-1), .int f16])), (a1, .inl (g.2.1 0, 8, .inl (fun _ => (nI 0)))), (a3, .inl (g.2.1 0, 15, .inl (nA (fun _ => 0)))), (a4, .inl (g.2.1 0, 225, .inl (nA (fun _ => 0))))]) (R := R) hW [3, 2, 1, 0] 4 rfl (by decide) rfl
  have hW : gW g ((h, .inr (3, [.ref a0, .ref a1, .ref a2, .ref a3, .ref a4, .ref a5, .int f6, .int f7, .int (-1), .int (nI 0), .int (nI 0), .int (nI 0), .int f12, .int (nI 0), .int (nI 0), .int (-1), .int f16])) :: (a1, .inl (g.2.1 0, 8, .inl (fun _ => (nI 0)))) :: (a3, .inl (g.2.1 0, 15, .inl (nA (fun _ => 0)))) :: (a4, .inl (g.2.1 0, 225, .inl (nA (fun _ => 0)))) :: R) _ := hW
  refine gRv F hW hS dX6_clear_59 ?_
  rfl

