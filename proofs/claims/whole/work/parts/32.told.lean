abbrev rm_X6_cellAt : Room := ({ frames := 0, cells := 0, slots := 0, locals := 0 } : Room)
set_option maxRecDepth 100000 in
set_option maxHeartbeats 4000000 in
theorem c_X6_cellAt (g : gC) (l : Launch) {la : Nat} {a0 : Nat} {a1 : Nat} {a2 : Nat} {a3 : Nat} {a4 : Nat} {a5 : Nat} {ce : Nat → Int32} {f6 : Int32} {f7 : Int32} {f8 : Int32} {f9 : Int32} {f10 : Int32} {f11 : Int32} {f12 : Int32} {f13 : Int32} {f14 : Int32} {f15 : Int32} {f16 : Int32} {x : Int32} {R : va_W} : cI g l yX6_cellAt wsX6_cellAt rm_X6_cellAt 0 0 [.ref la, .int x] ((la, .inr (3, [.ref a0, .ref a1, .ref a2, .ref a3, .ref a4, .ref a5, .int f6, .int f7, .int f8, .int f9, .int f10, .int f11, .int f12, .int f13, .int f14, .int f15, .int f16])) :: (a1, .inl (g.2.1 0, 8, .inl ce)) :: R) (fun r u => (ixS x 8 ce (nI 0)) = r ∧ (la, .inr (3, [.ref a0, .ref a1, .ref a2, .ref a3, .ref a4, .ref a5, .int f6, .int f7, .int f8, .int f9, .int f10, .int f11, .int f12, .int f13, .int f14, .int f15, .int f16])) :: (a1, .inl (g.2.1 0, 8, .inl ce)) :: R = u) := by
  refine gEnterQ (cc := cX6_cellAt) (maxL := 2) (ret := (some (.int))) (by decide +kernel) rfl (Nat.le_of_ble_eq_true rfl) ?_
  intro p e s m below meth c F hG hW ls hl
  have hS : va_S (gA g) s.heap s.heap [] := va_S.rf
  have hl : lv_has ls 2 [(0, .ref la), (1, .int x)] := hl
  have hW : gW g ((la, .inr (3, [.ref a0, .ref a1, .ref a2, .ref a3, .ref a4, .ref a5, .int f6, .int f7, .int f8, .int f9, .int f10, .int f11, .int f12, .int f13, .int f14, .int f15, .int f16])) :: (a1, .inl (g.2.1 0, 8, .inl ce)) :: R) s.heap := hW
  rcases ixc x (n := 8) (by decide) with hx | ⟨j, hj, rfl⟩
  · have hl : lv_has ls 2 [(0, .ref la), (1, .int x)] := hl
    have hW : gW g ((la, .inr (3, [.ref a0, .ref a1, .ref a2, .ref a3, .ref a4, .ref a5, .int f6, .int f7, .int f8, .int f9, .int f10, .int f11, .int f12, .int f13, .int f14, .int f15, .int f16])) :: (a1, .inl (g.2.1 0, 8, .inl ce)) :: R) s.heap := hW
    refine lv_iload_n F.1 F.2.1 dX6_cellAt_0 rfl (lv_at hl 1 rfl) ?_
    refine lv_if_lt (tgt := 19) F.1 F.2.1 dX6_cellAt_1 (by decide) (fun c_1 => ?_) (fun c_1 => ?_)
    · refine lv_iconst (v := nI 0) F.1 F.2.1 dX6_cellAt_19 rfl ?_
      refine gRi F hW hS dX6_cellAt_20 ?_
      exact ⟨ixS_out hx (by decide), rfl⟩
    · refine lv_iload_n F.1 F.2.1 dX6_cellAt_4 rfl (lv_at hl 1 rfl) ?_
      refine lv_bipush (v := nI 8) F.1 F.2.1 dX6_cellAt_5 (by decide) ?_
      refine lv_icmp_ge (tgt := 19) F.1 F.2.1 dX6_cellAt_7 (by decide) (fun c_7 => ?_) (fun q => (ixo2 hx c_1 q).elim)
      refine lv_iconst (v := nI 0) F.1 F.2.1 dX6_cellAt_19 rfl ?_
      refine gRi F hW hS dX6_cellAt_20 ?_
      exact ⟨ixS_out hx (by decide), rfl⟩
  · have hl : lv_has ls 2 [(0, .ref la), (1, .int (nI j))] := hl
    have hW : gW g ((la, .inr (3, [.ref a0, .ref a1, .ref a2, .ref a3, .ref a4, .ref a5, .int f6, .int f7, .int f8, .int f9, .int f10, .int f11, .int f12, .int f13, .int f14, .int f15, .int f16])) :: (a1, .inl (g.2.1 0, 8, .inl ce)) :: R) s.heap := hW
    refine lv_iload_n F.1 F.2.1 dX6_cellAt_0 rfl (lv_at hl 1 rfl) ?_
    refine gIfLt (tgt := 19) F (by omega) dX6_cellAt_1 (by decide) (fun c_1 => by exfalso; omega) (fun c_1 => ?_)
    refine lv_iload_n F.1 F.2.1 dX6_cellAt_4 rfl (lv_at hl 1 rfl) ?_
    refine lv_bipush (v := nI 8) F.1 F.2.1 dX6_cellAt_5 (by decide) ?_
    refine gGe (tgt := 19) F (by omega) (by omega) dX6_cellAt_7 (by decide) (fun c_7 => by exfalso; omega) (fun c_7 => ?_)
    refine lv_aload_n F.1 F.2.1 dX6_cellAt_10 rfl (lv_at hl 0 rfl) ?_
    refine gGet F hG hW nX6_cellAt_X6 0 rfl rfl 1 (by decide) mX6_cellAt_1 rfl dX6_cellAt_11 ?_
    refine lv_iload_n F.1 F.2.1 dX6_cellAt_14 rfl (lv_at hl 1 rfl) ?_
    refine gLdI F hG hW 1 rfl (by omega) (by decide) dX6_cellAt_15 ?_
    refine lv_goto (tgt := 20) F.1 F.2.1 dX6_cellAt_16 (by decide) ?_
    refine gRi F hW hS dX6_cellAt_20 ?_
    exact ⟨ixS_in hj (by decide), rfl⟩

abbrev rm_X6_mostFollowed : Room := ({ frames := 0, cells := 0, slots := 0, locals := 0 } : Room)
theorem mX6_mostFollowed_1 : Cond.fieldLink RX6 24 "StepperHearts$Machine" "followed" "[I" ∈ wsX6_mostFollowed := List.mem_of_getElem? (i := 1) rfl
theorem nX6_mostFollowed_X6 : ∀ w ∈ wsX60, w ∈ wsX6_mostFollowed := fun _ h => List.mem_cons_of_mem _ (List.mem_append_right _ (h))
set_option maxRecDepth 100000 in
set_option maxHeartbeats 4000000 in
theorem c_X6_mostFollowed (g : gC) (l : Launch) {la : Nat} {a0 : Nat} {a1 : Nat} {a2 : Nat} {a3 : Nat} {a4 : Nat} {a5 : Nat} {fw : Nat → Nat} {f6 : Int32} {f7 : Int32} {f8 : Int32} {f9 : Int32} {f10 : Int32} {f11 : Int32} {f12 : Int32} {f13 : Int32} {f14 : Int32} {f15 : Int32} {f16 : Int32} {R : va_W} (hF : ∀ j, fw j < 2 ^ 31) : cI g l yX6_mostFollowed wsX6_mostFollowed rm_X6_mostFollowed 0 0 [.ref la] ((la, .inr (3, [.ref a0, .ref a1, .ref a2, .ref a3, .ref a4, .ref a5, .int f6, .int f7, .int f8, .int f9, .int f10, .int f11, .int f12, .int f13, .int f14, .int f15, .int f16])) :: (a4, .inl (g.2.1 0, 225, .inl (nA fw))) :: R) (fun r u => (oI (mxS fw 225).1) = r ∧ (la, .inr (3, [.ref a0, .ref a1, .ref a2, .ref a3, .ref a4, .ref a5, .int f6, .int f7, .int f8, .int f9, .int f10, .int f11, .int f12, .int f13, .int f14, .int f15, .int f16])) :: (a4, .inl (g.2.1 0, 225, .inl (nA fw))) :: R = u) := by
  refine gEnterQ (cc := cX6_mostFollowed) (maxL := 4) (ret := (some (.int))) (by decide +kernel) rfl (Nat.le_of_ble_eq_true rfl) ?_
  intro p e s m below meth c F hG hW ls hl
  have hS : va_S (gA g) s.heap s.heap [] := va_S.rf
  have hl : lv_has ls 4 [(0, .ref la)] := hl
  have hW : gW g ((la, .inr (3, [.ref a0, .ref a1, .ref a2, .ref a3, .ref a4, .ref a5, .int f6, .int f7, .int f8, .int f9, .int f10, .int f11, .int f12, .int f13, .int f14, .int f15, .int f16])) :: (a4, .inl (g.2.1 0, 225, .inl (nA fw))) :: R) s.heap := hW
  refine lv_iconst (v := -1) F.1 F.2.1 dX6_mostFollowed_0 rfl ?_
  refine lv_istore_n (lv' := [(1, .int (-1)), (0, .ref la)]) F.1 F.2.1 dX6_mostFollowed_1 rfl hl (by decide) rfl (fun ls hl => ?_)
  refine lv_iconst (v := nI 0) F.1 F.2.1 dX6_mostFollowed_2 rfl ?_
  refine lv_istore_n (lv' := [(2, .int (nI 0)), (1, .int (-1)), (0, .ref la)]) F.1 F.2.1 dX6_mostFollowed_3 rfl hl (by decide) rfl (fun ls hl => ?_)
  refine lv_iconst (v := nI 0) F.1 F.2.1 dX6_mostFollowed_4 rfl ?_
  refine lv_istore_n (lv' := [(3, .int (nI 0)), (2, .int (nI 0)), (1, .int (-1)), (0, .ref la)]) F.1 F.2.1 dX6_mostFollowed_5 rfl hl (by decide) rfl (fun ls hl => ?_)
  have L_6 : ∀ (fu : Nat), ∀ (b : Option Nat) (h9 : Nat) (i : Nat) (hi : i ≤ 225) (hb : mxS fw i = (b, h9)) (hh : h9 < 2 ^ 31) (hm_6 : 225 - i < fu) (H : Heap) (locs : List Loc) (ls : Array Slot) (hW : gW g ((la, .inr (3, [.ref a0, .ref a1, .ref a2, .ref a3, .ref a4, .ref a5, .int f6, .int f7, .int f8, .int f9, .int f10, .int f11, .int f12, .int f13, .int f14, .int f15, .int f16])) :: (a4, .inl (g.2.1 0, 225, .inl (nA fw))) :: R) H) (hS : va_S (gA g) s.heap H locs) (hl : lv_has ls 4 [(0, .ref la), (1, .int (oI b)), (2, .int (nI h9)), (3, .int (nI i))]), W p l e (headSpec wsX6_mostFollowed rm_X6_mostFollowed).room s m ([.ref la] : List Value).toArray below meth c H locs 0 0 (MQ below (va_Qi (fun r u => (oI (mxS fw 225).1) = r ∧ (la, .inr (3, [.ref a0, .ref a1, .ref a2, .ref a3, .ref a4, .ref a5, .int f6, .int f7, .int f8, .int f9, .int f10, .int f11, .int f12, .int f13, .int f14, .int f15, .int f16])) :: (a4, .inl (g.2.1 0, 225, .inl (nA fw))) :: R = u) (fun u t => gW g u t.heap) (gA g)) ([.ref la] : List Value).toArray s 0 0 (gA g)) (F0 m 6 ls []) := by
    intro fu
    induction fu with
    | zero =>
      intros _ _ _ _ _ _ hm_6
      exact absurd hm_6 (Nat.not_lt_zero _)
    | succ fu ih_6 =>
      intro b h9 i hi hb hh hm_6 H locs ls hW hS hl
      refine lv_iload_n F.1 F.2.1 dX6_mostFollowed_6 rfl (lv_at hl 3 rfl) ?_
      refine lv_sipush (v := nI 225) F.1 F.2.1 dX6_mostFollowed_7 (by decide) ?_
      refine gGe (tgt := 38) F (by omega) (by omega) dX6_mostFollowed_10 (by decide) (fun c_10 => ?_) (fun c_10 => ?_)
      · refine lv_iload_n F.1 F.2.1 dX6_mostFollowed_38 rfl (lv_at hl 1 rfl) ?_
        refine gRi F hW hS dX6_mostFollowed_39 ?_
        have hi9 : i = 225 := by omega
        subst hi9
        exact ⟨by rw [hb], rfl⟩
      · refine lv_aload_n F.1 F.2.1 dX6_mostFollowed_13 rfl (lv_at hl 0 rfl) ?_
        refine gGet F hG hW nX6_mostFollowed_X6 0 rfl rfl 4 (by decide) mX6_mostFollowed_1 rfl dX6_mostFollowed_14 ?_
        refine lv_iload_n F.1 F.2.1 dX6_mostFollowed_17 rfl (lv_at hl 3 rfl) ?_
        have hF9 := hF i
        refine gLdI F hG hW 1 rfl (by omega) (by decide) dX6_mostFollowed_18 ?_
        refine gTop (y := nI (fw i)) rfl ?_
        refine lv_iload_n F.1 F.2.1 dX6_mostFollowed_19 rfl (lv_at hl 2 rfl) ?_
        refine gLe (tgt := 32) F (by omega) (by omega) dX6_mostFollowed_20 (by decide) (fun c_20 => ?_) (fun c_20 => ?_)
        · refine lv_iinc (v := nI (i + 1)) (lv' := [(3, .int (nI (i + 1))), (0, .ref la), (1, .int (oI b)), (2, .int (nI h9))]) F.1 F.2.1 dX6_mostFollowed_32 hl (k := 3) rfl (nI_add i 1) (by decide) rfl (fun ls hl => ?_)
          refine lv_goto (tgt := 6) F.1 F.2.1 dX6_mostFollowed_35 (by decide) ?_
          exact ih_6 b h9 (i + 1) (by omega) (by rw [mxS, hb, if_neg (Nat.not_lt.mpr c_20)]) hh (by omega) _ _ _ hW hS (lv_sub hl [1, 2, 3, 0] rfl)
        · refine lv_aload_n F.1 F.2.1 dX6_mostFollowed_23 rfl (lv_at hl 0 rfl) ?_
          refine gGet F hG hW nX6_mostFollowed_X6 0 rfl rfl 4 (by decide) mX6_mostFollowed_1 rfl dX6_mostFollowed_24 ?_
          refine lv_iload_n F.1 F.2.1 dX6_mostFollowed_27 rfl (lv_at hl 3 rfl) ?_
          refine gLdI F hG hW 1 rfl (by omega) (by decide) dX6_mostFollowed_28 ?_
          refine gTop (y := nI (fw i)) rfl ?_
          refine lv_istore_n (lv' := [(2, .int (nI (fw i))), (0, .ref la), (1, .int (oI b)), (3, .int (nI i))]) F.1 F.2.1 dX6_mostFollowed_29 rfl hl (by decide) rfl (fun ls hl => ?_)
          refine lv_iload_n F.1 F.2.1 dX6_mostFollowed_30 rfl (lv_at hl 3 rfl) ?_
          refine lv_istore_n (lv' := [(1, .int (nI i)), (2, .int (nI (fw i))), (0, .ref la), (3, .int (nI i))]) F.1 F.2.1 dX6_mostFollowed_31 rfl hl (by decide) rfl (fun ls hl => ?_)
          refine lv_iinc (v := nI (i + 1)) (lv' := [(3, .int (nI (i + 1))), (1, .int (nI i)), (2, .int (nI (fw i))), (0, .ref la)]) F.1 F.2.1 dX6_mostFollowed_32 hl (k := 3) rfl (nI_add i 1) (by decide) rfl (fun ls hl => ?_)
          refine lv_goto (tgt := 6) F.1 F.2.1 dX6_mostFollowed_35 (by decide) ?_
          exact ih_6 (some i) (fw i) (i + 1) (by omega) (by rw [mxS, hb, if_pos c_20]) (hF i) (by omega) _ _ _ hW hS (lv_sub hl [3, 1, 2, 0] rfl)
  exact L_6 _ none 0 0 (by omega) rfl (by omega) (Nat.lt_succ_self _) _ _ _ hW hS (lv_sub hl [3, 2, 1, 0] rfl)

abbrev rm_X11_cell : Room := ({ frames := 1, cells := 0, slots := 0, locals := 21 } : Room)
theorem mX11_cell_1 : Cond.fieldLink RX11 63 "StepperHearts" "latest" "LStepperHearts$Machine;" ∈ wsX11_cell := List.mem_of_getElem? (i := 1) rfl
theorem nX11_cell_X11 : ∀ w ∈ wsX110, w ∈ wsX11_cell := fun _ h => List.mem_cons_of_mem _ (List.mem_append_left _ (List.mem_append_right _ (h)))
set_option maxRecDepth 100000 in
set_option maxHeartbeats 4000000 in
theorem c_X11_cell (g : gC) (l : Launch) {o : Nat} {ta : Nat} {rd : Nat} {jn : Nat} {sw : Nat} {rt : Nat} {jh : Nat} {kh : Nat} {th : Nat} {la : Nat} {a0 : Nat} {a1 : Nat} {a2 : Nat} {a3 : Nat} {a4 : Nat} {a5 : Nat} {lb : Nat} {cu : Nat} {sq : Nat} {tl : Nat} {lf : Nat} {lt : Nat} {inp : Int32} {bp : Int32} {hr : Bool} {pn : Nat} {en : Int32} {st : Nat} {sp : Nat} {ht : Nat} {hi : Nat} {oc : Nat} {pl : Nat} {fk : Int32} {tc : Nat} {ce : Nat → Int32} {x : Int32} {R : va_W} : cI g l yX11_cell wsX11_cell rm_X11_cell 0 0 [.ref o, .int x] ((o, .inr (8, [.ref ta, .ref rd, .ref jn, .ref sw, .ref rt, .ref jh, .ref kh, .ref th, .ref la, .ref lb, .ref cu, .ref sq, .int (nI tl), .int (nI lf), .int inp, .int bp, .int (nI lt)])) :: (la, .inr (3, [.ref a0, .ref a1, .ref a2, .ref a3, .ref a4, .ref a5, .int (bI hr), .int (nI pn), .int en, .int (nI st), .int (nI sp), .int (nI ht), .int (nI hi), .int (nI oc), .int (nI pl), .int fk, .int (nI tc)])) :: (a1, .inl (g.2.1 0, 8, .inl ce)) :: R) (fun r u => (ixS x 8 ce (nI 0)) = r ∧ (o, .inr (8, [.ref ta, .ref rd, .ref jn, .ref sw, .ref rt, .ref jh, .ref kh, .ref th, .ref la, .ref lb, .ref cu, .ref sq, .int (nI tl), .int (nI lf), .int inp, .int bp, .int (nI lt)])) :: (la, .inr (3, [.ref a0, .ref a1, .ref a2, .ref a3, .ref a4, .ref a5, .int (bI hr), .int (nI pn), .int en, .int (nI st), .int (nI sp), .int (nI ht), .int (nI hi), .int (nI oc), .int (nI pl), .int fk, .int (nI tc)])) :: (a1, .inl (g.2.1 0, 8, .inl ce)) :: R = u) := by
  refine gEnterQ (cc := cX11_cell) (maxL := 2) (ret := (some (.int))) (by decide +kernel) rfl (Nat.le_of_ble_eq_true rfl) ?_
  intro p e s m below meth c F hG hW ls hl
  have hS : va_S (gA g) s.heap s.heap [] := va_S.rf
  have hl : lv_has ls 2 [(0, .ref o), (1, .int x)] := hl
  have hW : gW g ((o, .inr (8, [.ref ta, .ref rd, .ref jn, .ref sw, .ref rt, .ref jh, .ref kh, .ref th, .ref la, .ref lb, .ref cu, .ref sq, .int (nI tl), .int (nI lf), .int inp, .int bp, .int (nI lt)])) :: (la, .inr (3, [.ref a0, .ref a1, .ref a2, .ref a3, .ref a4, .ref a5, .int (bI hr), .int (nI pn), .int en, .int (nI st), .int (nI sp), .int (nI ht), .int (nI hi), .int (nI oc), .int (nI pl), .int fk, .int (nI tc)])) :: (a1, .inl (g.2.1 0, 8, .inl ce)) :: R) s.heap := hW
  refine lv_aload_n F.1 F.2.1 dX11_cell_0 rfl (lv_at hl 0 rfl) ?_
  refine gGet F hG hW nX11_cell_X11 0 rfl rfl 8 (by decide) mX11_cell_1 rfl dX11_cell_1 ?_
  refine lv_iload_n F.1 F.2.1 dX11_cell_4 rfl (lv_at hl 1 rfl) ?_
  have hW := gW.re (l := [(o, .inr (8, [.ref ta, .ref rd, .ref jn, .ref sw, .ref rt, .ref jh, .ref kh, .ref th, .ref la, .ref lb, .ref cu, .ref sq, .int (nI tl), .int (nI lf), .int inp, .int bp, .int (nI lt)])), (la, .inr (3, [.ref a0, .ref a1, .ref a2, .ref a3, .ref a4, .ref a5, .int (bI hr), .int (nI pn), .int en, .int (nI st), .int (nI sp), .int (nI ht), .int (nI hi), .int (nI oc), .int (nI pl), .int fk, .int (nI tc)])), (a1, .inl (g.2.1 0, 8, .inl ce))]) (l' := [(la, .inr (3, [.ref a0, .ref a1, .ref a2, .ref a3, .ref a4, .ref a5, .int (bI hr), .int (nI pn), .int en, .int (nI st), .int (nI sp), .int (nI ht), .int (nI hi), .int (nI oc), .int (nI pl), .int fk, .int (nI tc)])), (a1, .inl (g.2.1 0, 8, .inl ce)), (o, .inr (8, [.ref ta, .ref rd, .ref jn, .ref sw, .ref rt, .ref jh, .ref kh, .ref th, .ref la, .ref lb, .ref cu, .ref sq, .int (nI tl), .int (nI lf), .int inp, .int bp, .int (nI lt)]))]) (R := R) hW [1, 2, 0] 3 rfl (by decide) rfl
  have hW : gW g ((la, .inr (3, [.ref a0, .ref a1, .ref a2, .ref a3, .ref a4, .ref a5, .int (bI hr), .int (nI pn), .int en, .int (nI st), .int (nI sp), .int (nI ht), .int (nI hi), .int (nI oc), .int (nI pl), .int fk, .int (nI tc)])) :: (a1, .inl (g.2.1 0, 8, .inl ce)) :: (o, .inr (8, [.ref ta, .ref rd, .ref jn, .ref sw, .ref rt, .ref jh, .ref kh, .ref th, .ref la, .ref lb, .ref cu, .ref sq, .int (nI tl), .int (nI lf), .int inp, .int bp, .int (nI lt)])) :: R) _ := hW
  refine gVi (n := 1) (q := (RX6, TX6, 17)) (q0 := 0) (As := [.int x]) F hG hS hW (c_X6_cellAt g l  ) rfl gX11_cell_X6_cellAt rfl rfl rfl (by decide +kernel) ⟨rfl, rfl, Nat.le_of_ble_eq_true rfl, Nat.le_of_ble_eq_true rfl⟩ hl.1 (Nat.le_of_ble_eq_true rfl) ⟨Nat.le_of_ble_eq_true rfl, Nat.le_of_ble_eq_true rfl⟩ rfl rfl dX11_cell_5 (fun r u H locs hq hW hS => ?_)
  obtain ⟨rfl, rfl⟩ := hq
  have hW : gW g ((la, .inr (3, [.ref a0, .ref a1, .ref a2, .ref a3, .ref a4, .ref a5, .int (bI hr), .int (nI pn), .int en, .int (nI st), .int (nI sp), .int (nI ht), .int (nI hi), .int (nI oc), .int (nI pl), .int fk, .int (nI tc)])) :: (a1, .inl (g.2.1 0, 8, .inl ce)) :: (o, .inr (8, [.ref ta, .ref rd, .ref jn, .ref sw, .ref rt, .ref jh, .ref kh, .ref th, .ref la, .ref lb, .ref cu, .ref sq, .int (nI tl), .int (nI lf), .int inp, .int bp, .int (nI lt)])) :: R) _ := hW
  have hW := gW.re (l := [(la, .inr (3, [.ref a0, .ref a1, .ref a2, .ref a3, .ref a4, .ref a5, .int (bI hr), .int (nI pn), .int en, .int (nI st), .int (nI sp), .int (nI ht), .int (nI hi), .int (nI oc), .int (nI pl), .int fk, .int (nI tc)])), (a1, .inl (g.2.1 0, 8, .inl ce)), (o, .inr (8, [.ref ta, .ref rd, .ref jn, .ref sw, .ref rt, .ref jh, .ref kh, .ref th, .ref la, .ref lb, .ref cu, .ref sq, .int (nI tl), .int (nI lf), .int inp, .int bp, .int (nI lt)]))]) (l' := [(o, .inr (8, [.ref ta, .ref rd, .ref jn, .ref sw, .ref rt, .ref jh, .ref kh, .ref th, .ref la, .ref lb, .ref cu, .ref sq, .int (nI tl), .int (nI lf), .int inp, .int bp, .int (nI lt)])), (la, .inr (3, [.ref a0, .ref a1, .ref a2, .ref a3, .ref a4, .ref a5, .int (bI hr), .int (nI pn), .int en, .int (nI st), .int (nI sp), .int (nI ht), .int (nI hi), .int (nI oc), .int (nI pl), .int fk, .int (nI tc)])), (a1, .inl (g.2.1 0, 8, .inl ce))]) (R := R) hW [2, 0, 1] 3 rfl (by decide) rfl
  have hW : gW g ((o, .inr (8, [.ref ta, .ref rd, .ref jn, .ref sw, .ref rt, .ref jh, .ref kh, .ref th, .ref la, .ref lb, .ref cu, .ref sq, .int (nI tl), .int (nI lf), .int inp, .int bp, .int (nI lt)])) :: (la, .inr (3, [.ref a0, .ref a1, .ref a2, .ref a3, .ref a4, .ref a5, .int (bI hr), .int (nI pn), .int en, .int (nI st), .int (nI sp), .int (nI ht), .int (nI hi), .int (nI oc), .int (nI pl), .int fk, .int (nI tc)])) :: (a1, .inl (g.2.1 0, 8, .inl ce)) :: R) _ := hW
  refine gRi F hW hS dX11_cell_8 ?_
  exact ⟨rfl, rfl⟩

abbrev rm_X11_did : Room := ({ frames := 1, cells := 0, slots := 0, locals := 20 } : Room)
theorem mX11_did_1 : Cond.fieldLink RX11 63 "StepperHearts" "latest" "LStepperHearts$Machine;" ∈ wsX11_did := List.mem_of_getElem? (i := 1) rfl
theorem nX11_did_X11 : ∀ w ∈ wsX110, w ∈ wsX11_did := fun _ h => List.mem_cons_of_mem _ (List.mem_append_left _ (List.mem_append_right _ (h)))
theorem fX11_did_167 : (yX11_did.cls, 167, "StepperHearts$Machine", "hasRun", "Z", "StepperHearts") ∈ gNF := List.mem_of_getElem? (i := 7) rfl
theorem nX11_did_X6 : ∀ w ∈ wsX60, w ∈ wsX11_did := fun _ h => List.mem_cons_of_mem _ (List.mem_append_right _ (h))
theorem fX11_did_207 : (yX11_did.cls, 207, "StepperHearts$Machine", "done", "[I", "StepperHearts") ∈ gNF := List.mem_of_getElem? (i := 4) rfl
set_option maxRecDepth 100000 in
set_option maxHeartbeats 4000000 in
theorem c_X11_did (g : gC) (l : Launch) {o : Nat} {ta : Nat} {rd : Nat} {jn : Nat} {sw : Nat} {rt : Nat} {jh : Nat} {kh : Nat} {th : Nat} {la : Nat} {a0 : Nat} {a1 : Nat} {a2 : Nat} {a3 : Nat} {a4 : Nat} {a5 : Nat} {lb : Nat} {cu : Nat} {sq : Nat} {tl : Nat} {lf : Nat} {lt : Nat} {inp : Int32} {bp : Int32} {hr : Bool} {pn : Nat} {en : Int32} {st : Nat} {sp : Nat} {ht : Nat} {hi : Nat} {oc : Nat} {pl : Nat} {fk : Int32} {tc : Nat} {dn : Nat → Nat} {x : Int32} {R : va_W} : cI g l yX11_did wsX11_did rm_X11_did 0 0 [.ref o, .int x] ((o, .inr (8, [.ref ta, .ref rd, .ref jn, .ref sw, .ref rt, .ref jh, .ref kh, .ref th, .ref la, .ref lb, .ref cu, .ref sq, .int (nI tl), .int (nI lf), .int inp, .int bp, .int (nI lt)])) :: (la, .inr (3, [.ref a0, .ref a1, .ref a2, .ref a3, .ref a4, .ref a5, .int (bI hr), .int (nI pn), .int en, .int (nI st), .int (nI sp), .int (nI ht), .int (nI hi), .int (nI oc), .int (nI pl), .int fk, .int (nI tc)])) :: (a3, .inl (g.2.1 0, 15, .inl (nA dn))) :: R) (fun r u => (if hr = true then ixS x 15 (fun j => nI (dn j)) (-1) else -1) = r ∧ (o, .inr (8, [.ref ta, .ref rd, .ref jn, .ref sw, .ref rt, .ref jh, .ref kh, .ref th, .ref la, .ref lb, .ref cu, .ref sq, .int (nI tl), .int (nI lf), .int inp, .int bp, .int (nI lt)])) :: (la, .inr (3, [.ref a0, .ref a1, .ref a2, .ref a3, .ref a4, .ref a5, .int (bI hr), .int (nI pn), .int en, .int (nI st), .int (nI sp), .int (nI ht), .int (nI hi), .int (nI oc), .int (nI pl), .int fk, .int (nI tc)])) :: (a3, .inl (g.2.1 0, 15, .inl (nA dn))) :: R = u) := by
  refine gEnterQ (cc := cX11_did) (maxL := 2) (ret := (some (.int))) (by decide +kernel) rfl (Nat.le_of_ble_eq_true rfl) ?_
  intro p e s m below meth c F hG hW ls hl
  have hS : va_S (gA g) s.heap s.heap [] := va_S.rf
  have hl : lv_has ls 2 [(0, .ref o), (1, .int x)] := hl
  have hW : gW g ((o, .inr (8, [.ref ta, .ref rd, .ref jn, .ref sw, .ref rt, .ref jh, .ref kh, .ref th, .ref la, .ref lb, .ref cu, .ref sq, .int (nI tl), .int (nI lf), .int inp, .int bp, .int (nI lt)])) :: (la, .inr (3, [.ref a0, .ref a1, .ref a2, .ref a3, .ref a4, .ref a5, .int (bI hr), .int (nI pn), .int en, .int (nI st), .int (nI sp), .int (nI ht), .int (nI hi), .int (nI oc), .int (nI pl), .int fk, .int (nI tc)])) :: (a3, .inl (g.2.1 0, 15, .inl (nA dn))) :: R) s.heap := hW
  rcases ixc x (n := 15) (by decide) with hx | ⟨j, hj, rfl⟩
  · have hl : lv_has ls 2 [(0, .ref o), (1, .int x)] := hl
    have hW : gW g ((o, .inr (8, [.ref ta, .ref rd, .ref jn, .ref sw, .ref rt, .ref jh, .ref kh, .ref th, .ref la, .ref lb, .ref cu, .ref sq, .int (nI tl), .int (nI lf), .int inp, .int bp, .int (nI lt)])) :: (la, .inr (3, [.ref a0, .ref a1, .ref a2, .ref a3, .ref a4, .ref a5, .int (bI hr), .int (nI pn), .int en, .int (nI st), .int (nI sp), .int (nI ht), .int (nI hi), .int (nI oc), .int (nI pl), .int fk, .int (nI tc)])) :: (a3, .inl (g.2.1 0, 15, .inl (nA dn))) :: R) s.heap := hW
    refine lv_aload_n F.1 F.2.1 dX11_did_0 rfl (lv_at hl 0 rfl) ?_
    refine gGet F hG hW nX11_did_X11 0 rfl rfl 8 (by decide) mX11_did_1 rfl dX11_did_1 ?_
    refine gGetN F hG hW nX11_did_X6 1 rfl rfl 6 (by decide) fX11_did_167 rfl dX11_did_4 ?_
    refine gIfEqB (tgt := 17) F dX11_did_7 (by decide) (fun c_7 => ?_) (fun c_7 => ?_)
    · refine lv_iconst (v := -1) F.1 F.2.1 dX11_did_17 rfl ?_
      refine gRi F hW hS dX11_did_18 ?_
      exact ⟨if_neg (by rw [c_7]; decide), rfl⟩
    · refine lv_iload_n F.1 F.2.1 dX11_did_10 rfl (lv_at hl 1 rfl) ?_
      refine gS_i (n := 1) (As := [.int x]) F hG hS hW (c_X11_isKind_o g l  hx) rfl gX11_did_X11_isKind (by decide +kernel) ⟨rfl, rfl, Nat.le_of_ble_eq_true rfl, Nat.le_of_ble_eq_true rfl⟩ hl.1 (Nat.le_of_ble_eq_true rfl) ⟨Nat.le_of_ble_eq_true rfl, Nat.le_of_ble_eq_true rfl⟩ rfl rfl dX11_did_11 (fun r u H locs hq hW hS => ?_)
      obtain ⟨rfl, rfl⟩ := hq
      have hW : gW g ((o, .inr (8, [.ref ta, .ref rd, .ref jn, .ref sw, .ref rt, .ref jh, .ref kh, .ref th, .ref la, .ref lb, .ref cu, .ref sq, .int (nI tl), .int (nI lf), .int inp, .int bp, .int (nI lt)])) :: (la, .inr (3, [.ref a0, .ref a1, .ref a2, .ref a3, .ref a4, .ref a5, .int (bI hr), .int (nI pn), .int en, .int (nI st), .int (nI sp), .int (nI ht), .int (nI hi), .int (nI oc), .int (nI pl), .int fk, .int (nI tc)])) :: (a3, .inl (g.2.1 0, 15, .inl (nA dn))) :: R) _ := hW
      refine gIfNeB (tgt := 19) F dX11_did_14 (by decide) (fun q => by simp at q) (fun c_14 => ?_)
      refine lv_iconst (v := -1) F.1 F.2.1 dX11_did_17 rfl ?_
      refine gRi F hW hS dX11_did_18 ?_
      exact ⟨(if_pos c_7).trans (ixS_out hx (by decide)), rfl⟩
  · have hl : lv_has ls 2 [(0, .ref o), (1, .int (nI j))] := hl
    have hW : gW g ((o, .inr (8, [.ref ta, .ref rd, .ref jn, .ref sw, .ref rt, .ref jh, .ref kh, .ref th, .ref la, .ref lb, .ref cu, .ref sq, .int (nI tl), .int (nI lf), .int inp, .int bp, .int (nI lt)])) :: (la, .inr (3, [.ref a0, .ref a1, .ref a2, .ref a3, .ref a4, .ref a5, .int (bI hr), .int (nI pn), .int en, .int (nI st), .int (nI sp), .int (nI ht), .int (nI hi), .int (nI oc), .int (nI pl), .int fk, .int (nI tc)])) :: (a3, .inl (g.2.1 0, 15, .inl (nA dn))) :: R) s.heap := hW
    refine lv_aload_n F.1 F.2.1 dX11_did_0 rfl (lv_at hl 0 rfl) ?_
    refine gGet F hG hW nX11_did_X11 0 rfl rfl 8 (by decide) mX11_did_1 rfl dX11_did_1 ?_
    refine gGetN F hG hW nX11_did_X6 1 rfl rfl 6 (by decide) fX11_did_167 rfl dX11_did_4 ?_
    refine gIfEqB (tgt := 17) F dX11_did_7 (by decide) (fun c_7 => ?_) (fun c_7 => ?_)
    · refine lv_iconst (v := -1) F.1 F.2.1 dX11_did_17 rfl ?_
      refine gRi F hW hS dX11_did_18 ?_
      exact ⟨if_neg (by rw [c_7]; decide), rfl⟩
    · refine lv_iload_n F.1 F.2.1 dX11_did_10 rfl (lv_at hl 1 rfl) ?_
      refine gS_i (n := 1) (As := [.int (nI j)]) F hG hS hW (c_X11_isKind_n g l  hj) rfl gX11_did_X11_isKind (by decide +kernel) ⟨rfl, rfl, Nat.le_of_ble_eq_true rfl, Nat.le_of_ble_eq_true rfl⟩ hl.1 (Nat.le_of_ble_eq_true rfl) ⟨Nat.le_of_ble_eq_true rfl, Nat.le_of_ble_eq_true rfl⟩ rfl rfl dX11_did_11 (fun r u H locs hq hW hS => ?_)
      obtain ⟨rfl, rfl⟩ := hq
      have hW : gW g ((o, .inr (8, [.ref ta, .ref rd, .ref jn, .ref sw, .ref rt, .ref jh, .ref kh, .ref th, .ref la, .ref lb, .ref cu, .ref sq, .int (nI tl), .int (nI lf), .int inp, .int bp, .int (nI lt)])) :: (la, .inr (3, [.ref a0, .ref a1, .ref a2, .ref a3, .ref a4, .ref a5, .int (bI hr), .int (nI pn), .int en, .int (nI st), .int (nI sp), .int (nI ht), .int (nI hi), .int (nI oc), .int (nI pl), .int fk, .int (nI tc)])) :: (a3, .inl (g.2.1 0, 15, .inl (nA dn))) :: R) _ := hW
      refine gIfNeB (tgt := 19) F dX11_did_14 (by decide) (fun c_14 => ?_) (fun q => by simp at q)
      refine lv_aload_n F.1 F.2.1 dX11_did_19 rfl (lv_at hl 0 rfl) ?_
      refine gGet F hG hW nX11_did_X11 0 rfl rfl 8 (by decide) mX11_did_1 rfl dX11_did_20 ?_
      refine gGetN F hG hW nX11_did_X6 1 rfl rfl 3 (by decide) fX11_did_207 rfl dX11_did_23 ?_
      refine lv_iload_n F.1 F.2.1 dX11_did_26 rfl (lv_at hl 1 rfl) ?_
      refine gLdI F hG hW 2 rfl (by omega) (by decide) dX11_did_27 ?_
      refine gTop (y := nI (dn j)) rfl ?_
      refine gRi F hW hS dX11_did_28 ?_
      exact ⟨(if_pos c_7).trans (ixS_in hj (by decide)), rfl⟩

abbrev rm_X11_follows : Room := ({ frames := 1, cells := 0, slots := 0, locals := 21 } : Room)
theorem mX11_follows_1 : Cond.fieldLink RX11 63 "StepperHearts" "latest" "LStepperHearts$Machine;" ∈ wsX11_follows := List.mem_of_getElem? (i := 1) rfl
theorem nX11_follows_X11 : ∀ w ∈ wsX110, w ∈ wsX11_follows := fun _ h => List.mem_cons_of_mem _ (List.mem_append_left _ (List.mem_append_right _ (h)))
theorem fX11_follows_167 : (yX11_follows.cls, 167, "StepperHearts$Machine", "hasRun", "Z", "StepperHearts") ∈ gNF := List.mem_of_getElem? (i := 7) rfl
theorem nX11_follows_X6 : ∀ w ∈ wsX60, w ∈ wsX11_follows := fun _ h => List.mem_cons_of_mem _ (List.mem_append_right _ (h))
theorem fX11_follows_210 : (yX11_follows.cls, 210, "StepperHearts$Machine", "followed", "[I", "StepperHearts") ∈ gNF := List.mem_of_getElem? (i := 5) rfl
set_option maxRecDepth 100000 in
set_option maxHeartbeats 4000000 in
theorem c_X11_follows (g : gC) (l : Launch) {o : Nat} {ta : Nat} {rd : Nat} {jn : Nat} {sw : Nat} {rt : Nat} {jh : Nat} {kh : Nat} {th : Nat} {la : Nat} {a0 : Nat} {a1 : Nat} {a2 : Nat} {a3 : Nat} {a4 : Nat} {a5 : Nat} {lb : Nat} {cu : Nat} {sq : Nat} {tl : Nat} {lf : Nat} {lt : Nat} {inp : Int32} {bp : Int32} {hr : Bool} {pn : Nat} {en : Int32} {st : Nat} {sp : Nat} {ht : Nat} {hi : Nat} {oc : Nat} {pl : Nat} {fk : Int32} {tc : Nat} {fw : Nat → Nat} {x : Int32} {y : Int32} {R : va_W} : cI g l yX11_follows wsX11_follows rm_X11_follows 0 0 [.ref o, .int x, .int y] ((o, .inr (8, [.ref ta, .ref rd, .ref jn, .ref sw, .ref rt, .ref jh, .ref kh, .ref th, .ref la, .ref lb, .ref cu, .ref sq, .int (nI tl), .int (nI lf), .int inp, .int bp, .int (nI lt)])) :: (la, .inr (3, [.ref a0, .ref a1, .ref a2, .ref a3, .ref a4, .ref a5, .int (bI hr), .int (nI pn), .int en, .int (nI st), .int (nI sp), .int (nI ht), .int (nI hi), .int (nI oc), .int (nI pl), .int fk, .int (nI tc)])) :: (a4, .inl (g.2.1 0, 225, .inl (nA fw))) :: R) (fun r u => (if hr = true then ixS x 15 (fun j => ixS y 15 (fun k => nI (fw (j * 15 + k))) (-1)) (-1) else -1) = r ∧ (o, .inr (8, [.ref ta, .ref rd, .ref jn, .ref sw, .ref rt, .ref jh, .ref kh, .ref th, .ref la, .ref lb, .ref cu, .ref sq, .int (nI tl), .int (nI lf), .int inp, .int bp, .int (nI lt)])) :: (la, .inr (3, [.ref a0, .ref a1, .ref a2, .ref a3, .ref a4, .ref a5, .int (bI hr), .int (nI pn), .int en, .int (nI st), .int (nI sp), .int (nI ht), .int (nI hi), .int (nI oc), .int (nI pl), .int fk, .int (nI tc)])) :: (a4, .inl (g.2.1 0, 225, .inl (nA fw))) :: R = u) := by
  refine gEnterQ (cc := cX11_follows) (maxL := 3) (ret := (some (.int))) (by decide +kernel) rfl (Nat.le_of_ble_eq_true rfl) ?_
  intro p e s m below meth c F hG hW ls hl
  have hS : va_S (gA g) s.heap s.heap [] := va_S.rf
  have hl : lv_has ls 3 [(0, .ref o), (1, .int x), (2, .int y)] := hl
  have hW : gW g ((o, .inr (8, [.ref ta, .ref rd, .ref jn, .ref sw, .ref rt, .ref jh, .ref kh, .ref th, .ref la, .ref lb, .ref cu, .ref sq, .int (nI tl), .int (nI lf), .int inp, .int bp, .int (nI lt)])) :: (la, .inr (3, [.ref a0, .ref a1, .ref a2, .ref a3, .ref a4, .ref a5, .int (bI hr), .int (nI pn), .int en, .int (nI st), .int (nI sp), .int (nI ht), .int (nI hi), .int (nI oc), .int (nI pl), .int fk, .int (nI tc)])) :: (a4, .inl (g.2.1 0, 225, .inl (nA fw))) :: R) s.heap := hW
  rcases ixc x (n := 15) (by decide) with hx | ⟨j, hj, rfl⟩
  · have hl : lv_has ls 3 [(0, .ref o), (1, .int x), (2, .int y)] := hl
    have hW : gW g ((o, .inr (8, [.ref ta, .ref rd, .ref jn, .ref sw, .ref rt, .ref jh, .ref kh, .ref th, .ref la, .ref lb, .ref cu, .ref sq, .int (nI tl), .int (nI lf), .int inp, .int bp, .int (nI lt)])) :: (la, .inr (3, [.ref a0, .ref a1, .ref a2, .ref a3, .ref a4, .ref a5, .int (bI hr), .int (nI pn), .int en, .int (nI st), .int (nI sp), .int (nI ht), .int (nI hi), .int (nI oc), .int (nI pl), .int fk, .int (nI tc)])) :: (a4, .inl (g.2.1 0, 225, .inl (nA fw))) :: R) s.heap := hW
    refine lv_aload_n F.1 F.2.1 dX11_follows_0 rfl (lv_at hl 0 rfl) ?_
    refine gGet F hG hW nX11_follows_X11 0 rfl rfl 8 (by decide) mX11_follows_1 rfl dX11_follows_1 ?_
    refine gGetN F hG hW nX11_follows_X6 1 rfl rfl 6 (by decide) fX11_follows_167 rfl dX11_follows_4 ?_
    refine gIfEqB (tgt := 24) F dX11_follows_7 (by decide) (fun c_7 => ?_) (fun c_7 => ?_)
    · refine lv_iconst (v := -1) F.1 F.2.1 dX11_follows_24 rfl ?_
      refine gRi F hW hS dX11_follows_25 ?_
      exact ⟨if_neg (by rw [c_7]; decide), rfl⟩
    · refine lv_iload_n F.1 F.2.1 dX11_follows_10 rfl (lv_at hl 1 rfl) ?_
      refine gS_i (n := 1) (As := [.int x]) F hG hS hW (c_X11_isKind_o g l  hx) rfl gX11_follows_X11_isKind (by decide +kernel) ⟨rfl, rfl, Nat.le_of_ble_eq_true rfl, Nat.le_of_ble_eq_true rfl⟩ hl.1 (Nat.le_of_ble_eq_true rfl) ⟨Nat.le_of_ble_eq_true rfl, Nat.le_of_ble_eq_true rfl⟩ rfl rfl dX11_follows_11 (fun r u H locs hq hW hS => ?_)
      obtain ⟨rfl, rfl⟩ := hq
      have hW : gW g ((o, .inr (8, [.ref ta, .ref rd, .ref jn, .ref sw, .ref rt, .ref jh, .ref kh, .ref th, .ref la, .ref lb, .ref cu, .ref sq, .int (nI tl), .int (nI lf), .int inp, .int bp, .int (nI lt)])) :: (la, .inr (3, [.ref a0, .ref a1, .ref a2, .ref a3, .ref a4, .ref a5, .int (bI hr), .int (nI pn), .int en, .int (nI st), .int (nI sp), .int (nI ht), .int (nI hi), .int (nI oc), .int (nI pl), .int fk, .int (nI tc)])) :: (a4, .inl (g.2.1 0, 225, .inl (nA fw))) :: R) _ := hW
      refine gIfEqB (tgt := 24) F dX11_follows_14 (by decide) (fun c_14 => ?_) (fun q => by simp at q)
      refine lv_iconst (v := -1) F.1 F.2.1 dX11_follows_24 rfl ?_
      refine gRi F hW hS dX11_follows_25 ?_
      exact ⟨(if_pos c_7).trans (ixS_out hx (by decide)), rfl⟩
  · have hl : lv_has ls 3 [(0, .ref o), (1, .int (nI j)), (2, .int y)] := hl
    have hW : gW g ((o, .inr (8, [.ref ta, .ref rd, .ref jn, .ref sw, .ref rt, .ref jh, .ref kh, .ref th, .ref la, .ref lb, .ref cu, .ref sq, .int (nI tl), .int (nI lf), .int inp, .int bp, .int (nI lt)])) :: (la, .inr (3, [.ref a0, .ref a1, .ref a2, .ref a3, .ref a4, .ref a5, .int (bI hr), .int (nI pn), .int en, .int (nI st), .int (nI sp), .int (nI ht), .int (nI hi), .int (nI oc), .int (nI pl), .int fk, .int (nI tc)])) :: (a4, .inl (g.2.1 0, 225, .inl (nA fw))) :: R) s.heap := hW
    rcases ixc y (n := 15) (by decide) with hx | ⟨k, hk, rfl⟩
    · have hl : lv_has ls 3 [(0, .ref o), (1, .int (nI j)), (2, .int y)] := hl
      have hW : gW g ((o, .inr (8, [.ref ta, .ref rd, .ref jn, .ref sw, .ref rt, .ref jh, .ref kh, .ref th, .ref la, .ref lb, .ref cu, .ref sq, .int (nI tl), .int (nI lf), .int inp, .int bp, .int (nI lt)])) :: (la, .inr (3, [.ref a0, .ref a1, .ref a2, .ref a3, .ref a4, .ref a5, .int (bI hr), .int (nI pn), .int en, .int (nI st), .int (nI sp), .int (nI ht), .int (nI hi), .int (nI oc), .int (nI pl), .int fk, .int (nI tc)])) :: (a4, .inl (g.2.1 0, 225, .inl (nA fw))) :: R) s.heap := hW
      refine lv_aload_n F.1 F.2.1 dX11_follows_0 rfl (lv_at hl 0 rfl) ?_
      refine gGet F hG hW nX11_follows_X11 0 rfl rfl 8 (by decide) mX11_follows_1 rfl dX11_follows_1 ?_
      refine gGetN F hG hW nX11_follows_X6 1 rfl rfl 6 (by decide) fX11_follows_167 rfl dX11_follows_4 ?_
      refine gIfEqB (tgt := 24) F dX11_follows_7 (by decide) (fun c_7 => ?_) (fun c_7 => ?_)
      · refine lv_iconst (v := -1) F.1 F.2.1 dX11_follows_24 rfl ?_
        refine gRi F hW hS dX11_follows_25 ?_
        exact ⟨if_neg (by rw [c_7]; decide), rfl⟩
      · refine lv_iload_n F.1 F.2.1 dX11_follows_10 rfl (lv_at hl 1 rfl) ?_
        refine gS_i (n := 1) (As := [.int (nI j)]) F hG hS hW (c_X11_isKind_n g l  hj) rfl gX11_follows_X11_isKind (by decide +kernel) ⟨rfl, rfl, Nat.le_of_ble_eq_true rfl, Nat.le_of_ble_eq_true rfl⟩ hl.1 (Nat.le_of_ble_eq_true rfl) ⟨Nat.le_of_ble_eq_true rfl, Nat.le_of_ble_eq_true rfl⟩ rfl rfl dX11_follows_11 (fun r u H locs hq hW hS => ?_)
        obtain ⟨rfl, rfl⟩ := hq
        have hW : gW g ((o, .inr (8, [.ref ta, .ref rd, .ref jn, .ref sw, .ref rt, .ref jh, .ref kh, .ref th, .ref la, .ref lb, .ref cu, .ref sq, .int (nI tl), .int (nI lf), .int inp, .int bp, .int (nI lt)])) :: (la, .inr (3, [.ref a0, .ref a1, .ref a2, .ref a3, .ref a4, .ref a5, .int (bI hr), .int (nI pn), .int en, .int (nI st), .int (nI sp), .int (nI ht), .int (nI hi), .int (nI oc), .int (nI pl), .int fk, .int (nI tc)])) :: (a4, .inl (g.2.1 0, 225, .inl (nA fw))) :: R) _ := hW
        refine gIfEqB (tgt := 24) F dX11_follows_14 (by decide) (fun q => by simp at q) (fun c_14 => ?_)
        refine lv_iload_n F.1 F.2.1 dX11_follows_17 rfl (lv_at hl 2 rfl) ?_
        refine gS_i (n := 1) (As := [.int y]) F hG hS hW (c_X11_isKind_o g l  hx) rfl gX11_follows_X11_isKind (by decide +kernel) ⟨rfl, rfl, Nat.le_of_ble_eq_true rfl, Nat.le_of_ble_eq_true rfl⟩ hl.1 (Nat.le_of_ble_eq_true rfl) ⟨Nat.le_of_ble_eq_true rfl, Nat.le_of_ble_eq_true rfl⟩ rfl rfl dX11_follows_18 (fun r u H locs hq hW hS => ?_)
        obtain ⟨rfl, rfl⟩ := hq
        have hW : gW g ((o, .inr (8, [.ref ta, .ref rd, .ref jn, .ref sw, .ref rt, .ref jh, .ref kh, .ref th, .ref la, .ref lb, .ref cu, .ref sq, .int (nI tl), .int (nI lf), .int inp, .int bp, .int (nI lt)])) :: (la, .inr (3, [.ref a0, .ref a1, .ref a2, .ref a3, .ref a4, .ref a5, .int (bI hr), .int (nI pn), .int en, .int (nI st), .int (nI sp), .int (nI ht), .int (nI hi), .int (nI oc), .int (nI pl), .int fk, .int (nI tc)])) :: (a4, .inl (g.2.1 0, 225, .inl (nA fw))) :: R) _ := hW
        refine gIfNeB (tgt := 26) F dX11_follows_21 (by decide) (fun q => by simp at q) (fun c_21 => ?_)
        refine lv_iconst (v := -1) F.1 F.2.1 dX11_follows_24 rfl ?_
        refine gRi F hW hS dX11_follows_25 ?_
        exact ⟨(if_pos c_7).trans ((ixS_in hj (by decide)).trans (ixS_out hx (by decide))), rfl⟩
    · have hl : lv_has ls 3 [(0, .ref o), (1, .int (nI j)), (2, .int (nI k))] := hl
      have hW : gW g ((o, .inr (8, [.ref ta, .ref rd, .ref jn, .ref sw, .ref rt, .ref jh, .ref kh, .ref th, .ref la, .ref lb, .ref cu, .ref sq, .int (nI tl), .int (nI lf), .int inp, .int bp, .int (nI lt)])) :: (la, .inr (3, [.ref a0, .ref a1, .ref a2, .ref a3, .ref a4, .ref a5, .int (bI hr), .int (nI pn), .int en, .int (nI st), .int (nI sp), .int (nI ht), .int (nI hi), .int (nI oc), .int (nI pl), .int fk, .int (nI tc)])) :: (a4, .inl (g.2.1 0, 225, .inl (nA fw))) :: R) s.heap := hW
      refine lv_aload_n F.1 F.2.1 dX11_follows_0 rfl (lv_at hl 0 rfl) ?_
      refine gGet F hG hW nX11_follows_X11 0 rfl rfl 8 (by decide) mX11_follows_1 rfl dX11_follows_1 ?_
      refine gGetN F hG hW nX11_follows_X6 1 rfl rfl 6 (by decide) fX11_follows_167 rfl dX11_follows_4 ?_
      refine gIfEqB (tgt := 24) F dX11_follows_7 (by decide) (fun c_7 => ?_) (fun c_7 => ?_)
      · refine lv_iconst (v := -1) F.1 F.2.1 dX11_follows_24 rfl ?_
        refine gRi F hW hS dX11_follows_25 ?_
        exact ⟨if_neg (by rw [c_7]; decide), rfl⟩
      · refine lv_iload_n F.1 F.2.1 dX11_follows_10 rfl (lv_at hl 1 rfl) ?_
        refine gS_i (n := 1) (As := [.int (nI j)]) F hG hS hW (c_X11_isKind_n g l  hj) rfl gX11_follows_X11_isKind (by decide +kernel) ⟨rfl, rfl, Nat.le_of_ble_eq_true rfl, Nat.le_of_ble_eq_true rfl⟩ hl.1 (Nat.le_of_ble_eq_true rfl) ⟨Nat.le_of_ble_eq_true rfl, Nat.le_of_ble_eq_true rfl⟩ rfl rfl dX11_follows_11 (fun r u H locs hq hW hS => ?_)
        obtain ⟨rfl, rfl⟩ := hq
        have hW : gW g ((o, .inr (8, [.ref ta, .ref rd, .ref jn, .ref sw, .ref rt, .ref jh, .ref kh, .ref th, .ref la, .ref lb, .ref cu, .ref sq, .int (nI tl), .int (nI lf), .int inp, .int bp, .int (nI lt)])) :: (la, .inr (3, [.ref a0, .ref a1, .ref a2, .ref a3, .ref a4, .ref a5, .int (bI hr), .int (nI pn), .int en, .int (nI st), .int (nI sp), .int (nI ht), .int (nI hi), .int (nI oc), .int (nI pl), .int fk, .int (nI tc)])) :: (a4, .inl (g.2.1 0, 225, .inl (nA fw))) :: R) _ := hW
        refine gIfEqB (tgt := 24) F dX11_follows_14 (by decide) (fun q => by simp at q) (fun c_14 => ?_)
        refine lv_iload_n F.1 F.2.1 dX11_follows_17 rfl (lv_at hl 2 rfl) ?_
        refine gS_i (n := 1) (As := [.int (nI k)]) F hG hS hW (c_X11_isKind_n g l  hk) rfl gX11_follows_X11_isKind (by decide +kernel) ⟨rfl, rfl, Nat.le_of_ble_eq_true rfl, Nat.le_of_ble_eq_true rfl⟩ hl.1 (Nat.le_of_ble_eq_true rfl) ⟨Nat.le_of_ble_eq_true rfl, Nat.le_of_ble_eq_true rfl⟩ rfl rfl dX11_follows_18 (fun r u H locs hq hW hS => ?_)
        obtain ⟨rfl, rfl⟩ := hq
        have hW : gW g ((o, .inr (8, [.ref ta, .ref rd, .ref jn, .ref sw, .ref rt, .ref jh, .ref kh, .ref th, .ref la, .ref lb, .ref cu, .ref sq, .int (nI tl), .int (nI lf), .int inp, .int bp, .int (nI lt)])) :: (la, .inr (3, [.ref a0, .ref a1, .ref a2, .ref a3, .ref a4, .ref a5, .int (bI hr), .int (nI pn), .int en, .int (nI st), .int (nI sp), .int (nI ht), .int (nI hi), .int (nI oc), .int (nI pl), .int fk, .int (nI tc)])) :: (a4, .inl (g.2.1 0, 225, .inl (nA fw))) :: R) _ := hW
        refine gIfNeB (tgt := 26) F dX11_follows_21 (by decide) (fun c_21 => ?_) (fun q => by simp at q)
        refine lv_aload_n F.1 F.2.1 dX11_follows_26 rfl (lv_at hl 0 rfl) ?_
        refine gGet F hG hW nX11_follows_X11 0 rfl rfl 8 (by decide) mX11_follows_1 rfl dX11_follows_27 ?_
        refine gGetN F hG hW nX11_follows_X6 1 rfl rfl 4 (by decide) fX11_follows_210 rfl dX11_follows_30 ?_
        refine lv_iload_n F.1 F.2.1 dX11_follows_33 rfl (lv_at hl 1 rfl) ?_
        refine lv_iload_n F.1 F.2.1 dX11_follows_34 rfl (lv_at hl 2 rfl) ?_
        refine gS_i (n := 2) (As := [.int (nI j), .int (nI k)]) F hG hS hW (c_X11_pairOf g l  ) rfl gX11_follows_X11_pairOf (by decide +kernel) ⟨rfl, rfl, Nat.le_of_ble_eq_true rfl, Nat.le_of_ble_eq_true rfl⟩ hl.1 (Nat.le_of_ble_eq_true rfl) ⟨Nat.le_of_ble_eq_true rfl, Nat.le_of_ble_eq_true rfl⟩ rfl rfl dX11_follows_35 (fun r u H locs hq hW hS => ?_)
        obtain ⟨rfl, rfl⟩ := hq
        have hW : gW g ((o, .inr (8, [.ref ta, .ref rd, .ref jn, .ref sw, .ref rt, .ref jh, .ref kh, .ref th, .ref la, .ref lb, .ref cu, .ref sq, .int (nI tl), .int (nI lf), .int inp, .int bp, .int (nI lt)])) :: (la, .inr (3, [.ref a0, .ref a1, .ref a2, .ref a3, .ref a4, .ref a5, .int (bI hr), .int (nI pn), .int en, .int (nI st), .int (nI sp), .int (nI ht), .int (nI hi), .int (nI oc), .int (nI pl), .int fk, .int (nI tc)])) :: (a4, .inl (g.2.1 0, 225, .inl (nA fw))) :: R) _ := hW
        refine gLdI F hG hW 2 rfl (by omega) (by decide) dX11_follows_38 ?_
        refine gTop (y := nI (fw (j * 15 + k))) rfl ?_
        refine gRi F hW hS dX11_follows_39 ?_
        exact ⟨(if_pos c_7).trans ((ixS_in hj (by decide)).trans (ixS_in hk (by decide))), rfl⟩

abbrev rm_X11_trace : Room := ({ frames := 0, cells := 0, slots := 0, locals := 0 } : Room)
theorem mX11_trace_1 : Cond.fieldLink RX11 63 "StepperHearts" "latest" "LStepperHearts$Machine;" ∈ wsX11_trace := List.mem_of_getElem? (i := 1) rfl
theorem nX11_trace_X11 : ∀ w ∈ wsX110, w ∈ wsX11_trace := fun _ h => List.mem_cons_of_mem _ (List.mem_append_left _ (List.mem_append_right _ (h)))
theorem fX11_trace_167 : (yX11_trace.cls, 167, "StepperHearts$Machine", "hasRun", "Z", "StepperHearts") ∈ gNF := List.mem_of_getElem? (i := 7) rfl
theorem nX11_trace_X6 : ∀ w ∈ wsX60, w ∈ wsX11_trace := fun _ h => List.mem_cons_of_mem _ (List.mem_append_right _ (h))
theorem fX11_trace_223 : (yX11_trace.cls, 223, "StepperHearts$Machine", "places", "I", "StepperHearts") ∈ gNF := List.mem_of_getElem? (i := 8) rfl
theorem fX11_trace_226 : (yX11_trace.cls, 226, "StepperHearts$Machine", "traceLengths", "[I", "StepperHearts") ∈ gNF := List.mem_of_getElem? (i := 6) rfl
set_option maxRecDepth 100000 in
set_option maxHeartbeats 4000000 in
theorem c_X11_trace (g : gC) (l : Launch) {o : Nat} {ta : Nat} {rd : Nat} {jn : Nat} {sw : Nat} {rt : Nat} {jh : Nat} {kh : Nat} {th : Nat} {la : Nat} {a0 : Nat} {a1 : Nat} {a2 : Nat} {a3 : Nat} {a4 : Nat} {a5 : Nat} {lb : Nat} {cu : Nat} {sq : Nat} {tl : Nat} {lf : Nat} {lt : Nat} {inp : Int32} {bp : Int32} {hr : Bool} {pn : Nat} {en : Int32} {st : Nat} {sp : Nat} {ht : Nat} {hi : Nat} {oc : Nat} {pl : Nat} {fk : Int32} {tc : Nat} {trl : Nat → Nat} {x : Int32} {R : va_W} (hpn : pn ≤ 100) : cI g l yX11_trace wsX11_trace rm_X11_trace 0 0 [.ref o, .int x] ((o, .inr (8, [.ref ta, .ref rd, .ref jn, .ref sw, .ref rt, .ref jh, .ref kh, .ref th, .ref la, .ref lb, .ref cu, .ref sq, .int (nI tl), .int (nI lf), .int inp, .int bp, .int (nI lt)])) :: (la, .inr (3, [.ref a0, .ref a1, .ref a2, .ref a3, .ref a4, .ref a5, .int (bI hr), .int (nI pn), .int en, .int (nI st), .int (nI sp), .int (nI ht), .int (nI hi), .int (nI oc), .int (nI pl), .int fk, .int (nI tc)])) :: (a5, .inl (g.2.1 0, 100, .inl (nA trl))) :: R) (fun r u => (if hr = true then ixS x pn (fun j => nI (trl j)) (-1) else -1) = r ∧ (o, .inr (8, [.ref ta, .ref rd, .ref jn, .ref sw, .ref rt, .ref jh, .ref kh, .ref th, .ref la, .ref lb, .ref cu, .ref sq, .int (nI tl), .int (nI lf), .int inp, .int bp, .int (nI lt)])) :: (la, .inr (3, [.ref a0, .ref a1, .ref a2, .ref a3, .ref a4, .ref a5, .int (bI hr), .int (nI pn), .int en, .int (nI st), .int (nI sp), .int (nI ht), .int (nI hi), .int (nI oc), .int (nI pl), .int fk, .int (nI tc)])) :: (a5, .inl (g.2.1 0, 100, .inl (nA trl))) :: R = u) := by
  refine gEnterQ (cc := cX11_trace) (maxL := 2) (ret := (some (.int))) (by decide +kernel) rfl (Nat.le_of_ble_eq_true rfl) ?_
  intro p e s m below meth c F hG hW ls hl
  have hS : va_S (gA g) s.heap s.heap [] := va_S.rf
  have hl : lv_has ls 2 [(0, .ref o), (1, .int x)] := hl
  have hW : gW g ((o, .inr (8, [.ref ta, .ref rd, .ref jn, .ref sw, .ref rt, .ref jh, .ref kh, .ref th, .ref la, .ref lb, .ref cu, .ref sq, .int (nI tl), .int (nI lf), .int inp, .int bp, .int (nI lt)])) :: (la, .inr (3, [.ref a0, .ref a1, .ref a2, .ref a3, .ref a4, .ref a5, .int (bI hr), .int (nI pn), .int en, .int (nI st), .int (nI sp), .int (nI ht), .int (nI hi), .int (nI oc), .int (nI pl), .int fk, .int (nI tc)])) :: (a5, .inl (g.2.1 0, 100, .inl (nA trl))) :: R) s.heap := hW
  rcases ixc x (n := pn) (by omega) with hx | ⟨j, hj, rfl⟩
  · have hl : lv_has ls 2 [(0, .ref o), (1, .int x)] := hl
    have hW : gW g ((o, .inr (8, [.ref ta, .ref rd, .ref jn, .ref sw, .ref rt, .ref jh, .ref kh, .ref th, .ref la, .ref lb, .ref cu, .ref sq, .int (nI tl), .int (nI lf), .int inp, .int bp, .int (nI lt)])) :: (la, .inr (3, [.ref a0, .ref a1, .ref a2, .ref a3, .ref a4, .ref a5, .int (bI hr), .int (nI pn), .int en, .int (nI st), .int (nI sp), .int (nI ht), .int (nI hi), .int (nI oc), .int (nI pl), .int fk, .int (nI tc)])) :: (a5, .inl (g.2.1 0, 100, .inl (nA trl))) :: R) s.heap := hW
    refine lv_aload_n F.1 F.2.1 dX11_trace_0 rfl (lv_at hl 0 rfl) ?_
    refine gGet F hG hW nX11_trace_X11 0 rfl rfl 8 (by decide) mX11_trace_1 rfl dX11_trace_1 ?_
    refine gGetN F hG hW nX11_trace_X6 1 rfl rfl 6 (by decide) fX11_trace_167 rfl dX11_trace_4 ?_
    refine gIfEqB (tgt := 31) F dX11_trace_7 (by decide) (fun c_7 => ?_) (fun c_7 => ?_)
    · refine lv_iconst (v := -1) F.1 F.2.1 dX11_trace_31 rfl ?_
      refine gRi F hW hS dX11_trace_32 ?_
      exact ⟨if_neg (by rw [c_7]; decide), rfl⟩
    · refine lv_iload_n F.1 F.2.1 dX11_trace_10 rfl (lv_at hl 1 rfl) ?_
      refine lv_if_lt (tgt := 31) F.1 F.2.1 dX11_trace_11 (by decide) (fun c_11 => ?_) (fun c_11 => ?_)
      · refine lv_iconst (v := -1) F.1 F.2.1 dX11_trace_31 rfl ?_
        refine gRi F hW hS dX11_trace_32 ?_
        exact ⟨(if_pos c_7).trans (ixS_out hx (by omega)), rfl⟩
      · refine lv_iload_n F.1 F.2.1 dX11_trace_14 rfl (lv_at hl 1 rfl) ?_
        refine lv_aload_n F.1 F.2.1 dX11_trace_15 rfl (lv_at hl 0 rfl) ?_
        refine gGet F hG hW nX11_trace_X11 0 rfl rfl 8 (by decide) mX11_trace_1 rfl dX11_trace_16 ?_
        refine gGetN F hG hW nX11_trace_X6 1 rfl rfl 7 (by decide) fX11_trace_223 rfl dX11_trace_19 ?_
        refine lv_icmp_ge (tgt := 31) F.1 F.2.1 dX11_trace_22 (by decide) (fun c_22 => ?_) (fun q => (ixo2 hx c_11 q).elim)
        refine lv_iconst (v := -1) F.1 F.2.1 dX11_trace_31 rfl ?_
        refine gRi F hW hS dX11_trace_32 ?_
        exact ⟨(if_pos c_7).trans (ixS_out hx (by omega)), rfl⟩
  · have hl : lv_has ls 2 [(0, .ref o), (1, .int (nI j))] := hl
    have hW : gW g ((o, .inr (8, [.ref ta, .ref rd, .ref jn, .ref sw, .ref rt, .ref jh, .ref kh, .ref th, .ref la, .ref lb, .ref cu, .ref sq, .int (nI tl), .int (nI lf), .int inp, .int bp, .int (nI lt)])) :: (la, .inr (3, [.ref a0, .ref a1, .ref a2, .ref a3, .ref a4, .ref a5, .int (bI hr), .int (nI pn), .int en, .int (nI st), .int (nI sp), .int (nI ht), .int (nI hi), .int (nI oc), .int (nI pl), .int fk, .int (nI tc)])) :: (a5, .inl (g.2.1 0, 100, .inl (nA trl))) :: R) s.heap := hW
    refine lv_aload_n F.1 F.2.1 dX11_trace_0 rfl (lv_at hl 0 rfl) ?_
    refine gGet F hG hW nX11_trace_X11 0 rfl rfl 8 (by decide) mX11_trace_1 rfl dX11_trace_1 ?_
    refine gGetN F hG hW nX11_trace_X6 1 rfl rfl 6 (by decide) fX11_trace_167 rfl dX11_trace_4 ?_
    refine gIfEqB (tgt := 31) F dX11_trace_7 (by decide) (fun c_7 => ?_) (fun c_7 => ?_)
    · refine lv_iconst (v := -1) F.1 F.2.1 dX11_trace_31 rfl ?_
      refine gRi F hW hS dX11_trace_32 ?_
      exact ⟨if_neg (by rw [c_7]; decide), rfl⟩
    · refine lv_iload_n F.1 F.2.1 dX11_trace_10 rfl (lv_at hl 1 rfl) ?_
      refine gIfLt (tgt := 31) F (by omega) dX11_trace_11 (by decide) (fun c_11 => by exfalso; omega) (fun c_11 => ?_)
      refine lv_iload_n F.1 F.2.1 dX11_trace_14 rfl (lv_at hl 1 rfl) ?_
      refine lv_aload_n F.1 F.2.1 dX11_trace_15 rfl (lv_at hl 0 rfl) ?_
      refine gGet F hG hW nX11_trace_X11 0 rfl rfl 8 (by decide) mX11_trace_1 rfl dX11_trace_16 ?_
      refine gGetN F hG hW nX11_trace_X6 1 rfl rfl 7 (by decide) fX11_trace_223 rfl dX11_trace_19 ?_
      refine gGe (tgt := 31) F (by omega) (by omega) dX11_trace_22 (by decide) (fun c_22 => by exfalso; omega) (fun c_22 => ?_)
      refine lv_iload_n F.1 F.2.1 dX11_trace_25 rfl (lv_at hl 1 rfl) ?_
      refine lv_bipush (v := nI 100) F.1 F.2.1 dX11_trace_26 (by decide) ?_
      refine gLt (tgt := 33) F (by omega) (by omega) dX11_trace_28 (by decide) (fun c_28 => ?_) (fun c_28 => by exfalso; omega)
      refine lv_aload_n F.1 F.2.1 dX11_trace_33 rfl (lv_at hl 0 rfl) ?_
      refine gGet F hG hW nX11_trace_X11 0 rfl rfl 8 (by decide) mX11_trace_1 rfl dX11_trace_34 ?_
      refine gGetN F hG hW nX11_trace_X6 1 rfl rfl 5 (by decide) fX11_trace_226 rfl dX11_trace_37 ?_
      refine lv_iload_n F.1 F.2.1 dX11_trace_40 rfl (lv_at hl 1 rfl) ?_
      refine gLdI F hG hW 2 rfl (by omega) (by decide) dX11_trace_41 ?_
      refine gTop (y := nI (trl j)) rfl ?_
      refine gRi F hW hS dX11_trace_42 ?_
      exact ⟨(if_pos c_7).trans (ixS_in hj (by omega)), rfl⟩

abbrev rm_X11_traces : Room := ({ frames := 1, cells := 0, slots := 0, locals := 21 } : Room)
theorem mX11_traces_1 : Cond.fieldLink RX11 63 "StepperHearts" "latest" "LStepperHearts$Machine;" ∈ wsX11_traces := List.mem_of_getElem? (i := 1) rfl
theorem nX11_traces_X11 : ∀ w ∈ wsX110, w ∈ wsX11_traces := fun _ h => List.mem_cons_of_mem _ (List.mem_append_left _ (List.mem_append_right _ (h)))
theorem fX11_traces_167 : (yX11_traces.cls, 167, "StepperHearts$Machine", "hasRun", "Z", "StepperHearts") ∈ gNF := List.mem_of_getElem? (i := 7) rfl
theorem nX11_traces_X6 : ∀ w ∈ wsX60, w ∈ wsX11_traces := fun _ h => List.mem_cons_of_mem _ (List.mem_append_right _ (h))
theorem fX11_traces_220 : (yX11_traces.cls, 220, "StepperHearts$Machine", "traceCount", "I", "StepperHearts") ∈ gNF := List.mem_of_getElem? (i := 16) rfl
set_option maxRecDepth 100000 in
set_option maxHeartbeats 4000000 in
theorem c_X11_traces (g : gC) (l : Launch) {o : Nat} {ta : Nat} {rd : Nat} {jn : Nat} {sw : Nat} {rt : Nat} {jh : Nat} {kh : Nat} {th : Nat} {la : Nat} {a0 : Nat} {a1 : Nat} {a2 : Nat} {a3 : Nat} {a4 : Nat} {a5 : Nat} {lb : Nat} {cu : Nat} {sq : Nat} {tl : Nat} {lf : Nat} {lt : Nat} {inp : Int32} {bp : Int32} {hr : Bool} {pn : Nat} {en : Int32} {st : Nat} {sp : Nat} {ht : Nat} {hi : Nat} {oc : Nat} {pl : Nat} {fk : Int32} {tc : Nat} {R : va_W} : cI g l yX11_traces wsX11_traces rm_X11_traces 0 0 [.ref o] ((o, .inr (8, [.ref ta, .ref rd, .ref jn, .ref sw, .ref rt, .ref jh, .ref kh, .ref th, .ref la, .ref lb, .ref cu, .ref sq, .int (nI tl), .int (nI lf), .int inp, .int bp, .int (nI lt)])) :: (la, .inr (3, [.ref a0, .ref a1, .ref a2, .ref a3, .ref a4, .ref a5, .int (bI hr), .int (nI pn), .int en, .int (nI st), .int (nI sp), .int (nI ht), .int (nI hi), .int (nI oc), .int (nI pl), .int fk, .int (nI tc)])) :: R) (fun r u => (okS (if hr = true then 0 else 5) (nI tc)) = r ∧ (o, .inr (8, [.ref ta, .ref rd, .ref jn, .ref sw, .ref rt, .ref jh, .ref kh, .ref th, .ref la, .ref lb, .ref cu, .ref sq, .int (nI tl), .int (nI lf), .int inp, .int bp, .int (nI (if hr = true then 0 else 5))])) :: (la, .inr (3, [.ref a0, .ref a1, .ref a2, .ref a3, .ref a4, .ref a5, .int (bI hr), .int (nI pn), .int en, .int (nI st), .int (nI sp), .int (nI ht), .int (nI hi), .int (nI oc), .int (nI pl), .int fk, .int (nI tc)])) :: R = u) := by
  refine gEnterQ (cc := cX11_traces) (maxL := 1) (ret := (some (.int))) (by decide +kernel) rfl (Nat.le_of_ble_eq_true rfl) ?_
  intro p e s m below meth c F hG hW ls hl
  have hS : va_S (gA g) s.heap s.heap [] := va_S.rf
  have hl : lv_has ls 1 [(0, .ref o)] := hl
  have hW : gW g ((o, .inr (8, [.ref ta, .ref rd, .ref jn, .ref sw, .ref rt, .ref jh, .ref kh, .ref th, .ref la, .ref lb, .ref cu, .ref sq, .int (nI tl), .int (nI lf), .int inp, .int bp, .int (nI lt)])) :: (la, .inr (3, [.ref a0, .ref a1, .ref a2, .ref a3, .ref a4, .ref a5, .int (bI hr), .int (nI pn), .int en, .int (nI st), .int (nI sp), .int (nI ht), .int (nI hi), .int (nI oc), .int (nI pl), .int fk, .int (nI tc)])) :: R) s.heap := hW
  refine lv_aload_n F.1 F.2.1 dX11_traces_0 rfl (lv_at hl 0 rfl) ?_
  refine gGet F hG hW nX11_traces_X11 0 rfl rfl 8 (by decide) mX11_traces_1 rfl dX11_traces_1 ?_
  refine gGetN F hG hW nX11_traces_X6 1 rfl rfl 6 (by decide) fX11_traces_167 rfl dX11_traces_4 ?_
  refine gIfNeB (tgt := 16) F dX11_traces_7 (by decide) (fun c_7 => ?_) (fun c_7 => ?_)
  · refine lv_aload_n F.1 F.2.1 dX11_traces_16 rfl (lv_at hl 0 rfl) ?_
    refine lv_aload_n F.1 F.2.1 dX11_traces_17 rfl (lv_at hl 0 rfl) ?_
    refine gGet F hG hW nX11_traces_X11 0 rfl rfl 8 (by decide) mX11_traces_1 rfl dX11_traces_18 ?_
    refine gGetN F hG hW nX11_traces_X6 1 rfl rfl 16 (by decide) fX11_traces_220 rfl dX11_traces_21 ?_
    refine gVi (n := 1) (q := (RX11, TX11, 17)) (q0 := 0) (As := [.int (nI tc)]) F hG hS hW (c_X11_accept g l  ) rfl gX11_traces_X11_accept rfl rfl rfl (by decide +kernel) ⟨rfl, rfl, Nat.le_of_ble_eq_true rfl, Nat.le_of_ble_eq_true rfl⟩ hl.1 (Nat.le_of_ble_eq_true rfl) ⟨Nat.le_of_ble_eq_true rfl, Nat.le_of_ble_eq_true rfl⟩ rfl rfl dX11_traces_24 (fun r u H locs hq hW hS => ?_)
    obtain ⟨rfl, rfl⟩ := hq
    have hW : gW g ((o, .inr (8, [.ref ta, .ref rd, .ref jn, .ref sw, .ref rt, .ref jh, .ref kh, .ref th, .ref la, .ref lb, .ref cu, .ref sq, .int (nI tl), .int (nI lf), .int inp, .int bp, .int (nI 0)])) :: (la, .inr (3, [.ref a0, .ref a1, .ref a2, .ref a3, .ref a4, .ref a5, .int (bI hr), .int (nI pn), .int en, .int (nI st), .int (nI sp), .int (nI ht), .int (nI hi), .int (nI oc), .int (nI pl), .int fk, .int (nI tc)])) :: R) _ := hW
    refine gRi F hW hS dX11_traces_27 ?_
    rw [c_7]
    exact ⟨rfl, rfl⟩
  · refine lv_aload_n F.1 F.2.1 dX11_traces_10 rfl (lv_at hl 0 rfl) ?_
    refine lv_iconst (v := nI 5) F.1 F.2.1 dX11_traces_11 rfl ?_
    refine gVi (n := 1) (q := (RX11, TX11, 17)) (q0 := 0) (As := [.int (nI 5)]) F hG hS hW (c_X11_refuse g l  ) rfl gX11_traces_X11_refuse rfl rfl rfl (by decide +kernel) ⟨rfl, rfl, Nat.le_of_ble_eq_true rfl, Nat.le_of_ble_eq_true rfl⟩ hl.1 (Nat.le_of_ble_eq_true rfl) ⟨Nat.le_of_ble_eq_true rfl, Nat.le_of_ble_eq_true rfl⟩ rfl rfl dX11_traces_12 (fun r u H locs hq hW hS => ?_)
    obtain ⟨rfl, rfl⟩ := hq
    have hW : gW g ((o, .inr (8, [.ref ta, .ref rd, .ref jn, .ref sw, .ref rt, .ref jh, .ref kh, .ref th, .ref la, .ref lb, .ref cu, .ref sq, .int (nI tl), .int (nI lf), .int inp, .int bp, .int (nI 5)])) :: (la, .inr (3, [.ref a0, .ref a1, .ref a2, .ref a3, .ref a4, .ref a5, .int (bI hr), .int (nI pn), .int en, .int (nI st), .int (nI sp), .int (nI ht), .int (nI hi), .int (nI oc), .int (nI pl), .int fk, .int (nI tc)])) :: R) _ := hW
    refine gRi F hW hS dX11_traces_15 ?_
    rw [c_7]
    exact ⟨rfl, rfl⟩

abbrev rm_X11_most : Room := ({ frames := 1, cells := 0, slots := 0, locals := 23 } : Room)
theorem mX11_most_1 : Cond.fieldLink RX11 63 "StepperHearts" "latest" "LStepperHearts$Machine;" ∈ wsX11_most := List.mem_of_getElem? (i := 1) rfl
theorem nX11_most_X11 : ∀ w ∈ wsX110, w ∈ wsX11_most := fun _ h => List.mem_cons_of_mem _ (List.mem_append_left _ (List.mem_append_right _ (h)))
theorem fX11_most_167 : (yX11_most.cls, 167, "StepperHearts$Machine", "hasRun", "Z", "StepperHearts") ∈ gNF := List.mem_of_getElem? (i := 7) rfl
theorem nX11_most_X6 : ∀ w ∈ wsX60, w ∈ wsX11_most := fun _ h => List.mem_cons_of_mem _ (List.mem_append_right _ (h))
set_option maxRecDepth 100000 in
set_option maxHeartbeats 4000000 in
theorem c_X11_most (g : gC) (l : Launch) {o : Nat} {ta : Nat} {rd : Nat} {jn : Nat} {sw : Nat} {rt : Nat} {jh : Nat} {kh : Nat} {th : Nat} {la : Nat} {a0 : Nat} {a1 : Nat} {a2 : Nat} {a3 : Nat} {a4 : Nat} {a5 : Nat} {lb : Nat} {cu : Nat} {sq : Nat} {tl : Nat} {lf : Nat} {lt : Nat} {inp : Int32} {bp : Int32} {hr : Bool} {pn : Nat} {en : Int32} {st : Nat} {sp : Nat} {ht : Nat} {hi : Nat} {oc : Nat} {pl : Nat} {fk : Int32} {tc : Nat} {fw : Nat → Nat} {R : va_W} (hF : ∀ j, fw j < 2 ^ 31) : cI g l yX11_most wsX11_most rm_X11_most 0 0 [.ref o] ((o, .inr (8, [.ref ta, .ref rd, .ref jn, .ref sw, .ref rt, .ref jh, .ref kh, .ref th, .ref la, .ref lb, .ref cu, .ref sq, .int (nI tl), .int (nI lf), .int inp, .int bp, .int (nI lt)])) :: (la, .inr (3, [.ref a0, .ref a1, .ref a2, .ref a3, .ref a4, .ref a5, .int (bI hr), .int (nI pn), .int en, .int (nI st), .int (nI sp), .int (nI ht), .int (nI hi), .int (nI oc), .int (nI pl), .int fk, .int (nI tc)])) :: (a4, .inl (g.2.1 0, 225, .inl (nA fw))) :: R) (fun r u => (okS (if hr = true then 0 else 5) (mostS fw)) = r ∧ (o, .inr (8, [.ref ta, .ref rd, .ref jn, .ref sw, .ref rt, .ref jh, .ref kh, .ref th, .ref la, .ref lb, .ref cu, .ref sq, .int (nI tl), .int (nI lf), .int inp, .int bp, .int (nI (if hr = true then 0 else 5))])) :: (la, .inr (3, [.ref a0, .ref a1, .ref a2, .ref a3, .ref a4, .ref a5, .int (bI hr), .int (nI pn), .int en, .int (nI st), .int (nI sp), .int (nI ht), .int (nI hi), .int (nI oc), .int (nI pl), .int fk, .int (nI tc)])) :: (a4, .inl (g.2.1 0, 225, .inl (nA fw))) :: R = u) := by
  refine gEnterQ (cc := cX11_most) (maxL := 2) (ret := (some (.int))) (by decide +kernel) rfl (Nat.le_of_ble_eq_true rfl) ?_
  intro p e s m below meth c F hG hW ls hl
  have hS : va_S (gA g) s.heap s.heap [] := va_S.rf
  have hl : lv_has ls 2 [(0, .ref o)] := hl
  have hW : gW g ((o, .inr (8, [.ref ta, .ref rd, .ref jn, .ref sw, .ref rt, .ref jh, .ref kh, .ref th, .ref la, .ref lb, .ref cu, .ref sq, .int (nI tl), .int (nI lf), .int inp, .int bp, .int (nI lt)])) :: (la, .inr (3, [.ref a0, .ref a1, .ref a2, .ref a3, .ref a4, .ref a5, .int (bI hr), .int (nI pn), .int en, .int (nI st), .int (nI sp), .int (nI ht), .int (nI hi), .int (nI oc), .int (nI pl), .int fk, .int (nI tc)])) :: (a4, .inl (g.2.1 0, 225, .inl (nA fw))) :: R) s.heap := hW
  refine lv_aload_n F.1 F.2.1 dX11_most_0 rfl (lv_at hl 0 rfl) ?_
  refine gGet F hG hW nX11_most_X11 0 rfl rfl 8 (by decide) mX11_most_1 rfl dX11_most_1 ?_
  refine gGetN F hG hW nX11_most_X6 1 rfl rfl 6 (by decide) fX11_most_167 rfl dX11_most_4 ?_
  refine gIfNeB (tgt := 16) F dX11_most_7 (by decide) (fun c_7 => ?_) (fun c_7 => ?_)
  · refine lv_aload_n F.1 F.2.1 dX11_most_16 rfl (lv_at hl 0 rfl) ?_
    refine gGet F hG hW nX11_most_X11 0 rfl rfl 8 (by decide) mX11_most_1 rfl dX11_most_17 ?_
    have hW := gW.re (l := [(o, .inr (8, [.ref ta, .ref rd, .ref jn, .ref sw, .ref rt, .ref jh, .ref kh, .ref th, .ref la, .ref lb, .ref cu, .ref sq, .int (nI tl), .int (nI lf), .int inp, .int bp, .int (nI lt)])), (la, .inr (3, [.ref a0, .ref a1, .ref a2, .ref a3, .ref a4, .ref a5, .int (bI hr), .int (nI pn), .int en, .int (nI st), .int (nI sp), .int (nI ht), .int (nI hi), .int (nI oc), .int (nI pl), .int fk, .int (nI tc)])), (a4, .inl (g.2.1 0, 225, .inl (nA fw)))]) (l' := [(la, .inr (3, [.ref a0, .ref a1, .ref a2, .ref a3, .ref a4, .ref a5, .int (bI hr), .int (nI pn), .int en, .int (nI st), .int (nI sp), .int (nI ht), .int (nI hi), .int (nI oc), .int (nI pl), .int fk, .int (nI tc)])), (a4, .inl (g.2.1 0, 225, .inl (nA fw))), (o, .inr (8, [.ref ta, .ref rd, .ref jn, .ref sw, .ref rt, .ref jh, .ref kh, .ref th, .ref la, .ref lb, .ref cu, .ref sq, .int (nI tl), .int (nI lf), .int inp, .int bp, .int (nI lt)]))]) (R := R) hW [1, 2, 0] 3 rfl (by decide) rfl
    have hW : gW g ((la, .inr (3, [.ref a0, .ref a1, .ref a2, .ref a3, .ref a4, .ref a5, .int (bI hr), .int (nI pn), .int en, .int (nI st), .int (nI sp), .int (nI ht), .int (nI hi), .int (nI oc), .int (nI pl), .int fk, .int (nI tc)])) :: (a4, .inl (g.2.1 0, 225, .inl (nA fw))) :: (o, .inr (8, [.ref ta, .ref rd, .ref jn, .ref sw, .ref rt, .ref jh, .ref kh, .ref th, .ref la, .ref lb, .ref cu, .ref sq, .int (nI tl), .int (nI lf), .int inp, .int bp, .int (nI lt)])) :: R) _ := hW
    refine gVi (n := 0) (q := (RX6, TX6, 17)) (q0 := 0) (As := []) F hG hS hW (c_X6_mostFollowed g l  hF) rfl gX11_most_X6_mostFollowed rfl rfl rfl (by decide +kernel) ⟨rfl, rfl, Nat.le_of_ble_eq_true rfl, Nat.le_of_ble_eq_true rfl⟩ hl.1 (Nat.le_of_ble_eq_true rfl) ⟨Nat.le_of_ble_eq_true rfl, Nat.le_of_ble_eq_true rfl⟩ rfl rfl dX11_most_20 (fun r u H locs hq hW hS => ?_)
    obtain ⟨rfl, rfl⟩ := hq
    have hW : gW g ((la, .inr (3, [.ref a0, .ref a1, .ref a2, .ref a3, .ref a4, .ref a5, .int (bI hr), .int (nI pn), .int en, .int (nI st), .int (nI sp), .int (nI ht), .int (nI hi), .int (nI oc), .int (nI pl), .int fk, .int (nI tc)])) :: (a4, .inl (g.2.1 0, 225, .inl (nA fw))) :: (o, .inr (8, [.ref ta, .ref rd, .ref jn, .ref sw, .ref rt, .ref jh, .ref kh, .ref th, .ref la, .ref lb, .ref cu, .ref sq, .int (nI tl), .int (nI lf), .int inp, .int bp, .int (nI lt)])) :: R) _ := hW
    refine lv_istore_n (lv' := [(1, .int (oI (mxS fw 225).1)), (0, .ref o)]) F.1 F.2.1 dX11_most_23 rfl hl (by decide) rfl (fun ls hl => ?_)
    rcases hm9 : (mxS fw 225).1 with _ | q9
    · have hl : lv_has ls 2 [(1, .int (-1)), (0, .ref o)] := by first | exact hl | (rw [hm9] at hl; exact hl)
      refine lv_aload_n F.1 F.2.1 dX11_most_24 rfl (lv_at hl 1 rfl) ?_
      refine lv_iload_n F.1 F.2.1 dX11_most_25 rfl (lv_at hl 0 rfl) ?_
      refine lv_iconst (v := -1) F.1 F.2.1 dX11_most_26 rfl ?_
      refine lv_icmp_ne (tgt := 35) F.1 F.2.1 dX11_most_27 (by decide) (fun q => (q rfl).elim) (fun c_27 => ?_)
      refine lv_bipush (v := -2) F.1 F.2.1 dX11_most_30 (by decide) ?_
      refine lv_goto (tgt := 39) F.1 F.2.1 dX11_most_32 (by decide) ?_
      have hW := gW.re (l := [(la, .inr (3, [.ref a0, .ref a1, .ref a2, .ref a3, .ref a4, .ref a5, .int (bI hr), .int (nI pn), .int en, .int (nI st), .int (nI sp), .int (nI ht), .int (nI hi), .int (nI oc), .int (nI pl), .int fk, .int (nI tc)])), (a4, .inl (g.2.1 0, 225, .inl (nA fw))), (o, .inr (8, [.ref ta, .ref rd, .ref jn, .ref sw, .ref rt, .ref jh, .ref kh, .ref th, .ref la, .ref lb, .ref cu, .ref sq, .int (nI tl), .int (nI lf), .int inp, .int bp, .int (nI lt)]))]) (l' := [(o, .inr (8, [.ref ta, .ref rd, .ref jn, .ref sw, .ref rt, .ref jh, .ref kh, .ref th, .ref la, .ref lb, .ref cu, .ref sq, .int (nI tl), .int (nI lf), .int inp, .int bp, .int (nI lt)])), (la, .inr (3, [.ref a0, .ref a1, .ref a2, .ref a3, .ref a4, .ref a5, .int (bI hr), .int (nI pn), .int en, .int (nI st), .int (nI sp), .int (nI ht), .int (nI hi), .int (nI oc), .int (nI pl), .int fk, .int (nI tc)])), (a4, .inl (g.2.1 0, 225, .inl (nA fw)))]) (R := R) hW [2, 0, 1] 3 rfl (by decide) rfl
      have hW : gW g ((o, .inr (8, [.ref ta, .ref rd, .ref jn, .ref sw, .ref rt, .ref jh, .ref kh, .ref th, .ref la, .ref lb, .ref cu, .ref sq, .int (nI tl), .int (nI lf), .int inp, .int bp, .int (nI lt)])) :: (la, .inr (3, [.ref a0, .ref a1, .ref a2, .ref a3, .ref a4, .ref a5, .int (bI hr), .int (nI pn), .int en, .int (nI st), .int (nI sp), .int (nI ht), .int (nI hi), .int (nI oc), .int (nI pl), .int fk, .int (nI tc)])) :: (a4, .inl (g.2.1 0, 225, .inl (nA fw))) :: R) _ := hW
      refine gVi (n := 1) (q := (RX11, TX11, 17)) (q0 := 0) (As := [.int (-2)]) F hG hS hW (c_X11_accept g l  ) rfl gX11_most_X11_accept rfl rfl rfl (by decide +kernel) ⟨rfl, rfl, Nat.le_of_ble_eq_true rfl, Nat.le_of_ble_eq_true rfl⟩ hl.1 (Nat.le_of_ble_eq_true rfl) ⟨Nat.le_of_ble_eq_true rfl, Nat.le_of_ble_eq_true rfl⟩ rfl rfl dX11_most_39 (fun r u H locs hq hW hS => ?_)
      obtain ⟨rfl, rfl⟩ := hq
      have hW : gW g ((o, .inr (8, [.ref ta, .ref rd, .ref jn, .ref sw, .ref rt, .ref jh, .ref kh, .ref th, .ref la, .ref lb, .ref cu, .ref sq, .int (nI tl), .int (nI lf), .int inp, .int bp, .int (nI 0)])) :: (la, .inr (3, [.ref a0, .ref a1, .ref a2, .ref a3, .ref a4, .ref a5, .int (bI hr), .int (nI pn), .int en, .int (nI st), .int (nI sp), .int (nI ht), .int (nI hi), .int (nI oc), .int (nI pl), .int fk, .int (nI tc)])) :: (a4, .inl (g.2.1 0, 225, .inl (nA fw))) :: R) _ := hW
      refine gRi F hW hS dX11_most_42 ?_
      rw [c_7]
      exact ⟨(by show mostS fw = _; rw [mostS, hm9]), rfl⟩
    · have hq9 := mxS_lt hm9
      have hl : lv_has ls 2 [(1, .int (nI q9)), (0, .ref o)] := by first | exact hl | (rw [hm9] at hl; exact hl)
      refine lv_aload_n F.1 F.2.1 dX11_most_24 rfl (lv_at hl 1 rfl) ?_
      refine lv_iload_n F.1 F.2.1 dX11_most_25 rfl (lv_at hl 0 rfl) ?_
      refine lv_iconst (v := -1) F.1 F.2.1 dX11_most_26 rfl ?_
      refine lv_icmp_ne (tgt := 35) F.1 F.2.1 dX11_most_27 (by decide) (fun c_27 => ?_) (fun q => absurd q (nI_n1 (by omega)))
      refine lv_iload_n F.1 F.2.1 dX11_most_35 rfl (lv_at hl 0 rfl) ?_
      refine gS_i (n := 1) (As := [.int (nI q9)]) F hG hS hW (c_X11_tellPair g l  (mxS_lt hm9)) rfl gX11_most_X11_tellPair (by decide +kernel) ⟨rfl, rfl, Nat.le_of_ble_eq_true rfl, Nat.le_of_ble_eq_true rfl⟩ hl.1 (Nat.le_of_ble_eq_true rfl) ⟨Nat.le_of_ble_eq_true rfl, Nat.le_of_ble_eq_true rfl⟩ rfl rfl dX11_most_36 (fun r u H locs hq hW hS => ?_)
      obtain ⟨rfl, rfl⟩ := hq
      have hW : gW g ((la, .inr (3, [.ref a0, .ref a1, .ref a2, .ref a3, .ref a4, .ref a5, .int (bI hr), .int (nI pn), .int en, .int (nI st), .int (nI sp), .int (nI ht), .int (nI hi), .int (nI oc), .int (nI pl), .int fk, .int (nI tc)])) :: (a4, .inl (g.2.1 0, 225, .inl (nA fw))) :: (o, .inr (8, [.ref ta, .ref rd, .ref jn, .ref sw, .ref rt, .ref jh, .ref kh, .ref th, .ref la, .ref lb, .ref cu, .ref sq, .int (nI tl), .int (nI lf), .int inp, .int bp, .int (nI lt)])) :: R) _ := hW
      have hW := gW.re (l := [(la, .inr (3, [.ref a0, .ref a1, .ref a2, .ref a3, .ref a4, .ref a5, .int (bI hr), .int (nI pn), .int en, .int (nI st), .int (nI sp), .int (nI ht), .int (nI hi), .int (nI oc), .int (nI pl), .int fk, .int (nI tc)])), (a4, .inl (g.2.1 0, 225, .inl (nA fw))), (o, .inr (8, [.ref ta, .ref rd, .ref jn, .ref sw, .ref rt, .ref jh, .ref kh, .ref th, .ref la, .ref lb, .ref cu, .ref sq, .int (nI tl), .int (nI lf), .int inp, .int bp, .int (nI lt)]))]) (l' := [(o, .inr (8, [.ref ta, .ref rd, .ref jn, .ref sw, .ref rt, .ref jh, .ref kh, .ref th, .ref la, .ref lb, .ref cu, .ref sq, .int (nI tl), .int (nI lf), .int inp, .int bp, .int (nI lt)])), (la, .inr (3, [.ref a0, .ref a1, .ref a2, .ref a3, .ref a4, .ref a5, .int (bI hr), .int (nI pn), .int en, .int (nI st), .int (nI sp), .int (nI ht), .int (nI hi), .int (nI oc), .int (nI pl), .int fk, .int (nI tc)])), (a4, .inl (g.2.1 0, 225, .inl (nA fw)))]) (R := R) hW [2, 0, 1] 3 rfl (by decide) rfl
      have hW : gW g ((o, .inr (8, [.ref ta, .ref rd, .ref jn, .ref sw, .ref rt, .ref jh, .ref kh, .ref th, .ref la, .ref lb, .ref cu, .ref sq, .int (nI tl), .int (nI lf), .int inp, .int bp, .int (nI lt)])) :: (la, .inr (3, [.ref a0, .ref a1, .ref a2, .ref a3, .ref a4, .ref a5, .int (bI hr), .int (nI pn), .int en, .int (nI st), .int (nI sp), .int (nI ht), .int (nI hi), .int (nI oc), .int (nI pl), .int fk, .int (nI tc)])) :: (a4, .inl (g.2.1 0, 225, .inl (nA fw))) :: R) _ := hW
      refine gVi (n := 1) (q := (RX11, TX11, 17)) (q0 := 0) (As := [.int (nI (q9 / 15 * 100 + q9 % 15))]) F hG hS hW (c_X11_accept g l  ) rfl gX11_most_X11_accept rfl rfl rfl (by decide +kernel) ⟨rfl, rfl, Nat.le_of_ble_eq_true rfl, Nat.le_of_ble_eq_true rfl⟩ hl.1 (Nat.le_of_ble_eq_true rfl) ⟨Nat.le_of_ble_eq_true rfl, Nat.le_of_ble_eq_true rfl⟩ rfl rfl dX11_most_39 (fun r u H locs hq hW hS => ?_)
      obtain ⟨rfl, rfl⟩ := hq
      have hW : gW g ((o, .inr (8, [.ref ta, .ref rd, .ref jn, .ref sw, .ref rt, .ref jh, .ref kh, .ref th, .ref la, .ref lb, .ref cu, .ref sq, .int (nI tl), .int (nI lf), .int inp, .int bp, .int (nI 0)])) :: (la, .inr (3, [.ref a0, .ref a1, .ref a2, .ref a3, .ref a4, .ref a5, .int (bI hr), .int (nI pn), .int en, .int (nI st), .int (nI sp), .int (nI ht), .int (nI hi), .int (nI oc), .int (nI pl), .int fk, .int (nI tc)])) :: (a4, .inl (g.2.1 0, 225, .inl (nA fw))) :: R) _ := hW
      refine gRi F hW hS dX11_most_42 ?_
      rw [c_7]
      exact ⟨(by show mostS fw = _; rw [mostS, hm9]), rfl⟩
  · refine lv_aload_n F.1 F.2.1 dX11_most_10 rfl (lv_at hl 0 rfl) ?_
    refine lv_iconst (v := nI 5) F.1 F.2.1 dX11_most_11 rfl ?_
    refine gVi (n := 1) (q := (RX11, TX11, 17)) (q0 := 0) (As := [.int (nI 5)]) F hG hS hW (c_X11_refuse g l  ) rfl gX11_most_X11_refuse rfl rfl rfl (by decide +kernel) ⟨rfl, rfl, Nat.le_of_ble_eq_true rfl, Nat.le_of_ble_eq_true rfl⟩ hl.1 (Nat.le_of_ble_eq_true rfl) ⟨Nat.le_of_ble_eq_true rfl, Nat.le_of_ble_eq_true rfl⟩ rfl rfl dX11_most_12 (fun r u H locs hq hW hS => ?_)
    obtain ⟨rfl, rfl⟩ := hq
    have hW : gW g ((o, .inr (8, [.ref ta, .ref rd, .ref jn, .ref sw, .ref rt, .ref jh, .ref kh, .ref th, .ref la, .ref lb, .ref cu, .ref sq, .int (nI tl), .int (nI lf), .int inp, .int bp, .int (nI 5)])) :: (la, .inr (3, [.ref a0, .ref a1, .ref a2, .ref a3, .ref a4, .ref a5, .int (bI hr), .int (nI pn), .int en, .int (nI st), .int (nI sp), .int (nI ht), .int (nI hi), .int (nI oc), .int (nI pl), .int fk, .int (nI tc)])) :: (a4, .inl (g.2.1 0, 225, .inl (nA fw))) :: R) _ := hW
    refine gRi F hW hS dX11_most_15 ?_
    rw [c_7]
    exact ⟨rfl, rfl⟩

abbrev rm_X11_told : Room := ({ frames := 1, cells := 0, slots := 0, locals := 21 } : Room)
theorem mX11_told_1 : Cond.fieldLink RX11 63 "StepperHearts" "latest" "LStepperHearts$Machine;" ∈ wsX11_told := List.mem_of_getElem? (i := 1) rfl
theorem nX11_told_X11 : ∀ w ∈ wsX110, w ∈ wsX11_told := fun _ h => List.mem_cons_of_mem _ (List.mem_append_left _ (List.mem_append_right _ (h)))
theorem fX11_told_167 : (yX11_told.cls, 167, "StepperHearts$Machine", "hasRun", "Z", "StepperHearts") ∈ gNF := List.mem_of_getElem? (i := 7) rfl
theorem nX11_told_X6 : ∀ w ∈ wsX60, w ∈ wsX11_told := fun _ h => List.mem_cons_of_mem _ (List.mem_append_right _ (h))
theorem fX11_told_171 : (yX11_told.cls, 171, "StepperHearts$Machine", "steps", "I", "StepperHearts") ∈ gNF := List.mem_of_getElem? (i := 10) rfl
theorem fX11_told_174 : (yX11_told.cls, 174, "StepperHearts$Machine", "spent", "I", "StepperHearts") ∈ gNF := List.mem_of_getElem? (i := 11) rfl
theorem fX11_told_177 : (yX11_told.cls, 177, "StepperHearts$Machine", "height", "I", "StepperHearts") ∈ gNF := List.mem_of_getElem? (i := 12) rfl
theorem fX11_told_180 : (yX11_told.cls, 180, "StepperHearts$Machine", "outCount", "I", "StepperHearts") ∈ gNF := List.mem_of_getElem? (i := 14) rfl
theorem fX11_told_183 : (yX11_told.cls, 183, "StepperHearts$Machine", "place", "I", "StepperHearts") ∈ gNF := List.mem_of_getElem? (i := 15) rfl
theorem fX11_told_186 : (yX11_told.cls, 186, "StepperHearts$Machine", "highest", "I", "StepperHearts") ∈ gNF := List.mem_of_getElem? (i := 13) rfl
set_option maxRecDepth 100000 in
set_option maxHeartbeats 4000000 in
theorem c_X11_told (g : gC) (l : Launch) {o : Nat} {ta : Nat} {rd : Nat} {jn : Nat} {sw : Nat} {rt : Nat} {jh : Nat} {kh : Nat} {th : Nat} {la : Nat} {a0 : Nat} {a1 : Nat} {a2 : Nat} {a3 : Nat} {a4 : Nat} {a5 : Nat} {lb : Nat} {cu : Nat} {sq : Nat} {tl : Nat} {lf : Nat} {lt : Nat} {inp : Int32} {bp : Int32} {hr : Bool} {pn : Nat} {en : Int32} {st : Nat} {sp : Nat} {ht : Nat} {hi : Nat} {oc : Nat} {pl : Nat} {fk : Int32} {tc : Nat} {x : Int32} {R : va_W} : cI g l yX11_told wsX11_told rm_X11_told 0 0 [.ref o, .int x] ((o, .inr (8, [.ref ta, .ref rd, .ref jn, .ref sw, .ref rt, .ref jh, .ref kh, .ref th, .ref la, .ref lb, .ref cu, .ref sq, .int (nI tl), .int (nI lf), .int inp, .int bp, .int (nI lt)])) :: (la, .inr (3, [.ref a0, .ref a1, .ref a2, .ref a3, .ref a4, .ref a5, .int (bI hr), .int (nI pn), .int en, .int (nI st), .int (nI sp), .int (nI ht), .int (nI hi), .int (nI oc), .int (nI pl), .int fk, .int (nI tc)])) :: R) (fun r u => (okS (if hr = true then ixS x 6 (fun _ => 0) 1 else 5) (sel6 x (nI st) (nI sp) (nI ht) (nI oc) (nI pl) (nI hi) (-1))) = r ∧ (o, .inr (8, [.ref ta, .ref rd, .ref jn, .ref sw, .ref rt, .ref jh, .ref kh, .ref th, .ref la, .ref lb, .ref cu, .ref sq, .int (nI tl), .int (nI lf), .int inp, .int bp, .int (nI (if hr = true then ixS x 6 (fun _ => 0) 1 else 5))])) :: (la, .inr (3, [.ref a0, .ref a1, .ref a2, .ref a3, .ref a4, .ref a5, .int (bI hr), .int (nI pn), .int en, .int (nI st), .int (nI sp), .int (nI ht), .int (nI hi), .int (nI oc), .int (nI pl), .int fk, .int (nI tc)])) :: R = u) := by
  refine gEnterQ (cc := cX11_told) (maxL := 2) (ret := (some (.int))) (by decide +kernel) rfl (Nat.le_of_ble_eq_true rfl) ?_
  intro p e s m below meth c F hG hW ls hl
  have hS : va_S (gA g) s.heap s.heap [] := va_S.rf
  have hl : lv_has ls 2 [(0, .ref o), (1, .int x)] := hl
  have hW : gW g ((o, .inr (8, [.ref ta, .ref rd, .ref jn, .ref sw, .ref rt, .ref jh, .ref kh, .ref th, .ref la, .ref lb, .ref cu, .ref sq, .int (nI tl), .int (nI lf), .int inp, .int bp, .int (nI lt)])) :: (la, .inr (3, [.ref a0, .ref a1, .ref a2, .ref a3, .ref a4, .ref a5, .int (bI hr), .int (nI pn), .int en, .int (nI st), .int (nI sp), .int (nI ht), .int (nI hi), .int (nI oc), .int (nI pl), .int fk, .int (nI tc)])) :: R) s.heap := hW
  rcases sw6 x with hx | rfl | rfl | rfl | rfl | rfl | rfl
  · have hl : lv_has ls 2 [(0, .ref o), (1, .int x)] := hl
    have hW : gW g ((o, .inr (8, [.ref ta, .ref rd, .ref jn, .ref sw, .ref rt, .ref jh, .ref kh, .ref th, .ref la, .ref lb, .ref cu, .ref sq, .int (nI tl), .int (nI lf), .int inp, .int bp, .int (nI lt)])) :: (la, .inr (3, [.ref a0, .ref a1, .ref a2, .ref a3, .ref a4, .ref a5, .int (bI hr), .int (nI pn), .int en, .int (nI st), .int (nI sp), .int (nI ht), .int (nI hi), .int (nI oc), .int (nI pl), .int fk, .int (nI tc)])) :: R) s.heap := hW
    refine lv_aload_n F.1 F.2.1 dX11_told_0 rfl (lv_at hl 0 rfl) ?_
    refine gGet F hG hW nX11_told_X11 0 rfl rfl 8 (by decide) mX11_told_1 rfl dX11_told_1 ?_
    refine gGetN F hG hW nX11_told_X6 1 rfl rfl 6 (by decide) fX11_told_167 rfl dX11_told_4 ?_
    refine gIfNeB (tgt := 16) F dX11_told_7 (by decide) (fun c_7 => ?_) (fun c_7 => ?_)
    · refine lv_iload_n F.1 F.2.1 dX11_told_16 rfl (lv_at hl 1 rfl) ?_
      refine lv_tableOut (tgt := 128) F.1 F.2.1 dX11_told_17 (swc hx (by decide)) (by decide) ?_
      refine lv_aload_n F.1 F.2.1 dX11_told_128 rfl (lv_at hl 0 rfl) ?_
      refine lv_iconst (v := nI 1) F.1 F.2.1 dX11_told_129 rfl ?_
      refine gVi (n := 1) (q := (RX11, TX11, 17)) (q0 := 0) (As := [.int (nI 1)]) F hG hS hW (c_X11_refuse g l  ) rfl gX11_told_X11_refuse rfl rfl rfl (by decide +kernel) ⟨rfl, rfl, Nat.le_of_ble_eq_true rfl, Nat.le_of_ble_eq_true rfl⟩ hl.1 (Nat.le_of_ble_eq_true rfl) ⟨Nat.le_of_ble_eq_true rfl, Nat.le_of_ble_eq_true rfl⟩ rfl rfl dX11_told_130 (fun r u H locs hq hW hS => ?_)
      obtain ⟨rfl, rfl⟩ := hq
      have hW : gW g ((o, .inr (8, [.ref ta, .ref rd, .ref jn, .ref sw, .ref rt, .ref jh, .ref kh, .ref th, .ref la, .ref lb, .ref cu, .ref sq, .int (nI tl), .int (nI lf), .int inp, .int bp, .int (nI 1)])) :: (la, .inr (3, [.ref a0, .ref a1, .ref a2, .ref a3, .ref a4, .ref a5, .int (bI hr), .int (nI pn), .int en, .int (nI st), .int (nI sp), .int (nI ht), .int (nI hi), .int (nI oc), .int (nI pl), .int fk, .int (nI tc)])) :: R) _ := hW
      refine gRi F hW hS dX11_told_133 ?_
      rw [c_7, if_pos rfl, ixS_out hx (by decide)]
      exact ⟨rfl, rfl⟩
    · refine lv_aload_n F.1 F.2.1 dX11_told_10 rfl (lv_at hl 0 rfl) ?_
      refine lv_iconst (v := nI 5) F.1 F.2.1 dX11_told_11 rfl ?_
      refine gVi (n := 1) (q := (RX11, TX11, 17)) (q0 := 0) (As := [.int (nI 5)]) F hG hS hW (c_X11_refuse g l  ) rfl gX11_told_X11_refuse rfl rfl rfl (by decide +kernel) ⟨rfl, rfl, Nat.le_of_ble_eq_true rfl, Nat.le_of_ble_eq_true rfl⟩ hl.1 (Nat.le_of_ble_eq_true rfl) ⟨Nat.le_of_ble_eq_true rfl, Nat.le_of_ble_eq_true rfl⟩ rfl rfl dX11_told_12 (fun r u H locs hq hW hS => ?_)
      obtain ⟨rfl, rfl⟩ := hq
      have hW : gW g ((o, .inr (8, [.ref ta, .ref rd, .ref jn, .ref sw, .ref rt, .ref jh, .ref kh, .ref th, .ref la, .ref lb, .ref cu, .ref sq, .int (nI tl), .int (nI lf), .int inp, .int bp, .int (nI 5)])) :: (la, .inr (3, [.ref a0, .ref a1, .ref a2, .ref a3, .ref a4, .ref a5, .int (bI hr), .int (nI pn), .int en, .int (nI st), .int (nI sp), .int (nI ht), .int (nI hi), .int (nI oc), .int (nI pl), .int fk, .int (nI tc)])) :: R) _ := hW
      refine gRi F hW hS dX11_told_15 ?_
      rw [c_7]
      exact ⟨rfl, rfl⟩
  · have hl : lv_has ls 2 [(0, .ref o), (1, .int (nI 0))] := hl
    have hW : gW g ((o, .inr (8, [.ref ta, .ref rd, .ref jn, .ref sw, .ref rt, .ref jh, .ref kh, .ref th, .ref la, .ref lb, .ref cu, .ref sq, .int (nI tl), .int (nI lf), .int inp, .int bp, .int (nI lt)])) :: (la, .inr (3, [.ref a0, .ref a1, .ref a2, .ref a3, .ref a4, .ref a5, .int (bI hr), .int (nI pn), .int en, .int (nI st), .int (nI sp), .int (nI ht), .int (nI hi), .int (nI oc), .int (nI pl), .int fk, .int (nI tc)])) :: R) s.heap := hW
    refine lv_aload_n F.1 F.2.1 dX11_told_0 rfl (lv_at hl 0 rfl) ?_
    refine gGet F hG hW nX11_told_X11 0 rfl rfl 8 (by decide) mX11_told_1 rfl dX11_told_1 ?_
    refine gGetN F hG hW nX11_told_X6 1 rfl rfl 6 (by decide) fX11_told_167 rfl dX11_told_4 ?_
    refine gIfNeB (tgt := 16) F dX11_told_7 (by decide) (fun c_7 => ?_) (fun c_7 => ?_)
    · refine lv_iload_n F.1 F.2.1 dX11_told_16 rfl (lv_at hl 1 rfl) ?_
      refine lv_tableIn (tgt := 56) F.1 F.2.1 dX11_told_17 (by decide) (by decide) rfl (by decide) ?_
      refine lv_aload_n F.1 F.2.1 dX11_told_56 rfl (lv_at hl 0 rfl) ?_
      refine lv_aload_n F.1 F.2.1 dX11_told_57 rfl (lv_at hl 0 rfl) ?_
      refine gGet F hG hW nX11_told_X11 0 rfl rfl 8 (by decide) mX11_told_1 rfl dX11_told_58 ?_
      refine gGetN F hG hW nX11_told_X6 1 rfl rfl 9 (by decide) fX11_told_171 rfl dX11_told_61 ?_
      refine gVi (n := 1) (q := (RX11, TX11, 17)) (q0 := 0) (As := [.int (nI st)]) F hG hS hW (c_X11_accept g l  ) rfl gX11_told_X11_accept rfl rfl rfl (by decide +kernel) ⟨rfl, rfl, Nat.le_of_ble_eq_true rfl, Nat.le_of_ble_eq_true rfl⟩ hl.1 (Nat.le_of_ble_eq_true rfl) ⟨Nat.le_of_ble_eq_true rfl, Nat.le_of_ble_eq_true rfl⟩ rfl rfl dX11_told_64 (fun r u H locs hq hW hS => ?_)
      obtain ⟨rfl, rfl⟩ := hq
      have hW : gW g ((o, .inr (8, [.ref ta, .ref rd, .ref jn, .ref sw, .ref rt, .ref jh, .ref kh, .ref th, .ref la, .ref lb, .ref cu, .ref sq, .int (nI tl), .int (nI lf), .int inp, .int bp, .int (nI 0)])) :: (la, .inr (3, [.ref a0, .ref a1, .ref a2, .ref a3, .ref a4, .ref a5, .int (bI hr), .int (nI pn), .int en, .int (nI st), .int (nI sp), .int (nI ht), .int (nI hi), .int (nI oc), .int (nI pl), .int fk, .int (nI tc)])) :: R) _ := hW
      refine gRi F hW hS dX11_told_67 ?_
      rw [c_7]
      exact ⟨rfl, rfl⟩
    · refine lv_aload_n F.1 F.2.1 dX11_told_10 rfl (lv_at hl 0 rfl) ?_
      refine lv_iconst (v := nI 5) F.1 F.2.1 dX11_told_11 rfl ?_
      refine gVi (n := 1) (q := (RX11, TX11, 17)) (q0 := 0) (As := [.int (nI 5)]) F hG hS hW (c_X11_refuse g l  ) rfl gX11_told_X11_refuse rfl rfl rfl (by decide +kernel) ⟨rfl, rfl, Nat.le_of_ble_eq_true rfl, Nat.le_of_ble_eq_true rfl⟩ hl.1 (Nat.le_of_ble_eq_true rfl) ⟨Nat.le_of_ble_eq_true rfl, Nat.le_of_ble_eq_true rfl⟩ rfl rfl dX11_told_12 (fun r u H locs hq hW hS => ?_)
      obtain ⟨rfl, rfl⟩ := hq
      have hW : gW g ((o, .inr (8, [.ref ta, .ref rd, .ref jn, .ref sw, .ref rt, .ref jh, .ref kh, .ref th, .ref la, .ref lb, .ref cu, .ref sq, .int (nI tl), .int (nI lf), .int inp, .int bp, .int (nI 5)])) :: (la, .inr (3, [.ref a0, .ref a1, .ref a2, .ref a3, .ref a4, .ref a5, .int (bI hr), .int (nI pn), .int en, .int (nI st), .int (nI sp), .int (nI ht), .int (nI hi), .int (nI oc), .int (nI pl), .int fk, .int (nI tc)])) :: R) _ := hW
      refine gRi F hW hS dX11_told_15 ?_
      rw [c_7]
      exact ⟨rfl, rfl⟩
  · have hl : lv_has ls 2 [(0, .ref o), (1, .int (nI 1))] := hl
    have hW : gW g ((o, .inr (8, [.ref ta, .ref rd, .ref jn, .ref sw, .ref rt, .ref jh, .ref kh, .ref th, .ref la, .ref lb, .ref cu, .ref sq, .int (nI tl), .int (nI lf), .int inp, .int bp, .int (nI lt)])) :: (la, .inr (3, [.ref a0, .ref a1, .ref a2, .ref a3, .ref a4, .ref a5, .int (bI hr), .int (nI pn), .int en, .int (nI st), .int (nI sp), .int (nI ht), .int (nI hi), .int (nI oc), .int (nI pl), .int fk, .int (nI tc)])) :: R) s.heap := hW
    refine lv_aload_n F.1 F.2.1 dX11_told_0 rfl (lv_at hl 0 rfl) ?_
    refine gGet F hG hW nX11_told_X11 0 rfl rfl 8 (by decide) mX11_told_1 rfl dX11_told_1 ?_
    refine gGetN F hG hW nX11_told_X6 1 rfl rfl 6 (by decide) fX11_told_167 rfl dX11_told_4 ?_
    refine gIfNeB (tgt := 16) F dX11_told_7 (by decide) (fun c_7 => ?_) (fun c_7 => ?_)
    · refine lv_iload_n F.1 F.2.1 dX11_told_16 rfl (lv_at hl 1 rfl) ?_
      refine lv_tableIn (tgt := 68) F.1 F.2.1 dX11_told_17 (by decide) (by decide) rfl (by decide) ?_
      refine lv_aload_n F.1 F.2.1 dX11_told_68 rfl (lv_at hl 0 rfl) ?_
      refine lv_aload_n F.1 F.2.1 dX11_told_69 rfl (lv_at hl 0 rfl) ?_
      refine gGet F hG hW nX11_told_X11 0 rfl rfl 8 (by decide) mX11_told_1 rfl dX11_told_70 ?_
      refine gGetN F hG hW nX11_told_X6 1 rfl rfl 10 (by decide) fX11_told_174 rfl dX11_told_73 ?_
      refine gVi (n := 1) (q := (RX11, TX11, 17)) (q0 := 0) (As := [.int (nI sp)]) F hG hS hW (c_X11_accept g l  ) rfl gX11_told_X11_accept rfl rfl rfl (by decide +kernel) ⟨rfl, rfl, Nat.le_of_ble_eq_true rfl, Nat.le_of_ble_eq_true rfl⟩ hl.1 (Nat.le_of_ble_eq_true rfl) ⟨Nat.le_of_ble_eq_true rfl, Nat.le_of_ble_eq_true rfl⟩ rfl rfl dX11_told_76 (fun r u H locs hq hW hS => ?_)
      obtain ⟨rfl, rfl⟩ := hq
      have hW : gW g ((o, .inr (8, [.ref ta, .ref rd, .ref jn, .ref sw, .ref rt, .ref jh, .ref kh, .ref th, .ref la, .ref lb, .ref cu, .ref sq, .int (nI tl), .int (nI lf), .int inp, .int bp, .int (nI 0)])) :: (la, .inr (3, [.ref a0, .ref a1, .ref a2, .ref a3, .ref a4, .ref a5, .int (bI hr), .int (nI pn), .int en, .int (nI st), .int (nI sp), .int (nI ht), .int (nI hi), .int (nI oc), .int (nI pl), .int fk, .int (nI tc)])) :: R) _ := hW
      refine gRi F hW hS dX11_told_79 ?_
      rw [c_7]
      exact ⟨rfl, rfl⟩
    · refine lv_aload_n F.1 F.2.1 dX11_told_10 rfl (lv_at hl 0 rfl) ?_
      refine lv_iconst (v := nI 5) F.1 F.2.1 dX11_told_11 rfl ?_
      refine gVi (n := 1) (q := (RX11, TX11, 17)) (q0 := 0) (As := [.int (nI 5)]) F hG hS hW (c_X11_refuse g l  ) rfl gX11_told_X11_refuse rfl rfl rfl (by decide +kernel) ⟨rfl, rfl, Nat.le_of_ble_eq_true rfl, Nat.le_of_ble_eq_true rfl⟩ hl.1 (Nat.le_of_ble_eq_true rfl) ⟨Nat.le_of_ble_eq_true rfl, Nat.le_of_ble_eq_true rfl⟩ rfl rfl dX11_told_12 (fun r u H locs hq hW hS => ?_)
      obtain ⟨rfl, rfl⟩ := hq
      have hW : gW g ((o, .inr (8, [.ref ta, .ref rd, .ref jn, .ref sw, .ref rt, .ref jh, .ref kh, .ref th, .ref la, .ref lb, .ref cu, .ref sq, .int (nI tl), .int (nI lf), .int inp, .int bp, .int (nI 5)])) :: (la, .inr (3, [.ref a0, .ref a1, .ref a2, .ref a3, .ref a4, .ref a5, .int (bI hr), .int (nI pn), .int en, .int (nI st), .int (nI sp), .int (nI ht), .int (nI hi), .int (nI oc), .int (nI pl), .int fk, .int (nI tc)])) :: R) _ := hW
      refine gRi F hW hS dX11_told_15 ?_
      rw [c_7]
      exact ⟨rfl, rfl⟩
  · have hl : lv_has ls 2 [(0, .ref o), (1, .int (nI 2))] := hl
    have hW : gW g ((o, .inr (8, [.ref ta, .ref rd, .ref jn, .ref sw, .ref rt, .ref jh, .ref kh, .ref th, .ref la, .ref lb, .ref cu, .ref sq, .int (nI tl), .int (nI lf), .int inp, .int bp, .int (nI lt)])) :: (la, .inr (3, [.ref a0, .ref a1, .ref a2, .ref a3, .ref a4, .ref a5, .int (bI hr), .int (nI pn), .int en, .int (nI st), .int (nI sp), .int (nI ht), .int (nI hi), .int (nI oc), .int (nI pl), .int fk, .int (nI tc)])) :: R) s.heap := hW
    refine lv_aload_n F.1 F.2.1 dX11_told_0 rfl (lv_at hl 0 rfl) ?_
    refine gGet F hG hW nX11_told_X11 0 rfl rfl 8 (by decide) mX11_told_1 rfl dX11_told_1 ?_
    refine gGetN F hG hW nX11_told_X6 1 rfl rfl 6 (by decide) fX11_told_167 rfl dX11_told_4 ?_
    refine gIfNeB (tgt := 16) F dX11_told_7 (by decide) (fun c_7 => ?_) (fun c_7 => ?_)
    · refine lv_iload_n F.1 F.2.1 dX11_told_16 rfl (lv_at hl 1 rfl) ?_
      refine lv_tableIn (tgt := 80) F.1 F.2.1 dX11_told_17 (by decide) (by decide) rfl (by decide) ?_
      refine lv_aload_n F.1 F.2.1 dX11_told_80 rfl (lv_at hl 0 rfl) ?_
      refine lv_aload_n F.1 F.2.1 dX11_told_81 rfl (lv_at hl 0 rfl) ?_
      refine gGet F hG hW nX11_told_X11 0 rfl rfl 8 (by decide) mX11_told_1 rfl dX11_told_82 ?_
      refine gGetN F hG hW nX11_told_X6 1 rfl rfl 11 (by decide) fX11_told_177 rfl dX11_told_85 ?_
      refine gVi (n := 1) (q := (RX11, TX11, 17)) (q0 := 0) (As := [.int (nI ht)]) F hG hS hW (c_X11_accept g l  ) rfl gX11_told_X11_accept rfl rfl rfl (by decide +kernel) ⟨rfl, rfl, Nat.le_of_ble_eq_true rfl, Nat.le_of_ble_eq_true rfl⟩ hl.1 (Nat.le_of_ble_eq_true rfl) ⟨Nat.le_of_ble_eq_true rfl, Nat.le_of_ble_eq_true rfl⟩ rfl rfl dX11_told_88 (fun r u H locs hq hW hS => ?_)
      obtain ⟨rfl, rfl⟩ := hq
      have hW : gW g ((o, .inr (8, [.ref ta, .ref rd, .ref jn, .ref sw, .ref rt, .ref jh, .ref kh, .ref th, .ref la, .ref lb, .ref cu, .ref sq, .int (nI tl), .int (nI lf), .int inp, .int bp, .int (nI 0)])) :: (la, .inr (3, [.ref a0, .ref a1, .ref a2, .ref a3, .ref a4, .ref a5, .int (bI hr), .int (nI pn), .int en, .int (nI st), .int (nI sp), .int (nI ht), .int (nI hi), .int (nI oc), .int (nI pl), .int fk, .int (nI tc)])) :: R) _ := hW
      refine gRi F hW hS dX11_told_91 ?_
      rw [c_7]
      exact ⟨rfl, rfl⟩
    · refine lv_aload_n F.1 F.2.1 dX11_told_10 rfl (lv_at hl 0 rfl) ?_
      refine lv_iconst (v := nI 5) F.1 F.2.1 dX11_told_11 rfl ?_
      refine gVi (n := 1) (q := (RX11, TX11, 17)) (q0 := 0) (As := [.int (nI 5)]) F hG hS hW (c_X11_refuse g l  ) rfl gX11_told_X11_refuse rfl rfl rfl (by decide +kernel) ⟨rfl, rfl, Nat.le_of_ble_eq_true rfl, Nat.le_of_ble_eq_true rfl⟩ hl.1 (Nat.le_of_ble_eq_true rfl) ⟨Nat.le_of_ble_eq_true rfl, Nat.le_of_ble_eq_true rfl⟩ rfl rfl dX11_told_12 (fun r u H locs hq hW hS => ?_)
      obtain ⟨rfl, rfl⟩ := hq
      have hW : gW g ((o, .inr (8, [.ref ta, .ref rd, .ref jn, .ref sw, .ref rt, .ref jh, .ref kh, .ref th, .ref la, .ref lb, .ref cu, .ref sq, .int (nI tl), .int (nI lf), .int inp, .int bp, .int (nI 5)])) :: (la, .inr (3, [.ref a0, .ref a1, .ref a2, .ref a3, .ref a4, .ref a5, .int (bI hr), .int (nI pn), .int en, .int (nI st), .int (nI sp), .int (nI ht), .int (nI hi), .int (nI oc), .int (nI pl), .int fk, .int (nI tc)])) :: R) _ := hW
      refine gRi F hW hS dX11_told_15 ?_
      rw [c_7]
      exact ⟨rfl, rfl⟩
  · have hl : lv_has ls 2 [(0, .ref o), (1, .int (nI 3))] := hl
    have hW : gW g ((o, .inr (8, [.ref ta, .ref rd, .ref jn, .ref sw, .ref rt, .ref jh, .ref kh, .ref th, .ref la, .ref lb, .ref cu, .ref sq, .int (nI tl), .int (nI lf), .int inp, .int bp, .int (nI lt)])) :: (la, .inr (3, [.ref a0, .ref a1, .ref a2, .ref a3, .ref a4, .ref a5, .int (bI hr), .int (nI pn), .int en, .int (nI st), .int (nI sp), .int (nI ht), .int (nI hi), .int (nI oc), .int (nI pl), .int fk, .int (nI tc)])) :: R) s.heap := hW
    refine lv_aload_n F.1 F.2.1 dX11_told_0 rfl (lv_at hl 0 rfl) ?_
    refine gGet F hG hW nX11_told_X11 0 rfl rfl 8 (by decide) mX11_told_1 rfl dX11_told_1 ?_
    refine gGetN F hG hW nX11_told_X6 1 rfl rfl 6 (by decide) fX11_told_167 rfl dX11_told_4 ?_
    refine gIfNeB (tgt := 16) F dX11_told_7 (by decide) (fun c_7 => ?_) (fun c_7 => ?_)
    · refine lv_iload_n F.1 F.2.1 dX11_told_16 rfl (lv_at hl 1 rfl) ?_
      refine lv_tableIn (tgt := 92) F.1 F.2.1 dX11_told_17 (by decide) (by decide) rfl (by decide) ?_
      refine lv_aload_n F.1 F.2.1 dX11_told_92 rfl (lv_at hl 0 rfl) ?_
      refine lv_aload_n F.1 F.2.1 dX11_told_93 rfl (lv_at hl 0 rfl) ?_
      refine gGet F hG hW nX11_told_X11 0 rfl rfl 8 (by decide) mX11_told_1 rfl dX11_told_94 ?_
      refine gGetN F hG hW nX11_told_X6 1 rfl rfl 13 (by decide) fX11_told_180 rfl dX11_told_97 ?_
      refine gVi (n := 1) (q := (RX11, TX11, 17)) (q0 := 0) (As := [.int (nI oc)]) F hG hS hW (c_X11_accept g l  ) rfl gX11_told_X11_accept rfl rfl rfl (by decide +kernel) ⟨rfl, rfl, Nat.le_of_ble_eq_true rfl, Nat.le_of_ble_eq_true rfl⟩ hl.1 (Nat.le_of_ble_eq_true rfl) ⟨Nat.le_of_ble_eq_true rfl, Nat.le_of_ble_eq_true rfl⟩ rfl rfl dX11_told_100 (fun r u H locs hq hW hS => ?_)
      obtain ⟨rfl, rfl⟩ := hq
      have hW : gW g ((o, .inr (8, [.ref ta, .ref rd, .ref jn, .ref sw, .ref rt, .ref jh, .ref kh, .ref th, .ref la, .ref lb, .ref cu, .ref sq, .int (nI tl), .int (nI lf), .int inp, .int bp, .int (nI 0)])) :: (la, .inr (3, [.ref a0, .ref a1, .ref a2, .ref a3, .ref a4, .ref a5, .int (bI hr), .int (nI pn), .int en, .int (nI st), .int (nI sp), .int (nI ht), .int (nI hi), .int (nI oc), .int (nI pl), .int fk, .int (nI tc)])) :: R) _ := hW
      refine gRi F hW hS dX11_told_103 ?_
      rw [c_7]
      exact ⟨rfl, rfl⟩
    · refine lv_aload_n F.1 F.2.1 dX11_told_10 rfl (lv_at hl 0 rfl) ?_
      refine lv_iconst (v := nI 5) F.1 F.2.1 dX11_told_11 rfl ?_
      refine gVi (n := 1) (q := (RX11, TX11, 17)) (q0 := 0) (As := [.int (nI 5)]) F hG hS hW (c_X11_refuse g l  ) rfl gX11_told_X11_refuse rfl rfl rfl (by decide +kernel) ⟨rfl, rfl, Nat.le_of_ble_eq_true rfl, Nat.le_of_ble_eq_true rfl⟩ hl.1 (Nat.le_of_ble_eq_true rfl) ⟨Nat.le_of_ble_eq_true rfl, Nat.le_of_ble_eq_true rfl⟩ rfl rfl dX11_told_12 (fun r u H locs hq hW hS => ?_)
      obtain ⟨rfl, rfl⟩ := hq
      have hW : gW g ((o, .inr (8, [.ref ta, .ref rd, .ref jn, .ref sw, .ref rt, .ref jh, .ref kh, .ref th, .ref la, .ref lb, .ref cu, .ref sq, .int (nI tl), .int (nI lf), .int inp, .int bp, .int (nI 5)])) :: (la, .inr (3, [.ref a0, .ref a1, .ref a2, .ref a3, .ref a4, .ref a5, .int (bI hr), .int (nI pn), .int en, .int (nI st), .int (nI sp), .int (nI ht), .int (nI hi), .int (nI oc), .int (nI pl), .int fk, .int (nI tc)])) :: R) _ := hW
      refine gRi F hW hS dX11_told_15 ?_
      rw [c_7]
      exact ⟨rfl, rfl⟩
  · have hl : lv_has ls 2 [(0, .ref o), (1, .int (nI 4))] := hl
    have hW : gW g ((o, .inr (8, [.ref ta, .ref rd, .ref jn, .ref sw, .ref rt, .ref jh, .ref kh, .ref th, .ref la, .ref lb, .ref cu, .ref sq, .int (nI tl), .int (nI lf), .int inp, .int bp, .int (nI lt)])) :: (la, .inr (3, [.ref a0, .ref a1, .ref a2, .ref a3, .ref a4, .ref a5, .int (bI hr), .int (nI pn), .int en, .int (nI st), .int (nI sp), .int (nI ht), .int (nI hi), .int (nI oc), .int (nI pl), .int fk, .int (nI tc)])) :: R) s.heap := hW
    refine lv_aload_n F.1 F.2.1 dX11_told_0 rfl (lv_at hl 0 rfl) ?_
    refine gGet F hG hW nX11_told_X11 0 rfl rfl 8 (by decide) mX11_told_1 rfl dX11_told_1 ?_
    refine gGetN F hG hW nX11_told_X6 1 rfl rfl 6 (by decide) fX11_told_167 rfl dX11_told_4 ?_
    refine gIfNeB (tgt := 16) F dX11_told_7 (by decide) (fun c_7 => ?_) (fun c_7 => ?_)
    · refine lv_iload_n F.1 F.2.1 dX11_told_16 rfl (lv_at hl 1 rfl) ?_
      refine lv_tableIn (tgt := 104) F.1 F.2.1 dX11_told_17 (by decide) (by decide) rfl (by decide) ?_
      refine lv_aload_n F.1 F.2.1 dX11_told_104 rfl (lv_at hl 0 rfl) ?_
      refine lv_aload_n F.1 F.2.1 dX11_told_105 rfl (lv_at hl 0 rfl) ?_
      refine gGet F hG hW nX11_told_X11 0 rfl rfl 8 (by decide) mX11_told_1 rfl dX11_told_106 ?_
      refine gGetN F hG hW nX11_told_X6 1 rfl rfl 14 (by decide) fX11_told_183 rfl dX11_told_109 ?_
      refine gVi (n := 1) (q := (RX11, TX11, 17)) (q0 := 0) (As := [.int (nI pl)]) F hG hS hW (c_X11_accept g l  ) rfl gX11_told_X11_accept rfl rfl rfl (by decide +kernel) ⟨rfl, rfl, Nat.le_of_ble_eq_true rfl, Nat.le_of_ble_eq_true rfl⟩ hl.1 (Nat.le_of_ble_eq_true rfl) ⟨Nat.le_of_ble_eq_true rfl, Nat.le_of_ble_eq_true rfl⟩ rfl rfl dX11_told_112 (fun r u H locs hq hW hS => ?_)
      obtain ⟨rfl, rfl⟩ := hq
      have hW : gW g ((o, .inr (8, [.ref ta, .ref rd, .ref jn, .ref sw, .ref rt, .ref jh, .ref kh, .ref th, .ref la, .ref lb, .ref cu, .ref sq, .int (nI tl), .int (nI lf), .int inp, .int bp, .int (nI 0)])) :: (la, .inr (3, [.ref a0, .ref a1, .ref a2, .ref a3, .ref a4, .ref a5, .int (bI hr), .int (nI pn), .int en, .int (nI st), .int (nI sp), .int (nI ht), .int (nI hi), .int (nI oc), .int (nI pl), .int fk, .int (nI tc)])) :: R) _ := hW
      refine gRi F hW hS dX11_told_115 ?_
      rw [c_7]
      exact ⟨rfl, rfl⟩
    · refine lv_aload_n F.1 F.2.1 dX11_told_10 rfl (lv_at hl 0 rfl) ?_
      refine lv_iconst (v := nI 5) F.1 F.2.1 dX11_told_11 rfl ?_
      refine gVi (n := 1) (q := (RX11, TX11, 17)) (q0 := 0) (As := [.int (nI 5)]) F hG hS hW (c_X11_refuse g l  ) rfl gX11_told_X11_refuse rfl rfl rfl (by decide +kernel) ⟨rfl, rfl, Nat.le_of_ble_eq_true rfl, Nat.le_of_ble_eq_true rfl⟩ hl.1 (Nat.le_of_ble_eq_true rfl) ⟨Nat.le_of_ble_eq_true rfl, Nat.le_of_ble_eq_true rfl⟩ rfl rfl dX11_told_12 (fun r u H locs hq hW hS => ?_)
      obtain ⟨rfl, rfl⟩ := hq
      have hW : gW g ((o, .inr (8, [.ref ta, .ref rd, .ref jn, .ref sw, .ref rt, .ref jh, .ref kh, .ref th, .ref la, .ref lb, .ref cu, .ref sq, .int (nI tl), .int (nI lf), .int inp, .int bp, .int (nI 5)])) :: (la, .inr (3, [.ref a0, .ref a1, .ref a2, .ref a3, .ref a4, .ref a5, .int (bI hr), .int (nI pn), .int en, .int (nI st), .int (nI sp), .int (nI ht), .int (nI hi), .int (nI oc), .int (nI pl), .int fk, .int (nI tc)])) :: R) _ := hW
      refine gRi F hW hS dX11_told_15 ?_
      rw [c_7]
      exact ⟨rfl, rfl⟩
  · have hl : lv_has ls 2 [(0, .ref o), (1, .int (nI 5))] := hl
    have hW : gW g ((o, .inr (8, [.ref ta, .ref rd, .ref jn, .ref sw, .ref rt, .ref jh, .ref kh, .ref th, .ref la, .ref lb, .ref cu, .ref sq, .int (nI tl), .int (nI lf), .int inp, .int bp, .int (nI lt)])) :: (la, .inr (3, [.ref a0, .ref a1, .ref a2, .ref a3, .ref a4, .ref a5, .int (bI hr), .int (nI pn), .int en, .int (nI st), .int (nI sp), .int (nI ht), .int (nI hi), .int (nI oc), .int (nI pl), .int fk, .int (nI tc)])) :: R) s.heap := hW
    refine lv_aload_n F.1 F.2.1 dX11_told_0 rfl (lv_at hl 0 rfl) ?_
    refine gGet F hG hW nX11_told_X11 0 rfl rfl 8 (by decide) mX11_told_1 rfl dX11_told_1 ?_
    refine gGetN F hG hW nX11_told_X6 1 rfl rfl 6 (by decide) fX11_told_167 rfl dX11_told_4 ?_
    refine gIfNeB (tgt := 16) F dX11_told_7 (by decide) (fun c_7 => ?_) (fun c_7 => ?_)
    · refine lv_iload_n F.1 F.2.1 dX11_told_16 rfl (lv_at hl 1 rfl) ?_
      refine lv_tableIn (tgt := 116) F.1 F.2.1 dX11_told_17 (by decide) (by decide) rfl (by decide) ?_
      refine lv_aload_n F.1 F.2.1 dX11_told_116 rfl (lv_at hl 0 rfl) ?_
      refine lv_aload_n F.1 F.2.1 dX11_told_117 rfl (lv_at hl 0 rfl) ?_
      refine gGet F hG hW nX11_told_X11 0 rfl rfl 8 (by decide) mX11_told_1 rfl dX11_told_118 ?_
      refine gGetN F hG hW nX11_told_X6 1 rfl rfl 12 (by decide) fX11_told_186 rfl dX11_told_121 ?_
      refine gVi (n := 1) (q := (RX11, TX11, 17)) (q0 := 0) (As := [.int (nI hi)]) F hG hS hW (c_X11_accept g l  ) rfl gX11_told_X11_accept rfl rfl rfl (by decide +kernel) ⟨rfl, rfl, Nat.le_of_ble_eq_true rfl, Nat.le_of_ble_eq_true rfl⟩ hl.1 (Nat.le_of_ble_eq_true rfl) ⟨Nat.le_of_ble_eq_true rfl, Nat.le_of_ble_eq_true rfl⟩ rfl rfl dX11_told_124 (fun r u H locs hq hW hS => ?_)
      obtain ⟨rfl, rfl⟩ := hq
      have hW : gW g ((o, .inr (8, [.ref ta, .ref rd, .ref jn, .ref sw, .ref rt, .ref jh, .ref kh, .ref th, .ref la, .ref lb, .ref cu, .ref sq, .int (nI tl), .int (nI lf), .int inp, .int bp, .int (nI 0)])) :: (la, .inr (3, [.ref a0, .ref a1, .ref a2, .ref a3, .ref a4, .ref a5, .int (bI hr), .int (nI pn), .int en, .int (nI st), .int (nI sp), .int (nI ht), .int (nI hi), .int (nI oc), .int (nI pl), .int fk, .int (nI tc)])) :: R) _ := hW
      refine gRi F hW hS dX11_told_127 ?_
      rw [c_7]
      exact ⟨rfl, rfl⟩
    · refine lv_aload_n F.1 F.2.1 dX11_told_10 rfl (lv_at hl 0 rfl) ?_
      refine lv_iconst (v := nI 5) F.1 F.2.1 dX11_told_11 rfl ?_
      refine gVi (n := 1) (q := (RX11, TX11, 17)) (q0 := 0) (As := [.int (nI 5)]) F hG hS hW (c_X11_refuse g l  ) rfl gX11_told_X11_refuse rfl rfl rfl (by decide +kernel) ⟨rfl, rfl, Nat.le_of_ble_eq_true rfl, Nat.le_of_ble_eq_true rfl⟩ hl.1 (Nat.le_of_ble_eq_true rfl) ⟨Nat.le_of_ble_eq_true rfl, Nat.le_of_ble_eq_true rfl⟩ rfl rfl dX11_told_12 (fun r u H locs hq hW hS => ?_)
      obtain ⟨rfl, rfl⟩ := hq
      have hW : gW g ((o, .inr (8, [.ref ta, .ref rd, .ref jn, .ref sw, .ref rt, .ref jh, .ref kh, .ref th, .ref la, .ref lb, .ref cu, .ref sq, .int (nI tl), .int (nI lf), .int inp, .int bp, .int (nI 5)])) :: (la, .inr (3, [.ref a0, .ref a1, .ref a2, .ref a3, .ref a4, .ref a5, .int (bI hr), .int (nI pn), .int en, .int (nI st), .int (nI sp), .int (nI ht), .int (nI hi), .int (nI oc), .int (nI pl), .int fk, .int (nI tc)])) :: R) _ := hW
      refine gRi F hW hS dX11_told_15 ?_
      rw [c_7]
      exact ⟨rfl, rfl⟩

abbrev rm_X11_better : Room := ({ frames := 1, cells := 0, slots := 0, locals := 20 } : Room)
theorem mX11_better_1 : Cond.fieldLink RX11 90 "StepperHearts" "bestPair" "I" ∈ wsX11_better := List.mem_of_getElem? (i := 1) rfl
theorem nX11_better_X11 : ∀ w ∈ wsX110, w ∈ wsX11_better := fun _ h => List.mem_cons_of_mem _ (List.mem_append_right _ (h))
set_option maxRecDepth 100000 in
set_option maxHeartbeats 4000000 in
theorem c_X11_better (g : gC) (l : Launch) {o : Nat} {ta : Nat} {rd : Nat} {jn : Nat} {sw : Nat} {rt : Nat} {jh : Nat} {kh : Nat} {th : Nat} {la : Nat} {lb : Nat} {cu : Nat} {sq : Nat} {tl : Nat} {lf : Nat} {lt : Nat} {inp : Int32} {bo : Option Nat} {R : va_W} (hbo : ∀ q, bo = some q → q < 225) : cI g l yX11_better wsX11_better rm_X11_better 0 0 [.ref o] ((o, .inr (8, [.ref ta, .ref rd, .ref jn, .ref sw, .ref rt, .ref jh, .ref kh, .ref th, .ref la, .ref lb, .ref cu, .ref sq, .int (nI tl), .int (nI lf), .int inp, .int (oI bo), .int (nI lt)])) :: R) (fun r u => (betS bo) = r ∧ (o, .inr (8, [.ref ta, .ref rd, .ref jn, .ref sw, .ref rt, .ref jh, .ref kh, .ref th, .ref la, .ref lb, .ref cu, .ref sq, .int (nI tl), .int (nI lf), .int inp, .int (oI bo), .int (nI lt)])) :: R = u) := by
  refine gEnterQ (cc := cX11_better) (maxL := 1) (ret := (some (.int))) (by decide +kernel) rfl (Nat.le_of_ble_eq_true rfl) ?_
  intro p e s m below meth c F hG hW ls hl
  have hS : va_S (gA g) s.heap s.heap [] := va_S.rf
  have hl : lv_has ls 1 [(0, .ref o)] := hl
  have hW : gW g ((o, .inr (8, [.ref ta, .ref rd, .ref jn, .ref sw, .ref rt, .ref jh, .ref kh, .ref th, .ref la, .ref lb, .ref cu, .ref sq, .int (nI tl), .int (nI lf), .int inp, .int (oI bo), .int (nI lt)])) :: R) s.heap := hW
  rcases bo with _ | q9
  · have hl : lv_has ls 1 [(0, .ref o)] := hl
    have hW : gW g ((o, .inr (8, [.ref ta, .ref rd, .ref jn, .ref sw, .ref rt, .ref jh, .ref kh, .ref th, .ref la, .ref lb, .ref cu, .ref sq, .int (nI tl), .int (nI lf), .int inp, .int (-1), .int (nI lt)])) :: R) s.heap := hW
    refine lv_aload_n F.1 F.2.1 dX11_better_0 rfl (lv_at hl 0 rfl) ?_
    refine gGet F hG hW nX11_better_X11 0 rfl rfl 15 (by decide) mX11_better_1 rfl dX11_better_1 ?_
    refine lv_iconst (v := -1) F.1 F.2.1 dX11_better_4 rfl ?_
    refine lv_icmp_ne (tgt := 12) F.1 F.2.1 dX11_better_5 (by decide) (fun q => (q rfl).elim) (fun c_5 => ?_)
    refine lv_iconst (v := -1) F.1 F.2.1 dX11_better_8 rfl ?_
    refine lv_goto (tgt := 19) F.1 F.2.1 dX11_better_9 (by decide) ?_
    refine gRi F hW hS dX11_better_19 ?_
    exact ⟨rfl, rfl⟩
  · have hq9 := hbo q9 rfl
    have hl : lv_has ls 1 [(0, .ref o)] := hl
    have hW : gW g ((o, .inr (8, [.ref ta, .ref rd, .ref jn, .ref sw, .ref rt, .ref jh, .ref kh, .ref th, .ref la, .ref lb, .ref cu, .ref sq, .int (nI tl), .int (nI lf), .int inp, .int (nI q9), .int (nI lt)])) :: R) s.heap := hW
    refine lv_aload_n F.1 F.2.1 dX11_better_0 rfl (lv_at hl 0 rfl) ?_
    refine gGet F hG hW nX11_better_X11 0 rfl rfl 15 (by decide) mX11_better_1 rfl dX11_better_1 ?_
    refine lv_iconst (v := -1) F.1 F.2.1 dX11_better_4 rfl ?_
    refine lv_icmp_ne (tgt := 12) F.1 F.2.1 dX11_better_5 (by decide) (fun c_5 => ?_) (fun q => absurd q (nI_n1 (by omega)))
    refine lv_aload_n F.1 F.2.1 dX11_better_12 rfl (lv_at hl 0 rfl) ?_
    refine gGet F hG hW nX11_better_X11 0 rfl rfl 15 (by decide) mX11_better_1 rfl dX11_better_13 ?_
    refine gS_i (n := 1) (As := [.int (nI q9)]) F hG hS hW (c_X11_tellPair g l  (hbo _ rfl)) rfl gX11_better_X11_tellPair (by decide +kernel) ⟨rfl, rfl, Nat.le_of_ble_eq_true rfl, Nat.le_of_ble_eq_true rfl⟩ hl.1 (Nat.le_of_ble_eq_true rfl) ⟨Nat.le_of_ble_eq_true rfl, Nat.le_of_ble_eq_true rfl⟩ rfl rfl dX11_better_16 (fun r u H locs hq hW hS => ?_)
    obtain ⟨rfl, rfl⟩ := hq
    have hW : gW g ((o, .inr (8, [.ref ta, .ref rd, .ref jn, .ref sw, .ref rt, .ref jh, .ref kh, .ref th, .ref la, .ref lb, .ref cu, .ref sq, .int (nI tl), .int (nI lf), .int inp, .int (nI q9), .int (nI lt)])) :: R) _ := hW
    refine gRi F hW hS dX11_better_19 ?_
    exact ⟨rfl, rfl⟩

