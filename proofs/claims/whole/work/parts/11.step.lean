/-! ===== one step of the machine (written by wip/whole/gen/spec2.py) ===== -/
def nuS (k v : Nat) (nu : Nat → Int32) (ht : Nat) (ce : Nat → Int32) : Nat → Int32 := match k with
  | 0 => upd nu ht (nI v)
  | 2 => upd nu ht (nu (ht - 1))
  | 3 => upd (upd nu (ht - 2) (nu (ht - 1))) (ht - 1) (nu (ht - 2))
  | 4 => upd nu ht (nu (ht - 2))
  | 5 => upd nu (ht - 2) (nu (ht - 2) + nu (ht - 1))
  | 6 => upd nu (ht - 2) (nu (ht - 2) - nu (ht - 1))
  | 7 => upd nu (ht - 2) (nu (ht - 2) * nu (ht - 1))
  | 8 => upd nu (ht - 2) (if nu (ht - 2) < nu (ht - 1) then 1 else 0)
  | 9 => upd nu ht (ce v)
  | _ => nu
def htS (k ht : Nat) : Nat := ht - kT k + kP k
def ceS (k v : Nat) (nu : Nat → Int32) (ht : Nat) (ce : Nat → Int32) : Nat → Int32 := match k with
  | 10 => upd ce v (nu (ht - 1))
  | _ => ce
def ouS (k : Nat) (nu : Nat → Int32) (ht : Nat) (ou : Nat → Int32) (oc : Nat) : Nat → Int32 := match k with
  | 13 => outUp ou oc (nu (ht - 1))
  | _ => ou
def ocS (k oc : Nat) : Nat := match k with
  | 13 => oc + 1
  | _ => oc
def laS (k v : Nat) (nu : Nat → Int32) (ht : Nat) : Option Nat := match k with
  | 11 => some v
  | 12 => if nu (ht - 1) = 0 then some v else none
  | _ => none
def aheadS (kd : Nat → Nat) (n pl st fuel ht : Nat) : Option Nat :=
  if pl < n then (if fuel ≤ st then some 1 else if ht < kT (kd pl) then some 2 else if 32 < ht - kT (kd pl) + kP (kd pl) then some 3 else none) else some 4
theorem upd_self (f : Nat → Int32) (k : Nat) : upd f k (f k) = f := by
  funext j; simp only [upd]; split
  · next h => rw [h]
  · rfl
theorem upd_at {f : Nat → Int32} {k : Nat} {x : Int32} (h : x = f k) : upd f k x = f := by rw [h]; exact upd_self f k

abbrev rm_X5_ownPrice : Room := ({ frames := 0, cells := 0, slots := 0, locals := 0 } : Room)
theorem mX5_ownPrice_1 : Cond.fieldLink RX5 84 "StepperHearts$Kind" "work" "I" ∈ wsX5_ownPrice := List.mem_of_getElem? (i := 1) rfl
theorem mX5_ownPrice_2 : Cond.fieldLink RX5 78 "StepperHearts$Kind" "takes" "I" ∈ wsX5_ownPrice := List.mem_of_getElem? (i := 2) rfl
theorem mX5_ownPrice_3 : Cond.fieldLink RX5 81 "StepperHearts$Kind" "puts" "I" ∈ wsX5_ownPrice := List.mem_of_getElem? (i := 3) rfl
set_option maxRecDepth 100000 in
set_option maxHeartbeats 4000000 in
theorem c_X5_ownPrice (g : gC) (l : Launch) {i : Nat} {R : va_W} (hi : i < 15) : cI g l yX5_ownPrice wsX5_ownPrice rm_X5_ownPrice 0 0 [.ref (g.2.2.2 i)] (R) (fun r u => (nI (kW i + kT i + kP i)) = r ∧ R = u) := by
  refine gEnterQ (cc := cX5_ownPrice) (maxL := 1) (ret := (some (.int))) (by decide +kernel) rfl (Nat.le_of_ble_eq_true rfl) ?_
  intro p e s m below meth c F hG hW ls hl
  have hS : va_S (gA g) s.heap s.heap [] := va_S.rf
  have hl : lv_has ls 1 [(0, .ref (g.2.2.2 i))] := hl
  have hW : gW g (R) s.heap := hW
  refine lv_aload_n F.1 F.2.1 dX5_ownPrice_0 rfl (lv_at hl 0 rfl) ?_
  refine gKwork F hG hS (by omega) mX5_ownPrice_1 dX5_ownPrice_1 ?_
  refine lv_aload_n F.1 F.2.1 dX5_ownPrice_4 rfl (lv_at hl 0 rfl) ?_
  refine gKtakes F hG hS (by omega) mX5_ownPrice_2 dX5_ownPrice_5 ?_
  refine gAdd F dX5_ownPrice_8 ?_
  refine lv_aload_n F.1 F.2.1 dX5_ownPrice_9 rfl (lv_at hl 0 rfl) ?_
  refine gKputs F hG hS (by omega) mX5_ownPrice_3 dX5_ownPrice_10 ?_
  refine gAdd F dX5_ownPrice_13 ?_
  refine gRi F hW hS dX5_ownPrice_14 ?_
  exact ⟨rfl, rfl⟩

abbrev rm_X6_rearrange : Room := ({ frames := 1, cells := 0, slots := 0, locals := 21 } : Room)
theorem mX6_rearrange_1 : Cond.fieldLink RX6 109 "StepperHearts$Kind" "takes" "I" ∈ wsX6_rearrange := List.mem_of_getElem? (i := 1) rfl
theorem mX6_rearrange_2 : Cond.fieldLink RX6 155 "StepperHearts$1" "$SwitchMap$StepperHearts$Kind" "[I" ∈ wsX6_rearrange := List.mem_of_getElem? (i := 2) rfl
set_option maxRecDepth 100000 in
set_option maxHeartbeats 4000000 in
theorem c_X6_rearrange (g : gC) (l : Launch) {h : Nat} {a0 : Nat} {a1 : Nat} {a2 : Nat} {a3 : Nat} {a4 : Nat} {a5 : Nat} {f6 : Int32} {f7 : Int32} {f8 : Int32} {f9 : Int32} {f10 : Int32} {f12 : Int32} {f13 : Int32} {f14 : Int32} {f15 : Int32} {f16 : Int32} {ht : Nat} {k : Nat} {nu : Nat → Int32} {ce0 : Nat → Int32} {R : va_W} (hk1 : 1 ≤ k) (hk : k ≤ 8) (h0 : kT k ≤ ht) (hh : ht ≤ 32) (h1 : ht - kT k + kP k ≤ 32) : cV g l yX6_rearrange wsX6_rearrange rm_X6_rearrange 0 0 [.ref h, .ref (g.2.2.2 k)] ((h, .inr (3, [.ref a0, .ref a1, .ref a2, .ref a3, .ref a4, .ref a5, .int f6, .int f7, .int f8, .int f9, .int f10, .int (nI ht), .int f12, .int f13, .int f14, .int f15, .int f16])) :: (a0, .inl (g.2.1 0, 32, .inl nu)) :: R) (fun u => (h, .inr (3, [.ref a0, .ref a1, .ref a2, .ref a3, .ref a4, .ref a5, .int f6, .int f7, .int f8, .int f9, .int f10, .int (nI (htS k ht)), .int f12, .int f13, .int f14, .int f15, .int f16])) :: (a0, .inl (g.2.1 0, 32, .inl (nuS k 0 nu ht ce0))) :: R = u) := by
  refine gEnterQ (cc := cX6_rearrange) (maxL := 4) (ret := none) (by decide +kernel) rfl (Nat.le_of_ble_eq_true rfl) ?_
  intro p e s m below meth c F hG hW ls hl
  have hS : va_S (gA g) s.heap s.heap [] := va_S.rf
  have hl : lv_has ls 4 [(0, .ref h), (1, .ref (g.2.2.2 k))] := hl
  have hW : gW g ((h, .inr (3, [.ref a0, .ref a1, .ref a2, .ref a3, .ref a4, .ref a5, .int f6, .int f7, .int f8, .int f9, .int f10, .int (nI ht), .int f12, .int f13, .int f14, .int f15, .int f16])) :: (a0, .inl (g.2.1 0, 32, .inl nu)) :: R) s.heap := hW
  rcases (show k = 1 ∨ k = 2 ∨ k = 3 ∨ k = 4 ∨ k = 5 ∨ k = 6 ∨ k = 7 ∨ k = 8 by omega) with rfl | rfl | rfl | rfl | rfl | rfl | rfl | rfl
  · have h0 : 1 ≤ ht := h0
    have h1 : ht - 1 + 0 ≤ 32 := h1
    have hl : lv_has ls 4 [(0, .ref h), (1, .ref (g.2.2.2 1))] := hl
    have hW : gW g ((h, .inr (3, [.ref a0, .ref a1, .ref a2, .ref a3, .ref a4, .ref a5, .int f6, .int f7, .int f8, .int f9, .int f10, .int (nI ht), .int f12, .int f13, .int f14, .int f15, .int f16])) :: (a0, .inl (g.2.1 0, 32, .inl nu)) :: R) s.heap := hW
    refine lv_aload_n F.1 F.2.1 dX6_rearrange_0 rfl (lv_at hl 0 rfl) ?_
    refine gVi (n := 0) (q := (RX6, TX6, 17)) (q0 := 0) (As := []) F hG hS hW (c_X6_take g l  (by omega) (by omega)) rfl gX6_rearrange_X6_take rfl rfl rfl (by decide +kernel) ⟨rfl, rfl, Nat.le_of_ble_eq_true rfl, Nat.le_of_ble_eq_true rfl⟩ hl.1 (Nat.le_of_ble_eq_true rfl) ⟨Nat.le_of_ble_eq_true rfl, Nat.le_of_ble_eq_true rfl⟩ rfl rfl dX6_rearrange_1 (fun r u H locs hq hW hS => ?_)
    obtain ⟨rfl, rfl⟩ := hq
    have hW : gW g ((h, .inr (3, [.ref a0, .ref a1, .ref a2, .ref a3, .ref a4, .ref a5, .int f6, .int f7, .int f8, .int f9, .int f10, .int (nI (ht - 1)), .int f12, .int f13, .int f14, .int f15, .int f16])) :: (a0, .inl (g.2.1 0, 32, .inl nu)) :: R) _ := hW
    refine lv_istore_n (lv' := [(2, .int (nu (ht - 1))), (0, .ref h), (1, .ref (g.2.2.2 1))]) F.1 F.2.1 dX6_rearrange_4 rfl hl (by decide) rfl (fun ls hl => ?_)
    refine lv_aload_n F.1 F.2.1 dX6_rearrange_5 rfl (lv_at hl 2 rfl) ?_
    refine gKtakes F hG hS (by omega) mX6_rearrange_1 dX6_rearrange_6 ?_
    refine gTop (y := nI 1) rfl ?_
    refine lv_iconst (v := nI 1) F.1 F.2.1 dX6_rearrange_9 rfl ?_
    refine gLe (tgt := 20) F (by decide) (by decide) dX6_rearrange_10 (by decide) (fun c_10 => ?_) (fun c_10 => by exfalso; omega)
    refine lv_iconst (v := nI 0) F.1 F.2.1 dX6_rearrange_20 rfl ?_
    refine lv_istore_n (lv' := [(3, .int (nI 0)), (2, .int (nu (ht - 1))), (0, .ref h), (1, .ref (g.2.2.2 1))]) F.1 F.2.1 dX6_rearrange_21 rfl hl (by decide) rfl (fun ls hl => ?_)
    refine gsSwitch F hG hS mX6_rearrange_2 dX6_rearrange_22 ?_
    refine lv_aload_n F.1 F.2.1 dX6_rearrange_25 rfl (lv_at hl 3 rfl) ?_
    refine gEU_i (n := 0) (As := []) F hG hS hW (c_Jx29ce0_ordinal_8abf5 g l  (by omega)) rfl gX6_rearrange_Jx29ce0_ordinal_8abf5_u160X5 rfl (by omega) (by decide +kernel) (by decide +kernel) ⟨rfl, rfl, Nat.le_of_ble_eq_true rfl, Nat.le_of_ble_eq_true rfl⟩ hl.1 (Nat.le_of_ble_eq_true rfl) ⟨Nat.le_of_ble_eq_true rfl, Nat.le_of_ble_eq_true rfl⟩ rfl rfl dX6_rearrange_26 (fun r u H locs hq hW hS => ?_)
    obtain ⟨rfl, rfl⟩ := hq
    have hW : gW g ((h, .inr (3, [.ref a0, .ref a1, .ref a2, .ref a3, .ref a4, .ref a5, .int f6, .int f7, .int f8, .int f9, .int f10, .int (nI (ht - 1)), .int f12, .int f13, .int f14, .int f15, .int f16])) :: (a0, .inl (g.2.1 0, 32, .inl nu)) :: R) _ := hW
    refine gLdSwitch F hG hS (by omega) dX6_rearrange_29 ?_
    refine gTop (y := nI 0) rfl ?_
    refine lv_tableOut (tgt := 163) F.1 F.2.1 dX6_rearrange_30 (by decide) (by decide) ?_
    refine gRv F hW hS dX6_rearrange_163 ?_
    have e1 : htS 1 ht = ht - 1 := by show ht - 1 + 0 = _; omega
    show _ = _
    rw [e1]
    rfl
  · have h0 : 1 ≤ ht := h0
    have h1 : ht - 1 + 2 ≤ 32 := h1
    have hl : lv_has ls 4 [(0, .ref h), (1, .ref (g.2.2.2 2))] := hl
    have hW : gW g ((h, .inr (3, [.ref a0, .ref a1, .ref a2, .ref a3, .ref a4, .ref a5, .int f6, .int f7, .int f8, .int f9, .int f10, .int (nI ht), .int f12, .int f13, .int f14, .int f15, .int f16])) :: (a0, .inl (g.2.1 0, 32, .inl nu)) :: R) s.heap := hW
    refine lv_aload_n F.1 F.2.1 dX6_rearrange_0 rfl (lv_at hl 0 rfl) ?_
    refine gVi (n := 0) (q := (RX6, TX6, 17)) (q0 := 0) (As := []) F hG hS hW (c_X6_take g l  (by omega) (by omega)) rfl gX6_rearrange_X6_take rfl rfl rfl (by decide +kernel) ⟨rfl, rfl, Nat.le_of_ble_eq_true rfl, Nat.le_of_ble_eq_true rfl⟩ hl.1 (Nat.le_of_ble_eq_true rfl) ⟨Nat.le_of_ble_eq_true rfl, Nat.le_of_ble_eq_true rfl⟩ rfl rfl dX6_rearrange_1 (fun r u H locs hq hW hS => ?_)
    obtain ⟨rfl, rfl⟩ := hq
    have hW : gW g ((h, .inr (3, [.ref a0, .ref a1, .ref a2, .ref a3, .ref a4, .ref a5, .int f6, .int f7, .int f8, .int f9, .int f10, .int (nI (ht - 1)), .int f12, .int f13, .int f14, .int f15, .int f16])) :: (a0, .inl (g.2.1 0, 32, .inl nu)) :: R) _ := hW
    refine lv_istore_n (lv' := [(2, .int (nu (ht - 1))), (0, .ref h), (1, .ref (g.2.2.2 2))]) F.1 F.2.1 dX6_rearrange_4 rfl hl (by decide) rfl (fun ls hl => ?_)
    refine lv_aload_n F.1 F.2.1 dX6_rearrange_5 rfl (lv_at hl 2 rfl) ?_
    refine gKtakes F hG hS (by omega) mX6_rearrange_1 dX6_rearrange_6 ?_
    refine gTop (y := nI 1) rfl ?_
    refine lv_iconst (v := nI 1) F.1 F.2.1 dX6_rearrange_9 rfl ?_
    refine gLe (tgt := 20) F (by decide) (by decide) dX6_rearrange_10 (by decide) (fun c_10 => ?_) (fun c_10 => by exfalso; omega)
    refine lv_iconst (v := nI 0) F.1 F.2.1 dX6_rearrange_20 rfl ?_
    refine lv_istore_n (lv' := [(3, .int (nI 0)), (2, .int (nu (ht - 1))), (0, .ref h), (1, .ref (g.2.2.2 2))]) F.1 F.2.1 dX6_rearrange_21 rfl hl (by decide) rfl (fun ls hl => ?_)
    refine gsSwitch F hG hS mX6_rearrange_2 dX6_rearrange_22 ?_
    refine lv_aload_n F.1 F.2.1 dX6_rearrange_25 rfl (lv_at hl 3 rfl) ?_
    refine gEU_i (n := 0) (As := []) F hG hS hW (c_Jx29ce0_ordinal_8abf5 g l  (by omega)) rfl gX6_rearrange_Jx29ce0_ordinal_8abf5_u160X5 rfl (by omega) (by decide +kernel) (by decide +kernel) ⟨rfl, rfl, Nat.le_of_ble_eq_true rfl, Nat.le_of_ble_eq_true rfl⟩ hl.1 (Nat.le_of_ble_eq_true rfl) ⟨Nat.le_of_ble_eq_true rfl, Nat.le_of_ble_eq_true rfl⟩ rfl rfl dX6_rearrange_26 (fun r u H locs hq hW hS => ?_)
    obtain ⟨rfl, rfl⟩ := hq
    have hW : gW g ((h, .inr (3, [.ref a0, .ref a1, .ref a2, .ref a3, .ref a4, .ref a5, .int f6, .int f7, .int f8, .int f9, .int f10, .int (nI (ht - 1)), .int f12, .int f13, .int f14, .int f15, .int f16])) :: (a0, .inl (g.2.1 0, 32, .inl nu)) :: R) _ := hW
    refine gLdSwitch F hG hS (by omega) dX6_rearrange_29 ?_
    refine gTop (y := nI 8) rfl ?_
    refine lv_tableIn (tgt := 72) F.1 F.2.1 dX6_rearrange_30 (by decide) (by decide) rfl (by decide) ?_
    refine lv_aload_n F.1 F.2.1 dX6_rearrange_72 rfl (lv_at hl 2 rfl) ?_
    refine lv_iload_n F.1 F.2.1 dX6_rearrange_73 rfl (lv_at hl 1 rfl) ?_
    refine gVv (n := 1) (q := (RX6, TX6, 17)) (q0 := 0) (As := [.int (nu (ht - 1))]) F hG hS hW (c_X6_put g l  (by omega)) rfl gX6_rearrange_X6_put rfl rfl rfl (by decide +kernel) ⟨rfl, rfl, Nat.le_of_ble_eq_true rfl, Nat.le_of_ble_eq_true rfl⟩ hl.1 (Nat.le_of_ble_eq_true rfl) ⟨Nat.le_of_ble_eq_true rfl, Nat.le_of_ble_eq_true rfl⟩ rfl rfl dX6_rearrange_74 (fun u H locs hq hW hS => ?_)
    obtain rfl := hq
    have hW : gW g ((h, .inr (3, [.ref a0, .ref a1, .ref a2, .ref a3, .ref a4, .ref a5, .int f6, .int f7, .int f8, .int f9, .int f10, .int (nI ((ht - 1) + 1)), .int f12, .int f13, .int f14, .int f15, .int f16])) :: (a0, .inl (g.2.1 0, 32, .inl (upd nu (ht - 1) (nu (ht - 1))))) :: R) _ := hW
    refine lv_aload_n F.1 F.2.1 dX6_rearrange_77 rfl (lv_at hl 2 rfl) ?_
    refine lv_iload_n F.1 F.2.1 dX6_rearrange_78 rfl (lv_at hl 1 rfl) ?_
    refine gVv (n := 1) (q := (RX6, TX6, 17)) (q0 := 0) (As := [.int (nu (ht - 1))]) F hG hS hW (c_X6_put g l  (by omega)) rfl gX6_rearrange_X6_put rfl rfl rfl (by decide +kernel) ⟨rfl, rfl, Nat.le_of_ble_eq_true rfl, Nat.le_of_ble_eq_true rfl⟩ hl.1 (Nat.le_of_ble_eq_true rfl) ⟨Nat.le_of_ble_eq_true rfl, Nat.le_of_ble_eq_true rfl⟩ rfl rfl dX6_rearrange_79 (fun u H locs hq hW hS => ?_)
    obtain rfl := hq
    have hW : gW g ((h, .inr (3, [.ref a0, .ref a1, .ref a2, .ref a3, .ref a4, .ref a5, .int f6, .int f7, .int f8, .int f9, .int f10, .int (nI (((ht - 1) + 1) + 1)), .int f12, .int f13, .int f14, .int f15, .int f16])) :: (a0, .inl (g.2.1 0, 32, .inl (upd (upd nu (ht - 1) (nu (ht - 1))) ((ht - 1) + 1) (nu (ht - 1))))) :: R) _ := hW
    refine lv_goto (tgt := 163) F.1 F.2.1 dX6_rearrange_82 (by decide) ?_
    refine gRv F hW hS dX6_rearrange_163 ?_
    have e1 : htS 2 ht = ((ht - 1) + 1) + 1 := by show ht - 1 + 2 = _; omega
    have e2 : nuS 2 0 nu ht ce0 = upd (upd nu (ht - 1) (nu (ht - 1))) ((ht - 1) + 1) (nu (ht - 1)) := by show upd nu ht (nu (ht - 1)) = _; rw [upd_self, show ht - 1 + 1 = ht by omega]
    show _ = _
    rw [e1, e2]
  · have h0 : 2 ≤ ht := h0
    have h1 : ht - 2 + 2 ≤ 32 := h1
    have hl : lv_has ls 4 [(0, .ref h), (1, .ref (g.2.2.2 3))] := hl
    have hW : gW g ((h, .inr (3, [.ref a0, .ref a1, .ref a2, .ref a3, .ref a4, .ref a5, .int f6, .int f7, .int f8, .int f9, .int f10, .int (nI ht), .int f12, .int f13, .int f14, .int f15, .int f16])) :: (a0, .inl (g.2.1 0, 32, .inl nu)) :: R) s.heap := hW
    refine lv_aload_n F.1 F.2.1 dX6_rearrange_0 rfl (lv_at hl 0 rfl) ?_
    refine gVi (n := 0) (q := (RX6, TX6, 17)) (q0 := 0) (As := []) F hG hS hW (c_X6_take g l  (by omega) (by omega)) rfl gX6_rearrange_X6_take rfl rfl rfl (by decide +kernel) ⟨rfl, rfl, Nat.le_of_ble_eq_true rfl, Nat.le_of_ble_eq_true rfl⟩ hl.1 (Nat.le_of_ble_eq_true rfl) ⟨Nat.le_of_ble_eq_true rfl, Nat.le_of_ble_eq_true rfl⟩ rfl rfl dX6_rearrange_1 (fun r u H locs hq hW hS => ?_)
    obtain ⟨rfl, rfl⟩ := hq
    have hW : gW g ((h, .inr (3, [.ref a0, .ref a1, .ref a2, .ref a3, .ref a4, .ref a5, .int f6, .int f7, .int f8, .int f9, .int f10, .int (nI (ht - 1)), .int f12, .int f13, .int f14, .int f15, .int f16])) :: (a0, .inl (g.2.1 0, 32, .inl nu)) :: R) _ := hW
    refine lv_istore_n (lv' := [(2, .int (nu (ht - 1))), (0, .ref h), (1, .ref (g.2.2.2 3))]) F.1 F.2.1 dX6_rearrange_4 rfl hl (by decide) rfl (fun ls hl => ?_)
    refine lv_aload_n F.1 F.2.1 dX6_rearrange_5 rfl (lv_at hl 2 rfl) ?_
    refine gKtakes F hG hS (by omega) mX6_rearrange_1 dX6_rearrange_6 ?_
    refine gTop (y := nI 2) rfl ?_
    refine lv_iconst (v := nI 1) F.1 F.2.1 dX6_rearrange_9 rfl ?_
    refine gLe (tgt := 20) F (by decide) (by decide) dX6_rearrange_10 (by decide) (fun c_10 => by exfalso; omega) (fun c_10 => ?_)
    refine lv_aload_n F.1 F.2.1 dX6_rearrange_13 rfl (lv_at hl 1 rfl) ?_
    refine gVi (n := 0) (q := (RX6, TX6, 17)) (q0 := 0) (As := []) F hG hS hW (c_X6_take g l  (by omega) (by omega)) rfl gX6_rearrange_X6_take rfl rfl rfl (by decide +kernel) ⟨rfl, rfl, Nat.le_of_ble_eq_true rfl, Nat.le_of_ble_eq_true rfl⟩ hl.1 (Nat.le_of_ble_eq_true rfl) ⟨Nat.le_of_ble_eq_true rfl, Nat.le_of_ble_eq_true rfl⟩ rfl rfl dX6_rearrange_14 (fun r u H locs hq hW hS => ?_)
    obtain ⟨rfl, rfl⟩ := hq
    have hW : gW g ((h, .inr (3, [.ref a0, .ref a1, .ref a2, .ref a3, .ref a4, .ref a5, .int f6, .int f7, .int f8, .int f9, .int f10, .int (nI ((ht - 1) - 1)), .int f12, .int f13, .int f14, .int f15, .int f16])) :: (a0, .inl (g.2.1 0, 32, .inl nu)) :: R) _ := hW
    refine lv_goto (tgt := 21) F.1 F.2.1 dX6_rearrange_17 (by decide) ?_
    refine lv_istore_n (lv' := [(3, .int (nu ((ht - 1) - 1))), (2, .int (nu (ht - 1))), (0, .ref h), (1, .ref (g.2.2.2 3))]) F.1 F.2.1 dX6_rearrange_21 rfl hl (by decide) rfl (fun ls hl => ?_)
    refine gsSwitch F hG hS mX6_rearrange_2 dX6_rearrange_22 ?_
    refine lv_aload_n F.1 F.2.1 dX6_rearrange_25 rfl (lv_at hl 3 rfl) ?_
    refine gEU_i (n := 0) (As := []) F hG hS hW (c_Jx29ce0_ordinal_8abf5 g l  (by omega)) rfl gX6_rearrange_Jx29ce0_ordinal_8abf5_u160X5 rfl (by omega) (by decide +kernel) (by decide +kernel) ⟨rfl, rfl, Nat.le_of_ble_eq_true rfl, Nat.le_of_ble_eq_true rfl⟩ hl.1 (Nat.le_of_ble_eq_true rfl) ⟨Nat.le_of_ble_eq_true rfl, Nat.le_of_ble_eq_true rfl⟩ rfl rfl dX6_rearrange_26 (fun r u H locs hq hW hS => ?_)
    obtain ⟨rfl, rfl⟩ := hq
    have hW : gW g ((h, .inr (3, [.ref a0, .ref a1, .ref a2, .ref a3, .ref a4, .ref a5, .int f6, .int f7, .int f8, .int f9, .int f10, .int (nI ((ht - 1) - 1)), .int f12, .int f13, .int f14, .int f15, .int f16])) :: (a0, .inl (g.2.1 0, 32, .inl nu)) :: R) _ := hW
    refine gLdSwitch F hG hS (by omega) dX6_rearrange_29 ?_
    refine gTop (y := nI 9) rfl ?_
    refine lv_tableIn (tgt := 85) F.1 F.2.1 dX6_rearrange_30 (by decide) (by decide) rfl (by decide) ?_
    refine lv_aload_n F.1 F.2.1 dX6_rearrange_85 rfl (lv_at hl 2 rfl) ?_
    refine lv_iload_n F.1 F.2.1 dX6_rearrange_86 rfl (lv_at hl 1 rfl) ?_
    refine gVv (n := 1) (q := (RX6, TX6, 17)) (q0 := 0) (As := [.int (nu (ht - 1))]) F hG hS hW (c_X6_put g l  (by omega)) rfl gX6_rearrange_X6_put rfl rfl rfl (by decide +kernel) ⟨rfl, rfl, Nat.le_of_ble_eq_true rfl, Nat.le_of_ble_eq_true rfl⟩ hl.1 (Nat.le_of_ble_eq_true rfl) ⟨Nat.le_of_ble_eq_true rfl, Nat.le_of_ble_eq_true rfl⟩ rfl rfl dX6_rearrange_87 (fun u H locs hq hW hS => ?_)
    obtain rfl := hq
    have hW : gW g ((h, .inr (3, [.ref a0, .ref a1, .ref a2, .ref a3, .ref a4, .ref a5, .int f6, .int f7, .int f8, .int f9, .int f10, .int (nI (((ht - 1) - 1) + 1)), .int f12, .int f13, .int f14, .int f15, .int f16])) :: (a0, .inl (g.2.1 0, 32, .inl (upd nu ((ht - 1) - 1) (nu (ht - 1))))) :: R) _ := hW
    refine lv_aload_n F.1 F.2.1 dX6_rearrange_90 rfl (lv_at hl 2 rfl) ?_
    refine lv_iload_n F.1 F.2.1 dX6_rearrange_91 rfl (lv_at hl 0 rfl) ?_
    refine gVv (n := 1) (q := (RX6, TX6, 17)) (q0 := 0) (As := [.int (nu ((ht - 1) - 1))]) F hG hS hW (c_X6_put g l  (by omega)) rfl gX6_rearrange_X6_put rfl rfl rfl (by decide +kernel) ⟨rfl, rfl, Nat.le_of_ble_eq_true rfl, Nat.le_of_ble_eq_true rfl⟩ hl.1 (Nat.le_of_ble_eq_true rfl) ⟨Nat.le_of_ble_eq_true rfl, Nat.le_of_ble_eq_true rfl⟩ rfl rfl dX6_rearrange_92 (fun u H locs hq hW hS => ?_)
    obtain rfl := hq
    have hW : gW g ((h, .inr (3, [.ref a0, .ref a1, .ref a2, .ref a3, .ref a4, .ref a5, .int f6, .int f7, .int f8, .int f9, .int f10, .int (nI ((((ht - 1) - 1) + 1) + 1)), .int f12, .int f13, .int f14, .int f15, .int f16])) :: (a0, .inl (g.2.1 0, 32, .inl (upd (upd nu ((ht - 1) - 1) (nu (ht - 1))) (((ht - 1) - 1) + 1) (nu ((ht - 1) - 1))))) :: R) _ := hW
    refine lv_goto (tgt := 163) F.1 F.2.1 dX6_rearrange_95 (by decide) ?_
    refine gRv F hW hS dX6_rearrange_163 ?_
    have e1 : htS 3 ht = (((ht - 1) - 1) + 1) + 1 := by show ht - 2 + 2 = _; omega
    have e2 : nuS 3 0 nu ht ce0 = upd (upd nu ((ht - 1) - 1) (nu (ht - 1))) (((ht - 1) - 1) + 1) (nu ((ht - 1) - 1)) := by show upd (upd nu (ht - 2) (nu (ht - 1))) (ht - 1) (nu (ht - 2)) = _; rw [show ht - 1 - 1 = ht - 2 by omega, show ht - 2 + 1 = ht - 1 by omega]
    show _ = _
    rw [e1, e2]
  · have h0 : 2 ≤ ht := h0
    have h1 : ht - 2 + 3 ≤ 32 := h1
    have hl : lv_has ls 4 [(0, .ref h), (1, .ref (g.2.2.2 4))] := hl
    have hW : gW g ((h, .inr (3, [.ref a0, .ref a1, .ref a2, .ref a3, .ref a4, .ref a5, .int f6, .int f7, .int f8, .int f9, .int f10, .int (nI ht), .int f12, .int f13, .int f14, .int f15, .int f16])) :: (a0, .inl (g.2.1 0, 32, .inl nu)) :: R) s.heap := hW
    refine lv_aload_n F.1 F.2.1 dX6_rearrange_0 rfl (lv_at hl 0 rfl) ?_
    refine gVi (n := 0) (q := (RX6, TX6, 17)) (q0 := 0) (As := []) F hG hS hW (c_X6_take g l  (by omega) (by omega)) rfl gX6_rearrange_X6_take rfl rfl rfl (by decide +kernel) ⟨rfl, rfl, Nat.le_of_ble_eq_true rfl, Nat.le_of_ble_eq_true rfl⟩ hl.1 (Nat.le_of_ble_eq_true rfl) ⟨Nat.le_of_ble_eq_true rfl, Nat.le_of_ble_eq_true rfl⟩ rfl rfl dX6_rearrange_1 (fun r u H locs hq hW hS => ?_)
    obtain ⟨rfl, rfl⟩ := hq
    have hW : gW g ((h, .inr (3, [.ref a0, .ref a1, .ref a2, .ref a3, .ref a4, .ref a5, .int f6, .int f7, .int f8, .int f9, .int f10, .int (nI (ht - 1)), .int f12, .int f13, .int f14, .int f15, .int f16])) :: (a0, .inl (g.2.1 0, 32, .inl nu)) :: R) _ := hW
    refine lv_istore_n (lv' := [(2, .int (nu (ht - 1))), (0, .ref h), (1, .ref (g.2.2.2 4))]) F.1 F.2.1 dX6_rearrange_4 rfl hl (by decide) rfl (fun ls hl => ?_)
    refine lv_aload_n F.1 F.2.1 dX6_rearrange_5 rfl (lv_at hl 2 rfl) ?_
    refine gKtakes F hG hS (by omega) mX6_rearrange_1 dX6_rearrange_6 ?_
    refine gTop (y := nI 2) rfl ?_
    refine lv_iconst (v := nI 1) F.1 F.2.1 dX6_rearrange_9 rfl ?_
    refine gLe (tgt := 20) F (by decide) (by decide) dX6_rearrange_10 (by decide) (fun c_10 => by exfalso; omega) (fun c_10 => ?_)
    refine lv_aload_n F.1 F.2.1 dX6_rearrange_13 rfl (lv_at hl 1 rfl) ?_
    refine gVi (n := 0) (q := (RX6, TX6, 17)) (q0 := 0) (As := []) F hG hS hW (c_X6_take g l  (by omega) (by omega)) rfl gX6_rearrange_X6_take rfl rfl rfl (by decide +kernel) ⟨rfl, rfl, Nat.le_of_ble_eq_true rfl, Nat.le_of_ble_eq_true rfl⟩ hl.1 (Nat.le_of_ble_eq_true rfl) ⟨Nat.le_of_ble_eq_true rfl, Nat.le_of_ble_eq_true rfl⟩ rfl rfl dX6_rearrange_14 (fun r u H locs hq hW hS => ?_)
    obtain ⟨rfl, rfl⟩ := hq
    have hW : gW g ((h, .inr (3, [.ref a0, .ref a1, .ref a2, .ref a3, .ref a4, .ref a5, .int f6, .int f7, .int f8, .int f9, .int f10, .int (nI ((ht - 1) - 1)), .int f12, .int f13, .int f14, .int f15, .int f16])) :: (a0, .inl (g.2.1 0, 32, .inl nu)) :: R) _ := hW
    refine lv_goto (tgt := 21) F.1 F.2.1 dX6_rearrange_17 (by decide) ?_
    refine lv_istore_n (lv' := [(3, .int (nu ((ht - 1) - 1))), (2, .int (nu (ht - 1))), (0, .ref h), (1, .ref (g.2.2.2 4))]) F.1 F.2.1 dX6_rearrange_21 rfl hl (by decide) rfl (fun ls hl => ?_)
    refine gsSwitch F hG hS mX6_rearrange_2 dX6_rearrange_22 ?_
    refine lv_aload_n F.1 F.2.1 dX6_rearrange_25 rfl (lv_at hl 3 rfl) ?_
    refine gEU_i (n := 0) (As := []) F hG hS hW (c_Jx29ce0_ordinal_8abf5 g l  (by omega)) rfl gX6_rearrange_Jx29ce0_ordinal_8abf5_u160X5 rfl (by omega) (by decide +kernel) (by decide +kernel) ⟨rfl, rfl, Nat.le_of_ble_eq_true rfl, Nat.le_of_ble_eq_true rfl⟩ hl.1 (Nat.le_of_ble_eq_true rfl) ⟨Nat.le_of_ble_eq_true rfl, Nat.le_of_ble_eq_true rfl⟩ rfl rfl dX6_rearrange_26 (fun r u H locs hq hW hS => ?_)
    obtain ⟨rfl, rfl⟩ := hq
    have hW : gW g ((h, .inr (3, [.ref a0, .ref a1, .ref a2, .ref a3, .ref a4, .ref a5, .int f6, .int f7, .int f8, .int f9, .int f10, .int (nI ((ht - 1) - 1)), .int f12, .int f13, .int f14, .int f15, .int f16])) :: (a0, .inl (g.2.1 0, 32, .inl nu)) :: R) _ := hW
    refine gLdSwitch F hG hS (by omega) dX6_rearrange_29 ?_
    refine gTop (y := nI 10) rfl ?_
    refine lv_tableIn (tgt := 98) F.1 F.2.1 dX6_rearrange_30 (by decide) (by decide) rfl (by decide) ?_
    refine lv_aload_n F.1 F.2.1 dX6_rearrange_98 rfl (lv_at hl 2 rfl) ?_
    refine lv_iload_n F.1 F.2.1 dX6_rearrange_99 rfl (lv_at hl 0 rfl) ?_
    refine gVv (n := 1) (q := (RX6, TX6, 17)) (q0 := 0) (As := [.int (nu ((ht - 1) - 1))]) F hG hS hW (c_X6_put g l  (by omega)) rfl gX6_rearrange_X6_put rfl rfl rfl (by decide +kernel) ⟨rfl, rfl, Nat.le_of_ble_eq_true rfl, Nat.le_of_ble_eq_true rfl⟩ hl.1 (Nat.le_of_ble_eq_true rfl) ⟨Nat.le_of_ble_eq_true rfl, Nat.le_of_ble_eq_true rfl⟩ rfl rfl dX6_rearrange_100 (fun u H locs hq hW hS => ?_)
    obtain rfl := hq
    have hW : gW g ((h, .inr (3, [.ref a0, .ref a1, .ref a2, .ref a3, .ref a4, .ref a5, .int f6, .int f7, .int f8, .int f9, .int f10, .int (nI (((ht - 1) - 1) + 1)), .int f12, .int f13, .int f14, .int f15, .int f16])) :: (a0, .inl (g.2.1 0, 32, .inl (upd nu ((ht - 1) - 1) (nu ((ht - 1) - 1))))) :: R) _ := hW
    refine lv_aload_n F.1 F.2.1 dX6_rearrange_103 rfl (lv_at hl 2 rfl) ?_
    refine lv_iload_n F.1 F.2.1 dX6_rearrange_104 rfl (lv_at hl 1 rfl) ?_
    refine gVv (n := 1) (q := (RX6, TX6, 17)) (q0 := 0) (As := [.int (nu (ht - 1))]) F hG hS hW (c_X6_put g l  (by omega)) rfl gX6_rearrange_X6_put rfl rfl rfl (by decide +kernel) ⟨rfl, rfl, Nat.le_of_ble_eq_true rfl, Nat.le_of_ble_eq_true rfl⟩ hl.1 (Nat.le_of_ble_eq_true rfl) ⟨Nat.le_of_ble_eq_true rfl, Nat.le_of_ble_eq_true rfl⟩ rfl rfl dX6_rearrange_105 (fun u H locs hq hW hS => ?_)
    obtain rfl := hq
    have hW : gW g ((h, .inr (3, [.ref a0, .ref a1, .ref a2, .ref a3, .ref a4, .ref a5, .int f6, .int f7, .int f8, .int f9, .int f10, .int (nI ((((ht - 1) - 1) + 1) + 1)), .int f12, .int f13, .int f14, .int f15, .int f16])) :: (a0, .inl (g.2.1 0, 32, .inl (upd (upd nu ((ht - 1) - 1) (nu ((ht - 1) - 1))) (((ht - 1) - 1) + 1) (nu (ht - 1))))) :: R) _ := hW
    refine lv_aload_n F.1 F.2.1 dX6_rearrange_108 rfl (lv_at hl 2 rfl) ?_
    refine lv_iload_n F.1 F.2.1 dX6_rearrange_109 rfl (lv_at hl 0 rfl) ?_
    refine gVv (n := 1) (q := (RX6, TX6, 17)) (q0 := 0) (As := [.int (nu ((ht - 1) - 1))]) F hG hS hW (c_X6_put g l  (by omega)) rfl gX6_rearrange_X6_put rfl rfl rfl (by decide +kernel) ⟨rfl, rfl, Nat.le_of_ble_eq_true rfl, Nat.le_of_ble_eq_true rfl⟩ hl.1 (Nat.le_of_ble_eq_true rfl) ⟨Nat.le_of_ble_eq_true rfl, Nat.le_of_ble_eq_true rfl⟩ rfl rfl dX6_rearrange_110 (fun u H locs hq hW hS => ?_)
    obtain rfl := hq
    have hW : gW g ((h, .inr (3, [.ref a0, .ref a1, .ref a2, .ref a3, .ref a4, .ref a5, .int f6, .int f7, .int f8, .int f9, .int f10, .int (nI (((((ht - 1) - 1) + 1) + 1) + 1)), .int f12, .int f13, .int f14, .int f15, .int f16])) :: (a0, .inl (g.2.1 0, 32, .inl (upd (upd (upd nu ((ht - 1) - 1) (nu ((ht - 1) - 1))) (((ht - 1) - 1) + 1) (nu (ht - 1))) ((((ht - 1) - 1) + 1) + 1) (nu ((ht - 1) - 1))))) :: R) _ := hW
    refine lv_goto (tgt := 163) F.1 F.2.1 dX6_rearrange_113 (by decide) ?_
    refine gRv F hW hS dX6_rearrange_163 ?_
    have e1 : htS 4 ht = ((((ht - 1) - 1) + 1) + 1) + 1 := by show ht - 2 + 3 = _; omega
    have e2 : nuS 4 0 nu ht ce0 = upd (upd (upd nu ((ht - 1) - 1) (nu ((ht - 1) - 1))) (((ht - 1) - 1) + 1) (nu (ht - 1))) ((((ht - 1) - 1) + 1) + 1) (nu ((ht - 1) - 1)) := by show upd nu ht (nu (ht - 2)) = _; rw [show ht - 1 - 1 = ht - 2 by omega, upd_self, show ht - 2 + 1 = ht - 1 by omega, upd_self, show ht - 1 + 1 = ht by omega]
    show _ = _
    rw [e1, e2]
  · have h0 : 2 ≤ ht := h0
    have h1 : ht - 2 + 1 ≤ 32 := h1
    have hl : lv_has ls 4 [(0, .ref h), (1, .ref (g.2.2.2 5))] := hl
    have hW : gW g ((h, .inr (3, [.ref a0, .ref a1, .ref a2, .ref a3, .ref a4, .ref a5, .int f6, .int f7, .int f8, .int f9, .int f10, .int (nI ht), .int f12, .int f13, .int f14, .int f15, .int f16])) :: (a0, .inl (g.2.1 0, 32, .inl nu)) :: R) s.heap := hW
    refine lv_aload_n F.1 F.2.1 dX6_rearrange_0 rfl (lv_at hl 0 rfl) ?_
    refine gVi (n := 0) (q := (RX6, TX6, 17)) (q0 := 0) (As := []) F hG hS hW (c_X6_take g l  (by omega) (by omega)) rfl gX6_rearrange_X6_take rfl rfl rfl (by decide +kernel) ⟨rfl, rfl, Nat.le_of_ble_eq_true rfl, Nat.le_of_ble_eq_true rfl⟩ hl.1 (Nat.le_of_ble_eq_true rfl) ⟨Nat.le_of_ble_eq_true rfl, Nat.le_of_ble_eq_true rfl⟩ rfl rfl dX6_rearrange_1 (fun r u H locs hq hW hS => ?_)
    obtain ⟨rfl, rfl⟩ := hq
    have hW : gW g ((h, .inr (3, [.ref a0, .ref a1, .ref a2, .ref a3, .ref a4, .ref a5, .int f6, .int f7, .int f8, .int f9, .int f10, .int (nI (ht - 1)), .int f12, .int f13, .int f14, .int f15, .int f16])) :: (a0, .inl (g.2.1 0, 32, .inl nu)) :: R) _ := hW
    refine lv_istore_n (lv' := [(2, .int (nu (ht - 1))), (0, .ref h), (1, .ref (g.2.2.2 5))]) F.1 F.2.1 dX6_rearrange_4 rfl hl (by decide) rfl (fun ls hl => ?_)
    refine lv_aload_n F.1 F.2.1 dX6_rearrange_5 rfl (lv_at hl 2 rfl) ?_
    refine gKtakes F hG hS (by omega) mX6_rearrange_1 dX6_rearrange_6 ?_
    refine gTop (y := nI 2) rfl ?_
    refine lv_iconst (v := nI 1) F.1 F.2.1 dX6_rearrange_9 rfl ?_
    refine gLe (tgt := 20) F (by decide) (by decide) dX6_rearrange_10 (by decide) (fun c_10 => by exfalso; omega) (fun c_10 => ?_)
    refine lv_aload_n F.1 F.2.1 dX6_rearrange_13 rfl (lv_at hl 1 rfl) ?_
    refine gVi (n := 0) (q := (RX6, TX6, 17)) (q0 := 0) (As := []) F hG hS hW (c_X6_take g l  (by omega) (by omega)) rfl gX6_rearrange_X6_take rfl rfl rfl (by decide +kernel) ⟨rfl, rfl, Nat.le_of_ble_eq_true rfl, Nat.le_of_ble_eq_true rfl⟩ hl.1 (Nat.le_of_ble_eq_true rfl) ⟨Nat.le_of_ble_eq_true rfl, Nat.le_of_ble_eq_true rfl⟩ rfl rfl dX6_rearrange_14 (fun r u H locs hq hW hS => ?_)
    obtain ⟨rfl, rfl⟩ := hq
    have hW : gW g ((h, .inr (3, [.ref a0, .ref a1, .ref a2, .ref a3, .ref a4, .ref a5, .int f6, .int f7, .int f8, .int f9, .int f10, .int (nI ((ht - 1) - 1)), .int f12, .int f13, .int f14, .int f15, .int f16])) :: (a0, .inl (g.2.1 0, 32, .inl nu)) :: R) _ := hW
    refine lv_goto (tgt := 21) F.1 F.2.1 dX6_rearrange_17 (by decide) ?_
    refine lv_istore_n (lv' := [(3, .int (nu ((ht - 1) - 1))), (2, .int (nu (ht - 1))), (0, .ref h), (1, .ref (g.2.2.2 5))]) F.1 F.2.1 dX6_rearrange_21 rfl hl (by decide) rfl (fun ls hl => ?_)
    refine gsSwitch F hG hS mX6_rearrange_2 dX6_rearrange_22 ?_
    refine lv_aload_n F.1 F.2.1 dX6_rearrange_25 rfl (lv_at hl 3 rfl) ?_
    refine gEU_i (n := 0) (As := []) F hG hS hW (c_Jx29ce0_ordinal_8abf5 g l  (by omega)) rfl gX6_rearrange_Jx29ce0_ordinal_8abf5_u160X5 rfl (by omega) (by decide +kernel) (by decide +kernel) ⟨rfl, rfl, Nat.le_of_ble_eq_true rfl, Nat.le_of_ble_eq_true rfl⟩ hl.1 (Nat.le_of_ble_eq_true rfl) ⟨Nat.le_of_ble_eq_true rfl, Nat.le_of_ble_eq_true rfl⟩ rfl rfl dX6_rearrange_26 (fun r u H locs hq hW hS => ?_)
    obtain ⟨rfl, rfl⟩ := hq
    have hW : gW g ((h, .inr (3, [.ref a0, .ref a1, .ref a2, .ref a3, .ref a4, .ref a5, .int f6, .int f7, .int f8, .int f9, .int f10, .int (nI ((ht - 1) - 1)), .int f12, .int f13, .int f14, .int f15, .int f16])) :: (a0, .inl (g.2.1 0, 32, .inl nu)) :: R) _ := hW
    refine gLdSwitch F hG hS (by omega) dX6_rearrange_29 ?_
    refine gTop (y := nI 11) rfl ?_
    refine lv_tableIn (tgt := 116) F.1 F.2.1 dX6_rearrange_30 (by decide) (by decide) rfl (by decide) ?_
    refine lv_aload_n F.1 F.2.1 dX6_rearrange_116 rfl (lv_at hl 2 rfl) ?_
    refine lv_iload_n F.1 F.2.1 dX6_rearrange_117 rfl (lv_at hl 0 rfl) ?_
    refine lv_iload_n F.1 F.2.1 dX6_rearrange_118 rfl (lv_at hl 1 rfl) ?_
    refine lv_iadd F.1 F.2.1 dX6_rearrange_119 ?_
    refine gVv (n := 1) (q := (RX6, TX6, 17)) (q0 := 0) (As := [.int ((nu ((ht - 1) - 1)) + (nu (ht - 1)))]) F hG hS hW (c_X6_put g l  (by omega)) rfl gX6_rearrange_X6_put rfl rfl rfl (by decide +kernel) ⟨rfl, rfl, Nat.le_of_ble_eq_true rfl, Nat.le_of_ble_eq_true rfl⟩ hl.1 (Nat.le_of_ble_eq_true rfl) ⟨Nat.le_of_ble_eq_true rfl, Nat.le_of_ble_eq_true rfl⟩ rfl rfl dX6_rearrange_120 (fun u H locs hq hW hS => ?_)
    obtain rfl := hq
    have hW : gW g ((h, .inr (3, [.ref a0, .ref a1, .ref a2, .ref a3, .ref a4, .ref a5, .int f6, .int f7, .int f8, .int f9, .int f10, .int (nI (((ht - 1) - 1) + 1)), .int f12, .int f13, .int f14, .int f15, .int f16])) :: (a0, .inl (g.2.1 0, 32, .inl (upd nu ((ht - 1) - 1) ((nu ((ht - 1) - 1)) + (nu (ht - 1)))))) :: R) _ := hW
    refine lv_goto (tgt := 163) F.1 F.2.1 dX6_rearrange_123 (by decide) ?_
    refine gRv F hW hS dX6_rearrange_163 ?_
    have e1 : htS 5 ht = ((ht - 1) - 1) + 1 := by show ht - 2 + 1 = _; omega
    have e2 : nuS 5 0 nu ht ce0 = upd nu ((ht - 1) - 1) ((nu ((ht - 1) - 1)) + (nu (ht - 1))) := by show upd nu (ht - 2) (nu (ht - 2) + nu (ht - 1)) = _; rw [show ht - 1 - 1 = ht - 2 by omega]
    show _ = _
    rw [e1, e2]
  · have h0 : 2 ≤ ht := h0
    have h1 : ht - 2 + 1 ≤ 32 := h1
    have hl : lv_has ls 4 [(0, .ref h), (1, .ref (g.2.2.2 6))] := hl
    have hW : gW g ((h, .inr (3, [.ref a0, .ref a1, .ref a2, .ref a3, .ref a4, .ref a5, .int f6, .int f7, .int f8, .int f9, .int f10, .int (nI ht), .int f12, .int f13, .int f14, .int f15, .int f16])) :: (a0, .inl (g.2.1 0, 32, .inl nu)) :: R) s.heap := hW
    refine lv_aload_n F.1 F.2.1 dX6_rearrange_0 rfl (lv_at hl 0 rfl) ?_
    refine gVi (n := 0) (q := (RX6, TX6, 17)) (q0 := 0) (As := []) F hG hS hW (c_X6_take g l  (by omega) (by omega)) rfl gX6_rearrange_X6_take rfl rfl rfl (by decide +kernel) ⟨rfl, rfl, Nat.le_of_ble_eq_true rfl, Nat.le_of_ble_eq_true rfl⟩ hl.1 (Nat.le_of_ble_eq_true rfl) ⟨Nat.le_of_ble_eq_true rfl, Nat.le_of_ble_eq_true rfl⟩ rfl rfl dX6_rearrange_1 (fun r u H locs hq hW hS => ?_)
    obtain ⟨rfl, rfl⟩ := hq
    have hW : gW g ((h, .inr (3, [.ref a0, .ref a1, .ref a2, .ref a3, .ref a4, .ref a5, .int f6, .int f7, .int f8, .int f9, .int f10, .int (nI (ht - 1)), .int f12, .int f13, .int f14, .int f15, .int f16])) :: (a0, .inl (g.2.1 0, 32, .inl nu)) :: R) _ := hW
    refine lv_istore_n (lv' := [(2, .int (nu (ht - 1))), (0, .ref h), (1, .ref (g.2.2.2 6))]) F.1 F.2.1 dX6_rearrange_4 rfl hl (by decide) rfl (fun ls hl => ?_)
    refine lv_aload_n F.1 F.2.1 dX6_rearrange_5 rfl (lv_at hl 2 rfl) ?_
    refine gKtakes F hG hS (by omega) mX6_rearrange_1 dX6_rearrange_6 ?_
    refine gTop (y := nI 2) rfl ?_
    refine lv_iconst (v := nI 1) F.1 F.2.1 dX6_rearrange_9 rfl ?_
    refine gLe (tgt := 20) F (by decide) (by decide) dX6_rearrange_10 (by decide) (fun c_10 => by exfalso; omega) (fun c_10 => ?_)
    refine lv_aload_n F.1 F.2.1 dX6_rearrange_13 rfl (lv_at hl 1 rfl) ?_
    refine gVi (n := 0) (q := (RX6, TX6, 17)) (q0 := 0) (As := []) F hG hS hW (c_X6_take g l  (by omega) (by omega)) rfl gX6_rearrange_X6_take rfl rfl rfl (by decide +kernel) ⟨rfl, rfl, Nat.le_of_ble_eq_true rfl, Nat.le_of_ble_eq_true rfl⟩ hl.1 (Nat.le_of_ble_eq_true rfl) ⟨Nat.le_of_ble_eq_true rfl, Nat.le_of_ble_eq_true rfl⟩ rfl rfl dX6_rearrange_14 (fun r u H locs hq hW hS => ?_)
    obtain ⟨rfl, rfl⟩ := hq
    have hW : gW g ((h, .inr (3, [.ref a0, .ref a1, .ref a2, .ref a3, .ref a4, .ref a5, .int f6, .int f7, .int f8, .int f9, .int f10, .int (nI ((ht - 1) - 1)), .int f12, .int f13, .int f14, .int f15, .int f16])) :: (a0, .inl (g.2.1 0, 32, .inl nu)) :: R) _ := hW
    refine lv_goto (tgt := 21) F.1 F.2.1 dX6_rearrange_17 (by decide) ?_
    refine lv_istore_n (lv' := [(3, .int (nu ((ht - 1) - 1))), (2, .int (nu (ht - 1))), (0, .ref h), (1, .ref (g.2.2.2 6))]) F.1 F.2.1 dX6_rearrange_21 rfl hl (by decide) rfl (fun ls hl => ?_)
    refine gsSwitch F hG hS mX6_rearrange_2 dX6_rearrange_22 ?_
    refine lv_aload_n F.1 F.2.1 dX6_rearrange_25 rfl (lv_at hl 3 rfl) ?_
    refine gEU_i (n := 0) (As := []) F hG hS hW (c_Jx29ce0_ordinal_8abf5 g l  (by omega)) rfl gX6_rearrange_Jx29ce0_ordinal_8abf5_u160X5 rfl (by omega) (by decide +kernel) (by decide +kernel) ⟨rfl, rfl, Nat.le_of_ble_eq_true rfl, Nat.le_of_ble_eq_true rfl⟩ hl.1 (Nat.le_of_ble_eq_true rfl) ⟨Nat.le_of_ble_eq_true rfl, Nat.le_of_ble_eq_true rfl⟩ rfl rfl dX6_rearrange_26 (fun r u H locs hq hW hS => ?_)
    obtain ⟨rfl, rfl⟩ := hq
    have hW : gW g ((h, .inr (3, [.ref a0, .ref a1, .ref a2, .ref a3, .ref a4, .ref a5, .int f6, .int f7, .int f8, .int f9, .int f10, .int (nI ((ht - 1) - 1)), .int f12, .int f13, .int f14, .int f15, .int f16])) :: (a0, .inl (g.2.1 0, 32, .inl nu)) :: R) _ := hW
    refine gLdSwitch F hG hS (by omega) dX6_rearrange_29 ?_
    refine gTop (y := nI 12) rfl ?_
    refine lv_tableIn (tgt := 126) F.1 F.2.1 dX6_rearrange_30 (by decide) (by decide) rfl (by decide) ?_
    refine lv_aload_n F.1 F.2.1 dX6_rearrange_126 rfl (lv_at hl 2 rfl) ?_
    refine lv_iload_n F.1 F.2.1 dX6_rearrange_127 rfl (lv_at hl 0 rfl) ?_
    refine lv_iload_n F.1 F.2.1 dX6_rearrange_128 rfl (lv_at hl 1 rfl) ?_
    refine lv_isub F.1 F.2.1 dX6_rearrange_129 ?_
    refine gVv (n := 1) (q := (RX6, TX6, 17)) (q0 := 0) (As := [.int ((nu ((ht - 1) - 1)) - (nu (ht - 1)))]) F hG hS hW (c_X6_put g l  (by omega)) rfl gX6_rearrange_X6_put rfl rfl rfl (by decide +kernel) ⟨rfl, rfl, Nat.le_of_ble_eq_true rfl, Nat.le_of_ble_eq_true rfl⟩ hl.1 (Nat.le_of_ble_eq_true rfl) ⟨Nat.le_of_ble_eq_true rfl, Nat.le_of_ble_eq_true rfl⟩ rfl rfl dX6_rearrange_130 (fun u H locs hq hW hS => ?_)
    obtain rfl := hq
    have hW : gW g ((h, .inr (3, [.ref a0, .ref a1, .ref a2, .ref a3, .ref a4, .ref a5, .int f6, .int f7, .int f8, .int f9, .int f10, .int (nI (((ht - 1) - 1) + 1)), .int f12, .int f13, .int f14, .int f15, .int f16])) :: (a0, .inl (g.2.1 0, 32, .inl (upd nu ((ht - 1) - 1) ((nu ((ht - 1) - 1)) - (nu (ht - 1)))))) :: R) _ := hW
    refine lv_goto (tgt := 163) F.1 F.2.1 dX6_rearrange_133 (by decide) ?_
    refine gRv F hW hS dX6_rearrange_163 ?_
    have e1 : htS 6 ht = ((ht - 1) - 1) + 1 := by show ht - 2 + 1 = _; omega
    have e2 : nuS 6 0 nu ht ce0 = upd nu ((ht - 1) - 1) ((nu ((ht - 1) - 1)) - (nu (ht - 1))) := by show upd nu (ht - 2) (nu (ht - 2) - nu (ht - 1)) = _; rw [show ht - 1 - 1 = ht - 2 by omega]
    show _ = _
    rw [e1, e2]
  · have h0 : 2 ≤ ht := h0
    have h1 : ht - 2 + 1 ≤ 32 := h1
    have hl : lv_has ls 4 [(0, .ref h), (1, .ref (g.2.2.2 7))] := hl
    have hW : gW g ((h, .inr (3, [.ref a0, .ref a1, .ref a2, .ref a3, .ref a4, .ref a5, .int f6, .int f7, .int f8, .int f9, .int f10, .int (nI ht), .int f12, .int f13, .int f14, .int f15, .int f16])) :: (a0, .inl (g.2.1 0, 32, .inl nu)) :: R) s.heap := hW
    refine lv_aload_n F.1 F.2.1 dX6_rearrange_0 rfl (lv_at hl 0 rfl) ?_
    refine gVi (n := 0) (q := (RX6, TX6, 17)) (q0 := 0) (As := []) F hG hS hW (c_X6_take g l  (by omega) (by omega)) rfl gX6_rearrange_X6_take rfl rfl rfl (by decide +kernel) ⟨rfl, rfl, Nat.le_of_ble_eq_true rfl, Nat.le_of_ble_eq_true rfl⟩ hl.1 (Nat.le_of_ble_eq_true rfl) ⟨Nat.le_of_ble_eq_true rfl, Nat.le_of_ble_eq_true rfl⟩ rfl rfl dX6_rearrange_1 (fun r u H locs hq hW hS => ?_)
    obtain ⟨rfl, rfl⟩ := hq
    have hW : gW g ((h, .inr (3, [.ref a0, .ref a1, .ref a2, .ref a3, .ref a4, .ref a5, .int f6, .int f7, .int f8, .int f9, .int f10, .int (nI (ht - 1)), .int f12, .int f13, .int f14, .int f15, .int f16])) :: (a0, .inl (g.2.1 0, 32, .inl nu)) :: R) _ := hW
    refine lv_istore_n (lv' := [(2, .int (nu (ht - 1))), (0, .ref h), (1, .ref (g.2.2.2 7))]) F.1 F.2.1 dX6_rearrange_4 rfl hl (by decide) rfl (fun ls hl => ?_)
    refine lv_aload_n F.1 F.2.1 dX6_rearrange_5 rfl (lv_at hl 2 rfl) ?_
    refine gKtakes F hG hS (by omega) mX6_rearrange_1 dX6_rearrange_6 ?_
    refine gTop (y := nI 2) rfl ?_
    refine lv_iconst (v := nI 1) F.1 F.2.1 dX6_rearrange_9 rfl ?_
    refine gLe (tgt := 20) F (by decide) (by decide) dX6_rearrange_10 (by decide) (fun c_10 => by exfalso; omega) (fun c_10 => ?_)
    refine lv_aload_n F.1 F.2.1 dX6_rearrange_13 rfl (lv_at hl 1 rfl) ?_
    refine gVi (n := 0) (q := (RX6, TX6, 17)) (q0 := 0) (As := []) F hG hS hW (c_X6_take g l  (by omega) (by omega)) rfl gX6_rearrange_X6_take rfl rfl rfl (by decide +kernel) ⟨rfl, rfl, Nat.le_of_ble_eq_true rfl, Nat.le_of_ble_eq_true rfl⟩ hl.1 (Nat.le_of_ble_eq_true rfl) ⟨Nat.le_of_ble_eq_true rfl, Nat.le_of_ble_eq_true rfl⟩ rfl rfl dX6_rearrange_14 (fun r u H locs hq hW hS => ?_)
    obtain ⟨rfl, rfl⟩ := hq
    have hW : gW g ((h, .inr (3, [.ref a0, .ref a1, .ref a2, .ref a3, .ref a4, .ref a5, .int f6, .int f7, .int f8, .int f9, .int f10, .int (nI ((ht - 1) - 1)), .int f12, .int f13, .int f14, .int f15, .int f16])) :: (a0, .inl (g.2.1 0, 32, .inl nu)) :: R) _ := hW
    refine lv_goto (tgt := 21) F.1 F.2.1 dX6_rearrange_17 (by decide) ?_
    refine lv_istore_n (lv' := [(3, .int (nu ((ht - 1) - 1))), (2, .int (nu (ht - 1))), (0, .ref h), (1, .ref (g.2.2.2 7))]) F.1 F.2.1 dX6_rearrange_21 rfl hl (by decide) rfl (fun ls hl => ?_)
    refine gsSwitch F hG hS mX6_rearrange_2 dX6_rearrange_22 ?_
    refine lv_aload_n F.1 F.2.1 dX6_rearrange_25 rfl (lv_at hl 3 rfl) ?_
    refine gEU_i (n := 0) (As := []) F hG hS hW (c_Jx29ce0_ordinal_8abf5 g l  (by omega)) rfl gX6_rearrange_Jx29ce0_ordinal_8abf5_u160X5 rfl (by omega) (by decide +kernel) (by decide +kernel) ⟨rfl, rfl, Nat.le_of_ble_eq_true rfl, Nat.le_of_ble_eq_true rfl⟩ hl.1 (Nat.le_of_ble_eq_true rfl) ⟨Nat.le_of_ble_eq_true rfl, Nat.le_of_ble_eq_true rfl⟩ rfl rfl dX6_rearrange_26 (fun r u H locs hq hW hS => ?_)
    obtain ⟨rfl, rfl⟩ := hq
    have hW : gW g ((h, .inr (3, [.ref a0, .ref a1, .ref a2, .ref a3, .ref a4, .ref a5, .int f6, .int f7, .int f8, .int f9, .int f10, .int (nI ((ht - 1) - 1)), .int f12, .int f13, .int f14, .int f15, .int f16])) :: (a0, .inl (g.2.1 0, 32, .inl nu)) :: R) _ := hW
    refine gLdSwitch F hG hS (by omega) dX6_rearrange_29 ?_
    refine gTop (y := nI 13) rfl ?_
    refine lv_tableIn (tgt := 136) F.1 F.2.1 dX6_rearrange_30 (by decide) (by decide) rfl (by decide) ?_
    refine lv_aload_n F.1 F.2.1 dX6_rearrange_136 rfl (lv_at hl 2 rfl) ?_
    refine lv_iload_n F.1 F.2.1 dX6_rearrange_137 rfl (lv_at hl 0 rfl) ?_
    refine lv_iload_n F.1 F.2.1 dX6_rearrange_138 rfl (lv_at hl 1 rfl) ?_
    refine lv_imul F.1 F.2.1 dX6_rearrange_139 ?_
    refine gVv (n := 1) (q := (RX6, TX6, 17)) (q0 := 0) (As := [.int ((nu ((ht - 1) - 1)) * (nu (ht - 1)))]) F hG hS hW (c_X6_put g l  (by omega)) rfl gX6_rearrange_X6_put rfl rfl rfl (by decide +kernel) ⟨rfl, rfl, Nat.le_of_ble_eq_true rfl, Nat.le_of_ble_eq_true rfl⟩ hl.1 (Nat.le_of_ble_eq_true rfl) ⟨Nat.le_of_ble_eq_true rfl, Nat.le_of_ble_eq_true rfl⟩ rfl rfl dX6_rearrange_140 (fun u H locs hq hW hS => ?_)
    obtain rfl := hq
    have hW : gW g ((h, .inr (3, [.ref a0, .ref a1, .ref a2, .ref a3, .ref a4, .ref a5, .int f6, .int f7, .int f8, .int f9, .int f10, .int (nI (((ht - 1) - 1) + 1)), .int f12, .int f13, .int f14, .int f15, .int f16])) :: (a0, .inl (g.2.1 0, 32, .inl (upd nu ((ht - 1) - 1) ((nu ((ht - 1) - 1)) * (nu (ht - 1)))))) :: R) _ := hW
    refine lv_goto (tgt := 163) F.1 F.2.1 dX6_rearrange_143 (by decide) ?_
    refine gRv F hW hS dX6_rearrange_163 ?_
    have e1 : htS 7 ht = ((ht - 1) - 1) + 1 := by show ht - 2 + 1 = _; omega
    have e2 : nuS 7 0 nu ht ce0 = upd nu ((ht - 1) - 1) ((nu ((ht - 1) - 1)) * (nu (ht - 1))) := by show upd nu (ht - 2) (nu (ht - 2) * nu (ht - 1)) = _; rw [show ht - 1 - 1 = ht - 2 by omega]
    show _ = _
    rw [e1, e2]
  · have h0 : 2 ≤ ht := h0
    have h1 : ht - 2 + 1 ≤ 32 := h1
    have hl : lv_has ls 4 [(0, .ref h), (1, .ref (g.2.2.2 8))] := hl
    have hW : gW g ((h, .inr (3, [.ref a0, .ref a1, .ref a2, .ref a3, .ref a4, .ref a5, .int f6, .int f7, .int f8, .int f9, .int f10, .int (nI ht), .int f12, .int f13, .int f14, .int f15, .int f16])) :: (a0, .inl (g.2.1 0, 32, .inl nu)) :: R) s.heap := hW
    refine lv_aload_n F.1 F.2.1 dX6_rearrange_0 rfl (lv_at hl 0 rfl) ?_
    refine gVi (n := 0) (q := (RX6, TX6, 17)) (q0 := 0) (As := []) F hG hS hW (c_X6_take g l  (by omega) (by omega)) rfl gX6_rearrange_X6_take rfl rfl rfl (by decide +kernel) ⟨rfl, rfl, Nat.le_of_ble_eq_true rfl, Nat.le_of_ble_eq_true rfl⟩ hl.1 (Nat.le_of_ble_eq_true rfl) ⟨Nat.le_of_ble_eq_true rfl, Nat.le_of_ble_eq_true rfl⟩ rfl rfl dX6_rearrange_1 (fun r u H locs hq hW hS => ?_)
    obtain ⟨rfl, rfl⟩ := hq
    have hW : gW g ((h, .inr (3, [.ref a0, .ref a1, .ref a2, .ref a3, .ref a4, .ref a5, .int f6, .int f7, .int f8, .int f9, .int f10, .int (nI (ht - 1)), .int f12, .int f13, .int f14, .int f15, .int f16])) :: (a0, .inl (g.2.1 0, 32, .inl nu)) :: R) _ := hW
    refine lv_istore_n (lv' := [(2, .int (nu (ht - 1))), (0, .ref h), (1, .ref (g.2.2.2 8))]) F.1 F.2.1 dX6_rearrange_4 rfl hl (by decide) rfl (fun ls hl => ?_)
    refine lv_aload_n F.1 F.2.1 dX6_rearrange_5 rfl (lv_at hl 2 rfl) ?_
    refine gKtakes F hG hS (by omega) mX6_rearrange_1 dX6_rearrange_6 ?_
    refine gTop (y := nI 2) rfl ?_
    refine lv_iconst (v := nI 1) F.1 F.2.1 dX6_rearrange_9 rfl ?_
    refine gLe (tgt := 20) F (by decide) (by decide) dX6_rearrange_10 (by decide) (fun c_10 => by exfalso; omega) (fun c_10 => ?_)
    refine lv_aload_n F.1 F.2.1 dX6_rearrange_13 rfl (lv_at hl 1 rfl) ?_
    refine gVi (n := 0) (q := (RX6, TX6, 17)) (q0 := 0) (As := []) F hG hS hW (c_X6_take g l  (by omega) (by omega)) rfl gX6_rearrange_X6_take rfl rfl rfl (by decide +kernel) ⟨rfl, rfl, Nat.le_of_ble_eq_true rfl, Nat.le_of_ble_eq_true rfl⟩ hl.1 (Nat.le_of_ble_eq_true rfl) ⟨Nat.le_of_ble_eq_true rfl, Nat.le_of_ble_eq_true rfl⟩ rfl rfl dX6_rearrange_14 (fun r u H locs hq hW hS => ?_)
    obtain ⟨rfl, rfl⟩ := hq
    have hW : gW g ((h, .inr (3, [.ref a0, .ref a1, .ref a2, .ref a3, .ref a4, .ref a5, .int f6, .int f7, .int f8, .int f9, .int f10, .int (nI ((ht - 1) - 1)), .int f12, .int f13, .int f14, .int f15, .int f16])) :: (a0, .inl (g.2.1 0, 32, .inl nu)) :: R) _ := hW
    refine lv_goto (tgt := 21) F.1 F.2.1 dX6_rearrange_17 (by decide) ?_
    refine lv_istore_n (lv' := [(3, .int (nu ((ht - 1) - 1))), (2, .int (nu (ht - 1))), (0, .ref h), (1, .ref (g.2.2.2 8))]) F.1 F.2.1 dX6_rearrange_21 rfl hl (by decide) rfl (fun ls hl => ?_)
    refine gsSwitch F hG hS mX6_rearrange_2 dX6_rearrange_22 ?_
    refine lv_aload_n F.1 F.2.1 dX6_rearrange_25 rfl (lv_at hl 3 rfl) ?_
    refine gEU_i (n := 0) (As := []) F hG hS hW (c_Jx29ce0_ordinal_8abf5 g l  (by omega)) rfl gX6_rearrange_Jx29ce0_ordinal_8abf5_u160X5 rfl (by omega) (by decide +kernel) (by decide +kernel) ⟨rfl, rfl, Nat.le_of_ble_eq_true rfl, Nat.le_of_ble_eq_true rfl⟩ hl.1 (Nat.le_of_ble_eq_true rfl) ⟨Nat.le_of_ble_eq_true rfl, Nat.le_of_ble_eq_true rfl⟩ rfl rfl dX6_rearrange_26 (fun r u H locs hq hW hS => ?_)
    obtain ⟨rfl, rfl⟩ := hq
    have hW : gW g ((h, .inr (3, [.ref a0, .ref a1, .ref a2, .ref a3, .ref a4, .ref a5, .int f6, .int f7, .int f8, .int f9, .int f10, .int (nI ((ht - 1) - 1)), .int f12, .int f13, .int f14, .int f15, .int f16])) :: (a0, .inl (g.2.1 0, 32, .inl nu)) :: R) _ := hW
    refine gLdSwitch F hG hS (by omega) dX6_rearrange_29 ?_
    refine gTop (y := nI 14) rfl ?_
    refine lv_tableIn (tgt := 146) F.1 F.2.1 dX6_rearrange_30 (by decide) (by decide) rfl (by decide) ?_
    refine lv_aload_n F.1 F.2.1 dX6_rearrange_146 rfl (lv_at hl 2 rfl) ?_
    refine lv_iload_n F.1 F.2.1 dX6_rearrange_147 rfl (lv_at hl 0 rfl) ?_
    refine lv_iload_n F.1 F.2.1 dX6_rearrange_148 rfl (lv_at hl 1 rfl) ?_
    refine lv_icmp_ge (tgt := 156) F.1 F.2.1 dX6_rearrange_149 (by decide) (fun c_149 => ?_) (fun c_149 => ?_)
    · refine lv_iconst (v := nI 0) F.1 F.2.1 dX6_rearrange_156 rfl ?_
      refine gVv (n := 1) (q := (RX6, TX6, 17)) (q0 := 0) (As := [.int (nI 0)]) F hG hS hW (c_X6_put g l  (by omega)) rfl gX6_rearrange_X6_put rfl rfl rfl (by decide +kernel) ⟨rfl, rfl, Nat.le_of_ble_eq_true rfl, Nat.le_of_ble_eq_true rfl⟩ hl.1 (Nat.le_of_ble_eq_true rfl) ⟨Nat.le_of_ble_eq_true rfl, Nat.le_of_ble_eq_true rfl⟩ rfl rfl dX6_rearrange_157 (fun u H locs hq hW hS => ?_)
      obtain rfl := hq
      have hW : gW g ((h, .inr (3, [.ref a0, .ref a1, .ref a2, .ref a3, .ref a4, .ref a5, .int f6, .int f7, .int f8, .int f9, .int f10, .int (nI (((ht - 1) - 1) + 1)), .int f12, .int f13, .int f14, .int f15, .int f16])) :: (a0, .inl (g.2.1 0, 32, .inl (upd nu ((ht - 1) - 1) (nI 0)))) :: R) _ := hW
      refine lv_goto (tgt := 163) F.1 F.2.1 dX6_rearrange_160 (by decide) ?_
      refine gRv F hW hS dX6_rearrange_163 ?_
      have e1 : htS 8 ht = ((ht - 1) - 1) + 1 := by show ht - 2 + 1 = _; omega
      have e2 : nuS 8 0 nu ht ce0 = upd nu ((ht - 1) - 1) (nI 0) := by show upd nu (ht - 2) (if nu (ht - 2) < nu (ht - 1) then 1 else 0) = _; rw [show ht - 1 - 1 = ht - 2 by omega] at c_149 ⊢; rw [if_neg (Int32.not_lt.mpr c_149)]; rfl
      show _ = _
      rw [e1, e2]
    · refine lv_iconst (v := nI 1) F.1 F.2.1 dX6_rearrange_152 rfl ?_
      refine lv_goto (tgt := 157) F.1 F.2.1 dX6_rearrange_153 (by decide) ?_
      refine gVv (n := 1) (q := (RX6, TX6, 17)) (q0 := 0) (As := [.int (nI 1)]) F hG hS hW (c_X6_put g l  (by omega)) rfl gX6_rearrange_X6_put rfl rfl rfl (by decide +kernel) ⟨rfl, rfl, Nat.le_of_ble_eq_true rfl, Nat.le_of_ble_eq_true rfl⟩ hl.1 (Nat.le_of_ble_eq_true rfl) ⟨Nat.le_of_ble_eq_true rfl, Nat.le_of_ble_eq_true rfl⟩ rfl rfl dX6_rearrange_157 (fun u H locs hq hW hS => ?_)
      obtain rfl := hq
      have hW : gW g ((h, .inr (3, [.ref a0, .ref a1, .ref a2, .ref a3, .ref a4, .ref a5, .int f6, .int f7, .int f8, .int f9, .int f10, .int (nI (((ht - 1) - 1) + 1)), .int f12, .int f13, .int f14, .int f15, .int f16])) :: (a0, .inl (g.2.1 0, 32, .inl (upd nu ((ht - 1) - 1) (nI 1)))) :: R) _ := hW
      refine lv_goto (tgt := 163) F.1 F.2.1 dX6_rearrange_160 (by decide) ?_
      refine gRv F hW hS dX6_rearrange_163 ?_
      have e1 : htS 8 ht = ((ht - 1) - 1) + 1 := by show ht - 2 + 1 = _; omega
      have e2 : nuS 8 0 nu ht ce0 = upd nu ((ht - 1) - 1) (nI 1) := by show upd nu (ht - 2) (if nu (ht - 2) < nu (ht - 1) then 1 else 0) = _; rw [show ht - 1 - 1 = ht - 2 by omega] at c_149 ⊢; rw [if_pos (Int32.not_le.mp c_149)]; rfl
      show _ = _
      rw [e1, e2]

abbrev rm_X6_perform : Room := ({ frames := 2, cells := 0, slots := 0, locals := 44 } : Room)
theorem mX6_perform_1 : Cond.fieldLink RX6 155 "StepperHearts$1" "$SwitchMap$StepperHearts$Kind" "[I" ∈ wsX6_perform := List.mem_of_getElem? (i := 1) rfl
set_option maxRecDepth 100000 in
set_option maxHeartbeats 4000000 in
theorem c_X6_perform (g : gC) (l : Launch) {h : Nat} {a0 : Nat} {a1 : Nat} {a2 : Nat} {a3 : Nat} {a4 : Nat} {a5 : Nat} {f6 : Int32} {f7 : Int32} {f8 : Int32} {f9 : Int32} {f10 : Int32} {f12 : Int32} {f14 : Int32} {f15 : Int32} {f16 : Int32} {ht : Nat} {oc : Nat} {k : Nat} {v : Nat} {nu : Nat → Int32} {ce : Nat → Int32} {ou : Nat → Int32} {R : va_W} (hk : k < 15) (hv : k = 9 ∨ k = 10 → v < 8) (h0 : kT k ≤ ht) (hh : ht ≤ 32) (h1 : ht - kT k + kP k ≤ 32) (ho : oc < 2 ^ 30) : cI g l yX6_perform wsX6_perform rm_X6_perform 0 0 [.ref h, .ref (g.2.2.2 k), .int (nI v)] ((h, .inr (3, [.ref a0, .ref a1, .ref a2, .ref a3, .ref a4, .ref a5, .int f6, .int f7, .int f8, .int f9, .int f10, .int (nI ht), .int f12, .int (nI oc), .int f14, .int f15, .int f16])) :: (a0, .inl (g.2.1 0, 32, .inl nu)) :: (a1, .inl (g.2.1 0, 8, .inl ce)) :: (a2, .inl (g.2.1 0, 60, .inl ou)) :: R) (fun r u => (oI (laS k v nu ht)) = r ∧ (h, .inr (3, [.ref a0, .ref a1, .ref a2, .ref a3, .ref a4, .ref a5, .int f6, .int f7, .int f8, .int f9, .int f10, .int (nI (htS k ht)), .int f12, .int (nI (ocS k oc)), .int f14, .int f15, .int f16])) :: (a0, .inl (g.2.1 0, 32, .inl (nuS k v nu ht ce))) :: (a1, .inl (g.2.1 0, 8, .inl (ceS k v nu ht ce))) :: (a2, .inl (g.2.1 0, 60, .inl (ouS k nu ht ou oc))) :: R = u) := by
  refine gEnterQ (cc := cX6_perform) (maxL := 3) (ret := (some (.int))) (by decide +kernel) rfl (Nat.le_of_ble_eq_true rfl) ?_
  intro p e s m below meth c F hG hW ls hl
  have hS : va_S (gA g) s.heap s.heap [] := va_S.rf
  have hl : lv_has ls 3 [(0, .ref h), (1, .ref (g.2.2.2 k)), (2, .int (nI v))] := hl
  have hW : gW g ((h, .inr (3, [.ref a0, .ref a1, .ref a2, .ref a3, .ref a4, .ref a5, .int f6, .int f7, .int f8, .int f9, .int f10, .int (nI ht), .int f12, .int (nI oc), .int f14, .int f15, .int f16])) :: (a0, .inl (g.2.1 0, 32, .inl nu)) :: (a1, .inl (g.2.1 0, 8, .inl ce)) :: (a2, .inl (g.2.1 0, 60, .inl ou)) :: R) s.heap := hW
  rcases (show k = 0 ∨ k = 1 ∨ k = 2 ∨ k = 3 ∨ k = 4 ∨ k = 5 ∨ k = 6 ∨ k = 7 ∨ k = 8 ∨ k = 9 ∨ k = 10 ∨ k = 11 ∨ k = 12 ∨ k = 13 ∨ k = 14 by omega) with rfl | rfl | rfl | rfl | rfl | rfl | rfl | rfl | rfl | rfl | rfl | rfl | rfl | rfl | rfl
  · have h0 : 0 ≤ ht := h0
    have h1 : ht - 0 + 1 ≤ 32 := h1
    have hl : lv_has ls 3 [(0, .ref h), (1, .ref (g.2.2.2 0)), (2, .int (nI v))] := hl
    have hW : gW g ((h, .inr (3, [.ref a0, .ref a1, .ref a2, .ref a3, .ref a4, .ref a5, .int f6, .int f7, .int f8, .int f9, .int f10, .int (nI ht), .int f12, .int (nI oc), .int f14, .int f15, .int f16])) :: (a0, .inl (g.2.1 0, 32, .inl nu)) :: (a1, .inl (g.2.1 0, 8, .inl ce)) :: (a2, .inl (g.2.1 0, 60, .inl ou)) :: R) s.heap := hW
    refine gsSwitch F hG hS mX6_perform_1 dX6_perform_0 ?_
    refine lv_aload_n F.1 F.2.1 dX6_perform_3 rfl (lv_at hl 1 rfl) ?_
    refine gEU_i (n := 0) (As := []) F hG hS hW (c_Jx29ce0_ordinal_8abf5 g l  (by omega)) rfl gX6_perform_Jx29ce0_ordinal_8abf5_u160X5 rfl (by omega) (by decide +kernel) (by decide +kernel) ⟨rfl, rfl, Nat.le_of_ble_eq_true rfl, Nat.le_of_ble_eq_true rfl⟩ hl.1 (Nat.le_of_ble_eq_true rfl) ⟨Nat.le_of_ble_eq_true rfl, Nat.le_of_ble_eq_true rfl⟩ rfl rfl dX6_perform_4 (fun r u H locs hq hW hS => ?_)
    obtain ⟨rfl, rfl⟩ := hq
    have hW : gW g ((h, .inr (3, [.ref a0, .ref a1, .ref a2, .ref a3, .ref a4, .ref a5, .int f6, .int f7, .int f8, .int f9, .int f10, .int (nI ht), .int f12, .int (nI oc), .int f14, .int f15, .int f16])) :: (a0, .inl (g.2.1 0, 32, .inl nu)) :: (a1, .inl (g.2.1 0, 8, .inl ce)) :: (a2, .inl (g.2.1 0, 60, .inl ou)) :: R) _ := hW
    refine gLdSwitch F hG hS (by omega) dX6_perform_7 ?_
    refine gTop (y := nI 1) rfl ?_
    refine lv_tableIn (tgt := 52) F.1 F.2.1 dX6_perform_8 (by decide) (by decide) rfl (by decide) ?_
    refine lv_aload_n F.1 F.2.1 dX6_perform_52 rfl (lv_at hl 0 rfl) ?_
    refine lv_iload_n F.1 F.2.1 dX6_perform_53 rfl (lv_at hl 2 rfl) ?_
    refine gVv (n := 1) (q := (RX6, TX6, 17)) (q0 := 0) (As := [.int (nI v)]) F hG hS hW (c_X6_put g l  (by omega)) rfl gX6_perform_X6_put rfl rfl rfl (by decide +kernel) ⟨rfl, rfl, Nat.le_of_ble_eq_true rfl, Nat.le_of_ble_eq_true rfl⟩ hl.1 (Nat.le_of_ble_eq_true rfl) ⟨Nat.le_of_ble_eq_true rfl, Nat.le_of_ble_eq_true rfl⟩ rfl rfl dX6_perform_54 (fun u H locs hq hW hS => ?_)
    obtain rfl := hq
    have hW : gW g ((h, .inr (3, [.ref a0, .ref a1, .ref a2, .ref a3, .ref a4, .ref a5, .int f6, .int f7, .int f8, .int f9, .int f10, .int (nI (ht + 1)), .int f12, .int (nI oc), .int f14, .int f15, .int f16])) :: (a0, .inl (g.2.1 0, 32, .inl (upd nu ht (nI v)))) :: (a1, .inl (g.2.1 0, 8, .inl ce)) :: (a2, .inl (g.2.1 0, 60, .inl ou)) :: R) _ := hW
    refine lv_iconst (v := -1) F.1 F.2.1 dX6_perform_57 rfl ?_
    refine gRi F hW hS dX6_perform_58 ?_
    have e1 : htS 0 ht = ht + 1 := by show ht - 0 + 1 = _; omega
    exact ⟨rfl, by rw [e1]; rfl⟩
  · have h0 : 1 ≤ ht := h0
    have h1 : ht - 1 + 0 ≤ 32 := h1
    have hl : lv_has ls 3 [(0, .ref h), (1, .ref (g.2.2.2 1)), (2, .int (nI v))] := hl
    have hW : gW g ((h, .inr (3, [.ref a0, .ref a1, .ref a2, .ref a3, .ref a4, .ref a5, .int f6, .int f7, .int f8, .int f9, .int f10, .int (nI ht), .int f12, .int (nI oc), .int f14, .int f15, .int f16])) :: (a0, .inl (g.2.1 0, 32, .inl nu)) :: (a1, .inl (g.2.1 0, 8, .inl ce)) :: (a2, .inl (g.2.1 0, 60, .inl ou)) :: R) s.heap := hW
    refine gsSwitch F hG hS mX6_perform_1 dX6_perform_0 ?_
    refine lv_aload_n F.1 F.2.1 dX6_perform_3 rfl (lv_at hl 1 rfl) ?_
    refine gEU_i (n := 0) (As := []) F hG hS hW (c_Jx29ce0_ordinal_8abf5 g l  (by omega)) rfl gX6_perform_Jx29ce0_ordinal_8abf5_u160X5 rfl (by omega) (by decide +kernel) (by decide +kernel) ⟨rfl, rfl, Nat.le_of_ble_eq_true rfl, Nat.le_of_ble_eq_true rfl⟩ hl.1 (Nat.le_of_ble_eq_true rfl) ⟨Nat.le_of_ble_eq_true rfl, Nat.le_of_ble_eq_true rfl⟩ rfl rfl dX6_perform_4 (fun r u H locs hq hW hS => ?_)
    obtain ⟨rfl, rfl⟩ := hq
    have hW : gW g ((h, .inr (3, [.ref a0, .ref a1, .ref a2, .ref a3, .ref a4, .ref a5, .int f6, .int f7, .int f8, .int f9, .int f10, .int (nI ht), .int f12, .int (nI oc), .int f14, .int f15, .int f16])) :: (a0, .inl (g.2.1 0, 32, .inl nu)) :: (a1, .inl (g.2.1 0, 8, .inl ce)) :: (a2, .inl (g.2.1 0, 60, .inl ou)) :: R) _ := hW
    refine gLdSwitch F hG hS (by omega) dX6_perform_7 ?_
    refine gTop (y := nI 0) rfl ?_
    refine lv_tableOut (tgt := 108) F.1 F.2.1 dX6_perform_8 (by decide) (by decide) ?_
    refine lv_aload_n F.1 F.2.1 dX6_perform_108 rfl (lv_at hl 0 rfl) ?_
    refine lv_aload_n F.1 F.2.1 dX6_perform_109 rfl (lv_at hl 1 rfl) ?_
    refine gVv (n := 1) (q := (RX6, TX6, 17)) (q0 := 0) (As := [.ref (g.2.2.2 1)]) F hG hS hW (c_X6_rearrange g l (k := 1) (ce0 := ce) (by omega) (by omega) h0 hh h1) rfl gX6_perform_X6_rearrange rfl rfl rfl (by decide +kernel) ⟨rfl, rfl, Nat.le_of_ble_eq_true rfl, Nat.le_of_ble_eq_true rfl⟩ hl.1 (Nat.le_of_ble_eq_true rfl) ⟨Nat.le_of_ble_eq_true rfl, Nat.le_of_ble_eq_true rfl⟩ rfl rfl dX6_perform_110 (fun u H locs hq hW hS => ?_)
    obtain rfl := hq
    have hW : gW g ((h, .inr (3, [.ref a0, .ref a1, .ref a2, .ref a3, .ref a4, .ref a5, .int f6, .int f7, .int f8, .int f9, .int f10, .int (nI (htS 1 ht)), .int f12, .int (nI oc), .int f14, .int f15, .int f16])) :: (a0, .inl (g.2.1 0, 32, .inl (nuS 1 0 nu ht ce))) :: (a1, .inl (g.2.1 0, 8, .inl ce)) :: (a2, .inl (g.2.1 0, 60, .inl ou)) :: R) _ := hW
    refine lv_iconst (v := -1) F.1 F.2.1 dX6_perform_113 rfl ?_
    refine gRi F hW hS dX6_perform_114 ?_
    exact ⟨rfl, rfl⟩
  · have h0 : 1 ≤ ht := h0
    have h1 : ht - 1 + 2 ≤ 32 := h1
    have hl : lv_has ls 3 [(0, .ref h), (1, .ref (g.2.2.2 2)), (2, .int (nI v))] := hl
    have hW : gW g ((h, .inr (3, [.ref a0, .ref a1, .ref a2, .ref a3, .ref a4, .ref a5, .int f6, .int f7, .int f8, .int f9, .int f10, .int (nI ht), .int f12, .int (nI oc), .int f14, .int f15, .int f16])) :: (a0, .inl (g.2.1 0, 32, .inl nu)) :: (a1, .inl (g.2.1 0, 8, .inl ce)) :: (a2, .inl (g.2.1 0, 60, .inl ou)) :: R) s.heap := hW
    refine gsSwitch F hG hS mX6_perform_1 dX6_perform_0 ?_
    refine lv_aload_n F.1 F.2.1 dX6_perform_3 rfl (lv_at hl 1 rfl) ?_
    refine gEU_i (n := 0) (As := []) F hG hS hW (c_Jx29ce0_ordinal_8abf5 g l  (by omega)) rfl gX6_perform_Jx29ce0_ordinal_8abf5_u160X5 rfl (by omega) (by decide +kernel) (by decide +kernel) ⟨rfl, rfl, Nat.le_of_ble_eq_true rfl, Nat.le_of_ble_eq_true rfl⟩ hl.1 (Nat.le_of_ble_eq_true rfl) ⟨Nat.le_of_ble_eq_true rfl, Nat.le_of_ble_eq_true rfl⟩ rfl rfl dX6_perform_4 (fun r u H locs hq hW hS => ?_)
    obtain ⟨rfl, rfl⟩ := hq
    have hW : gW g ((h, .inr (3, [.ref a0, .ref a1, .ref a2, .ref a3, .ref a4, .ref a5, .int f6, .int f7, .int f8, .int f9, .int f10, .int (nI ht), .int f12, .int (nI oc), .int f14, .int f15, .int f16])) :: (a0, .inl (g.2.1 0, 32, .inl nu)) :: (a1, .inl (g.2.1 0, 8, .inl ce)) :: (a2, .inl (g.2.1 0, 60, .inl ou)) :: R) _ := hW
    refine gLdSwitch F hG hS (by omega) dX6_perform_7 ?_
    refine gTop (y := nI 8) rfl ?_
    refine lv_tableOut (tgt := 108) F.1 F.2.1 dX6_perform_8 (by decide) (by decide) ?_
    refine lv_aload_n F.1 F.2.1 dX6_perform_108 rfl (lv_at hl 0 rfl) ?_
    refine lv_aload_n F.1 F.2.1 dX6_perform_109 rfl (lv_at hl 1 rfl) ?_
    refine gVv (n := 1) (q := (RX6, TX6, 17)) (q0 := 0) (As := [.ref (g.2.2.2 2)]) F hG hS hW (c_X6_rearrange g l (k := 2) (ce0 := ce) (by omega) (by omega) h0 hh h1) rfl gX6_perform_X6_rearrange rfl rfl rfl (by decide +kernel) ⟨rfl, rfl, Nat.le_of_ble_eq_true rfl, Nat.le_of_ble_eq_true rfl⟩ hl.1 (Nat.le_of_ble_eq_true rfl) ⟨Nat.le_of_ble_eq_true rfl, Nat.le_of_ble_eq_true rfl⟩ rfl rfl dX6_perform_110 (fun u H locs hq hW hS => ?_)
    obtain rfl := hq
    have hW : gW g ((h, .inr (3, [.ref a0, .ref a1, .ref a2, .ref a3, .ref a4, .ref a5, .int f6, .int f7, .int f8, .int f9, .int f10, .int (nI (htS 2 ht)), .int f12, .int (nI oc), .int f14, .int f15, .int f16])) :: (a0, .inl (g.2.1 0, 32, .inl (nuS 2 0 nu ht ce))) :: (a1, .inl (g.2.1 0, 8, .inl ce)) :: (a2, .inl (g.2.1 0, 60, .inl ou)) :: R) _ := hW
    refine lv_iconst (v := -1) F.1 F.2.1 dX6_perform_113 rfl ?_
    refine gRi F hW hS dX6_perform_114 ?_
    exact ⟨rfl, rfl⟩
  · have h0 : 2 ≤ ht := h0
    have h1 : ht - 2 + 2 ≤ 32 := h1
    have hl : lv_has ls 3 [(0, .ref h), (1, .ref (g.2.2.2 3)), (2, .int (nI v))] := hl
    have hW : gW g ((h, .inr (3, [.ref a0, .ref a1, .ref a2, .ref a3, .ref a4, .ref a5, .int f6, .int f7, .int f8, .int f9, .int f10, .int (nI ht), .int f12, .int (nI oc), .int f14, .int f15, .int f16])) :: (a0, .inl (g.2.1 0, 32, .inl nu)) :: (a1, .inl (g.2.1 0, 8, .inl ce)) :: (a2, .inl (g.2.1 0, 60, .inl ou)) :: R) s.heap := hW
    refine gsSwitch F hG hS mX6_perform_1 dX6_perform_0 ?_
    refine lv_aload_n F.1 F.2.1 dX6_perform_3 rfl (lv_at hl 1 rfl) ?_
    refine gEU_i (n := 0) (As := []) F hG hS hW (c_Jx29ce0_ordinal_8abf5 g l  (by omega)) rfl gX6_perform_Jx29ce0_ordinal_8abf5_u160X5 rfl (by omega) (by decide +kernel) (by decide +kernel) ⟨rfl, rfl, Nat.le_of_ble_eq_true rfl, Nat.le_of_ble_eq_true rfl⟩ hl.1 (Nat.le_of_ble_eq_true rfl) ⟨Nat.le_of_ble_eq_true rfl, Nat.le_of_ble_eq_true rfl⟩ rfl rfl dX6_perform_4 (fun r u H locs hq hW hS => ?_)
    obtain ⟨rfl, rfl⟩ := hq
    have hW : gW g ((h, .inr (3, [.ref a0, .ref a1, .ref a2, .ref a3, .ref a4, .ref a5, .int f6, .int f7, .int f8, .int f9, .int f10, .int (nI ht), .int f12, .int (nI oc), .int f14, .int f15, .int f16])) :: (a0, .inl (g.2.1 0, 32, .inl nu)) :: (a1, .inl (g.2.1 0, 8, .inl ce)) :: (a2, .inl (g.2.1 0, 60, .inl ou)) :: R) _ := hW
    refine gLdSwitch F hG hS (by omega) dX6_perform_7 ?_
    refine gTop (y := nI 9) rfl ?_
    refine lv_tableOut (tgt := 108) F.1 F.2.1 dX6_perform_8 (by decide) (by decide) ?_
    refine lv_aload_n F.1 F.2.1 dX6_perform_108 rfl (lv_at hl 0 rfl) ?_
    refine lv_aload_n F.1 F.2.1 dX6_perform_109 rfl (lv_at hl 1 rfl) ?_
    refine gVv (n := 1) (q := (RX6, TX6, 17)) (q0 := 0) (As := [.ref (g.2.2.2 3)]) F hG hS hW (c_X6_rearrange g l (k := 3) (ce0 := ce) (by omega) (by omega) h0 hh h1) rfl gX6_perform_X6_rearrange rfl rfl rfl (by decide +kernel) ⟨rfl, rfl, Nat.le_of_ble_eq_true rfl, Nat.le_of_ble_eq_true rfl⟩ hl.1 (Nat.le_of_ble_eq_true rfl) ⟨Nat.le_of_ble_eq_true rfl, Nat.le_of_ble_eq_true rfl⟩ rfl rfl dX6_perform_110 (fun u H locs hq hW hS => ?_)
    obtain rfl := hq
    have hW : gW g ((h, .inr (3, [.ref a0, .ref a1, .ref a2, .ref a3, .ref a4, .ref a5, .int f6, .int f7, .int f8, .int f9, .int f10, .int (nI (htS 3 ht)), .int f12, .int (nI oc), .int f14, .int f15, .int f16])) :: (a0, .inl (g.2.1 0, 32, .inl (nuS 3 0 nu ht ce))) :: (a1, .inl (g.2.1 0, 8, .inl ce)) :: (a2, .inl (g.2.1 0, 60, .inl ou)) :: R) _ := hW
    refine lv_iconst (v := -1) F.1 F.2.1 dX6_perform_113 rfl ?_
    refine gRi F hW hS dX6_perform_114 ?_
    exact ⟨rfl, rfl⟩
  · have h0 : 2 ≤ ht := h0
    have h1 : ht - 2 + 3 ≤ 32 := h1
    have hl : lv_has ls 3 [(0, .ref h), (1, .ref (g.2.2.2 4)), (2, .int (nI v))] := hl
    have hW : gW g ((h, .inr (3, [.ref a0, .ref a1, .ref a2, .ref a3, .ref a4, .ref a5, .int f6, .int f7, .int f8, .int f9, .int f10, .int (nI ht), .int f12, .int (nI oc), .int f14, .int f15, .int f16])) :: (a0, .inl (g.2.1 0, 32, .inl nu)) :: (a1, .inl (g.2.1 0, 8, .inl ce)) :: (a2, .inl (g.2.1 0, 60, .inl ou)) :: R) s.heap := hW
    refine gsSwitch F hG hS mX6_perform_1 dX6_perform_0 ?_
    refine lv_aload_n F.1 F.2.1 dX6_perform_3 rfl (lv_at hl 1 rfl) ?_
    refine gEU_i (n := 0) (As := []) F hG hS hW (c_Jx29ce0_ordinal_8abf5 g l  (by omega)) rfl gX6_perform_Jx29ce0_ordinal_8abf5_u160X5 rfl (by omega) (by decide +kernel) (by decide +kernel) ⟨rfl, rfl, Nat.le_of_ble_eq_true rfl, Nat.le_of_ble_eq_true rfl⟩ hl.1 (Nat.le_of_ble_eq_true rfl) ⟨Nat.le_of_ble_eq_true rfl, Nat.le_of_ble_eq_true rfl⟩ rfl rfl dX6_perform_4 (fun r u H locs hq hW hS => ?_)
    obtain ⟨rfl, rfl⟩ := hq
    have hW : gW g ((h, .inr (3, [.ref a0, .ref a1, .ref a2, .ref a3, .ref a4, .ref a5, .int f6, .int f7, .int f8, .int f9, .int f10, .int (nI ht), .int f12, .int (nI oc), .int f14, .int f15, .int f16])) :: (a0, .inl (g.2.1 0, 32, .inl nu)) :: (a1, .inl (g.2.1 0, 8, .inl ce)) :: (a2, .inl (g.2.1 0, 60, .inl ou)) :: R) _ := hW
    refine gLdSwitch F hG hS (by omega) dX6_perform_7 ?_
    refine gTop (y := nI 10) rfl ?_
    refine lv_tableOut (tgt := 108) F.1 F.2.1 dX6_perform_8 (by decide) (by decide) ?_
    refine lv_aload_n F.1 F.2.1 dX6_perform_108 rfl (lv_at hl 0 rfl) ?_
    refine lv_aload_n F.1 F.2.1 dX6_perform_109 rfl (lv_at hl 1 rfl) ?_
    refine gVv (n := 1) (q := (RX6, TX6, 17)) (q0 := 0) (As := [.ref (g.2.2.2 4)]) F hG hS hW (c_X6_rearrange g l (k := 4) (ce0 := ce) (by omega) (by omega) h0 hh h1) rfl gX6_perform_X6_rearrange rfl rfl rfl (by decide +kernel) ⟨rfl, rfl, Nat.le_of_ble_eq_true rfl, Nat.le_of_ble_eq_true rfl⟩ hl.1 (Nat.le_of_ble_eq_true rfl) ⟨Nat.le_of_ble_eq_true rfl, Nat.le_of_ble_eq_true rfl⟩ rfl rfl dX6_perform_110 (fun u H locs hq hW hS => ?_)
    obtain rfl := hq
    have hW : gW g ((h, .inr (3, [.ref a0, .ref a1, .ref a2, .ref a3, .ref a4, .ref a5, .int f6, .int f7, .int f8, .int f9, .int f10, .int (nI (htS 4 ht)), .int f12, .int (nI oc), .int f14, .int f15, .int f16])) :: (a0, .inl (g.2.1 0, 32, .inl (nuS 4 0 nu ht ce))) :: (a1, .inl (g.2.1 0, 8, .inl ce)) :: (a2, .inl (g.2.1 0, 60, .inl ou)) :: R) _ := hW
    refine lv_iconst (v := -1) F.1 F.2.1 dX6_perform_113 rfl ?_
    refine gRi F hW hS dX6_perform_114 ?_
    exact ⟨rfl, rfl⟩
  · have h0 : 2 ≤ ht := h0
    have h1 : ht - 2 + 1 ≤ 32 := h1
    have hl : lv_has ls 3 [(0, .ref h), (1, .ref (g.2.2.2 5)), (2, .int (nI v))] := hl
    have hW : gW g ((h, .inr (3, [.ref a0, .ref a1, .ref a2, .ref a3, .ref a4, .ref a5, .int f6, .int f7, .int f8, .int f9, .int f10, .int (nI ht), .int f12, .int (nI oc), .int f14, .int f15, .int f16])) :: (a0, .inl (g.2.1 0, 32, .inl nu)) :: (a1, .inl (g.2.1 0, 8, .inl ce)) :: (a2, .inl (g.2.1 0, 60, .inl ou)) :: R) s.heap := hW
    refine gsSwitch F hG hS mX6_perform_1 dX6_perform_0 ?_
    refine lv_aload_n F.1 F.2.1 dX6_perform_3 rfl (lv_at hl 1 rfl) ?_
    refine gEU_i (n := 0) (As := []) F hG hS hW (c_Jx29ce0_ordinal_8abf5 g l  (by omega)) rfl gX6_perform_Jx29ce0_ordinal_8abf5_u160X5 rfl (by omega) (by decide +kernel) (by decide +kernel) ⟨rfl, rfl, Nat.le_of_ble_eq_true rfl, Nat.le_of_ble_eq_true rfl⟩ hl.1 (Nat.le_of_ble_eq_true rfl) ⟨Nat.le_of_ble_eq_true rfl, Nat.le_of_ble_eq_true rfl⟩ rfl rfl dX6_perform_4 (fun r u H locs hq hW hS => ?_)
    obtain ⟨rfl, rfl⟩ := hq
    have hW : gW g ((h, .inr (3, [.ref a0, .ref a1, .ref a2, .ref a3, .ref a4, .ref a5, .int f6, .int f7, .int f8, .int f9, .int f10, .int (nI ht), .int f12, .int (nI oc), .int f14, .int f15, .int f16])) :: (a0, .inl (g.2.1 0, 32, .inl nu)) :: (a1, .inl (g.2.1 0, 8, .inl ce)) :: (a2, .inl (g.2.1 0, 60, .inl ou)) :: R) _ := hW
    refine gLdSwitch F hG hS (by omega) dX6_perform_7 ?_
    refine gTop (y := nI 11) rfl ?_
    refine lv_tableOut (tgt := 108) F.1 F.2.1 dX6_perform_8 (by decide) (by decide) ?_
    refine lv_aload_n F.1 F.2.1 dX6_perform_108 rfl (lv_at hl 0 rfl) ?_
    refine lv_aload_n F.1 F.2.1 dX6_perform_109 rfl (lv_at hl 1 rfl) ?_
    refine gVv (n := 1) (q := (RX6, TX6, 17)) (q0 := 0) (As := [.ref (g.2.2.2 5)]) F hG hS hW (c_X6_rearrange g l (k := 5) (ce0 := ce) (by omega) (by omega) h0 hh h1) rfl gX6_perform_X6_rearrange rfl rfl rfl (by decide +kernel) ⟨rfl, rfl, Nat.le_of_ble_eq_true rfl, Nat.le_of_ble_eq_true rfl⟩ hl.1 (Nat.le_of_ble_eq_true rfl) ⟨Nat.le_of_ble_eq_true rfl, Nat.le_of_ble_eq_true rfl⟩ rfl rfl dX6_perform_110 (fun u H locs hq hW hS => ?_)
    obtain rfl := hq
    have hW : gW g ((h, .inr (3, [.ref a0, .ref a1, .ref a2, .ref a3, .ref a4, .ref a5, .int f6, .int f7, .int f8, .int f9, .int f10, .int (nI (htS 5 ht)), .int f12, .int (nI oc), .int f14, .int f15, .int f16])) :: (a0, .inl (g.2.1 0, 32, .inl (nuS 5 0 nu ht ce))) :: (a1, .inl (g.2.1 0, 8, .inl ce)) :: (a2, .inl (g.2.1 0, 60, .inl ou)) :: R) _ := hW
    refine lv_iconst (v := -1) F.1 F.2.1 dX6_perform_113 rfl ?_
    refine gRi F hW hS dX6_perform_114 ?_
    exact ⟨rfl, rfl⟩
  · have h0 : 2 ≤ ht := h0
    have h1 : ht - 2 + 1 ≤ 32 := h1
    have hl : lv_has ls 3 [(0, .ref h), (1, .ref (g.2.2.2 6)), (2, .int (nI v))] := hl
    have hW : gW g ((h, .inr (3, [.ref a0, .ref a1, .ref a2, .ref a3, .ref a4, .ref a5, .int f6, .int f7, .int f8, .int f9, .int f10, .int (nI ht), .int f12, .int (nI oc), .int f14, .int f15, .int f16])) :: (a0, .inl (g.2.1 0, 32, .inl nu)) :: (a1, .inl (g.2.1 0, 8, .inl ce)) :: (a2, .inl (g.2.1 0, 60, .inl ou)) :: R) s.heap := hW
    refine gsSwitch F hG hS mX6_perform_1 dX6_perform_0 ?_
    refine lv_aload_n F.1 F.2.1 dX6_perform_3 rfl (lv_at hl 1 rfl) ?_
    refine gEU_i (n := 0) (As := []) F hG hS hW (c_Jx29ce0_ordinal_8abf5 g l  (by omega)) rfl gX6_perform_Jx29ce0_ordinal_8abf5_u160X5 rfl (by omega) (by decide +kernel) (by decide +kernel) ⟨rfl, rfl, Nat.le_of_ble_eq_true rfl, Nat.le_of_ble_eq_true rfl⟩ hl.1 (Nat.le_of_ble_eq_true rfl) ⟨Nat.le_of_ble_eq_true rfl, Nat.le_of_ble_eq_true rfl⟩ rfl rfl dX6_perform_4 (fun r u H locs hq hW hS => ?_)
    obtain ⟨rfl, rfl⟩ := hq
    have hW : gW g ((h, .inr (3, [.ref a0, .ref a1, .ref a2, .ref a3, .ref a4, .ref a5, .int f6, .int f7, .int f8, .int f9, .int f10, .int (nI ht), .int f12, .int (nI oc), .int f14, .int f15, .int f16])) :: (a0, .inl (g.2.1 0, 32, .inl nu)) :: (a1, .inl (g.2.1 0, 8, .inl ce)) :: (a2, .inl (g.2.1 0, 60, .inl ou)) :: R) _ := hW
    refine gLdSwitch F hG hS (by omega) dX6_perform_7 ?_
    refine gTop (y := nI 12) rfl ?_
    refine lv_tableOut (tgt := 108) F.1 F.2.1 dX6_perform_8 (by decide) (by decide) ?_
    refine lv_aload_n F.1 F.2.1 dX6_perform_108 rfl (lv_at hl 0 rfl) ?_
    refine lv_aload_n F.1 F.2.1 dX6_perform_109 rfl (lv_at hl 1 rfl) ?_
    refine gVv (n := 1) (q := (RX6, TX6, 17)) (q0 := 0) (As := [.ref (g.2.2.2 6)]) F hG hS hW (c_X6_rearrange g l (k := 6) (ce0 := ce) (by omega) (by omega) h0 hh h1) rfl gX6_perform_X6_rearrange rfl rfl rfl (by decide +kernel) ⟨rfl, rfl, Nat.le_of_ble_eq_true rfl, Nat.le_of_ble_eq_true rfl⟩ hl.1 (Nat.le_of_ble_eq_true rfl) ⟨Nat.le_of_ble_eq_true rfl, Nat.le_of_ble_eq_true rfl⟩ rfl rfl dX6_perform_110 (fun u H locs hq hW hS => ?_)
    obtain rfl := hq
    have hW : gW g ((h, .inr (3, [.ref a0, .ref a1, .ref a2, .ref a3, .ref a4, .ref a5, .int f6, .int f7, .int f8, .int f9, .int f10, .int (nI (htS 6 ht)), .int f12, .int (nI oc), .int f14, .int f15, .int f16])) :: (a0, .inl (g.2.1 0, 32, .inl (nuS 6 0 nu ht ce))) :: (a1, .inl (g.2.1 0, 8, .inl ce)) :: (a2, .inl (g.2.1 0, 60, .inl ou)) :: R) _ := hW
    refine lv_iconst (v := -1) F.1 F.2.1 dX6_perform_113 rfl ?_
    refine gRi F hW hS dX6_perform_114 ?_
    exact ⟨rfl, rfl⟩
  · have h0 : 2 ≤ ht := h0
    have h1 : ht - 2 + 1 ≤ 32 := h1
    have hl : lv_has ls 3 [(0, .ref h), (1, .ref (g.2.2.2 7)), (2, .int (nI v))] := hl
    have hW : gW g ((h, .inr (3, [.ref a0, .ref a1, .ref a2, .ref a3, .ref a4, .ref a5, .int f6, .int f7, .int f8, .int f9, .int f10, .int (nI ht), .int f12, .int (nI oc), .int f14, .int f15, .int f16])) :: (a0, .inl (g.2.1 0, 32, .inl nu)) :: (a1, .inl (g.2.1 0, 8, .inl ce)) :: (a2, .inl (g.2.1 0, 60, .inl ou)) :: R) s.heap := hW
    refine gsSwitch F hG hS mX6_perform_1 dX6_perform_0 ?_
    refine lv_aload_n F.1 F.2.1 dX6_perform_3 rfl (lv_at hl 1 rfl) ?_
    refine gEU_i (n := 0) (As := []) F hG hS hW (c_Jx29ce0_ordinal_8abf5 g l  (by omega)) rfl gX6_perform_Jx29ce0_ordinal_8abf5_u160X5 rfl (by omega) (by decide +kernel) (by decide +kernel) ⟨rfl, rfl, Nat.le_of_ble_eq_true rfl, Nat.le_of_ble_eq_true rfl⟩ hl.1 (Nat.le_of_ble_eq_true rfl) ⟨Nat.le_of_ble_eq_true rfl, Nat.le_of_ble_eq_true rfl⟩ rfl rfl dX6_perform_4 (fun r u H locs hq hW hS => ?_)
    obtain ⟨rfl, rfl⟩ := hq
    have hW : gW g ((h, .inr (3, [.ref a0, .ref a1, .ref a2, .ref a3, .ref a4, .ref a5, .int f6, .int f7, .int f8, .int f9, .int f10, .int (nI ht), .int f12, .int (nI oc), .int f14, .int f15, .int f16])) :: (a0, .inl (g.2.1 0, 32, .inl nu)) :: (a1, .inl (g.2.1 0, 8, .inl ce)) :: (a2, .inl (g.2.1 0, 60, .inl ou)) :: R) _ := hW
    refine gLdSwitch F hG hS (by omega) dX6_perform_7 ?_
    refine gTop (y := nI 13) rfl ?_
    refine lv_tableOut (tgt := 108) F.1 F.2.1 dX6_perform_8 (by decide) (by decide) ?_
    refine lv_aload_n F.1 F.2.1 dX6_perform_108 rfl (lv_at hl 0 rfl) ?_
    refine lv_aload_n F.1 F.2.1 dX6_perform_109 rfl (lv_at hl 1 rfl) ?_
    refine gVv (n := 1) (q := (RX6, TX6, 17)) (q0 := 0) (As := [.ref (g.2.2.2 7)]) F hG hS hW (c_X6_rearrange g l (k := 7) (ce0 := ce) (by omega) (by omega) h0 hh h1) rfl gX6_perform_X6_rearrange rfl rfl rfl (by decide +kernel) ⟨rfl, rfl, Nat.le_of_ble_eq_true rfl, Nat.le_of_ble_eq_true rfl⟩ hl.1 (Nat.le_of_ble_eq_true rfl) ⟨Nat.le_of_ble_eq_true rfl, Nat.le_of_ble_eq_true rfl⟩ rfl rfl dX6_perform_110 (fun u H locs hq hW hS => ?_)
    obtain rfl := hq
    have hW : gW g ((h, .inr (3, [.ref a0, .ref a1, .ref a2, .ref a3, .ref a4, .ref a5, .int f6, .int f7, .int f8, .int f9, .int f10, .int (nI (htS 7 ht)), .int f12, .int (nI oc), .int f14, .int f15, .int f16])) :: (a0, .inl (g.2.1 0, 32, .inl (nuS 7 0 nu ht ce))) :: (a1, .inl (g.2.1 0, 8, .inl ce)) :: (a2, .inl (g.2.1 0, 60, .inl ou)) :: R) _ := hW
    refine lv_iconst (v := -1) F.1 F.2.1 dX6_perform_113 rfl ?_
    refine gRi F hW hS dX6_perform_114 ?_
    exact ⟨rfl, rfl⟩
  · have h0 : 2 ≤ ht := h0
    have h1 : ht - 2 + 1 ≤ 32 := h1
    have hl : lv_has ls 3 [(0, .ref h), (1, .ref (g.2.2.2 8)), (2, .int (nI v))] := hl
    have hW : gW g ((h, .inr (3, [.ref a0, .ref a1, .ref a2, .ref a3, .ref a4, .ref a5, .int f6, .int f7, .int f8, .int f9, .int f10, .int (nI ht), .int f12, .int (nI oc), .int f14, .int f15, .int f16])) :: (a0, .inl (g.2.1 0, 32, .inl nu)) :: (a1, .inl (g.2.1 0, 8, .inl ce)) :: (a2, .inl (g.2.1 0, 60, .inl ou)) :: R) s.heap := hW
    refine gsSwitch F hG hS mX6_perform_1 dX6_perform_0 ?_
    refine lv_aload_n F.1 F.2.1 dX6_perform_3 rfl (lv_at hl 1 rfl) ?_
    refine gEU_i (n := 0) (As := []) F hG hS hW (c_Jx29ce0_ordinal_8abf5 g l  (by omega)) rfl gX6_perform_Jx29ce0_ordinal_8abf5_u160X5 rfl (by omega) (by decide +kernel) (by decide +kernel) ⟨rfl, rfl, Nat.le_of_ble_eq_true rfl, Nat.le_of_ble_eq_true rfl⟩ hl.1 (Nat.le_of_ble_eq_true rfl) ⟨Nat.le_of_ble_eq_true rfl, Nat.le_of_ble_eq_true rfl⟩ rfl rfl dX6_perform_4 (fun r u H locs hq hW hS => ?_)
    obtain ⟨rfl, rfl⟩ := hq
    have hW : gW g ((h, .inr (3, [.ref a0, .ref a1, .ref a2, .ref a3, .ref a4, .ref a5, .int f6, .int f7, .int f8, .int f9, .int f10, .int (nI ht), .int f12, .int (nI oc), .int f14, .int f15, .int f16])) :: (a0, .inl (g.2.1 0, 32, .inl nu)) :: (a1, .inl (g.2.1 0, 8, .inl ce)) :: (a2, .inl (g.2.1 0, 60, .inl ou)) :: R) _ := hW
    refine gLdSwitch F hG hS (by omega) dX6_perform_7 ?_
    refine gTop (y := nI 14) rfl ?_
    refine lv_tableOut (tgt := 108) F.1 F.2.1 dX6_perform_8 (by decide) (by decide) ?_
    refine lv_aload_n F.1 F.2.1 dX6_perform_108 rfl (lv_at hl 0 rfl) ?_
    refine lv_aload_n F.1 F.2.1 dX6_perform_109 rfl (lv_at hl 1 rfl) ?_
    refine gVv (n := 1) (q := (RX6, TX6, 17)) (q0 := 0) (As := [.ref (g.2.2.2 8)]) F hG hS hW (c_X6_rearrange g l (k := 8) (ce0 := ce) (by omega) (by omega) h0 hh h1) rfl gX6_perform_X6_rearrange rfl rfl rfl (by decide +kernel) ⟨rfl, rfl, Nat.le_of_ble_eq_true rfl, Nat.le_of_ble_eq_true rfl⟩ hl.1 (Nat.le_of_ble_eq_true rfl) ⟨Nat.le_of_ble_eq_true rfl, Nat.le_of_ble_eq_true rfl⟩ rfl rfl dX6_perform_110 (fun u H locs hq hW hS => ?_)
    obtain rfl := hq
    have hW : gW g ((h, .inr (3, [.ref a0, .ref a1, .ref a2, .ref a3, .ref a4, .ref a5, .int f6, .int f7, .int f8, .int f9, .int f10, .int (nI (htS 8 ht)), .int f12, .int (nI oc), .int f14, .int f15, .int f16])) :: (a0, .inl (g.2.1 0, 32, .inl (nuS 8 0 nu ht ce))) :: (a1, .inl (g.2.1 0, 8, .inl ce)) :: (a2, .inl (g.2.1 0, 60, .inl ou)) :: R) _ := hW
    refine lv_iconst (v := -1) F.1 F.2.1 dX6_perform_113 rfl ?_
    refine gRi F hW hS dX6_perform_114 ?_
    exact ⟨rfl, rfl⟩
  · have h0 : 0 ≤ ht := h0
    have h1 : ht - 0 + 1 ≤ 32 := h1
    have hv : v < 8 := hv (by decide)
    have hl : lv_has ls 3 [(0, .ref h), (1, .ref (g.2.2.2 9)), (2, .int (nI v))] := hl
    have hW : gW g ((h, .inr (3, [.ref a0, .ref a1, .ref a2, .ref a3, .ref a4, .ref a5, .int f6, .int f7, .int f8, .int f9, .int f10, .int (nI ht), .int f12, .int (nI oc), .int f14, .int f15, .int f16])) :: (a0, .inl (g.2.1 0, 32, .inl nu)) :: (a1, .inl (g.2.1 0, 8, .inl ce)) :: (a2, .inl (g.2.1 0, 60, .inl ou)) :: R) s.heap := hW
    refine gsSwitch F hG hS mX6_perform_1 dX6_perform_0 ?_
    refine lv_aload_n F.1 F.2.1 dX6_perform_3 rfl (lv_at hl 1 rfl) ?_
    refine gEU_i (n := 0) (As := []) F hG hS hW (c_Jx29ce0_ordinal_8abf5 g l  (by omega)) rfl gX6_perform_Jx29ce0_ordinal_8abf5_u160X5 rfl (by omega) (by decide +kernel) (by decide +kernel) ⟨rfl, rfl, Nat.le_of_ble_eq_true rfl, Nat.le_of_ble_eq_true rfl⟩ hl.1 (Nat.le_of_ble_eq_true rfl) ⟨Nat.le_of_ble_eq_true rfl, Nat.le_of_ble_eq_true rfl⟩ rfl rfl dX6_perform_4 (fun r u H locs hq hW hS => ?_)
    obtain ⟨rfl, rfl⟩ := hq
    have hW : gW g ((h, .inr (3, [.ref a0, .ref a1, .ref a2, .ref a3, .ref a4, .ref a5, .int f6, .int f7, .int f8, .int f9, .int f10, .int (nI ht), .int f12, .int (nI oc), .int f14, .int f15, .int f16])) :: (a0, .inl (g.2.1 0, 32, .inl nu)) :: (a1, .inl (g.2.1 0, 8, .inl ce)) :: (a2, .inl (g.2.1 0, 60, .inl ou)) :: R) _ := hW
    refine gLdSwitch F hG hS (by omega) dX6_perform_7 ?_
    refine gTop (y := nI 2) rfl ?_
    refine lv_tableIn (tgt := 59) F.1 F.2.1 dX6_perform_8 (by decide) (by decide) rfl (by decide) ?_
    refine lv_aload_n F.1 F.2.1 dX6_perform_59 rfl (lv_at hl 0 rfl) ?_
    refine lv_aload_n F.1 F.2.1 dX6_perform_60 rfl (lv_at hl 0 rfl) ?_
    refine lv_iload_n F.1 F.2.1 dX6_perform_61 rfl (lv_at hl 2 rfl) ?_
    have hW := gW.re (l := [(h, .inr (3, [.ref a0, .ref a1, .ref a2, .ref a3, .ref a4, .ref a5, .int f6, .int f7, .int f8, .int f9, .int f10, .int (nI ht), .int f12, .int (nI oc), .int f14, .int f15, .int f16])), (a0, .inl (g.2.1 0, 32, .inl nu)), (a1, .inl (g.2.1 0, 8, .inl ce))]) (l' := [(h, .inr (3, [.ref a0, .ref a1, .ref a2, .ref a3, .ref a4, .ref a5, .int f6, .int f7, .int f8, .int f9, .int f10, .int (nI ht), .int f12, .int (nI oc), .int f14, .int f15, .int f16])), (a1, .inl (g.2.1 0, 8, .inl ce)), (a0, .inl (g.2.1 0, 32, .inl nu))]) (R := (a2, .inl (g.2.1 0, 60, .inl ou)) :: R) hW [0, 2, 1] 3 rfl (by decide) rfl
    have hW : gW g ((h, .inr (3, [.ref a0, .ref a1, .ref a2, .ref a3, .ref a4, .ref a5, .int f6, .int f7, .int f8, .int f9, .int f10, .int (nI ht), .int f12, .int (nI oc), .int f14, .int f15, .int f16])) :: (a1, .inl (g.2.1 0, 8, .inl ce)) :: (a0, .inl (g.2.1 0, 32, .inl nu)) :: (a2, .inl (g.2.1 0, 60, .inl ou)) :: R) _ := hW
    refine gVi (n := 1) (q := (RX6, TX6, 17)) (q0 := 0) (As := [.int (nI v)]) F hG hS hW (c_X6_cellAt_n g l  (by omega)) rfl gX6_perform_X6_cellAt rfl rfl rfl (by decide +kernel) ⟨rfl, rfl, Nat.le_of_ble_eq_true rfl, Nat.le_of_ble_eq_true rfl⟩ hl.1 (Nat.le_of_ble_eq_true rfl) ⟨Nat.le_of_ble_eq_true rfl, Nat.le_of_ble_eq_true rfl⟩ rfl rfl dX6_perform_62 (fun r u H locs hq hW hS => ?_)
    obtain ⟨rfl, rfl⟩ := hq
    have hW : gW g ((h, .inr (3, [.ref a0, .ref a1, .ref a2, .ref a3, .ref a4, .ref a5, .int f6, .int f7, .int f8, .int f9, .int f10, .int (nI ht), .int f12, .int (nI oc), .int f14, .int f15, .int f16])) :: (a1, .inl (g.2.1 0, 8, .inl ce)) :: (a0, .inl (g.2.1 0, 32, .inl nu)) :: (a2, .inl (g.2.1 0, 60, .inl ou)) :: R) _ := hW
    have hW := gW.re (l := [(h, .inr (3, [.ref a0, .ref a1, .ref a2, .ref a3, .ref a4, .ref a5, .int f6, .int f7, .int f8, .int f9, .int f10, .int (nI ht), .int f12, .int (nI oc), .int f14, .int f15, .int f16])), (a1, .inl (g.2.1 0, 8, .inl ce)), (a0, .inl (g.2.1 0, 32, .inl nu))]) (l' := [(h, .inr (3, [.ref a0, .ref a1, .ref a2, .ref a3, .ref a4, .ref a5, .int f6, .int f7, .int f8, .int f9, .int f10, .int (nI ht), .int f12, .int (nI oc), .int f14, .int f15, .int f16])), (a0, .inl (g.2.1 0, 32, .inl nu)), (a1, .inl (g.2.1 0, 8, .inl ce))]) (R := (a2, .inl (g.2.1 0, 60, .inl ou)) :: R) hW [0, 2, 1] 3 rfl (by decide) rfl
    have hW : gW g ((h, .inr (3, [.ref a0, .ref a1, .ref a2, .ref a3, .ref a4, .ref a5, .int f6, .int f7, .int f8, .int f9, .int f10, .int (nI ht), .int f12, .int (nI oc), .int f14, .int f15, .int f16])) :: (a0, .inl (g.2.1 0, 32, .inl nu)) :: (a1, .inl (g.2.1 0, 8, .inl ce)) :: (a2, .inl (g.2.1 0, 60, .inl ou)) :: R) _ := hW
    refine gVv (n := 1) (q := (RX6, TX6, 17)) (q0 := 0) (As := [.int (ce v)]) F hG hS hW (c_X6_put g l  (by omega)) rfl gX6_perform_X6_put rfl rfl rfl (by decide +kernel) ⟨rfl, rfl, Nat.le_of_ble_eq_true rfl, Nat.le_of_ble_eq_true rfl⟩ hl.1 (Nat.le_of_ble_eq_true rfl) ⟨Nat.le_of_ble_eq_true rfl, Nat.le_of_ble_eq_true rfl⟩ rfl rfl dX6_perform_65 (fun u H locs hq hW hS => ?_)
    obtain rfl := hq
    have hW : gW g ((h, .inr (3, [.ref a0, .ref a1, .ref a2, .ref a3, .ref a4, .ref a5, .int f6, .int f7, .int f8, .int f9, .int f10, .int (nI (ht + 1)), .int f12, .int (nI oc), .int f14, .int f15, .int f16])) :: (a0, .inl (g.2.1 0, 32, .inl (upd nu ht (ce v)))) :: (a1, .inl (g.2.1 0, 8, .inl ce)) :: (a2, .inl (g.2.1 0, 60, .inl ou)) :: R) _ := hW
    refine lv_iconst (v := -1) F.1 F.2.1 dX6_perform_68 rfl ?_
    refine gRi F hW hS dX6_perform_69 ?_
    have e1 : htS 9 ht = ht + 1 := by show ht - 0 + 1 = _; omega
    exact ⟨rfl, by rw [e1]; rfl⟩
  · have h0 : 1 ≤ ht := h0
    have h1 : ht - 1 + 0 ≤ 32 := h1
    have hv : v < 8 := hv (by decide)
    have hl : lv_has ls 3 [(0, .ref h), (1, .ref (g.2.2.2 10)), (2, .int (nI v))] := hl
    have hW : gW g ((h, .inr (3, [.ref a0, .ref a1, .ref a2, .ref a3, .ref a4, .ref a5, .int f6, .int f7, .int f8, .int f9, .int f10, .int (nI ht), .int f12, .int (nI oc), .int f14, .int f15, .int f16])) :: (a0, .inl (g.2.1 0, 32, .inl nu)) :: (a1, .inl (g.2.1 0, 8, .inl ce)) :: (a2, .inl (g.2.1 0, 60, .inl ou)) :: R) s.heap := hW
    refine gsSwitch F hG hS mX6_perform_1 dX6_perform_0 ?_
    refine lv_aload_n F.1 F.2.1 dX6_perform_3 rfl (lv_at hl 1 rfl) ?_
    refine gEU_i (n := 0) (As := []) F hG hS hW (c_Jx29ce0_ordinal_8abf5 g l  (by omega)) rfl gX6_perform_Jx29ce0_ordinal_8abf5_u160X5 rfl (by omega) (by decide +kernel) (by decide +kernel) ⟨rfl, rfl, Nat.le_of_ble_eq_true rfl, Nat.le_of_ble_eq_true rfl⟩ hl.1 (Nat.le_of_ble_eq_true rfl) ⟨Nat.le_of_ble_eq_true rfl, Nat.le_of_ble_eq_true rfl⟩ rfl rfl dX6_perform_4 (fun r u H locs hq hW hS => ?_)
    obtain ⟨rfl, rfl⟩ := hq
    have hW : gW g ((h, .inr (3, [.ref a0, .ref a1, .ref a2, .ref a3, .ref a4, .ref a5, .int f6, .int f7, .int f8, .int f9, .int f10, .int (nI ht), .int f12, .int (nI oc), .int f14, .int f15, .int f16])) :: (a0, .inl (g.2.1 0, 32, .inl nu)) :: (a1, .inl (g.2.1 0, 8, .inl ce)) :: (a2, .inl (g.2.1 0, 60, .inl ou)) :: R) _ := hW
    refine gLdSwitch F hG hS (by omega) dX6_perform_7 ?_
    refine gTop (y := nI 3) rfl ?_
    refine lv_tableIn (tgt := 70) F.1 F.2.1 dX6_perform_8 (by decide) (by decide) rfl (by decide) ?_
    refine lv_aload_n F.1 F.2.1 dX6_perform_70 rfl (lv_at hl 0 rfl) ?_
    refine lv_iload_n F.1 F.2.1 dX6_perform_71 rfl (lv_at hl 2 rfl) ?_
    refine lv_aload_n F.1 F.2.1 dX6_perform_72 rfl (lv_at hl 0 rfl) ?_
    refine gVi (n := 0) (q := (RX6, TX6, 17)) (q0 := 0) (As := []) F hG hS hW (c_X6_take g l  (by omega) (by omega)) rfl gX6_perform_X6_take rfl rfl rfl (by decide +kernel) ⟨rfl, rfl, Nat.le_of_ble_eq_true rfl, Nat.le_of_ble_eq_true rfl⟩ hl.1 (Nat.le_of_ble_eq_true rfl) ⟨Nat.le_of_ble_eq_true rfl, Nat.le_of_ble_eq_true rfl⟩ rfl rfl dX6_perform_73 (fun r u H locs hq hW hS => ?_)
    obtain ⟨rfl, rfl⟩ := hq
    have hW : gW g ((h, .inr (3, [.ref a0, .ref a1, .ref a2, .ref a3, .ref a4, .ref a5, .int f6, .int f7, .int f8, .int f9, .int f10, .int (nI (ht - 1)), .int f12, .int (nI oc), .int f14, .int f15, .int f16])) :: (a0, .inl (g.2.1 0, 32, .inl nu)) :: (a1, .inl (g.2.1 0, 8, .inl ce)) :: (a2, .inl (g.2.1 0, 60, .inl ou)) :: R) _ := hW
    have hW := gW.re (l := [(h, .inr (3, [.ref a0, .ref a1, .ref a2, .ref a3, .ref a4, .ref a5, .int f6, .int f7, .int f8, .int f9, .int f10, .int (nI (ht - 1)), .int f12, .int (nI oc), .int f14, .int f15, .int f16])), (a0, .inl (g.2.1 0, 32, .inl nu)), (a1, .inl (g.2.1 0, 8, .inl ce))]) (l' := [(h, .inr (3, [.ref a0, .ref a1, .ref a2, .ref a3, .ref a4, .ref a5, .int f6, .int f7, .int f8, .int f9, .int f10, .int (nI (ht - 1)), .int f12, .int (nI oc), .int f14, .int f15, .int f16])), (a1, .inl (g.2.1 0, 8, .inl ce)), (a0, .inl (g.2.1 0, 32, .inl nu))]) (R := (a2, .inl (g.2.1 0, 60, .inl ou)) :: R) hW [0, 2, 1] 3 rfl (by decide) rfl
    have hW : gW g ((h, .inr (3, [.ref a0, .ref a1, .ref a2, .ref a3, .ref a4, .ref a5, .int f6, .int f7, .int f8, .int f9, .int f10, .int (nI (ht - 1)), .int f12, .int (nI oc), .int f14, .int f15, .int f16])) :: (a1, .inl (g.2.1 0, 8, .inl ce)) :: (a0, .inl (g.2.1 0, 32, .inl nu)) :: (a2, .inl (g.2.1 0, 60, .inl ou)) :: R) _ := hW
    refine gVv (n := 2) (q := (RX6, TX6, 17)) (q0 := 0) (As := [.int (nI v), .int (nu (ht - 1))]) F hG hS hW (c_X6_setCell g l  (by omega)) rfl gX6_perform_X6_setCell rfl rfl rfl (by decide +kernel) ⟨rfl, rfl, Nat.le_of_ble_eq_true rfl, Nat.le_of_ble_eq_true rfl⟩ hl.1 (Nat.le_of_ble_eq_true rfl) ⟨Nat.le_of_ble_eq_true rfl, Nat.le_of_ble_eq_true rfl⟩ rfl rfl dX6_perform_76 (fun u H locs hq hW hS => ?_)
    obtain rfl := hq
    have hW : gW g ((h, .inr (3, [.ref a0, .ref a1, .ref a2, .ref a3, .ref a4, .ref a5, .int f6, .int f7, .int f8, .int f9, .int f10, .int (nI (ht - 1)), .int f12, .int (nI oc), .int f14, .int f15, .int f16])) :: (a1, .inl (g.2.1 0, 8, .inl (upd ce v (nu (ht - 1))))) :: (a0, .inl (g.2.1 0, 32, .inl nu)) :: (a2, .inl (g.2.1 0, 60, .inl ou)) :: R) _ := hW
    refine lv_iconst (v := -1) F.1 F.2.1 dX6_perform_79 rfl ?_
    have hW := gW.re (l := [(h, .inr (3, [.ref a0, .ref a1, .ref a2, .ref a3, .ref a4, .ref a5, .int f6, .int f7, .int f8, .int f9, .int f10, .int (nI (ht - 1)), .int f12, .int (nI oc), .int f14, .int f15, .int f16])), (a1, .inl (g.2.1 0, 8, .inl (upd ce v (nu (ht - 1))))), (a0, .inl (g.2.1 0, 32, .inl nu))]) (l' := [(h, .inr (3, [.ref a0, .ref a1, .ref a2, .ref a3, .ref a4, .ref a5, .int f6, .int f7, .int f8, .int f9, .int f10, .int (nI (ht - 1)), .int f12, .int (nI oc), .int f14, .int f15, .int f16])), (a0, .inl (g.2.1 0, 32, .inl nu)), (a1, .inl (g.2.1 0, 8, .inl (upd ce v (nu (ht - 1)))))]) (R := (a2, .inl (g.2.1 0, 60, .inl ou)) :: R) hW [0, 2, 1] 3 rfl (by decide) rfl
    have hW : gW g ((h, .inr (3, [.ref a0, .ref a1, .ref a2, .ref a3, .ref a4, .ref a5, .int f6, .int f7, .int f8, .int f9, .int f10, .int (nI (ht - 1)), .int f12, .int (nI oc), .int f14, .int f15, .int f16])) :: (a0, .inl (g.2.1 0, 32, .inl nu)) :: (a1, .inl (g.2.1 0, 8, .inl (upd ce v (nu (ht - 1))))) :: (a2, .inl (g.2.1 0, 60, .inl ou)) :: R) _ := hW
    refine gRi F hW hS dX6_perform_80 ?_
    have e1 : htS 10 ht = ht - 1 := by show ht - 1 + 0 = _; omega
    exact ⟨rfl, by rw [e1]; rfl⟩
  · have h0 : 0 ≤ ht := h0
    have h1 : ht - 0 + 0 ≤ 32 := h1
    have hl : lv_has ls 3 [(0, .ref h), (1, .ref (g.2.2.2 11)), (2, .int (nI v))] := hl
    have hW : gW g ((h, .inr (3, [.ref a0, .ref a1, .ref a2, .ref a3, .ref a4, .ref a5, .int f6, .int f7, .int f8, .int f9, .int f10, .int (nI ht), .int f12, .int (nI oc), .int f14, .int f15, .int f16])) :: (a0, .inl (g.2.1 0, 32, .inl nu)) :: (a1, .inl (g.2.1 0, 8, .inl ce)) :: (a2, .inl (g.2.1 0, 60, .inl ou)) :: R) s.heap := hW
    refine gsSwitch F hG hS mX6_perform_1 dX6_perform_0 ?_
    refine lv_aload_n F.1 F.2.1 dX6_perform_3 rfl (lv_at hl 1 rfl) ?_
    refine gEU_i (n := 0) (As := []) F hG hS hW (c_Jx29ce0_ordinal_8abf5 g l  (by omega)) rfl gX6_perform_Jx29ce0_ordinal_8abf5_u160X5 rfl (by omega) (by decide +kernel) (by decide +kernel) ⟨rfl, rfl, Nat.le_of_ble_eq_true rfl, Nat.le_of_ble_eq_true rfl⟩ hl.1 (Nat.le_of_ble_eq_true rfl) ⟨Nat.le_of_ble_eq_true rfl, Nat.le_of_ble_eq_true rfl⟩ rfl rfl dX6_perform_4 (fun r u H locs hq hW hS => ?_)
    obtain ⟨rfl, rfl⟩ := hq
    have hW : gW g ((h, .inr (3, [.ref a0, .ref a1, .ref a2, .ref a3, .ref a4, .ref a5, .int f6, .int f7, .int f8, .int f9, .int f10, .int (nI ht), .int f12, .int (nI oc), .int f14, .int f15, .int f16])) :: (a0, .inl (g.2.1 0, 32, .inl nu)) :: (a1, .inl (g.2.1 0, 8, .inl ce)) :: (a2, .inl (g.2.1 0, 60, .inl ou)) :: R) _ := hW
    refine gLdSwitch F hG hS (by omega) dX6_perform_7 ?_
    refine gTop (y := nI 5) rfl ?_
    refine lv_tableIn (tgt := 91) F.1 F.2.1 dX6_perform_8 (by decide) (by decide) rfl (by decide) ?_
    refine lv_iload_n F.1 F.2.1 dX6_perform_91 rfl (lv_at hl 2 rfl) ?_
    refine gRi F hW hS dX6_perform_92 ?_
    have e1 : htS 11 ht = ht := by show ht - 0 + 0 = _; omega
    exact ⟨rfl, by rw [e1]; rfl⟩
  · have h0 : 1 ≤ ht := h0
    have h1 : ht - 1 + 0 ≤ 32 := h1
    have hl : lv_has ls 3 [(0, .ref h), (1, .ref (g.2.2.2 12)), (2, .int (nI v))] := hl
    have hW : gW g ((h, .inr (3, [.ref a0, .ref a1, .ref a2, .ref a3, .ref a4, .ref a5, .int f6, .int f7, .int f8, .int f9, .int f10, .int (nI ht), .int f12, .int (nI oc), .int f14, .int f15, .int f16])) :: (a0, .inl (g.2.1 0, 32, .inl nu)) :: (a1, .inl (g.2.1 0, 8, .inl ce)) :: (a2, .inl (g.2.1 0, 60, .inl ou)) :: R) s.heap := hW
    refine gsSwitch F hG hS mX6_perform_1 dX6_perform_0 ?_
    refine lv_aload_n F.1 F.2.1 dX6_perform_3 rfl (lv_at hl 1 rfl) ?_
    refine gEU_i (n := 0) (As := []) F hG hS hW (c_Jx29ce0_ordinal_8abf5 g l  (by omega)) rfl gX6_perform_Jx29ce0_ordinal_8abf5_u160X5 rfl (by omega) (by decide +kernel) (by decide +kernel) ⟨rfl, rfl, Nat.le_of_ble_eq_true rfl, Nat.le_of_ble_eq_true rfl⟩ hl.1 (Nat.le_of_ble_eq_true rfl) ⟨Nat.le_of_ble_eq_true rfl, Nat.le_of_ble_eq_true rfl⟩ rfl rfl dX6_perform_4 (fun r u H locs hq hW hS => ?_)
    obtain ⟨rfl, rfl⟩ := hq
    have hW : gW g ((h, .inr (3, [.ref a0, .ref a1, .ref a2, .ref a3, .ref a4, .ref a5, .int f6, .int f7, .int f8, .int f9, .int f10, .int (nI ht), .int f12, .int (nI oc), .int f14, .int f15, .int f16])) :: (a0, .inl (g.2.1 0, 32, .inl nu)) :: (a1, .inl (g.2.1 0, 8, .inl ce)) :: (a2, .inl (g.2.1 0, 60, .inl ou)) :: R) _ := hW
    refine gLdSwitch F hG hS (by omega) dX6_perform_7 ?_
    refine gTop (y := nI 6) rfl ?_
    refine lv_tableIn (tgt := 93) F.1 F.2.1 dX6_perform_8 (by decide) (by decide) rfl (by decide) ?_
    refine lv_aload_n F.1 F.2.1 dX6_perform_93 rfl (lv_at hl 0 rfl) ?_
    refine gVi (n := 0) (q := (RX6, TX6, 17)) (q0 := 0) (As := []) F hG hS hW (c_X6_take g l  (by omega) (by omega)) rfl gX6_perform_X6_take rfl rfl rfl (by decide +kernel) ⟨rfl, rfl, Nat.le_of_ble_eq_true rfl, Nat.le_of_ble_eq_true rfl⟩ hl.1 (Nat.le_of_ble_eq_true rfl) ⟨Nat.le_of_ble_eq_true rfl, Nat.le_of_ble_eq_true rfl⟩ rfl rfl dX6_perform_94 (fun r u H locs hq hW hS => ?_)
    obtain ⟨rfl, rfl⟩ := hq
    have hW : gW g ((h, .inr (3, [.ref a0, .ref a1, .ref a2, .ref a3, .ref a4, .ref a5, .int f6, .int f7, .int f8, .int f9, .int f10, .int (nI (ht - 1)), .int f12, .int (nI oc), .int f14, .int f15, .int f16])) :: (a0, .inl (g.2.1 0, 32, .inl nu)) :: (a1, .inl (g.2.1 0, 8, .inl ce)) :: (a2, .inl (g.2.1 0, 60, .inl ou)) :: R) _ := hW
    refine lv_if_ne (tgt := 104) F.1 F.2.1 dX6_perform_97 (by decide) (fun c_97 => ?_) (fun c_97 => ?_)
    · refine lv_iconst (v := -1) F.1 F.2.1 dX6_perform_104 rfl ?_
      refine gRi F hW hS dX6_perform_105 ?_
      have e1 : htS 12 ht = ht - 1 := by show ht - 1 + 0 = _; omega
      exact ⟨(by show oI (if nu (ht - 1) = 0 then some v else none) = -1; rw [if_neg c_97]; rfl), by rw [e1]; rfl⟩
    · refine lv_iload_n F.1 F.2.1 dX6_perform_100 rfl (lv_at hl 2 rfl) ?_
      refine lv_goto (tgt := 105) F.1 F.2.1 dX6_perform_101 (by decide) ?_
      refine gRi F hW hS dX6_perform_105 ?_
      have e1 : htS 12 ht = ht - 1 := by show ht - 1 + 0 = _; omega
      exact ⟨(by show oI (if nu (ht - 1) = 0 then some v else none) = nI v; rw [if_pos c_97]; rfl), by rw [e1]; rfl⟩
  · have h0 : 1 ≤ ht := h0
    have h1 : ht - 1 + 0 ≤ 32 := h1
    have hl : lv_has ls 3 [(0, .ref h), (1, .ref (g.2.2.2 13)), (2, .int (nI v))] := hl
    have hW : gW g ((h, .inr (3, [.ref a0, .ref a1, .ref a2, .ref a3, .ref a4, .ref a5, .int f6, .int f7, .int f8, .int f9, .int f10, .int (nI ht), .int f12, .int (nI oc), .int f14, .int f15, .int f16])) :: (a0, .inl (g.2.1 0, 32, .inl nu)) :: (a1, .inl (g.2.1 0, 8, .inl ce)) :: (a2, .inl (g.2.1 0, 60, .inl ou)) :: R) s.heap := hW
    refine gsSwitch F hG hS mX6_perform_1 dX6_perform_0 ?_
    refine lv_aload_n F.1 F.2.1 dX6_perform_3 rfl (lv_at hl 1 rfl) ?_
    refine gEU_i (n := 0) (As := []) F hG hS hW (c_Jx29ce0_ordinal_8abf5 g l  (by omega)) rfl gX6_perform_Jx29ce0_ordinal_8abf5_u160X5 rfl (by omega) (by decide +kernel) (by decide +kernel) ⟨rfl, rfl, Nat.le_of_ble_eq_true rfl, Nat.le_of_ble_eq_true rfl⟩ hl.1 (Nat.le_of_ble_eq_true rfl) ⟨Nat.le_of_ble_eq_true rfl, Nat.le_of_ble_eq_true rfl⟩ rfl rfl dX6_perform_4 (fun r u H locs hq hW hS => ?_)
    obtain ⟨rfl, rfl⟩ := hq
    have hW : gW g ((h, .inr (3, [.ref a0, .ref a1, .ref a2, .ref a3, .ref a4, .ref a5, .int f6, .int f7, .int f8, .int f9, .int f10, .int (nI ht), .int f12, .int (nI oc), .int f14, .int f15, .int f16])) :: (a0, .inl (g.2.1 0, 32, .inl nu)) :: (a1, .inl (g.2.1 0, 8, .inl ce)) :: (a2, .inl (g.2.1 0, 60, .inl ou)) :: R) _ := hW
    refine gLdSwitch F hG hS (by omega) dX6_perform_7 ?_
    refine gTop (y := nI 4) rfl ?_
    refine lv_tableIn (tgt := 81) F.1 F.2.1 dX6_perform_8 (by decide) (by decide) rfl (by decide) ?_
    refine lv_aload_n F.1 F.2.1 dX6_perform_81 rfl (lv_at hl 0 rfl) ?_
    refine lv_aload_n F.1 F.2.1 dX6_perform_82 rfl (lv_at hl 0 rfl) ?_
    refine gVi (n := 0) (q := (RX6, TX6, 17)) (q0 := 0) (As := []) F hG hS hW (c_X6_take g l  (by omega) (by omega)) rfl gX6_perform_X6_take rfl rfl rfl (by decide +kernel) ⟨rfl, rfl, Nat.le_of_ble_eq_true rfl, Nat.le_of_ble_eq_true rfl⟩ hl.1 (Nat.le_of_ble_eq_true rfl) ⟨Nat.le_of_ble_eq_true rfl, Nat.le_of_ble_eq_true rfl⟩ rfl rfl dX6_perform_83 (fun r u H locs hq hW hS => ?_)
    obtain ⟨rfl, rfl⟩ := hq
    have hW : gW g ((h, .inr (3, [.ref a0, .ref a1, .ref a2, .ref a3, .ref a4, .ref a5, .int f6, .int f7, .int f8, .int f9, .int f10, .int (nI (ht - 1)), .int f12, .int (nI oc), .int f14, .int f15, .int f16])) :: (a0, .inl (g.2.1 0, 32, .inl nu)) :: (a1, .inl (g.2.1 0, 8, .inl ce)) :: (a2, .inl (g.2.1 0, 60, .inl ou)) :: R) _ := hW
    have hW := gW.re (l := [(h, .inr (3, [.ref a0, .ref a1, .ref a2, .ref a3, .ref a4, .ref a5, .int f6, .int f7, .int f8, .int f9, .int f10, .int (nI (ht - 1)), .int f12, .int (nI oc), .int f14, .int f15, .int f16])), (a0, .inl (g.2.1 0, 32, .inl nu)), (a1, .inl (g.2.1 0, 8, .inl ce)), (a2, .inl (g.2.1 0, 60, .inl ou))]) (l' := [(h, .inr (3, [.ref a0, .ref a1, .ref a2, .ref a3, .ref a4, .ref a5, .int f6, .int f7, .int f8, .int f9, .int f10, .int (nI (ht - 1)), .int f12, .int (nI oc), .int f14, .int f15, .int f16])), (a2, .inl (g.2.1 0, 60, .inl ou)), (a0, .inl (g.2.1 0, 32, .inl nu)), (a1, .inl (g.2.1 0, 8, .inl ce))]) (R := R) hW [0, 3, 1, 2] 4 rfl (by decide) rfl
    have hW : gW g ((h, .inr (3, [.ref a0, .ref a1, .ref a2, .ref a3, .ref a4, .ref a5, .int f6, .int f7, .int f8, .int f9, .int f10, .int (nI (ht - 1)), .int f12, .int (nI oc), .int f14, .int f15, .int f16])) :: (a2, .inl (g.2.1 0, 60, .inl ou)) :: (a0, .inl (g.2.1 0, 32, .inl nu)) :: (a1, .inl (g.2.1 0, 8, .inl ce)) :: R) _ := hW
    refine gVv (n := 1) (q := (RX6, TX6, 17)) (q0 := 0) (As := [.int (nu (ht - 1))]) F hG hS hW (c_X6_tellOut g l  (by omega)) rfl gX6_perform_X6_tellOut rfl rfl rfl (by decide +kernel) ⟨rfl, rfl, Nat.le_of_ble_eq_true rfl, Nat.le_of_ble_eq_true rfl⟩ hl.1 (Nat.le_of_ble_eq_true rfl) ⟨Nat.le_of_ble_eq_true rfl, Nat.le_of_ble_eq_true rfl⟩ rfl rfl dX6_perform_86 (fun u H locs hq hW hS => ?_)
    obtain rfl := hq
    have hW : gW g ((h, .inr (3, [.ref a0, .ref a1, .ref a2, .ref a3, .ref a4, .ref a5, .int f6, .int f7, .int f8, .int f9, .int f10, .int (nI (ht - 1)), .int f12, .int (nI (oc + 1)), .int f14, .int f15, .int f16])) :: (a2, .inl (g.2.1 0, 60, .inl (outUp ou oc (nu (ht - 1))))) :: (a0, .inl (g.2.1 0, 32, .inl nu)) :: (a1, .inl (g.2.1 0, 8, .inl ce)) :: R) _ := hW
    refine lv_iconst (v := -1) F.1 F.2.1 dX6_perform_89 rfl ?_
    have hW := gW.re (l := [(h, .inr (3, [.ref a0, .ref a1, .ref a2, .ref a3, .ref a4, .ref a5, .int f6, .int f7, .int f8, .int f9, .int f10, .int (nI (ht - 1)), .int f12, .int (nI (oc + 1)), .int f14, .int f15, .int f16])), (a2, .inl (g.2.1 0, 60, .inl (outUp ou oc (nu (ht - 1))))), (a0, .inl (g.2.1 0, 32, .inl nu)), (a1, .inl (g.2.1 0, 8, .inl ce))]) (l' := [(h, .inr (3, [.ref a0, .ref a1, .ref a2, .ref a3, .ref a4, .ref a5, .int f6, .int f7, .int f8, .int f9, .int f10, .int (nI (ht - 1)), .int f12, .int (nI (oc + 1)), .int f14, .int f15, .int f16])), (a0, .inl (g.2.1 0, 32, .inl nu)), (a1, .inl (g.2.1 0, 8, .inl ce)), (a2, .inl (g.2.1 0, 60, .inl (outUp ou oc (nu (ht - 1)))))]) (R := R) hW [0, 2, 3, 1] 4 rfl (by decide) rfl
    have hW : gW g ((h, .inr (3, [.ref a0, .ref a1, .ref a2, .ref a3, .ref a4, .ref a5, .int f6, .int f7, .int f8, .int f9, .int f10, .int (nI (ht - 1)), .int f12, .int (nI (oc + 1)), .int f14, .int f15, .int f16])) :: (a0, .inl (g.2.1 0, 32, .inl nu)) :: (a1, .inl (g.2.1 0, 8, .inl ce)) :: (a2, .inl (g.2.1 0, 60, .inl (outUp ou oc (nu (ht - 1))))) :: R) _ := hW
    refine gRi F hW hS dX6_perform_90 ?_
    have e1 : htS 13 ht = ht - 1 := by show ht - 1 + 0 = _; omega
    exact ⟨rfl, by rw [e1]; rfl⟩
  · have h0 : 0 ≤ ht := h0
    have h1 : ht - 0 + 0 ≤ 32 := h1
    have hl : lv_has ls 3 [(0, .ref h), (1, .ref (g.2.2.2 14)), (2, .int (nI v))] := hl
    have hW : gW g ((h, .inr (3, [.ref a0, .ref a1, .ref a2, .ref a3, .ref a4, .ref a5, .int f6, .int f7, .int f8, .int f9, .int f10, .int (nI ht), .int f12, .int (nI oc), .int f14, .int f15, .int f16])) :: (a0, .inl (g.2.1 0, 32, .inl nu)) :: (a1, .inl (g.2.1 0, 8, .inl ce)) :: (a2, .inl (g.2.1 0, 60, .inl ou)) :: R) s.heap := hW
    refine gsSwitch F hG hS mX6_perform_1 dX6_perform_0 ?_
    refine lv_aload_n F.1 F.2.1 dX6_perform_3 rfl (lv_at hl 1 rfl) ?_
    refine gEU_i (n := 0) (As := []) F hG hS hW (c_Jx29ce0_ordinal_8abf5 g l  (by omega)) rfl gX6_perform_Jx29ce0_ordinal_8abf5_u160X5 rfl (by omega) (by decide +kernel) (by decide +kernel) ⟨rfl, rfl, Nat.le_of_ble_eq_true rfl, Nat.le_of_ble_eq_true rfl⟩ hl.1 (Nat.le_of_ble_eq_true rfl) ⟨Nat.le_of_ble_eq_true rfl, Nat.le_of_ble_eq_true rfl⟩ rfl rfl dX6_perform_4 (fun r u H locs hq hW hS => ?_)
    obtain ⟨rfl, rfl⟩ := hq
    have hW : gW g ((h, .inr (3, [.ref a0, .ref a1, .ref a2, .ref a3, .ref a4, .ref a5, .int f6, .int f7, .int f8, .int f9, .int f10, .int (nI ht), .int f12, .int (nI oc), .int f14, .int f15, .int f16])) :: (a0, .inl (g.2.1 0, 32, .inl nu)) :: (a1, .inl (g.2.1 0, 8, .inl ce)) :: (a2, .inl (g.2.1 0, 60, .inl ou)) :: R) _ := hW
    refine gLdSwitch F hG hS (by omega) dX6_perform_7 ?_
    refine gTop (y := nI 7) rfl ?_
    refine lv_tableIn (tgt := 106) F.1 F.2.1 dX6_perform_8 (by decide) (by decide) rfl (by decide) ?_
    refine lv_iconst (v := -1) F.1 F.2.1 dX6_perform_106 rfl ?_
    refine gRi F hW hS dX6_perform_107 ?_
    have e1 : htS 14 ht = ht := by show ht - 0 + 0 = _; omega
    exact ⟨rfl, by rw [e1]; rfl⟩

abbrev rm_X6_endAhead : Room := ({ frames := 2, cells := 0, slots := 0, locals := 43 } : Room)
theorem mX6_endAhead_1 : Cond.fieldLink RX6 56 "StepperHearts$Machine" "place" "I" ∈ wsX6_endAhead := List.mem_of_getElem? (i := 1) rfl
theorem nX6_endAhead_X6 : ∀ w ∈ wsX60, w ∈ wsX6_endAhead := fun _ h => List.mem_cons_of_mem _ (List.mem_append_left _ (List.mem_append_right _ (h)))
theorem mX6_endAhead_2 : Cond.fieldLink RX6 41 "StepperHearts$Machine" "steps" "I" ∈ wsX6_endAhead := List.mem_of_getElem? (i := 2) rfl
theorem mX6_endAhead_3 : Cond.fieldLink RX6 47 "StepperHearts$Machine" "height" "I" ∈ wsX6_endAhead := List.mem_of_getElem? (i := 3) rfl
theorem mX6_endAhead_4 : Cond.fieldLink RX6 109 "StepperHearts$Kind" "takes" "I" ∈ wsX6_endAhead := List.mem_of_getElem? (i := 4) rfl
theorem mX6_endAhead_5 : Cond.fieldLink RX6 114 "StepperHearts$Kind" "puts" "I" ∈ wsX6_endAhead := List.mem_of_getElem? (i := 5) rfl
set_option maxRecDepth 100000 in
set_option maxHeartbeats 4000000 in
theorem c_X6_endAhead (g : gC) (l : Launch) {h : Nat} {a0 : Nat} {a1 : Nat} {a2 : Nat} {a3 : Nat} {a4 : Nat} {a5 : Nat} {f6 : Int32} {f7 : Int32} {f8 : Int32} {f10 : Int32} {f12 : Int32} {f13 : Int32} {f15 : Int32} {f16 : Int32} {hp : Nat} {pk : Nat} {po : Nat} {pm : Nat} {n : Nat} {kd : Nat → Nat} {ht : Nat} {st : Nat} {pl : Nat} {fuel : Nat} {R : va_W} (hn : n ≤ 100) (hp2 : pl < 2 ^ 31) (hf : fuel < 2 ^ 31) (hst : st < 2 ^ 31) (hh : ht ≤ 32) (hK : ∀ j, j < n → kd j < 15) : cI g l yX6_endAhead wsX6_endAhead rm_X6_endAhead 0 0 [.ref h, .ref hp, .int (nI fuel)] ((h, .inr (3, [.ref a0, .ref a1, .ref a2, .ref a3, .ref a4, .ref a5, .int f6, .int f7, .int f8, .int (nI st), .int f10, .int (nI ht), .int f12, .int f13, .int (nI pl), .int f15, .int f16])) :: (hp, .inr (5, [.ref pk, .ref po, .ref pm, .int (nI n)])) :: (pk, .inl (g.2.1 0, 100, .inl (nA kd))) :: R) (fun r u => (oI (aheadS kd n pl st fuel ht)) = r ∧ (h, .inr (3, [.ref a0, .ref a1, .ref a2, .ref a3, .ref a4, .ref a5, .int f6, .int f7, .int f8, .int (nI st), .int f10, .int (nI ht), .int f12, .int f13, .int (nI pl), .int f15, .int f16])) :: (hp, .inr (5, [.ref pk, .ref po, .ref pm, .int (nI n)])) :: (pk, .inl (g.2.1 0, 100, .inl (nA kd))) :: R = u) := by
  refine gEnterQ (cc := cX6_endAhead) (maxL := 4) (ret := (some (.int))) (by decide +kernel) rfl (Nat.le_of_ble_eq_true rfl) ?_
  intro p e s m below meth c F hG hW ls hl
  have hS : va_S (gA g) s.heap s.heap [] := va_S.rf
  have hl : lv_has ls 4 [(0, .ref h), (1, .ref hp), (2, .int (nI fuel))] := hl
  have hW : gW g ((h, .inr (3, [.ref a0, .ref a1, .ref a2, .ref a3, .ref a4, .ref a5, .int f6, .int f7, .int f8, .int (nI st), .int f10, .int (nI ht), .int f12, .int f13, .int (nI pl), .int f15, .int f16])) :: (hp, .inr (5, [.ref pk, .ref po, .ref pm, .int (nI n)])) :: (pk, .inl (g.2.1 0, 100, .inl (nA kd))) :: R) s.heap := hW
  refine lv_aload_n F.1 F.2.1 dX6_endAhead_0 rfl (lv_at hl 1 rfl) ?_
  refine lv_aload_n F.1 F.2.1 dX6_endAhead_1 rfl (lv_at hl 0 rfl) ?_
  refine gGet F hG hW nX6_endAhead_X6 0 rfl rfl 14 (by decide) mX6_endAhead_1 rfl dX6_endAhead_2 ?_
  have hW := gW.re (l := [(h, .inr (3, [.ref a0, .ref a1, .ref a2, .ref a3, .ref a4, .ref a5, .int f6, .int f7, .int f8, .int (nI st), .int f10, .int (nI ht), .int f12, .int f13, .int (nI pl), .int f15, .int f16])), (hp, .inr (5, [.ref pk, .ref po, .ref pm, .int (nI n)]))]) (l' := [(hp, .inr (5, [.ref pk, .ref po, .ref pm, .int (nI n)])), (h, .inr (3, [.ref a0, .ref a1, .ref a2, .ref a3, .ref a4, .ref a5, .int f6, .int f7, .int f8, .int (nI st), .int f10, .int (nI ht), .int f12, .int f13, .int (nI pl), .int f15, .int f16]))]) (R := (pk, .inl (g.2.1 0, 100, .inl (nA kd))) :: R) hW [1, 0] 2 rfl (by decide) rfl
  have hW : gW g ((hp, .inr (5, [.ref pk, .ref po, .ref pm, .int (nI n)])) :: (h, .inr (3, [.ref a0, .ref a1, .ref a2, .ref a3, .ref a4, .ref a5, .int f6, .int f7, .int f8, .int (nI st), .int f10, .int (nI ht), .int f12, .int f13, .int (nI pl), .int f15, .int f16])) :: (pk, .inl (g.2.1 0, 100, .inl (nA kd))) :: R) _ := hW
  refine gVi (n := 1) (q := (RX8, TX8, 4)) (q0 := 0) (As := [.int (nI pl)]) F hG hS hW (c_X8_has g l  (by omega) (by omega)) rfl gX6_endAhead_X8_has rfl rfl rfl (by decide +kernel) ⟨rfl, rfl, Nat.le_of_ble_eq_true rfl, Nat.le_of_ble_eq_true rfl⟩ hl.1 (Nat.le_of_ble_eq_true rfl) ⟨Nat.le_of_ble_eq_true rfl, Nat.le_of_ble_eq_true rfl⟩ rfl rfl dX6_endAhead_5 (fun r u H locs hq hW hS => ?_)
  obtain ⟨rfl, rfl⟩ := hq
  have hW : gW g ((hp, .inr (5, [.ref pk, .ref po, .ref pm, .int (nI n)])) :: (h, .inr (3, [.ref a0, .ref a1, .ref a2, .ref a3, .ref a4, .ref a5, .int f6, .int f7, .int f8, .int (nI st), .int f10, .int (nI ht), .int f12, .int f13, .int (nI pl), .int f15, .int f16])) :: (pk, .inl (g.2.1 0, 100, .inl (nA kd))) :: R) _ := hW
  refine gIfNeB (tgt := 13) F dX6_endAhead_8 (by decide) (fun c_8 => ?_) (fun c_8 => ?_)
  · have hpl9 : pl < n := of_decide_eq_true c_8
    have hK := hK pl hpl9
    have hT := kT_lt (kd pl)
    have hPu := kP_lt (kd pl)
    refine lv_aload_n F.1 F.2.1 dX6_endAhead_13 rfl (lv_at hl 0 rfl) ?_
    refine gGet F hG hW nX6_endAhead_X6 1 rfl rfl 9 (by decide) mX6_endAhead_2 rfl dX6_endAhead_14 ?_
    refine lv_iload_n F.1 F.2.1 dX6_endAhead_17 rfl (lv_at hl 2 rfl) ?_
    refine gLt (tgt := 23) F (by omega) (by omega) dX6_endAhead_18 (by decide) (fun c_18 => ?_) (fun c_18 => ?_)
    · refine lv_aload_n F.1 F.2.1 dX6_endAhead_23 rfl (lv_at hl 1 rfl) ?_
      refine lv_aload_n F.1 F.2.1 dX6_endAhead_24 rfl (lv_at hl 0 rfl) ?_
      refine gGet F hG hW nX6_endAhead_X6 1 rfl rfl 14 (by decide) mX6_endAhead_1 rfl dX6_endAhead_25 ?_
      have hW := gW.re (l := [(hp, .inr (5, [.ref pk, .ref po, .ref pm, .int (nI n)])), (h, .inr (3, [.ref a0, .ref a1, .ref a2, .ref a3, .ref a4, .ref a5, .int f6, .int f7, .int f8, .int (nI st), .int f10, .int (nI ht), .int f12, .int f13, .int (nI pl), .int f15, .int f16])), (pk, .inl (g.2.1 0, 100, .inl (nA kd)))]) (l' := [(hp, .inr (5, [.ref pk, .ref po, .ref pm, .int (nI n)])), (pk, .inl (g.2.1 0, 100, .inl (nA kd))), (h, .inr (3, [.ref a0, .ref a1, .ref a2, .ref a3, .ref a4, .ref a5, .int f6, .int f7, .int f8, .int (nI st), .int f10, .int (nI ht), .int f12, .int f13, .int (nI pl), .int f15, .int f16]))]) (R := R) hW [0, 2, 1] 3 rfl (by decide) rfl
      have hW : gW g ((hp, .inr (5, [.ref pk, .ref po, .ref pm, .int (nI n)])) :: (pk, .inl (g.2.1 0, 100, .inl (nA kd))) :: (h, .inr (3, [.ref a0, .ref a1, .ref a2, .ref a3, .ref a4, .ref a5, .int f6, .int f7, .int f8, .int (nI st), .int f10, .int (nI ht), .int f12, .int f13, .int (nI pl), .int f15, .int f16])) :: R) _ := hW
      refine gVr (n := 1) (q := (RX8, TX8, 4)) (q0 := 0) (As := [.int (nI pl)]) F hG hS hW (c_X8_kindAt g l  (by omega) hpl9 hK) rfl gX6_endAhead_X8_kindAt rfl rfl rfl (by decide +kernel) ⟨rfl, rfl, Nat.le_of_ble_eq_true rfl, Nat.le_of_ble_eq_true rfl⟩ hl.1 (Nat.le_of_ble_eq_true rfl) ⟨Nat.le_of_ble_eq_true rfl, Nat.le_of_ble_eq_true rfl⟩ rfl rfl dX6_endAhead_28 (fun r u H locs hq hW hS => ?_)
      obtain ⟨rfl, rfl⟩ := hq
      have hW : gW g ((hp, .inr (5, [.ref pk, .ref po, .ref pm, .int (nI n)])) :: (pk, .inl (g.2.1 0, 100, .inl (nA kd))) :: (h, .inr (3, [.ref a0, .ref a1, .ref a2, .ref a3, .ref a4, .ref a5, .int f6, .int f7, .int f8, .int (nI st), .int f10, .int (nI ht), .int f12, .int f13, .int (nI pl), .int f15, .int f16])) :: R) _ := hW
      refine lv_astore_n (lv' := [(3, .ref (g.2.2.2 (kd pl))), (0, .ref h), (1, .ref hp), (2, .int (nI fuel))]) F.1 F.2.1 dX6_endAhead_31 rfl hl (by decide) rfl (fun ls hl => ?_)
      refine lv_aload_n F.1 F.2.1 dX6_endAhead_32 rfl (lv_at hl 1 rfl) ?_
      refine gGet F hG hW nX6_endAhead_X6 2 rfl rfl 11 (by decide) mX6_endAhead_3 rfl dX6_endAhead_33 ?_
      refine lv_aload_n F.1 F.2.1 dX6_endAhead_36 rfl (lv_at hl 0 rfl) ?_
      refine gKtakes F hG hS (by omega) mX6_endAhead_4 dX6_endAhead_37 ?_
      refine gGe (tgt := 45) F (by omega) (by omega) dX6_endAhead_40 (by decide) (fun c_40 => ?_) (fun c_40 => ?_)
      · refine lv_aload_n F.1 F.2.1 dX6_endAhead_45 rfl (lv_at hl 1 rfl) ?_
        refine gGet F hG hW nX6_endAhead_X6 2 rfl rfl 11 (by decide) mX6_endAhead_3 rfl dX6_endAhead_46 ?_
        refine lv_aload_n F.1 F.2.1 dX6_endAhead_49 rfl (lv_at hl 0 rfl) ?_
        refine gKtakes F hG hS (by omega) mX6_endAhead_4 dX6_endAhead_50 ?_
        refine gSub F (by omega) dX6_endAhead_53 ?_
        refine lv_aload_n F.1 F.2.1 dX6_endAhead_54 rfl (lv_at hl 0 rfl) ?_
        refine gKputs F hG hS (by omega) mX6_endAhead_5 dX6_endAhead_55 ?_
        refine gAdd F dX6_endAhead_58 ?_
        refine lv_bipush (v := nI 32) F.1 F.2.1 dX6_endAhead_59 (by decide) ?_
        refine gLe (tgt := 66) F (by omega) (by omega) dX6_endAhead_61 (by decide) (fun c_61 => ?_) (fun c_61 => ?_)
        · refine lv_iconst (v := -1) F.1 F.2.1 dX6_endAhead_66 rfl ?_
          have hW := gW.re (l := [(hp, .inr (5, [.ref pk, .ref po, .ref pm, .int (nI n)])), (pk, .inl (g.2.1 0, 100, .inl (nA kd))), (h, .inr (3, [.ref a0, .ref a1, .ref a2, .ref a3, .ref a4, .ref a5, .int f6, .int f7, .int f8, .int (nI st), .int f10, .int (nI ht), .int f12, .int f13, .int (nI pl), .int f15, .int f16]))]) (l' := [(h, .inr (3, [.ref a0, .ref a1, .ref a2, .ref a3, .ref a4, .ref a5, .int f6, .int f7, .int f8, .int (nI st), .int f10, .int (nI ht), .int f12, .int f13, .int (nI pl), .int f15, .int f16])), (hp, .inr (5, [.ref pk, .ref po, .ref pm, .int (nI n)])), (pk, .inl (g.2.1 0, 100, .inl (nA kd)))]) (R := R) hW [2, 0, 1] 3 rfl (by decide) rfl
          have hW : gW g ((h, .inr (3, [.ref a0, .ref a1, .ref a2, .ref a3, .ref a4, .ref a5, .int f6, .int f7, .int f8, .int (nI st), .int f10, .int (nI ht), .int f12, .int f13, .int (nI pl), .int f15, .int f16])) :: (hp, .inr (5, [.ref pk, .ref po, .ref pm, .int (nI n)])) :: (pk, .inl (g.2.1 0, 100, .inl (nA kd))) :: R) _ := hW
          refine gRi F hW hS dX6_endAhead_67 ?_
          exact ⟨by rw [aheadS, if_pos hpl9, if_neg (Nat.not_le.mpr c_18), if_neg (Nat.not_lt.mpr c_40), if_neg (Nat.not_lt.mpr c_61)]; rfl, rfl⟩
        · refine lv_iconst (v := nI 3) F.1 F.2.1 dX6_endAhead_64 rfl ?_
          have hW := gW.re (l := [(hp, .inr (5, [.ref pk, .ref po, .ref pm, .int (nI n)])), (pk, .inl (g.2.1 0, 100, .inl (nA kd))), (h, .inr (3, [.ref a0, .ref a1, .ref a2, .ref a3, .ref a4, .ref a5, .int f6, .int f7, .int f8, .int (nI st), .int f10, .int (nI ht), .int f12, .int f13, .int (nI pl), .int f15, .int f16]))]) (l' := [(h, .inr (3, [.ref a0, .ref a1, .ref a2, .ref a3, .ref a4, .ref a5, .int f6, .int f7, .int f8, .int (nI st), .int f10, .int (nI ht), .int f12, .int f13, .int (nI pl), .int f15, .int f16])), (hp, .inr (5, [.ref pk, .ref po, .ref pm, .int (nI n)])), (pk, .inl (g.2.1 0, 100, .inl (nA kd)))]) (R := R) hW [2, 0, 1] 3 rfl (by decide) rfl
          have hW : gW g ((h, .inr (3, [.ref a0, .ref a1, .ref a2, .ref a3, .ref a4, .ref a5, .int f6, .int f7, .int f8, .int (nI st), .int f10, .int (nI ht), .int f12, .int f13, .int (nI pl), .int f15, .int f16])) :: (hp, .inr (5, [.ref pk, .ref po, .ref pm, .int (nI n)])) :: (pk, .inl (g.2.1 0, 100, .inl (nA kd))) :: R) _ := hW
          refine gRi F hW hS dX6_endAhead_65 ?_
          exact ⟨by rw [aheadS, if_pos hpl9, if_neg (Nat.not_le.mpr c_18), if_neg (Nat.not_lt.mpr c_40), if_pos c_61]; rfl, rfl⟩
      · refine lv_iconst (v := nI 2) F.1 F.2.1 dX6_endAhead_43 rfl ?_
        have hW := gW.re (l := [(hp, .inr (5, [.ref pk, .ref po, .ref pm, .int (nI n)])), (pk, .inl (g.2.1 0, 100, .inl (nA kd))), (h, .inr (3, [.ref a0, .ref a1, .ref a2, .ref a3, .ref a4, .ref a5, .int f6, .int f7, .int f8, .int (nI st), .int f10, .int (nI ht), .int f12, .int f13, .int (nI pl), .int f15, .int f16]))]) (l' := [(h, .inr (3, [.ref a0, .ref a1, .ref a2, .ref a3, .ref a4, .ref a5, .int f6, .int f7, .int f8, .int (nI st), .int f10, .int (nI ht), .int f12, .int f13, .int (nI pl), .int f15, .int f16])), (hp, .inr (5, [.ref pk, .ref po, .ref pm, .int (nI n)])), (pk, .inl (g.2.1 0, 100, .inl (nA kd)))]) (R := R) hW [2, 0, 1] 3 rfl (by decide) rfl
        have hW : gW g ((h, .inr (3, [.ref a0, .ref a1, .ref a2, .ref a3, .ref a4, .ref a5, .int f6, .int f7, .int f8, .int (nI st), .int f10, .int (nI ht), .int f12, .int f13, .int (nI pl), .int f15, .int f16])) :: (hp, .inr (5, [.ref pk, .ref po, .ref pm, .int (nI n)])) :: (pk, .inl (g.2.1 0, 100, .inl (nA kd))) :: R) _ := hW
        refine gRi F hW hS dX6_endAhead_44 ?_
        exact ⟨by rw [aheadS, if_pos hpl9, if_neg (Nat.not_le.mpr c_18), if_pos c_40]; rfl, rfl⟩
    · refine lv_iconst (v := nI 1) F.1 F.2.1 dX6_endAhead_21 rfl ?_
      have hW := gW.re (l := [(hp, .inr (5, [.ref pk, .ref po, .ref pm, .int (nI n)])), (h, .inr (3, [.ref a0, .ref a1, .ref a2, .ref a3, .ref a4, .ref a5, .int f6, .int f7, .int f8, .int (nI st), .int f10, .int (nI ht), .int f12, .int f13, .int (nI pl), .int f15, .int f16]))]) (l' := [(h, .inr (3, [.ref a0, .ref a1, .ref a2, .ref a3, .ref a4, .ref a5, .int f6, .int f7, .int f8, .int (nI st), .int f10, .int (nI ht), .int f12, .int f13, .int (nI pl), .int f15, .int f16])), (hp, .inr (5, [.ref pk, .ref po, .ref pm, .int (nI n)]))]) (R := (pk, .inl (g.2.1 0, 100, .inl (nA kd))) :: R) hW [1, 0] 2 rfl (by decide) rfl
      have hW : gW g ((h, .inr (3, [.ref a0, .ref a1, .ref a2, .ref a3, .ref a4, .ref a5, .int f6, .int f7, .int f8, .int (nI st), .int f10, .int (nI ht), .int f12, .int f13, .int (nI pl), .int f15, .int f16])) :: (hp, .inr (5, [.ref pk, .ref po, .ref pm, .int (nI n)])) :: (pk, .inl (g.2.1 0, 100, .inl (nA kd))) :: R) _ := hW
      refine gRi F hW hS dX6_endAhead_22 ?_
      exact ⟨by rw [aheadS, if_pos hpl9, if_pos c_18]; rfl, rfl⟩
  · refine lv_iconst (v := nI 4) F.1 F.2.1 dX6_endAhead_11 rfl ?_
    have hW := gW.re (l := [(hp, .inr (5, [.ref pk, .ref po, .ref pm, .int (nI n)])), (h, .inr (3, [.ref a0, .ref a1, .ref a2, .ref a3, .ref a4, .ref a5, .int f6, .int f7, .int f8, .int (nI st), .int f10, .int (nI ht), .int f12, .int f13, .int (nI pl), .int f15, .int f16]))]) (l' := [(h, .inr (3, [.ref a0, .ref a1, .ref a2, .ref a3, .ref a4, .ref a5, .int f6, .int f7, .int f8, .int (nI st), .int f10, .int (nI ht), .int f12, .int f13, .int (nI pl), .int f15, .int f16])), (hp, .inr (5, [.ref pk, .ref po, .ref pm, .int (nI n)]))]) (R := (pk, .inl (g.2.1 0, 100, .inl (nA kd))) :: R) hW [1, 0] 2 rfl (by decide) rfl
    have hW : gW g ((h, .inr (3, [.ref a0, .ref a1, .ref a2, .ref a3, .ref a4, .ref a5, .int f6, .int f7, .int f8, .int (nI st), .int f10, .int (nI ht), .int f12, .int f13, .int (nI pl), .int f15, .int f16])) :: (hp, .inr (5, [.ref pk, .ref po, .ref pm, .int (nI n)])) :: (pk, .inl (g.2.1 0, 100, .inl (nA kd))) :: R) _ := hW
    refine gRi F hW hS dX6_endAhead_12 ?_
    exact ⟨by rw [aheadS, if_neg (Nat.not_lt.mpr (Nat.not_lt.mp (of_decide_eq_false c_8)))]; rfl, rfl⟩

