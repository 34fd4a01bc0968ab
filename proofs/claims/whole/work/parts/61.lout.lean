theorem ggY_out_X11_out : GoodIn wsY_out wsY11_out := goodIn_ca (goodIn_r _ [6, 7, 8, 9, 10, 11, 12, 13, 14, 15, 16, 17, 18, 19, 20, 21, 22, 23, 24, 25, 26, 27, 28, 29, 30, 31, 32, 33, 34, 35, 36, 37, 38, 39, 40, 41, 42, 43] rfl (by decide +kernel)) (goodIn_sub (fun _ h => List.mem_cons_of_mem _ (List.mem_append_right _ h)) (by decide +kernel))
set_option maxRecDepth 20000 in
theorem gY_out_X11_out : GoodIn wsY_out (wsV RL 7 RX11 yX11_out wsY11_out) := goodIn_app (goodIn_of _ (by decide +kernel)) ggY_out_X11_out
theorem ggY_pile_X11_pile : GoodIn wsY_pile wsY11_pile := goodIn_ca (goodIn_r _ [6, 7, 8, 9, 10, 11, 12, 13, 14, 15, 16, 17, 18, 19, 20, 21, 22, 23, 24, 25, 26, 27, 28, 29, 30, 31, 32, 33, 34, 35, 36, 37, 38, 39, 40, 41, 42, 43] rfl (by decide +kernel)) (goodIn_sub (fun _ h => List.mem_cons_of_mem _ (List.mem_append_right _ h)) (by decide +kernel))
set_option maxRecDepth 20000 in
theorem gY_pile_X11_pile : GoodIn wsY_pile (wsV RL 15 RX11 yX11_pile wsY11_pile) := goodIn_app (goodIn_of _ (by decide +kernel)) ggY_pile_X11_pile
/-! ===== calls that may throw, out of a body with a table (written by wip/whole/gen/spec11.py) ===== -/
section GVX
variable {p : Program} {l : Launch} {e : Env} {R : Room} {s : State} {m : MethodId} {args : Array Value} {below : List Frame} {meth : Method} {c : Code} {H : Heap} {locs : List Loc} {cells slots : Nat} {Q : State → Prop}
variable {ws : List Cond} {y : MethodName} {cc : ByteArray} {maxL : Nat} {ret : Option FieldType} {pc : Nat} {ls : Array Slot} {rest : List Value} {g : gC} {w : va_W} {a : Nat}
variable {st0 : List Value} {H0 : Heap} {aa : Array Value}
/-- an exception's object as it lies -/
def gSo (s : State) (H : Heap) (a : Nat) : Prop := ∃ ce : Cell, H[a]? = some ce ∧ ce.vm = .none ∧ s.vm.findClass gNo = some ce.cls
theorem gCiX {Qr : Int32 → va_W → Prop} {PX : Prop} {w0 : va_W} {mc ms : Nat} (hr : vx_Run p l e R s m args below meth c H locs cells slots mc ms (F0 m pc ls st0) rest (va_Qi Qr (fun u t => gW g u t.heap) (gA g) aa) (gXC g PX w0) (gA g)) (hS : va_S (gA g) H0 H locs)
    (kx : ∀ (H1 : Heap) (locs1 : List Loc) (q : Nat), PX → gW g w0 H1 → va_S (gA g) H0 H1 locs1 → gSo s H1 q → vx_W p l e R s m args below meth c H1 locs1 (cells + mc) (slots + ms) Q (F0 m pc ls rest) q)
    (kk : ∀ (r : Int32) (u : va_W) (H1 : Heap) (locs1 : List Loc), Qr r u → gW g u H1 → va_S (gA g) H0 H1 locs1 → W p l e R s m args below meth c H1 locs1 (cells + mc) (slots + ms) Q (F0 m (pc + 3) ls (.int r :: rest))) : W p l e R s m args below meth c H locs cells slots Q (F0 m pc ls st0) :=
  vx_calli hr hS (fun _ _ h => h) (fun _ h => h) (fun _ _ h => h)
    (fun E ce q9 u t H1 locs1 ht hvm hp hb hz hk hS1 hce hcv hcl => by
      obtain ⟨hpx, rfl⟩ := hp
      obtain ⟨rfl, hb⟩ := hb
      exact kx H1 locs1 q9 hpx (by rw [← ht]; exact hb) hS1 ⟨ce, hce, hcv, hcl⟩)
    (fun r u t H1 locs1 ht hvm hp hb hz hk hS1 => kk r u H1 locs1 hp (by rw [← ht]; exact hb) hS1)
theorem gVX {y2 : MethodName} {ws2 ws3 : List Cond} {rm : Room} {mc ms n index ml2 : Nat} {bytes : ByteArray} {rt : Option FieldType} {w2 : va_W} {As : List Value} {b q0 ci : Nat} {q : vw_C} {fs : List Value} {Qr : Int32 → va_W → Prop} {PX : Prop} (F : gF p s m meth c args ws y cc maxL ret) (hG : gU g s) (hS : va_S (gA g) s.heap H locs) (hW : gW g w2 H) (hC : cE g l y2 ws2 rm mc ms (.ref b :: As) w2 Qr PX) (hw : ws2 = Cond.code y2 bytes ml2 rt :: ws3) (hT : GoodIn ws (wsV y.cls index q.1 y2 ws2)) (hcl : y2.cls = q.1) (hc : vwCl[ci]? = some q) (he : w2[q0]? = some (b, .inr (ci, fs))) (hy2 : y2.cls ≠ "java/lang/invoke/MethodHandle" ∧ y2.cls ≠ "java/lang/invoke/VarHandle" ∧ (parseMethodDescriptor y2.desc).map (fun d => d.parameters.length) = some n) (hRm : rm.cells = mc ∧ rm.slots = ms ∧ rm.frames + 1 ≤ R.frames ∧ 8 + (ml2 + 11) + rm.locals ≤ R.locals) (hsz : ls.size = maxL) (hW8 : (rest.map fun v => v.category).sum ≤ 8) (hcs : cells + mc ≤ R.cells ∧ slots + ms ≤ R.slots) (hn : As.length = n) {st : List Value} (hst : st = As.reverse ++ .ref b :: rest) (hd : decode cc pc = .ok (.invokevirtual index, 3))
    (kx : ∀ (H1 : Heap) (locs1 : List Loc) (q : Nat), PX → gW g w2 H1 → va_S (gA g) s.heap H1 locs1 → gSo s H1 q → vx_W p l e R s m args below meth c H1 locs1 (cells + mc) (slots + ms) Q (F0 m pc ls rest) q)
    (kk : ∀ (r : Int32) (u : va_W) (H1 : Heap) (locs1 : List Loc), Qr r u → gW g u H1 → va_S (gA g) s.heap H1 locs1 → W p l e R s m args below meth c H1 locs1 (cells + mc) (slots + ms) Q (F0 m (pc + 3) ls (.int r :: rest))) : W p l e R s m args below meth c H locs cells slots Q (F0 m pc ls st) :=
  gCiX (vx_runV (As := As) (rest := rest) ⟨F.1, F.2.1, F.2.2.2.1, F.2.2.2.2.2.1, F.2.2.2.2.1⟩ hC (cwV n F.2.2.2.2.1 hT hw hRm.1 hRm.2.1 ⟨hcl, hy2⟩ hRm.2.2) (gPreV hG hS hW hW.1 hc he) rfl hn hsz hst (lv_room hW8) hd hcs) hS kx kk
theorem gCatchX {st en ha ct : Nat} (F : gF p s m meth c args ws y cc maxL ret) (hG : gU g s) (ht : c.exceptionTable.toList = tableOf [(st, en, ha, ct)]) (h1 : covers (⟨st, en, ha, ct⟩ : ExceptionTableEntry) pc = true) (h0 : ct ≠ 0) (hl : Cond.classLink y.cls ct gNo ∈ ws) (hc : gSo s H a)
    (kk : W p l e R s m args below meth c H locs cells slots Q (F0 m ha ls [.ref a])) : vx_W p l e R s m args below meth c H locs cells slots Q (F0 m pc ls rest) a := by
  obtain ⟨ce, h2, h3, h4⟩ := hc
  refine vx_catch (E := gNo) (name := gNo) F.2.2.2.2.2.1 [] ⟨st, en, ha, ct⟩ [] (by rw [ht]; rfl) (fun z hz => nomatch hz) h1 h0 (F.2.2.2.2.1 _ hl) (va_Nw.use rfl (hG.2.2.2.2.2.2.2 (gNo, gNo) (List.mem_of_getElem? (i := 0) rfl))) h2 h3 h4 kk
end GVX

abbrev rm_L_out : Room := ({ frames := 7, cells := 1, slots := 6, locals := 103 } : Room)
theorem mL_out_1 : Cond.classLink RL 13 "java/util/NoSuchElementException" ∈ wsY_out := List.mem_of_getElem? (i := 1) rfl
set_option maxRecDepth 100000 in
set_option maxHeartbeats 4000000 in
theorem c_L_out (g : gC) (l : Launch) {o : Nat} {ta : Nat} {rd : Nat} {jn : Nat} {sw : Nat} {rt : Nat} {jh : Nat} {kh : Nat} {th : Nat} {la : Nat} {a0 : Nat} {a1 : Nat} {a2 : Nat} {a3 : Nat} {a4 : Nat} {a5 : Nat} {lb : Nat} {cu : Nat} {sq : Nat} {tl : Nat} {lf : Nat} {lt : Nat} {inp : Int32} {bp : Int32} {hr : Bool} {pn : Nat} {en : Int32} {st : Nat} {sp : Nat} {ht : Nat} {hi : Nat} {oc : Nat} {pl : Nat} {fk : Int32} {tc : Nat} {ou : Nat → Int32} {x : Int32} {lq : Nat} {ol : Nat → Int64} {R : va_W} (hlt : l.stackTraces = false) (hb : oc < 2 ^ 31) : cI g l yL_out wsY_out rm_L_out 1 6 [.ref o, .int x, .ref lq] ((o, .inr (8, [.ref ta, .ref rd, .ref jn, .ref sw, .ref rt, .ref jh, .ref kh, .ref th, .ref la, .ref lb, .ref cu, .ref sq, .int (nI tl), .int (nI lf), .int inp, .int bp, .int (nI lt)])) :: (la, .inr (3, [.ref a0, .ref a1, .ref a2, .ref a3, .ref a4, .ref a5, .int (bI hr), .int (nI pn), .int en, .int (nI st), .int (nI sp), .int (nI ht), .int (nI hi), .int (nI oc), .int (nI pl), .int fk, .int (nI tc)])) :: (a2, .inl (g.2.1 0, 60, .inl ou)) :: (lq, .inl (g.2.1 2, 1, .inr (.inl ol))) :: R) (fun r u => ∃ (ol9 : Nat → Int64), (nI (ixS x (min oc 60) (fun _ => 0) 1)) = r ∧ (o, .inr (8, [.ref ta, .ref rd, .ref jn, .ref sw, .ref rt, .ref jh, .ref kh, .ref th, .ref la, .ref lb, .ref cu, .ref sq, .int (nI tl), .int (nI lf), .int inp, .int bp, .int (nI lt)])) :: (la, .inr (3, [.ref a0, .ref a1, .ref a2, .ref a3, .ref a4, .ref a5, .int (bI hr), .int (nI pn), .int en, .int (nI st), .int (nI sp), .int (nI ht), .int (nI hi), .int (nI oc), .int (nI pl), .int fk, .int (nI tc)])) :: (a2, .inl (g.2.1 0, 60, .inl ou)) :: (lq, .inl (g.2.1 2, 1, .inr (.inl ol9))) :: R = u ∧ (ixS x (min oc 60) (fun _ => 0) 1 = 0 → ol9 0 = (ixS x (min oc 60) ou (nI 0)).toInt64)) := by
  refine gEnterH (cc := cL_out) (maxL := 4) (ret := (some (.int))) (by decide +kernel) rfl (Nat.le_of_ble_eq_true rfl) ?_
  intro p e s m below meth c F hx0 hG hW ls hl
  have hS : va_S (gA g) s.heap s.heap [] := va_S.rf
  have hl : lv_has ls 4 [(0, .ref o), (1, .int x), (2, .ref lq)] := hl
  have hW : gW g ((o, .inr (8, [.ref ta, .ref rd, .ref jn, .ref sw, .ref rt, .ref jh, .ref kh, .ref th, .ref la, .ref lb, .ref cu, .ref sq, .int (nI tl), .int (nI lf), .int inp, .int bp, .int (nI lt)])) :: (la, .inr (3, [.ref a0, .ref a1, .ref a2, .ref a3, .ref a4, .ref a5, .int (bI hr), .int (nI pn), .int en, .int (nI st), .int (nI sp), .int (nI ht), .int (nI hi), .int (nI oc), .int (nI pl), .int fk, .int (nI tc)])) :: (a2, .inl (g.2.1 0, 60, .inl ou)) :: (lq, .inl (g.2.1 2, 1, .inr (.inl ol))) :: R) s.heap := hW
  refine lv_aload_n F.1 F.2.1 dL_out_0 rfl (lv_at hl 2 rfl) ?_
  refine lv_iconst (v := nI 0) F.1 F.2.1 dL_out_1 rfl ?_
  refine lv_aload_n F.1 F.2.1 dL_out_2 rfl (lv_at hl 0 rfl) ?_
  refine lv_iload_n F.1 F.2.1 dL_out_3 rfl (lv_at hl 1 rfl) ?_
  refine gVX (n := 1) (q := (RX11, TX11, 17)) (q0 := 0) (As := [.int x]) F hG hS hW (c_Y11_out g l  hlt hb) rfl gY_out_X11_out rfl rfl rfl (by decide +kernel) ⟨rfl, rfl, Nat.le_of_ble_eq_true rfl, Nat.le_of_ble_eq_true rfl⟩ hl.1 (Nat.le_of_ble_eq_true rfl) ⟨Nat.le_of_ble_eq_true rfl, Nat.le_of_ble_eq_true rfl⟩ rfl rfl dL_out_4 (fun H locs q9 hpx hW hS hc => ?_) (fun r u H locs hq hW hS => ?_)
  · refine gCatchX F hG hx0 (by decide) (by decide) mL_out_1 hc ?_
    refine lv_astore_n (lv' := [(3, .ref q9), (0, .ref o), (1, .int x), (2, .ref lq)]) F.1 F.2.1 dL_out_12 rfl hl (by decide) rfl (fun ls hl => ?_)
    refine lv_iconst (v := nI 1) F.1 F.2.1 dL_out_13 rfl ?_
    refine gRi F hW hS dL_out_14 ?_
    exact ⟨_, congrArg nI (ixS_out hpx (by omega)), rfl, fun z => by rw [ixS_out hpx (by omega)] at z; cases z⟩
  obtain ⟨rfl, rfl, p0_4⟩ := hq
  have hW : gW g ((o, .inr (8, [.ref ta, .ref rd, .ref jn, .ref sw, .ref rt, .ref jh, .ref kh, .ref th, .ref la, .ref lb, .ref cu, .ref sq, .int (nI tl), .int (nI lf), .int inp, .int bp, .int (nI lt)])) :: (la, .inr (3, [.ref a0, .ref a1, .ref a2, .ref a3, .ref a4, .ref a5, .int (bI hr), .int (nI pn), .int en, .int (nI st), .int (nI sp), .int (nI ht), .int (nI hi), .int (nI oc), .int (nI pl), .int fk, .int (nI tc)])) :: (a2, .inl (g.2.1 0, 60, .inl ou)) :: (lq, .inl (g.2.1 2, 1, .inr (.inl ol))) :: R) _ := hW
  refine lv_i2l (v := (ixS x (min oc 60) ou (nI 0)).toInt64) F.1 F.2.1 dL_out_7 rfl ?_
  refine gStJ (w2 := (o, .inr (8, [.ref ta, .ref rd, .ref jn, .ref sw, .ref rt, .ref jh, .ref kh, .ref th, .ref la, .ref lb, .ref cu, .ref sq, .int (nI tl), .int (nI lf), .int inp, .int bp, .int (nI lt)])) :: (la, .inr (3, [.ref a0, .ref a1, .ref a2, .ref a3, .ref a4, .ref a5, .int (bI hr), .int (nI pn), .int en, .int (nI st), .int (nI sp), .int (nI ht), .int (nI hi), .int (nI oc), .int (nI pl), .int fk, .int (nI tc)])) :: (a2, .inl (g.2.1 0, 60, .inl ou)) :: (lq, .inl (g.2.1 2, 1, .inr (.inl (vp_updL ol 0 ((ixS x (min oc 60) ou (nI 0)).toInt64))))) :: R) F hG hW 3 rfl (by omega) (by decide) hS rfl dL_out_8 (fun H locs hW hS => ?_)
  refine lv_goto (tgt := 15) F.1 F.2.1 dL_out_9 (by decide) ?_
  refine lv_iconst (v := nI 0) F.1 F.2.1 dL_out_15 rfl ?_
  refine gRi F hW hS dL_out_16 ?_
  obtain ⟨j, hj, hxj⟩ := p0_4
  exact ⟨_, congrArg nI (by rw [hxj]; exact ixS_in hj (by omega)), rfl, fun _ => if_pos rfl⟩

abbrev rm_L_pile : Room := ({ frames := 7, cells := 1, slots := 6, locals := 103 } : Room)
theorem mL_pile_1 : Cond.classLink RL 13 "java/util/NoSuchElementException" ∈ wsY_pile := List.mem_of_getElem? (i := 1) rfl
set_option maxRecDepth 100000 in
set_option maxHeartbeats 4000000 in
theorem c_L_pile (g : gC) (l : Launch) {o : Nat} {ta : Nat} {rd : Nat} {jn : Nat} {sw : Nat} {rt : Nat} {jh : Nat} {kh : Nat} {th : Nat} {la : Nat} {a0 : Nat} {a1 : Nat} {a2 : Nat} {a3 : Nat} {a4 : Nat} {a5 : Nat} {lb : Nat} {cu : Nat} {sq : Nat} {tl : Nat} {lf : Nat} {lt : Nat} {inp : Int32} {bp : Int32} {hr : Bool} {pn : Nat} {en : Int32} {st : Nat} {sp : Nat} {ht : Nat} {hi : Nat} {oc : Nat} {pl : Nat} {fk : Int32} {tc : Nat} {nu : Nat → Int32} {x : Int32} {lq : Nat} {ol : Nat → Int64} {R : va_W} (hlt : l.stackTraces = false) (hb : ht < 2 ^ 31) : cI g l yL_pile wsY_pile rm_L_pile 1 6 [.ref o, .int x, .ref lq] ((o, .inr (8, [.ref ta, .ref rd, .ref jn, .ref sw, .ref rt, .ref jh, .ref kh, .ref th, .ref la, .ref lb, .ref cu, .ref sq, .int (nI tl), .int (nI lf), .int inp, .int bp, .int (nI lt)])) :: (la, .inr (3, [.ref a0, .ref a1, .ref a2, .ref a3, .ref a4, .ref a5, .int (bI hr), .int (nI pn), .int en, .int (nI st), .int (nI sp), .int (nI ht), .int (nI hi), .int (nI oc), .int (nI pl), .int fk, .int (nI tc)])) :: (a0, .inl (g.2.1 0, 32, .inl nu)) :: (lq, .inl (g.2.1 2, 1, .inr (.inl ol))) :: R) (fun r u => ∃ (ol9 : Nat → Int64), (nI (ixS x (min ht 32) (fun _ => 0) 1)) = r ∧ (o, .inr (8, [.ref ta, .ref rd, .ref jn, .ref sw, .ref rt, .ref jh, .ref kh, .ref th, .ref la, .ref lb, .ref cu, .ref sq, .int (nI tl), .int (nI lf), .int inp, .int bp, .int (nI lt)])) :: (la, .inr (3, [.ref a0, .ref a1, .ref a2, .ref a3, .ref a4, .ref a5, .int (bI hr), .int (nI pn), .int en, .int (nI st), .int (nI sp), .int (nI ht), .int (nI hi), .int (nI oc), .int (nI pl), .int fk, .int (nI tc)])) :: (a0, .inl (g.2.1 0, 32, .inl nu)) :: (lq, .inl (g.2.1 2, 1, .inr (.inl ol9))) :: R = u ∧ (ixS x (min ht 32) (fun _ => 0) 1 = 0 → ol9 0 = (ixS x (min ht 32) nu (nI 0)).toInt64)) := by
  refine gEnterH (cc := cL_pile) (maxL := 4) (ret := (some (.int))) (by decide +kernel) rfl (Nat.le_of_ble_eq_true rfl) ?_
  intro p e s m below meth c F hx0 hG hW ls hl
  have hS : va_S (gA g) s.heap s.heap [] := va_S.rf
  have hl : lv_has ls 4 [(0, .ref o), (1, .int x), (2, .ref lq)] := hl
  have hW : gW g ((o, .inr (8, [.ref ta, .ref rd, .ref jn, .ref sw, .ref rt, .ref jh, .ref kh, .ref th, .ref la, .ref lb, .ref cu, .ref sq, .int (nI tl), .int (nI lf), .int inp, .int bp, .int (nI lt)])) :: (la, .inr (3, [.ref a0, .ref a1, .ref a2, .ref a3, .ref a4, .ref a5, .int (bI hr), .int (nI pn), .int en, .int (nI st), .int (nI sp), .int (nI ht), .int (nI hi), .int (nI oc), .int (nI pl), .int fk, .int (nI tc)])) :: (a0, .inl (g.2.1 0, 32, .inl nu)) :: (lq, .inl (g.2.1 2, 1, .inr (.inl ol))) :: R) s.heap := hW
  refine lv_aload_n F.1 F.2.1 dL_pile_0 rfl (lv_at hl 2 rfl) ?_
  refine lv_iconst (v := nI 0) F.1 F.2.1 dL_pile_1 rfl ?_
  refine lv_aload_n F.1 F.2.1 dL_pile_2 rfl (lv_at hl 0 rfl) ?_
  refine lv_iload_n F.1 F.2.1 dL_pile_3 rfl (lv_at hl 1 rfl) ?_
  refine gVX (n := 1) (q := (RX11, TX11, 17)) (q0 := 0) (As := [.int x]) F hG hS hW (c_Y11_pile g l  hlt hb) rfl gY_pile_X11_pile rfl rfl rfl (by decide +kernel) ⟨rfl, rfl, Nat.le_of_ble_eq_true rfl, Nat.le_of_ble_eq_true rfl⟩ hl.1 (Nat.le_of_ble_eq_true rfl) ⟨Nat.le_of_ble_eq_true rfl, Nat.le_of_ble_eq_true rfl⟩ rfl rfl dL_pile_4 (fun H locs q9 hpx hW hS hc => ?_) (fun r u H locs hq hW hS => ?_)
  · refine gCatchX F hG hx0 (by decide) (by decide) mL_pile_1 hc ?_
    refine lv_astore_n (lv' := [(3, .ref q9), (0, .ref o), (1, .int x), (2, .ref lq)]) F.1 F.2.1 dL_pile_12 rfl hl (by decide) rfl (fun ls hl => ?_)
    refine lv_iconst (v := nI 1) F.1 F.2.1 dL_pile_13 rfl ?_
    refine gRi F hW hS dL_pile_14 ?_
    exact ⟨_, congrArg nI (ixS_out hpx (by omega)), rfl, fun z => by rw [ixS_out hpx (by omega)] at z; cases z⟩
  obtain ⟨rfl, rfl, p0_4⟩ := hq
  have hW : gW g ((o, .inr (8, [.ref ta, .ref rd, .ref jn, .ref sw, .ref rt, .ref jh, .ref kh, .ref th, .ref la, .ref lb, .ref cu, .ref sq, .int (nI tl), .int (nI lf), .int inp, .int bp, .int (nI lt)])) :: (la, .inr (3, [.ref a0, .ref a1, .ref a2, .ref a3, .ref a4, .ref a5, .int (bI hr), .int (nI pn), .int en, .int (nI st), .int (nI sp), .int (nI ht), .int (nI hi), .int (nI oc), .int (nI pl), .int fk, .int (nI tc)])) :: (a0, .inl (g.2.1 0, 32, .inl nu)) :: (lq, .inl (g.2.1 2, 1, .inr (.inl ol))) :: R) _ := hW
  refine lv_i2l (v := (ixS x (min ht 32) nu (nI 0)).toInt64) F.1 F.2.1 dL_pile_7 rfl ?_
  refine gStJ (w2 := (o, .inr (8, [.ref ta, .ref rd, .ref jn, .ref sw, .ref rt, .ref jh, .ref kh, .ref th, .ref la, .ref lb, .ref cu, .ref sq, .int (nI tl), .int (nI lf), .int inp, .int bp, .int (nI lt)])) :: (la, .inr (3, [.ref a0, .ref a1, .ref a2, .ref a3, .ref a4, .ref a5, .int (bI hr), .int (nI pn), .int en, .int (nI st), .int (nI sp), .int (nI ht), .int (nI hi), .int (nI oc), .int (nI pl), .int fk, .int (nI tc)])) :: (a0, .inl (g.2.1 0, 32, .inl nu)) :: (lq, .inl (g.2.1 2, 1, .inr (.inl (vp_updL ol 0 ((ixS x (min ht 32) nu (nI 0)).toInt64))))) :: R) F hG hW 3 rfl (by omega) (by decide) hS rfl dL_pile_8 (fun H locs hW hS => ?_)
  refine lv_goto (tgt := 15) F.1 F.2.1 dL_pile_9 (by decide) ?_
  refine lv_iconst (v := nI 0) F.1 F.2.1 dL_pile_15 rfl ?_
  refine gRi F hW hS dL_pile_16 ?_
  obtain ⟨j, hj, hxj⟩ := p0_4
  exact ⟨_, congrArg nI (by rw [hxj]; exact ixS_in hj (by omega)), rfl, fun _ => if_pos rfl⟩

