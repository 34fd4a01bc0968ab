/-! ===== rows of the model's side: longs, bytes (hand-written) ===== -/
def sB (n : Nat) : Int32 := (nI n).toInt8.toInt32
def yA (f : Nat → Nat) : Nat → Int32 := fun j => sB (f j)
def lA (f : Nat → Nat) : Nat → Int64 := fun j => lN (f j)
theorem sB_and : ∀ n : Nat, n < 256 → sB n &&& nI 255 = nI n := by decide +kernel
theorem sB_nar : ∀ n : Nat, n < 256 → vp_nar .byte (sB n) = sB n := by decide +kernel
theorem yA_upd (f : Nat → Nat) (k x : Nat) : upd (yA f) k (sB x) = yA (updN f k x) := by
  funext j
  simp only [upd, yA, updN]
  split <;> rfl
theorem lA_upd (f : Nat → Nat) (k x : Nat) : vp_updL (lA f) k (lN x) = lA (updN f k x) := by
  funext j
  simp only [vp_updL, lA, updN]
  split <;> rfl
theorem lN_eqB {a b : Nat} (ha : a < 2 ^ 60) (hb : b < 2 ^ 60) : lN a = lN b ↔ a = b := by
  constructor
  · intro h
    have h1 : (lN a).toInt = (a : Int) := lg_ofNat_toInt (by omega)
    have h2 : (lN b).toInt = (b : Int) := lg_ofNat_toInt (by omega)
    rw [h, h2] at h1
    omega
  · intro h; rw [h]
section GROWS
variable {p : Program} {l : Launch} {e : Env} {R : Room} {s : State} {m : MethodId} {args : Array Value} {below : List Frame} {meth : Method} {c : Code} {H : Heap} {locs : List Loc} {cells slots : Nat} {Q : State → Prop}
variable {ws : List Cond} {y : MethodName} {cc : ByteArray} {maxL : Nat} {ret : Option FieldType} {pc : Nat} {ls : Array Slot} {rest : List Value} {g : gC} {w : va_W} {a : Nat}
theorem gStBY {n i : Nat} {f : Nat → Nat} {x : Nat} (F : gF p s m meth c args ws y cc maxL ret) (hG : gU g s) (hW : gW g w H) (q0 : Nat) (ha : w[q0]? = some (a, .inl (g.2.1 3, n, .inl (yA f)))) (hi : i < n) (hn : n < 2 ^ 31) (hS : va_S (gA g) s.heap H locs) (hx : x < 256) {w2 : va_W} (hw2 : w.set q0 (a, .inl (g.2.1 3, n, .inl (yA (updN f i x)))) = w2) (hd : decode cc pc = .ok (.bastore, 1)) (kk : ∀ (H1 : Heap) (locs1 : List Loc), gW g w2 H1 → va_S (gA g) s.heap H1 locs1 → W p l e R s m args below meth c H1 locs1 cells slots Q (F0 m (pc + 1) ls (rest))) : W p l e R s m args below meth c H locs cells slots Q (F0 m pc ls (.int (sB x) :: .int (nI i) :: .ref a :: rest)) :=
  gStB F hG hW q0 ha hi hn hS (sB_nar x hx) (by rw [yA_upd]; exact hw2) hd kk
theorem gStJL {n i : Nat} {f : Nat → Nat} {x : Nat} (F : gF p s m meth c args ws y cc maxL ret) (hG : gU g s) (hW : gW g w H) (q0 : Nat) (ha : w[q0]? = some (a, .inl (g.2.1 2, n, .inr (.inl (lA f))))) (hi : i < n) (hn : n < 2 ^ 31) (hS : va_S (gA g) s.heap H locs) {w2 : va_W} (hw2 : w.set q0 (a, .inl (g.2.1 2, n, .inr (.inl (lA (updN f i x))))) = w2) (hd : decode cc pc = .ok (.lastore, 1)) (kk : ∀ (H1 : Heap) (locs1 : List Loc), gW g w2 H1 → va_S (gA g) s.heap H1 locs1 → W p l e R s m args below meth c H1 locs1 cells slots Q (F0 m (pc + 1) ls (rest))) : W p l e R s m args below meth c H locs cells slots Q (F0 m pc ls (.long (lN x) :: .int (nI i) :: .ref a :: rest)) :=
  gStJ F hG hW q0 ha hi hn hS (by rw [lA_upd]; exact hw2) hd kk
/-- lcmp, then ifeq -/
theorem gLcmp {x y0 : Nat} {off : Int} {tgt : Nat} (F : gF p s m meth c args ws y cc maxL ret) (hx : x < 2 ^ 60) (hy : y0 < 2 ^ 60) (hd : decode cc pc = .ok (.lcmp, 1)) (hd2 : decode cc (pc + 1) = .ok (.ifCond .eq off, 3)) (ht : ((pc + 1 : Nat) : Int) + off = (tgt : Int))
    (kt : x = y0 → W p l e R s m args below meth c H locs cells slots Q (F0 m tgt ls rest)) (kf : ¬ x = y0 → W p l e R s m args below meth c H locs cells slots Q (F0 m (pc + 1 + 3) ls rest)) : W p l e R s m args below meth c H locs cells slots Q (F0 m pc ls (.long (lN y0) :: .long (lN x) :: rest)) := by
  refine W.lcmp F.1 F.2.1 hd ?_
  refine lv_if_eq (tgt := tgt) F.1 F.2.1 hd2 ht (fun h => kt ?_) (fun h => kf ?_)
  · exact (lN_eqB hx hy).mp ((lg_cmp_eq _ _).mp h)
  · exact fun q => h ((lg_cmp_eq _ _).mpr ((lN_eqB hx hy).mpr q))
end GROWS
section GRETL
variable {p : Program} {l : Launch} {e : Env} {R : Room} {s : State} {m : MethodId} {below : List Frame} {meth : Method} {c : Code} {H : Heap} {locs : List Loc} {mc ms : Nat} {as : List Value} {ws : List Cond} {y : MethodName} {cc : ByteArray} {maxL : Nat} {ret : Option FieldType} {pc : Nat} {ls : Array Slot} {g : gC} {w : va_W}
theorem gRl {Q : Int64 → va_W → Prop} {v : Int64} (F : gF p s m meth c as.toArray ws y cc maxL (some .long)) (hW : gW g w H) (hS : va_S (gA g) s.heap H locs) (hd : decode cc pc = .ok (.lreturn, 1)) (hq : Q v w) :
    W p l e R s m as.toArray below meth c H locs mc ms (MQ below (va_Ql Q (fun u t => gW g u t.heap) (gA g)) as.toArray s mc ms (gA g)) (F0 m pc ls [.long v]) :=
  W.lret F.1 F.2.1 F.2.2.1 (fun t ht _ => ⟨⟨v, w, rfl, hq, by show gW g w t.heap; rw [ht]; exact hW⟩, hS.F ht⟩) hS.2.2 hd F.2.2.2.2.2.2.1
end GRETL
/-! ===== bytes of an int ===== -/
theorem byS_key (v : BitVec 32) (s : Nat) (hs : s ≤ 24) : (v.sshiftRight s).signExtend 8 = (BitVec.ofNat 32 (v.toNat / 2 ^ s % 2 ^ 8)).signExtend 8 := by
  rw [BitVec.signExtend_eq_setWidth_of_le _ (by decide), BitVec.signExtend_eq_setWidth_of_le _ (by decide)]
  apply BitVec.eq_of_getLsbD_eq
  intro i hi
  have h1 : s + i < 32 := by omega
  have h2 : i < 32 := by omega
  have h3 : ¬ 32 ≤ i := by omega
  have h4 : (v.toNat / 2 ^ s % 2 ^ 8).testBit i = v.getLsbD (s + i) := by
    rw [Nat.testBit_mod_two_pow, Nat.testBit_div_two_pow, decide_eq_true hi, Bool.true_and, Nat.add_comm]
    rfl
  rw [BitVec.getLsbD_setWidth, BitVec.getLsbD_setWidth, BitVec.getLsbD_sshiftRight, BitVec.getLsbD_ofNat, h4, if_pos h1, decide_eq_true h2, decide_eq_false h3]
  rfl
theorem byS_sB (x : Int32) (k : Nat) (hk : k < 4) : (x >>> (nI 24 - nI 8 * nI k)).toInt8.toInt32 = sB (byS x (24 - 8 * k)) := by
  unfold sB
  refine congrArg Int8.toInt32 ?_
  rcases (show k = 0 ∨ k = 1 ∨ k = 2 ∨ k = 3 by omega) with rfl | rfl | rfl | rfl
  · exact congrArg (fun v => (⟨⟨v⟩⟩ : Int8)) (byS_key x.toBitVec 24 (by decide))
  · exact congrArg (fun v => (⟨⟨v⟩⟩ : Int8)) (byS_key x.toBitVec 16 (by decide))
  · exact congrArg (fun v => (⟨⟨v⟩⟩ : Int8)) (byS_key x.toBitVec 8 (by decide))
  · exact congrArg (fun v => (⟨⟨v⟩⟩ : Int8)) (byS_key x.toBitVec 0 (by decide))
theorem nI_L {n : Nat} (h : n < 2 ^ 31) : (nI n).toInt64 = lN n := by
  apply Int64.toInt_inj.mp
  rw [Int32.toInt_toInt64, nI_toInt h, show (lN n).toInt = (n : Int) from lg_ofNat_toInt (by omega)]
