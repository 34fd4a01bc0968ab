/-! ===== leaves of the class (written by wip/whole/gen/spec1.py) ===== -/
def oI (o : Option Nat) : Int32 := match o with | none => -1 | some k => nI k
def isK (x : Int32) : Bool := decide (¬ x < 0) && decide (x < 15)
def outUp (ou : Nat → Int32) (oc : Nat) (x : Int32) : Nat → Int32 := if oc < 60 then upd ou oc x else ou
def folUp (fw : Nat → Nat) (fo : Option Nat) (k : Nat) : Nat → Nat := match fo with | none => fw | some j => updN fw (j * 15 + k) (fw (j * 15 + k) + 1)
theorem isK_n {k : Nat} (h : k < 15) : isK (nI k) = true := by
  have h1 : ¬ nI k < 0 := nI_pos (by omega)
  have h2 : nI k < 15 := nI_lt (b := 15) h (by decide)
  simp [isK, h1, h2]
theorem isK_m : isK (-1) = false := by decide
/-- below its length an array is all that counts -/
theorem arr_ext {cA n : Nat} {f f' : Nat → Int32} (h : ∀ j, j < n → f j = f' j) : vp_cell cA (n, .inl f) = vp_cell cA (n, .inl f') := by
  show arrV cA n (fun j => .int (f j)) = arrV cA n (fun j => .int (f' j))
  unfold arrV
  congr 1
  first
    | (apply Array.ext
       · simp
       · intro i h1 h2
         simp at h1
         simp [h i h1])
    | (apply congrArg
       apply List.map_congr_left
       intro j hj
       rw [h j (List.mem_range.mp hj)])
theorem gW.arr {g : gC} {w w' : va_W} {H : Heap} {a t n : Nat} {f f' : Nat → Int32} (h : gW g w H) (q0 : Nat) (he : w[q0]? = some (a, .inl (g.2.1 t, n, .inl f))) (hf : ∀ j, j < n → f j = f' j) (hw : w.set q0 (a, .inl (g.2.1 t, n, .inl f')) = w') : gW g w' H := by
  subst hw
  refine ⟨fun k q hk => ?_, h.2.set he⟩
  rw [List.getElem?_set] at hk
  split at hk
  · next e =>
    split at hk
    · cases hk
      have h1 := h.1 q0 _ he
      show H[a]? = some (vp_cell _ _)
      rw [← arr_ext hf]
      exact h1
    · cases hk
  · exact h.1 k q hk

