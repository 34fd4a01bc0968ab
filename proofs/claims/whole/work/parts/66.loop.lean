/-! ===== the law's loop (written by wip/whole/gen/spec12.py) ===== -/
def lwT : List Nat := [156, 229, 254, 267, 280, 317, 340, 377, 390, 403, 440, 465, 521, 577, 602, 627, 664, 677, 690, 715, 752, 777, 802, 815, 840]
set_option maxRecDepth 100000 in
set_option maxHeartbeats 4000000 in
theorem law_disp {p : Program} {l : Launch} {e : Env} {s : State} {m : MethodId} {below : List Frame} {meth : Method} {c : Code} {g : gC} {b L : Nat} {xs : Nat → Int32} {o mo lq i : Nat} (F : gF p s m meth c (#[Value.ref b] : Array Value) wq_law (yL meth) code 7 ret) (hG : gU g s) (hX : va_X b L xs s s.heap) (hbl : b < s.heap.size) (hbA : ¬ gA g b) (hlt : l.stackTraces = false) (hL : L ≤ 3072) (hiL : 6 * i + 6 ≤ L) {w : va_W} (hLR : LR g o mo lq w) {H : Heap} {locs : List Loc} {ls : Array Slot} (hW : gW g w H) (hS : va_S (gA g) s.heap H locs) (hl : lv_has ls 7 [(0, .ref b), (1, .ref o), (2, .ref mo), (3, .ref lq), (4, .int (nI (6 * i)))]) (kk : LK p l e s m below meth c g b o mo lq i) :
    ∀ k t : Nat, lwT[k]? = some t → W p l e room_1 s m (#[Value.ref b] : Array Value) below meth c H locs (82 + i) (20348 + 6 * i) (lw_Z below #[Value.ref b] s) (F0 m t ls []) := by
  revert hW
  refine hLR (fun w => gW g w H → ∀ k t : Nat, lwT[k]? = some t → W p l e room_1 s m (#[Value.ref b] : Array Value) below meth c H locs (82 + i) (20348 + 6 * i) (lw_Z below #[Value.ref b] s) (F0 m t ls [])) ?_
  intro ta rd r0 r1 r2 r3 r4 jn jp sw rt jh js jc kh th tr tq tn tb la a0 a1 a2 a3 a4 a5 lb b0 b1 b2 b3 b4 b5 cu pk po pm sq qk qo qm tl lf lt sz n n2 inp fP jf kp g5 g6 g7 g8 g9 g10 g11 t1 t2 t3 t4 hr pn en st sp ht hi oc pl fk tc u6 u7 u8 u9 u10 u11 u12 u13 u14 u15 u16 tp tx ms me gS gE co ro le rn dn fw trl dn2 fw2 trl2 kd vl kd2 vl2 Pj sec be mk mk2 nu ce ou nu2 ce2 ou2 bo mpk mpv mpl mpa mpt mpm mpi mqk mqv mql mqa mqt mqm mqi y0 wh y4 y5 is6 y7 y8 y10 y11 y12 y13 y14 y15 y16 y17 y20 y21 y22 y23 y24 y25 y26 y27 y28 y29 y30 y31 y32 y33 y34 y35 y36 y39 y47 y48 y49 y50 y51 y52 y54 mm1 n3 mm3 sk spl sv0 sv1 sv2 sv3 sv4 sv5 kdm vlm plm mam tgm mwm kd3 vl3 pl3 ma3 tg3 mw3 mkm mk3 secm spm num cem oum cnm lem rom wrm nvm rnu rou sam ol htl htp hx0 hsz hP hg hak hav ham his hwh hlt5 hbo hro hF hpn hrn hru hht hoc hr0 hW k t hk
  match k, hk with
  | 0, hk =>
    cases hk
    exact law_feed F hG hX hbl hbA hlt hL hiL htl htp hx0 hsz hP hg hak hav ham his hwh hlt5 hbo hro hF hpn hrn hru hht hoc hr0 hW hS hl kk
  | 1, hk =>
    cases hk
    exact law_program F hG hX hbl hbA hlt hL hiL htl htp hx0 hsz hP hg hak hav ham his hwh hlt5 hbo hro hF hpn hrn hru hht hoc hr0 hW hS hl kk
  | 2, hk =>
    cases hk
    exact law_fault F hG hX hbl hbA hlt hL hiL htl htp hx0 hsz hP hg hak hav ham his hwh hlt5 hbo hro hF hpn hrn hru hht hoc hr0 hW hS hl kk
  | 3, hk =>
    cases hk
    exact law_where F hG hX hbl hbA hlt hL hiL htl htp hx0 hsz hP hg hak hav ham his hwh hlt5 hbo hro hF hpn hrn hru hht hoc hr0 hW hS hl kk
  | 4, hk =>
    cases hk
    exact law_order F hG hX hbl hbA hlt hL hiL htl htp hx0 hsz hP hg hak hav ham his hwh hlt5 hbo hro hF hpn hrn hru hht hoc hr0 hW hS hl kk
  | 5, hk =>
    cases hk
    exact law_input F hG hX hbl hbA hlt hL hiL htl htp hx0 hsz hP hg hak hav ham his hwh hlt5 hbo hro hF hpn hrn hru hht hoc hr0 hW hS hl kk
  | 6, hk =>
    cases hk
    exact law_join F hG hX hbl hbA hlt hL hiL htl htp hx0 hsz hP hg hak hav ham his hwh hlt5 hbo hro hF hpn hrn hru hht hoc hr0 hW hS hl kk
  | 7, hk =>
    cases hk
    exact law_part F hG hX hbl hbA hlt hL hiL htl htp hx0 hsz hP hg hak hav ham his hwh hlt5 hbo hro hF hpn hrn hru hht hoc hr0 hW hS hl kk
  | 8, hk =>
    cases hk
    exact law_joined F hG hX hbl hbA hlt hL hiL htl htp hx0 hsz hP hg hak hav ham his hwh hlt5 hbo hro hF hpn hrn hru hht hoc hr0 hW hS hl kk
  | 9, hk =>
    cases hk
    exact law_run F hG hX hbl hbA hlt hL hiL htl htp hx0 hsz hP hg hak hav ham his hwh hlt5 hbo hro hF hpn hrn hru hht hoc hr0 hW hS hl kk
  | 10, hk =>
    cases hk
    exact law_told F hG hX hbl hbA hlt hL hiL htl htp hx0 hsz hP hg hak hav ham his hwh hlt5 hbo hro hF hpn hrn hru hht hoc hr0 hW hS hl kk
  | 11, hk =>
    cases hk
    exact law_out F hG hX hbl hbA hlt hL hiL htl htp hx0 hsz hP hg hak hav ham his hwh hlt5 hbo hro hF hpn hrn hru hht hoc hr0 hW hS hl kk
  | 12, hk =>
    cases hk
    exact law_pile F hG hX hbl hbA hlt hL hiL htl htp hx0 hsz hP hg hak hav ham his hwh hlt5 hbo hro hF hpn hrn hru hht hoc hr0 hW hS hl kk
  | 13, hk =>
    cases hk
    exact law_cell F hG hX hbl hbA hlt hL hiL htl htp hx0 hsz hP hg hak hav ham his hwh hlt5 hbo hro hF hpn hrn hru hht hoc hr0 hW hS hl kk
  | 14, hk =>
    cases hk
    exact law_did F hG hX hbl hbA hlt hL hiL htl htp hx0 hsz hP hg hak hav ham his hwh hlt5 hbo hro hF hpn hrn hru hht hoc hr0 hW hS hl kk
  | 15, hk =>
    cases hk
    exact law_follows F hG hX hbl hbA hlt hL hiL htl htp hx0 hsz hP hg hak hav ham his hwh hlt5 hbo hro hF hpn hrn hru hht hoc hr0 hW hS hl kk
  | 16, hk =>
    cases hk
    exact law_most F hG hX hbl hbA hlt hL hiL htl htp hx0 hsz hP hg hak hav ham his hwh hlt5 hbo hro hF hpn hrn hru hht hoc hr0 hW hS hl kk
  | 17, hk =>
    cases hk
    exact law_traces F hG hX hbl hbA hlt hL hiL htl htp hx0 hsz hP hg hak hav ham his hwh hlt5 hbo hro hF hpn hrn hru hht hoc hr0 hW hS hl kk
  | 18, hk =>
    cases hk
    exact law_trace F hG hX hbl hbA hlt hL hiL htl htp hx0 hsz hP hg hak hav ham his hwh hlt5 hbo hro hF hpn hrn hru hht hoc hr0 hW hS hl kk
  | 19, hk =>
    cases hk
    exact law_cost F hG hX hbl hbA hlt hL hiL htl htp hx0 hsz hP hg hak hav ham his hwh hlt5 hbo hro hF hpn hrn hru hht hoc hr0 hW hS hl kk
  | 20, hk =>
    cases hk
    exact law_cheapest F hG hX hbl hbA hlt hL hiL htl htp hx0 hsz hP hg hak hav ham his hwh hlt5 hbo hro hF hpn hrn hru hht hoc hr0 hW hS hl kk
  | 21, hk =>
    cases hk
    exact law_gain F hG hX hbl hbA hlt hL hiL htl htp hx0 hsz hP hg hak hav ham his hwh hlt5 hbo hro hF hpn hrn hru hht hoc hr0 hW hS hl kk
  | 22, hk =>
    cases hk
    exact law_better F hG hX hbl hbA hlt hL hiL htl htp hx0 hsz hP hg hak hav ham his hwh hlt5 hbo hro hF hpn hrn hru hht hoc hr0 hW hS hl kk
  | 23, hk =>
    cases hk
    exact law_count F hG hX hbl hbA hlt hL hiL htl htp hx0 hsz hP hg hak hav ham his hwh hlt5 hbo hro hF hpn hrn hru hht hoc hr0 hW hS hl kk
  | 24, hk =>
    cases hk
    exact law_trouble F hG hX hbl hbA hlt hL hiL htl htp hx0 hsz hP hg hak hav ham his hwh hlt5 hbo hro hF hpn hrn hru hht hoc hr0 hW hS hl kk
  | k + 25, hk =>
    rw [List.getElem?_eq_none (show lwT.length ≤ k + 25 from Nat.le_add_left 25 k)] at hk
    cases hk
theorem lw_le {L i : Nat} (hL : L ≤ 3072) (hi : 6 * i ≤ L) (h : ¬ nI L - nI 6 < nI (6 * i)) : 6 * i + 6 ≤ L := by
  by_cases h6 : 6 ≤ L
  · rw [nI_sub h6] at h
    have h1 : ¬ L - 6 < 6 * i := fun q => h (nI_lt q (by omega))
    omega
  · exfalso
    have hi0 : i = 0 := by omega
    subst hi0
    refine h ?_
    match L, h6 with
    | 0, _ => decide +kernel
    | 1, _ => decide +kernel
    | 2, _ => decide +kernel
    | 3, _ => decide +kernel
    | 4, _ => decide +kernel
    | 5, _ => decide +kernel
    | n + 6, h6 => exact absurd (Nat.le_add_left 6 n) h6
theorem lw_ti {k : Nat} (hk : k < 25) : ¬ (nI k).toInt < 0 ∧ ¬ (24 : Int) < (nI k).toInt ∧ ((nI k).toInt - 0).toNat = k := by
  have h : (nI k).toInt = (k : Int) := nI_toInt (by omega)
  omega
theorem lw_to {k : Nat} (hk : k < 32) (h25 : ¬ k < 25) : (nI k).toInt < 0 ∨ (24 : Int) < (nI k).toInt := by
  have h : (nI k).toInt = (k : Int) := nI_toInt (by omega)
  omega
set_option maxRecDepth 100000 in
set_option maxHeartbeats 4000000 in
theorem law_loop {p : Program} {l : Launch} {e : Env} {s : State} {m : MethodId} {below : List Frame} {meth : Method} {c : Code} {g : gC} {b L : Nat} {xs : Nat → Int32} {o mo lq : Nat} (F : gF p s m meth c (#[Value.ref b] : Array Value) wq_law (yL meth) code 7 ret) (hG : gU g s) (hX : va_X b L xs s s.heap) (hbl : b < s.heap.size) (hbA : ¬ gA g b) (hlt : l.stackTraces = false) (hL : L ≤ 3072) (hA0 : ∀ a, gA g a → s.heap.size ≤ a) : ∀ (d i : Nat), L + 6 - 6 * i ≤ d → 6 * i ≤ L → ∀ (w : va_W) (H : Heap) (locs : List Loc) (ls : Array Slot), LR g o mo lq w → gW g w H → va_S (gA g) s.heap H locs → lv_has ls 7 [(0, .ref b), (1, .ref o), (2, .ref mo), (3, .ref lq), (4, .int (nI (6 * i)))] → W p l e room_1 s m (#[Value.ref b] : Array Value) below meth c H locs (82 + i) (20348 + 6 * i) (lw_Z below #[Value.ref b] s) (F0 m 23 ls []) := by
  intro d
  induction d with
  | zero =>
    intro i h1 h2
    exfalso
    omega
  | succ d ih =>
    intro i h1 h2 w H locs ls hLR hW hS hl
    refine lv_iload F.1 F.2.1 dL_law_23 (lv_at hl 4 rfl) ?_
    refine lv_aload_n F.1 F.2.1 dL_law_25 rfl (lv_at hl 0 rfl) ?_
    refine va_slen F.1 F.2.1 hX hbl hbA hS dL_law_26 ?_
    refine lv_bipush (v := nI 6) F.1 F.2.1 dL_law_27 (by decide) ?_
    refine lv_isub F.1 F.2.1 dL_law_29 ?_
    refine lv_icmp_gt (tgt := 859) F.1 F.2.1 dL_law_30 (by decide) (fun _ => ?_) (fun hc => ?_)
    · refine lv_iconst (v := 1) F.1 F.2.1 dL_law_859 rfl ?_
      refine va_forget (fun q hq => hA0 _ (hS.2.2 q hq)) ?_
      refine gWiden (k := 1108) (n := 28552) (by omega) (by omega) ?_
      exact lw_ret F.1 F.2.1 F.2.2.1 F.2.2.2.2.2.2.1 dL_law_860
    · have hiL : 6 * i + 6 ≤ L := lw_le hL h2 hc
      have hk9 : LK p l e s m below meth c g b o mo lq i := by
        intro w' H1 locs1 ls1 hLR1 hW1 hS1 hl1
        refine lv_iinc (v := nI (6 * (i + 1))) (lv' := [(4, .int (nI (6 * (i + 1)))), (0, .ref b), (1, .ref o), (2, .ref mo), (3, .ref lq)]) F.1 F.2.1 dL_law_853 hl1 (k := 4) rfl ((nI_add (6 * i) 6).trans (congrArg nI (by omega))) (by decide) rfl (fun ls hl => ?_)
        refine lv_goto (tgt := 23) F.1 F.2.1 dL_law_856 (by decide) ?_
        exact ih (i + 1) (by omega) (by omega) _ _ _ _ hLR1 hW1 hS1 (lv_sub hl [1, 2, 3, 4, 0] rfl)
      refine lv_aload_n F.1 F.2.1 dL_law_33 rfl (lv_at hl 0 rfl) ?_
      refine lv_iload F.1 F.2.1 dL_law_34 (lv_at hl 4 rfl) ?_
      refine gScr F hX hbl hbA hS (by omega) (by omega) dL_law_36 ?_
      refine lv_bipush (v := nI 31) F.1 F.2.1 dL_law_37 (by decide) ?_
      refine lv_iand F.1 F.2.1 dL_law_39 ?_
      obtain ⟨k, hk, hke⟩ := pk_andE (xs (6 * i)) (m := nI 31) 5 (by decide)
      rw [hke]
      by_cases h25 : k < 25
      · obtain ⟨t, ht⟩ : ∃ t, lwT[k]? = some t := ⟨_, List.getElem?_eq_getElem (show k < lwT.length from h25)⟩
        have hj : ∃ off : Int, (#[116, 189, 214, 227, 240, 277, 300, 337, 350, 363, 400, 425, 481, 537, 562, 587, 624, 637, 650, 675, 712, 737, 762, 775, 800] : Array Int)[((nI k).toInt - 0).toNat]? = some off ∧ ((40 : Nat) : Int) + off = (t : Int) := by
          rw [(lw_ti h25).2.2]
          have hall : ∀ k : Nat, k < 25 → ∀ t, lwT[k]? = some t → ∃ off : Int, (#[116, 189, 214, 227, 240, 277, 300, 337, 350, 363, 400, 425, 481, 537, 562, 587, 624, 637, 650, 675, 712, 737, 762, 775, 800] : Array Int)[k]? = some off ∧ ((40 : Nat) : Int) + off = (t : Int) := by
            intro k hk t ht
            match k, hk, ht with
            | 0, _, ht => cases ht; exact ⟨116, rfl, rfl⟩
            | 1, _, ht => cases ht; exact ⟨189, rfl, rfl⟩
            | 2, _, ht => cases ht; exact ⟨214, rfl, rfl⟩
            | 3, _, ht => cases ht; exact ⟨227, rfl, rfl⟩
            | 4, _, ht => cases ht; exact ⟨240, rfl, rfl⟩
            | 5, _, ht => cases ht; exact ⟨277, rfl, rfl⟩
            | 6, _, ht => cases ht; exact ⟨300, rfl, rfl⟩
            | 7, _, ht => cases ht; exact ⟨337, rfl, rfl⟩
            | 8, _, ht => cases ht; exact ⟨350, rfl, rfl⟩
            | 9, _, ht => cases ht; exact ⟨363, rfl, rfl⟩
            | 10, _, ht => cases ht; exact ⟨400, rfl, rfl⟩
            | 11, _, ht => cases ht; exact ⟨425, rfl, rfl⟩
            | 12, _, ht => cases ht; exact ⟨481, rfl, rfl⟩
            | 13, _, ht => cases ht; exact ⟨537, rfl, rfl⟩
            | 14, _, ht => cases ht; exact ⟨562, rfl, rfl⟩
            | 15, _, ht => cases ht; exact ⟨587, rfl, rfl⟩
            | 16, _, ht => cases ht; exact ⟨624, rfl, rfl⟩
            | 17, _, ht => cases ht; exact ⟨637, rfl, rfl⟩
            | 18, _, ht => cases ht; exact ⟨650, rfl, rfl⟩
            | 19, _, ht => cases ht; exact ⟨675, rfl, rfl⟩
            | 20, _, ht => cases ht; exact ⟨712, rfl, rfl⟩
            | 21, _, ht => cases ht; exact ⟨737, rfl, rfl⟩
            | 22, _, ht => cases ht; exact ⟨762, rfl, rfl⟩
            | 23, _, ht => cases ht; exact ⟨775, rfl, rfl⟩
            | 24, _, ht => cases ht; exact ⟨800, rfl, rfl⟩
            | k + 25, hk, _ => exact absurd hk (by omega)
          exact hall k h25 t ht
        obtain ⟨off, ho, hto⟩ := hj
        refine lv_tableIn (tgt := t) F.1 F.2.1 dL_law_40 (lw_ti h25).1 (lw_ti h25).2.1 ho hto ?_
        exact law_disp F hG hX hbl hbA hlt hL hiL hLR hW hS hl hk9 k t ht
      · refine lv_tableOut (tgt := 853) F.1 F.2.1 dL_law_40 (lw_to hk h25) (by decide) ?_
        refine gWiden (k := 82 + (i + 1)) (n := 20348 + 6 * (i + 1)) (by omega) (by omega) ?_
        exact hk9 _ _ _ _ hLR hW hS hl

