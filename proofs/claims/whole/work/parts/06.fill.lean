theorem arrV_eq {cA : ClassId} {n : Nat} {f f2 : Nat → Value} (h : ∀ j, j < n → f j = f2 j) : arrV cA n f = arrV cA n f2 := by
  unfold arrV
  congr 1
  exact congrArg Array.ofFn (funext fun j => h j.val j.isLt)
theorem cell_i {D : va_G} {cl : List vw_C} {h0 : Nat} {cA : ClassId} {n : Nat} {f f2 : Nat → Int32} {H : Heap} (h : ∀ j, j < n → f j = f2 j) (hP : va_P D cl [(h0, .inl (cA, n, .inl f))] H) : va_P D cl [(h0, .inl (cA, n, .inl f2))] H := by
  intro k q hq
  have h0 : k < 1 := (List.getElem?_eq_some_iff.mp hq).1
  rw [show k = 0 by omega] at hq
  cases hq
  have := hP 0 _ rfl
  show H[_]? = some (arrV cA n (fun j => .int (f2 j)))
  rw [← arrV_eq (fun j hj => congrArg Value.int (h j hj))]
  exact this
theorem cell_l {D : va_G} {cl : List vw_C} {h0 : Nat} {cA : ClassId} {n : Nat} {f f2 : Nat → Int64} {H : Heap} (h : ∀ j, j < n → f j = f2 j) (hP : va_P D cl [(h0, .inl (cA, n, .inr (.inl f)))] H) : va_P D cl [(h0, .inl (cA, n, .inr (.inl f2)))] H := by
  intro k q hq
  have h0 : k < 1 := (List.getElem?_eq_some_iff.mp hq).1
  rw [show k = 0 by omega] at hq
  cases hq
  have := hP 0 _ rfl
  show H[_]? = some (arrV cA n (fun j => .long (f2 j)))
  rw [← arrV_eq (fun j hj => congrArg Value.long (h j hj))]
  exact this
theorem one_D {A : Nat → Prop} {h0 : Nat} {e1 e2 : va_E} (h : va_D A [(h0, e1)]) : va_D A [(h0, e2)] := by
  refine ⟨fun i j p q hi hj _ => ?_, fun k q hq => ?_⟩
  · have h1 : i < 1 := (List.getElem?_eq_some_iff.mp hi).1
    have h2 : j < 1 := (List.getElem?_eq_some_iff.mp hj).1
    omega
  · have h1 : k < 1 := (List.getElem?_eq_some_iff.mp hq).1
    rw [show k = 0 by omega] at hq
    cases hq
    exact h.2 0 (h0, e1) rfl
set_option maxHeartbeats 4000000 in
set_option maxRecDepth 100000 in
theorem k_fillI (l : Launch) (D : va_G) (g : Nat → ClassId) (z0 sz : Nat) (h0 n : Nat) (f : Nat → Int32) (v : Int32) (hn : n < 2 ^ 31) : Met l yJ7_fill_53178 (.code yJ7_fill_53178 cJ7_fill_53178 4 none :: TG) (rmk 0 0 0 0) (va_Pc [.ref h0, .int v] (PP D g z0 sz [(h0, .inl (g 0, n, .inl (f)))])) (va_Qv (fun (_ : Unit) => True) (fun (_ : Unit) (t : State) => va_P D vwCl [(h0, .inl (g 0, n, .inl (fun _ => v)))] t.heap ∧ va_D (va_A [(h0, .inl (g 0, n, .inl (f)))] sz) [(h0, .inl (g 0, n, .inl (fun _ => v)))]) (va_A [(h0, .inl (g 0, n, .inl (f)))] sz)) 0 0 (va_A [(h0, .inl (g 0, n, .inl (f)))] sz) := by
  refine met0 (cc := cJ7_fill_53178) (n := 4) (by decide) (Nat.le_of_ble_eq_true rfl) ?_
  intro p e s m args below meth c hx hb hr hml hown ht hlocks hnm hP0 hD0 hK hZ hsz hz ls hl
  subst hsz
  have hS : va_S (va_A [(h0, .inl (g 0, n, .inl (f)))] s.heap.size) s.heap s.heap [] := va_S.rf
  have hD : va_D (va_A [(h0, .inl (g 0, n, .inl (f)))] s.heap.size) [(h0, .inl (g 0, n, .inl (f)))] := hD0.self
  have hP : va_P D vwCl [(h0, .inl (g 0, n, .inl (f)))] s.heap := hP0
  have hl : lv_has ls 4 [(0, .ref h0), (1, .int v)] := hl
  have loop : ∀ (k i : Nat), n = i + k → ∀ (H : Heap) (locs : List Loc), va_P D vwCl [(h0, .inl (g 0, n, .inl (fun j => if j < i then v else f j)))] H → va_D (va_A [(h0, .inl (g 0, n, .inl (f)))] s.heap.size) [(h0, .inl (g 0, n, .inl (fun j => if j < i then v else f j)))] → va_S (va_A [(h0, .inl (g 0, n, .inl (f)))] s.heap.size) s.heap H locs → ∀ (ls : Array Slot), lv_has ls 4 [(3, .int (nI n)), (2, .int (nI i)), (0, .ref h0), (1, .int v)] →
      W p l e (rmk 0 0 0 0) s m args below meth c H locs 0 0 (MQ below (va_Qv (fun (_ : Unit) => True) (fun (_ : Unit) (t : State) => va_P D vwCl [(h0, .inl (g 0, n, .inl (fun _ => v)))] t.heap ∧ va_D (va_A [(h0, .inl (g 0, n, .inl (f)))] s.heap.size) [(h0, .inl (g 0, n, .inl (fun _ => v)))]) (va_A [(h0, .inl (g 0, n, .inl (f)))] s.heap.size)) args s 0 0 (va_A [(h0, .inl (g 0, n, .inl (f)))] s.heap.size)) (F0 m 5 ls []) := by
    intro k
    induction k with
    | zero =>
      intro i hi H locs hP hD hS ls hl
      have hi : i = n := by omega
      subst hi
      refine lv_iload_n hx hb dJ7_fill_53178_5 rfl (lv_at hl 1 rfl) ?_
      refine lv_iload_n hx hb dJ7_fill_53178_6 rfl (lv_at hl 0 rfl) ?_
      refine lv_icmp_ge (tgt := 20) hx hb dJ7_fill_53178_7 (by decide) (fun c_1 => ?_) (fun c_1 => absurd (nI_le (Nat.le_refl _) hn) c_1)
      have hP9 := cell_i (f2 := fun _ => v) (fun j hj => if_pos hj) hP
      have hD9 : va_D (va_A [(h0, .inl (g 0, i, .inl (f)))] s.heap.size) [(h0, .inl (g 0, i, .inl (fun _ => v)))] := one_D hD
      exact W.vret hx hb hr (fun t ht9 hW9 => ⟨⟨(), rfl, trivial, (by rw [ht9]; exact hP9), hD9⟩, hS.F ht9⟩) hS.2.2 dJ7_fill_53178_20 hlocks
    | succ k ih =>
      intro i hi H locs hP hD hS ls hl
      have hlt : i < n := by omega
      refine lv_iload_n hx hb dJ7_fill_53178_5 rfl (lv_at hl 1 rfl) ?_
      refine lv_iload_n hx hb dJ7_fill_53178_6 rfl (lv_at hl 0 rfl) ?_
      refine lv_icmp_ge (tgt := 20) hx hb dJ7_fill_53178_7 (by decide) (fun c_1 => absurd c_1 (nI_ge hlt hn)) (fun c_1 => ?_)
      refine lv_aload_n hx hb dJ7_fill_53178_10 rfl (lv_at hl 2 rfl) ?_
      refine lv_iload_n hx hb dJ7_fill_53178_11 rfl (lv_at hl 1 rfl) ?_
      refine lv_iload_n hx hb dJ7_fill_53178_12 rfl (lv_at hl 3 rfl) ?_
      refine va_iast hx hb hK.1 hP hD hS 0 0 rfl rfl (vp_in_nI hlt hn) dJ7_fill_53178_13 (fun H locs hP hD hS => ?_)
      have ef : upd (fun j => if j < i then v else f j) (nI i).toNatClampNeg v = fun j => if j < i + 1 then v else f j := by
        funext j
        rw [nI_clamp (Nat.lt_trans hlt hn)]
        skip
        unfold upd
        by_cases h1 : j = i
        · subst h1
          rw [if_pos rfl, if_pos (by omega)]
        · rw [if_neg h1]
          show (if j < i then v else f j) = _
          by_cases h2 : j < i
          · rw [if_pos h2, if_pos (by omega)]
          · rw [if_neg h2, if_neg (by omega)]
      have hP : va_P D vwCl [(h0, .inl (g 0, n, .inl (fun j => if j < i + 1 then v else f j)))] H := by rw [← ef]; exact hP
      have hD : va_D (va_A [(h0, .inl (g 0, n, .inl (f)))] s.heap.size) [(h0, .inl (g 0, n, .inl (fun j => if j < i + 1 then v else f j)))] := by rw [← ef]; exact hD
      refine lv_iinc (v := nI (i + 1)) (lv' := [(2, .int (nI (i + 1))), (3, .int (nI n)), (0, .ref h0), (1, .int v)]) hx hb dJ7_fill_53178_14 hl (k := 1) rfl (nI_1 i) (by decide) rfl (fun ls hl => ?_)
      refine lv_goto (tgt := 5) hx hb dJ7_fill_53178_17 (by decide) ?_
      exact ih (i + 1) (by omega) H locs hP hD hS ls (lv_sub hl [1, 0, 2, 3] rfl)
  refine lv_iconst (v := 0) hx hb dJ7_fill_53178_0 (by decide) ?_
  refine lv_istore_n (lv' := [(2, .int 0), (0, .ref h0), (1, .int v)]) hx hb dJ7_fill_53178_1 rfl hl (by decide) rfl (fun ls hl => ?_)
  refine lv_aload_n hx hb dJ7_fill_53178_2 rfl (lv_at hl 1 rfl) ?_
  refine va_alen (v := nI n) hx hb hK.1 hP 0 rfl (t0 := 0) rfl rfl dJ7_fill_53178_3 ?_
  refine lv_istore_n (lv' := [(3, .int (nI n)), (2, .int 0), (0, .ref h0), (1, .int v)]) hx hb dJ7_fill_53178_4 rfl hl (by decide) rfl (fun ls hl => ?_)
  have e0 : (fun j => if j < 0 then v else f j) = f := by funext j; rw [if_neg (Nat.not_lt_zero j)]
  exact loop n 0 (by omega) s.heap [] (by rw [e0]; exact hP) (by rw [e0]; exact hD) hS ls hl
set_option maxHeartbeats 4000000 in
set_option maxRecDepth 100000 in
theorem k_fillZ (l : Launch) (D : va_G) (g : Nat → ClassId) (z0 sz : Nat) (h0 n : Nat) (f : Nat → Int32) (v : Int32) (hn : n < 2 ^ 31) (hv : vp_nar .boolean v = v) : Met l yJ7_fill_49daa (.code yJ7_fill_49daa cJ7_fill_49daa 4 none :: TG) (rmk 0 0 0 0) (va_Pc [.ref h0, .int v] (PP D g z0 sz [(h0, .inl (g 3, n, .inl (f)))])) (va_Qv (fun (_ : Unit) => True) (fun (_ : Unit) (t : State) => va_P D vwCl [(h0, .inl (g 3, n, .inl (fun _ => v)))] t.heap ∧ va_D (va_A [(h0, .inl (g 3, n, .inl (f)))] sz) [(h0, .inl (g 3, n, .inl (fun _ => v)))]) (va_A [(h0, .inl (g 3, n, .inl (f)))] sz)) 0 0 (va_A [(h0, .inl (g 3, n, .inl (f)))] sz) := by
  refine met0 (cc := cJ7_fill_49daa) (n := 4) (by decide) (Nat.le_of_ble_eq_true rfl) ?_
  intro p e s m args below meth c hx hb hr hml hown ht hlocks hnm hP0 hD0 hK hZ hsz hz ls hl
  subst hsz
  have hS : va_S (va_A [(h0, .inl (g 3, n, .inl (f)))] s.heap.size) s.heap s.heap [] := va_S.rf
  have hD : va_D (va_A [(h0, .inl (g 3, n, .inl (f)))] s.heap.size) [(h0, .inl (g 3, n, .inl (f)))] := hD0.self
  have hP : va_P D vwCl [(h0, .inl (g 3, n, .inl (f)))] s.heap := hP0
  have hl : lv_has ls 4 [(0, .ref h0), (1, .int v)] := hl
  have loop : ∀ (k i : Nat), n = i + k → ∀ (H : Heap) (locs : List Loc), va_P D vwCl [(h0, .inl (g 3, n, .inl (fun j => if j < i then v else f j)))] H → va_D (va_A [(h0, .inl (g 3, n, .inl (f)))] s.heap.size) [(h0, .inl (g 3, n, .inl (fun j => if j < i then v else f j)))] → va_S (va_A [(h0, .inl (g 3, n, .inl (f)))] s.heap.size) s.heap H locs → ∀ (ls : Array Slot), lv_has ls 4 [(3, .int (nI n)), (2, .int (nI i)), (0, .ref h0), (1, .int v)] →
      W p l e (rmk 0 0 0 0) s m args below meth c H locs 0 0 (MQ below (va_Qv (fun (_ : Unit) => True) (fun (_ : Unit) (t : State) => va_P D vwCl [(h0, .inl (g 3, n, .inl (fun _ => v)))] t.heap ∧ va_D (va_A [(h0, .inl (g 3, n, .inl (f)))] s.heap.size) [(h0, .inl (g 3, n, .inl (fun _ => v)))]) (va_A [(h0, .inl (g 3, n, .inl (f)))] s.heap.size)) args s 0 0 (va_A [(h0, .inl (g 3, n, .inl (f)))] s.heap.size)) (F0 m 5 ls []) := by
    intro k
    induction k with
    | zero =>
      intro i hi H locs hP hD hS ls hl
      have hi : i = n := by omega
      subst hi
      refine lv_iload_n hx hb dJ7_fill_49daa_5 rfl (lv_at hl 1 rfl) ?_
      refine lv_iload_n hx hb dJ7_fill_49daa_6 rfl (lv_at hl 0 rfl) ?_
      refine lv_icmp_ge (tgt := 20) hx hb dJ7_fill_49daa_7 (by decide) (fun c_1 => ?_) (fun c_1 => absurd (nI_le (Nat.le_refl _) hn) c_1)
      have hP9 := cell_i (f2 := fun _ => v) (fun j hj => if_pos hj) hP
      have hD9 : va_D (va_A [(h0, .inl (g 3, i, .inl (f)))] s.heap.size) [(h0, .inl (g 3, i, .inl (fun _ => v)))] := one_D hD
      exact W.vret hx hb hr (fun t ht9 hW9 => ⟨⟨(), rfl, trivial, (by rw [ht9]; exact hP9), hD9⟩, hS.F ht9⟩) hS.2.2 dJ7_fill_49daa_20 hlocks
    | succ k ih =>
      intro i hi H locs hP hD hS ls hl
      have hlt : i < n := by omega
      refine lv_iload_n hx hb dJ7_fill_49daa_5 rfl (lv_at hl 1 rfl) ?_
      refine lv_iload_n hx hb dJ7_fill_49daa_6 rfl (lv_at hl 0 rfl) ?_
      refine lv_icmp_ge (tgt := 20) hx hb dJ7_fill_49daa_7 (by decide) (fun c_1 => absurd c_1 (nI_ge hlt hn)) (fun c_1 => ?_)
      refine lv_aload_n hx hb dJ7_fill_49daa_10 rfl (lv_at hl 2 rfl) ?_
      refine lv_iload_n hx hb dJ7_fill_49daa_11 rfl (lv_at hl 1 rfl) ?_
      refine lv_iload_n hx hb dJ7_fill_49daa_12 rfl (lv_at hl 3 rfl) ?_
      refine va_zast hx hb hK.1 hP hD hS 0 3 rfl rfl (vp_in_nI hlt hn) dJ7_fill_49daa_13 (fun H locs hP hD hS => ?_)
      have ef : upd (fun j => if j < i then v else f j) (nI i).toNatClampNeg (vp_nar .boolean v) = fun j => if j < i + 1 then v else f j := by
        funext j
        rw [nI_clamp (Nat.lt_trans hlt hn)]
        rw [hv]
        unfold upd
        by_cases h1 : j = i
        · subst h1
          rw [if_pos rfl, if_pos (by omega)]
        · rw [if_neg h1]
          show (if j < i then v else f j) = _
          by_cases h2 : j < i
          · rw [if_pos h2, if_pos (by omega)]
          · rw [if_neg h2, if_neg (by omega)]
      have hP : va_P D vwCl [(h0, .inl (g 3, n, .inl (fun j => if j < i + 1 then v else f j)))] H := by rw [← ef]; exact hP
      have hD : va_D (va_A [(h0, .inl (g 3, n, .inl (f)))] s.heap.size) [(h0, .inl (g 3, n, .inl (fun j => if j < i + 1 then v else f j)))] := by rw [← ef]; exact hD
      refine lv_iinc (v := nI (i + 1)) (lv' := [(2, .int (nI (i + 1))), (3, .int (nI n)), (0, .ref h0), (1, .int v)]) hx hb dJ7_fill_49daa_14 hl (k := 1) rfl (nI_1 i) (by decide) rfl (fun ls hl => ?_)
      refine lv_goto (tgt := 5) hx hb dJ7_fill_49daa_17 (by decide) ?_
      exact ih (i + 1) (by omega) H locs hP hD hS ls (lv_sub hl [1, 0, 2, 3] rfl)
  refine lv_iconst (v := 0) hx hb dJ7_fill_49daa_0 (by decide) ?_
  refine lv_istore_n (lv' := [(2, .int 0), (0, .ref h0), (1, .int v)]) hx hb dJ7_fill_49daa_1 rfl hl (by decide) rfl (fun ls hl => ?_)
  refine lv_aload_n hx hb dJ7_fill_49daa_2 rfl (lv_at hl 1 rfl) ?_
  refine va_alen (v := nI n) hx hb hK.1 hP 0 rfl (t0 := 3) rfl rfl dJ7_fill_49daa_3 ?_
  refine lv_istore_n (lv' := [(3, .int (nI n)), (2, .int 0), (0, .ref h0), (1, .int v)]) hx hb dJ7_fill_49daa_4 rfl hl (by decide) rfl (fun ls hl => ?_)
  have e0 : (fun j => if j < 0 then v else f j) = f := by funext j; rw [if_neg (Nat.not_lt_zero j)]
  exact loop n 0 (by omega) s.heap [] (by rw [e0]; exact hP) (by rw [e0]; exact hD) hS ls hl
set_option maxHeartbeats 4000000 in
set_option maxRecDepth 100000 in
theorem k_fillJ (l : Launch) (D : va_G) (g : Nat → ClassId) (z0 sz : Nat) (h0 n : Nat) (f : Nat → Int64) (v : Int64) (hn : n < 2 ^ 31) : Met l yJ7_fill_d0a16 (.code yJ7_fill_d0a16 cJ7_fill_d0a16 5 none :: TG) (rmk 0 0 0 0) (va_Pc [.ref h0, .long v] (PP D g z0 sz [(h0, .inl (g 1, n, .inr (.inl (f))))])) (va_Qv (fun (_ : Unit) => True) (fun (_ : Unit) (t : State) => va_P D vwCl [(h0, .inl (g 1, n, .inr (.inl (fun _ => v))))] t.heap ∧ va_D (va_A [(h0, .inl (g 1, n, .inr (.inl (f))))] sz) [(h0, .inl (g 1, n, .inr (.inl (fun _ => v))))]) (va_A [(h0, .inl (g 1, n, .inr (.inl (f))))] sz)) 0 0 (va_A [(h0, .inl (g 1, n, .inr (.inl (f))))] sz) := by
  refine met0 (cc := cJ7_fill_d0a16) (n := 5) (by decide) (Nat.le_of_ble_eq_true rfl) ?_
  intro p e s m args below meth c hx hb hr hml hown ht hlocks hnm hP0 hD0 hK hZ hsz hz ls hl
  subst hsz
  have hS : va_S (va_A [(h0, .inl (g 1, n, .inr (.inl (f))))] s.heap.size) s.heap s.heap [] := va_S.rf
  have hD : va_D (va_A [(h0, .inl (g 1, n, .inr (.inl (f))))] s.heap.size) [(h0, .inl (g 1, n, .inr (.inl (f))))] := hD0.self
  have hP : va_P D vwCl [(h0, .inl (g 1, n, .inr (.inl (f))))] s.heap := hP0
  have hl : lv_has ls 5 [(0, .ref h0), (1, .long v)] := hl
  have loop : ∀ (k i : Nat), n = i + k → ∀ (H : Heap) (locs : List Loc), va_P D vwCl [(h0, .inl (g 1, n, .inr (.inl (fun j => if j < i then v else f j))))] H → va_D (va_A [(h0, .inl (g 1, n, .inr (.inl (f))))] s.heap.size) [(h0, .inl (g 1, n, .inr (.inl (fun j => if j < i then v else f j))))] → va_S (va_A [(h0, .inl (g 1, n, .inr (.inl (f))))] s.heap.size) s.heap H locs → ∀ (ls : Array Slot), lv_has ls 5 [(4, .int (nI n)), (3, .int (nI i)), (0, .ref h0), (1, .long v)] →
      W p l e (rmk 0 0 0 0) s m args below meth c H locs 0 0 (MQ below (va_Qv (fun (_ : Unit) => True) (fun (_ : Unit) (t : State) => va_P D vwCl [(h0, .inl (g 1, n, .inr (.inl (fun _ => v))))] t.heap ∧ va_D (va_A [(h0, .inl (g 1, n, .inr (.inl (f))))] s.heap.size) [(h0, .inl (g 1, n, .inr (.inl (fun _ => v))))]) (va_A [(h0, .inl (g 1, n, .inr (.inl (f))))] s.heap.size)) args s 0 0 (va_A [(h0, .inl (g 1, n, .inr (.inl (f))))] s.heap.size)) (F0 m 6 ls []) := by
    intro k
    induction k with
    | zero =>
      intro i hi H locs hP hD hS ls hl
      have hi : i = n := by omega
      subst hi
      refine lv_iload_n hx hb dJ7_fill_d0a16_6 rfl (lv_at hl 1 rfl) ?_
      refine lv_iload hx hb dJ7_fill_d0a16_7 (lv_at hl 0 rfl) ?_
      refine lv_icmp_ge (tgt := 22) hx hb dJ7_fill_d0a16_9 (by decide) (fun c_1 => ?_) (fun c_1 => absurd (nI_le (Nat.le_refl _) hn) c_1)
      have hP9 := cell_l (f2 := fun _ => v) (fun j hj => if_pos hj) hP
      have hD9 : va_D (va_A [(h0, .inl (g 1, i, .inr (.inl (f))))] s.heap.size) [(h0, .inl (g 1, i, .inr (.inl (fun _ => v))))] := one_D hD
      exact W.vret hx hb hr (fun t ht9 hW9 => ⟨⟨(), rfl, trivial, (by rw [ht9]; exact hP9), hD9⟩, hS.F ht9⟩) hS.2.2 dJ7_fill_d0a16_22 hlocks
    | succ k ih =>
      intro i hi H locs hP hD hS ls hl
      have hlt : i < n := by omega
      refine lv_iload_n hx hb dJ7_fill_d0a16_6 rfl (lv_at hl 1 rfl) ?_
      refine lv_iload hx hb dJ7_fill_d0a16_7 (lv_at hl 0 rfl) ?_
      refine lv_icmp_ge (tgt := 22) hx hb dJ7_fill_d0a16_9 (by decide) (fun c_1 => absurd c_1 (nI_ge hlt hn)) (fun c_1 => ?_)
      refine lv_aload_n hx hb dJ7_fill_d0a16_12 rfl (lv_at hl 2 rfl) ?_
      refine lv_iload_n hx hb dJ7_fill_d0a16_13 rfl (lv_at hl 1 rfl) ?_
      refine lv_lload_n hx hb dJ7_fill_d0a16_14 rfl (lv_at hl 3 rfl) ?_
      refine va_last hx hb hK.1 hP hD hS 0 1 rfl rfl (vp_in_nI hlt hn) dJ7_fill_d0a16_15 (fun H locs hP hD hS => ?_)
      have ef : vp_updL (fun j => if j < i then v else f j) (nI i).toNatClampNeg v = fun j => if j < i + 1 then v else f j := by
        funext j
        rw [nI_clamp (Nat.lt_trans hlt hn)]
        skip
        unfold vp_updL
        by_cases h1 : j = i
        · subst h1
          rw [if_pos rfl, if_pos (by omega)]
        · rw [if_neg h1]
          show (if j < i then v else f j) = _
          by_cases h2 : j < i
          · rw [if_pos h2, if_pos (by omega)]
          · rw [if_neg h2, if_neg (by omega)]
      have hP : va_P D vwCl [(h0, .inl (g 1, n, .inr (.inl (fun j => if j < i + 1 then v else f j))))] H := by rw [← ef]; exact hP
      have hD : va_D (va_A [(h0, .inl (g 1, n, .inr (.inl (f))))] s.heap.size) [(h0, .inl (g 1, n, .inr (.inl (fun j => if j < i + 1 then v else f j))))] := by rw [← ef]; exact hD
      refine lv_iinc (v := nI (i + 1)) (lv' := [(3, .int (nI (i + 1))), (4, .int (nI n)), (0, .ref h0), (1, .long v)]) hx hb dJ7_fill_d0a16_16 hl (k := 1) rfl (nI_1 i) (by decide) rfl (fun ls hl => ?_)
      refine lv_goto (tgt := 6) hx hb dJ7_fill_d0a16_19 (by decide) ?_
      exact ih (i + 1) (by omega) H locs hP hD hS ls (lv_sub hl [1, 0, 2, 3] rfl)
  refine lv_iconst (v := 0) hx hb dJ7_fill_d0a16_0 (by decide) ?_
  refine lv_istore_n (lv' := [(3, .int 0), (0, .ref h0), (1, .long v)]) hx hb dJ7_fill_d0a16_1 rfl hl (by decide) rfl (fun ls hl => ?_)
  refine lv_aload_n hx hb dJ7_fill_d0a16_2 rfl (lv_at hl 1 rfl) ?_
  refine va_alen (v := nI n) hx hb hK.1 hP 0 rfl (t0 := 1) rfl rfl dJ7_fill_d0a16_3 ?_
  refine lv_istore (lv' := [(4, .int (nI n)), (3, .int 0), (0, .ref h0), (1, .long v)]) hx hb dJ7_fill_d0a16_4 hl (by decide) rfl (fun ls hl => ?_)
  have e0 : (fun j => if j < 0 then v else f j) = f := by funext j; rw [if_neg (Nat.not_lt_zero j)]
  exact loop n 0 (by omega) s.heap [] (by rw [e0]; exact hP) (by rw [e0]; exact hD) hS ls hl
