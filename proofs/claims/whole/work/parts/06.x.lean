set_option maxHeartbeats 4000000 in
set_option maxRecDepth 100000 in
theorem k_X10_clearLanes (l : Launch) (D : va_G) (g : Nat → ClassId) (z0 sz : Nat) (a : Nat → Nat) : Met l yX10_clearLanes (.code yX10_clearLanes cX10_clearLanes 2 none :: TG) (rmk 1 0 0 24) (va_Pc [.ref (a 4), .int 0] (PP D g z0 sz [((a 4), f_words a), ((a 38), .inl (g 1, 12, .inr (.inl (fun _ => 0)))), ((a 39), .inl (g 1, 12, .inr (.inl (fun _ => 0))))])) (va_Qv (fun (u : Unit) => True) (fun (u : Unit) (t : State) => va_P D vwCl [((a 4), .inr (16, [.ref (a 1), .ref (a 2), .ref (a 38), .ref (a 39), .ref (a 40), .ref (a 41), .ref (a 42), .ref (a 43), .ref (a 44), .ref (a 45), .ref (a 46), .ref (a 47), .long 0, .long 0, .long 0, .int 0, .int (-1)])), ((a 38), .inl (g 1, 12, .inr (.inl (fun _ => 0)))), ((a 39), .inl (g 1, 12, .inr (.inl (fun _ => 0))))] t.heap ∧ va_D (va_A [((a 4), f_words a), ((a 38), .inl (g 1, 12, .inr (.inl (fun _ => 0)))), ((a 39), .inl (g 1, 12, .inr (.inl (fun _ => 0))))] sz) [((a 4), .inr (16, [.ref (a 1), .ref (a 2), .ref (a 38), .ref (a 39), .ref (a 40), .ref (a 41), .ref (a 42), .ref (a 43), .ref (a 44), .ref (a 45), .ref (a 46), .ref (a 47), .long 0, .long 0, .long 0, .int 0, .int (-1)])), ((a 38), .inl (g 1, 12, .inr (.inl (fun _ => 0)))), ((a 39), .inl (g 1, 12, .inr (.inl (fun _ => 0))))]) (va_A [((a 4), f_words a), ((a 38), .inl (g 1, 12, .inr (.inl (fun _ => 0)))), ((a 39), .inl (g 1, 12, .inr (.inl (fun _ => 0))))] sz)) 0 0 (va_A [((a 4), f_words a), ((a 38), .inl (g 1, 12, .inr (.inl (fun _ => 0)))), ((a 39), .inl (g 1, 12, .inr (.inl (fun _ => 0))))] sz) := by
  refine met0 (cc := cX10_clearLanes) (n := 2) (by decide) (Nat.le_of_ble_eq_true rfl) ?_
  intro p e s m args below meth c hx hb hr hml hown ht hlocks hnm hP0 hD0 hK hZ hsz hz ls hl
  subst hsz
  have hA : ∀ q : Nat, s.heap.size ≤ q → va_A [((a 4), f_words a), ((a 38), .inl (g 1, 12, .inr (.inl (fun _ => 0)))), ((a 39), .inl (g 1, 12, .inr (.inl (fun _ => 0))))] s.heap.size q := Anw
  have hAz : ∀ q, va_A [((a 4), f_words a), ((a 38), .inl (g 1, 12, .inr (.inl (fun _ => 0)))), ((a 39), .inl (g 1, 12, .inr (.inl (fun _ => 0))))] s.heap.size q → z0 ≤ q := Awz hz hD0
  have hS : va_S (va_A [((a 4), f_words a), ((a 38), .inl (g 1, 12, .inr (.inl (fun _ => 0)))), ((a 39), .inl (g 1, 12, .inr (.inl (fun _ => 0))))] s.heap.size) s.heap s.heap [] := va_S.rf
  have hD : va_D (va_A [((a 4), f_words a), ((a 38), .inl (g 1, 12, .inr (.inl (fun _ => 0)))), ((a 39), .inl (g 1, 12, .inr (.inl (fun _ => 0))))] s.heap.size) [((a 4), f_words a), ((a 38), .inl (g 1, 12, .inr (.inl (fun _ => 0)))), ((a 39), .inl (g 1, 12, .inr (.inl (fun _ => 0))))] := hD0.self
  have hP : va_P D vwCl [((a 4), f_words a), ((a 38), .inl (g 1, 12, .inr (.inl (fun _ => 0)))), ((a 39), .inl (g 1, 12, .inr (.inl (fun _ => 0))))] s.heap := hP0
  have hl : lv_has ls 2 [(0, .ref (a 4)), (1, .int 0)] := hl
  refine lv_aload_n hx hb dX10_clearLanes_0 rfl (lv_at hl 0 rfl) ?_
  refine lv_iload_n hx hb dX10_clearLanes_1 rfl (lv_at hl 1 rfl) ?_
  refine lv_bipush (v := 64) hx hb dX10_clearLanes_2 (by decide) ?_
  refine lv_icmp_lt (tgt := 13) hx hb dX10_clearLanes_4 (by decide) (fun c_1 => ?_) (fun c_1 => ?_)
  · refine lv_lconst (v := 1) hx hb dX10_clearLanes_13 (by decide) ?_
    refine lv_iload_n hx hb dX10_clearLanes_14 rfl (lv_at hl 1 rfl) ?_
    refine lv_lshl (v := 1) hx hb dX10_clearLanes_15 (by decide) ?_
    refine lv_lconst (v := 1) hx hb dX10_clearLanes_16 (by decide) ?_
    refine lv_lsub hx hb dX10_clearLanes_17 ?_
    refine r_topl (v := 0) (by decide) ?_
    refine va_put (D := D) (ci := 16) (v := .long 0) (ty := .long) (C := RX10) (T := TX10) (N := 17) hx hb ht in_X10 tyX10 tyX10_ok nmX10 hown hK.1 hP hD hS 0 rfl rfl 12 (by decide) (ht _ w_3) (fun _ h9 => h9) rfl (by decide +kernel) rfl rfl (Nat.le_of_ble_eq_true rfl) dX10_clearLanes_18 (fun H locs hP hD hS => ?_)
    have hP : va_P D vwCl [((a 4), .inr (16, [.ref (a 1), .ref (a 2), .ref (a 38), .ref (a 39), .ref (a 40), .ref (a 41), .ref (a 42), .ref (a 43), .ref (a 44), .ref (a 45), .ref (a 46), .ref (a 47), .long 0, .long 0, .long 0, .int 0, .int (-1)])), ((a 38), .inl (g 1, 12, .inr (.inl (fun _ => 0)))), ((a 39), .inl (g 1, 12, .inr (.inl (fun _ => 0))))] H := hP
    have hD : va_D (va_A [((a 4), f_words a), ((a 38), .inl (g 1, 12, .inr (.inl (fun _ => 0)))), ((a 39), .inl (g 1, 12, .inr (.inl (fun _ => 0))))] s.heap.size) [((a 4), .inr (16, [.ref (a 1), .ref (a 2), .ref (a 38), .ref (a 39), .ref (a 40), .ref (a 41), .ref (a 42), .ref (a 43), .ref (a 44), .ref (a 45), .ref (a 46), .ref (a 47), .long 0, .long 0, .long 0, .int 0, .int (-1)])), ((a 38), .inl (g 1, 12, .inr (.inl (fun _ => 0)))), ((a 39), .inl (g 1, 12, .inr (.inl (fun _ => 0))))] := hD
    refine lv_aload_n hx hb dX10_clearLanes_21 rfl (lv_at hl 0 rfl) ?_
    refine va_get (D := D) (ci := 16) (v := .ref (a 38)) (C := RX10) (T := TX10) (N := 17) hx hb ht in_X10 hown hK.1 hP 0 rfl rfl 2 (by decide) (ht _ w_4) (fun _ h9 => h9) rfl dX10_clearLanes_22 ?_
    refine lv_lconst (v := 0) hx hb dX10_clearLanes_25 (by decide) ?_
    have hPc : va_P D vwCl [((a 38), .inl (g 1, 12, .inr (.inl (fun _ => 0))))] _ := hP.sub (ws' := [((a 38), .inl (g 1, 12, .inr (.inl (fun _ => 0))))]) [1] rfl
    have hDc : va_D (fun q => z0 ≤ q) [((a 38), .inl (g 1, 12, .inr (.inl (fun _ => 0))))] := (hD.to hAz).pick (ws' := [((a 38), .inl (g 1, 12, .inr (.inl (fun _ => 0))))]) [1] (by decide) rfl
    have hFc := va_free (wc := [((a 38), .inl (g 1, 12, .inr (.inl (fun _ => 0))))]) hD hS hA [1] rfl
    refine va_callv (va_runS (As := [.ref (a 38), .long 0]) (rest := []) ⟨hx, hb, hml, hown, ht⟩ (k_fillJ l D g z0 _ (a 38) 12 (fun _ => 0) 0 (by decide)) (va_cwS 2 ht (gS w_5 w_7 w_8 w_6) rfl rfl rfl (by decide +kernel) (le2 rfl rfl)) ⟨PP.blind, PP.mk' hK hZ hz hAz hS hPc hDc⟩ rfl rfl hl.1 rfl (lv_room (Nat.le_of_ble_eq_true rfl)) dX10_clearLanes_26 (le2 rfl rfl)) hS (fun q _ h => hFc q h) hFc (fun u t H locs ht1 hvm hw hB hz1 hk1 hS => ?_)
    obtain ⟨hP1, hD1⟩ := hB
    rw [ht1] at hP1
    obtain ⟨hP, hD⟩ := va_join (wr := [((a 4), .inr (16, [.ref (a 1), .ref (a 2), .ref (a 38), .ref (a 39), .ref (a 40), .ref (a 41), .ref (a 42), .ref (a 43), .ref (a 44), .ref (a 45), .ref (a 46), .ref (a 47), .long 0, .long 0, .long 0, .int 0, .int (-1)])), ((a 39), .inl (g 1, 12, .inr (.inl (fun _ => 0))))]) (w1 := [((a 38), .inl (g 1, 12, .inr (.inl (fun _ => 0))))]) hP hD [1] [0, 2] rfl rfl (by decide) (by decide) hk1 hFc hP1 hD1
    have hP : va_P D vwCl [((a 4), .inr (16, [.ref (a 1), .ref (a 2), .ref (a 38), .ref (a 39), .ref (a 40), .ref (a 41), .ref (a 42), .ref (a 43), .ref (a 44), .ref (a 45), .ref (a 46), .ref (a 47), .long 0, .long 0, .long 0, .int 0, .int (-1)])), ((a 39), .inl (g 1, 12, .inr (.inl (fun _ => 0)))), ((a 38), .inl (g 1, 12, .inr (.inl (fun _ => 0))))] H := hP
    have hD : va_D (va_A [((a 4), f_words a), ((a 38), .inl (g 1, 12, .inr (.inl (fun _ => 0)))), ((a 39), .inl (g 1, 12, .inr (.inl (fun _ => 0))))] s.heap.size) [((a 4), .inr (16, [.ref (a 1), .ref (a 2), .ref (a 38), .ref (a 39), .ref (a 40), .ref (a 41), .ref (a 42), .ref (a 43), .ref (a 44), .ref (a 45), .ref (a 46), .ref (a 47), .long 0, .long 0, .long 0, .int 0, .int (-1)])), ((a 39), .inl (g 1, 12, .inr (.inl (fun _ => 0)))), ((a 38), .inl (g 1, 12, .inr (.inl (fun _ => 0))))] := hD
    refine lv_aload_n hx hb dX10_clearLanes_29 rfl (lv_at hl 0 rfl) ?_
    refine va_get (D := D) (ci := 16) (v := .ref (a 39)) (C := RX10) (T := TX10) (N := 17) hx hb ht in_X10 hown hK.1 hP 0 rfl rfl 3 (by decide) (ht _ w_9) (fun _ h9 => h9) rfl dX10_clearLanes_30 ?_
    refine lv_lconst (v := 0) hx hb dX10_clearLanes_33 (by decide) ?_
    have hPc : va_P D vwCl [((a 39), .inl (g 1, 12, .inr (.inl (fun _ => 0))))] _ := hP.sub (ws' := [((a 39), .inl (g 1, 12, .inr (.inl (fun _ => 0))))]) [1] rfl
    have hDc : va_D (fun q => z0 ≤ q) [((a 39), .inl (g 1, 12, .inr (.inl (fun _ => 0))))] := (hD.to hAz).pick (ws' := [((a 39), .inl (g 1, 12, .inr (.inl (fun _ => 0))))]) [1] (by decide) rfl
    have hFc := va_free (wc := [((a 39), .inl (g 1, 12, .inr (.inl (fun _ => 0))))]) hD hS hA [1] rfl
    refine va_callv (va_runS (As := [.ref (a 39), .long 0]) (rest := []) ⟨hx, hb, hml, hown, ht⟩ (k_fillJ l D g z0 _ (a 39) 12 (fun _ => 0) 0 (by decide)) (va_cwS 2 ht (gS w_5 w_7 w_8 w_6) rfl rfl rfl (by decide +kernel) (le2 rfl rfl)) ⟨PP.blind, PP.mk' hK hZ hz hAz hS hPc hDc⟩ rfl rfl hl.1 rfl (lv_room (Nat.le_of_ble_eq_true rfl)) dX10_clearLanes_34 (le2 rfl rfl)) hS (fun q _ h => hFc q h) hFc (fun u t H locs ht1 hvm hw hB hz1 hk1 hS => ?_)
    obtain ⟨hP1, hD1⟩ := hB
    rw [ht1] at hP1
    obtain ⟨hP, hD⟩ := va_join (wr := [((a 4), .inr (16, [.ref (a 1), .ref (a 2), .ref (a 38), .ref (a 39), .ref (a 40), .ref (a 41), .ref (a 42), .ref (a 43), .ref (a 44), .ref (a 45), .ref (a 46), .ref (a 47), .long 0, .long 0, .long 0, .int 0, .int (-1)])), ((a 38), .inl (g 1, 12, .inr (.inl (fun _ => 0))))]) (w1 := [((a 39), .inl (g 1, 12, .inr (.inl (fun _ => 0))))]) hP hD [1] [0, 2] rfl rfl (by decide) (by decide) hk1 hFc hP1 hD1
    have hP : va_P D vwCl [((a 4), .inr (16, [.ref (a 1), .ref (a 2), .ref (a 38), .ref (a 39), .ref (a 40), .ref (a 41), .ref (a 42), .ref (a 43), .ref (a 44), .ref (a 45), .ref (a 46), .ref (a 47), .long 0, .long 0, .long 0, .int 0, .int (-1)])), ((a 38), .inl (g 1, 12, .inr (.inl (fun _ => 0)))), ((a 39), .inl (g 1, 12, .inr (.inl (fun _ => 0))))] H := hP
    have hD : va_D (va_A [((a 4), f_words a), ((a 38), .inl (g 1, 12, .inr (.inl (fun _ => 0)))), ((a 39), .inl (g 1, 12, .inr (.inl (fun _ => 0))))] s.heap.size) [((a 4), .inr (16, [.ref (a 1), .ref (a 2), .ref (a 38), .ref (a 39), .ref (a 40), .ref (a 41), .ref (a 42), .ref (a 43), .ref (a 44), .ref (a 45), .ref (a 46), .ref (a 47), .long 0, .long 0, .long 0, .int 0, .int (-1)])), ((a 38), .inl (g 1, 12, .inr (.inl (fun _ => 0)))), ((a 39), .inl (g 1, 12, .inr (.inl (fun _ => 0))))] := hD
    have hP9 := hP.sub (ws' := [((a 4), .inr (16, [.ref (a 1), .ref (a 2), .ref (a 38), .ref (a 39), .ref (a 40), .ref (a 41), .ref (a 42), .ref (a 43), .ref (a 44), .ref (a 45), .ref (a 46), .ref (a 47), .long 0, .long 0, .long 0, .int 0, .int (-1)])), ((a 38), .inl (g 1, 12, .inr (.inl (fun _ => 0)))), ((a 39), .inl (g 1, 12, .inr (.inl (fun _ => 0))))]) [0, 1, 2] rfl
    have hD9 := hD.sub (ws' := [((a 4), .inr (16, [.ref (a 1), .ref (a 2), .ref (a 38), .ref (a 39), .ref (a 40), .ref (a 41), .ref (a 42), .ref (a 43), .ref (a 44), .ref (a 45), .ref (a 46), .ref (a 47), .long 0, .long 0, .long 0, .int 0, .int (-1)])), ((a 38), .inl (g 1, 12, .inr (.inl (fun _ => 0)))), ((a 39), .inl (g 1, 12, .inr (.inl (fun _ => 0))))]) [0, 1, 2] (by decide) rfl
    refine W.widen (k := 0) (n := 0) (Nat.le_of_ble_eq_true rfl) (Nat.le_of_ble_eq_true rfl) ?_
    exact W.vret hx hb hr (fun t ht9 hW9 => ⟨⟨(), rfl, trivial, ⟨(by rw [ht9]; exact hP9), hD9⟩⟩, hS.F ht9⟩) hS.2.2 dX10_clearLanes_37 hlocks
  · exact absurd c_1 (by decide)
set_option maxHeartbeats 4000000 in
set_option maxRecDepth 100000 in
theorem k_X10_loadRows (l : Launch) (D : va_G) (g : Nat → ClassId) (z0 sz : Nat) (a : Nat → Nat) : Met l yX10_loadRows (.code yX10_loadRows cX10_loadRows 4 none :: TG) (rmk 2 0 0 45) (va_Pc [.ref (a 4), .ref (a 3)] (PP D g z0 sz [((a 3), f_rows a), ((a 4), f_words a), ((a 38), .inl (g 1, 12, .inr (.inl (fun _ => 0)))), ((a 39), .inl (g 1, 12, .inr (.inl (fun _ => 0))))])) (va_Qv (fun (u : Unit) => True) (fun (u : Unit) (t : State) => va_P D vwCl [((a 3), f_rows a), ((a 4), f_words a), ((a 38), .inl (g 1, 12, .inr (.inl (fun _ => 0)))), ((a 39), .inl (g 1, 12, .inr (.inl (fun _ => 0))))] t.heap ∧ va_D (va_A [((a 3), f_rows a), ((a 4), f_words a), ((a 38), .inl (g 1, 12, .inr (.inl (fun _ => 0)))), ((a 39), .inl (g 1, 12, .inr (.inl (fun _ => 0))))] sz) [((a 3), f_rows a), ((a 4), f_words a), ((a 38), .inl (g 1, 12, .inr (.inl (fun _ => 0)))), ((a 39), .inl (g 1, 12, .inr (.inl (fun _ => 0))))]) (va_A [((a 3), f_rows a), ((a 4), f_words a), ((a 38), .inl (g 1, 12, .inr (.inl (fun _ => 0)))), ((a 39), .inl (g 1, 12, .inr (.inl (fun _ => 0))))] sz)) 0 0 (va_A [((a 3), f_rows a), ((a 4), f_words a), ((a 38), .inl (g 1, 12, .inr (.inl (fun _ => 0)))), ((a 39), .inl (g 1, 12, .inr (.inl (fun _ => 0))))] sz) := by
  refine met0 (cc := cX10_loadRows) (n := 4) (by decide) (Nat.le_of_ble_eq_true rfl) ?_
  intro p e s m args below meth c hx hb hr hml hown ht hlocks hnm hP0 hD0 hK hZ hsz hz ls hl
  subst hsz
  have hA : ∀ q : Nat, s.heap.size ≤ q → va_A [((a 3), f_rows a), ((a 4), f_words a), ((a 38), .inl (g 1, 12, .inr (.inl (fun _ => 0)))), ((a 39), .inl (g 1, 12, .inr (.inl (fun _ => 0))))] s.heap.size q := Anw
  have hAz : ∀ q, va_A [((a 3), f_rows a), ((a 4), f_words a), ((a 38), .inl (g 1, 12, .inr (.inl (fun _ => 0)))), ((a 39), .inl (g 1, 12, .inr (.inl (fun _ => 0))))] s.heap.size q → z0 ≤ q := Awz hz hD0
  have hS : va_S (va_A [((a 3), f_rows a), ((a 4), f_words a), ((a 38), .inl (g 1, 12, .inr (.inl (fun _ => 0)))), ((a 39), .inl (g 1, 12, .inr (.inl (fun _ => 0))))] s.heap.size) s.heap s.heap [] := va_S.rf
  have hD : va_D (va_A [((a 3), f_rows a), ((a 4), f_words a), ((a 38), .inl (g 1, 12, .inr (.inl (fun _ => 0)))), ((a 39), .inl (g 1, 12, .inr (.inl (fun _ => 0))))] s.heap.size) [((a 3), f_rows a), ((a 4), f_words a), ((a 38), .inl (g 1, 12, .inr (.inl (fun _ => 0)))), ((a 39), .inl (g 1, 12, .inr (.inl (fun _ => 0))))] := hD0.self
  have hP : va_P D vwCl [((a 3), f_rows a), ((a 4), f_words a), ((a 38), .inl (g 1, 12, .inr (.inl (fun _ => 0)))), ((a 39), .inl (g 1, 12, .inr (.inl (fun _ => 0))))] s.heap := hP0
  have hl : lv_has ls 4 [(0, .ref (a 4)), (1, .ref (a 3))] := hl
  refine lv_aload_n hx hb dX10_loadRows_0 rfl (lv_at hl 0 rfl) ?_
  refine lv_aload_n hx hb dX10_loadRows_1 rfl (lv_at hl 1 rfl) ?_
  refine va_get (D := D) (ci := 13) (v := .int 0) (C := RX7) (T := TX7) (N := 6) hx hb ht in_X7 hown hK.1 hP 0 rfl rfl 5 (by decide) (ht _ w_2) (fun _ h9 => h9) rfl dX10_loadRows_2 ?_
  have hPc : va_P D vwCl [((a 4), f_words a), ((a 38), .inl (g 1, 12, .inr (.inl (fun _ => 0)))), ((a 39), .inl (g 1, 12, .inr (.inl (fun _ => 0))))] _ := hP.sub (ws' := [((a 4), f_words a), ((a 38), .inl (g 1, 12, .inr (.inl (fun _ => 0)))), ((a 39), .inl (g 1, 12, .inr (.inl (fun _ => 0))))]) [1, 2, 3] rfl
  have hDc : va_D (fun q => z0 ≤ q) [((a 4), f_words a), ((a 38), .inl (g 1, 12, .inr (.inl (fun _ => 0)))), ((a 39), .inl (g 1, 12, .inr (.inl (fun _ => 0))))] := (hD.to hAz).pick (ws' := [((a 4), f_words a), ((a 38), .inl (g 1, 12, .inr (.inl (fun _ => 0)))), ((a 39), .inl (g 1, 12, .inr (.inl (fun _ => 0))))]) [1, 2, 3] (by decide) rfl
  have hFc := va_free (wc := [((a 4), f_words a), ((a 38), .inl (g 1, 12, .inr (.inl (fun _ => 0)))), ((a 39), .inl (g 1, 12, .inr (.inl (fun _ => 0))))]) hD hS hA [1, 2, 3] rfl
  refine va_callv (va_runV (As := [.int 0]) (rest := []) ⟨hx, hb, hml, hown, ht⟩ (k_X10_clearLanes l D g z0 _ a) (cwV 1 ht (gV w_10 w_12 w_13 w_14 w_11) rfl rfl rfl (by decide +kernel) (le2 rfl rfl)) ⟨PP.blind, va_recv hK.1 hP (ci := 16) (q0 := 1) rfl rfl, PP.mk' hK hZ hz hAz hS hPc hDc⟩ rfl rfl hl.1 rfl (lv_room (Nat.le_of_ble_eq_true rfl)) dX10_loadRows_5 (le2 rfl rfl)) hS (fun q _ h => hFc q h) hFc (fun u t H locs ht1 hvm hw hB hz1 hk1 hS => ?_)
  obtain ⟨hP1, hD1⟩ := hB
  rw [ht1] at hP1
  obtain ⟨hP, hD⟩ := va_join (wr := [((a 3), f_rows a)]) (w1 := [((a 4), f_words a), ((a 38), .inl (g 1, 12, .inr (.inl (fun _ => 0)))), ((a 39), .inl (g 1, 12, .inr (.inl (fun _ => 0))))]) hP hD [1, 2, 3] [0] rfl rfl (by decide) (by decide) hk1 hFc hP1 hD1
  have hP : va_P D vwCl [((a 3), f_rows a), ((a 4), f_words a), ((a 38), .inl (g 1, 12, .inr (.inl (fun _ => 0)))), ((a 39), .inl (g 1, 12, .inr (.inl (fun _ => 0))))] H := hP
  have hD : va_D (va_A [((a 3), f_rows a), ((a 4), f_words a), ((a 38), .inl (g 1, 12, .inr (.inl (fun _ => 0)))), ((a 39), .inl (g 1, 12, .inr (.inl (fun _ => 0))))] s.heap.size) [((a 3), f_rows a), ((a 4), f_words a), ((a 38), .inl (g 1, 12, .inr (.inl (fun _ => 0)))), ((a 39), .inl (g 1, 12, .inr (.inl (fun _ => 0))))] := hD
  refine lv_iconst (v := 0) hx hb dX10_loadRows_8 (by decide) ?_
  refine lv_istore_n (lv' := [(2, .int 0), (0, .ref (a 4)), (1, .ref (a 3))]) hx hb dX10_loadRows_9 rfl hl (by decide) rfl (fun ls hl => ?_)
  refine lv_iload_n hx hb dX10_loadRows_10 rfl (lv_at hl 0 rfl) ?_
  refine lv_aload_n hx hb dX10_loadRows_11 rfl (lv_at hl 2 rfl) ?_
  refine va_get (D := D) (ci := 13) (v := .int 0) (C := RX7) (T := TX7) (N := 6) hx hb ht in_X7 hown hK.1 hP 0 rfl rfl 5 (by decide) (ht _ w_2) (fun _ h9 => h9) rfl dX10_loadRows_12 ?_
  refine lv_icmp_ge (tgt := 72) hx hb dX10_loadRows_15 (by decide) (fun c_1 => ?_) (fun c_1 => ?_)
  · have hP9 := hP.sub (ws' := [((a 3), f_rows a), ((a 4), f_words a), ((a 38), .inl (g 1, 12, .inr (.inl (fun _ => 0)))), ((a 39), .inl (g 1, 12, .inr (.inl (fun _ => 0))))]) [0, 1, 2, 3] rfl
    have hD9 := hD.sub (ws' := [((a 3), f_rows a), ((a 4), f_words a), ((a 38), .inl (g 1, 12, .inr (.inl (fun _ => 0)))), ((a 39), .inl (g 1, 12, .inr (.inl (fun _ => 0))))]) [0, 1, 2, 3] (by decide) rfl
    refine W.widen (k := 0) (n := 0) (Nat.le_of_ble_eq_true rfl) (Nat.le_of_ble_eq_true rfl) ?_
    exact W.vret hx hb hr (fun t ht9 hW9 => ⟨⟨(), rfl, trivial, ⟨(by rw [ht9]; exact hP9), hD9⟩⟩, hS.F ht9⟩) hS.2.2 dX10_loadRows_72 hlocks
  · exact absurd c_1 (by decide)
set_option maxHeartbeats 4000000 in
set_option maxRecDepth 100000 in
theorem k_X10_runGood (l : Launch) (D : va_G) (g : Nat → ClassId) (z0 sz : Nat) (a : Nat → Nat) : Met l yX10_runGood (.code yX10_runGood cX10_runGood 5 none :: TG) (rmk 0 0 0 0) (va_Pc [.ref (a 4)] (PP D g z0 sz [((a 4), f_words a), ((a 1), f_net a)])) (va_Qv (fun (u : Unit) => True) (fun (u : Unit) (t : State) => va_P D vwCl [((a 4), .inr (16, [.ref (a 1), .ref (a 2), .ref (a 38), .ref (a 39), .ref (a 40), .ref (a 41), .ref (a 42), .ref (a 43), .ref (a 44), .ref (a 45), .ref (a 46), .ref (a 47), .long 0, .long 0, .long 0, .int 0, .int (-1)])), ((a 1), f_net a)] t.heap ∧ va_D (va_A [((a 4), f_words a), ((a 1), f_net a)] sz) [((a 4), .inr (16, [.ref (a 1), .ref (a 2), .ref (a 38), .ref (a 39), .ref (a 40), .ref (a 41), .ref (a 42), .ref (a 43), .ref (a 44), .ref (a 45), .ref (a 46), .ref (a 47), .long 0, .long 0, .long 0, .int 0, .int (-1)])), ((a 1), f_net a)]) (va_A [((a 4), f_words a), ((a 1), f_net a)] sz)) 0 0 (va_A [((a 4), f_words a), ((a 1), f_net a)] sz) := by
  refine met0 (cc := cX10_runGood) (n := 5) (by decide) (Nat.le_of_ble_eq_true rfl) ?_
  intro p e s m args below meth c hx hb hr hml hown ht hlocks hnm hP0 hD0 hK hZ hsz hz ls hl
  subst hsz
  have hA : ∀ q : Nat, s.heap.size ≤ q → va_A [((a 4), f_words a), ((a 1), f_net a)] s.heap.size q := Anw
  have hAz : ∀ q, va_A [((a 4), f_words a), ((a 1), f_net a)] s.heap.size q → z0 ≤ q := Awz hz hD0
  have hS : va_S (va_A [((a 4), f_words a), ((a 1), f_net a)] s.heap.size) s.heap s.heap [] := va_S.rf
  have hD : va_D (va_A [((a 4), f_words a), ((a 1), f_net a)] s.heap.size) [((a 4), f_words a), ((a 1), f_net a)] := hD0.self
  have hP : va_P D vwCl [((a 4), f_words a), ((a 1), f_net a)] s.heap := hP0
  have hl : lv_has ls 5 [(0, .ref (a 4))] := hl
  refine lv_aload_n hx hb dX10_runGood_0 rfl (lv_at hl 0 rfl) ?_
  refine lv_lconst (v := 0) hx hb dX10_runGood_1 (by decide) ?_
  refine va_put (D := D) (ci := 16) (v := .long 0) (ty := .long) (C := RX10) (T := TX10) (N := 17) hx hb ht in_X10 tyX10 tyX10_ok nmX10 hown hK.1 hP hD hS 0 rfl rfl 14 (by decide) (ht _ w_19) (fun _ h9 => h9) rfl (by decide +kernel) rfl rfl (Nat.le_of_ble_eq_true rfl) dX10_runGood_2 (fun H locs hP hD hS => ?_)
  have hP : va_P D vwCl [((a 4), .inr (16, [.ref (a 1), .ref (a 2), .ref (a 38), .ref (a 39), .ref (a 40), .ref (a 41), .ref (a 42), .ref (a 43), .ref (a 44), .ref (a 45), .ref (a 46), .ref (a 47), .long 0, .long 0, .long 0, .int 0, .int (-1)])), ((a 1), f_net a)] H := hP
  have hD : va_D (va_A [((a 4), f_words a), ((a 1), f_net a)] s.heap.size) [((a 4), .inr (16, [.ref (a 1), .ref (a 2), .ref (a 38), .ref (a 39), .ref (a 40), .ref (a 41), .ref (a 42), .ref (a 43), .ref (a 44), .ref (a 45), .ref (a 46), .ref (a 47), .long 0, .long 0, .long 0, .int 0, .int (-1)])), ((a 1), f_net a)] := hD
  refine lv_iconst (v := 0) hx hb dX10_runGood_5 (by decide) ?_
  refine lv_istore_n (lv' := [(1, .int 0), (0, .ref (a 4))]) hx hb dX10_runGood_6 rfl hl (by decide) rfl (fun ls hl => ?_)
  refine lv_iload_n hx hb dX10_runGood_7 rfl (lv_at hl 0 rfl) ?_
  refine lv_aload_n hx hb dX10_runGood_8 rfl (lv_at hl 1 rfl) ?_
  refine va_get (D := D) (ci := 16) (v := .ref (a 1)) (C := RX10) (T := TX10) (N := 17) hx hb ht in_X10 hown hK.1 hP 0 rfl rfl 0 (by decide) (ht _ w_20) (fun _ h9 => h9) rfl dX10_runGood_9 ?_
  refine va_get (D := D) (ci := 12) (v := .int 0) (C := RX6) (T := TX6) (N := 18) hx hb ht in_X6 hown hK.1 hP 1 rfl rfl 12 (by decide) (ht _ w_21) (fun _ h9 => h9) rfl dX10_runGood_12 ?_
  refine lv_icmp_ge (tgt := 240) hx hb dX10_runGood_15 (by decide) (fun c_1 => ?_) (fun c_1 => ?_)
  · have hP9 := hP.sub (ws' := [((a 4), .inr (16, [.ref (a 1), .ref (a 2), .ref (a 38), .ref (a 39), .ref (a 40), .ref (a 41), .ref (a 42), .ref (a 43), .ref (a 44), .ref (a 45), .ref (a 46), .ref (a 47), .long 0, .long 0, .long 0, .int 0, .int (-1)])), ((a 1), f_net a)]) [0, 1] rfl
    have hD9 := hD.sub (ws' := [((a 4), .inr (16, [.ref (a 1), .ref (a 2), .ref (a 38), .ref (a 39), .ref (a 40), .ref (a 41), .ref (a 42), .ref (a 43), .ref (a 44), .ref (a 45), .ref (a 46), .ref (a 47), .long 0, .long 0, .long 0, .int 0, .int (-1)])), ((a 1), f_net a)]) [0, 1] (by decide) rfl
    refine W.widen (k := 0) (n := 0) (Nat.le_of_ble_eq_true rfl) (Nat.le_of_ble_eq_true rfl) ?_
    exact W.vret hx hb hr (fun t ht9 hW9 => ⟨⟨(), rfl, trivial, ⟨(by rw [ht9]; exact hP9), hD9⟩⟩, hS.F ht9⟩) hS.2.2 dX10_runGood_240 hlocks
  · exact absurd c_1 (by decide)
set_option maxHeartbeats 4000000 in
set_option maxRecDepth 100000 in
theorem k_X11_foldObserved (l : Launch) (D : va_G) (g : Nat → ClassId) (z0 sz : Nat) (a : Nat → Nat) : Met l yX11_foldObserved (.code yX11_foldObserved cX11_foldObserved 5 (some .int) :: TG) (rmk 0 0 0 0) (va_Pc [.ref (a 0)] (PP D g z0 sz [((a 0), f_x a), ((a 3), f_rows a)])) (va_Qi (fun (r : Int32) (u : Unit) => (r = 0) ∧ True) (fun (_ : Unit) (_ : State) => True) (va_A [] sz)) 0 0 (va_A [] sz) := by
  refine met0 (cc := cX11_foldObserved) (n := 5) (by decide) (Nat.le_of_ble_eq_true rfl) ?_
  intro p e s m args below meth c hx hb hr hml hown ht hlocks hnm hP0 hD0 hK hZ hsz hz ls hl
  subst hsz
  have hA : ∀ q : Nat, s.heap.size ≤ q → va_A [] s.heap.size q := Anw
  have hAz : ∀ q, va_A [] s.heap.size q → z0 ≤ q := A0z hz
  have hS : va_S (va_A [] s.heap.size) s.heap s.heap [] := va_S.rf
  have hl : lv_has ls 5 [(0, .ref (a 0))] := hl
  refine lv_iconst (v := 0) hx hb dX11_foldObserved_0 (by decide) ?_
  refine lv_istore_n (lv' := [(1, .int 0), (0, .ref (a 0))]) hx hb dX11_foldObserved_1 rfl hl (by decide) rfl (fun ls hl => ?_)
  refine lv_iconst (v := 0) hx hb dX11_foldObserved_2 (by decide) ?_
  refine lv_istore_n (lv' := [(2, .int 0), (1, .int 0), (0, .ref (a 0))]) hx hb dX11_foldObserved_3 rfl hl (by decide) rfl (fun ls hl => ?_)
  refine lv_iload_n hx hb dX11_foldObserved_4 rfl (lv_at hl 0 rfl) ?_
  refine lv_aload_n hx hb dX11_foldObserved_5 rfl (lv_at hl 2 rfl) ?_
  refine va_get (D := D) (ci := 17) (v := .ref (a 3)) (C := RX11) (T := TX11) (N := 11) hx hb ht in_X11 hown hK.1 (ro0 hP0 hS) 0 rfl rfl 2 (by decide) (ht _ w_1) (fun _ h9 => h9) rfl dX11_foldObserved_6 ?_
  refine va_get (D := D) (ci := 13) (v := .int 0) (C := RX7) (T := TX7) (N := 6) hx hb ht in_X7 hown hK.1 (ro0 hP0 hS) 1 rfl rfl 5 (by decide) (ht _ w_26) (fun _ h9 => h9) rfl dX11_foldObserved_9 ?_
  refine lv_icmp_ge (tgt := 101) hx hb dX11_foldObserved_12 (by decide) (fun c_1 => ?_) (fun c_1 => ?_)
  · refine lv_iload_n hx hb dX11_foldObserved_101 rfl (lv_at hl 1 rfl) ?_
    refine W.widen (k := 0) (n := 0) (Nat.le_of_ble_eq_true rfl) (Nat.le_of_ble_eq_true rfl) ?_
    exact W.iret (v := 0) hx hb hr (fun t ht9 hW9 => ⟨⟨0, (), rfl, ⟨rfl, trivial⟩, trivial⟩, hS.F ht9⟩) hS.2.2 dX11_foldObserved_102 hlocks
  · exact absurd c_1 (by decide)
set_option maxHeartbeats 4000000 in
set_option maxRecDepth 100000 in
theorem k_X11_aliased (l : Launch) (D : va_G) (g : Nat → ClassId) (z0 sz : Nat) (a : Nat → Nat) : Met l yX11_aliased (.code yX11_aliased cX11_aliased 4 (some .int) :: TG) (rmk 3 0 0 68) (va_Pc [.ref (a 0)] (PP D g z0 sz [((a 0), f_x a), ((a 3), f_rows a), ((a 4), f_words a), ((a 38), .inl (g 1, 12, .inr (.inl (fun _ => 0)))), ((a 39), .inl (g 1, 12, .inr (.inl (fun _ => 0)))), ((a 1), f_net a), ((a 2), f_book a)])) (va_Qi (fun (r : Int32) (u : Unit) => (r = 0) ∧ True) (fun (u : Unit) (t : State) => va_P D vwCl [] t.heap ∧ va_D (va_A [((a 0), f_x a), ((a 3), f_rows a), ((a 4), f_words a), ((a 38), .inl (g 1, 12, .inr (.inl (fun _ => 0)))), ((a 39), .inl (g 1, 12, .inr (.inl (fun _ => 0)))), ((a 1), f_net a), ((a 2), f_book a)] sz) []) (va_A [((a 0), f_x a), ((a 3), f_rows a), ((a 4), f_words a), ((a 38), .inl (g 1, 12, .inr (.inl (fun _ => 0)))), ((a 39), .inl (g 1, 12, .inr (.inl (fun _ => 0)))), ((a 1), f_net a), ((a 2), f_book a)] sz)) 0 0 (va_A [((a 0), f_x a), ((a 3), f_rows a), ((a 4), f_words a), ((a 38), .inl (g 1, 12, .inr (.inl (fun _ => 0)))), ((a 39), .inl (g 1, 12, .inr (.inl (fun _ => 0)))), ((a 1), f_net a), ((a 2), f_book a)] sz) := by
  refine met0 (cc := cX11_aliased) (n := 4) (by decide) (Nat.le_of_ble_eq_true rfl) ?_
  intro p e s m args below meth c hx hb hr hml hown ht hlocks hnm hP0 hD0 hK hZ hsz hz ls hl
  subst hsz
  have hA : ∀ q : Nat, s.heap.size ≤ q → va_A [((a 0), f_x a), ((a 3), f_rows a), ((a 4), f_words a), ((a 38), .inl (g 1, 12, .inr (.inl (fun _ => 0)))), ((a 39), .inl (g 1, 12, .inr (.inl (fun _ => 0)))), ((a 1), f_net a), ((a 2), f_book a)] s.heap.size q := Anw
  have hAz : ∀ q, va_A [((a 0), f_x a), ((a 3), f_rows a), ((a 4), f_words a), ((a 38), .inl (g 1, 12, .inr (.inl (fun _ => 0)))), ((a 39), .inl (g 1, 12, .inr (.inl (fun _ => 0)))), ((a 1), f_net a), ((a 2), f_book a)] s.heap.size q → z0 ≤ q := Awz hz hD0
  have hS : va_S (va_A [((a 0), f_x a), ((a 3), f_rows a), ((a 4), f_words a), ((a 38), .inl (g 1, 12, .inr (.inl (fun _ => 0)))), ((a 39), .inl (g 1, 12, .inr (.inl (fun _ => 0)))), ((a 1), f_net a), ((a 2), f_book a)] s.heap.size) s.heap s.heap [] := va_S.rf
  have hD : va_D (va_A [((a 0), f_x a), ((a 3), f_rows a), ((a 4), f_words a), ((a 38), .inl (g 1, 12, .inr (.inl (fun _ => 0)))), ((a 39), .inl (g 1, 12, .inr (.inl (fun _ => 0)))), ((a 1), f_net a), ((a 2), f_book a)] s.heap.size) [((a 0), f_x a), ((a 3), f_rows a), ((a 4), f_words a), ((a 38), .inl (g 1, 12, .inr (.inl (fun _ => 0)))), ((a 39), .inl (g 1, 12, .inr (.inl (fun _ => 0)))), ((a 1), f_net a), ((a 2), f_book a)] := hD0.self
  have hP : va_P D vwCl [((a 0), f_x a), ((a 3), f_rows a), ((a 4), f_words a), ((a 38), .inl (g 1, 12, .inr (.inl (fun _ => 0)))), ((a 39), .inl (g 1, 12, .inr (.inl (fun _ => 0)))), ((a 1), f_net a), ((a 2), f_book a)] s.heap := hP0
  have hl : lv_has ls 4 [(0, .ref (a 0))] := hl
  refine lv_aload_n hx hb dX11_aliased_0 rfl (lv_at hl 0 rfl) ?_
  refine va_get (D := D) (ci := 17) (v := .ref (a 4)) (C := RX11) (T := TX11) (N := 11) hx hb ht in_X11 hown hK.1 hP 0 rfl rfl 3 (by decide) (ht _ w_0) (fun _ h9 => h9) rfl dX11_aliased_1 ?_
  refine lv_aload_n hx hb dX11_aliased_4 rfl (lv_at hl 0 rfl) ?_
  refine va_get (D := D) (ci := 17) (v := .ref (a 3)) (C := RX11) (T := TX11) (N := 11) hx hb ht in_X11 hown hK.1 hP 0 rfl rfl 2 (by decide) (ht _ w_1) (fun _ h9 => h9) rfl dX11_aliased_5 ?_
  have hPc : va_P D vwCl [((a 3), f_rows a), ((a 4), f_words a), ((a 38), .inl (g 1, 12, .inr (.inl (fun _ => 0)))), ((a 39), .inl (g 1, 12, .inr (.inl (fun _ => 0))))] _ := hP.sub (ws' := [((a 3), f_rows a), ((a 4), f_words a), ((a 38), .inl (g 1, 12, .inr (.inl (fun _ => 0)))), ((a 39), .inl (g 1, 12, .inr (.inl (fun _ => 0))))]) [1, 2, 3, 4] rfl
  have hDc : va_D (fun q => z0 ≤ q) [((a 3), f_rows a), ((a 4), f_words a), ((a 38), .inl (g 1, 12, .inr (.inl (fun _ => 0)))), ((a 39), .inl (g 1, 12, .inr (.inl (fun _ => 0))))] := (hD.to hAz).pick (ws' := [((a 3), f_rows a), ((a 4), f_words a), ((a 38), .inl (g 1, 12, .inr (.inl (fun _ => 0)))), ((a 39), .inl (g 1, 12, .inr (.inl (fun _ => 0))))]) [1, 2, 3, 4] (by decide) rfl
  have hFc := va_free (wc := [((a 3), f_rows a), ((a 4), f_words a), ((a 38), .inl (g 1, 12, .inr (.inl (fun _ => 0)))), ((a 39), .inl (g 1, 12, .inr (.inl (fun _ => 0))))]) hD hS hA [1, 2, 3, 4] rfl
  refine va_callv (va_runV (As := [.ref (a 3)]) (rest := []) ⟨hx, hb, hml, hown, ht⟩ (k_X10_loadRows l D g z0 _ a) (cwV 1 ht (gV w_15 w_17 w_18 w_14 w_16) rfl rfl rfl (by decide +kernel) (le2 rfl rfl)) ⟨PP.blind, va_recv hK.1 hP (ci := 16) (q0 := 2) rfl rfl, PP.mk' hK hZ hz hAz hS hPc hDc⟩ rfl rfl hl.1 rfl (lv_room (Nat.le_of_ble_eq_true rfl)) dX11_aliased_8 (le2 rfl rfl)) hS (fun q _ h => hFc q h) hFc (fun u t H locs ht1 hvm hw hB hz1 hk1 hS => ?_)
  obtain ⟨hP1, hD1⟩ := hB
  rw [ht1] at hP1
  obtain ⟨hP, hD⟩ := va_join (wr := [((a 0), f_x a), ((a 1), f_net a), ((a 2), f_book a)]) (w1 := [((a 3), f_rows a), ((a 4), f_words a), ((a 38), .inl (g 1, 12, .inr (.inl (fun _ => 0)))), ((a 39), .inl (g 1, 12, .inr (.inl (fun _ => 0))))]) hP hD [1, 2, 3, 4] [0, 5, 6] rfl rfl (by decide) (by decide) hk1 hFc hP1 hD1
  have hP : va_P D vwCl [((a 0), f_x a), ((a 1), f_net a), ((a 2), f_book a), ((a 3), f_rows a), ((a 4), f_words a), ((a 38), .inl (g 1, 12, .inr (.inl (fun _ => 0)))), ((a 39), .inl (g 1, 12, .inr (.inl (fun _ => 0))))] H := hP
  have hD : va_D (va_A [((a 0), f_x a), ((a 3), f_rows a), ((a 4), f_words a), ((a 38), .inl (g 1, 12, .inr (.inl (fun _ => 0)))), ((a 39), .inl (g 1, 12, .inr (.inl (fun _ => 0)))), ((a 1), f_net a), ((a 2), f_book a)] s.heap.size) [((a 0), f_x a), ((a 1), f_net a), ((a 2), f_book a), ((a 3), f_rows a), ((a 4), f_words a), ((a 38), .inl (g 1, 12, .inr (.inl (fun _ => 0)))), ((a 39), .inl (g 1, 12, .inr (.inl (fun _ => 0))))] := hD
  refine lv_aload_n hx hb dX11_aliased_11 rfl (lv_at hl 0 rfl) ?_
  refine va_get (D := D) (ci := 17) (v := .ref (a 4)) (C := RX11) (T := TX11) (N := 11) hx hb ht in_X11 hown hK.1 hP 0 rfl rfl 3 (by decide) (ht _ w_0) (fun _ h9 => h9) rfl dX11_aliased_12 ?_
  have hPc : va_P D vwCl [((a 4), f_words a), ((a 1), f_net a)] _ := hP.sub (ws' := [((a 4), f_words a), ((a 1), f_net a)]) [4, 1] rfl
  have hDc : va_D (fun q => z0 ≤ q) [((a 4), f_words a), ((a 1), f_net a)] := (hD.to hAz).pick (ws' := [((a 4), f_words a), ((a 1), f_net a)]) [4, 1] (by decide) rfl
  have hFc := va_free (wc := [((a 4), f_words a), ((a 1), f_net a)]) hD hS hA [4, 1] rfl
  refine va_callv (va_runV (As := []) (rest := []) ⟨hx, hb, hml, hown, ht⟩ (k_X10_runGood l D g z0 _ a) (cwV 0 ht (gV w_22 w_24 w_25 w_14 w_23) rfl rfl rfl (by decide +kernel) (le2 rfl rfl)) ⟨PP.blind, va_recv hK.1 hP (ci := 16) (q0 := 4) rfl rfl, PP.mk' hK hZ hz hAz hS hPc hDc⟩ rfl rfl hl.1 rfl (lv_room (Nat.le_of_ble_eq_true rfl)) dX11_aliased_15 (le2 rfl rfl)) hS (fun q _ h => hFc q h) hFc (fun u t H locs ht1 hvm hw hB hz1 hk1 hS => ?_)
  obtain ⟨hP1, hD1⟩ := hB
  rw [ht1] at hP1
  obtain ⟨hP, hD⟩ := va_join (wr := [((a 0), f_x a), ((a 2), f_book a), ((a 3), f_rows a), ((a 38), .inl (g 1, 12, .inr (.inl (fun _ => 0)))), ((a 39), .inl (g 1, 12, .inr (.inl (fun _ => 0))))]) (w1 := [((a 4), f_words a), ((a 1), f_net a)]) hP hD [4, 1] [0, 2, 3, 5, 6] rfl rfl (by decide) (by decide) hk1 hFc hP1 hD1
  have hP : va_P D vwCl [((a 0), f_x a), ((a 2), f_book a), ((a 3), f_rows a), ((a 38), .inl (g 1, 12, .inr (.inl (fun _ => 0)))), ((a 39), .inl (g 1, 12, .inr (.inl (fun _ => 0)))), ((a 4), f_words a), ((a 1), f_net a)] H := hP
  have hD : va_D (va_A [((a 0), f_x a), ((a 3), f_rows a), ((a 4), f_words a), ((a 38), .inl (g 1, 12, .inr (.inl (fun _ => 0)))), ((a 39), .inl (g 1, 12, .inr (.inl (fun _ => 0)))), ((a 1), f_net a), ((a 2), f_book a)] s.heap.size) [((a 0), f_x a), ((a 2), f_book a), ((a 3), f_rows a), ((a 38), .inl (g 1, 12, .inr (.inl (fun _ => 0)))), ((a 39), .inl (g 1, 12, .inr (.inl (fun _ => 0)))), ((a 4), f_words a), ((a 1), f_net a)] := hD
  refine lv_aload_n hx hb dX11_aliased_18 rfl (lv_at hl 0 rfl) ?_
  have hPc : va_P D vwCl [((a 0), f_x a), ((a 3), f_rows a)] _ := hP.sub (ws' := [((a 0), f_x a), ((a 3), f_rows a)]) [0, 2] rfl
  have hDc : va_D (fun q => z0 ≤ q) [((a 0), f_x a), ((a 3), f_rows a)] := (hD.to hAz).pick (ws' := [((a 0), f_x a), ((a 3), f_rows a)]) [0, 2] (by decide) rfl
  have hFc := AnA (ws := [((a 0), f_x a), ((a 3), f_rows a), ((a 4), f_words a), ((a 38), .inl (g 1, 12, .inr (.inl (fun _ => 0)))), ((a 39), .inl (g 1, 12, .inr (.inl (fun _ => 0)))), ((a 1), f_net a), ((a 2), f_book a)]) hS.1
  refine va_calli (va_runV (As := []) (rest := []) ⟨hx, hb, hml, hown, ht⟩ (k_X11_foldObserved l D g z0 _ a) (cwV 0 ht (gV w_27 w_29 w_30 w_31 w_28) rfl rfl rfl (by decide +kernel) (le2 rfl rfl)) ⟨PP.blind, va_recv hK.1 hP (ci := 17) (q0 := 0) rfl rfl, PP.mk' hK hZ hz hAz hS hPc hDc⟩ rfl rfl hl.1 rfl (lv_room (Nat.le_of_ble_eq_true rfl)) dX11_aliased_19 (le2 rfl rfl)) hS (fun q _ h => hFc q h) hFc (fun r u t H locs ht1 hvm hw hB hz1 hk1 hS => ?_)
  obtain ⟨rfl, hw⟩ := hw
  have hP := ro1 hP hk1
  refine lv_istore_n (lv' := [(1, .int 0), (0, .ref (a 0))]) hx hb dX11_aliased_22 rfl hl (by decide) rfl (fun ls hl => ?_)
  refine lv_iconst (v := 0) hx hb dX11_aliased_23 (by decide) ?_
  refine lv_istore_n (lv' := [(2, .int 0), (1, .int 0), (0, .ref (a 0))]) hx hb dX11_aliased_24 rfl hl (by decide) rfl (fun ls hl => ?_)
  refine lv_iconst (v := 0) hx hb dX11_aliased_25 (by decide) ?_
  refine lv_istore_n (lv' := [(3, .int 0), (2, .int 0), (1, .int 0), (0, .ref (a 0))]) hx hb dX11_aliased_26 rfl hl (by decide) rfl (fun ls hl => ?_)
  refine lv_iload_n hx hb dX11_aliased_27 rfl (lv_at hl 0 rfl) ?_
  refine lv_aload_n hx hb dX11_aliased_28 rfl (lv_at hl 3 rfl) ?_
  refine va_get (D := D) (ci := 17) (v := .ref (a 2)) (C := RX11) (T := TX11) (N := 11) hx hb ht in_X11 hown hK.1 hP 0 rfl rfl 1 (by decide) (ht _ w_32) (fun _ h9 => h9) rfl dX11_aliased_29 ?_
  refine va_get (D := D) (ci := 9) (v := .int 0) (C := RX3) (T := TX3) (N := 14) hx hb ht in_X3 hown hK.1 hP 1 rfl rfl 11 (by decide) (ht _ w_33) (fun _ h9 => h9) rfl dX11_aliased_32 ?_
  refine lv_icmp_ge (tgt := 79) hx hb dX11_aliased_35 (by decide) (fun c_1 => ?_) (fun c_1 => ?_)
  · refine lv_iload_n hx hb dX11_aliased_79 rfl (lv_at hl 1 rfl) ?_
    have hP9 := hP.sub (ws' := []) [] rfl
    have hD9 := hD.sub (ws' := []) [] (by decide) rfl
    refine W.widen (k := 0) (n := 0) (Nat.le_of_ble_eq_true rfl) (Nat.le_of_ble_eq_true rfl) ?_
    exact W.iret (v := 0) hx hb hr (fun t ht9 hW9 => ⟨⟨0, (), rfl, ⟨rfl, trivial⟩, ⟨(by rw [ht9]; exact hP9), hD9⟩⟩, hS.F ht9⟩) hS.2.2 dX11_aliased_80 hlocks
  · exact absurd c_1 (by decide)
set_option maxHeartbeats 4000000 in
set_option maxRecDepth 100000 in
theorem k_X11_needFault (l : Launch) (hfl : l.stackTraces = false) (D : va_G) (g : Nat → ClassId) (z0 sz : Nat) (a : Nat → Nat) (p0 : Int32) : vx_Met l yX11_needFault (.code yX11_needFault cX11_needFault 2 none :: TG) (rmk 6 1 6 81) (va_Pc [.ref (a 0), .int p0] (PP D g z0 sz [((a 0), f_x a), ((a 2), f_book a)])) (va_Qv (fun (u : Unit) => False) (fun (_ : Unit) (_ : State) => True) (va_A [] sz)) (vx_X (fun _ : Unit => True) (fun E _ _ => (E = "java/lang/IndexOutOfBoundsException" ∧ True)) (va_A [] sz)) 1 6 (va_A [] sz) := by
  refine vxm0 (cc := cX11_needFault) (n := 2) (by decide) (Nat.le_of_ble_eq_true rfl) ?_
  intro p e s m args below meth c hx hb hr hml htab hown ht hlocks hnm hP0 hD0 hK hZ hsz hz ls hl
  subst hsz
  have hA : ∀ q : Nat, s.heap.size ≤ q → va_A [] s.heap.size q := Anw
  have hAz : ∀ q, va_A [] s.heap.size q → z0 ≤ q := A0z hz
  have hS : va_S (va_A [] s.heap.size) s.heap s.heap [] := va_S.rf
  have hl : lv_has ls 2 [(0, .ref (a 0)), (1, .int p0)] := hl
  refine lv_iload_n hx hb dX11_needFault_0 rfl (lv_at hl 1 rfl) ?_
  refine lv_if_lt (tgt := 15) hx hb dX11_needFault_1 (by decide) (fun c_1 => ?_) (fun c_1 => ?_)
  · exact thr0 hx hb hfl hown ht hK.2.2 hZ hAz hS hl hml htab hlocks (by decide +kernel) w_35 w_36 at_X11_102 dX11_needFault_15 dX11_needFault_18 dX11_needFault_19 dX11_needFault_22 rfl rfl rfl rfl (fun t _ hF => ⟨(), trivial, ⟨rfl, trivial⟩, hF⟩) (fun _ h => h) rfl rfl
  · refine lv_iload_n hx hb dX11_needFault_4 rfl (lv_at hl 1 rfl) ?_
    refine lv_aload_n hx hb dX11_needFault_5 rfl (lv_at hl 0 rfl) ?_
    refine va_get (D := D) (ci := 17) (v := .ref (a 2)) (C := RX11) (T := TX11) (N := 11) hx hb ht in_X11 hown hK.1 (ro0 hP0 hS) 0 rfl rfl 1 (by decide) (ht _ w_32) (fun _ h9 => h9) rfl dX11_needFault_6 ?_
    refine va_get (D := D) (ci := 9) (v := .int 0) (C := RX3) (T := TX3) (N := 14) hx hb ht in_X3 hown hK.1 (ro0 hP0 hS) 1 rfl rfl 10 (by decide) (ht _ w_34) (fun _ h9 => h9) rfl dX11_needFault_9 ?_
    refine lv_icmp_lt (tgt := 23) hx hb dX11_needFault_12 (by decide) (fun c_2 => ?_) (fun c_2 => ?_)
    · exact absurd c_2 c_1
    · exact thr0 hx hb hfl hown ht hK.2.2 hZ hAz hS hl hml htab hlocks (by decide +kernel) w_35 w_36 at_X11_102 dX11_needFault_15 dX11_needFault_18 dX11_needFault_19 dX11_needFault_22 rfl rfl rfl rfl (fun t _ hF => ⟨(), trivial, ⟨rfl, trivial⟩, hF⟩) (fun _ h => h) rfl rfl
set_option maxHeartbeats 4000000 in
set_option maxRecDepth 100000 in
theorem k_X11_alike (l : Launch) (hfl : l.stackTraces = false) (D : va_G) (g : Nat → ClassId) (z0 sz : Nat) (a : Nat → Nat) (p0 : Int32) : vx_Met l yX11_alike (.code yX11_alike cX11_alike 2 (some .int) :: TG) (rmk 7 1 6 102) (va_Pc [.ref (a 0), .int p0] (PP D g z0 sz [((a 0), f_x a), ((a 2), f_book a)])) (va_Qi (fun (r : Int32) (u : Unit) => False) (fun (_ : Unit) (_ : State) => True) (va_A [] sz)) (vx_X (fun _ : Unit => True) (fun E _ _ => (E = "java/lang/IndexOutOfBoundsException" ∧ True)) (va_A [] sz)) 1 6 (va_A [] sz) := by
  refine vxm0 (cc := cX11_alike) (n := 2) (by decide) (Nat.le_of_ble_eq_true rfl) ?_
  intro p e s m args below meth c hx hb hr hml htab hown ht hlocks hnm hP0 hD0 hK hZ hsz hz ls hl
  subst hsz
  have hA : ∀ q : Nat, s.heap.size ≤ q → va_A [] s.heap.size q := Anw
  have hAz : ∀ q, va_A [] s.heap.size q → z0 ≤ q := A0z hz
  have hS : va_S (va_A [] s.heap.size) s.heap s.heap [] := va_S.rf
  have hl : lv_has ls 2 [(0, .ref (a 0)), (1, .int p0)] := hl
  refine lv_aload_n hx hb dX11_alike_0 rfl (lv_at hl 0 rfl) ?_
  refine lv_iload_n hx hb dX11_alike_1 rfl (lv_at hl 1 rfl) ?_
  have hPc : va_P D vwCl [((a 0), f_x a), ((a 2), f_book a)] _ := (ro0 hP0 hS).sub (ws' := [((a 0), f_x a), ((a 2), f_book a)]) [0, 1] rfl
  have hDc : va_D (fun q => z0 ≤ q) [((a 0), f_x a), ((a 2), f_book a)] := hD0.pick (ws' := [((a 0), f_x a), ((a 2), f_book a)]) [0, 1] (by decide) rfl
  have hFc := AnA (ws := []) hS.1
  refine vx_callv (vx_runV (As := [.int p0]) (rest := []) ⟨hx, hb, hml, hown, ht⟩ (k_X11_needFault l hfl D g z0 _ a p0) (cwV 1 ht (gV w_37 w_39 w_40 w_31 w_38) rfl rfl rfl (by decide +kernel) (le2 rfl rfl)) ⟨PP.blind, va_recv hK.1 (ro0 hP0 hS) (ci := 17) (q0 := 0) rfl rfl, PP.mk' hK hZ hz hAz hS hPc hDc⟩ rfl rfl hl.1 rfl (lv_room (Nat.le_of_ble_eq_true rfl)) dX11_alike_2 (le2 rfl rfl)) hS (fun q _ h => hFc q h) hFc (fun q _ h => hFc q h) (fun E ce q9 u t H locs ht1 hvm hw hB hz1 hk1 hS hcell hv9 hcl => ?_) (fun u t H locs ht1 hvm hw hB hz1 hk1 hS => ?_)
  · obtain ⟨rfl, hB⟩ := hB
    exact out0 htab hlocks hS hcell hv9 hcl (fun t _ hF => ⟨(), trivial, ⟨rfl, trivial⟩, hF⟩) (fun _ h => h) rfl rfl
  · exact hw.elim
set_option maxHeartbeats 4000000 in
set_option maxRecDepth 100000 in
theorem k_X11_needCode (l : Launch) (hfl : l.stackTraces = false) (D : va_G) (g : Nat → ClassId) (z0 sz : Nat) (a : Nat → Nat) (p0 : Int32) (hc_p0 : isC p0) : vx_Met l yX11_needCode (.code yX11_needCode cX11_needCode 2 none :: TG) (rmk 6 1 6 81) (va_Pc [.ref (a 0), .int p0] (PP D g z0 sz [])) (va_Qv (fun (u : Unit) => ((p0 = 99) ∨ ((¬ p0 = 99) ∧ (p0 = 116)))) (fun (_ : Unit) (_ : State) => True) (va_A [] sz)) (vx_X (fun _ : Unit => True) (fun E _ _ => (E = "java/lang/IllegalArgumentException" ∧ ((¬ p0 = 99) ∧ (¬ p0 = 116)))) (va_A [] sz)) 1 6 (va_A [] sz) := by
  refine vxm0 (cc := cX11_needCode) (n := 2) (by decide) (Nat.le_of_ble_eq_true rfl) ?_
  intro p e s m args below meth c hx hb hr hml htab hown ht hlocks hnm hP0 hD0 hK hZ hsz hz ls hl
  subst hsz
  have hA : ∀ q : Nat, s.heap.size ≤ q → va_A [] s.heap.size q := Anw
  have hAz : ∀ q, va_A [] s.heap.size q → z0 ≤ q := A0z hz
  have hS : va_S (va_A [] s.heap.size) s.heap s.heap [] := va_S.rf
  have hl : lv_has ls 2 [(0, .ref (a 0)), (1, .int p0)] := hl
  refine lv_iload_n hx hb dX11_needCode_0 rfl (lv_at hl 1 rfl) ?_
  refine lv_bipush (v := 99) hx hb dX11_needCode_1 (by decide) ?_
  refine lv_icmp_eq (tgt := 20) hx hb dX11_needCode_3 (by decide) (fun c_1 => ?_) (fun c_1 => ?_)
  · refine vx_ret (W.widen (k := 1) (n := 6) (Nat.le_of_ble_eq_true rfl) (Nat.le_of_ble_eq_true rfl) ?_)
    exact W.vret hx hb hr (fun t ht9 hW9 => ⟨⟨(), rfl, (Or.inl c_1), trivial⟩, hS.F ht9⟩) hS.2.2 dX11_needCode_20 hlocks
  · refine lv_iload_n hx hb dX11_needCode_6 rfl (lv_at hl 1 rfl) ?_
    refine lv_bipush (v := 116) hx hb dX11_needCode_7 (by decide) ?_
    refine lv_icmp_eq (tgt := 20) hx hb dX11_needCode_9 (by decide) (fun c_2 => ?_) (fun c_2 => ?_)
    · refine vx_ret (W.widen (k := 1) (n := 6) (Nat.le_of_ble_eq_true rfl) (Nat.le_of_ble_eq_true rfl) ?_)
      exact W.vret hx hb hr (fun t ht9 hW9 => ⟨⟨(), rfl, (Or.inr ⟨c_1, c_2⟩), trivial⟩, hS.F ht9⟩) hS.2.2 dX11_needCode_20 hlocks
    · exact thr0 hx hb hfl hown ht hK.2.2 hZ hAz hS hl hml htab hlocks (by decide +kernel) w_43 w_44 at_X11_116 dX11_needCode_12 dX11_needCode_15 dX11_needCode_16 dX11_needCode_19 rfl rfl rfl rfl (fun t _ hF => ⟨(), trivial, ⟨rfl, ⟨c_1, c_2⟩⟩, hF⟩) (fun _ h => h) rfl rfl
set_option maxHeartbeats 4000000 in
set_option maxRecDepth 100000 in
theorem k_X11_badWires (l : Launch) (hfl : l.stackTraces = false) (D : va_G) (g : Nat → ClassId) (z0 sz : Nat) (a : Nat → Nat) (p0 : Int32) (hc_p0 : isC p0) : vx_Met l yX11_badWires (.code yX11_badWires cX11_badWires 4 (some .int) :: TG) (rmk 7 1 6 102) (va_Pc [.ref (a 0), .int p0] (PP D g z0 sz [((a 0), f_x a), ((a 10), f_wires a)])) (va_Qi (fun (r : Int32) (u : Unit) => (r = 0) ∧ ((p0 = 99) ∨ ((¬ p0 = 99) ∧ (p0 = 116)))) (fun (_ : Unit) (_ : State) => True) (va_A [] sz)) (vx_X (fun _ : Unit => True) (fun E _ _ => (E = "java/lang/IllegalArgumentException" ∧ ((¬ p0 = 99) ∧ (¬ p0 = 116)))) (va_A [] sz)) 1 6 (va_A [] sz) := by
  refine vxm0 (cc := cX11_badWires) (n := 4) (by decide) (Nat.le_of_ble_eq_true rfl) ?_
  intro p e s m args below meth c hx hb hr hml htab hown ht hlocks hnm hP0 hD0 hK hZ hsz hz ls hl
  subst hsz
  have hA : ∀ q : Nat, s.heap.size ≤ q → va_A [] s.heap.size q := Anw
  have hAz : ∀ q, va_A [] s.heap.size q → z0 ≤ q := A0z hz
  have hS : va_S (va_A [] s.heap.size) s.heap s.heap [] := va_S.rf
  have hl : lv_has ls 4 [(0, .ref (a 0)), (1, .int p0)] := hl
  refine lv_aload_n hx hb dX11_badWires_0 rfl (lv_at hl 0 rfl) ?_
  refine lv_iload_n hx hb dX11_badWires_1 rfl (lv_at hl 1 rfl) ?_
  have hPc : va_P D vwCl [] _ := (ro0 hP0 hS).sub (ws' := []) [] rfl
  have hDc : va_D (fun q => z0 ≤ q) [] := hD0.pick (ws' := []) [] (by decide) rfl
  have hFc := AnA (ws := []) hS.1
  refine vx_callv (vx_runV (As := [.int p0]) (rest := []) ⟨hx, hb, hml, hown, ht⟩ (k_X11_needCode l hfl D g z0 _ a p0 hc_p0) (cwV 1 ht (gV w_45 w_47 w_48 w_31 w_46) rfl rfl rfl (by decide +kernel) (le2 rfl rfl)) ⟨PP.blind, va_recv hK.1 (ro0 hP0 hS) (ci := 17) (q0 := 0) rfl rfl, PP.mk' hK hZ hz hAz hS hPc hDc⟩ rfl rfl hl.1 rfl (lv_room (Nat.le_of_ble_eq_true rfl)) dX11_badWires_2 (le2 rfl rfl)) hS (fun q _ h => hFc q h) hFc (fun q _ h => hFc q h) (fun E ce q9 u t H locs ht1 hvm hw hB hz1 hk1 hS hcell hv9 hcl => ?_) (fun u t H locs ht1 hvm hw hB hz1 hk1 hS => ?_)
  · obtain ⟨rfl, hB⟩ := hB
    obtain ⟨c_1, c_2⟩ := hB
    exact out0 htab hlocks hS hcell hv9 hcl (fun t _ hF => ⟨(), trivial, ⟨rfl, ⟨c_1, c_2⟩⟩, hF⟩) (fun _ h => h) rfl rfl
  · rcases hw with hw | hw
    · have c_3 := hw
      refine lv_iconst (v := 0) hx hb dX11_badWires_5 (by decide) ?_
      refine lv_istore_n (lv' := [(2, .int 0), (0, .ref (a 0)), (1, .int p0)]) hx hb dX11_badWires_6 rfl hl (by decide) rfl (fun ls hl => ?_)
      refine lv_iconst (v := 0) hx hb dX11_badWires_7 (by decide) ?_
      refine lv_istore_n (lv' := [(3, .int 0), (2, .int 0), (0, .ref (a 0)), (1, .int p0)]) hx hb dX11_badWires_8 rfl hl (by decide) rfl (fun ls hl => ?_)
      refine lv_iload_n hx hb dX11_badWires_9 rfl (lv_at hl 0 rfl) ?_
      refine lv_aload_n hx hb dX11_badWires_10 rfl (lv_at hl 2 rfl) ?_
      refine va_get (D := D) (ci := 17) (v := .ref (a 10)) (C := RX11) (T := TX11) (N := 11) hx hb ht in_X11 hown hK.1 (ro0 hP0 hS) 0 rfl rfl 9 (by decide) (ht _ w_49) (fun _ h9 => h9) rfl dX11_badWires_11 ?_
      refine va_get (D := D) (ci := 6) (v := .int 0) (C := RX0) (T := TX0) (N := 4) hx hb ht in_X0 hown hK.1 (ro0 hP0 hS) 1 rfl rfl 2 (by decide) (ht _ w_50) (fun _ h9 => h9) rfl dX11_badWires_14 ?_
      refine lv_icmp_ge (tgt := 53) hx hb dX11_badWires_17 (by decide) (fun c_4 => ?_) (fun c_4 => ?_)
      · refine lv_iload_n hx hb dX11_badWires_53 rfl (lv_at hl 1 rfl) ?_
        refine vx_ret (W.widen (k := 1) (n := 6) (Nat.le_of_ble_eq_true rfl) (Nat.le_of_ble_eq_true rfl) ?_)
        exact W.iret (v := 0) hx hb hr (fun t ht9 hW9 => ⟨⟨0, (), rfl, ⟨rfl, (Or.inl c_3)⟩, trivial⟩, hS.F ht9⟩) hS.2.2 dX11_badWires_54 hlocks
      · exact absurd c_4 (by decide)
    · obtain ⟨c_5, c_6⟩ := hw
      refine lv_iconst (v := 0) hx hb dX11_badWires_5 (by decide) ?_
      refine lv_istore_n (lv' := [(2, .int 0), (0, .ref (a 0)), (1, .int p0)]) hx hb dX11_badWires_6 rfl hl (by decide) rfl (fun ls hl => ?_)
      refine lv_iconst (v := 0) hx hb dX11_badWires_7 (by decide) ?_
      refine lv_istore_n (lv' := [(3, .int 0), (2, .int 0), (0, .ref (a 0)), (1, .int p0)]) hx hb dX11_badWires_8 rfl hl (by decide) rfl (fun ls hl => ?_)
      refine lv_iload_n hx hb dX11_badWires_9 rfl (lv_at hl 0 rfl) ?_
      refine lv_aload_n hx hb dX11_badWires_10 rfl (lv_at hl 2 rfl) ?_
      refine va_get (D := D) (ci := 17) (v := .ref (a 10)) (C := RX11) (T := TX11) (N := 11) hx hb ht in_X11 hown hK.1 (ro0 hP0 hS) 0 rfl rfl 9 (by decide) (ht _ w_49) (fun _ h9 => h9) rfl dX11_badWires_11 ?_
      refine va_get (D := D) (ci := 6) (v := .int 0) (C := RX0) (T := TX0) (N := 4) hx hb ht in_X0 hown hK.1 (ro0 hP0 hS) 1 rfl rfl 2 (by decide) (ht _ w_50) (fun _ h9 => h9) rfl dX11_badWires_14 ?_
      refine lv_icmp_ge (tgt := 53) hx hb dX11_badWires_17 (by decide) (fun c_7 => ?_) (fun c_7 => ?_)
      · refine lv_iload_n hx hb dX11_badWires_53 rfl (lv_at hl 1 rfl) ?_
        refine vx_ret (W.widen (k := 1) (n := 6) (Nat.le_of_ble_eq_true rfl) (Nat.le_of_ble_eq_true rfl) ?_)
        exact W.iret (v := 0) hx hb hr (fun t ht9 hW9 => ⟨⟨0, (), rfl, ⟨rfl, (Or.inr ⟨c_5, c_6⟩)⟩, trivial⟩, hS.F ht9⟩) hS.2.2 dX11_badWires_54 hlocks
      · exact absurd c_7 (by decide)
set_option maxHeartbeats 4000000 in
set_option maxRecDepth 100000 in
theorem k_X11_begins (l : Launch) (hfl : l.stackTraces = false) (D : va_G) (g : Nat → ClassId) (z0 sz : Nat) (a : Nat → Nat) (p0 : Int32) (p1 : Int32) (p2 : Int32) : vx_Met l yX11_begins (.code yX11_begins cX11_begins 4 (some .int) :: TG) (rmk 6 1 6 81) (va_Pc [.ref (a 0), .int p0, .int p1, .int p2] (PP D g z0 sz [((a 0), f_x a), ((a 11), f_cores a)])) (va_Qi (fun (r : Int32) (u : Unit) => False) (fun (_ : Unit) (_ : State) => True) (va_A [] sz)) (vx_X (fun _ : Unit => True) (fun E _ _ => (E = "java/lang/IndexOutOfBoundsException" ∧ True)) (va_A [] sz)) 1 6 (va_A [] sz) := by
  refine vxm0 (cc := cX11_begins) (n := 4) (by decide) (Nat.le_of_ble_eq_true rfl) ?_
  intro p e s m args below meth c hx hb hr hml htab hown ht hlocks hnm hP0 hD0 hK hZ hsz hz ls hl
  subst hsz
  have hA : ∀ q : Nat, s.heap.size ≤ q → va_A [] s.heap.size q := Anw
  have hAz : ∀ q, va_A [] s.heap.size q → z0 ≤ q := A0z hz
  have hS : va_S (va_A [] s.heap.size) s.heap s.heap [] := va_S.rf
  have hl : lv_has ls 4 [(0, .ref (a 0)), (1, .int p0), (2, .int p1), (3, .int p2)] := hl
  refine lv_iload_n hx hb dX11_begins_0 rfl (lv_at hl 3 rfl) ?_
  refine lv_if_lt (tgt := 15) hx hb dX11_begins_1 (by decide) (fun c_1 => ?_) (fun c_1 => ?_)
  · exact thr0 hx hb hfl hown ht hK.2.2 hZ hAz hS hl hml htab hlocks (by decide +kernel) w_35 w_36 at_X11_102 dX11_begins_15 dX11_begins_18 dX11_begins_19 dX11_begins_22 rfl rfl rfl rfl (fun t _ hF => ⟨(), trivial, ⟨rfl, trivial⟩, hF⟩) (fun _ h => h) rfl rfl
  · refine lv_iload_n hx hb dX11_begins_4 rfl (lv_at hl 3 rfl) ?_
    refine lv_aload_n hx hb dX11_begins_5 rfl (lv_at hl 0 rfl) ?_
    refine va_get (D := D) (ci := 17) (v := .ref (a 11)) (C := RX11) (T := TX11) (N := 11) hx hb ht in_X11 hown hK.1 (ro0 hP0 hS) 0 rfl rfl 10 (by decide) (ht _ w_51) (fun _ h9 => h9) rfl dX11_begins_6 ?_
    refine va_get (D := D) (ci := 8) (v := .int 0) (C := RX2) (T := TX2) (N := 7) hx hb ht in_X2 hown hK.1 (ro0 hP0 hS) 1 rfl rfl 6 (by decide) (ht _ w_52) (fun _ h9 => h9) rfl dX11_begins_9 ?_
    refine lv_icmp_lt (tgt := 23) hx hb dX11_begins_12 (by decide) (fun c_2 => ?_) (fun c_2 => ?_)
    · exact absurd c_2 c_1
    · exact thr0 hx hb hfl hown ht hK.2.2 hZ hAz hS hl hml htab hlocks (by decide +kernel) w_35 w_36 at_X11_102 dX11_begins_15 dX11_begins_18 dX11_begins_19 dX11_begins_22 rfl rfl rfl rfl (fun t _ hF => ⟨(), trivial, ⟨rfl, trivial⟩, hF⟩) (fun _ h => h) rfl rfl
set_option maxHeartbeats 4000000 in
set_option maxRecDepth 100000 in
theorem k_X11_needRange (l : Launch) (hfl : l.stackTraces = false) (D : va_G) (g : Nat → ClassId) (z0 sz : Nat) (a : Nat → Nat) (p0 : Int32) (p1 : Int32) (p2 : Int32) : vx_Met l yX11_needRange (.code yX11_needRange cX11_needRange 3 none :: TG) (rmk 6 1 6 81) (va_Pc [.int p0, .int p1, .int p2] (PP D g z0 sz [])) (va_Qv (fun (u : Unit) => ((¬ p0 < p1) ∧ (p0 ≤ p2))) (fun (_ : Unit) (_ : State) => True) (va_A [] sz)) (vx_X (fun _ : Unit => True) (fun E _ _ => (E = "java/lang/IllegalArgumentException" ∧ ((p0 < p1) ∨ ((¬ p0 < p1) ∧ (¬ p0 ≤ p2))))) (va_A [] sz)) 1 6 (va_A [] sz) := by
  refine vxm0 (cc := cX11_needRange) (n := 3) (by decide) (Nat.le_of_ble_eq_true rfl) ?_
  intro p e s m args below meth c hx hb hr hml htab hown ht hlocks hnm hP0 hD0 hK hZ hsz hz ls hl
  subst hsz
  have hA : ∀ q : Nat, s.heap.size ≤ q → va_A [] s.heap.size q := Anw
  have hAz : ∀ q, va_A [] s.heap.size q → z0 ≤ q := A0z hz
  have hS : va_S (va_A [] s.heap.size) s.heap s.heap [] := va_S.rf
  have hl : lv_has ls 3 [(0, .int p0), (1, .int p1), (2, .int p2)] := hl
  refine lv_iload_n hx hb dX11_needRange_0 rfl (lv_at hl 0 rfl) ?_
  refine lv_iload_n hx hb dX11_needRange_1 rfl (lv_at hl 1 rfl) ?_
  refine lv_icmp_lt (tgt := 10) hx hb dX11_needRange_2 (by decide) (fun c_1 => ?_) (fun c_1 => ?_)
  · exact thr0 hx hb hfl hown ht hK.2.2 hZ hAz hS hl hml htab hlocks (by decide +kernel) w_43 w_44 at_X11_116 dX11_needRange_10 dX11_needRange_13 dX11_needRange_14 dX11_needRange_17 rfl rfl rfl rfl (fun t _ hF => ⟨(), trivial, ⟨rfl, (Or.inl c_1)⟩, hF⟩) (fun _ h => h) rfl rfl
  · refine lv_iload_n hx hb dX11_needRange_5 rfl (lv_at hl 0 rfl) ?_
    refine lv_iload_n hx hb dX11_needRange_6 rfl (lv_at hl 2 rfl) ?_
    refine lv_icmp_le (tgt := 18) hx hb dX11_needRange_7 (by decide) (fun c_2 => ?_) (fun c_2 => ?_)
    · refine vx_ret (W.widen (k := 1) (n := 6) (Nat.le_of_ble_eq_true rfl) (Nat.le_of_ble_eq_true rfl) ?_)
      exact W.vret hx hb hr (fun t ht9 hW9 => ⟨⟨(), rfl, ⟨c_1, c_2⟩, trivial⟩, hS.F ht9⟩) hS.2.2 dX11_needRange_18 hlocks
    · exact thr0 hx hb hfl hown ht hK.2.2 hZ hAz hS hl hml htab hlocks (by decide +kernel) w_43 w_44 at_X11_116 dX11_needRange_10 dX11_needRange_13 dX11_needRange_14 dX11_needRange_17 rfl rfl rfl rfl (fun t _ hF => ⟨(), trivial, ⟨rfl, (Or.inr ⟨c_1, c_2⟩)⟩, hF⟩) (fun _ h => h) rfl rfl
set_option maxHeartbeats 4000000 in
set_option maxRecDepth 100000 in
theorem k_X0_layOut (l : Launch) (D : va_G) (g : Nat → ClassId) (z0 sz : Nat) (a : Nat → Nat) (p0 : Int32) (p1 : Int32) (hc_p1 : isC p1) : Met l yX0_layOut (.code yX0_layOut cX0_layOut 4 (some .int) :: TG) (rmk 1 0 0 23) (va_Pc [.ref (a 10), .int p0, .int p1] (PP D g z0 sz [((a 10), f_wires a), ((a 61), .inl (g 0, 12, .inl (fun _ => 0))), ((a 62), .inl (g 0, 12, .inl (fun _ => 0)))])) (va_Qi (fun (r : Int32) (u : Unit) => (r = 0) ∧ True) (fun (u : Unit) (t : State) => va_P D vwCl [((a 10), .inr (6, [.ref (a 61), .ref (a 62), .int p0, .int p1])), ((a 61), .inl (g 0, 12, .inl (fun _ => 2))), ((a 62), .inl (g 0, 12, .inl (fun _ => 0)))] t.heap ∧ va_D (va_A [((a 10), f_wires a), ((a 61), .inl (g 0, 12, .inl (fun _ => 0))), ((a 62), .inl (g 0, 12, .inl (fun _ => 0)))] sz) [((a 10), .inr (6, [.ref (a 61), .ref (a 62), .int p0, .int p1])), ((a 61), .inl (g 0, 12, .inl (fun _ => 2))), ((a 62), .inl (g 0, 12, .inl (fun _ => 0)))]) (va_A [((a 10), f_wires a), ((a 61), .inl (g 0, 12, .inl (fun _ => 0))), ((a 62), .inl (g 0, 12, .inl (fun _ => 0)))] sz)) 0 0 (va_A [((a 10), f_wires a), ((a 61), .inl (g 0, 12, .inl (fun _ => 0))), ((a 62), .inl (g 0, 12, .inl (fun _ => 0)))] sz) := by
  refine met0 (cc := cX0_layOut) (n := 4) (by decide) (Nat.le_of_ble_eq_true rfl) ?_
  intro p e s m args below meth c hx hb hr hml hown ht hlocks hnm hP0 hD0 hK hZ hsz hz ls hl
  subst hsz
  have hA : ∀ q : Nat, s.heap.size ≤ q → va_A [((a 10), f_wires a), ((a 61), .inl (g 0, 12, .inl (fun _ => 0))), ((a 62), .inl (g 0, 12, .inl (fun _ => 0)))] s.heap.size q := Anw
  have hAz : ∀ q, va_A [((a 10), f_wires a), ((a 61), .inl (g 0, 12, .inl (fun _ => 0))), ((a 62), .inl (g 0, 12, .inl (fun _ => 0)))] s.heap.size q → z0 ≤ q := Awz hz hD0
  have hS : va_S (va_A [((a 10), f_wires a), ((a 61), .inl (g 0, 12, .inl (fun _ => 0))), ((a 62), .inl (g 0, 12, .inl (fun _ => 0)))] s.heap.size) s.heap s.heap [] := va_S.rf
  have hD : va_D (va_A [((a 10), f_wires a), ((a 61), .inl (g 0, 12, .inl (fun _ => 0))), ((a 62), .inl (g 0, 12, .inl (fun _ => 0)))] s.heap.size) [((a 10), f_wires a), ((a 61), .inl (g 0, 12, .inl (fun _ => 0))), ((a 62), .inl (g 0, 12, .inl (fun _ => 0)))] := hD0.self
  have hP : va_P D vwCl [((a 10), f_wires a), ((a 61), .inl (g 0, 12, .inl (fun _ => 0))), ((a 62), .inl (g 0, 12, .inl (fun _ => 0)))] s.heap := hP0
  have hl : lv_has ls 4 [(0, .ref (a 10)), (1, .int p0), (2, .int p1)] := hl
  refine lv_aload_n hx hb dX0_layOut_0 rfl (lv_at hl 0 rfl) ?_
  refine va_get (D := D) (ci := 6) (v := .int 0) (C := RX0) (T := TX0) (N := 4) hx hb ht in_X0 hown hK.1 hP 0 rfl rfl 2 (by decide) (ht _ w_56) (fun _ h9 => h9) rfl dX0_layOut_1 ?_
  refine lv_istore_n (lv' := [(3, .int 0), (0, .ref (a 10)), (1, .int p0), (2, .int p1)]) hx hb dX0_layOut_4 rfl hl (by decide) rfl (fun ls hl => ?_)
  refine lv_aload_n hx hb dX0_layOut_5 rfl (lv_at hl 1 rfl) ?_
  refine lv_iload_n hx hb dX0_layOut_6 rfl (lv_at hl 2 rfl) ?_
  refine va_put (D := D) (ci := 6) (v := .int p0) (ty := .int) (C := RX0) (T := TX0) (N := 4) hx hb ht in_X0 tyX0 tyX0_ok nmX0 hown hK.1 hP hD hS 0 rfl rfl 2 (by decide) (ht _ w_56) (fun _ h9 => h9) rfl (by decide +kernel) rfl rfl (Nat.le_of_ble_eq_true rfl) dX0_layOut_7 (fun H locs hP hD hS => ?_)
  have hP : va_P D vwCl [((a 10), .inr (6, [.ref (a 61), .ref (a 62), .int p0, .int 97])), ((a 61), .inl (g 0, 12, .inl (fun _ => 0))), ((a 62), .inl (g 0, 12, .inl (fun _ => 0)))] H := hP
  have hD : va_D (va_A [((a 10), f_wires a), ((a 61), .inl (g 0, 12, .inl (fun _ => 0))), ((a 62), .inl (g 0, 12, .inl (fun _ => 0)))] s.heap.size) [((a 10), .inr (6, [.ref (a 61), .ref (a 62), .int p0, .int 97])), ((a 61), .inl (g 0, 12, .inl (fun _ => 0))), ((a 62), .inl (g 0, 12, .inl (fun _ => 0)))] := hD
  refine lv_aload_n hx hb dX0_layOut_10 rfl (lv_at hl 1 rfl) ?_
  refine lv_iload_n hx hb dX0_layOut_11 rfl (lv_at hl 3 rfl) ?_
  refine va_put (D := D) (ci := 6) (v := .int p1) (ty := .char) (C := RX0) (T := TX0) (N := 4) hx hb ht in_X0 tyX0 tyX0_ok nmX0 hown hK.1 hP hD hS 0 rfl rfl 3 (by decide) (ht _ w_57) (fun _ h9 => h9) rfl (by decide +kernel) hc_p1.1 hc_p1.2 (Nat.le_of_ble_eq_true rfl) dX0_layOut_12 (fun H locs hP hD hS => ?_)
  have hP : va_P D vwCl [((a 10), .inr (6, [.ref (a 61), .ref (a 62), .int p0, .int p1])), ((a 61), .inl (g 0, 12, .inl (fun _ => 0))), ((a 62), .inl (g 0, 12, .inl (fun _ => 0)))] H := hP
  have hD : va_D (va_A [((a 10), f_wires a), ((a 61), .inl (g 0, 12, .inl (fun _ => 0))), ((a 62), .inl (g 0, 12, .inl (fun _ => 0)))] s.heap.size) [((a 10), .inr (6, [.ref (a 61), .ref (a 62), .int p0, .int p1])), ((a 61), .inl (g 0, 12, .inl (fun _ => 0))), ((a 62), .inl (g 0, 12, .inl (fun _ => 0)))] := hD
  refine lv_aload_n hx hb dX0_layOut_15 rfl (lv_at hl 1 rfl) ?_
  refine va_get (D := D) (ci := 6) (v := .ref (a 61)) (C := RX0) (T := TX0) (N := 4) hx hb ht in_X0 hown hK.1 hP 0 rfl rfl 0 (by decide) (ht _ w_58) (fun _ h9 => h9) rfl dX0_layOut_16 ?_
  refine lv_iconst (v := 2) hx hb dX0_layOut_19 (by decide) ?_
  have hPc : va_P D vwCl [((a 61), .inl (g 0, 12, .inl (fun _ => 0)))] _ := hP.sub (ws' := [((a 61), .inl (g 0, 12, .inl (fun _ => 0)))]) [1] rfl
  have hDc : va_D (fun q => z0 ≤ q) [((a 61), .inl (g 0, 12, .inl (fun _ => 0)))] := (hD.to hAz).pick (ws' := [((a 61), .inl (g 0, 12, .inl (fun _ => 0)))]) [1] (by decide) rfl
  have hFc := va_free (wc := [((a 61), .inl (g 0, 12, .inl (fun _ => 0)))]) hD hS hA [1] rfl
  refine va_callv (va_runS (As := [.ref (a 61), .int 2]) (rest := []) ⟨hx, hb, hml, hown, ht⟩ (k_fillI l D g z0 _ (a 61) 12 (fun _ => 0) 2 (by decide)) (va_cwS 2 ht (gS w_59 w_61 w_8 w_60) rfl rfl rfl (by decide +kernel) (le2 rfl rfl)) ⟨PP.blind, PP.mk' hK hZ hz hAz hS hPc hDc⟩ rfl rfl hl.1 rfl (lv_room (Nat.le_of_ble_eq_true rfl)) dX0_layOut_20 (le2 rfl rfl)) hS (fun q _ h => hFc q h) hFc (fun u t H locs ht1 hvm hw hB hz1 hk1 hS => ?_)
  obtain ⟨hP1, hD1⟩ := hB
  rw [ht1] at hP1
  obtain ⟨hP, hD⟩ := va_join (wr := [((a 10), .inr (6, [.ref (a 61), .ref (a 62), .int p0, .int p1])), ((a 62), .inl (g 0, 12, .inl (fun _ => 0)))]) (w1 := [((a 61), .inl (g 0, 12, .inl (fun _ => 2)))]) hP hD [1] [0, 2] rfl rfl (by decide) (by decide) hk1 hFc hP1 hD1
  have hP : va_P D vwCl [((a 10), .inr (6, [.ref (a 61), .ref (a 62), .int p0, .int p1])), ((a 62), .inl (g 0, 12, .inl (fun _ => 0))), ((a 61), .inl (g 0, 12, .inl (fun _ => 2)))] H := hP
  have hD : va_D (va_A [((a 10), f_wires a), ((a 61), .inl (g 0, 12, .inl (fun _ => 0))), ((a 62), .inl (g 0, 12, .inl (fun _ => 0)))] s.heap.size) [((a 10), .inr (6, [.ref (a 61), .ref (a 62), .int p0, .int p1])), ((a 62), .inl (g 0, 12, .inl (fun _ => 0))), ((a 61), .inl (g 0, 12, .inl (fun _ => 2)))] := hD
  refine lv_aload_n hx hb dX0_layOut_23 rfl (lv_at hl 1 rfl) ?_
  refine va_get (D := D) (ci := 6) (v := .ref (a 62)) (C := RX0) (T := TX0) (N := 4) hx hb ht in_X0 hown hK.1 hP 0 rfl rfl 1 (by decide) (ht _ w_62) (fun _ h9 => h9) rfl dX0_layOut_24 ?_
  refine lv_iconst (v := 0) hx hb dX0_layOut_27 (by decide) ?_
  have hPc : va_P D vwCl [((a 62), .inl (g 0, 12, .inl (fun _ => 0)))] _ := hP.sub (ws' := [((a 62), .inl (g 0, 12, .inl (fun _ => 0)))]) [1] rfl
  have hDc : va_D (fun q => z0 ≤ q) [((a 62), .inl (g 0, 12, .inl (fun _ => 0)))] := (hD.to hAz).pick (ws' := [((a 62), .inl (g 0, 12, .inl (fun _ => 0)))]) [1] (by decide) rfl
  have hFc := va_free (wc := [((a 62), .inl (g 0, 12, .inl (fun _ => 0)))]) hD hS hA [1] rfl
  refine va_callv (va_runS (As := [.ref (a 62), .int 0]) (rest := []) ⟨hx, hb, hml, hown, ht⟩ (k_fillI l D g z0 _ (a 62) 12 (fun _ => 0) 0 (by decide)) (va_cwS 2 ht (gS w_59 w_61 w_8 w_60) rfl rfl rfl (by decide +kernel) (le2 rfl rfl)) ⟨PP.blind, PP.mk' hK hZ hz hAz hS hPc hDc⟩ rfl rfl hl.1 rfl (lv_room (Nat.le_of_ble_eq_true rfl)) dX0_layOut_28 (le2 rfl rfl)) hS (fun q _ h => hFc q h) hFc (fun u t H locs ht1 hvm hw hB hz1 hk1 hS => ?_)
  obtain ⟨hP1, hD1⟩ := hB
  rw [ht1] at hP1
  obtain ⟨hP, hD⟩ := va_join (wr := [((a 10), .inr (6, [.ref (a 61), .ref (a 62), .int p0, .int p1])), ((a 61), .inl (g 0, 12, .inl (fun _ => 2)))]) (w1 := [((a 62), .inl (g 0, 12, .inl (fun _ => 0)))]) hP hD [1] [0, 2] rfl rfl (by decide) (by decide) hk1 hFc hP1 hD1
  have hP : va_P D vwCl [((a 10), .inr (6, [.ref (a 61), .ref (a 62), .int p0, .int p1])), ((a 61), .inl (g 0, 12, .inl (fun _ => 2))), ((a 62), .inl (g 0, 12, .inl (fun _ => 0)))] H := hP
  have hD : va_D (va_A [((a 10), f_wires a), ((a 61), .inl (g 0, 12, .inl (fun _ => 0))), ((a 62), .inl (g 0, 12, .inl (fun _ => 0)))] s.heap.size) [((a 10), .inr (6, [.ref (a 61), .ref (a 62), .int p0, .int p1])), ((a 61), .inl (g 0, 12, .inl (fun _ => 2))), ((a 62), .inl (g 0, 12, .inl (fun _ => 0)))] := hD
  refine lv_iload_n hx hb dX0_layOut_31 rfl (lv_at hl 0 rfl) ?_
  have hP9 := hP.sub (ws' := [((a 10), .inr (6, [.ref (a 61), .ref (a 62), .int p0, .int p1])), ((a 61), .inl (g 0, 12, .inl (fun _ => 2))), ((a 62), .inl (g 0, 12, .inl (fun _ => 0)))]) [0, 1, 2] rfl
  have hD9 := hD.sub (ws' := [((a 10), .inr (6, [.ref (a 61), .ref (a 62), .int p0, .int p1])), ((a 61), .inl (g 0, 12, .inl (fun _ => 2))), ((a 62), .inl (g 0, 12, .inl (fun _ => 0)))]) [0, 1, 2] (by decide) rfl
  refine W.widen (k := 0) (n := 0) (Nat.le_of_ble_eq_true rfl) (Nat.le_of_ble_eq_true rfl) ?_
  exact W.iret (v := 0) hx hb hr (fun t ht9 hW9 => ⟨⟨0, (), rfl, ⟨rfl, trivial⟩, ⟨(by rw [ht9]; exact hP9), hD9⟩⟩, hS.F ht9⟩) hS.2.2 dX0_layOut_32 hlocks
set_option maxHeartbeats 4000000 in
set_option maxRecDepth 100000 in
theorem k_X11_board (l : Launch) (hfl : l.stackTraces = false) (D : va_G) (g : Nat → ClassId) (z0 sz : Nat) (a : Nat → Nat) (p0 : Int32) (p1 : Int32) (hc_p1 : isC p1) : vx_Met l yX11_board (.code yX11_board cX11_board 3 (some .int) :: TG) (rmk 7 2 12 103) (va_Pc [.ref (a 0), .int p0, .int p1] (PP D g z0 sz [((a 0), f_x a), ((a 10), f_wires a), ((a 61), .inl (g 0, 12, .inl (fun _ => 0))), ((a 62), .inl (g 0, 12, .inl (fun _ => 0)))])) (va_Qi (fun (r : Int32) (u : Unit) => (r = 0) ∧ (((¬ p0 < 1) ∧ (p0 ≤ 12) ∧ (p1 = 97)) ∨ ((¬ p0 < 1) ∧ (p0 ≤ 12) ∧ (¬ p1 = 97) ∧ (p1 = 111)))) (fun (u : Unit) (t : State) => va_P D vwCl [] t.heap ∧ va_D (va_A [((a 0), f_x a), ((a 10), f_wires a), ((a 61), .inl (g 0, 12, .inl (fun _ => 0))), ((a 62), .inl (g 0, 12, .inl (fun _ => 0)))] sz) []) (va_A [((a 0), f_x a), ((a 10), f_wires a), ((a 61), .inl (g 0, 12, .inl (fun _ => 0))), ((a 62), .inl (g 0, 12, .inl (fun _ => 0)))] sz)) (vx_X (fun _ : Unit => True) (fun E _ _ => (E = "java/lang/IllegalArgumentException" ∧ ((p0 < 1) ∨ ((¬ p0 < 1) ∧ (¬ p0 ≤ 12)) ∨ ((¬ p0 < 1) ∧ (p0 ≤ 12) ∧ (¬ p1 = 97) ∧ (¬ p1 = 111))))) (va_A [((a 0), f_x a), ((a 10), f_wires a), ((a 61), .inl (g 0, 12, .inl (fun _ => 0))), ((a 62), .inl (g 0, 12, .inl (fun _ => 0)))] sz)) 2 12 (va_A [((a 0), f_x a), ((a 10), f_wires a), ((a 61), .inl (g 0, 12, .inl (fun _ => 0))), ((a 62), .inl (g 0, 12, .inl (fun _ => 0)))] sz) := by
  refine vxm0 (cc := cX11_board) (n := 3) (by decide) (Nat.le_of_ble_eq_true rfl) ?_
  intro p e s m args below meth c hx hb hr hml htab hown ht hlocks hnm hP0 hD0 hK hZ hsz hz ls hl
  subst hsz
  have hA : ∀ q : Nat, s.heap.size ≤ q → va_A [((a 0), f_x a), ((a 10), f_wires a), ((a 61), .inl (g 0, 12, .inl (fun _ => 0))), ((a 62), .inl (g 0, 12, .inl (fun _ => 0)))] s.heap.size q := Anw
  have hAz : ∀ q, va_A [((a 0), f_x a), ((a 10), f_wires a), ((a 61), .inl (g 0, 12, .inl (fun _ => 0))), ((a 62), .inl (g 0, 12, .inl (fun _ => 0)))] s.heap.size q → z0 ≤ q := Awz hz hD0
  have hS : va_S (va_A [((a 0), f_x a), ((a 10), f_wires a), ((a 61), .inl (g 0, 12, .inl (fun _ => 0))), ((a 62), .inl (g 0, 12, .inl (fun _ => 0)))] s.heap.size) s.heap s.heap [] := va_S.rf
  have hD : va_D (va_A [((a 0), f_x a), ((a 10), f_wires a), ((a 61), .inl (g 0, 12, .inl (fun _ => 0))), ((a 62), .inl (g 0, 12, .inl (fun _ => 0)))] s.heap.size) [((a 0), f_x a), ((a 10), f_wires a), ((a 61), .inl (g 0, 12, .inl (fun _ => 0))), ((a 62), .inl (g 0, 12, .inl (fun _ => 0)))] := hD0.self
  have hP : va_P D vwCl [((a 0), f_x a), ((a 10), f_wires a), ((a 61), .inl (g 0, 12, .inl (fun _ => 0))), ((a 62), .inl (g 0, 12, .inl (fun _ => 0)))] s.heap := hP0
  have hl : lv_has ls 3 [(0, .ref (a 0)), (1, .int p0), (2, .int p1)] := hl
  refine lv_iload_n hx hb dX11_board_0 rfl (lv_at hl 1 rfl) ?_
  refine lv_iconst (v := 1) hx hb dX11_board_1 (by decide) ?_
  refine lv_bipush (v := 12) hx hb dX11_board_2 (by decide) ?_
  have hPc : va_P D vwCl [] _ := hP.sub (ws' := []) [] rfl
  have hDc : va_D (fun q => z0 ≤ q) [] := (hD.to hAz).pick (ws' := []) [] (by decide) rfl
  have hFc := AnA (ws := [((a 0), f_x a), ((a 10), f_wires a), ((a 61), .inl (g 0, 12, .inl (fun _ => 0))), ((a 62), .inl (g 0, 12, .inl (fun _ => 0)))]) hS.1
  refine vx_callv (vx_runS (As := [.int p0, .int 1, .int 12]) (rest := []) ⟨hx, hb, hml, hown, ht⟩ (k_X11_needRange l hfl D g z0 _ a p0 1 12) (va_cwS 3 ht (gS w_53 w_55 w_31 w_54) rfl rfl rfl (by decide +kernel) (le2 rfl rfl)) ⟨PP.blind, PP.mk' hK hZ hz hAz hS hPc hDc⟩ rfl rfl hl.1 rfl (lv_room (Nat.le_of_ble_eq_true rfl)) dX11_board_4 (le2 rfl rfl)) hS (fun q _ h => hFc q h) hFc (fun q _ h => hFc q h) (fun E ce q9 u t H locs ht1 hvm hw hB hz1 hk1 hS hcell hv9 hcl => ?_) (fun u t H locs ht1 hvm hw hB hz1 hk1 hS => ?_)
  · obtain ⟨rfl, hB⟩ := hB
    rcases hB with hB | hB
    · have c_1 := hB
      exact out0 htab hlocks hS hcell hv9 hcl (fun t _ hF => ⟨(), trivial, ⟨rfl, (Or.inl c_1)⟩, hF⟩) (fun _ h => h) rfl rfl
    · obtain ⟨c_2, c_3⟩ := hB
      exact out0 htab hlocks hS hcell hv9 hcl (fun t _ hF => ⟨(), trivial, ⟨rfl, (Or.inr (Or.inl ⟨c_2, c_3⟩))⟩, hF⟩) (fun _ h => h) rfl rfl
  · obtain ⟨c_4, c_5⟩ := hw
    have hP := ro1 hP hk1
    refine lv_iload_n hx hb dX11_board_7 rfl (lv_at hl 2 rfl) ?_
    refine lv_bipush (v := 97) hx hb dX11_board_8 (by decide) ?_
    refine lv_icmp_eq (tgt := 27) hx hb dX11_board_10 (by decide) (fun c_6 => ?_) (fun c_6 => ?_)
    · refine lv_aload_n hx hb dX11_board_27 rfl (lv_at hl 0 rfl) ?_
      refine va_get (D := D) (ci := 17) (v := .ref (a 10)) (C := RX11) (T := TX11) (N := 11) hx hb ht in_X11 hown hK.1 hP 0 rfl rfl 9 (by decide) (ht _ w_49) (fun _ h9 => h9) rfl dX11_board_28 ?_
      refine lv_iload_n hx hb dX11_board_31 rfl (lv_at hl 1 rfl) ?_
      refine lv_iload_n hx hb dX11_board_32 rfl (lv_at hl 2 rfl) ?_
      have hPc : va_P D vwCl [((a 10), f_wires a), ((a 61), .inl (g 0, 12, .inl (fun _ => 0))), ((a 62), .inl (g 0, 12, .inl (fun _ => 0)))] _ := hP.sub (ws' := [((a 10), f_wires a), ((a 61), .inl (g 0, 12, .inl (fun _ => 0))), ((a 62), .inl (g 0, 12, .inl (fun _ => 0)))]) [1, 2, 3] rfl
      have hDc : va_D (fun q => z0 ≤ q) [((a 10), f_wires a), ((a 61), .inl (g 0, 12, .inl (fun _ => 0))), ((a 62), .inl (g 0, 12, .inl (fun _ => 0)))] := (hD.to hAz).pick (ws' := [((a 10), f_wires a), ((a 61), .inl (g 0, 12, .inl (fun _ => 0))), ((a 62), .inl (g 0, 12, .inl (fun _ => 0)))]) [1, 2, 3] (by decide) rfl
      have hFc := va_free (wc := [((a 10), f_wires a), ((a 61), .inl (g 0, 12, .inl (fun _ => 0))), ((a 62), .inl (g 0, 12, .inl (fun _ => 0)))]) hD hS hA [1, 2, 3] rfl
      refine va_calli (va_runV (As := [.int p0, .int p1]) (rest := []) ⟨hx, hb, hml, hown, ht⟩ (k_X0_layOut l D g z0 _ a p0 p1 hc_p1) (cwV 2 ht (gV w_63 w_65 w_66 w_67 w_64) rfl rfl rfl (by decide +kernel) (le2 rfl rfl)) ⟨PP.blind, va_recv hK.1 hP (ci := 6) (q0 := 1) rfl rfl, PP.mk' hK hZ hz hAz hS hPc hDc⟩ rfl rfl hl.1 rfl (lv_room (Nat.le_of_ble_eq_true rfl)) dX11_board_33 (le2 rfl rfl)) hS (fun q _ h => hFc q h) hFc (fun r u t H locs ht1 hvm hw hB hz1 hk1 hS => ?_)
      obtain ⟨rfl, hw⟩ := hw
      obtain ⟨hP1, hD1⟩ := hB
      rw [ht1] at hP1
      obtain ⟨hP, hD⟩ := va_join (wr := [((a 0), f_x a)]) (w1 := [((a 10), .inr (6, [.ref (a 61), .ref (a 62), .int p0, .int p1])), ((a 61), .inl (g 0, 12, .inl (fun _ => 2))), ((a 62), .inl (g 0, 12, .inl (fun _ => 0)))]) hP hD [1, 2, 3] [0] rfl rfl (by decide) (by decide) hk1 hFc hP1 hD1
      have hP : va_P D vwCl [((a 0), f_x a), ((a 10), .inr (6, [.ref (a 61), .ref (a 62), .int p0, .int p1])), ((a 61), .inl (g 0, 12, .inl (fun _ => 2))), ((a 62), .inl (g 0, 12, .inl (fun _ => 0)))] H := hP
      have hD : va_D (va_A [((a 0), f_x a), ((a 10), f_wires a), ((a 61), .inl (g 0, 12, .inl (fun _ => 0))), ((a 62), .inl (g 0, 12, .inl (fun _ => 0)))] s.heap.size) [((a 0), f_x a), ((a 10), .inr (6, [.ref (a 61), .ref (a 62), .int p0, .int p1])), ((a 61), .inl (g 0, 12, .inl (fun _ => 2))), ((a 62), .inl (g 0, 12, .inl (fun _ => 0)))] := hD
      have hP9 := hP.sub (ws' := []) [] rfl
      have hD9 := hD.sub (ws' := []) [] (by decide) rfl
      refine vx_ret (W.widen (k := 2) (n := 12) (Nat.le_of_ble_eq_true rfl) (Nat.le_of_ble_eq_true rfl) ?_)
      exact W.iret (v := 0) hx hb hr (fun t ht9 hW9 => ⟨⟨0, (), rfl, ⟨rfl, (Or.inl ⟨c_4, c_5, c_6⟩)⟩, ⟨(by rw [ht9]; exact hP9), hD9⟩⟩, hS.F ht9⟩) hS.2.2 dX11_board_36 hlocks
    · refine lv_iload_n hx hb dX11_board_13 rfl (lv_at hl 2 rfl) ?_
      refine lv_bipush (v := 111) hx hb dX11_board_14 (by decide) ?_
      refine lv_icmp_eq (tgt := 27) hx hb dX11_board_16 (by decide) (fun c_7 => ?_) (fun c_7 => ?_)
      · refine lv_aload_n hx hb dX11_board_27 rfl (lv_at hl 0 rfl) ?_
        refine va_get (D := D) (ci := 17) (v := .ref (a 10)) (C := RX11) (T := TX11) (N := 11) hx hb ht in_X11 hown hK.1 hP 0 rfl rfl 9 (by decide) (ht _ w_49) (fun _ h9 => h9) rfl dX11_board_28 ?_
        refine lv_iload_n hx hb dX11_board_31 rfl (lv_at hl 1 rfl) ?_
        refine lv_iload_n hx hb dX11_board_32 rfl (lv_at hl 2 rfl) ?_
        have hPc : va_P D vwCl [((a 10), f_wires a), ((a 61), .inl (g 0, 12, .inl (fun _ => 0))), ((a 62), .inl (g 0, 12, .inl (fun _ => 0)))] _ := hP.sub (ws' := [((a 10), f_wires a), ((a 61), .inl (g 0, 12, .inl (fun _ => 0))), ((a 62), .inl (g 0, 12, .inl (fun _ => 0)))]) [1, 2, 3] rfl
        have hDc : va_D (fun q => z0 ≤ q) [((a 10), f_wires a), ((a 61), .inl (g 0, 12, .inl (fun _ => 0))), ((a 62), .inl (g 0, 12, .inl (fun _ => 0)))] := (hD.to hAz).pick (ws' := [((a 10), f_wires a), ((a 61), .inl (g 0, 12, .inl (fun _ => 0))), ((a 62), .inl (g 0, 12, .inl (fun _ => 0)))]) [1, 2, 3] (by decide) rfl
        have hFc := va_free (wc := [((a 10), f_wires a), ((a 61), .inl (g 0, 12, .inl (fun _ => 0))), ((a 62), .inl (g 0, 12, .inl (fun _ => 0)))]) hD hS hA [1, 2, 3] rfl
        refine va_calli (va_runV (As := [.int p0, .int p1]) (rest := []) ⟨hx, hb, hml, hown, ht⟩ (k_X0_layOut l D g z0 _ a p0 p1 hc_p1) (cwV 2 ht (gV w_63 w_65 w_66 w_67 w_64) rfl rfl rfl (by decide +kernel) (le2 rfl rfl)) ⟨PP.blind, va_recv hK.1 hP (ci := 6) (q0 := 1) rfl rfl, PP.mk' hK hZ hz hAz hS hPc hDc⟩ rfl rfl hl.1 rfl (lv_room (Nat.le_of_ble_eq_true rfl)) dX11_board_33 (le2 rfl rfl)) hS (fun q _ h => hFc q h) hFc (fun r u t H locs ht1 hvm hw hB hz1 hk1 hS => ?_)
        obtain ⟨rfl, hw⟩ := hw
        obtain ⟨hP1, hD1⟩ := hB
        rw [ht1] at hP1
        obtain ⟨hP, hD⟩ := va_join (wr := [((a 0), f_x a)]) (w1 := [((a 10), .inr (6, [.ref (a 61), .ref (a 62), .int p0, .int p1])), ((a 61), .inl (g 0, 12, .inl (fun _ => 2))), ((a 62), .inl (g 0, 12, .inl (fun _ => 0)))]) hP hD [1, 2, 3] [0] rfl rfl (by decide) (by decide) hk1 hFc hP1 hD1
        have hP : va_P D vwCl [((a 0), f_x a), ((a 10), .inr (6, [.ref (a 61), .ref (a 62), .int p0, .int p1])), ((a 61), .inl (g 0, 12, .inl (fun _ => 2))), ((a 62), .inl (g 0, 12, .inl (fun _ => 0)))] H := hP
        have hD : va_D (va_A [((a 0), f_x a), ((a 10), f_wires a), ((a 61), .inl (g 0, 12, .inl (fun _ => 0))), ((a 62), .inl (g 0, 12, .inl (fun _ => 0)))] s.heap.size) [((a 0), f_x a), ((a 10), .inr (6, [.ref (a 61), .ref (a 62), .int p0, .int p1])), ((a 61), .inl (g 0, 12, .inl (fun _ => 2))), ((a 62), .inl (g 0, 12, .inl (fun _ => 0)))] := hD
        have hP9 := hP.sub (ws' := []) [] rfl
        have hD9 := hD.sub (ws' := []) [] (by decide) rfl
        refine vx_ret (W.widen (k := 2) (n := 12) (Nat.le_of_ble_eq_true rfl) (Nat.le_of_ble_eq_true rfl) ?_)
        exact W.iret (v := 0) hx hb hr (fun t ht9 hW9 => ⟨⟨0, (), rfl, ⟨rfl, (Or.inr ⟨c_4, c_5, c_6, c_7⟩)⟩, ⟨(by rw [ht9]; exact hP9), hD9⟩⟩, hS.F ht9⟩) hS.2.2 dX11_board_36 hlocks
      · exact thr0 hx hb hfl hown ht hK.2.2 hZ hAz hS hl hml htab hlocks (by decide +kernel) w_43 w_44 at_X11_116 dX11_board_19 dX11_board_22 dX11_board_23 dX11_board_26 rfl rfl rfl rfl (fun t _ hF => ⟨(), trivial, ⟨rfl, (Or.inr (Or.inr ⟨c_4, c_5, c_6, c_7⟩))⟩, hF⟩) (fun _ h => h) rfl rfl
set_option maxHeartbeats 4000000 in
set_option maxRecDepth 100000 in
theorem k_X11_needClosedNet (l : Launch) (hfl : l.stackTraces = false) (D : va_G) (g : Nat → ClassId) (z0 sz : Nat) (a : Nat → Nat) : vx_Met l yX11_needClosedNet (.code yX11_needClosedNet cX11_needClosedNet 1 none :: TG) (rmk 6 1 6 81) (va_Pc [.ref (a 0)] (PP D g z0 sz [((a 0), f_x a), ((a 1), f_net a)])) (va_Qv (fun (u : Unit) => False) (fun (_ : Unit) (_ : State) => True) (va_A [] sz)) (vx_X (fun _ : Unit => True) (fun E _ _ => (E = "java/lang/UnsupportedOperationException" ∧ True)) (va_A [] sz)) 1 6 (va_A [] sz) := by
  refine vxm0 (cc := cX11_needClosedNet) (n := 1) (by decide) (Nat.le_of_ble_eq_true rfl) ?_
  intro p e s m args below meth c hx hb hr hml htab hown ht hlocks hnm hP0 hD0 hK hZ hsz hz ls hl
  subst hsz
  have hA : ∀ q : Nat, s.heap.size ≤ q → va_A [] s.heap.size q := Anw
  have hAz : ∀ q, va_A [] s.heap.size q → z0 ≤ q := A0z hz
  have hS : va_S (va_A [] s.heap.size) s.heap s.heap [] := va_S.rf
  have hl : lv_has ls 1 [(0, .ref (a 0))] := hl
  refine lv_aload_n hx hb dX11_needClosedNet_0 rfl (lv_at hl 0 rfl) ?_
  refine va_get (D := D) (ci := 17) (v := .ref (a 1)) (C := RX11) (T := TX11) (N := 11) hx hb ht in_X11 hown hK.1 (ro0 hP0 hS) 0 rfl rfl 0 (by decide) (ht _ w_68) (fun _ h9 => h9) rfl dX11_needClosedNet_1 ?_
  refine va_get (D := D) (ci := 12) (v := .int 0) (C := RX6) (T := TX6) (N := 18) hx hb ht in_X6 hown hK.1 (ro0 hP0 hS) 1 rfl rfl 17 (by decide) (ht _ w_70) (fun _ h9 => h9) rfl dX11_needClosedNet_4 ?_
  refine lv_if_ne (tgt := 18) hx hb dX11_needClosedNet_7 (by decide) (fun c_1 => ?_) (fun c_1 => ?_)
  · exact absurd c_1 (by decide)
  · exact thr0 hx hb hfl hown ht hK.2.2 hZ hAz hS hl hml htab hlocks (by decide +kernel) w_71 w_72 at_X11_127 dX11_needClosedNet_10 dX11_needClosedNet_13 dX11_needClosedNet_14 dX11_needClosedNet_17 rfl rfl rfl rfl (fun t _ hF => ⟨(), trivial, ⟨rfl, trivial⟩, hF⟩) (fun _ h => h) rfl rfl
set_option maxHeartbeats 4000000 in
set_option maxRecDepth 100000 in
theorem k_X11_breakChain (l : Launch) (hfl : l.stackTraces = false) (D : va_G) (g : Nat → ClassId) (z0 sz : Nat) (a : Nat → Nat) (p0 : Int32) (p1 : Int32) : vx_Met l yX11_breakChain (.code yX11_breakChain cX11_breakChain 4 (some .int) :: TG) (rmk 7 3 18 103) (va_Pc [.ref (a 0), .int p0, .int p1] (PP D g z0 sz [((a 0), f_x a), ((a 1), f_net a)])) (va_Qi (fun (r : Int32) (u : Unit) => False) (fun (_ : Unit) (_ : State) => True) (va_A [] sz)) (vx_X (fun _ : Unit => True) (fun E _ _ => (E = "java/lang/IllegalArgumentException" ∧ ((p0 < (-1)) ∨ ((¬ p0 < (-1)) ∧ (¬ p0 ≤ (-1))) ∨ ((¬ p0 < (-1)) ∧ (p0 ≤ (-1)) ∧ (p1 < 0)) ∨ ((¬ p0 < (-1)) ∧ (p0 ≤ (-1)) ∧ (¬ p1 < 0) ∧ (¬ p1 ≤ 1)))) ∨ (E = "java/lang/UnsupportedOperationException" ∧ ((¬ p0 < (-1)) ∧ (p0 ≤ (-1)) ∧ (¬ p1 < 0) ∧ (p1 ≤ 1)))) (va_A [] sz)) 3 18 (va_A [] sz) := by
  refine vxm0 (cc := cX11_breakChain) (n := 4) (by decide) (Nat.le_of_ble_eq_true rfl) ?_
  intro p e s m args below meth c hx hb hr hml htab hown ht hlocks hnm hP0 hD0 hK hZ hsz hz ls hl
  subst hsz
  have hA : ∀ q : Nat, s.heap.size ≤ q → va_A [] s.heap.size q := Anw
  have hAz : ∀ q, va_A [] s.heap.size q → z0 ≤ q := A0z hz
  have hS : va_S (va_A [] s.heap.size) s.heap s.heap [] := va_S.rf
  have hl : lv_has ls 4 [(0, .ref (a 0)), (1, .int p0), (2, .int p1)] := hl
  refine lv_iload_n hx hb dX11_breakChain_0 rfl (lv_at hl 1 rfl) ?_
  refine lv_iconst (v := (-1)) hx hb dX11_breakChain_1 (by decide) ?_
  refine lv_aload_n hx hb dX11_breakChain_2 rfl (lv_at hl 0 rfl) ?_
  refine va_get (D := D) (ci := 17) (v := .ref (a 1)) (C := RX11) (T := TX11) (N := 11) hx hb ht in_X11 hown hK.1 (ro0 hP0 hS) 0 rfl rfl 0 (by decide) (ht _ w_68) (fun _ h9 => h9) rfl dX11_breakChain_3 ?_
  refine va_get (D := D) (ci := 12) (v := .int 0) (C := RX6) (T := TX6) (N := 18) hx hb ht in_X6 hown hK.1 (ro0 hP0 hS) 1 rfl rfl 14 (by decide) (ht _ w_69) (fun _ h9 => h9) rfl dX11_breakChain_6 ?_
  refine lv_iconst (v := 1) hx hb dX11_breakChain_9 (by decide) ?_
  refine lv_isub hx hb dX11_breakChain_10 ?_
  refine r_topi (v := (-1)) (by decide) ?_
  have hPc : va_P D vwCl [] _ := (ro0 hP0 hS).sub (ws' := []) [] rfl
  have hDc : va_D (fun q => z0 ≤ q) [] := hD0.pick (ws' := []) [] (by decide) rfl
  have hFc := AnA (ws := []) hS.1
  refine vx_callv (vx_runS (As := [.int p0, .int (-1), .int (-1)]) (rest := []) ⟨hx, hb, hml, hown, ht⟩ (k_X11_needRange l hfl D g z0 _ a p0 (-1) (-1)) (va_cwS 3 ht (gS w_53 w_55 w_31 w_54) rfl rfl rfl (by decide +kernel) (le2 rfl rfl)) ⟨PP.blind, PP.mk' hK hZ hz hAz hS hPc hDc⟩ rfl rfl hl.1 rfl (lv_room (Nat.le_of_ble_eq_true rfl)) dX11_breakChain_11 (le2 rfl rfl)) hS (fun q _ h => hFc q h) hFc (fun q _ h => hFc q h) (fun E ce q9 u t H locs ht1 hvm hw hB hz1 hk1 hS hcell hv9 hcl => ?_) (fun u t H locs ht1 hvm hw hB hz1 hk1 hS => ?_)
  · obtain ⟨rfl, hB⟩ := hB
    rcases hB with hB | hB
    · have c_1 := hB
      exact out0 htab hlocks hS hcell hv9 hcl (fun t _ hF => ⟨(), trivial, (Or.inl ⟨rfl, (Or.inl c_1)⟩), hF⟩) (fun _ h => h) rfl rfl
    · obtain ⟨c_2, c_3⟩ := hB
      exact out0 htab hlocks hS hcell hv9 hcl (fun t _ hF => ⟨(), trivial, (Or.inl ⟨rfl, (Or.inr (Or.inl ⟨c_2, c_3⟩))⟩), hF⟩) (fun _ h => h) rfl rfl
  · obtain ⟨c_4, c_5⟩ := hw
    refine lv_iload_n hx hb dX11_breakChain_14 rfl (lv_at hl 2 rfl) ?_
    refine lv_iconst (v := 0) hx hb dX11_breakChain_15 (by decide) ?_
    refine lv_iconst (v := 1) hx hb dX11_breakChain_16 (by decide) ?_
    have hPc : va_P D vwCl [] _ := (ro0 hP0 hS).sub (ws' := []) [] rfl
    have hDc : va_D (fun q => z0 ≤ q) [] := hD0.pick (ws' := []) [] (by decide) rfl
    have hFc := AnA (ws := []) hS.1
    refine vx_callv (vx_runS (As := [.int p1, .int 0, .int 1]) (rest := []) ⟨hx, hb, hml, hown, ht⟩ (k_X11_needRange l hfl D g z0 _ a p1 0 1) (va_cwS 3 ht (gS w_53 w_55 w_31 w_54) rfl rfl rfl (by decide +kernel) (le2 rfl rfl)) ⟨PP.blind, PP.mk' hK hZ hz hAz hS hPc hDc⟩ rfl rfl hl.1 rfl (lv_room (Nat.le_of_ble_eq_true rfl)) dX11_breakChain_17 (le2 rfl rfl)) hS (fun q _ h => hFc q h) hFc (fun q _ h => hFc q h) (fun E ce q9 u t H locs ht1 hvm hw hB hz1 hk1 hS hcell hv9 hcl => ?_) (fun u t H locs ht1 hvm hw hB hz1 hk1 hS => ?_)
    · obtain ⟨rfl, hB⟩ := hB
      rcases hB with hB | hB
      · have c_6 := hB
        exact out0 htab hlocks hS hcell hv9 hcl (fun t _ hF => ⟨(), trivial, (Or.inl ⟨rfl, (Or.inr (Or.inr (Or.inl ⟨c_4, c_5, c_6⟩)))⟩), hF⟩) (fun _ h => h) rfl rfl
      · obtain ⟨c_7, c_8⟩ := hB
        exact out0 htab hlocks hS hcell hv9 hcl (fun t _ hF => ⟨(), trivial, (Or.inl ⟨rfl, (Or.inr (Or.inr (Or.inr ⟨c_4, c_5, c_7, c_8⟩)))⟩), hF⟩) (fun _ h => h) rfl rfl
    · obtain ⟨c_9, c_10⟩ := hw
      refine lv_aload_n hx hb dX11_breakChain_20 rfl (lv_at hl 0 rfl) ?_
      have hPc : va_P D vwCl [((a 0), f_x a), ((a 1), f_net a)] _ := (ro0 hP0 hS).sub (ws' := [((a 0), f_x a), ((a 1), f_net a)]) [0, 1] rfl
      have hDc : va_D (fun q => z0 ≤ q) [((a 0), f_x a), ((a 1), f_net a)] := hD0.pick (ws' := [((a 0), f_x a), ((a 1), f_net a)]) [0, 1] (by decide) rfl
      have hFc := AnA (ws := []) hS.1
      refine vx_callv (vx_runV (As := []) (rest := []) ⟨hx, hb, hml, hown, ht⟩ (k_X11_needClosedNet l hfl D g z0 _ a) (cwV 0 ht (gV w_73 w_75 w_76 w_31 w_74) rfl rfl rfl (by decide +kernel) (le2 rfl rfl)) ⟨PP.blind, va_recv hK.1 (ro0 hP0 hS) (ci := 17) (q0 := 0) rfl rfl, PP.mk' hK hZ hz hAz hS hPc hDc⟩ rfl rfl hl.1 rfl (lv_room (Nat.le_of_ble_eq_true rfl)) dX11_breakChain_21 (le2 rfl rfl)) hS (fun q _ h => hFc q h) hFc (fun q _ h => hFc q h) (fun E ce q9 u t H locs ht1 hvm hw hB hz1 hk1 hS hcell hv9 hcl => ?_) (fun u t H locs ht1 hvm hw hB hz1 hk1 hS => ?_)
      · obtain ⟨rfl, hB⟩ := hB
        exact out0 htab hlocks hS hcell hv9 hcl (fun t _ hF => ⟨(), trivial, (Or.inr ⟨rfl, ⟨c_4, c_5, c_9, c_10⟩⟩), hF⟩) (fun _ h => h) rfl rfl
      · exact hw.elim
set_option maxHeartbeats 4000000 in
set_option maxRecDepth 100000 in
theorem k_X11_needStuck (l : Launch) (hfl : l.stackTraces = false) (D : va_G) (g : Nat → ClassId) (z0 sz : Nat) (a : Nat → Nat) (p0 : Int32) : vx_Met l yX11_needStuck (.code yX11_needStuck cX11_needStuck 2 none :: TG) (rmk 7 1 6 102) (va_Pc [.ref (a 0), .int p0] (PP D g z0 sz [((a 0), f_x a), ((a 2), f_book a)])) (va_Qv (fun (u : Unit) => False) (fun (_ : Unit) (_ : State) => True) (va_A [] sz)) (vx_X (fun _ : Unit => True) (fun E _ _ => (E = "java/lang/IndexOutOfBoundsException" ∧ True)) (va_A [] sz)) 1 6 (va_A [] sz) := by
  refine vxm0 (cc := cX11_needStuck) (n := 2) (by decide) (Nat.le_of_ble_eq_true rfl) ?_
  intro p e s m args below meth c hx hb hr hml htab hown ht hlocks hnm hP0 hD0 hK hZ hsz hz ls hl
  subst hsz
  have hA : ∀ q : Nat, s.heap.size ≤ q → va_A [] s.heap.size q := Anw
  have hAz : ∀ q, va_A [] s.heap.size q → z0 ≤ q := A0z hz
  have hS : va_S (va_A [] s.heap.size) s.heap s.heap [] := va_S.rf
  have hl : lv_has ls 2 [(0, .ref (a 0)), (1, .int p0)] := hl
  refine lv_aload_n hx hb dX11_needStuck_0 rfl (lv_at hl 0 rfl) ?_
  refine lv_iload_n hx hb dX11_needStuck_1 rfl (lv_at hl 1 rfl) ?_
  have hPc : va_P D vwCl [((a 0), f_x a), ((a 2), f_book a)] _ := (ro0 hP0 hS).sub (ws' := [((a 0), f_x a), ((a 2), f_book a)]) [0, 1] rfl
  have hDc : va_D (fun q => z0 ≤ q) [((a 0), f_x a), ((a 2), f_book a)] := hD0.pick (ws' := [((a 0), f_x a), ((a 2), f_book a)]) [0, 1] (by decide) rfl
  have hFc := AnA (ws := []) hS.1
  refine vx_callv (vx_runV (As := [.int p0]) (rest := []) ⟨hx, hb, hml, hown, ht⟩ (k_X11_needFault l hfl D g z0 _ a p0) (cwV 1 ht (gV w_37 w_39 w_40 w_31 w_38) rfl rfl rfl (by decide +kernel) (le2 rfl rfl)) ⟨PP.blind, va_recv hK.1 (ro0 hP0 hS) (ci := 17) (q0 := 0) rfl rfl, PP.mk' hK hZ hz hAz hS hPc hDc⟩ rfl rfl hl.1 rfl (lv_room (Nat.le_of_ble_eq_true rfl)) dX11_needStuck_2 (le2 rfl rfl)) hS (fun q _ h => hFc q h) hFc (fun q _ h => hFc q h) (fun E ce q9 u t H locs ht1 hvm hw hB hz1 hk1 hS hcell hv9 hcl => ?_) (fun u t H locs ht1 hvm hw hB hz1 hk1 hS => ?_)
  · obtain ⟨rfl, hB⟩ := hB
    exact out0 htab hlocks hS hcell hv9 hcl (fun t _ hF => ⟨(), trivial, ⟨rfl, trivial⟩, hF⟩) (fun _ h => h) rfl rfl
  · exact hw.elim
set_option maxHeartbeats 4000000 in
set_option maxRecDepth 100000 in
theorem k_X11_breakChip (l : Launch) (hfl : l.stackTraces = false) (D : va_G) (g : Nat → ClassId) (z0 sz : Nat) (a : Nat → Nat) (p0 : Int32) : vx_Met l yX11_breakChip (.code yX11_breakChip cX11_breakChip 2 (some .int) :: TG) (rmk 8 1 6 123) (va_Pc [.ref (a 0), .int p0] (PP D g z0 sz [((a 0), f_x a), ((a 2), f_book a)])) (va_Qi (fun (r : Int32) (u : Unit) => False) (fun (_ : Unit) (_ : State) => True) (va_A [] sz)) (vx_X (fun _ : Unit => True) (fun E _ _ => (E = "java/lang/IndexOutOfBoundsException" ∧ True)) (va_A [] sz)) 1 6 (va_A [] sz) := by
  refine vxm0 (cc := cX11_breakChip) (n := 2) (by decide) (Nat.le_of_ble_eq_true rfl) ?_
  intro p e s m args below meth c hx hb hr hml htab hown ht hlocks hnm hP0 hD0 hK hZ hsz hz ls hl
  subst hsz
  have hA : ∀ q : Nat, s.heap.size ≤ q → va_A [] s.heap.size q := Anw
  have hAz : ∀ q, va_A [] s.heap.size q → z0 ≤ q := A0z hz
  have hS : va_S (va_A [] s.heap.size) s.heap s.heap [] := va_S.rf
  have hl : lv_has ls 2 [(0, .ref (a 0)), (1, .int p0)] := hl
  refine lv_aload_n hx hb dX11_breakChip_0 rfl (lv_at hl 0 rfl) ?_
  refine lv_iload_n hx hb dX11_breakChip_1 rfl (lv_at hl 1 rfl) ?_
  have hPc : va_P D vwCl [((a 0), f_x a), ((a 2), f_book a)] _ := (ro0 hP0 hS).sub (ws' := [((a 0), f_x a), ((a 2), f_book a)]) [0, 1] rfl
  have hDc : va_D (fun q => z0 ≤ q) [((a 0), f_x a), ((a 2), f_book a)] := hD0.pick (ws' := [((a 0), f_x a), ((a 2), f_book a)]) [0, 1] (by decide) rfl
  have hFc := AnA (ws := []) hS.1
  refine vx_callv (vx_runV (As := [.int p0]) (rest := []) ⟨hx, hb, hml, hown, ht⟩ (k_X11_needStuck l hfl D g z0 _ a p0) (cwV 1 ht (gV w_77 w_79 w_80 w_31 w_78) rfl rfl rfl (by decide +kernel) (le2 rfl rfl)) ⟨PP.blind, va_recv hK.1 (ro0 hP0 hS) (ci := 17) (q0 := 0) rfl rfl, PP.mk' hK hZ hz hAz hS hPc hDc⟩ rfl rfl hl.1 rfl (lv_room (Nat.le_of_ble_eq_true rfl)) dX11_breakChip_2 (le2 rfl rfl)) hS (fun q _ h => hFc q h) hFc (fun q _ h => hFc q h) (fun E ce q9 u t H locs ht1 hvm hw hB hz1 hk1 hS hcell hv9 hcl => ?_) (fun u t H locs ht1 hvm hw hB hz1 hk1 hS => ?_)
  · obtain ⟨rfl, hB⟩ := hB
    exact out0 htab hlocks hS hcell hv9 hcl (fun t _ hF => ⟨(), trivial, ⟨rfl, trivial⟩, hF⟩) (fun _ h => h) rfl rfl
  · exact hw.elim
set_option maxHeartbeats 4000000 in
set_option maxRecDepth 100000 in
theorem k_X11_needLine (l : Launch) (hfl : l.stackTraces = false) (D : va_G) (g : Nat → ClassId) (z0 sz : Nat) (a : Nat → Nat) (p0 : Int32) : vx_Met l yX11_needLine (.code yX11_needLine cX11_needLine 2 none :: TG) (rmk 6 1 6 81) (va_Pc [.ref (a 0), .int p0] (PP D g z0 sz [((a 0), f_x a), ((a 1), f_net a)])) (va_Qv (fun (u : Unit) => False) (fun (_ : Unit) (_ : State) => True) (va_A [] sz)) (vx_X (fun _ : Unit => True) (fun E _ _ => (E = "java/lang/IndexOutOfBoundsException" ∧ True)) (va_A [] sz)) 1 6 (va_A [] sz) := by
  refine vxm0 (cc := cX11_needLine) (n := 2) (by decide) (Nat.le_of_ble_eq_true rfl) ?_
  intro p e s m args below meth c hx hb hr hml htab hown ht hlocks hnm hP0 hD0 hK hZ hsz hz ls hl
  subst hsz
  have hA : ∀ q : Nat, s.heap.size ≤ q → va_A [] s.heap.size q := Anw
  have hAz : ∀ q, va_A [] s.heap.size q → z0 ≤ q := A0z hz
  have hS : va_S (va_A [] s.heap.size) s.heap s.heap [] := va_S.rf
  have hl : lv_has ls 2 [(0, .ref (a 0)), (1, .int p0)] := hl
  refine lv_iload_n hx hb dX11_needLine_0 rfl (lv_at hl 1 rfl) ?_
  refine lv_if_lt (tgt := 15) hx hb dX11_needLine_1 (by decide) (fun c_1 => ?_) (fun c_1 => ?_)
  · exact thr0 hx hb hfl hown ht hK.2.2 hZ hAz hS hl hml htab hlocks (by decide +kernel) w_35 w_36 at_X11_102 dX11_needLine_15 dX11_needLine_18 dX11_needLine_19 dX11_needLine_22 rfl rfl rfl rfl (fun t _ hF => ⟨(), trivial, ⟨rfl, trivial⟩, hF⟩) (fun _ h => h) rfl rfl
  · refine lv_iload_n hx hb dX11_needLine_4 rfl (lv_at hl 1 rfl) ?_
    refine lv_aload_n hx hb dX11_needLine_5 rfl (lv_at hl 0 rfl) ?_
    refine va_get (D := D) (ci := 17) (v := .ref (a 1)) (C := RX11) (T := TX11) (N := 11) hx hb ht in_X11 hown hK.1 (ro0 hP0 hS) 0 rfl rfl 0 (by decide) (ht _ w_68) (fun _ h9 => h9) rfl dX11_needLine_6 ?_
    refine va_get (D := D) (ci := 12) (v := .int 0) (C := RX6) (T := TX6) (N := 18) hx hb ht in_X6 hown hK.1 (ro0 hP0 hS) 1 rfl rfl 12 (by decide) (ht _ w_81) (fun _ h9 => h9) rfl dX11_needLine_9 ?_
    refine lv_icmp_lt (tgt := 23) hx hb dX11_needLine_12 (by decide) (fun c_2 => ?_) (fun c_2 => ?_)
    · exact absurd c_2 c_1
    · exact thr0 hx hb hfl hown ht hK.2.2 hZ hAz hS hl hml htab hlocks (by decide +kernel) w_35 w_36 at_X11_102 dX11_needLine_15 dX11_needLine_18 dX11_needLine_19 dX11_needLine_22 rfl rfl rfl rfl (fun t _ hF => ⟨(), trivial, ⟨rfl, trivial⟩, hF⟩) (fun _ h => h) rfl rfl
set_option maxHeartbeats 4000000 in
set_option maxRecDepth 100000 in
theorem k_X11_bridge (l : Launch) (hfl : l.stackTraces = false) (D : va_G) (g : Nat → ClassId) (z0 sz : Nat) (a : Nat → Nat) (p0 : Int32) (p1 : Int32) (p2 : Int32) (hc_p0 : isC p0) : vx_Met l yX11_bridge (.code yX11_bridge cX11_bridge 4 (some .int) :: TG) (rmk 7 1 6 102) (va_Pc [.ref (a 0), .int p0, .int p1, .int p2] (PP D g z0 sz [((a 0), f_x a), ((a 1), f_net a)])) (va_Qi (fun (r : Int32) (u : Unit) => False) (fun (_ : Unit) (_ : State) => True) (va_A [] sz)) (vx_X (fun _ : Unit => True) (fun E _ _ => (E = "java/lang/IndexOutOfBoundsException" ∧ ((p0 = 119) ∨ ((¬ p0 = 119) ∧ (p0 = 117)) ∨ ((¬ p0 = 119) ∧ (¬ p0 = 117) ∧ (p0 = 100)))) ∨ (E = "java/lang/IllegalArgumentException" ∧ ((¬ p0 = 119) ∧ (¬ p0 = 117) ∧ (¬ p0 = 100)))) (va_A [] sz)) 1 6 (va_A [] sz) := by
  refine vxm0 (cc := cX11_bridge) (n := 4) (by decide) (Nat.le_of_ble_eq_true rfl) ?_
  intro p e s m args below meth c hx hb hr hml htab hown ht hlocks hnm hP0 hD0 hK hZ hsz hz ls hl
  subst hsz
  have hA : ∀ q : Nat, s.heap.size ≤ q → va_A [] s.heap.size q := Anw
  have hAz : ∀ q, va_A [] s.heap.size q → z0 ≤ q := A0z hz
  have hS : va_S (va_A [] s.heap.size) s.heap s.heap [] := va_S.rf
  have hl : lv_has ls 4 [(0, .ref (a 0)), (1, .int p0), (2, .int p1), (3, .int p2)] := hl
  refine lv_iload_n hx hb dX11_bridge_0 rfl (lv_at hl 1 rfl) ?_
  refine lv_bipush (v := 119) hx hb dX11_bridge_1 (by decide) ?_
  refine lv_icmp_eq (tgt := 26) hx hb dX11_bridge_3 (by decide) (fun c_1 => ?_) (fun c_1 => ?_)
  · refine lv_aload_n hx hb dX11_bridge_26 rfl (lv_at hl 0 rfl) ?_
    refine lv_iload_n hx hb dX11_bridge_27 rfl (lv_at hl 2 rfl) ?_
    have hPc : va_P D vwCl [((a 0), f_x a), ((a 1), f_net a)] _ := (ro0 hP0 hS).sub (ws' := [((a 0), f_x a), ((a 1), f_net a)]) [0, 1] rfl
    have hDc : va_D (fun q => z0 ≤ q) [((a 0), f_x a), ((a 1), f_net a)] := hD0.pick (ws' := [((a 0), f_x a), ((a 1), f_net a)]) [0, 1] (by decide) rfl
    have hFc := AnA (ws := []) hS.1
    refine vx_callv (vx_runV (As := [.int p1]) (rest := []) ⟨hx, hb, hml, hown, ht⟩ (k_X11_needLine l hfl D g z0 _ a p1) (cwV 1 ht (gV w_82 w_84 w_85 w_31 w_83) rfl rfl rfl (by decide +kernel) (le2 rfl rfl)) ⟨PP.blind, va_recv hK.1 (ro0 hP0 hS) (ci := 17) (q0 := 0) rfl rfl, PP.mk' hK hZ hz hAz hS hPc hDc⟩ rfl rfl hl.1 rfl (lv_room (Nat.le_of_ble_eq_true rfl)) dX11_bridge_28 (le2 rfl rfl)) hS (fun q _ h => hFc q h) hFc (fun q _ h => hFc q h) (fun E ce q9 u t H locs ht1 hvm hw hB hz1 hk1 hS hcell hv9 hcl => ?_) (fun u t H locs ht1 hvm hw hB hz1 hk1 hS => ?_)
    · obtain ⟨rfl, hB⟩ := hB
      exact out0 htab hlocks hS hcell hv9 hcl (fun t _ hF => ⟨(), trivial, (Or.inl ⟨rfl, (Or.inl c_1)⟩), hF⟩) (fun _ h => h) rfl rfl
    · exact hw.elim
  · refine lv_iload_n hx hb dX11_bridge_6 rfl (lv_at hl 1 rfl) ?_
    refine lv_bipush (v := 117) hx hb dX11_bridge_7 (by decide) ?_
    refine lv_icmp_eq (tgt := 26) hx hb dX11_bridge_9 (by decide) (fun c_2 => ?_) (fun c_2 => ?_)
    · refine lv_aload_n hx hb dX11_bridge_26 rfl (lv_at hl 0 rfl) ?_
      refine lv_iload_n hx hb dX11_bridge_27 rfl (lv_at hl 2 rfl) ?_
      have hPc : va_P D vwCl [((a 0), f_x a), ((a 1), f_net a)] _ := (ro0 hP0 hS).sub (ws' := [((a 0), f_x a), ((a 1), f_net a)]) [0, 1] rfl
      have hDc : va_D (fun q => z0 ≤ q) [((a 0), f_x a), ((a 1), f_net a)] := hD0.pick (ws' := [((a 0), f_x a), ((a 1), f_net a)]) [0, 1] (by decide) rfl
      have hFc := AnA (ws := []) hS.1
      refine vx_callv (vx_runV (As := [.int p1]) (rest := []) ⟨hx, hb, hml, hown, ht⟩ (k_X11_needLine l hfl D g z0 _ a p1) (cwV 1 ht (gV w_82 w_84 w_85 w_31 w_83) rfl rfl rfl (by decide +kernel) (le2 rfl rfl)) ⟨PP.blind, va_recv hK.1 (ro0 hP0 hS) (ci := 17) (q0 := 0) rfl rfl, PP.mk' hK hZ hz hAz hS hPc hDc⟩ rfl rfl hl.1 rfl (lv_room (Nat.le_of_ble_eq_true rfl)) dX11_bridge_28 (le2 rfl rfl)) hS (fun q _ h => hFc q h) hFc (fun q _ h => hFc q h) (fun E ce q9 u t H locs ht1 hvm hw hB hz1 hk1 hS hcell hv9 hcl => ?_) (fun u t H locs ht1 hvm hw hB hz1 hk1 hS => ?_)
      · obtain ⟨rfl, hB⟩ := hB
        exact out0 htab hlocks hS hcell hv9 hcl (fun t _ hF => ⟨(), trivial, (Or.inl ⟨rfl, (Or.inr (Or.inl ⟨c_1, c_2⟩))⟩), hF⟩) (fun _ h => h) rfl rfl
      · exact hw.elim
    · refine lv_iload_n hx hb dX11_bridge_12 rfl (lv_at hl 1 rfl) ?_
      refine lv_bipush (v := 100) hx hb dX11_bridge_13 (by decide) ?_
      refine lv_icmp_eq (tgt := 26) hx hb dX11_bridge_15 (by decide) (fun c_3 => ?_) (fun c_3 => ?_)
      · refine lv_aload_n hx hb dX11_bridge_26 rfl (lv_at hl 0 rfl) ?_
        refine lv_iload_n hx hb dX11_bridge_27 rfl (lv_at hl 2 rfl) ?_
        have hPc : va_P D vwCl [((a 0), f_x a), ((a 1), f_net a)] _ := (ro0 hP0 hS).sub (ws' := [((a 0), f_x a), ((a 1), f_net a)]) [0, 1] rfl
        have hDc : va_D (fun q => z0 ≤ q) [((a 0), f_x a), ((a 1), f_net a)] := hD0.pick (ws' := [((a 0), f_x a), ((a 1), f_net a)]) [0, 1] (by decide) rfl
        have hFc := AnA (ws := []) hS.1
        refine vx_callv (vx_runV (As := [.int p1]) (rest := []) ⟨hx, hb, hml, hown, ht⟩ (k_X11_needLine l hfl D g z0 _ a p1) (cwV 1 ht (gV w_82 w_84 w_85 w_31 w_83) rfl rfl rfl (by decide +kernel) (le2 rfl rfl)) ⟨PP.blind, va_recv hK.1 (ro0 hP0 hS) (ci := 17) (q0 := 0) rfl rfl, PP.mk' hK hZ hz hAz hS hPc hDc⟩ rfl rfl hl.1 rfl (lv_room (Nat.le_of_ble_eq_true rfl)) dX11_bridge_28 (le2 rfl rfl)) hS (fun q _ h => hFc q h) hFc (fun q _ h => hFc q h) (fun E ce q9 u t H locs ht1 hvm hw hB hz1 hk1 hS hcell hv9 hcl => ?_) (fun u t H locs ht1 hvm hw hB hz1 hk1 hS => ?_)
        · obtain ⟨rfl, hB⟩ := hB
          exact out0 htab hlocks hS hcell hv9 hcl (fun t _ hF => ⟨(), trivial, (Or.inl ⟨rfl, (Or.inr (Or.inr ⟨c_1, c_2, c_3⟩))⟩), hF⟩) (fun _ h => h) rfl rfl
        · exact hw.elim
      · exact thr0 hx hb hfl hown ht hK.2.2 hZ hAz hS hl hml htab hlocks (by decide +kernel) w_43 w_44 at_X11_116 dX11_bridge_18 dX11_bridge_21 dX11_bridge_22 dX11_bridge_25 rfl rfl rfl rfl (fun t _ hF => ⟨(), trivial, (Or.inr ⟨rfl, ⟨c_1, c_2, c_3⟩⟩), hF⟩) (fun _ h => h) rfl rfl
set_option maxHeartbeats 4000000 in
set_option maxRecDepth 100000 in
theorem k_X10_spread (l : Launch) (D : va_G) (g : Nat → ClassId) (z0 sz : Nat) (a : Nat → Nat) : Met l yX10_spread (.code yX10_spread cX10_spread 4 none :: TG) (rmk 0 0 0 0) (va_Pc [.ref (a 4)] (PP D g z0 sz [((a 4), .inr (16, [.ref (a 1), .ref (a 2), .ref (a 38), .ref (a 39), .ref (a 40), .ref (a 41), .ref (a 42), .ref (a 43), .ref (a 44), .ref (a 45), .ref (a 46), .ref (a 47), .long 0, .long 0, .long 0, .int 0, .int (-1)])), ((a 1), f_net a)])) (va_Qv (fun (u : Unit) => True) (fun (u : Unit) (t : State) => va_P D vwCl [((a 4), .inr (16, [.ref (a 1), .ref (a 2), .ref (a 38), .ref (a 39), .ref (a 40), .ref (a 41), .ref (a 42), .ref (a 43), .ref (a 44), .ref (a 45), .ref (a 46), .ref (a 47), .long 0, .long 0, .long 0, .int 0, .int (-1)])), ((a 1), f_net a)] t.heap ∧ va_D (va_A [((a 4), .inr (16, [.ref (a 1), .ref (a 2), .ref (a 38), .ref (a 39), .ref (a 40), .ref (a 41), .ref (a 42), .ref (a 43), .ref (a 44), .ref (a 45), .ref (a 46), .ref (a 47), .long 0, .long 0, .long 0, .int 0, .int (-1)])), ((a 1), f_net a)] sz) [((a 4), .inr (16, [.ref (a 1), .ref (a 2), .ref (a 38), .ref (a 39), .ref (a 40), .ref (a 41), .ref (a 42), .ref (a 43), .ref (a 44), .ref (a 45), .ref (a 46), .ref (a 47), .long 0, .long 0, .long 0, .int 0, .int (-1)])), ((a 1), f_net a)]) (va_A [((a 4), .inr (16, [.ref (a 1), .ref (a 2), .ref (a 38), .ref (a 39), .ref (a 40), .ref (a 41), .ref (a 42), .ref (a 43), .ref (a 44), .ref (a 45), .ref (a 46), .ref (a 47), .long 0, .long 0, .long 0, .int 0, .int (-1)])), ((a 1), f_net a)] sz)) 0 0 (va_A [((a 4), .inr (16, [.ref (a 1), .ref (a 2), .ref (a 38), .ref (a 39), .ref (a 40), .ref (a 41), .ref (a 42), .ref (a 43), .ref (a 44), .ref (a 45), .ref (a 46), .ref (a 47), .long 0, .long 0, .long 0, .int 0, .int (-1)])), ((a 1), f_net a)] sz) := by
  refine met0 (cc := cX10_spread) (n := 4) (by decide) (Nat.le_of_ble_eq_true rfl) ?_
  intro p e s m args below meth c hx hb hr hml hown ht hlocks hnm hP0 hD0 hK hZ hsz hz ls hl
  subst hsz
  have hA : ∀ q : Nat, s.heap.size ≤ q → va_A [((a 4), .inr (16, [.ref (a 1), .ref (a 2), .ref (a 38), .ref (a 39), .ref (a 40), .ref (a 41), .ref (a 42), .ref (a 43), .ref (a 44), .ref (a 45), .ref (a 46), .ref (a 47), .long 0, .long 0, .long 0, .int 0, .int (-1)])), ((a 1), f_net a)] s.heap.size q := Anw
  have hAz : ∀ q, va_A [((a 4), .inr (16, [.ref (a 1), .ref (a 2), .ref (a 38), .ref (a 39), .ref (a 40), .ref (a 41), .ref (a 42), .ref (a 43), .ref (a 44), .ref (a 45), .ref (a 46), .ref (a 47), .long 0, .long 0, .long 0, .int 0, .int (-1)])), ((a 1), f_net a)] s.heap.size q → z0 ≤ q := Awz hz hD0
  have hS : va_S (va_A [((a 4), .inr (16, [.ref (a 1), .ref (a 2), .ref (a 38), .ref (a 39), .ref (a 40), .ref (a 41), .ref (a 42), .ref (a 43), .ref (a 44), .ref (a 45), .ref (a 46), .ref (a 47), .long 0, .long 0, .long 0, .int 0, .int (-1)])), ((a 1), f_net a)] s.heap.size) s.heap s.heap [] := va_S.rf
  have hD : va_D (va_A [((a 4), .inr (16, [.ref (a 1), .ref (a 2), .ref (a 38), .ref (a 39), .ref (a 40), .ref (a 41), .ref (a 42), .ref (a 43), .ref (a 44), .ref (a 45), .ref (a 46), .ref (a 47), .long 0, .long 0, .long 0, .int 0, .int (-1)])), ((a 1), f_net a)] s.heap.size) [((a 4), .inr (16, [.ref (a 1), .ref (a 2), .ref (a 38), .ref (a 39), .ref (a 40), .ref (a 41), .ref (a 42), .ref (a 43), .ref (a 44), .ref (a 45), .ref (a 46), .ref (a 47), .long 0, .long 0, .long 0, .int 0, .int (-1)])), ((a 1), f_net a)] := hD0.self
  have hP : va_P D vwCl [((a 4), .inr (16, [.ref (a 1), .ref (a 2), .ref (a 38), .ref (a 39), .ref (a 40), .ref (a 41), .ref (a 42), .ref (a 43), .ref (a 44), .ref (a 45), .ref (a 46), .ref (a 47), .long 0, .long 0, .long 0, .int 0, .int (-1)])), ((a 1), f_net a)] s.heap := hP0
  have hl : lv_has ls 4 [(0, .ref (a 4))] := hl
  refine lv_aload_n hx hb dX10_spread_0 rfl (lv_at hl 0 rfl) ?_
  refine lv_lconst (v := 0) hx hb dX10_spread_1 (by decide) ?_
  refine va_put (D := D) (ci := 16) (v := .long 0) (ty := .long) (C := RX10) (T := TX10) (N := 17) hx hb ht in_X10 tyX10 tyX10_ok nmX10 hown hK.1 hP hD hS 0 rfl rfl 14 (by decide) (ht _ w_19) (fun _ h9 => h9) rfl (by decide +kernel) rfl rfl (Nat.le_of_ble_eq_true rfl) dX10_spread_2 (fun H locs hP hD hS => ?_)
  have hP : va_P D vwCl [((a 4), .inr (16, [.ref (a 1), .ref (a 2), .ref (a 38), .ref (a 39), .ref (a 40), .ref (a 41), .ref (a 42), .ref (a 43), .ref (a 44), .ref (a 45), .ref (a 46), .ref (a 47), .long 0, .long 0, .long 0, .int 0, .int (-1)])), ((a 1), f_net a)] H := hP
  have hD : va_D (va_A [((a 4), .inr (16, [.ref (a 1), .ref (a 2), .ref (a 38), .ref (a 39), .ref (a 40), .ref (a 41), .ref (a 42), .ref (a 43), .ref (a 44), .ref (a 45), .ref (a 46), .ref (a 47), .long 0, .long 0, .long 0, .int 0, .int (-1)])), ((a 1), f_net a)] s.heap.size) [((a 4), .inr (16, [.ref (a 1), .ref (a 2), .ref (a 38), .ref (a 39), .ref (a 40), .ref (a 41), .ref (a 42), .ref (a 43), .ref (a 44), .ref (a 45), .ref (a 46), .ref (a 47), .long 0, .long 0, .long 0, .int 0, .int (-1)])), ((a 1), f_net a)] := hD
  refine lv_aload_n hx hb dX10_spread_5 rfl (lv_at hl 0 rfl) ?_
  refine va_get (D := D) (ci := 16) (v := .int 0) (C := RX10) (T := TX10) (N := 17) hx hb ht in_X10 hown hK.1 hP 0 rfl rfl 15 (by decide) (ht _ w_93) (fun _ h9 => h9) rfl dX10_spread_6 ?_
  refine lv_istore_n (lv' := [(1, .int 0), (0, .ref (a 4))]) hx hb dX10_spread_9 rfl hl (by decide) rfl (fun ls hl => ?_)
  refine lv_iload_n hx hb dX10_spread_10 rfl (lv_at hl 0 rfl) ?_
  refine lv_aload_n hx hb dX10_spread_11 rfl (lv_at hl 1 rfl) ?_
  refine va_get (D := D) (ci := 16) (v := .ref (a 1)) (C := RX10) (T := TX10) (N := 17) hx hb ht in_X10 hown hK.1 hP 0 rfl rfl 0 (by decide) (ht _ w_20) (fun _ h9 => h9) rfl dX10_spread_12 ?_
  refine va_get (D := D) (ci := 12) (v := .int 0) (C := RX6) (T := TX6) (N := 18) hx hb ht in_X6 hown hK.1 hP 1 rfl rfl 12 (by decide) (ht _ w_21) (fun _ h9 => h9) rfl dX10_spread_15 ?_
  refine lv_icmp_ge (tgt := 167) hx hb dX10_spread_18 (by decide) (fun c_1 => ?_) (fun c_1 => ?_)
  · have hP9 := hP.sub (ws' := [((a 4), .inr (16, [.ref (a 1), .ref (a 2), .ref (a 38), .ref (a 39), .ref (a 40), .ref (a 41), .ref (a 42), .ref (a 43), .ref (a 44), .ref (a 45), .ref (a 46), .ref (a 47), .long 0, .long 0, .long 0, .int 0, .int (-1)])), ((a 1), f_net a)]) [0, 1] rfl
    have hD9 := hD.sub (ws' := [((a 4), .inr (16, [.ref (a 1), .ref (a 2), .ref (a 38), .ref (a 39), .ref (a 40), .ref (a 41), .ref (a 42), .ref (a 43), .ref (a 44), .ref (a 45), .ref (a 46), .ref (a 47), .long 0, .long 0, .long 0, .int 0, .int (-1)])), ((a 1), f_net a)]) [0, 1] (by decide) rfl
    refine W.widen (k := 0) (n := 0) (Nat.le_of_ble_eq_true rfl) (Nat.le_of_ble_eq_true rfl) ?_
    exact W.vret hx hb hr (fun t ht9 hW9 => ⟨⟨(), rfl, trivial, ⟨(by rw [ht9]; exact hP9), hD9⟩⟩, hS.F ht9⟩) hS.2.2 dX10_spread_167 hlocks
  · exact absurd c_1 (by decide)
set_option maxHeartbeats 4000000 in
set_option maxRecDepth 100000 in
theorem k_X10_runSeveral (l : Launch) (D : va_G) (g : Nat → ClassId) (z0 sz : Nat) (a : Nat → Nat) : Met l yX10_runSeveral (.code yX10_runSeveral cX10_runSeveral 4 none :: TG) (rmk 1 0 0 23) (va_Pc [.ref (a 4), .ref (a 53), .int 0] (PP D g z0 sz [((a 4), f_words a), ((a 1), f_net a)])) (va_Qv (fun (u : Unit) => True) (fun (u : Unit) (t : State) => va_P D vwCl [((a 4), f_words a), ((a 1), f_net a)] t.heap ∧ va_D (va_A [((a 4), f_words a), ((a 1), f_net a)] sz) [((a 4), f_words a), ((a 1), f_net a)]) (va_A [((a 4), f_words a), ((a 1), f_net a)] sz)) 0 0 (va_A [((a 4), f_words a), ((a 1), f_net a)] sz) := by
  refine met0 (cc := cX10_runSeveral) (n := 4) (by decide) (Nat.le_of_ble_eq_true rfl) ?_
  intro p e s m args below meth c hx hb hr hml hown ht hlocks hnm hP0 hD0 hK hZ hsz hz ls hl
  subst hsz
  have hA : ∀ q : Nat, s.heap.size ≤ q → va_A [((a 4), f_words a), ((a 1), f_net a)] s.heap.size q := Anw
  have hAz : ∀ q, va_A [((a 4), f_words a), ((a 1), f_net a)] s.heap.size q → z0 ≤ q := Awz hz hD0
  have hS : va_S (va_A [((a 4), f_words a), ((a 1), f_net a)] s.heap.size) s.heap s.heap [] := va_S.rf
  have hD : va_D (va_A [((a 4), f_words a), ((a 1), f_net a)] s.heap.size) [((a 4), f_words a), ((a 1), f_net a)] := hD0.self
  have hP : va_P D vwCl [((a 4), f_words a), ((a 1), f_net a)] s.heap := hP0
  have hl : lv_has ls 4 [(0, .ref (a 4)), (1, .ref (a 53)), (2, .int 0)] := hl
  refine lv_aload_n hx hb dX10_runSeveral_0 rfl (lv_at hl 0 rfl) ?_
  refine lv_aload_n hx hb dX10_runSeveral_1 rfl (lv_at hl 0 rfl) ?_
  refine va_get (D := D) (ci := 16) (v := .ref (a 1)) (C := RX10) (T := TX10) (N := 17) hx hb ht in_X10 hown hK.1 hP 0 rfl rfl 0 (by decide) (ht _ w_20) (fun _ h9 => h9) rfl dX10_runSeveral_2 ?_
  refine va_get (D := D) (ci := 12) (v := .int 0) (C := RX6) (T := TX6) (N := 18) hx hb ht in_X6 hown hK.1 hP 1 rfl rfl 12 (by decide) (ht _ w_21) (fun _ h9 => h9) rfl dX10_runSeveral_5 ?_
  refine va_put (D := D) (ci := 16) (v := .int 0) (ty := .int) (C := RX10) (T := TX10) (N := 17) hx hb ht in_X10 tyX10 tyX10_ok nmX10 hown hK.1 hP hD hS 0 rfl rfl 15 (by decide) (ht _ w_93) (fun _ h9 => h9) rfl (by decide +kernel) rfl rfl (Nat.le_of_ble_eq_true rfl) dX10_runSeveral_8 (fun H locs hP hD hS => ?_)
  have hP : va_P D vwCl [((a 4), .inr (16, [.ref (a 1), .ref (a 2), .ref (a 38), .ref (a 39), .ref (a 40), .ref (a 41), .ref (a 42), .ref (a 43), .ref (a 44), .ref (a 45), .ref (a 46), .ref (a 47), .long 0, .long 0, .long 0, .int 0, .int (-1)])), ((a 1), f_net a)] H := hP
  have hD : va_D (va_A [((a 4), f_words a), ((a 1), f_net a)] s.heap.size) [((a 4), .inr (16, [.ref (a 1), .ref (a 2), .ref (a 38), .ref (a 39), .ref (a 40), .ref (a 41), .ref (a 42), .ref (a 43), .ref (a 44), .ref (a 45), .ref (a 46), .ref (a 47), .long 0, .long 0, .long 0, .int 0, .int (-1)])), ((a 1), f_net a)] := hD
  refine lv_iconst (v := 0) hx hb dX10_runSeveral_11 (by decide) ?_
  refine lv_istore_n (lv' := [(3, .int 0), (0, .ref (a 4)), (1, .ref (a 53)), (2, .int 0)]) hx hb dX10_runSeveral_12 rfl hl (by decide) rfl (fun ls hl => ?_)
  refine lv_iload_n hx hb dX10_runSeveral_13 rfl (lv_at hl 0 rfl) ?_
  refine lv_iload_n hx hb dX10_runSeveral_14 rfl (lv_at hl 3 rfl) ?_
  refine lv_icmp_ge (tgt := 31) hx hb dX10_runSeveral_15 (by decide) (fun c_1 => ?_) (fun c_1 => ?_)
  · refine lv_aload_n hx hb dX10_runSeveral_31 rfl (lv_at hl 1 rfl) ?_
    have hPc : va_P D vwCl [((a 4), .inr (16, [.ref (a 1), .ref (a 2), .ref (a 38), .ref (a 39), .ref (a 40), .ref (a 41), .ref (a 42), .ref (a 43), .ref (a 44), .ref (a 45), .ref (a 46), .ref (a 47), .long 0, .long 0, .long 0, .int 0, .int (-1)])), ((a 1), f_net a)] _ := hP.sub (ws' := [((a 4), .inr (16, [.ref (a 1), .ref (a 2), .ref (a 38), .ref (a 39), .ref (a 40), .ref (a 41), .ref (a 42), .ref (a 43), .ref (a 44), .ref (a 45), .ref (a 46), .ref (a 47), .long 0, .long 0, .long 0, .int 0, .int (-1)])), ((a 1), f_net a)]) [0, 1] rfl
    have hDc : va_D (fun q => z0 ≤ q) [((a 4), .inr (16, [.ref (a 1), .ref (a 2), .ref (a 38), .ref (a 39), .ref (a 40), .ref (a 41), .ref (a 42), .ref (a 43), .ref (a 44), .ref (a 45), .ref (a 46), .ref (a 47), .long 0, .long 0, .long 0, .int 0, .int (-1)])), ((a 1), f_net a)] := (hD.to hAz).pick (ws' := [((a 4), .inr (16, [.ref (a 1), .ref (a 2), .ref (a 38), .ref (a 39), .ref (a 40), .ref (a 41), .ref (a 42), .ref (a 43), .ref (a 44), .ref (a 45), .ref (a 46), .ref (a 47), .long 0, .long 0, .long 0, .int 0, .int (-1)])), ((a 1), f_net a)]) [0, 1] (by decide) rfl
    have hFc := va_free (wc := [((a 4), .inr (16, [.ref (a 1), .ref (a 2), .ref (a 38), .ref (a 39), .ref (a 40), .ref (a 41), .ref (a 42), .ref (a 43), .ref (a 44), .ref (a 45), .ref (a 46), .ref (a 47), .long 0, .long 0, .long 0, .int 0, .int (-1)])), ((a 1), f_net a)]) hD hS hA [0, 1] rfl
    refine va_callv (va_runV (As := []) (rest := []) ⟨hx, hb, hml, hown, ht⟩ (k_X10_spread l D g z0 _ a) (cwV 0 ht (gV w_94 w_96 w_97 w_14 w_95) rfl rfl rfl (by decide +kernel) (le2 rfl rfl)) ⟨PP.blind, va_recv hK.1 hP (ci := 16) (q0 := 0) rfl rfl, PP.mk' hK hZ hz hAz hS hPc hDc⟩ rfl rfl hl.1 rfl (lv_room (Nat.le_of_ble_eq_true rfl)) dX10_runSeveral_32 (le2 rfl rfl)) hS (fun q _ h => hFc q h) hFc (fun u t H locs ht1 hvm hw hB hz1 hk1 hS => ?_)
    obtain ⟨hP1, hD1⟩ := hB
    rw [ht1] at hP1
    obtain ⟨hP, hD⟩ := va_join (wr := []) (w1 := [((a 4), f_words a), ((a 1), f_net a)]) hP hD [0, 1] [] rfl rfl (by decide) (by decide) hk1 hFc hP1 hD1
    have hP : va_P D vwCl [((a 4), f_words a), ((a 1), f_net a)] H := hP
    have hD : va_D (va_A [((a 4), f_words a), ((a 1), f_net a)] s.heap.size) [((a 4), f_words a), ((a 1), f_net a)] := hD
    refine lv_iconst (v := 0) hx hb dX10_runSeveral_35 (by decide) ?_
    refine lv_istore_n (lv' := [(3, .int 0), (0, .ref (a 4)), (1, .ref (a 53)), (2, .int 0)]) hx hb dX10_runSeveral_36 rfl hl (by decide) rfl (fun ls hl => ?_)
    refine lv_iload_n hx hb dX10_runSeveral_37 rfl (lv_at hl 0 rfl) ?_
    refine lv_iload_n hx hb dX10_runSeveral_38 rfl (lv_at hl 3 rfl) ?_
    refine lv_icmp_ge (tgt := 55) hx hb dX10_runSeveral_39 (by decide) (fun c_2 => ?_) (fun c_2 => ?_)
    · have hP9 := hP.sub (ws' := [((a 4), f_words a), ((a 1), f_net a)]) [0, 1] rfl
      have hD9 := hD.sub (ws' := [((a 4), f_words a), ((a 1), f_net a)]) [0, 1] (by decide) rfl
      refine W.widen (k := 0) (n := 0) (Nat.le_of_ble_eq_true rfl) (Nat.le_of_ble_eq_true rfl) ?_
      exact W.vret hx hb hr (fun t ht9 hW9 => ⟨⟨(), rfl, trivial, ⟨(by rw [ht9]; exact hP9), hD9⟩⟩, hS.F ht9⟩) hS.2.2 dX10_runSeveral_55 hlocks
    · exact absurd c_2 (by decide)
  · exact absurd c_1 (by decide)
set_option maxHeartbeats 4000000 in
set_option maxRecDepth 100000 in
theorem k_X1_runChip (l : Launch) (D : va_G) (g : Nat → ClassId) (z0 sz : Nat) (a : Nat → Nat) : Met l yX1_runChip (.code yX1_runChip cX1_runChip 2 none :: TG) (rmk 3 0 0 68) (va_Pc [.ref (a 8)] (PP D g z0 sz [((a 8), f_chip a), ((a 3), f_rows a), ((a 4), f_words a), ((a 38), .inl (g 1, 12, .inr (.inl (fun _ => 0)))), ((a 39), .inl (g 1, 12, .inr (.inl (fun _ => 0)))), ((a 1), f_net a)])) (va_Qv (fun (u : Unit) => True) (fun (u : Unit) (t : State) => va_P D vwCl [((a 8), f_chip a), ((a 3), f_rows a), ((a 38), .inl (g 1, 12, .inr (.inl (fun _ => 0)))), ((a 39), .inl (g 1, 12, .inr (.inl (fun _ => 0)))), ((a 4), f_words a), ((a 1), f_net a)] t.heap ∧ va_D (va_A [((a 8), f_chip a), ((a 3), f_rows a), ((a 4), f_words a), ((a 38), .inl (g 1, 12, .inr (.inl (fun _ => 0)))), ((a 39), .inl (g 1, 12, .inr (.inl (fun _ => 0)))), ((a 1), f_net a)] sz) [((a 8), f_chip a), ((a 3), f_rows a), ((a 38), .inl (g 1, 12, .inr (.inl (fun _ => 0)))), ((a 39), .inl (g 1, 12, .inr (.inl (fun _ => 0)))), ((a 4), f_words a), ((a 1), f_net a)]) (va_A [((a 8), f_chip a), ((a 3), f_rows a), ((a 4), f_words a), ((a 38), .inl (g 1, 12, .inr (.inl (fun _ => 0)))), ((a 39), .inl (g 1, 12, .inr (.inl (fun _ => 0)))), ((a 1), f_net a)] sz)) 0 0 (va_A [((a 8), f_chip a), ((a 3), f_rows a), ((a 4), f_words a), ((a 38), .inl (g 1, 12, .inr (.inl (fun _ => 0)))), ((a 39), .inl (g 1, 12, .inr (.inl (fun _ => 0)))), ((a 1), f_net a)] sz) := by
  refine met0 (cc := cX1_runChip) (n := 2) (by decide) (Nat.le_of_ble_eq_true rfl) ?_
  intro p e s m args below meth c hx hb hr hml hown ht hlocks hnm hP0 hD0 hK hZ hsz hz ls hl
  subst hsz
  have hA : ∀ q : Nat, s.heap.size ≤ q → va_A [((a 8), f_chip a), ((a 3), f_rows a), ((a 4), f_words a), ((a 38), .inl (g 1, 12, .inr (.inl (fun _ => 0)))), ((a 39), .inl (g 1, 12, .inr (.inl (fun _ => 0)))), ((a 1), f_net a)] s.heap.size q := Anw
  have hAz : ∀ q, va_A [((a 8), f_chip a), ((a 3), f_rows a), ((a 4), f_words a), ((a 38), .inl (g 1, 12, .inr (.inl (fun _ => 0)))), ((a 39), .inl (g 1, 12, .inr (.inl (fun _ => 0)))), ((a 1), f_net a)] s.heap.size q → z0 ≤ q := Awz hz hD0
  have hS : va_S (va_A [((a 8), f_chip a), ((a 3), f_rows a), ((a 4), f_words a), ((a 38), .inl (g 1, 12, .inr (.inl (fun _ => 0)))), ((a 39), .inl (g 1, 12, .inr (.inl (fun _ => 0)))), ((a 1), f_net a)] s.heap.size) s.heap s.heap [] := va_S.rf
  have hD : va_D (va_A [((a 8), f_chip a), ((a 3), f_rows a), ((a 4), f_words a), ((a 38), .inl (g 1, 12, .inr (.inl (fun _ => 0)))), ((a 39), .inl (g 1, 12, .inr (.inl (fun _ => 0)))), ((a 1), f_net a)] s.heap.size) [((a 8), f_chip a), ((a 3), f_rows a), ((a 4), f_words a), ((a 38), .inl (g 1, 12, .inr (.inl (fun _ => 0)))), ((a 39), .inl (g 1, 12, .inr (.inl (fun _ => 0)))), ((a 1), f_net a)] := hD0.self
  have hP : va_P D vwCl [((a 8), f_chip a), ((a 3), f_rows a), ((a 4), f_words a), ((a 38), .inl (g 1, 12, .inr (.inl (fun _ => 0)))), ((a 39), .inl (g 1, 12, .inr (.inl (fun _ => 0)))), ((a 1), f_net a)] s.heap := hP0
  have hl : lv_has ls 2 [(0, .ref (a 8))] := hl
  refine lv_aload_n hx hb dX1_runChip_0 rfl (lv_at hl 0 rfl) ?_
  refine va_get (D := D) (ci := 7) (v := .ref (a 4)) (C := RX1) (T := TX1) (N := 13) hx hb ht in_X1 hown hK.1 hP 0 rfl rfl 3 (by decide) (ht _ w_87) (fun _ h9 => h9) rfl dX1_runChip_1 ?_
  refine lv_aload_n hx hb dX1_runChip_4 rfl (lv_at hl 0 rfl) ?_
  refine va_get (D := D) (ci := 7) (v := .ref (a 3)) (C := RX1) (T := TX1) (N := 13) hx hb ht in_X1 hown hK.1 hP 0 rfl rfl 2 (by decide) (ht _ w_88) (fun _ h9 => h9) rfl dX1_runChip_5 ?_
  have hPc : va_P D vwCl [((a 3), f_rows a), ((a 4), f_words a), ((a 38), .inl (g 1, 12, .inr (.inl (fun _ => 0)))), ((a 39), .inl (g 1, 12, .inr (.inl (fun _ => 0))))] _ := hP.sub (ws' := [((a 3), f_rows a), ((a 4), f_words a), ((a 38), .inl (g 1, 12, .inr (.inl (fun _ => 0)))), ((a 39), .inl (g 1, 12, .inr (.inl (fun _ => 0))))]) [1, 2, 3, 4] rfl
  have hDc : va_D (fun q => z0 ≤ q) [((a 3), f_rows a), ((a 4), f_words a), ((a 38), .inl (g 1, 12, .inr (.inl (fun _ => 0)))), ((a 39), .inl (g 1, 12, .inr (.inl (fun _ => 0))))] := (hD.to hAz).pick (ws' := [((a 3), f_rows a), ((a 4), f_words a), ((a 38), .inl (g 1, 12, .inr (.inl (fun _ => 0)))), ((a 39), .inl (g 1, 12, .inr (.inl (fun _ => 0))))]) [1, 2, 3, 4] (by decide) rfl
  have hFc := va_free (wc := [((a 3), f_rows a), ((a 4), f_words a), ((a 38), .inl (g 1, 12, .inr (.inl (fun _ => 0)))), ((a 39), .inl (g 1, 12, .inr (.inl (fun _ => 0))))]) hD hS hA [1, 2, 3, 4] rfl
  refine va_callv (va_runV (As := [.ref (a 3)]) (rest := []) ⟨hx, hb, hml, hown, ht⟩ (k_X10_loadRows l D g z0 _ a) (cwV 1 ht (gV w_89 w_17 w_18 w_14 w_16) rfl rfl rfl (by decide +kernel) (le2 rfl rfl)) ⟨PP.blind, va_recv hK.1 hP (ci := 16) (q0 := 2) rfl rfl, PP.mk' hK hZ hz hAz hS hPc hDc⟩ rfl rfl hl.1 rfl (lv_room (Nat.le_of_ble_eq_true rfl)) dX1_runChip_8 (le2 rfl rfl)) hS (fun q _ h => hFc q h) hFc (fun u t H locs ht1 hvm hw hB hz1 hk1 hS => ?_)
  obtain ⟨hP1, hD1⟩ := hB
  rw [ht1] at hP1
  obtain ⟨hP, hD⟩ := va_join (wr := [((a 8), f_chip a), ((a 1), f_net a)]) (w1 := [((a 3), f_rows a), ((a 4), f_words a), ((a 38), .inl (g 1, 12, .inr (.inl (fun _ => 0)))), ((a 39), .inl (g 1, 12, .inr (.inl (fun _ => 0))))]) hP hD [1, 2, 3, 4] [0, 5] rfl rfl (by decide) (by decide) hk1 hFc hP1 hD1
  have hP : va_P D vwCl [((a 8), f_chip a), ((a 1), f_net a), ((a 3), f_rows a), ((a 4), f_words a), ((a 38), .inl (g 1, 12, .inr (.inl (fun _ => 0)))), ((a 39), .inl (g 1, 12, .inr (.inl (fun _ => 0))))] H := hP
  have hD : va_D (va_A [((a 8), f_chip a), ((a 3), f_rows a), ((a 4), f_words a), ((a 38), .inl (g 1, 12, .inr (.inl (fun _ => 0)))), ((a 39), .inl (g 1, 12, .inr (.inl (fun _ => 0)))), ((a 1), f_net a)] s.heap.size) [((a 8), f_chip a), ((a 1), f_net a), ((a 3), f_rows a), ((a 4), f_words a), ((a 38), .inl (g 1, 12, .inr (.inl (fun _ => 0)))), ((a 39), .inl (g 1, 12, .inr (.inl (fun _ => 0))))] := hD
  refine lv_aload_n hx hb dX1_runChip_11 rfl (lv_at hl 0 rfl) ?_
  refine va_get (D := D) (ci := 7) (v := .ref (a 4)) (C := RX1) (T := TX1) (N := 13) hx hb ht in_X1 hown hK.1 hP 0 rfl rfl 3 (by decide) (ht _ w_87) (fun _ h9 => h9) rfl dX1_runChip_12 ?_
  have hPc : va_P D vwCl [((a 4), f_words a), ((a 1), f_net a)] _ := hP.sub (ws' := [((a 4), f_words a), ((a 1), f_net a)]) [3, 1] rfl
  have hDc : va_D (fun q => z0 ≤ q) [((a 4), f_words a), ((a 1), f_net a)] := (hD.to hAz).pick (ws' := [((a 4), f_words a), ((a 1), f_net a)]) [3, 1] (by decide) rfl
  have hFc := va_free (wc := [((a 4), f_words a), ((a 1), f_net a)]) hD hS hA [3, 1] rfl
  refine va_callv (va_runV (As := []) (rest := []) ⟨hx, hb, hml, hown, ht⟩ (k_X10_runGood l D g z0 _ a) (cwV 0 ht (gV w_90 w_24 w_25 w_14 w_23) rfl rfl rfl (by decide +kernel) (le2 rfl rfl)) ⟨PP.blind, va_recv hK.1 hP (ci := 16) (q0 := 3) rfl rfl, PP.mk' hK hZ hz hAz hS hPc hDc⟩ rfl rfl hl.1 rfl (lv_room (Nat.le_of_ble_eq_true rfl)) dX1_runChip_15 (le2 rfl rfl)) hS (fun q _ h => hFc q h) hFc (fun u t H locs ht1 hvm hw hB hz1 hk1 hS => ?_)
  obtain ⟨hP1, hD1⟩ := hB
  rw [ht1] at hP1
  obtain ⟨hP, hD⟩ := va_join (wr := [((a 8), f_chip a), ((a 3), f_rows a), ((a 38), .inl (g 1, 12, .inr (.inl (fun _ => 0)))), ((a 39), .inl (g 1, 12, .inr (.inl (fun _ => 0))))]) (w1 := [((a 4), f_words a), ((a 1), f_net a)]) hP hD [3, 1] [0, 2, 4, 5] rfl rfl (by decide) (by decide) hk1 hFc hP1 hD1
  have hP : va_P D vwCl [((a 8), f_chip a), ((a 3), f_rows a), ((a 38), .inl (g 1, 12, .inr (.inl (fun _ => 0)))), ((a 39), .inl (g 1, 12, .inr (.inl (fun _ => 0)))), ((a 4), f_words a), ((a 1), f_net a)] H := hP
  have hD : va_D (va_A [((a 8), f_chip a), ((a 3), f_rows a), ((a 4), f_words a), ((a 38), .inl (g 1, 12, .inr (.inl (fun _ => 0)))), ((a 39), .inl (g 1, 12, .inr (.inl (fun _ => 0)))), ((a 1), f_net a)] s.heap.size) [((a 8), f_chip a), ((a 3), f_rows a), ((a 38), .inl (g 1, 12, .inr (.inl (fun _ => 0)))), ((a 39), .inl (g 1, 12, .inr (.inl (fun _ => 0)))), ((a 4), f_words a), ((a 1), f_net a)] := hD
  refine lv_aload_n hx hb dX1_runChip_18 rfl (lv_at hl 0 rfl) ?_
  refine va_get (D := D) (ci := 7) (v := .ref (a 4)) (C := RX1) (T := TX1) (N := 13) hx hb ht in_X1 hown hK.1 hP 0 rfl rfl 3 (by decide) (ht _ w_87) (fun _ h9 => h9) rfl dX1_runChip_19 ?_
  refine lv_aload_n hx hb dX1_runChip_22 rfl (lv_at hl 0 rfl) ?_
  refine va_get (D := D) (ci := 7) (v := .ref (a 53)) (C := RX1) (T := TX1) (N := 13) hx hb ht in_X1 hown hK.1 hP 0 rfl rfl 4 (by decide) (ht _ w_91) (fun _ h9 => h9) rfl dX1_runChip_23 ?_
  refine lv_aload_n hx hb dX1_runChip_26 rfl (lv_at hl 0 rfl) ?_
  refine va_get (D := D) (ci := 7) (v := .int 0) (C := RX1) (T := TX1) (N := 13) hx hb ht in_X1 hown hK.1 hP 0 rfl rfl 10 (by decide) (ht _ w_92) (fun _ h9 => h9) rfl dX1_runChip_27 ?_
  have hPc : va_P D vwCl [((a 4), f_words a), ((a 1), f_net a)] _ := hP.sub (ws' := [((a 4), f_words a), ((a 1), f_net a)]) [4, 5] rfl
  have hDc : va_D (fun q => z0 ≤ q) [((a 4), f_words a), ((a 1), f_net a)] := (hD.to hAz).pick (ws' := [((a 4), f_words a), ((a 1), f_net a)]) [4, 5] (by decide) rfl
  have hFc := va_free (wc := [((a 4), f_words a), ((a 1), f_net a)]) hD hS hA [4, 5] rfl
  refine va_callv (va_runV (As := [.ref (a 53), .int 0]) (rest := []) ⟨hx, hb, hml, hown, ht⟩ (k_X10_runSeveral l D g z0 _ a) (cwV 2 ht (gV w_98 w_100 w_101 w_14 w_99) rfl rfl rfl (by decide +kernel) (le2 rfl rfl)) ⟨PP.blind, va_recv hK.1 hP (ci := 16) (q0 := 4) rfl rfl, PP.mk' hK hZ hz hAz hS hPc hDc⟩ rfl rfl hl.1 rfl (lv_room (Nat.le_of_ble_eq_true rfl)) dX1_runChip_30 (le2 rfl rfl)) hS (fun q _ h => hFc q h) hFc (fun u t H locs ht1 hvm hw hB hz1 hk1 hS => ?_)
  obtain ⟨hP1, hD1⟩ := hB
  rw [ht1] at hP1
  obtain ⟨hP, hD⟩ := va_join (wr := [((a 8), f_chip a), ((a 3), f_rows a), ((a 38), .inl (g 1, 12, .inr (.inl (fun _ => 0)))), ((a 39), .inl (g 1, 12, .inr (.inl (fun _ => 0))))]) (w1 := [((a 4), f_words a), ((a 1), f_net a)]) hP hD [4, 5] [0, 1, 2, 3] rfl rfl (by decide) (by decide) hk1 hFc hP1 hD1
  have hP : va_P D vwCl [((a 8), f_chip a), ((a 3), f_rows a), ((a 38), .inl (g 1, 12, .inr (.inl (fun _ => 0)))), ((a 39), .inl (g 1, 12, .inr (.inl (fun _ => 0)))), ((a 4), f_words a), ((a 1), f_net a)] H := hP
  have hD : va_D (va_A [((a 8), f_chip a), ((a 3), f_rows a), ((a 4), f_words a), ((a 38), .inl (g 1, 12, .inr (.inl (fun _ => 0)))), ((a 39), .inl (g 1, 12, .inr (.inl (fun _ => 0)))), ((a 1), f_net a)] s.heap.size) [((a 8), f_chip a), ((a 3), f_rows a), ((a 38), .inl (g 1, 12, .inr (.inl (fun _ => 0)))), ((a 39), .inl (g 1, 12, .inr (.inl (fun _ => 0)))), ((a 4), f_words a), ((a 1), f_net a)] := hD
  refine lv_iconst (v := 0) hx hb dX1_runChip_33 (by decide) ?_
  refine lv_istore_n (lv' := [(1, .int 0), (0, .ref (a 8))]) hx hb dX1_runChip_34 rfl hl (by decide) rfl (fun ls hl => ?_)
  refine lv_iload_n hx hb dX1_runChip_35 rfl (lv_at hl 0 rfl) ?_
  refine lv_aload_n hx hb dX1_runChip_36 rfl (lv_at hl 1 rfl) ?_
  refine va_get (D := D) (ci := 7) (v := .ref (a 1)) (C := RX1) (T := TX1) (N := 13) hx hb ht in_X1 hown hK.1 hP 0 rfl rfl 0 (by decide) (ht _ w_102) (fun _ h9 => h9) rfl dX1_runChip_37 ?_
  refine va_get (D := D) (ci := 12) (v := .int 0) (C := RX6) (T := TX6) (N := 18) hx hb ht in_X6 hown hK.1 hP 5 rfl rfl 16 (by decide) (ht _ w_103) (fun _ h9 => h9) rfl dX1_runChip_40 ?_
  refine lv_icmp_ge (tgt := 74) hx hb dX1_runChip_43 (by decide) (fun c_1 => ?_) (fun c_1 => ?_)
  · have hP9 := hP.sub (ws' := [((a 8), f_chip a), ((a 3), f_rows a), ((a 38), .inl (g 1, 12, .inr (.inl (fun _ => 0)))), ((a 39), .inl (g 1, 12, .inr (.inl (fun _ => 0)))), ((a 4), f_words a), ((a 1), f_net a)]) [0, 1, 2, 3, 4, 5] rfl
    have hD9 := hD.sub (ws' := [((a 8), f_chip a), ((a 3), f_rows a), ((a 38), .inl (g 1, 12, .inr (.inl (fun _ => 0)))), ((a 39), .inl (g 1, 12, .inr (.inl (fun _ => 0)))), ((a 4), f_words a), ((a 1), f_net a)]) [0, 1, 2, 3, 4, 5] (by decide) rfl
    refine W.widen (k := 0) (n := 0) (Nat.le_of_ble_eq_true rfl) (Nat.le_of_ble_eq_true rfl) ?_
    exact W.vret hx hb hr (fun t ht9 hW9 => ⟨⟨(), rfl, trivial, ⟨(by rw [ht9]; exact hP9), hD9⟩⟩, hS.F ht9⟩) hS.2.2 dX1_runChip_74 hlocks
  · exact absurd c_1 (by decide)
set_option maxHeartbeats 4000000 in
set_option maxRecDepth 100000 in
theorem k_X1_compareAll (l : Launch) (D : va_G) (g : Nat → ClassId) (z0 sz : Nat) (a : Nat → Nat) : Met l yX1_compareAll (.code yX1_compareAll cX1_compareAll 2 none :: TG) (rmk 4 0 0 89) (va_Pc [.ref (a 8)] (PP D g z0 sz [((a 8), f_chip a), ((a 3), f_rows a), ((a 4), f_words a), ((a 38), .inl (g 1, 12, .inr (.inl (fun _ => 0)))), ((a 39), .inl (g 1, 12, .inr (.inl (fun _ => 0)))), ((a 1), f_net a), ((a 2), f_book a)])) (va_Qv (fun (u : Unit) => True) (fun (u : Unit) (t : State) => va_P D vwCl [((a 8), f_chip a), ((a 3), f_rows a), ((a 38), .inl (g 1, 12, .inr (.inl (fun _ => 0)))), ((a 39), .inl (g 1, 12, .inr (.inl (fun _ => 0)))), ((a 4), f_words a), ((a 1), f_net a), ((a 2), f_book a)] t.heap ∧ va_D (va_A [((a 8), f_chip a), ((a 3), f_rows a), ((a 4), f_words a), ((a 38), .inl (g 1, 12, .inr (.inl (fun _ => 0)))), ((a 39), .inl (g 1, 12, .inr (.inl (fun _ => 0)))), ((a 1), f_net a), ((a 2), f_book a)] sz) [((a 8), f_chip a), ((a 3), f_rows a), ((a 38), .inl (g 1, 12, .inr (.inl (fun _ => 0)))), ((a 39), .inl (g 1, 12, .inr (.inl (fun _ => 0)))), ((a 4), f_words a), ((a 1), f_net a), ((a 2), f_book a)]) (va_A [((a 8), f_chip a), ((a 3), f_rows a), ((a 4), f_words a), ((a 38), .inl (g 1, 12, .inr (.inl (fun _ => 0)))), ((a 39), .inl (g 1, 12, .inr (.inl (fun _ => 0)))), ((a 1), f_net a), ((a 2), f_book a)] sz)) 0 0 (va_A [((a 8), f_chip a), ((a 3), f_rows a), ((a 4), f_words a), ((a 38), .inl (g 1, 12, .inr (.inl (fun _ => 0)))), ((a 39), .inl (g 1, 12, .inr (.inl (fun _ => 0)))), ((a 1), f_net a), ((a 2), f_book a)] sz) := by
  refine met0 (cc := cX1_compareAll) (n := 2) (by decide) (Nat.le_of_ble_eq_true rfl) ?_
  intro p e s m args below meth c hx hb hr hml hown ht hlocks hnm hP0 hD0 hK hZ hsz hz ls hl
  subst hsz
  have hA : ∀ q : Nat, s.heap.size ≤ q → va_A [((a 8), f_chip a), ((a 3), f_rows a), ((a 4), f_words a), ((a 38), .inl (g 1, 12, .inr (.inl (fun _ => 0)))), ((a 39), .inl (g 1, 12, .inr (.inl (fun _ => 0)))), ((a 1), f_net a), ((a 2), f_book a)] s.heap.size q := Anw
  have hAz : ∀ q, va_A [((a 8), f_chip a), ((a 3), f_rows a), ((a 4), f_words a), ((a 38), .inl (g 1, 12, .inr (.inl (fun _ => 0)))), ((a 39), .inl (g 1, 12, .inr (.inl (fun _ => 0)))), ((a 1), f_net a), ((a 2), f_book a)] s.heap.size q → z0 ≤ q := Awz hz hD0
  have hS : va_S (va_A [((a 8), f_chip a), ((a 3), f_rows a), ((a 4), f_words a), ((a 38), .inl (g 1, 12, .inr (.inl (fun _ => 0)))), ((a 39), .inl (g 1, 12, .inr (.inl (fun _ => 0)))), ((a 1), f_net a), ((a 2), f_book a)] s.heap.size) s.heap s.heap [] := va_S.rf
  have hD : va_D (va_A [((a 8), f_chip a), ((a 3), f_rows a), ((a 4), f_words a), ((a 38), .inl (g 1, 12, .inr (.inl (fun _ => 0)))), ((a 39), .inl (g 1, 12, .inr (.inl (fun _ => 0)))), ((a 1), f_net a), ((a 2), f_book a)] s.heap.size) [((a 8), f_chip a), ((a 3), f_rows a), ((a 4), f_words a), ((a 38), .inl (g 1, 12, .inr (.inl (fun _ => 0)))), ((a 39), .inl (g 1, 12, .inr (.inl (fun _ => 0)))), ((a 1), f_net a), ((a 2), f_book a)] := hD0.self
  have hP : va_P D vwCl [((a 8), f_chip a), ((a 3), f_rows a), ((a 4), f_words a), ((a 38), .inl (g 1, 12, .inr (.inl (fun _ => 0)))), ((a 39), .inl (g 1, 12, .inr (.inl (fun _ => 0)))), ((a 1), f_net a), ((a 2), f_book a)] s.heap := hP0
  have hl : lv_has ls 2 [(0, .ref (a 8))] := hl
  refine lv_aload_n hx hb dX1_compareAll_0 rfl (lv_at hl 0 rfl) ?_
  have hPc : va_P D vwCl [((a 8), f_chip a), ((a 3), f_rows a), ((a 4), f_words a), ((a 38), .inl (g 1, 12, .inr (.inl (fun _ => 0)))), ((a 39), .inl (g 1, 12, .inr (.inl (fun _ => 0)))), ((a 1), f_net a)] _ := hP.sub (ws' := [((a 8), f_chip a), ((a 3), f_rows a), ((a 4), f_words a), ((a 38), .inl (g 1, 12, .inr (.inl (fun _ => 0)))), ((a 39), .inl (g 1, 12, .inr (.inl (fun _ => 0)))), ((a 1), f_net a)]) [0, 1, 2, 3, 4, 5] rfl
  have hDc : va_D (fun q => z0 ≤ q) [((a 8), f_chip a), ((a 3), f_rows a), ((a 4), f_words a), ((a 38), .inl (g 1, 12, .inr (.inl (fun _ => 0)))), ((a 39), .inl (g 1, 12, .inr (.inl (fun _ => 0)))), ((a 1), f_net a)] := (hD.to hAz).pick (ws' := [((a 8), f_chip a), ((a 3), f_rows a), ((a 4), f_words a), ((a 38), .inl (g 1, 12, .inr (.inl (fun _ => 0)))), ((a 39), .inl (g 1, 12, .inr (.inl (fun _ => 0)))), ((a 1), f_net a)]) [0, 1, 2, 3, 4, 5] (by decide) rfl
  have hFc := va_free (wc := [((a 8), f_chip a), ((a 3), f_rows a), ((a 4), f_words a), ((a 38), .inl (g 1, 12, .inr (.inl (fun _ => 0)))), ((a 39), .inl (g 1, 12, .inr (.inl (fun _ => 0)))), ((a 1), f_net a)]) hD hS hA [0, 1, 2, 3, 4, 5] rfl
  refine va_callv (va_runV (As := []) (rest := []) ⟨hx, hb, hml, hown, ht⟩ (k_X1_runChip l D g z0 _ a) (cwV 0 ht (gV w_104 w_106 w_107 w_108 w_105) rfl rfl rfl (by decide +kernel) (le2 rfl rfl)) ⟨PP.blind, va_recv hK.1 hP (ci := 7) (q0 := 0) rfl rfl, PP.mk' hK hZ hz hAz hS hPc hDc⟩ rfl rfl hl.1 rfl (lv_room (Nat.le_of_ble_eq_true rfl)) dX1_compareAll_1 (le2 rfl rfl)) hS (fun q _ h => hFc q h) hFc (fun u t H locs ht1 hvm hw hB hz1 hk1 hS => ?_)
  obtain ⟨hP1, hD1⟩ := hB
  rw [ht1] at hP1
  obtain ⟨hP, hD⟩ := va_join (wr := [((a 2), f_book a)]) (w1 := [((a 8), f_chip a), ((a 3), f_rows a), ((a 38), .inl (g 1, 12, .inr (.inl (fun _ => 0)))), ((a 39), .inl (g 1, 12, .inr (.inl (fun _ => 0)))), ((a 4), f_words a), ((a 1), f_net a)]) hP hD [0, 1, 2, 3, 4, 5] [6] rfl rfl (by decide) (by decide) hk1 hFc hP1 hD1
  have hP : va_P D vwCl [((a 2), f_book a), ((a 8), f_chip a), ((a 3), f_rows a), ((a 38), .inl (g 1, 12, .inr (.inl (fun _ => 0)))), ((a 39), .inl (g 1, 12, .inr (.inl (fun _ => 0)))), ((a 4), f_words a), ((a 1), f_net a)] H := hP
  have hD : va_D (va_A [((a 8), f_chip a), ((a 3), f_rows a), ((a 4), f_words a), ((a 38), .inl (g 1, 12, .inr (.inl (fun _ => 0)))), ((a 39), .inl (g 1, 12, .inr (.inl (fun _ => 0)))), ((a 1), f_net a), ((a 2), f_book a)] s.heap.size) [((a 2), f_book a), ((a 8), f_chip a), ((a 3), f_rows a), ((a 38), .inl (g 1, 12, .inr (.inl (fun _ => 0)))), ((a 39), .inl (g 1, 12, .inr (.inl (fun _ => 0)))), ((a 4), f_words a), ((a 1), f_net a)] := hD
  refine lv_iconst (v := 0) hx hb dX1_compareAll_4 (by decide) ?_
  refine lv_istore_n (lv' := [(1, .int 0), (0, .ref (a 8))]) hx hb dX1_compareAll_5 rfl hl (by decide) rfl (fun ls hl => ?_)
  refine lv_iload_n hx hb dX1_compareAll_6 rfl (lv_at hl 0 rfl) ?_
  refine lv_aload_n hx hb dX1_compareAll_7 rfl (lv_at hl 1 rfl) ?_
  refine va_get (D := D) (ci := 7) (v := .ref (a 2)) (C := RX1) (T := TX1) (N := 13) hx hb ht in_X1 hown hK.1 hP 1 rfl rfl 1 (by decide) (ht _ w_109) (fun _ h9 => h9) rfl dX1_compareAll_8 ?_
  refine va_get (D := D) (ci := 9) (v := .int 0) (C := RX3) (T := TX3) (N := 14) hx hb ht in_X3 hown hK.1 hP 0 rfl rfl 11 (by decide) (ht _ w_110) (fun _ h9 => h9) rfl dX1_compareAll_11 ?_
  refine lv_icmp_ge (tgt := 53) hx hb dX1_compareAll_14 (by decide) (fun c_1 => ?_) (fun c_1 => ?_)
  · have hP9 := hP.sub (ws' := [((a 8), f_chip a), ((a 3), f_rows a), ((a 38), .inl (g 1, 12, .inr (.inl (fun _ => 0)))), ((a 39), .inl (g 1, 12, .inr (.inl (fun _ => 0)))), ((a 4), f_words a), ((a 1), f_net a), ((a 2), f_book a)]) [1, 2, 3, 4, 5, 6, 0] rfl
    have hD9 := hD.sub (ws' := [((a 8), f_chip a), ((a 3), f_rows a), ((a 38), .inl (g 1, 12, .inr (.inl (fun _ => 0)))), ((a 39), .inl (g 1, 12, .inr (.inl (fun _ => 0)))), ((a 4), f_words a), ((a 1), f_net a), ((a 2), f_book a)]) [1, 2, 3, 4, 5, 6, 0] (by decide) rfl
    refine W.widen (k := 0) (n := 0) (Nat.le_of_ble_eq_true rfl) (Nat.le_of_ble_eq_true rfl) ?_
    exact W.vret hx hb hr (fun t ht9 hW9 => ⟨⟨(), rfl, trivial, ⟨(by rw [ht9]; exact hP9), hD9⟩⟩, hS.F ht9⟩) hS.2.2 dX1_compareAll_53 hlocks
  · exact absurd c_1 (by decide)
set_option maxHeartbeats 4000000 in
set_option maxRecDepth 100000 in
theorem k_X1_candidateAt (l : Launch) (D : va_G) (g : Nat → ClassId) (z0 sz : Nat) (a : Nat → Nat) (p0 : Int32) : Met l yX1_candidateAt (.code yX1_candidateAt cX1_candidateAt 3 (some .int) :: TG) (rmk 0 0 0 0) (va_Pc [.ref (a 8), .int p0] (PP D g z0 sz [((a 8), f_chip a), ((a 2), f_book a)])) (va_Qi (fun (r : Int32) (u : Unit) => (r = (-1)) ∧ True) (fun (_ : Unit) (_ : State) => True) (va_A [] sz)) 0 0 (va_A [] sz) := by
  refine met0 (cc := cX1_candidateAt) (n := 3) (by decide) (Nat.le_of_ble_eq_true rfl) ?_
  intro p e s m args below meth c hx hb hr hml hown ht hlocks hnm hP0 hD0 hK hZ hsz hz ls hl
  subst hsz
  have hA : ∀ q : Nat, s.heap.size ≤ q → va_A [] s.heap.size q := Anw
  have hAz : ∀ q, va_A [] s.heap.size q → z0 ≤ q := A0z hz
  have hS : va_S (va_A [] s.heap.size) s.heap s.heap [] := va_S.rf
  have hl : lv_has ls 3 [(0, .ref (a 8)), (1, .int p0)] := hl
  refine lv_iconst (v := 0) hx hb dX1_candidateAt_0 (by decide) ?_
  refine lv_istore_n (lv' := [(2, .int 0), (0, .ref (a 8)), (1, .int p0)]) hx hb dX1_candidateAt_1 rfl hl (by decide) rfl (fun ls hl => ?_)
  refine lv_iload_n hx hb dX1_candidateAt_2 rfl (lv_at hl 0 rfl) ?_
  refine lv_aload_n hx hb dX1_candidateAt_3 rfl (lv_at hl 1 rfl) ?_
  refine va_get (D := D) (ci := 7) (v := .ref (a 2)) (C := RX1) (T := TX1) (N := 13) hx hb ht in_X1 hown hK.1 (ro0 hP0 hS) 0 rfl rfl 1 (by decide) (ht _ w_109) (fun _ h9 => h9) rfl dX1_candidateAt_4 ?_
  refine va_get (D := D) (ci := 9) (v := .int 0) (C := RX3) (T := TX3) (N := 14) hx hb ht in_X3 hown hK.1 (ro0 hP0 hS) 1 rfl rfl 11 (by decide) (ht _ w_110) (fun _ h9 => h9) rfl dX1_candidateAt_7 ?_
  refine lv_icmp_ge (tgt := 39) hx hb dX1_candidateAt_10 (by decide) (fun c_1 => ?_) (fun c_1 => ?_)
  · refine lv_iconst (v := (-1)) hx hb dX1_candidateAt_39 (by decide) ?_
    refine W.widen (k := 0) (n := 0) (Nat.le_of_ble_eq_true rfl) (Nat.le_of_ble_eq_true rfl) ?_
    exact W.iret (v := (-1)) hx hb hr (fun t ht9 hW9 => ⟨⟨(-1), (), rfl, ⟨rfl, trivial⟩, trivial⟩, hS.F ht9⟩) hS.2.2 dX1_candidateAt_40 hlocks
  · exact absurd c_1 (by decide)
set_option maxHeartbeats 4000000 in
set_option maxRecDepth 100000 in
theorem k_X11_candidate (l : Launch) (hfl : l.stackTraces = false) (D : va_G) (g : Nat → ClassId) (z0 sz : Nat) (a : Nat → Nat) (p0 : Int32) : vx_Met l yX11_candidate (.code yX11_candidate cX11_candidate 3 (some .int) :: TG) (rmk 6 1 6 110) (va_Pc [.ref (a 0), .int p0] (PP D g z0 sz [((a 0), f_x a), ((a 8), f_chip a), ((a 3), f_rows a), ((a 4), f_words a), ((a 38), .inl (g 1, 12, .inr (.inl (fun _ => 0)))), ((a 39), .inl (g 1, 12, .inr (.inl (fun _ => 0)))), ((a 1), f_net a), ((a 2), f_book a)])) (va_Qi (fun (r : Int32) (u : Unit) => False) (fun (_ : Unit) (_ : State) => True) (va_A [((a 0), f_x a), ((a 8), f_chip a), ((a 3), f_rows a), ((a 4), f_words a), ((a 38), .inl (g 1, 12, .inr (.inl (fun _ => 0)))), ((a 39), .inl (g 1, 12, .inr (.inl (fun _ => 0)))), ((a 1), f_net a), ((a 2), f_book a)] sz)) (vx_X (fun _ : Unit => True) (fun E _ _ => (E = "java/util/NoSuchElementException" ∧ True)) (va_A [((a 0), f_x a), ((a 8), f_chip a), ((a 3), f_rows a), ((a 4), f_words a), ((a 38), .inl (g 1, 12, .inr (.inl (fun _ => 0)))), ((a 39), .inl (g 1, 12, .inr (.inl (fun _ => 0)))), ((a 1), f_net a), ((a 2), f_book a)] sz)) 1 6 (va_A [((a 0), f_x a), ((a 8), f_chip a), ((a 3), f_rows a), ((a 4), f_words a), ((a 38), .inl (g 1, 12, .inr (.inl (fun _ => 0)))), ((a 39), .inl (g 1, 12, .inr (.inl (fun _ => 0)))), ((a 1), f_net a), ((a 2), f_book a)] sz) := by
  refine vxm0 (cc := cX11_candidate) (n := 3) (by decide) (Nat.le_of_ble_eq_true rfl) ?_
  intro p e s m args below meth c hx hb hr hml htab hown ht hlocks hnm hP0 hD0 hK hZ hsz hz ls hl
  subst hsz
  have hA : ∀ q : Nat, s.heap.size ≤ q → va_A [((a 0), f_x a), ((a 8), f_chip a), ((a 3), f_rows a), ((a 4), f_words a), ((a 38), .inl (g 1, 12, .inr (.inl (fun _ => 0)))), ((a 39), .inl (g 1, 12, .inr (.inl (fun _ => 0)))), ((a 1), f_net a), ((a 2), f_book a)] s.heap.size q := Anw
  have hAz : ∀ q, va_A [((a 0), f_x a), ((a 8), f_chip a), ((a 3), f_rows a), ((a 4), f_words a), ((a 38), .inl (g 1, 12, .inr (.inl (fun _ => 0)))), ((a 39), .inl (g 1, 12, .inr (.inl (fun _ => 0)))), ((a 1), f_net a), ((a 2), f_book a)] s.heap.size q → z0 ≤ q := Awz hz hD0
  have hS : va_S (va_A [((a 0), f_x a), ((a 8), f_chip a), ((a 3), f_rows a), ((a 4), f_words a), ((a 38), .inl (g 1, 12, .inr (.inl (fun _ => 0)))), ((a 39), .inl (g 1, 12, .inr (.inl (fun _ => 0)))), ((a 1), f_net a), ((a 2), f_book a)] s.heap.size) s.heap s.heap [] := va_S.rf
  have hD : va_D (va_A [((a 0), f_x a), ((a 8), f_chip a), ((a 3), f_rows a), ((a 4), f_words a), ((a 38), .inl (g 1, 12, .inr (.inl (fun _ => 0)))), ((a 39), .inl (g 1, 12, .inr (.inl (fun _ => 0)))), ((a 1), f_net a), ((a 2), f_book a)] s.heap.size) [((a 0), f_x a), ((a 8), f_chip a), ((a 3), f_rows a), ((a 4), f_words a), ((a 38), .inl (g 1, 12, .inr (.inl (fun _ => 0)))), ((a 39), .inl (g 1, 12, .inr (.inl (fun _ => 0)))), ((a 1), f_net a), ((a 2), f_book a)] := hD0.self
  have hP : va_P D vwCl [((a 0), f_x a), ((a 8), f_chip a), ((a 3), f_rows a), ((a 4), f_words a), ((a 38), .inl (g 1, 12, .inr (.inl (fun _ => 0)))), ((a 39), .inl (g 1, 12, .inr (.inl (fun _ => 0)))), ((a 1), f_net a), ((a 2), f_book a)] s.heap := hP0
  have hl : lv_has ls 3 [(0, .ref (a 0)), (1, .int p0)] := hl
  refine lv_aload_n hx hb dX11_candidate_0 rfl (lv_at hl 0 rfl) ?_
  refine va_get (D := D) (ci := 17) (v := .ref (a 8)) (C := RX11) (T := TX11) (N := 11) hx hb ht in_X11 hown hK.1 hP 0 rfl rfl 7 (by decide) (ht _ w_86) (fun _ h9 => h9) rfl dX11_candidate_1 ?_
  have hPc : va_P D vwCl [((a 8), f_chip a), ((a 3), f_rows a), ((a 4), f_words a), ((a 38), .inl (g 1, 12, .inr (.inl (fun _ => 0)))), ((a 39), .inl (g 1, 12, .inr (.inl (fun _ => 0)))), ((a 1), f_net a), ((a 2), f_book a)] _ := hP.sub (ws' := [((a 8), f_chip a), ((a 3), f_rows a), ((a 4), f_words a), ((a 38), .inl (g 1, 12, .inr (.inl (fun _ => 0)))), ((a 39), .inl (g 1, 12, .inr (.inl (fun _ => 0)))), ((a 1), f_net a), ((a 2), f_book a)]) [1, 2, 3, 4, 5, 6, 7] rfl
  have hDc : va_D (fun q => z0 ≤ q) [((a 8), f_chip a), ((a 3), f_rows a), ((a 4), f_words a), ((a 38), .inl (g 1, 12, .inr (.inl (fun _ => 0)))), ((a 39), .inl (g 1, 12, .inr (.inl (fun _ => 0)))), ((a 1), f_net a), ((a 2), f_book a)] := (hD.to hAz).pick (ws' := [((a 8), f_chip a), ((a 3), f_rows a), ((a 4), f_words a), ((a 38), .inl (g 1, 12, .inr (.inl (fun _ => 0)))), ((a 39), .inl (g 1, 12, .inr (.inl (fun _ => 0)))), ((a 1), f_net a), ((a 2), f_book a)]) [1, 2, 3, 4, 5, 6, 7] (by decide) rfl
  have hFc := va_free (wc := [((a 8), f_chip a), ((a 3), f_rows a), ((a 4), f_words a), ((a 38), .inl (g 1, 12, .inr (.inl (fun _ => 0)))), ((a 39), .inl (g 1, 12, .inr (.inl (fun _ => 0)))), ((a 1), f_net a), ((a 2), f_book a)]) hD hS hA [1, 2, 3, 4, 5, 6, 7] rfl
  refine va_callv (va_runV (As := []) (rest := []) ⟨hx, hb, hml, hown, ht⟩ (k_X1_compareAll l D g z0 _ a) (cwV 0 ht (gV w_111 w_113 w_114 w_108 w_112) rfl rfl rfl (by decide +kernel) (le2 rfl rfl)) ⟨PP.blind, va_recv hK.1 hP (ci := 7) (q0 := 1) rfl rfl, PP.mk' hK hZ hz hAz hS hPc hDc⟩ rfl rfl hl.1 rfl (lv_room (Nat.le_of_ble_eq_true rfl)) dX11_candidate_4 (le2 rfl rfl)) hS (fun q _ h => hFc q h) hFc (fun u t H locs ht1 hvm hw hB hz1 hk1 hS => ?_)
  obtain ⟨hP1, hD1⟩ := hB
  rw [ht1] at hP1
  obtain ⟨hP, hD⟩ := va_join (wr := [((a 0), f_x a)]) (w1 := [((a 8), f_chip a), ((a 3), f_rows a), ((a 38), .inl (g 1, 12, .inr (.inl (fun _ => 0)))), ((a 39), .inl (g 1, 12, .inr (.inl (fun _ => 0)))), ((a 4), f_words a), ((a 1), f_net a), ((a 2), f_book a)]) hP hD [1, 2, 3, 4, 5, 6, 7] [0] rfl rfl (by decide) (by decide) hk1 hFc hP1 hD1
  have hP : va_P D vwCl [((a 0), f_x a), ((a 8), f_chip a), ((a 3), f_rows a), ((a 38), .inl (g 1, 12, .inr (.inl (fun _ => 0)))), ((a 39), .inl (g 1, 12, .inr (.inl (fun _ => 0)))), ((a 4), f_words a), ((a 1), f_net a), ((a 2), f_book a)] H := hP
  have hD : va_D (va_A [((a 0), f_x a), ((a 8), f_chip a), ((a 3), f_rows a), ((a 4), f_words a), ((a 38), .inl (g 1, 12, .inr (.inl (fun _ => 0)))), ((a 39), .inl (g 1, 12, .inr (.inl (fun _ => 0)))), ((a 1), f_net a), ((a 2), f_book a)] s.heap.size) [((a 0), f_x a), ((a 8), f_chip a), ((a 3), f_rows a), ((a 38), .inl (g 1, 12, .inr (.inl (fun _ => 0)))), ((a 39), .inl (g 1, 12, .inr (.inl (fun _ => 0)))), ((a 4), f_words a), ((a 1), f_net a), ((a 2), f_book a)] := hD
  refine lv_aload_n hx hb dX11_candidate_7 rfl (lv_at hl 0 rfl) ?_
  refine va_get (D := D) (ci := 17) (v := .ref (a 8)) (C := RX11) (T := TX11) (N := 11) hx hb ht in_X11 hown hK.1 hP 0 rfl rfl 7 (by decide) (ht _ w_86) (fun _ h9 => h9) rfl dX11_candidate_8 ?_
  refine lv_iload_n hx hb dX11_candidate_11 rfl (lv_at hl 1 rfl) ?_
  have hPc : va_P D vwCl [((a 8), f_chip a), ((a 2), f_book a)] _ := hP.sub (ws' := [((a 8), f_chip a), ((a 2), f_book a)]) [1, 7] rfl
  have hDc : va_D (fun q => z0 ≤ q) [((a 8), f_chip a), ((a 2), f_book a)] := (hD.to hAz).pick (ws' := [((a 8), f_chip a), ((a 2), f_book a)]) [1, 7] (by decide) rfl
  have hFc := AnA (ws := [((a 0), f_x a), ((a 8), f_chip a), ((a 3), f_rows a), ((a 4), f_words a), ((a 38), .inl (g 1, 12, .inr (.inl (fun _ => 0)))), ((a 39), .inl (g 1, 12, .inr (.inl (fun _ => 0)))), ((a 1), f_net a), ((a 2), f_book a)]) hS.1
  refine va_calli (va_runV (As := [.int p0]) (rest := []) ⟨hx, hb, hml, hown, ht⟩ (k_X1_candidateAt l D g z0 _ a p0) (cwV 1 ht (gV w_115 w_117 w_118 w_108 w_116) rfl rfl rfl (by decide +kernel) (le2 rfl rfl)) ⟨PP.blind, va_recv hK.1 hP (ci := 7) (q0 := 1) rfl rfl, PP.mk' hK hZ hz hAz hS hPc hDc⟩ rfl rfl hl.1 rfl (lv_room (Nat.le_of_ble_eq_true rfl)) dX11_candidate_12 (le2 rfl rfl)) hS (fun q _ h => hFc q h) hFc (fun r u t H locs ht1 hvm hw hB hz1 hk1 hS => ?_)
  obtain ⟨rfl, hw⟩ := hw
  have hP := ro1 hP hk1
  refine lv_istore_n (lv' := [(2, .int (-1)), (0, .ref (a 0)), (1, .int p0)]) hx hb dX11_candidate_15 rfl hl (by decide) rfl (fun ls hl => ?_)
  refine lv_iload_n hx hb dX11_candidate_16 rfl (lv_at hl 0 rfl) ?_
  refine lv_if_ge (tgt := 28) hx hb dX11_candidate_17 (by decide) (fun c_1 => ?_) (fun c_1 => ?_)
  · exact absurd c_1 (by decide)
  · exact thr0 hx hb hfl hown ht hK.2.2 hZ hAz hS hl hml htab hlocks (by decide +kernel) w_119 w_120 at_X11_312 dX11_candidate_20 dX11_candidate_23 dX11_candidate_24 dX11_candidate_27 rfl rfl rfl rfl (fun t _ hF => ⟨(), trivial, ⟨rfl, trivial⟩, hF⟩) (fun _ h => h) rfl rfl
set_option maxHeartbeats 4000000 in
set_option maxRecDepth 100000 in
theorem k_X11_needOpenNet (l : Launch) (D : va_G) (g : Nat → ClassId) (z0 sz : Nat) (a : Nat → Nat) : Met l yX11_needOpenNet (.code yX11_needOpenNet cX11_needOpenNet 1 none :: TG) (rmk 0 0 0 0) (va_Pc [.ref (a 0)] (PP D g z0 sz [((a 0), f_x a), ((a 1), f_net a)])) (va_Qv (fun (u : Unit) => True) (fun (_ : Unit) (_ : State) => True) (va_A [] sz)) 0 0 (va_A [] sz) := by
  refine met0 (cc := cX11_needOpenNet) (n := 1) (by decide) (Nat.le_of_ble_eq_true rfl) ?_
  intro p e s m args below meth c hx hb hr hml hown ht hlocks hnm hP0 hD0 hK hZ hsz hz ls hl
  subst hsz
  have hA : ∀ q : Nat, s.heap.size ≤ q → va_A [] s.heap.size q := Anw
  have hAz : ∀ q, va_A [] s.heap.size q → z0 ≤ q := A0z hz
  have hS : va_S (va_A [] s.heap.size) s.heap s.heap [] := va_S.rf
  have hl : lv_has ls 1 [(0, .ref (a 0))] := hl
  refine lv_aload_n hx hb dX11_needOpenNet_0 rfl (lv_at hl 0 rfl) ?_
  refine va_get (D := D) (ci := 17) (v := .ref (a 1)) (C := RX11) (T := TX11) (N := 11) hx hb ht in_X11 hown hK.1 (ro0 hP0 hS) 0 rfl rfl 0 (by decide) (ht _ w_68) (fun _ h9 => h9) rfl dX11_needOpenNet_1 ?_
  refine va_get (D := D) (ci := 12) (v := .int 0) (C := RX6) (T := TX6) (N := 18) hx hb ht in_X6 hown hK.1 (ro0 hP0 hS) 1 rfl rfl 17 (by decide) (ht _ w_70) (fun _ h9 => h9) rfl dX11_needOpenNet_4 ?_
  refine lv_if_eq (tgt := 18) hx hb dX11_needOpenNet_7 (by decide) (fun c_1 => ?_) (fun c_1 => ?_)
  · refine W.widen (k := 0) (n := 0) (Nat.le_of_ble_eq_true rfl) (Nat.le_of_ble_eq_true rfl) ?_
    exact W.vret hx hb hr (fun t ht9 hW9 => ⟨⟨(), rfl, trivial, trivial⟩, hS.F ht9⟩) hS.2.2 dX11_needOpenNet_18 hlocks
  · exact absurd c_1 (by decide)
set_option maxHeartbeats 4000000 in
set_option maxRecDepth 100000 in
theorem k_X6_addSource (l : Launch) (D : va_G) (g : Nat → ClassId) (z0 sz : Nat) (a : Nat → Nat) : Met l yX6_addSource (.code yX6_addSource cX6_addSource 3 (some .int) :: TG) (rmk 0 0 0 0) (va_Pc [.ref (a 1), .int 1] (PP D g z0 sz [((a 1), f_net a), ((a 12), .inl (g 2, 40, .inl (fun _ => 0))), ((a 19), .inl (g 1, 40, .inr (.inl (fun _ => 0)))), ((a 18), .inl (g 0, 40, .inl (fun _ => (-1)))), ((a 20), .inl (g 0, 12, .inl (fun _ => 0)))])) (va_Qi (fun (r : Int32) (u : Unit) => (r = 0) ∧ True) (fun (u : Unit) (t : State) => va_P D vwCl [((a 1), .inr (12, [.ref (a 12), .ref (a 13), .ref (a 14), .ref (a 15), .ref (a 16), .ref (a 17), .ref (a 18), .ref (a 19), .ref (a 20), .ref (a 21), .ref (a 22), .ref (a 23), .int 1, .int 1, .int 1, .int 0, .int 0, .int 0])), ((a 12), .inl (g 2, 40, .inl (upd (fun _ => 0) (0 : Int32).toNatClampNeg (vp_nar .char 102)))), ((a 19), .inl (g 1, 40, .inr (.inl (vp_updL (fun _ => 0) (0 : Int32).toNatClampNeg 1)))), ((a 18), .inl (g 0, 40, .inl (upd (fun _ => (-1)) (0 : Int32).toNatClampNeg 0))), ((a 20), .inl (g 0, 12, .inl (upd (fun _ => 0) (0 : Int32).toNatClampNeg 0)))] t.heap ∧ va_D (va_A [((a 1), f_net a), ((a 12), .inl (g 2, 40, .inl (fun _ => 0))), ((a 19), .inl (g 1, 40, .inr (.inl (fun _ => 0)))), ((a 18), .inl (g 0, 40, .inl (fun _ => (-1)))), ((a 20), .inl (g 0, 12, .inl (fun _ => 0)))] sz) [((a 1), .inr (12, [.ref (a 12), .ref (a 13), .ref (a 14), .ref (a 15), .ref (a 16), .ref (a 17), .ref (a 18), .ref (a 19), .ref (a 20), .ref (a 21), .ref (a 22), .ref (a 23), .int 1, .int 1, .int 1, .int 0, .int 0, .int 0])), ((a 12), .inl (g 2, 40, .inl (upd (fun _ => 0) (0 : Int32).toNatClampNeg (vp_nar .char 102)))), ((a 19), .inl (g 1, 40, .inr (.inl (vp_updL (fun _ => 0) (0 : Int32).toNatClampNeg 1)))), ((a 18), .inl (g 0, 40, .inl (upd (fun _ => (-1)) (0 : Int32).toNatClampNeg 0))), ((a 20), .inl (g 0, 12, .inl (upd (fun _ => 0) (0 : Int32).toNatClampNeg 0)))]) (va_A [((a 1), f_net a), ((a 12), .inl (g 2, 40, .inl (fun _ => 0))), ((a 19), .inl (g 1, 40, .inr (.inl (fun _ => 0)))), ((a 18), .inl (g 0, 40, .inl (fun _ => (-1)))), ((a 20), .inl (g 0, 12, .inl (fun _ => 0)))] sz)) 0 0 (va_A [((a 1), f_net a), ((a 12), .inl (g 2, 40, .inl (fun _ => 0))), ((a 19), .inl (g 1, 40, .inr (.inl (fun _ => 0)))), ((a 18), .inl (g 0, 40, .inl (fun _ => (-1)))), ((a 20), .inl (g 0, 12, .inl (fun _ => 0)))] sz) := by
  refine met0 (cc := cX6_addSource) (n := 3) (by decide) (Nat.le_of_ble_eq_true rfl) ?_
  intro p e s m args below meth c hx hb hr hml hown ht hlocks hnm hP0 hD0 hK hZ hsz hz ls hl
  subst hsz
  have hA : ∀ q : Nat, s.heap.size ≤ q → va_A [((a 1), f_net a), ((a 12), .inl (g 2, 40, .inl (fun _ => 0))), ((a 19), .inl (g 1, 40, .inr (.inl (fun _ => 0)))), ((a 18), .inl (g 0, 40, .inl (fun _ => (-1)))), ((a 20), .inl (g 0, 12, .inl (fun _ => 0)))] s.heap.size q := Anw
  have hAz : ∀ q, va_A [((a 1), f_net a), ((a 12), .inl (g 2, 40, .inl (fun _ => 0))), ((a 19), .inl (g 1, 40, .inr (.inl (fun _ => 0)))), ((a 18), .inl (g 0, 40, .inl (fun _ => (-1)))), ((a 20), .inl (g 0, 12, .inl (fun _ => 0)))] s.heap.size q → z0 ≤ q := Awz hz hD0
  have hS : va_S (va_A [((a 1), f_net a), ((a 12), .inl (g 2, 40, .inl (fun _ => 0))), ((a 19), .inl (g 1, 40, .inr (.inl (fun _ => 0)))), ((a 18), .inl (g 0, 40, .inl (fun _ => (-1)))), ((a 20), .inl (g 0, 12, .inl (fun _ => 0)))] s.heap.size) s.heap s.heap [] := va_S.rf
  have hD : va_D (va_A [((a 1), f_net a), ((a 12), .inl (g 2, 40, .inl (fun _ => 0))), ((a 19), .inl (g 1, 40, .inr (.inl (fun _ => 0)))), ((a 18), .inl (g 0, 40, .inl (fun _ => (-1)))), ((a 20), .inl (g 0, 12, .inl (fun _ => 0)))] s.heap.size) [((a 1), f_net a), ((a 12), .inl (g 2, 40, .inl (fun _ => 0))), ((a 19), .inl (g 1, 40, .inr (.inl (fun _ => 0)))), ((a 18), .inl (g 0, 40, .inl (fun _ => (-1)))), ((a 20), .inl (g 0, 12, .inl (fun _ => 0)))] := hD0.self
  have hP : va_P D vwCl [((a 1), f_net a), ((a 12), .inl (g 2, 40, .inl (fun _ => 0))), ((a 19), .inl (g 1, 40, .inr (.inl (fun _ => 0)))), ((a 18), .inl (g 0, 40, .inl (fun _ => (-1)))), ((a 20), .inl (g 0, 12, .inl (fun _ => 0)))] s.heap := hP0
  have hl : lv_has ls 3 [(0, .ref (a 1)), (1, .int 1)] := hl
  refine lv_aload_n hx hb dX6_addSource_0 rfl (lv_at hl 0 rfl) ?_
  refine va_get (D := D) (ci := 12) (v := .int 0) (C := RX6) (T := TX6) (N := 18) hx hb ht in_X6 hown hK.1 hP 0 rfl rfl 12 (by decide) (ht _ w_126) (fun _ h9 => h9) rfl dX6_addSource_1 ?_
  refine lv_istore_n (lv' := [(2, .int 0), (0, .ref (a 1)), (1, .int 1)]) hx hb dX6_addSource_4 rfl hl (by decide) rfl (fun ls hl => ?_)
  refine lv_aload_n hx hb dX6_addSource_5 rfl (lv_at hl 1 rfl) ?_
  refine va_get (D := D) (ci := 12) (v := .ref (a 12)) (C := RX6) (T := TX6) (N := 18) hx hb ht in_X6 hown hK.1 hP 0 rfl rfl 0 (by decide) (ht _ w_127) (fun _ h9 => h9) rfl dX6_addSource_6 ?_
  refine lv_iload_n hx hb dX6_addSource_9 rfl (lv_at hl 0 rfl) ?_
  refine lv_iload_n hx hb dX6_addSource_10 rfl (lv_at hl 2 rfl) ?_
  refine lv_if_eq (tgt := 19) hx hb dX6_addSource_11 (by decide) (fun c_1 => ?_) (fun c_1 => ?_)
  · exact absurd c_1 (by decide)
  · refine lv_bipush (v := 102) hx hb dX6_addSource_14 (by decide) ?_
    refine lv_goto (tgt := 21) hx hb dX6_addSource_16 (by decide) ?_
    refine va_cast hx hb hK.1 hP hD hS 1 2 rfl rfl (by unfold vp_in; decide) dX6_addSource_21 (fun H locs hP hD hS => ?_)
    have hP : va_P D vwCl [((a 1), f_net a), ((a 12), .inl (g 2, 40, .inl (upd (fun _ => 0) (0 : Int32).toNatClampNeg (vp_nar .char 102)))), ((a 19), .inl (g 1, 40, .inr (.inl (fun _ => 0)))), ((a 18), .inl (g 0, 40, .inl (fun _ => (-1)))), ((a 20), .inl (g 0, 12, .inl (fun _ => 0)))] H := hP
    have hD : va_D (va_A [((a 1), f_net a), ((a 12), .inl (g 2, 40, .inl (fun _ => 0))), ((a 19), .inl (g 1, 40, .inr (.inl (fun _ => 0)))), ((a 18), .inl (g 0, 40, .inl (fun _ => (-1)))), ((a 20), .inl (g 0, 12, .inl (fun _ => 0)))] s.heap.size) [((a 1), f_net a), ((a 12), .inl (g 2, 40, .inl (upd (fun _ => 0) (0 : Int32).toNatClampNeg (vp_nar .char 102)))), ((a 19), .inl (g 1, 40, .inr (.inl (fun _ => 0)))), ((a 18), .inl (g 0, 40, .inl (fun _ => (-1)))), ((a 20), .inl (g 0, 12, .inl (fun _ => 0)))] := hD
    refine lv_aload_n hx hb dX6_addSource_22 rfl (lv_at hl 1 rfl) ?_
    refine va_get (D := D) (ci := 12) (v := .ref (a 19)) (C := RX6) (T := TX6) (N := 18) hx hb ht in_X6 hown hK.1 hP 0 rfl rfl 7 (by decide) (ht _ w_128) (fun _ h9 => h9) rfl dX6_addSource_23 ?_
    refine lv_iload_n hx hb dX6_addSource_26 rfl (lv_at hl 0 rfl) ?_
    refine lv_lconst (v := 1) hx hb dX6_addSource_27 (by decide) ?_
    refine lv_iload_n hx hb dX6_addSource_28 rfl (lv_at hl 0 rfl) ?_
    refine lv_lshl (v := 1) hx hb dX6_addSource_29 (by decide) ?_
    refine va_last hx hb hK.1 hP hD hS 2 1 rfl rfl (by unfold vp_in; decide) dX6_addSource_30 (fun H locs hP hD hS => ?_)
    have hP : va_P D vwCl [((a 1), f_net a), ((a 12), .inl (g 2, 40, .inl (upd (fun _ => 0) (0 : Int32).toNatClampNeg (vp_nar .char 102)))), ((a 19), .inl (g 1, 40, .inr (.inl (vp_updL (fun _ => 0) (0 : Int32).toNatClampNeg 1)))), ((a 18), .inl (g 0, 40, .inl (fun _ => (-1)))), ((a 20), .inl (g 0, 12, .inl (fun _ => 0)))] H := hP
    have hD : va_D (va_A [((a 1), f_net a), ((a 12), .inl (g 2, 40, .inl (fun _ => 0))), ((a 19), .inl (g 1, 40, .inr (.inl (fun _ => 0)))), ((a 18), .inl (g 0, 40, .inl (fun _ => (-1)))), ((a 20), .inl (g 0, 12, .inl (fun _ => 0)))] s.heap.size) [((a 1), f_net a), ((a 12), .inl (g 2, 40, .inl (upd (fun _ => 0) (0 : Int32).toNatClampNeg (vp_nar .char 102)))), ((a 19), .inl (g 1, 40, .inr (.inl (vp_updL (fun _ => 0) (0 : Int32).toNatClampNeg 1)))), ((a 18), .inl (g 0, 40, .inl (fun _ => (-1)))), ((a 20), .inl (g 0, 12, .inl (fun _ => 0)))] := hD
    refine lv_aload_n hx hb dX6_addSource_31 rfl (lv_at hl 1 rfl) ?_
    refine va_get (D := D) (ci := 12) (v := .ref (a 18)) (C := RX6) (T := TX6) (N := 18) hx hb ht in_X6 hown hK.1 hP 0 rfl rfl 6 (by decide) (ht _ w_129) (fun _ h9 => h9) rfl dX6_addSource_32 ?_
    refine lv_iload_n hx hb dX6_addSource_35 rfl (lv_at hl 0 rfl) ?_
    refine lv_aload_n hx hb dX6_addSource_36 rfl (lv_at hl 1 rfl) ?_
    refine va_get (D := D) (ci := 12) (v := .int 0) (C := RX6) (T := TX6) (N := 18) hx hb ht in_X6 hown hK.1 hP 0 rfl rfl 13 (by decide) (ht _ w_130) (fun _ h9 => h9) rfl dX6_addSource_37 ?_
    refine va_iast hx hb hK.1 hP hD hS 3 0 rfl rfl (by unfold vp_in; decide) dX6_addSource_40 (fun H locs hP hD hS => ?_)
    have hP : va_P D vwCl [((a 1), f_net a), ((a 12), .inl (g 2, 40, .inl (upd (fun _ => 0) (0 : Int32).toNatClampNeg (vp_nar .char 102)))), ((a 19), .inl (g 1, 40, .inr (.inl (vp_updL (fun _ => 0) (0 : Int32).toNatClampNeg 1)))), ((a 18), .inl (g 0, 40, .inl (upd (fun _ => (-1)) (0 : Int32).toNatClampNeg 0))), ((a 20), .inl (g 0, 12, .inl (fun _ => 0)))] H := hP
    have hD : va_D (va_A [((a 1), f_net a), ((a 12), .inl (g 2, 40, .inl (fun _ => 0))), ((a 19), .inl (g 1, 40, .inr (.inl (fun _ => 0)))), ((a 18), .inl (g 0, 40, .inl (fun _ => (-1)))), ((a 20), .inl (g 0, 12, .inl (fun _ => 0)))] s.heap.size) [((a 1), f_net a), ((a 12), .inl (g 2, 40, .inl (upd (fun _ => 0) (0 : Int32).toNatClampNeg (vp_nar .char 102)))), ((a 19), .inl (g 1, 40, .inr (.inl (vp_updL (fun _ => 0) (0 : Int32).toNatClampNeg 1)))), ((a 18), .inl (g 0, 40, .inl (upd (fun _ => (-1)) (0 : Int32).toNatClampNeg 0))), ((a 20), .inl (g 0, 12, .inl (fun _ => 0)))] := hD
    refine lv_aload_n hx hb dX6_addSource_41 rfl (lv_at hl 1 rfl) ?_
    refine lv_dup hx hb dX6_addSource_42 rfl ?_
    refine va_get (D := D) (ci := 12) (v := .int 0) (C := RX6) (T := TX6) (N := 18) hx hb ht in_X6 hown hK.1 hP 0 rfl rfl 13 (by decide) (ht _ w_130) (fun _ h9 => h9) rfl dX6_addSource_43 ?_
    refine lv_iconst (v := 1) hx hb dX6_addSource_46 (by decide) ?_
    refine lv_iadd hx hb dX6_addSource_47 ?_
    refine r_topi (v := 1) (by decide) ?_
    refine va_put (D := D) (ci := 12) (v := .int 1) (ty := .int) (C := RX6) (T := TX6) (N := 18) hx hb ht in_X6 tyX6 tyX6_ok nmX6 hown hK.1 hP hD hS 0 rfl rfl 13 (by decide) (ht _ w_130) (fun _ h9 => h9) rfl (by decide +kernel) rfl rfl (Nat.le_of_ble_eq_true rfl) dX6_addSource_48 (fun H locs hP hD hS => ?_)
    have hP : va_P D vwCl [((a 1), .inr (12, [.ref (a 12), .ref (a 13), .ref (a 14), .ref (a 15), .ref (a 16), .ref (a 17), .ref (a 18), .ref (a 19), .ref (a 20), .ref (a 21), .ref (a 22), .ref (a 23), .int 0, .int 1, .int 0, .int 0, .int 0, .int 0])), ((a 12), .inl (g 2, 40, .inl (upd (fun _ => 0) (0 : Int32).toNatClampNeg (vp_nar .char 102)))), ((a 19), .inl (g 1, 40, .inr (.inl (vp_updL (fun _ => 0) (0 : Int32).toNatClampNeg 1)))), ((a 18), .inl (g 0, 40, .inl (upd (fun _ => (-1)) (0 : Int32).toNatClampNeg 0))), ((a 20), .inl (g 0, 12, .inl (fun _ => 0)))] H := hP
    have hD : va_D (va_A [((a 1), f_net a), ((a 12), .inl (g 2, 40, .inl (fun _ => 0))), ((a 19), .inl (g 1, 40, .inr (.inl (fun _ => 0)))), ((a 18), .inl (g 0, 40, .inl (fun _ => (-1)))), ((a 20), .inl (g 0, 12, .inl (fun _ => 0)))] s.heap.size) [((a 1), .inr (12, [.ref (a 12), .ref (a 13), .ref (a 14), .ref (a 15), .ref (a 16), .ref (a 17), .ref (a 18), .ref (a 19), .ref (a 20), .ref (a 21), .ref (a 22), .ref (a 23), .int 0, .int 1, .int 0, .int 0, .int 0, .int 0])), ((a 12), .inl (g 2, 40, .inl (upd (fun _ => 0) (0 : Int32).toNatClampNeg (vp_nar .char 102)))), ((a 19), .inl (g 1, 40, .inr (.inl (vp_updL (fun _ => 0) (0 : Int32).toNatClampNeg 1)))), ((a 18), .inl (g 0, 40, .inl (upd (fun _ => (-1)) (0 : Int32).toNatClampNeg 0))), ((a 20), .inl (g 0, 12, .inl (fun _ => 0)))] := hD
    refine lv_iload_n hx hb dX6_addSource_51 rfl (lv_at hl 2 rfl) ?_
    refine lv_if_eq (tgt := 75) hx hb dX6_addSource_52 (by decide) (fun c_2 => ?_) (fun c_2 => ?_)
    · exact absurd c_2 (by decide)
    · refine lv_aload_n hx hb dX6_addSource_55 rfl (lv_at hl 1 rfl) ?_
      refine va_get (D := D) (ci := 12) (v := .ref (a 20)) (C := RX6) (T := TX6) (N := 18) hx hb ht in_X6 hown hK.1 hP 0 rfl rfl 8 (by decide) (ht _ w_131) (fun _ h9 => h9) rfl dX6_addSource_56 ?_
      refine lv_aload_n hx hb dX6_addSource_59 rfl (lv_at hl 1 rfl) ?_
      refine va_get (D := D) (ci := 12) (v := .int 0) (C := RX6) (T := TX6) (N := 18) hx hb ht in_X6 hown hK.1 hP 0 rfl rfl 14 (by decide) (ht _ w_132) (fun _ h9 => h9) rfl dX6_addSource_60 ?_
      refine lv_iload_n hx hb dX6_addSource_63 rfl (lv_at hl 0 rfl) ?_
      refine va_iast hx hb hK.1 hP hD hS 4 0 rfl rfl (by unfold vp_in; decide) dX6_addSource_64 (fun H locs hP hD hS => ?_)
      have hP : va_P D vwCl [((a 1), .inr (12, [.ref (a 12), .ref (a 13), .ref (a 14), .ref (a 15), .ref (a 16), .ref (a 17), .ref (a 18), .ref (a 19), .ref (a 20), .ref (a 21), .ref (a 22), .ref (a 23), .int 0, .int 1, .int 0, .int 0, .int 0, .int 0])), ((a 12), .inl (g 2, 40, .inl (upd (fun _ => 0) (0 : Int32).toNatClampNeg (vp_nar .char 102)))), ((a 19), .inl (g 1, 40, .inr (.inl (vp_updL (fun _ => 0) (0 : Int32).toNatClampNeg 1)))), ((a 18), .inl (g 0, 40, .inl (upd (fun _ => (-1)) (0 : Int32).toNatClampNeg 0))), ((a 20), .inl (g 0, 12, .inl (upd (fun _ => 0) (0 : Int32).toNatClampNeg 0)))] H := hP
      have hD : va_D (va_A [((a 1), f_net a), ((a 12), .inl (g 2, 40, .inl (fun _ => 0))), ((a 19), .inl (g 1, 40, .inr (.inl (fun _ => 0)))), ((a 18), .inl (g 0, 40, .inl (fun _ => (-1)))), ((a 20), .inl (g 0, 12, .inl (fun _ => 0)))] s.heap.size) [((a 1), .inr (12, [.ref (a 12), .ref (a 13), .ref (a 14), .ref (a 15), .ref (a 16), .ref (a 17), .ref (a 18), .ref (a 19), .ref (a 20), .ref (a 21), .ref (a 22), .ref (a 23), .int 0, .int 1, .int 0, .int 0, .int 0, .int 0])), ((a 12), .inl (g 2, 40, .inl (upd (fun _ => 0) (0 : Int32).toNatClampNeg (vp_nar .char 102)))), ((a 19), .inl (g 1, 40, .inr (.inl (vp_updL (fun _ => 0) (0 : Int32).toNatClampNeg 1)))), ((a 18), .inl (g 0, 40, .inl (upd (fun _ => (-1)) (0 : Int32).toNatClampNeg 0))), ((a 20), .inl (g 0, 12, .inl (upd (fun _ => 0) (0 : Int32).toNatClampNeg 0)))] := hD
      refine lv_aload_n hx hb dX6_addSource_65 rfl (lv_at hl 1 rfl) ?_
      refine lv_dup hx hb dX6_addSource_66 rfl ?_
      refine va_get (D := D) (ci := 12) (v := .int 0) (C := RX6) (T := TX6) (N := 18) hx hb ht in_X6 hown hK.1 hP 0 rfl rfl 14 (by decide) (ht _ w_132) (fun _ h9 => h9) rfl dX6_addSource_67 ?_
      refine lv_iconst (v := 1) hx hb dX6_addSource_70 (by decide) ?_
      refine lv_iadd hx hb dX6_addSource_71 ?_
      refine r_topi (v := 1) (by decide) ?_
      refine va_put (D := D) (ci := 12) (v := .int 1) (ty := .int) (C := RX6) (T := TX6) (N := 18) hx hb ht in_X6 tyX6 tyX6_ok nmX6 hown hK.1 hP hD hS 0 rfl rfl 14 (by decide) (ht _ w_132) (fun _ h9 => h9) rfl (by decide +kernel) rfl rfl (Nat.le_of_ble_eq_true rfl) dX6_addSource_72 (fun H locs hP hD hS => ?_)
      have hP : va_P D vwCl [((a 1), .inr (12, [.ref (a 12), .ref (a 13), .ref (a 14), .ref (a 15), .ref (a 16), .ref (a 17), .ref (a 18), .ref (a 19), .ref (a 20), .ref (a 21), .ref (a 22), .ref (a 23), .int 0, .int 1, .int 1, .int 0, .int 0, .int 0])), ((a 12), .inl (g 2, 40, .inl (upd (fun _ => 0) (0 : Int32).toNatClampNeg (vp_nar .char 102)))), ((a 19), .inl (g 1, 40, .inr (.inl (vp_updL (fun _ => 0) (0 : Int32).toNatClampNeg 1)))), ((a 18), .inl (g 0, 40, .inl (upd (fun _ => (-1)) (0 : Int32).toNatClampNeg 0))), ((a 20), .inl (g 0, 12, .inl (upd (fun _ => 0) (0 : Int32).toNatClampNeg 0)))] H := hP
      have hD : va_D (va_A [((a 1), f_net a), ((a 12), .inl (g 2, 40, .inl (fun _ => 0))), ((a 19), .inl (g 1, 40, .inr (.inl (fun _ => 0)))), ((a 18), .inl (g 0, 40, .inl (fun _ => (-1)))), ((a 20), .inl (g 0, 12, .inl (fun _ => 0)))] s.heap.size) [((a 1), .inr (12, [.ref (a 12), .ref (a 13), .ref (a 14), .ref (a 15), .ref (a 16), .ref (a 17), .ref (a 18), .ref (a 19), .ref (a 20), .ref (a 21), .ref (a 22), .ref (a 23), .int 0, .int 1, .int 1, .int 0, .int 0, .int 0])), ((a 12), .inl (g 2, 40, .inl (upd (fun _ => 0) (0 : Int32).toNatClampNeg (vp_nar .char 102)))), ((a 19), .inl (g 1, 40, .inr (.inl (vp_updL (fun _ => 0) (0 : Int32).toNatClampNeg 1)))), ((a 18), .inl (g 0, 40, .inl (upd (fun _ => (-1)) (0 : Int32).toNatClampNeg 0))), ((a 20), .inl (g 0, 12, .inl (upd (fun _ => 0) (0 : Int32).toNatClampNeg 0)))] := hD
      refine lv_aload_n hx hb dX6_addSource_75 rfl (lv_at hl 1 rfl) ?_
      refine lv_dup hx hb dX6_addSource_76 rfl ?_
      refine va_get (D := D) (ci := 12) (v := .int 0) (C := RX6) (T := TX6) (N := 18) hx hb ht in_X6 hown hK.1 hP 0 rfl rfl 12 (by decide) (ht _ w_126) (fun _ h9 => h9) rfl dX6_addSource_77 ?_
      refine lv_iconst (v := 1) hx hb dX6_addSource_80 (by decide) ?_
      refine lv_iadd hx hb dX6_addSource_81 ?_
      refine r_topi (v := 1) (by decide) ?_
      refine va_put (D := D) (ci := 12) (v := .int 1) (ty := .int) (C := RX6) (T := TX6) (N := 18) hx hb ht in_X6 tyX6 tyX6_ok nmX6 hown hK.1 hP hD hS 0 rfl rfl 12 (by decide) (ht _ w_126) (fun _ h9 => h9) rfl (by decide +kernel) rfl rfl (Nat.le_of_ble_eq_true rfl) dX6_addSource_82 (fun H locs hP hD hS => ?_)
      have hP : va_P D vwCl [((a 1), .inr (12, [.ref (a 12), .ref (a 13), .ref (a 14), .ref (a 15), .ref (a 16), .ref (a 17), .ref (a 18), .ref (a 19), .ref (a 20), .ref (a 21), .ref (a 22), .ref (a 23), .int 1, .int 1, .int 1, .int 0, .int 0, .int 0])), ((a 12), .inl (g 2, 40, .inl (upd (fun _ => 0) (0 : Int32).toNatClampNeg (vp_nar .char 102)))), ((a 19), .inl (g 1, 40, .inr (.inl (vp_updL (fun _ => 0) (0 : Int32).toNatClampNeg 1)))), ((a 18), .inl (g 0, 40, .inl (upd (fun _ => (-1)) (0 : Int32).toNatClampNeg 0))), ((a 20), .inl (g 0, 12, .inl (upd (fun _ => 0) (0 : Int32).toNatClampNeg 0)))] H := hP
      have hD : va_D (va_A [((a 1), f_net a), ((a 12), .inl (g 2, 40, .inl (fun _ => 0))), ((a 19), .inl (g 1, 40, .inr (.inl (fun _ => 0)))), ((a 18), .inl (g 0, 40, .inl (fun _ => (-1)))), ((a 20), .inl (g 0, 12, .inl (fun _ => 0)))] s.heap.size) [((a 1), .inr (12, [.ref (a 12), .ref (a 13), .ref (a 14), .ref (a 15), .ref (a 16), .ref (a 17), .ref (a 18), .ref (a 19), .ref (a 20), .ref (a 21), .ref (a 22), .ref (a 23), .int 1, .int 1, .int 1, .int 0, .int 0, .int 0])), ((a 12), .inl (g 2, 40, .inl (upd (fun _ => 0) (0 : Int32).toNatClampNeg (vp_nar .char 102)))), ((a 19), .inl (g 1, 40, .inr (.inl (vp_updL (fun _ => 0) (0 : Int32).toNatClampNeg 1)))), ((a 18), .inl (g 0, 40, .inl (upd (fun _ => (-1)) (0 : Int32).toNatClampNeg 0))), ((a 20), .inl (g 0, 12, .inl (upd (fun _ => 0) (0 : Int32).toNatClampNeg 0)))] := hD
      refine lv_iload_n hx hb dX6_addSource_85 rfl (lv_at hl 0 rfl) ?_
      have hP9 := hP.sub (ws' := [((a 1), .inr (12, [.ref (a 12), .ref (a 13), .ref (a 14), .ref (a 15), .ref (a 16), .ref (a 17), .ref (a 18), .ref (a 19), .ref (a 20), .ref (a 21), .ref (a 22), .ref (a 23), .int 1, .int 1, .int 1, .int 0, .int 0, .int 0])), ((a 12), .inl (g 2, 40, .inl (upd (fun _ => 0) (0 : Int32).toNatClampNeg (vp_nar .char 102)))), ((a 19), .inl (g 1, 40, .inr (.inl (vp_updL (fun _ => 0) (0 : Int32).toNatClampNeg 1)))), ((a 18), .inl (g 0, 40, .inl (upd (fun _ => (-1)) (0 : Int32).toNatClampNeg 0))), ((a 20), .inl (g 0, 12, .inl (upd (fun _ => 0) (0 : Int32).toNatClampNeg 0)))]) [0, 1, 2, 3, 4] rfl
      have hD9 := hD.sub (ws' := [((a 1), .inr (12, [.ref (a 12), .ref (a 13), .ref (a 14), .ref (a 15), .ref (a 16), .ref (a 17), .ref (a 18), .ref (a 19), .ref (a 20), .ref (a 21), .ref (a 22), .ref (a 23), .int 1, .int 1, .int 1, .int 0, .int 0, .int 0])), ((a 12), .inl (g 2, 40, .inl (upd (fun _ => 0) (0 : Int32).toNatClampNeg (vp_nar .char 102)))), ((a 19), .inl (g 1, 40, .inr (.inl (vp_updL (fun _ => 0) (0 : Int32).toNatClampNeg 1)))), ((a 18), .inl (g 0, 40, .inl (upd (fun _ => (-1)) (0 : Int32).toNatClampNeg 0))), ((a 20), .inl (g 0, 12, .inl (upd (fun _ => 0) (0 : Int32).toNatClampNeg 0)))]) [0, 1, 2, 3, 4] (by decide) rfl
      refine W.widen (k := 0) (n := 0) (Nat.le_of_ble_eq_true rfl) (Nat.le_of_ble_eq_true rfl) ?_
      exact W.iret (v := 0) hx hb hr (fun t ht9 hW9 => ⟨⟨0, (), rfl, ⟨rfl, trivial⟩, ⟨(by rw [ht9]; exact hP9), hD9⟩⟩, hS.F ht9⟩) hS.2.2 dX6_addSource_86 hlocks
set_option maxHeartbeats 4000000 in
set_option maxRecDepth 100000 in
theorem k_X11_addSource (l : Launch) (D : va_G) (g : Nat → ClassId) (z0 sz : Nat) (a : Nat → Nat) : Met l yX11_addSource (.code yX11_addSource cX11_addSource 2 (some .int) :: TG) (rmk 1 0 0 22) (va_Pc [.ref (a 0), .int 1] (PP D g z0 sz [((a 0), f_x a), ((a 1), f_net a), ((a 12), .inl (g 2, 40, .inl (fun _ => 0))), ((a 19), .inl (g 1, 40, .inr (.inl (fun _ => 0)))), ((a 18), .inl (g 0, 40, .inl (fun _ => (-1)))), ((a 20), .inl (g 0, 12, .inl (fun _ => 0)))])) (va_Qi (fun (r : Int32) (u : Unit) => (r = 0) ∧ True) (fun (u : Unit) (t : State) => va_P D vwCl [((a 0), f_x a), ((a 1), .inr (12, [.ref (a 12), .ref (a 13), .ref (a 14), .ref (a 15), .ref (a 16), .ref (a 17), .ref (a 18), .ref (a 19), .ref (a 20), .ref (a 21), .ref (a 22), .ref (a 23), .int 1, .int 1, .int 1, .int 0, .int 0, .int 0])), ((a 12), .inl (g 2, 40, .inl (upd (fun _ => 0) (0 : Int32).toNatClampNeg (vp_nar .char 102)))), ((a 19), .inl (g 1, 40, .inr (.inl (vp_updL (fun _ => 0) (0 : Int32).toNatClampNeg 1)))), ((a 18), .inl (g 0, 40, .inl (upd (fun _ => (-1)) (0 : Int32).toNatClampNeg 0))), ((a 20), .inl (g 0, 12, .inl (upd (fun _ => 0) (0 : Int32).toNatClampNeg 0)))] t.heap ∧ va_D (va_A [((a 0), f_x a), ((a 1), f_net a), ((a 12), .inl (g 2, 40, .inl (fun _ => 0))), ((a 19), .inl (g 1, 40, .inr (.inl (fun _ => 0)))), ((a 18), .inl (g 0, 40, .inl (fun _ => (-1)))), ((a 20), .inl (g 0, 12, .inl (fun _ => 0)))] sz) [((a 0), f_x a), ((a 1), .inr (12, [.ref (a 12), .ref (a 13), .ref (a 14), .ref (a 15), .ref (a 16), .ref (a 17), .ref (a 18), .ref (a 19), .ref (a 20), .ref (a 21), .ref (a 22), .ref (a 23), .int 1, .int 1, .int 1, .int 0, .int 0, .int 0])), ((a 12), .inl (g 2, 40, .inl (upd (fun _ => 0) (0 : Int32).toNatClampNeg (vp_nar .char 102)))), ((a 19), .inl (g 1, 40, .inr (.inl (vp_updL (fun _ => 0) (0 : Int32).toNatClampNeg 1)))), ((a 18), .inl (g 0, 40, .inl (upd (fun _ => (-1)) (0 : Int32).toNatClampNeg 0))), ((a 20), .inl (g 0, 12, .inl (upd (fun _ => 0) (0 : Int32).toNatClampNeg 0)))]) (va_A [((a 0), f_x a), ((a 1), f_net a), ((a 12), .inl (g 2, 40, .inl (fun _ => 0))), ((a 19), .inl (g 1, 40, .inr (.inl (fun _ => 0)))), ((a 18), .inl (g 0, 40, .inl (fun _ => (-1)))), ((a 20), .inl (g 0, 12, .inl (fun _ => 0)))] sz)) 0 0 (va_A [((a 0), f_x a), ((a 1), f_net a), ((a 12), .inl (g 2, 40, .inl (fun _ => 0))), ((a 19), .inl (g 1, 40, .inr (.inl (fun _ => 0)))), ((a 18), .inl (g 0, 40, .inl (fun _ => (-1)))), ((a 20), .inl (g 0, 12, .inl (fun _ => 0)))] sz) := by
  refine met0 (cc := cX11_addSource) (n := 2) (by decide) (Nat.le_of_ble_eq_true rfl) ?_
  intro p e s m args below meth c hx hb hr hml hown ht hlocks hnm hP0 hD0 hK hZ hsz hz ls hl
  subst hsz
  have hA : ∀ q : Nat, s.heap.size ≤ q → va_A [((a 0), f_x a), ((a 1), f_net a), ((a 12), .inl (g 2, 40, .inl (fun _ => 0))), ((a 19), .inl (g 1, 40, .inr (.inl (fun _ => 0)))), ((a 18), .inl (g 0, 40, .inl (fun _ => (-1)))), ((a 20), .inl (g 0, 12, .inl (fun _ => 0)))] s.heap.size q := Anw
  have hAz : ∀ q, va_A [((a 0), f_x a), ((a 1), f_net a), ((a 12), .inl (g 2, 40, .inl (fun _ => 0))), ((a 19), .inl (g 1, 40, .inr (.inl (fun _ => 0)))), ((a 18), .inl (g 0, 40, .inl (fun _ => (-1)))), ((a 20), .inl (g 0, 12, .inl (fun _ => 0)))] s.heap.size q → z0 ≤ q := Awz hz hD0
  have hS : va_S (va_A [((a 0), f_x a), ((a 1), f_net a), ((a 12), .inl (g 2, 40, .inl (fun _ => 0))), ((a 19), .inl (g 1, 40, .inr (.inl (fun _ => 0)))), ((a 18), .inl (g 0, 40, .inl (fun _ => (-1)))), ((a 20), .inl (g 0, 12, .inl (fun _ => 0)))] s.heap.size) s.heap s.heap [] := va_S.rf
  have hD : va_D (va_A [((a 0), f_x a), ((a 1), f_net a), ((a 12), .inl (g 2, 40, .inl (fun _ => 0))), ((a 19), .inl (g 1, 40, .inr (.inl (fun _ => 0)))), ((a 18), .inl (g 0, 40, .inl (fun _ => (-1)))), ((a 20), .inl (g 0, 12, .inl (fun _ => 0)))] s.heap.size) [((a 0), f_x a), ((a 1), f_net a), ((a 12), .inl (g 2, 40, .inl (fun _ => 0))), ((a 19), .inl (g 1, 40, .inr (.inl (fun _ => 0)))), ((a 18), .inl (g 0, 40, .inl (fun _ => (-1)))), ((a 20), .inl (g 0, 12, .inl (fun _ => 0)))] := hD0.self
  have hP : va_P D vwCl [((a 0), f_x a), ((a 1), f_net a), ((a 12), .inl (g 2, 40, .inl (fun _ => 0))), ((a 19), .inl (g 1, 40, .inr (.inl (fun _ => 0)))), ((a 18), .inl (g 0, 40, .inl (fun _ => (-1)))), ((a 20), .inl (g 0, 12, .inl (fun _ => 0)))] s.heap := hP0
  have hl : lv_has ls 2 [(0, .ref (a 0)), (1, .int 1)] := hl
  refine lv_aload_n hx hb dX11_addSource_0 rfl (lv_at hl 0 rfl) ?_
  have hPc : va_P D vwCl [((a 0), f_x a), ((a 1), f_net a)] _ := hP.sub (ws' := [((a 0), f_x a), ((a 1), f_net a)]) [0, 1] rfl
  have hDc : va_D (fun q => z0 ≤ q) [((a 0), f_x a), ((a 1), f_net a)] := (hD.to hAz).pick (ws' := [((a 0), f_x a), ((a 1), f_net a)]) [0, 1] (by decide) rfl
  have hFc := AnA (ws := [((a 0), f_x a), ((a 1), f_net a), ((a 12), .inl (g 2, 40, .inl (fun _ => 0))), ((a 19), .inl (g 1, 40, .inr (.inl (fun _ => 0)))), ((a 18), .inl (g 0, 40, .inl (fun _ => (-1)))), ((a 20), .inl (g 0, 12, .inl (fun _ => 0)))]) hS.1
  refine va_callv (va_runV (As := []) (rest := []) ⟨hx, hb, hml, hown, ht⟩ (k_X11_needOpenNet l D g z0 _ a) (cwV 0 ht (gV w_121 w_123 w_124 w_31 w_122) rfl rfl rfl (by decide +kernel) (le2 rfl rfl)) ⟨PP.blind, va_recv hK.1 hP (ci := 17) (q0 := 0) rfl rfl, PP.mk' hK hZ hz hAz hS hPc hDc⟩ rfl rfl hl.1 rfl (lv_room (Nat.le_of_ble_eq_true rfl)) dX11_addSource_1 (le2 rfl rfl)) hS (fun q _ h => hFc q h) hFc (fun u t H locs ht1 hvm hw hB hz1 hk1 hS => ?_)
  have hP := ro1 hP hk1
  refine lv_aload_n hx hb dX11_addSource_4 rfl (lv_at hl 0 rfl) ?_
  refine va_get (D := D) (ci := 17) (v := .ref (a 1)) (C := RX11) (T := TX11) (N := 11) hx hb ht in_X11 hown hK.1 hP 0 rfl rfl 0 (by decide) (ht _ w_68) (fun _ h9 => h9) rfl dX11_addSource_5 ?_
  refine va_get (D := D) (ci := 12) (v := .int 0) (C := RX6) (T := TX6) (N := 18) hx hb ht in_X6 hown hK.1 hP 1 rfl rfl 12 (by decide) (ht _ w_81) (fun _ h9 => h9) rfl dX11_addSource_8 ?_
  refine lv_bipush (v := 40) hx hb dX11_addSource_11 (by decide) ?_
  refine lv_icmp_ge (tgt := 28) hx hb dX11_addSource_13 (by decide) (fun c_1 => ?_) (fun c_1 => ?_)
  · exact absurd c_1 (by decide)
  · refine lv_aload_n hx hb dX11_addSource_16 rfl (lv_at hl 0 rfl) ?_
    refine va_get (D := D) (ci := 17) (v := .ref (a 1)) (C := RX11) (T := TX11) (N := 11) hx hb ht in_X11 hown hK.1 hP 0 rfl rfl 0 (by decide) (ht _ w_68) (fun _ h9 => h9) rfl dX11_addSource_17 ?_
    refine va_get (D := D) (ci := 12) (v := .int 0) (C := RX6) (T := TX6) (N := 18) hx hb ht in_X6 hown hK.1 hP 1 rfl rfl 13 (by decide) (ht _ w_125) (fun _ h9 => h9) rfl dX11_addSource_20 ?_
    refine lv_bipush (v := 12) hx hb dX11_addSource_23 (by decide) ?_
    refine lv_icmp_lt (tgt := 36) hx hb dX11_addSource_25 (by decide) (fun c_2 => ?_) (fun c_2 => ?_)
    · refine lv_aload_n hx hb dX11_addSource_36 rfl (lv_at hl 0 rfl) ?_
      refine va_get (D := D) (ci := 17) (v := .ref (a 1)) (C := RX11) (T := TX11) (N := 11) hx hb ht in_X11 hown hK.1 hP 0 rfl rfl 0 (by decide) (ht _ w_68) (fun _ h9 => h9) rfl dX11_addSource_37 ?_
      refine lv_iload_n hx hb dX11_addSource_40 rfl (lv_at hl 1 rfl) ?_
      have hPc : va_P D vwCl [((a 1), f_net a), ((a 12), .inl (g 2, 40, .inl (fun _ => 0))), ((a 19), .inl (g 1, 40, .inr (.inl (fun _ => 0)))), ((a 18), .inl (g 0, 40, .inl (fun _ => (-1)))), ((a 20), .inl (g 0, 12, .inl (fun _ => 0)))] _ := hP.sub (ws' := [((a 1), f_net a), ((a 12), .inl (g 2, 40, .inl (fun _ => 0))), ((a 19), .inl (g 1, 40, .inr (.inl (fun _ => 0)))), ((a 18), .inl (g 0, 40, .inl (fun _ => (-1)))), ((a 20), .inl (g 0, 12, .inl (fun _ => 0)))]) [1, 2, 3, 4, 5] rfl
      have hDc : va_D (fun q => z0 ≤ q) [((a 1), f_net a), ((a 12), .inl (g 2, 40, .inl (fun _ => 0))), ((a 19), .inl (g 1, 40, .inr (.inl (fun _ => 0)))), ((a 18), .inl (g 0, 40, .inl (fun _ => (-1)))), ((a 20), .inl (g 0, 12, .inl (fun _ => 0)))] := (hD.to hAz).pick (ws' := [((a 1), f_net a), ((a 12), .inl (g 2, 40, .inl (fun _ => 0))), ((a 19), .inl (g 1, 40, .inr (.inl (fun _ => 0)))), ((a 18), .inl (g 0, 40, .inl (fun _ => (-1)))), ((a 20), .inl (g 0, 12, .inl (fun _ => 0)))]) [1, 2, 3, 4, 5] (by decide) rfl
      have hFc := va_free (wc := [((a 1), f_net a), ((a 12), .inl (g 2, 40, .inl (fun _ => 0))), ((a 19), .inl (g 1, 40, .inr (.inl (fun _ => 0)))), ((a 18), .inl (g 0, 40, .inl (fun _ => (-1)))), ((a 20), .inl (g 0, 12, .inl (fun _ => 0)))]) hD hS hA [1, 2, 3, 4, 5] rfl
      refine va_calli (va_runV (As := [.int 1]) (rest := []) ⟨hx, hb, hml, hown, ht⟩ (k_X6_addSource l D g z0 _ a) (cwV 1 ht (gV w_133 w_135 w_136 w_137 w_134) rfl rfl rfl (by decide +kernel) (le2 rfl rfl)) ⟨PP.blind, va_recv hK.1 hP (ci := 12) (q0 := 1) rfl rfl, PP.mk' hK hZ hz hAz hS hPc hDc⟩ rfl rfl hl.1 rfl (lv_room (Nat.le_of_ble_eq_true rfl)) dX11_addSource_41 (le2 rfl rfl)) hS (fun q _ h => hFc q h) hFc (fun r u t H locs ht1 hvm hw hB hz1 hk1 hS => ?_)
      obtain ⟨rfl, hw⟩ := hw
      obtain ⟨hP1, hD1⟩ := hB
      rw [ht1] at hP1
      obtain ⟨hP, hD⟩ := va_join (wr := [((a 0), f_x a)]) (w1 := [((a 1), .inr (12, [.ref (a 12), .ref (a 13), .ref (a 14), .ref (a 15), .ref (a 16), .ref (a 17), .ref (a 18), .ref (a 19), .ref (a 20), .ref (a 21), .ref (a 22), .ref (a 23), .int 1, .int 1, .int 1, .int 0, .int 0, .int 0])), ((a 12), .inl (g 2, 40, .inl (upd (fun _ => 0) (0 : Int32).toNatClampNeg (vp_nar .char 102)))), ((a 19), .inl (g 1, 40, .inr (.inl (vp_updL (fun _ => 0) (0 : Int32).toNatClampNeg 1)))), ((a 18), .inl (g 0, 40, .inl (upd (fun _ => (-1)) (0 : Int32).toNatClampNeg 0))), ((a 20), .inl (g 0, 12, .inl (upd (fun _ => 0) (0 : Int32).toNatClampNeg 0)))]) hP hD [1, 2, 3, 4, 5] [0] rfl rfl (by decide) (by decide) hk1 hFc hP1 hD1
      have hP : va_P D vwCl [((a 0), f_x a), ((a 1), .inr (12, [.ref (a 12), .ref (a 13), .ref (a 14), .ref (a 15), .ref (a 16), .ref (a 17), .ref (a 18), .ref (a 19), .ref (a 20), .ref (a 21), .ref (a 22), .ref (a 23), .int 1, .int 1, .int 1, .int 0, .int 0, .int 0])), ((a 12), .inl (g 2, 40, .inl (upd (fun _ => 0) (0 : Int32).toNatClampNeg (vp_nar .char 102)))), ((a 19), .inl (g 1, 40, .inr (.inl (vp_updL (fun _ => 0) (0 : Int32).toNatClampNeg 1)))), ((a 18), .inl (g 0, 40, .inl (upd (fun _ => (-1)) (0 : Int32).toNatClampNeg 0))), ((a 20), .inl (g 0, 12, .inl (upd (fun _ => 0) (0 : Int32).toNatClampNeg 0)))] H := hP
      have hD : va_D (va_A [((a 0), f_x a), ((a 1), f_net a), ((a 12), .inl (g 2, 40, .inl (fun _ => 0))), ((a 19), .inl (g 1, 40, .inr (.inl (fun _ => 0)))), ((a 18), .inl (g 0, 40, .inl (fun _ => (-1)))), ((a 20), .inl (g 0, 12, .inl (fun _ => 0)))] s.heap.size) [((a 0), f_x a), ((a 1), .inr (12, [.ref (a 12), .ref (a 13), .ref (a 14), .ref (a 15), .ref (a 16), .ref (a 17), .ref (a 18), .ref (a 19), .ref (a 20), .ref (a 21), .ref (a 22), .ref (a 23), .int 1, .int 1, .int 1, .int 0, .int 0, .int 0])), ((a 12), .inl (g 2, 40, .inl (upd (fun _ => 0) (0 : Int32).toNatClampNeg (vp_nar .char 102)))), ((a 19), .inl (g 1, 40, .inr (.inl (vp_updL (fun _ => 0) (0 : Int32).toNatClampNeg 1)))), ((a 18), .inl (g 0, 40, .inl (upd (fun _ => (-1)) (0 : Int32).toNatClampNeg 0))), ((a 20), .inl (g 0, 12, .inl (upd (fun _ => 0) (0 : Int32).toNatClampNeg 0)))] := hD
      have hP9 := hP.sub (ws' := [((a 0), f_x a), ((a 1), .inr (12, [.ref (a 12), .ref (a 13), .ref (a 14), .ref (a 15), .ref (a 16), .ref (a 17), .ref (a 18), .ref (a 19), .ref (a 20), .ref (a 21), .ref (a 22), .ref (a 23), .int 1, .int 1, .int 1, .int 0, .int 0, .int 0])), ((a 12), .inl (g 2, 40, .inl (upd (fun _ => 0) (0 : Int32).toNatClampNeg (vp_nar .char 102)))), ((a 19), .inl (g 1, 40, .inr (.inl (vp_updL (fun _ => 0) (0 : Int32).toNatClampNeg 1)))), ((a 18), .inl (g 0, 40, .inl (upd (fun _ => (-1)) (0 : Int32).toNatClampNeg 0))), ((a 20), .inl (g 0, 12, .inl (upd (fun _ => 0) (0 : Int32).toNatClampNeg 0)))]) [0, 1, 2, 3, 4, 5] rfl
      have hD9 := hD.sub (ws' := [((a 0), f_x a), ((a 1), .inr (12, [.ref (a 12), .ref (a 13), .ref (a 14), .ref (a 15), .ref (a 16), .ref (a 17), .ref (a 18), .ref (a 19), .ref (a 20), .ref (a 21), .ref (a 22), .ref (a 23), .int 1, .int 1, .int 1, .int 0, .int 0, .int 0])), ((a 12), .inl (g 2, 40, .inl (upd (fun _ => 0) (0 : Int32).toNatClampNeg (vp_nar .char 102)))), ((a 19), .inl (g 1, 40, .inr (.inl (vp_updL (fun _ => 0) (0 : Int32).toNatClampNeg 1)))), ((a 18), .inl (g 0, 40, .inl (upd (fun _ => (-1)) (0 : Int32).toNatClampNeg 0))), ((a 20), .inl (g 0, 12, .inl (upd (fun _ => 0) (0 : Int32).toNatClampNeg 0)))]) [0, 1, 2, 3, 4, 5] (by decide) rfl
      refine W.widen (k := 0) (n := 0) (Nat.le_of_ble_eq_true rfl) (Nat.le_of_ble_eq_true rfl) ?_
      exact W.iret (v := 0) hx hb hr (fun t ht9 hW9 => ⟨⟨0, (), rfl, ⟨rfl, trivial⟩, ⟨(by rw [ht9]; exact hP9), hD9⟩⟩, hS.F ht9⟩) hS.2.2 dX11_addSource_44 hlocks
    · exact absurd c_2 (by decide)
set_option maxHeartbeats 4000000 in
set_option maxRecDepth 100000 in
theorem k_X11_cell (l : Launch) (D : va_G) (g : Nat → ClassId) (z0 sz : Nat) (a : Nat → Nat) : Met l yX11_cell (.code yX11_cell cX11_cell 1 (some .int) :: TG) (rmk 2 0 0 43) (va_Pc [.ref (a 0)] (PP D g z0 sz [((a 0), f_x a), ((a 1), f_net a), ((a 12), .inl (g 2, 40, .inl (fun _ => 0))), ((a 19), .inl (g 1, 40, .inr (.inl (fun _ => 0)))), ((a 18), .inl (g 0, 40, .inl (fun _ => (-1)))), ((a 20), .inl (g 0, 12, .inl (fun _ => 0)))])) (va_Qi (fun (r : Int32) (u : Unit) => (r = 0) ∧ True) (fun (u : Unit) (t : State) => va_P D vwCl [] t.heap ∧ va_D (va_A [((a 0), f_x a), ((a 1), f_net a), ((a 12), .inl (g 2, 40, .inl (fun _ => 0))), ((a 19), .inl (g 1, 40, .inr (.inl (fun _ => 0)))), ((a 18), .inl (g 0, 40, .inl (fun _ => (-1)))), ((a 20), .inl (g 0, 12, .inl (fun _ => 0)))] sz) []) (va_A [((a 0), f_x a), ((a 1), f_net a), ((a 12), .inl (g 2, 40, .inl (fun _ => 0))), ((a 19), .inl (g 1, 40, .inr (.inl (fun _ => 0)))), ((a 18), .inl (g 0, 40, .inl (fun _ => (-1)))), ((a 20), .inl (g 0, 12, .inl (fun _ => 0)))] sz)) 0 0 (va_A [((a 0), f_x a), ((a 1), f_net a), ((a 12), .inl (g 2, 40, .inl (fun _ => 0))), ((a 19), .inl (g 1, 40, .inr (.inl (fun _ => 0)))), ((a 18), .inl (g 0, 40, .inl (fun _ => (-1)))), ((a 20), .inl (g 0, 12, .inl (fun _ => 0)))] sz) := by
  refine met0 (cc := cX11_cell) (n := 1) (by decide) (Nat.le_of_ble_eq_true rfl) ?_
  intro p e s m args below meth c hx hb hr hml hown ht hlocks hnm hP0 hD0 hK hZ hsz hz ls hl
  subst hsz
  have hA : ∀ q : Nat, s.heap.size ≤ q → va_A [((a 0), f_x a), ((a 1), f_net a), ((a 12), .inl (g 2, 40, .inl (fun _ => 0))), ((a 19), .inl (g 1, 40, .inr (.inl (fun _ => 0)))), ((a 18), .inl (g 0, 40, .inl (fun _ => (-1)))), ((a 20), .inl (g 0, 12, .inl (fun _ => 0)))] s.heap.size q := Anw
  have hAz : ∀ q, va_A [((a 0), f_x a), ((a 1), f_net a), ((a 12), .inl (g 2, 40, .inl (fun _ => 0))), ((a 19), .inl (g 1, 40, .inr (.inl (fun _ => 0)))), ((a 18), .inl (g 0, 40, .inl (fun _ => (-1)))), ((a 20), .inl (g 0, 12, .inl (fun _ => 0)))] s.heap.size q → z0 ≤ q := Awz hz hD0
  have hS : va_S (va_A [((a 0), f_x a), ((a 1), f_net a), ((a 12), .inl (g 2, 40, .inl (fun _ => 0))), ((a 19), .inl (g 1, 40, .inr (.inl (fun _ => 0)))), ((a 18), .inl (g 0, 40, .inl (fun _ => (-1)))), ((a 20), .inl (g 0, 12, .inl (fun _ => 0)))] s.heap.size) s.heap s.heap [] := va_S.rf
  have hD : va_D (va_A [((a 0), f_x a), ((a 1), f_net a), ((a 12), .inl (g 2, 40, .inl (fun _ => 0))), ((a 19), .inl (g 1, 40, .inr (.inl (fun _ => 0)))), ((a 18), .inl (g 0, 40, .inl (fun _ => (-1)))), ((a 20), .inl (g 0, 12, .inl (fun _ => 0)))] s.heap.size) [((a 0), f_x a), ((a 1), f_net a), ((a 12), .inl (g 2, 40, .inl (fun _ => 0))), ((a 19), .inl (g 1, 40, .inr (.inl (fun _ => 0)))), ((a 18), .inl (g 0, 40, .inl (fun _ => (-1)))), ((a 20), .inl (g 0, 12, .inl (fun _ => 0)))] := hD0.self
  have hP : va_P D vwCl [((a 0), f_x a), ((a 1), f_net a), ((a 12), .inl (g 2, 40, .inl (fun _ => 0))), ((a 19), .inl (g 1, 40, .inr (.inl (fun _ => 0)))), ((a 18), .inl (g 0, 40, .inl (fun _ => (-1)))), ((a 20), .inl (g 0, 12, .inl (fun _ => 0)))] s.heap := hP0
  have hl : lv_has ls 1 [(0, .ref (a 0))] := hl
  refine lv_aload_n hx hb dX11_cell_0 rfl (lv_at hl 0 rfl) ?_
  refine lv_iconst (v := 1) hx hb dX11_cell_1 (by decide) ?_
  have hPc : va_P D vwCl [((a 0), f_x a), ((a 1), f_net a), ((a 12), .inl (g 2, 40, .inl (fun _ => 0))), ((a 19), .inl (g 1, 40, .inr (.inl (fun _ => 0)))), ((a 18), .inl (g 0, 40, .inl (fun _ => (-1)))), ((a 20), .inl (g 0, 12, .inl (fun _ => 0)))] _ := hP.sub (ws' := [((a 0), f_x a), ((a 1), f_net a), ((a 12), .inl (g 2, 40, .inl (fun _ => 0))), ((a 19), .inl (g 1, 40, .inr (.inl (fun _ => 0)))), ((a 18), .inl (g 0, 40, .inl (fun _ => (-1)))), ((a 20), .inl (g 0, 12, .inl (fun _ => 0)))]) [0, 1, 2, 3, 4, 5] rfl
  have hDc : va_D (fun q => z0 ≤ q) [((a 0), f_x a), ((a 1), f_net a), ((a 12), .inl (g 2, 40, .inl (fun _ => 0))), ((a 19), .inl (g 1, 40, .inr (.inl (fun _ => 0)))), ((a 18), .inl (g 0, 40, .inl (fun _ => (-1)))), ((a 20), .inl (g 0, 12, .inl (fun _ => 0)))] := (hD.to hAz).pick (ws' := [((a 0), f_x a), ((a 1), f_net a), ((a 12), .inl (g 2, 40, .inl (fun _ => 0))), ((a 19), .inl (g 1, 40, .inr (.inl (fun _ => 0)))), ((a 18), .inl (g 0, 40, .inl (fun _ => (-1)))), ((a 20), .inl (g 0, 12, .inl (fun _ => 0)))]) [0, 1, 2, 3, 4, 5] (by decide) rfl
  have hFc := va_free (wc := [((a 0), f_x a), ((a 1), f_net a), ((a 12), .inl (g 2, 40, .inl (fun _ => 0))), ((a 19), .inl (g 1, 40, .inr (.inl (fun _ => 0)))), ((a 18), .inl (g 0, 40, .inl (fun _ => (-1)))), ((a 20), .inl (g 0, 12, .inl (fun _ => 0)))]) hD hS hA [0, 1, 2, 3, 4, 5] rfl
  refine va_calli (va_runV (As := [.int 1]) (rest := []) ⟨hx, hb, hml, hown, ht⟩ (k_X11_addSource l D g z0 _ a) (cwV 1 ht (gV w_138 w_140 w_141 w_31 w_139) rfl rfl rfl (by decide +kernel) (le2 rfl rfl)) ⟨PP.blind, va_recv hK.1 hP (ci := 17) (q0 := 0) rfl rfl, PP.mk' hK hZ hz hAz hS hPc hDc⟩ rfl rfl hl.1 rfl (lv_room (Nat.le_of_ble_eq_true rfl)) dX11_cell_2 (le2 rfl rfl)) hS (fun q _ h => hFc q h) hFc (fun r u t H locs ht1 hvm hw hB hz1 hk1 hS => ?_)
  obtain ⟨rfl, hw⟩ := hw
  obtain ⟨hP1, hD1⟩ := hB
  rw [ht1] at hP1
  obtain ⟨hP, hD⟩ := va_join (wr := []) (w1 := [((a 0), f_x a), ((a 1), .inr (12, [.ref (a 12), .ref (a 13), .ref (a 14), .ref (a 15), .ref (a 16), .ref (a 17), .ref (a 18), .ref (a 19), .ref (a 20), .ref (a 21), .ref (a 22), .ref (a 23), .int 1, .int 1, .int 1, .int 0, .int 0, .int 0])), ((a 12), .inl (g 2, 40, .inl (upd (fun _ => 0) (0 : Int32).toNatClampNeg (vp_nar .char 102)))), ((a 19), .inl (g 1, 40, .inr (.inl (vp_updL (fun _ => 0) (0 : Int32).toNatClampNeg 1)))), ((a 18), .inl (g 0, 40, .inl (upd (fun _ => (-1)) (0 : Int32).toNatClampNeg 0))), ((a 20), .inl (g 0, 12, .inl (upd (fun _ => 0) (0 : Int32).toNatClampNeg 0)))]) hP hD [0, 1, 2, 3, 4, 5] [] rfl rfl (by decide) (by decide) hk1 hFc hP1 hD1
  have hP : va_P D vwCl [((a 0), f_x a), ((a 1), .inr (12, [.ref (a 12), .ref (a 13), .ref (a 14), .ref (a 15), .ref (a 16), .ref (a 17), .ref (a 18), .ref (a 19), .ref (a 20), .ref (a 21), .ref (a 22), .ref (a 23), .int 1, .int 1, .int 1, .int 0, .int 0, .int 0])), ((a 12), .inl (g 2, 40, .inl (upd (fun _ => 0) (0 : Int32).toNatClampNeg (vp_nar .char 102)))), ((a 19), .inl (g 1, 40, .inr (.inl (vp_updL (fun _ => 0) (0 : Int32).toNatClampNeg 1)))), ((a 18), .inl (g 0, 40, .inl (upd (fun _ => (-1)) (0 : Int32).toNatClampNeg 0))), ((a 20), .inl (g 0, 12, .inl (upd (fun _ => 0) (0 : Int32).toNatClampNeg 0)))] H := hP
  have hD : va_D (va_A [((a 0), f_x a), ((a 1), f_net a), ((a 12), .inl (g 2, 40, .inl (fun _ => 0))), ((a 19), .inl (g 1, 40, .inr (.inl (fun _ => 0)))), ((a 18), .inl (g 0, 40, .inl (fun _ => (-1)))), ((a 20), .inl (g 0, 12, .inl (fun _ => 0)))] s.heap.size) [((a 0), f_x a), ((a 1), .inr (12, [.ref (a 12), .ref (a 13), .ref (a 14), .ref (a 15), .ref (a 16), .ref (a 17), .ref (a 18), .ref (a 19), .ref (a 20), .ref (a 21), .ref (a 22), .ref (a 23), .int 1, .int 1, .int 1, .int 0, .int 0, .int 0])), ((a 12), .inl (g 2, 40, .inl (upd (fun _ => 0) (0 : Int32).toNatClampNeg (vp_nar .char 102)))), ((a 19), .inl (g 1, 40, .inr (.inl (vp_updL (fun _ => 0) (0 : Int32).toNatClampNeg 1)))), ((a 18), .inl (g 0, 40, .inl (upd (fun _ => (-1)) (0 : Int32).toNatClampNeg 0))), ((a 20), .inl (g 0, 12, .inl (upd (fun _ => 0) (0 : Int32).toNatClampNeg 0)))] := hD
  have hP9 := hP.sub (ws' := []) [] rfl
  have hD9 := hD.sub (ws' := []) [] (by decide) rfl
  refine W.widen (k := 0) (n := 0) (Nat.le_of_ble_eq_true rfl) (Nat.le_of_ble_eq_true rfl) ?_
  exact W.iret (v := 0) hx hb hr (fun t ht9 hW9 => ⟨⟨0, (), rfl, ⟨rfl, trivial⟩, ⟨(by rw [ht9]; exact hP9), hD9⟩⟩, hS.F ht9⟩) hS.2.2 dX11_cell_5 hlocks
set_option maxHeartbeats 4000000 in
set_option maxRecDepth 100000 in
theorem k_X11_chance (l : Launch) (hfl : l.stackTraces = false) (D : va_G) (g : Nat → ClassId) (z0 sz : Nat) (a : Nat → Nat) (p0 : Int32) (p1 : Int32) : vx_Met l yX11_chance (.code yX11_chance cX11_chance 6 (some .int) :: TG) (rmk 7 3 18 103) (va_Pc [.ref (a 0), .int p0, .int p1] (PP D g z0 sz [((a 0), f_x a), ((a 1), f_net a)])) (va_Qi (fun (r : Int32) (u : Unit) => False) (fun (_ : Unit) (_ : State) => True) (va_A [] sz)) (vx_X (fun _ : Unit => True) (fun E _ _ => (E = "java/lang/IllegalArgumentException" ∧ ((p0 < 0) ∨ ((¬ p0 < 0) ∧ (¬ p0 ≤ 65535)) ∨ ((¬ p0 < 0) ∧ (p0 ≤ 65535) ∧ (p1 < 1)) ∨ ((¬ p0 < 0) ∧ (p0 ≤ 65535) ∧ (¬ p1 < 1) ∧ (¬ p1 ≤ 200)))) ∨ (E = "java/lang/UnsupportedOperationException" ∧ ((¬ p0 < 0) ∧ (p0 ≤ 65535) ∧ (¬ p1 < 1) ∧ (p1 ≤ 200)))) (va_A [] sz)) 3 18 (va_A [] sz) := by
  refine vxm0 (cc := cX11_chance) (n := 6) (by decide) (Nat.le_of_ble_eq_true rfl) ?_
  intro p e s m args below meth c hx hb hr hml htab hown ht hlocks hnm hP0 hD0 hK hZ hsz hz ls hl
  subst hsz
  have hA : ∀ q : Nat, s.heap.size ≤ q → va_A [] s.heap.size q := Anw
  have hAz : ∀ q, va_A [] s.heap.size q → z0 ≤ q := A0z hz
  have hS : va_S (va_A [] s.heap.size) s.heap s.heap [] := va_S.rf
  have hl : lv_has ls 6 [(0, .ref (a 0)), (1, .int p0), (2, .int p1)] := hl
  refine lv_iload_n hx hb dX11_chance_0 rfl (lv_at hl 1 rfl) ?_
  refine lv_iconst (v := 0) hx hb dX11_chance_1 (by decide) ?_
  refine lv_ldcw (v := 65535) hx hb hown (ht _ w_142) dX11_chance_2 ?_
  have hPc : va_P D vwCl [] _ := (ro0 hP0 hS).sub (ws' := []) [] rfl
  have hDc : va_D (fun q => z0 ≤ q) [] := hD0.pick (ws' := []) [] (by decide) rfl
  have hFc := AnA (ws := []) hS.1
  refine vx_callv (vx_runS (As := [.int p0, .int 0, .int 65535]) (rest := []) ⟨hx, hb, hml, hown, ht⟩ (k_X11_needRange l hfl D g z0 _ a p0 0 65535) (va_cwS 3 ht (gS w_53 w_55 w_31 w_54) rfl rfl rfl (by decide +kernel) (le2 rfl rfl)) ⟨PP.blind, PP.mk' hK hZ hz hAz hS hPc hDc⟩ rfl rfl hl.1 rfl (lv_room (Nat.le_of_ble_eq_true rfl)) dX11_chance_5 (le2 rfl rfl)) hS (fun q _ h => hFc q h) hFc (fun q _ h => hFc q h) (fun E ce q9 u t H locs ht1 hvm hw hB hz1 hk1 hS hcell hv9 hcl => ?_) (fun u t H locs ht1 hvm hw hB hz1 hk1 hS => ?_)
  · obtain ⟨rfl, hB⟩ := hB
    rcases hB with hB | hB
    · have c_1 := hB
      exact out0 htab hlocks hS hcell hv9 hcl (fun t _ hF => ⟨(), trivial, (Or.inl ⟨rfl, (Or.inl c_1)⟩), hF⟩) (fun _ h => h) rfl rfl
    · obtain ⟨c_2, c_3⟩ := hB
      exact out0 htab hlocks hS hcell hv9 hcl (fun t _ hF => ⟨(), trivial, (Or.inl ⟨rfl, (Or.inr (Or.inl ⟨c_2, c_3⟩))⟩), hF⟩) (fun _ h => h) rfl rfl
  · obtain ⟨c_4, c_5⟩ := hw
    refine lv_iload_n hx hb dX11_chance_8 rfl (lv_at hl 2 rfl) ?_
    refine lv_iconst (v := 1) hx hb dX11_chance_9 (by decide) ?_
    refine lv_sipush (v := 200) hx hb dX11_chance_10 (by decide) ?_
    have hPc : va_P D vwCl [] _ := (ro0 hP0 hS).sub (ws' := []) [] rfl
    have hDc : va_D (fun q => z0 ≤ q) [] := hD0.pick (ws' := []) [] (by decide) rfl
    have hFc := AnA (ws := []) hS.1
    refine vx_callv (vx_runS (As := [.int p1, .int 1, .int 200]) (rest := []) ⟨hx, hb, hml, hown, ht⟩ (k_X11_needRange l hfl D g z0 _ a p1 1 200) (va_cwS 3 ht (gS w_53 w_55 w_31 w_54) rfl rfl rfl (by decide +kernel) (le2 rfl rfl)) ⟨PP.blind, PP.mk' hK hZ hz hAz hS hPc hDc⟩ rfl rfl hl.1 rfl (lv_room (Nat.le_of_ble_eq_true rfl)) dX11_chance_13 (le2 rfl rfl)) hS (fun q _ h => hFc q h) hFc (fun q _ h => hFc q h) (fun E ce q9 u t H locs ht1 hvm hw hB hz1 hk1 hS hcell hv9 hcl => ?_) (fun u t H locs ht1 hvm hw hB hz1 hk1 hS => ?_)
    · obtain ⟨rfl, hB⟩ := hB
      rcases hB with hB | hB
      · have c_6 := hB
        exact out0 htab hlocks hS hcell hv9 hcl (fun t _ hF => ⟨(), trivial, (Or.inl ⟨rfl, (Or.inr (Or.inr (Or.inl ⟨c_4, c_5, c_6⟩)))⟩), hF⟩) (fun _ h => h) rfl rfl
      · obtain ⟨c_7, c_8⟩ := hB
        exact out0 htab hlocks hS hcell hv9 hcl (fun t _ hF => ⟨(), trivial, (Or.inl ⟨rfl, (Or.inr (Or.inr (Or.inr ⟨c_4, c_5, c_7, c_8⟩)))⟩), hF⟩) (fun _ h => h) rfl rfl
    · obtain ⟨c_9, c_10⟩ := hw
      refine lv_aload_n hx hb dX11_chance_16 rfl (lv_at hl 0 rfl) ?_
      have hPc : va_P D vwCl [((a 0), f_x a), ((a 1), f_net a)] _ := (ro0 hP0 hS).sub (ws' := [((a 0), f_x a), ((a 1), f_net a)]) [0, 1] rfl
      have hDc : va_D (fun q => z0 ≤ q) [((a 0), f_x a), ((a 1), f_net a)] := hD0.pick (ws' := [((a 0), f_x a), ((a 1), f_net a)]) [0, 1] (by decide) rfl
      have hFc := AnA (ws := []) hS.1
      refine vx_callv (vx_runV (As := []) (rest := []) ⟨hx, hb, hml, hown, ht⟩ (k_X11_needClosedNet l hfl D g z0 _ a) (cwV 0 ht (gV w_73 w_75 w_76 w_31 w_74) rfl rfl rfl (by decide +kernel) (le2 rfl rfl)) ⟨PP.blind, va_recv hK.1 (ro0 hP0 hS) (ci := 17) (q0 := 0) rfl rfl, PP.mk' hK hZ hz hAz hS hPc hDc⟩ rfl rfl hl.1 rfl (lv_room (Nat.le_of_ble_eq_true rfl)) dX11_chance_17 (le2 rfl rfl)) hS (fun q _ h => hFc q h) hFc (fun q _ h => hFc q h) (fun E ce q9 u t H locs ht1 hvm hw hB hz1 hk1 hS hcell hv9 hcl => ?_) (fun u t H locs ht1 hvm hw hB hz1 hk1 hS => ?_)
      · obtain ⟨rfl, hB⟩ := hB
        exact out0 htab hlocks hS hcell hv9 hcl (fun t _ hF => ⟨(), trivial, (Or.inr ⟨rfl, ⟨c_4, c_5, c_9, c_10⟩⟩), hF⟩) (fun _ h => h) rfl rfl
      · exact hw.elim
set_option maxHeartbeats 4000000 in
set_option maxRecDepth 100000 in
theorem k_X3_countClasses (l : Launch) (D : va_G) (g : Nat → ClassId) (z0 sz : Nat) (a : Nat → Nat) : Met l yX3_countClasses (.code yX3_countClasses cX3_countClasses 3 (some .int) :: TG) (rmk 0 0 0 0) (va_Pc [.ref (a 2)] (PP D g z0 sz [((a 2), f_book a)])) (va_Qi (fun (r : Int32) (u : Unit) => (r = 0) ∧ True) (fun (_ : Unit) (_ : State) => True) (va_A [] sz)) 0 0 (va_A [] sz) := by
  refine met0 (cc := cX3_countClasses) (n := 3) (by decide) (Nat.le_of_ble_eq_true rfl) ?_
  intro p e s m args below meth c hx hb hr hml hown ht hlocks hnm hP0 hD0 hK hZ hsz hz ls hl
  subst hsz
  have hA : ∀ q : Nat, s.heap.size ≤ q → va_A [] s.heap.size q := Anw
  have hAz : ∀ q, va_A [] s.heap.size q → z0 ≤ q := A0z hz
  have hS : va_S (va_A [] s.heap.size) s.heap s.heap [] := va_S.rf
  have hl : lv_has ls 3 [(0, .ref (a 2))] := hl
  refine lv_iconst (v := 0) hx hb dX3_countClasses_0 (by decide) ?_
  refine lv_istore_n (lv' := [(1, .int 0), (0, .ref (a 2))]) hx hb dX3_countClasses_1 rfl hl (by decide) rfl (fun ls hl => ?_)
  refine lv_iconst (v := 0) hx hb dX3_countClasses_2 (by decide) ?_
  refine lv_istore_n (lv' := [(2, .int 0), (1, .int 0), (0, .ref (a 2))]) hx hb dX3_countClasses_3 rfl hl (by decide) rfl (fun ls hl => ?_)
  refine lv_iload_n hx hb dX3_countClasses_4 rfl (lv_at hl 0 rfl) ?_
  refine lv_aload_n hx hb dX3_countClasses_5 rfl (lv_at hl 2 rfl) ?_
  refine va_get (D := D) (ci := 9) (v := .int 0) (C := RX3) (T := TX3) (N := 14) hx hb ht in_X3 hown hK.1 (ro0 hP0 hS) 0 rfl rfl 11 (by decide) (ht _ w_143) (fun _ h9 => h9) rfl dX3_countClasses_6 ?_
  refine lv_icmp_ge (tgt := 29) hx hb dX3_countClasses_9 (by decide) (fun c_1 => ?_) (fun c_1 => ?_)
  · refine lv_iload_n hx hb dX3_countClasses_29 rfl (lv_at hl 1 rfl) ?_
    refine W.widen (k := 0) (n := 0) (Nat.le_of_ble_eq_true rfl) (Nat.le_of_ble_eq_true rfl) ?_
    exact W.iret (v := 0) hx hb hr (fun t ht9 hW9 => ⟨⟨0, (), rfl, ⟨rfl, trivial⟩, trivial⟩, hS.F ht9⟩) hS.2.2 dX3_countClasses_30 hlocks
  · exact absurd c_1 (by decide)
set_option maxHeartbeats 4000000 in
set_option maxRecDepth 100000 in
theorem k_X11_classes (l : Launch) (D : va_G) (g : Nat → ClassId) (z0 sz : Nat) (a : Nat → Nat) : Met l yX11_classes (.code yX11_classes cX11_classes 1 (some .int) :: TG) (rmk 1 0 0 22) (va_Pc [.ref (a 0)] (PP D g z0 sz [((a 0), f_x a), ((a 2), f_book a)])) (va_Qi (fun (r : Int32) (u : Unit) => (r = 0) ∧ True) (fun (_ : Unit) (_ : State) => True) (va_A [] sz)) 0 0 (va_A [] sz) := by
  refine met0 (cc := cX11_classes) (n := 1) (by decide) (Nat.le_of_ble_eq_true rfl) ?_
  intro p e s m args below meth c hx hb hr hml hown ht hlocks hnm hP0 hD0 hK hZ hsz hz ls hl
  subst hsz
  have hA : ∀ q : Nat, s.heap.size ≤ q → va_A [] s.heap.size q := Anw
  have hAz : ∀ q, va_A [] s.heap.size q → z0 ≤ q := A0z hz
  have hS : va_S (va_A [] s.heap.size) s.heap s.heap [] := va_S.rf
  have hl : lv_has ls 1 [(0, .ref (a 0))] := hl
  refine lv_aload_n hx hb dX11_classes_0 rfl (lv_at hl 0 rfl) ?_
  refine va_get (D := D) (ci := 17) (v := .ref (a 2)) (C := RX11) (T := TX11) (N := 11) hx hb ht in_X11 hown hK.1 (ro0 hP0 hS) 0 rfl rfl 1 (by decide) (ht _ w_32) (fun _ h9 => h9) rfl dX11_classes_1 ?_
  have hPc : va_P D vwCl [((a 2), f_book a)] _ := (ro0 hP0 hS).sub (ws' := [((a 2), f_book a)]) [1] rfl
  have hDc : va_D (fun q => z0 ≤ q) [((a 2), f_book a)] := hD0.pick (ws' := [((a 2), f_book a)]) [1] (by decide) rfl
  have hFc := AnA (ws := []) hS.1
  refine va_calli (va_runV (As := []) (rest := []) ⟨hx, hb, hml, hown, ht⟩ (k_X3_countClasses l D g z0 _ a) (cwV 0 ht (gV w_144 w_146 w_147 w_148 w_145) rfl rfl rfl (by decide +kernel) (le2 rfl rfl)) ⟨PP.blind, va_recv hK.1 (ro0 hP0 hS) (ci := 9) (q0 := 1) rfl rfl, PP.mk' hK hZ hz hAz hS hPc hDc⟩ rfl rfl hl.1 rfl (lv_room (Nat.le_of_ble_eq_true rfl)) dX11_classes_4 (le2 rfl rfl)) hS (fun q _ h => hFc q h) hFc (fun r u t H locs ht1 hvm hw hB hz1 hk1 hS => ?_)
  obtain ⟨rfl, hw⟩ := hw
  refine W.widen (k := 0) (n := 0) (Nat.le_of_ble_eq_true rfl) (Nat.le_of_ble_eq_true rfl) ?_
  exact W.iret (v := 0) hx hb hr (fun t ht9 hW9 => ⟨⟨0, (), rfl, ⟨rfl, trivial⟩, trivial⟩, hS.F ht9⟩) hS.2.2 dX11_classes_7 hlocks
set_option maxHeartbeats 4000000 in
set_option maxRecDepth 100000 in
theorem k_X6_canClose (l : Launch) (D : va_G) (g : Nat → ClassId) (z0 sz : Nat) (a : Nat → Nat) : Met l yX6_canClose (.code yX6_canClose cX6_canClose 3 (some .boolean) :: TG) (rmk 0 0 0 0) (va_Pc [.ref (a 1)] (PP D g z0 sz [((a 1), f_net a)])) (va_Qi (fun (r : Int32) (u : Unit) => (r = 0) ∧ True) (fun (_ : Unit) (_ : State) => True) (va_A [] sz)) 0 0 (va_A [] sz) := by
  refine met0 (cc := cX6_canClose) (n := 3) (by decide) (Nat.le_of_ble_eq_true rfl) ?_
  intro p e s m args below meth c hx hb hr hml hown ht hlocks hnm hP0 hD0 hK hZ hsz hz ls hl
  subst hsz
  have hA : ∀ q : Nat, s.heap.size ≤ q → va_A [] s.heap.size q := Anw
  have hAz : ∀ q, va_A [] s.heap.size q → z0 ≤ q := A0z hz
  have hS : va_S (va_A [] s.heap.size) s.heap s.heap [] := va_S.rf
  have hl : lv_has ls 3 [(0, .ref (a 1))] := hl
  refine lv_aload_n hx hb dX6_canClose_0 rfl (lv_at hl 0 rfl) ?_
  refine va_get (D := D) (ci := 12) (v := .int 0) (C := RX6) (T := TX6) (N := 18) hx hb ht in_X6 hown hK.1 (ro0 hP0 hS) 0 rfl rfl 14 (by decide) (ht _ w_132) (fun _ h9 => h9) rfl dX6_canClose_1 ?_
  refine lv_if_le (tgt := 11) hx hb dX6_canClose_4 (by decide) (fun c_1 => ?_) (fun c_1 => ?_)
  · refine lv_iconst (v := 0) hx hb dX6_canClose_11 (by decide) ?_
    refine lv_istore_n (lv' := [(1, .int 0), (0, .ref (a 1))]) hx hb dX6_canClose_12 rfl hl (by decide) rfl (fun ls hl => ?_)
    refine lv_iconst (v := 0) hx hb dX6_canClose_13 (by decide) ?_
    refine lv_istore_n (lv' := [(2, .int 0), (1, .int 0), (0, .ref (a 1))]) hx hb dX6_canClose_14 rfl hl (by decide) rfl (fun ls hl => ?_)
    refine lv_iload_n hx hb dX6_canClose_15 rfl (lv_at hl 0 rfl) ?_
    refine lv_aload_n hx hb dX6_canClose_16 rfl (lv_at hl 2 rfl) ?_
    refine va_get (D := D) (ci := 12) (v := .int 0) (C := RX6) (T := TX6) (N := 18) hx hb ht in_X6 hown hK.1 (ro0 hP0 hS) 0 rfl rfl 12 (by decide) (ht _ w_126) (fun _ h9 => h9) rfl dX6_canClose_17 ?_
    refine lv_icmp_ge (tgt := 60) hx hb dX6_canClose_20 (by decide) (fun c_2 => ?_) (fun c_2 => ?_)
    · refine lv_iload_n hx hb dX6_canClose_60 rfl (lv_at hl 1 rfl) ?_
      refine W.widen (k := 0) (n := 0) (Nat.le_of_ble_eq_true rfl) (Nat.le_of_ble_eq_true rfl) ?_
      exact W.zret (v := 0) hx hb hr rfl (fun t ht9 hW9 => ⟨⟨0, (), rfl, ⟨rfl, trivial⟩, trivial⟩, hS.F ht9⟩) hS.2.2 dX6_canClose_61 hlocks
    · exact absurd c_2 (by decide)
  · exact absurd c_1 (by decide)
set_option maxHeartbeats 4000000 in
set_option maxRecDepth 100000 in
theorem k_X11_close (l : Launch) (hfl : l.stackTraces = false) (D : va_G) (g : Nat → ClassId) (z0 sz : Nat) (a : Nat → Nat) : vx_Met l yX11_close (.code yX11_close cX11_close 1 (some .int) :: TG) (rmk 6 1 6 81) (va_Pc [.ref (a 0)] (PP D g z0 sz [((a 0), f_x a), ((a 1), f_net a)])) (va_Qi (fun (r : Int32) (u : Unit) => False) (fun (_ : Unit) (_ : State) => True) (va_A [] sz)) (vx_X (fun _ : Unit => True) (fun E _ _ => (E = "java/lang/UnsupportedOperationException" ∧ True)) (va_A [] sz)) 1 6 (va_A [] sz) := by
  refine vxm0 (cc := cX11_close) (n := 1) (by decide) (Nat.le_of_ble_eq_true rfl) ?_
  intro p e s m args below meth c hx hb hr hml htab hown ht hlocks hnm hP0 hD0 hK hZ hsz hz ls hl
  subst hsz
  have hA : ∀ q : Nat, s.heap.size ≤ q → va_A [] s.heap.size q := Anw
  have hAz : ∀ q, va_A [] s.heap.size q → z0 ≤ q := A0z hz
  have hS : va_S (va_A [] s.heap.size) s.heap s.heap [] := va_S.rf
  have hl : lv_has ls 1 [(0, .ref (a 0))] := hl
  refine lv_aload_n hx hb dX11_close_0 rfl (lv_at hl 0 rfl) ?_
  have hPc : va_P D vwCl [((a 0), f_x a), ((a 1), f_net a)] _ := (ro0 hP0 hS).sub (ws' := [((a 0), f_x a), ((a 1), f_net a)]) [0, 1] rfl
  have hDc : va_D (fun q => z0 ≤ q) [((a 0), f_x a), ((a 1), f_net a)] := hD0.pick (ws' := [((a 0), f_x a), ((a 1), f_net a)]) [0, 1] (by decide) rfl
  have hFc := AnA (ws := []) hS.1
  refine va_callv (va_runV (As := []) (rest := []) ⟨hx, hb, hml, hown, ht⟩ (k_X11_needOpenNet l D g z0 _ a) (cwV 0 ht (gV w_121 w_123 w_124 w_31 w_122) rfl rfl rfl (by decide +kernel) (le2 rfl rfl)) ⟨PP.blind, va_recv hK.1 (ro0 hP0 hS) (ci := 17) (q0 := 0) rfl rfl, PP.mk' hK hZ hz hAz hS hPc hDc⟩ rfl rfl hl.1 rfl (lv_room (Nat.le_of_ble_eq_true rfl)) dX11_close_1 (le2 rfl rfl)) hS (fun q _ h => hFc q h) hFc (fun u t H locs ht1 hvm hw hB hz1 hk1 hS => ?_)
  refine lv_aload_n hx hb dX11_close_4 rfl (lv_at hl 0 rfl) ?_
  refine va_get (D := D) (ci := 17) (v := .ref (a 1)) (C := RX11) (T := TX11) (N := 11) hx hb ht in_X11 hown hK.1 (ro0 hP0 hS) 0 rfl rfl 0 (by decide) (ht _ w_68) (fun _ h9 => h9) rfl dX11_close_5 ?_
  have hPc : va_P D vwCl [((a 1), f_net a)] _ := (ro0 hP0 hS).sub (ws' := [((a 1), f_net a)]) [1] rfl
  have hDc : va_D (fun q => z0 ≤ q) [((a 1), f_net a)] := hD0.pick (ws' := [((a 1), f_net a)]) [1] (by decide) rfl
  have hFc := AnA (ws := []) hS.1
  refine va_calli (va_runV (As := []) (rest := []) ⟨hx, hb, hml, hown, ht⟩ (k_X6_canClose l D g z0 _ a) (cwV 0 ht (gV w_149 w_151 w_152 w_137 w_150) rfl rfl rfl (by decide +kernel) (le2 rfl rfl)) ⟨PP.blind, va_recv hK.1 (ro0 hP0 hS) (ci := 12) (q0 := 1) rfl rfl, PP.mk' hK hZ hz hAz hS hPc hDc⟩ rfl rfl hl.1 rfl (lv_room (Nat.le_of_ble_eq_true rfl)) dX11_close_8 (le2 rfl rfl)) hS (fun q _ h => hFc q h) hFc (fun r u t H locs ht1 hvm hw hB hz1 hk1 hS => ?_)
  obtain ⟨rfl, hw⟩ := hw
  refine lv_if_ne (tgt := 22) hx hb dX11_close_11 (by decide) (fun c_1 => ?_) (fun c_1 => ?_)
  · exact absurd c_1 (by decide)
  · exact thr0 hx hb hfl hown ht hK.2.2 hZ hAz hS hl hml htab hlocks (by decide +kernel) w_71 w_72 at_X11_127 dX11_close_14 dX11_close_17 dX11_close_18 dX11_close_21 rfl rfl rfl rfl (fun t _ hF => ⟨(), trivial, ⟨rfl, trivial⟩, hF⟩) (fun _ h => h) rfl rfl
set_option maxHeartbeats 4000000 in
set_option maxRecDepth 100000 in
theorem k_X2_add (l : Launch) (D : va_G) (g : Nat → ClassId) (z0 sz : Nat) (a : Nat → Nat) (p0 : Int32) (p1 : Int32) (p2 : Int32) : Met l yX2_add (.code yX2_add cX2_add 4 (some .int) :: TG) (rmk 0 0 0 0) (va_Pc [.ref (a 11), .int p0, .int p1, .int p2] (PP D g z0 sz [((a 11), f_cores a), ((a 63), .inl (g 0, 6, .inl (fun _ => 0))), ((a 64), .inl (g 0, 6, .inl (fun _ => 0))), ((a 65), .inl (g 0, 6, .inl (fun _ => 0)))])) (va_Qi (fun (r : Int32) (u : Unit) => (r = 0) ∧ True) (fun (u : Unit) (t : State) => va_P D vwCl [((a 11), .inr (8, [.ref (a 63), .ref (a 64), .ref (a 65), .ref (a 66), .ref (a 67), .ref (a 68), .int 1])), ((a 63), .inl (g 0, 6, .inl (upd (fun _ => 0) (0 : Int32).toNatClampNeg p0))), ((a 64), .inl (g 0, 6, .inl (upd (fun _ => 0) (0 : Int32).toNatClampNeg p1))), ((a 65), .inl (g 0, 6, .inl (upd (fun _ => 0) (0 : Int32).toNatClampNeg p2)))] t.heap ∧ va_D (va_A [((a 11), f_cores a), ((a 63), .inl (g 0, 6, .inl (fun _ => 0))), ((a 64), .inl (g 0, 6, .inl (fun _ => 0))), ((a 65), .inl (g 0, 6, .inl (fun _ => 0)))] sz) [((a 11), .inr (8, [.ref (a 63), .ref (a 64), .ref (a 65), .ref (a 66), .ref (a 67), .ref (a 68), .int 1])), ((a 63), .inl (g 0, 6, .inl (upd (fun _ => 0) (0 : Int32).toNatClampNeg p0))), ((a 64), .inl (g 0, 6, .inl (upd (fun _ => 0) (0 : Int32).toNatClampNeg p1))), ((a 65), .inl (g 0, 6, .inl (upd (fun _ => 0) (0 : Int32).toNatClampNeg p2)))]) (va_A [((a 11), f_cores a), ((a 63), .inl (g 0, 6, .inl (fun _ => 0))), ((a 64), .inl (g 0, 6, .inl (fun _ => 0))), ((a 65), .inl (g 0, 6, .inl (fun _ => 0)))] sz)) 0 0 (va_A [((a 11), f_cores a), ((a 63), .inl (g 0, 6, .inl (fun _ => 0))), ((a 64), .inl (g 0, 6, .inl (fun _ => 0))), ((a 65), .inl (g 0, 6, .inl (fun _ => 0)))] sz) := by
  refine met0 (cc := cX2_add) (n := 4) (by decide) (Nat.le_of_ble_eq_true rfl) ?_
  intro p e s m args below meth c hx hb hr hml hown ht hlocks hnm hP0 hD0 hK hZ hsz hz ls hl
  subst hsz
  have hA : ∀ q : Nat, s.heap.size ≤ q → va_A [((a 11), f_cores a), ((a 63), .inl (g 0, 6, .inl (fun _ => 0))), ((a 64), .inl (g 0, 6, .inl (fun _ => 0))), ((a 65), .inl (g 0, 6, .inl (fun _ => 0)))] s.heap.size q := Anw
  have hAz : ∀ q, va_A [((a 11), f_cores a), ((a 63), .inl (g 0, 6, .inl (fun _ => 0))), ((a 64), .inl (g 0, 6, .inl (fun _ => 0))), ((a 65), .inl (g 0, 6, .inl (fun _ => 0)))] s.heap.size q → z0 ≤ q := Awz hz hD0
  have hS : va_S (va_A [((a 11), f_cores a), ((a 63), .inl (g 0, 6, .inl (fun _ => 0))), ((a 64), .inl (g 0, 6, .inl (fun _ => 0))), ((a 65), .inl (g 0, 6, .inl (fun _ => 0)))] s.heap.size) s.heap s.heap [] := va_S.rf
  have hD : va_D (va_A [((a 11), f_cores a), ((a 63), .inl (g 0, 6, .inl (fun _ => 0))), ((a 64), .inl (g 0, 6, .inl (fun _ => 0))), ((a 65), .inl (g 0, 6, .inl (fun _ => 0)))] s.heap.size) [((a 11), f_cores a), ((a 63), .inl (g 0, 6, .inl (fun _ => 0))), ((a 64), .inl (g 0, 6, .inl (fun _ => 0))), ((a 65), .inl (g 0, 6, .inl (fun _ => 0)))] := hD0.self
  have hP : va_P D vwCl [((a 11), f_cores a), ((a 63), .inl (g 0, 6, .inl (fun _ => 0))), ((a 64), .inl (g 0, 6, .inl (fun _ => 0))), ((a 65), .inl (g 0, 6, .inl (fun _ => 0)))] s.heap := hP0
  have hl : lv_has ls 4 [(0, .ref (a 11)), (1, .int p0), (2, .int p1), (3, .int p2)] := hl
  refine lv_aload_n hx hb dX2_add_0 rfl (lv_at hl 0 rfl) ?_
  refine va_get (D := D) (ci := 8) (v := .ref (a 63)) (C := RX2) (T := TX2) (N := 7) hx hb ht in_X2 hown hK.1 hP 0 rfl rfl 0 (by decide) (ht _ w_153) (fun _ h9 => h9) rfl dX2_add_1 ?_
  refine lv_aload_n hx hb dX2_add_4 rfl (lv_at hl 0 rfl) ?_
  refine va_get (D := D) (ci := 8) (v := .int 0) (C := RX2) (T := TX2) (N := 7) hx hb ht in_X2 hown hK.1 hP 0 rfl rfl 6 (by decide) (ht _ w_154) (fun _ h9 => h9) rfl dX2_add_5 ?_
  refine lv_iload_n hx hb dX2_add_8 rfl (lv_at hl 1 rfl) ?_
  refine va_iast hx hb hK.1 hP hD hS 1 0 rfl rfl (by unfold vp_in; decide) dX2_add_9 (fun H locs hP hD hS => ?_)
  have hP : va_P D vwCl [((a 11), f_cores a), ((a 63), .inl (g 0, 6, .inl (upd (fun _ => 0) (0 : Int32).toNatClampNeg p0))), ((a 64), .inl (g 0, 6, .inl (fun _ => 0))), ((a 65), .inl (g 0, 6, .inl (fun _ => 0)))] H := hP
  have hD : va_D (va_A [((a 11), f_cores a), ((a 63), .inl (g 0, 6, .inl (fun _ => 0))), ((a 64), .inl (g 0, 6, .inl (fun _ => 0))), ((a 65), .inl (g 0, 6, .inl (fun _ => 0)))] s.heap.size) [((a 11), f_cores a), ((a 63), .inl (g 0, 6, .inl (upd (fun _ => 0) (0 : Int32).toNatClampNeg p0))), ((a 64), .inl (g 0, 6, .inl (fun _ => 0))), ((a 65), .inl (g 0, 6, .inl (fun _ => 0)))] := hD
  refine lv_aload_n hx hb dX2_add_10 rfl (lv_at hl 0 rfl) ?_
  refine va_get (D := D) (ci := 8) (v := .ref (a 64)) (C := RX2) (T := TX2) (N := 7) hx hb ht in_X2 hown hK.1 hP 0 rfl rfl 1 (by decide) (ht _ w_155) (fun _ h9 => h9) rfl dX2_add_11 ?_
  refine lv_aload_n hx hb dX2_add_14 rfl (lv_at hl 0 rfl) ?_
  refine va_get (D := D) (ci := 8) (v := .int 0) (C := RX2) (T := TX2) (N := 7) hx hb ht in_X2 hown hK.1 hP 0 rfl rfl 6 (by decide) (ht _ w_154) (fun _ h9 => h9) rfl dX2_add_15 ?_
  refine lv_iload_n hx hb dX2_add_18 rfl (lv_at hl 2 rfl) ?_
  refine va_iast hx hb hK.1 hP hD hS 2 0 rfl rfl (by unfold vp_in; decide) dX2_add_19 (fun H locs hP hD hS => ?_)
  have hP : va_P D vwCl [((a 11), f_cores a), ((a 63), .inl (g 0, 6, .inl (upd (fun _ => 0) (0 : Int32).toNatClampNeg p0))), ((a 64), .inl (g 0, 6, .inl (upd (fun _ => 0) (0 : Int32).toNatClampNeg p1))), ((a 65), .inl (g 0, 6, .inl (fun _ => 0)))] H := hP
  have hD : va_D (va_A [((a 11), f_cores a), ((a 63), .inl (g 0, 6, .inl (fun _ => 0))), ((a 64), .inl (g 0, 6, .inl (fun _ => 0))), ((a 65), .inl (g 0, 6, .inl (fun _ => 0)))] s.heap.size) [((a 11), f_cores a), ((a 63), .inl (g 0, 6, .inl (upd (fun _ => 0) (0 : Int32).toNatClampNeg p0))), ((a 64), .inl (g 0, 6, .inl (upd (fun _ => 0) (0 : Int32).toNatClampNeg p1))), ((a 65), .inl (g 0, 6, .inl (fun _ => 0)))] := hD
  refine lv_aload_n hx hb dX2_add_20 rfl (lv_at hl 0 rfl) ?_
  refine va_get (D := D) (ci := 8) (v := .ref (a 65)) (C := RX2) (T := TX2) (N := 7) hx hb ht in_X2 hown hK.1 hP 0 rfl rfl 2 (by decide) (ht _ w_156) (fun _ h9 => h9) rfl dX2_add_21 ?_
  refine lv_aload_n hx hb dX2_add_24 rfl (lv_at hl 0 rfl) ?_
  refine va_get (D := D) (ci := 8) (v := .int 0) (C := RX2) (T := TX2) (N := 7) hx hb ht in_X2 hown hK.1 hP 0 rfl rfl 6 (by decide) (ht _ w_154) (fun _ h9 => h9) rfl dX2_add_25 ?_
  refine lv_iload_n hx hb dX2_add_28 rfl (lv_at hl 3 rfl) ?_
  refine va_iast hx hb hK.1 hP hD hS 3 0 rfl rfl (by unfold vp_in; decide) dX2_add_29 (fun H locs hP hD hS => ?_)
  have hP : va_P D vwCl [((a 11), f_cores a), ((a 63), .inl (g 0, 6, .inl (upd (fun _ => 0) (0 : Int32).toNatClampNeg p0))), ((a 64), .inl (g 0, 6, .inl (upd (fun _ => 0) (0 : Int32).toNatClampNeg p1))), ((a 65), .inl (g 0, 6, .inl (upd (fun _ => 0) (0 : Int32).toNatClampNeg p2)))] H := hP
  have hD : va_D (va_A [((a 11), f_cores a), ((a 63), .inl (g 0, 6, .inl (fun _ => 0))), ((a 64), .inl (g 0, 6, .inl (fun _ => 0))), ((a 65), .inl (g 0, 6, .inl (fun _ => 0)))] s.heap.size) [((a 11), f_cores a), ((a 63), .inl (g 0, 6, .inl (upd (fun _ => 0) (0 : Int32).toNatClampNeg p0))), ((a 64), .inl (g 0, 6, .inl (upd (fun _ => 0) (0 : Int32).toNatClampNeg p1))), ((a 65), .inl (g 0, 6, .inl (upd (fun _ => 0) (0 : Int32).toNatClampNeg p2)))] := hD
  refine lv_aload_n hx hb dX2_add_30 rfl (lv_at hl 0 rfl) ?_
  refine lv_dup hx hb dX2_add_31 rfl ?_
  refine va_get (D := D) (ci := 8) (v := .int 0) (C := RX2) (T := TX2) (N := 7) hx hb ht in_X2 hown hK.1 hP 0 rfl rfl 6 (by decide) (ht _ w_154) (fun _ h9 => h9) rfl dX2_add_32 ?_
  refine lv_iconst (v := 1) hx hb dX2_add_35 (by decide) ?_
  refine lv_iadd hx hb dX2_add_36 ?_
  refine r_topi (v := 1) (by decide) ?_
  refine va_put (D := D) (ci := 8) (v := .int 1) (ty := .int) (C := RX2) (T := TX2) (N := 7) hx hb ht in_X2 tyX2 tyX2_ok nmX2 hown hK.1 hP hD hS 0 rfl rfl 6 (by decide) (ht _ w_154) (fun _ h9 => h9) rfl (by decide +kernel) rfl rfl (Nat.le_of_ble_eq_true rfl) dX2_add_37 (fun H locs hP hD hS => ?_)
  have hP : va_P D vwCl [((a 11), .inr (8, [.ref (a 63), .ref (a 64), .ref (a 65), .ref (a 66), .ref (a 67), .ref (a 68), .int 1])), ((a 63), .inl (g 0, 6, .inl (upd (fun _ => 0) (0 : Int32).toNatClampNeg p0))), ((a 64), .inl (g 0, 6, .inl (upd (fun _ => 0) (0 : Int32).toNatClampNeg p1))), ((a 65), .inl (g 0, 6, .inl (upd (fun _ => 0) (0 : Int32).toNatClampNeg p2)))] H := hP
  have hD : va_D (va_A [((a 11), f_cores a), ((a 63), .inl (g 0, 6, .inl (fun _ => 0))), ((a 64), .inl (g 0, 6, .inl (fun _ => 0))), ((a 65), .inl (g 0, 6, .inl (fun _ => 0)))] s.heap.size) [((a 11), .inr (8, [.ref (a 63), .ref (a 64), .ref (a 65), .ref (a 66), .ref (a 67), .ref (a 68), .int 1])), ((a 63), .inl (g 0, 6, .inl (upd (fun _ => 0) (0 : Int32).toNatClampNeg p0))), ((a 64), .inl (g 0, 6, .inl (upd (fun _ => 0) (0 : Int32).toNatClampNeg p1))), ((a 65), .inl (g 0, 6, .inl (upd (fun _ => 0) (0 : Int32).toNatClampNeg p2)))] := hD
  refine lv_aload_n hx hb dX2_add_40 rfl (lv_at hl 0 rfl) ?_
  refine va_get (D := D) (ci := 8) (v := .int 1) (C := RX2) (T := TX2) (N := 7) hx hb ht in_X2 hown hK.1 hP 0 rfl rfl 6 (by decide) (ht _ w_154) (fun _ h9 => h9) rfl dX2_add_41 ?_
  refine lv_iconst (v := 1) hx hb dX2_add_44 (by decide) ?_
  refine lv_isub hx hb dX2_add_45 ?_
  refine r_topi (v := 0) (by decide) ?_
  have hP9 := hP.sub (ws' := [((a 11), .inr (8, [.ref (a 63), .ref (a 64), .ref (a 65), .ref (a 66), .ref (a 67), .ref (a 68), .int 1])), ((a 63), .inl (g 0, 6, .inl (upd (fun _ => 0) (0 : Int32).toNatClampNeg p0))), ((a 64), .inl (g 0, 6, .inl (upd (fun _ => 0) (0 : Int32).toNatClampNeg p1))), ((a 65), .inl (g 0, 6, .inl (upd (fun _ => 0) (0 : Int32).toNatClampNeg p2)))]) [0, 1, 2, 3] rfl
  have hD9 := hD.sub (ws' := [((a 11), .inr (8, [.ref (a 63), .ref (a 64), .ref (a 65), .ref (a 66), .ref (a 67), .ref (a 68), .int 1])), ((a 63), .inl (g 0, 6, .inl (upd (fun _ => 0) (0 : Int32).toNatClampNeg p0))), ((a 64), .inl (g 0, 6, .inl (upd (fun _ => 0) (0 : Int32).toNatClampNeg p1))), ((a 65), .inl (g 0, 6, .inl (upd (fun _ => 0) (0 : Int32).toNatClampNeg p2)))]) [0, 1, 2, 3] (by decide) rfl
  refine W.widen (k := 0) (n := 0) (Nat.le_of_ble_eq_true rfl) (Nat.le_of_ble_eq_true rfl) ?_
  exact W.iret (v := 0) hx hb hr (fun t ht9 hW9 => ⟨⟨0, (), rfl, ⟨rfl, trivial⟩, ⟨(by rw [ht9]; exact hP9), hD9⟩⟩, hS.F ht9⟩) hS.2.2 dX2_add_46 hlocks
set_option maxHeartbeats 4000000 in
set_option maxRecDepth 100000 in
theorem k_X11_core (l : Launch) (hfl : l.stackTraces = false) (D : va_G) (g : Nat → ClassId) (z0 sz : Nat) (a : Nat → Nat) (p0 : Int32) (p1 : Int32) (p2 : Int32) : vx_Met l yX11_core (.code yX11_core cX11_core 4 (some .int) :: TG) (rmk 7 3 18 103) (va_Pc [.ref (a 0), .int p0, .int p1, .int p2] (PP D g z0 sz [((a 0), f_x a), ((a 11), f_cores a), ((a 63), .inl (g 0, 6, .inl (fun _ => 0))), ((a 64), .inl (g 0, 6, .inl (fun _ => 0))), ((a 65), .inl (g 0, 6, .inl (fun _ => 0)))])) (va_Qi (fun (r : Int32) (u : Unit) => (r = 0) ∧ ((¬ p0 < 1) ∧ (p0 ≤ 999) ∧ (¬ p1 < 1) ∧ (p1 ≤ 64) ∧ (¬ p2 < 0) ∧ (p2 ≤ 999))) (fun (u : Unit) (t : State) => va_P D vwCl [] t.heap ∧ va_D (va_A [((a 0), f_x a), ((a 11), f_cores a), ((a 63), .inl (g 0, 6, .inl (fun _ => 0))), ((a 64), .inl (g 0, 6, .inl (fun _ => 0))), ((a 65), .inl (g 0, 6, .inl (fun _ => 0)))] sz) []) (va_A [((a 0), f_x a), ((a 11), f_cores a), ((a 63), .inl (g 0, 6, .inl (fun _ => 0))), ((a 64), .inl (g 0, 6, .inl (fun _ => 0))), ((a 65), .inl (g 0, 6, .inl (fun _ => 0)))] sz)) (vx_X (fun _ : Unit => True) (fun E _ _ => (E = "java/lang/IllegalArgumentException" ∧ ((p0 < 1) ∨ ((¬ p0 < 1) ∧ (¬ p0 ≤ 999)) ∨ ((¬ p0 < 1) ∧ (p0 ≤ 999) ∧ (p1 < 1)) ∨ ((¬ p0 < 1) ∧ (p0 ≤ 999) ∧ (¬ p1 < 1) ∧ (¬ p1 ≤ 64)) ∨ ((¬ p0 < 1) ∧ (p0 ≤ 999) ∧ (¬ p1 < 1) ∧ (p1 ≤ 64) ∧ (p2 < 0)) ∨ ((¬ p0 < 1) ∧ (p0 ≤ 999) ∧ (¬ p1 < 1) ∧ (p1 ≤ 64) ∧ (¬ p2 < 0) ∧ (¬ p2 ≤ 999))))) (va_A [((a 0), f_x a), ((a 11), f_cores a), ((a 63), .inl (g 0, 6, .inl (fun _ => 0))), ((a 64), .inl (g 0, 6, .inl (fun _ => 0))), ((a 65), .inl (g 0, 6, .inl (fun _ => 0)))] sz)) 3 18 (va_A [((a 0), f_x a), ((a 11), f_cores a), ((a 63), .inl (g 0, 6, .inl (fun _ => 0))), ((a 64), .inl (g 0, 6, .inl (fun _ => 0))), ((a 65), .inl (g 0, 6, .inl (fun _ => 0)))] sz) := by
  refine vxm0 (cc := cX11_core) (n := 4) (by decide) (Nat.le_of_ble_eq_true rfl) ?_
  intro p e s m args below meth c hx hb hr hml htab hown ht hlocks hnm hP0 hD0 hK hZ hsz hz ls hl
  subst hsz
  have hA : ∀ q : Nat, s.heap.size ≤ q → va_A [((a 0), f_x a), ((a 11), f_cores a), ((a 63), .inl (g 0, 6, .inl (fun _ => 0))), ((a 64), .inl (g 0, 6, .inl (fun _ => 0))), ((a 65), .inl (g 0, 6, .inl (fun _ => 0)))] s.heap.size q := Anw
  have hAz : ∀ q, va_A [((a 0), f_x a), ((a 11), f_cores a), ((a 63), .inl (g 0, 6, .inl (fun _ => 0))), ((a 64), .inl (g 0, 6, .inl (fun _ => 0))), ((a 65), .inl (g 0, 6, .inl (fun _ => 0)))] s.heap.size q → z0 ≤ q := Awz hz hD0
  have hS : va_S (va_A [((a 0), f_x a), ((a 11), f_cores a), ((a 63), .inl (g 0, 6, .inl (fun _ => 0))), ((a 64), .inl (g 0, 6, .inl (fun _ => 0))), ((a 65), .inl (g 0, 6, .inl (fun _ => 0)))] s.heap.size) s.heap s.heap [] := va_S.rf
  have hD : va_D (va_A [((a 0), f_x a), ((a 11), f_cores a), ((a 63), .inl (g 0, 6, .inl (fun _ => 0))), ((a 64), .inl (g 0, 6, .inl (fun _ => 0))), ((a 65), .inl (g 0, 6, .inl (fun _ => 0)))] s.heap.size) [((a 0), f_x a), ((a 11), f_cores a), ((a 63), .inl (g 0, 6, .inl (fun _ => 0))), ((a 64), .inl (g 0, 6, .inl (fun _ => 0))), ((a 65), .inl (g 0, 6, .inl (fun _ => 0)))] := hD0.self
  have hP : va_P D vwCl [((a 0), f_x a), ((a 11), f_cores a), ((a 63), .inl (g 0, 6, .inl (fun _ => 0))), ((a 64), .inl (g 0, 6, .inl (fun _ => 0))), ((a 65), .inl (g 0, 6, .inl (fun _ => 0)))] s.heap := hP0
  have hl : lv_has ls 4 [(0, .ref (a 0)), (1, .int p0), (2, .int p1), (3, .int p2)] := hl
  refine lv_iload_n hx hb dX11_core_0 rfl (lv_at hl 1 rfl) ?_
  refine lv_iconst (v := 1) hx hb dX11_core_1 (by decide) ?_
  refine lv_sipush (v := 999) hx hb dX11_core_2 (by decide) ?_
  have hPc : va_P D vwCl [] _ := hP.sub (ws' := []) [] rfl
  have hDc : va_D (fun q => z0 ≤ q) [] := (hD.to hAz).pick (ws' := []) [] (by decide) rfl
  have hFc := AnA (ws := [((a 0), f_x a), ((a 11), f_cores a), ((a 63), .inl (g 0, 6, .inl (fun _ => 0))), ((a 64), .inl (g 0, 6, .inl (fun _ => 0))), ((a 65), .inl (g 0, 6, .inl (fun _ => 0)))]) hS.1
  refine vx_callv (vx_runS (As := [.int p0, .int 1, .int 999]) (rest := []) ⟨hx, hb, hml, hown, ht⟩ (k_X11_needRange l hfl D g z0 _ a p0 1 999) (va_cwS 3 ht (gS w_53 w_55 w_31 w_54) rfl rfl rfl (by decide +kernel) (le2 rfl rfl)) ⟨PP.blind, PP.mk' hK hZ hz hAz hS hPc hDc⟩ rfl rfl hl.1 rfl (lv_room (Nat.le_of_ble_eq_true rfl)) dX11_core_5 (le2 rfl rfl)) hS (fun q _ h => hFc q h) hFc (fun q _ h => hFc q h) (fun E ce q9 u t H locs ht1 hvm hw hB hz1 hk1 hS hcell hv9 hcl => ?_) (fun u t H locs ht1 hvm hw hB hz1 hk1 hS => ?_)
  · obtain ⟨rfl, hB⟩ := hB
    rcases hB with hB | hB
    · have c_1 := hB
      exact out0 htab hlocks hS hcell hv9 hcl (fun t _ hF => ⟨(), trivial, ⟨rfl, (Or.inl c_1)⟩, hF⟩) (fun _ h => h) rfl rfl
    · obtain ⟨c_2, c_3⟩ := hB
      exact out0 htab hlocks hS hcell hv9 hcl (fun t _ hF => ⟨(), trivial, ⟨rfl, (Or.inr (Or.inl ⟨c_2, c_3⟩))⟩, hF⟩) (fun _ h => h) rfl rfl
  · obtain ⟨c_4, c_5⟩ := hw
    have hP := ro1 hP hk1
    refine lv_iload_n hx hb dX11_core_8 rfl (lv_at hl 2 rfl) ?_
    refine lv_iconst (v := 1) hx hb dX11_core_9 (by decide) ?_
    refine lv_bipush (v := 64) hx hb dX11_core_10 (by decide) ?_
    have hPc : va_P D vwCl [] _ := hP.sub (ws' := []) [] rfl
    have hDc : va_D (fun q => z0 ≤ q) [] := (hD.to hAz).pick (ws' := []) [] (by decide) rfl
    have hFc := AnA (ws := [((a 0), f_x a), ((a 11), f_cores a), ((a 63), .inl (g 0, 6, .inl (fun _ => 0))), ((a 64), .inl (g 0, 6, .inl (fun _ => 0))), ((a 65), .inl (g 0, 6, .inl (fun _ => 0)))]) hS.1
    refine vx_callv (vx_runS (As := [.int p1, .int 1, .int 64]) (rest := []) ⟨hx, hb, hml, hown, ht⟩ (k_X11_needRange l hfl D g z0 _ a p1 1 64) (va_cwS 3 ht (gS w_53 w_55 w_31 w_54) rfl rfl rfl (by decide +kernel) (le2 rfl rfl)) ⟨PP.blind, PP.mk' hK hZ hz hAz hS hPc hDc⟩ rfl rfl hl.1 rfl (lv_room (Nat.le_of_ble_eq_true rfl)) dX11_core_12 (le2 rfl rfl)) hS (fun q _ h => hFc q h) hFc (fun q _ h => hFc q h) (fun E ce q9 u t H locs ht1 hvm hw hB hz1 hk1 hS hcell hv9 hcl => ?_) (fun u t H locs ht1 hvm hw hB hz1 hk1 hS => ?_)
    · obtain ⟨rfl, hB⟩ := hB
      rcases hB with hB | hB
      · have c_6 := hB
        exact out0 htab hlocks hS hcell hv9 hcl (fun t _ hF => ⟨(), trivial, ⟨rfl, (Or.inr (Or.inr (Or.inl ⟨c_4, c_5, c_6⟩)))⟩, hF⟩) (fun _ h => h) rfl rfl
      · obtain ⟨c_7, c_8⟩ := hB
        exact out0 htab hlocks hS hcell hv9 hcl (fun t _ hF => ⟨(), trivial, ⟨rfl, (Or.inr (Or.inr (Or.inr (Or.inl ⟨c_4, c_5, c_7, c_8⟩))))⟩, hF⟩) (fun _ h => h) rfl rfl
    · obtain ⟨c_9, c_10⟩ := hw
      have hP := ro1 hP hk1
      refine lv_iload_n hx hb dX11_core_15 rfl (lv_at hl 3 rfl) ?_
      refine lv_iconst (v := 0) hx hb dX11_core_16 (by decide) ?_
      refine lv_sipush (v := 999) hx hb dX11_core_17 (by decide) ?_
      have hPc : va_P D vwCl [] _ := hP.sub (ws' := []) [] rfl
      have hDc : va_D (fun q => z0 ≤ q) [] := (hD.to hAz).pick (ws' := []) [] (by decide) rfl
      have hFc := AnA (ws := [((a 0), f_x a), ((a 11), f_cores a), ((a 63), .inl (g 0, 6, .inl (fun _ => 0))), ((a 64), .inl (g 0, 6, .inl (fun _ => 0))), ((a 65), .inl (g 0, 6, .inl (fun _ => 0)))]) hS.1
      refine vx_callv (vx_runS (As := [.int p2, .int 0, .int 999]) (rest := []) ⟨hx, hb, hml, hown, ht⟩ (k_X11_needRange l hfl D g z0 _ a p2 0 999) (va_cwS 3 ht (gS w_53 w_55 w_31 w_54) rfl rfl rfl (by decide +kernel) (le2 rfl rfl)) ⟨PP.blind, PP.mk' hK hZ hz hAz hS hPc hDc⟩ rfl rfl hl.1 rfl (lv_room (Nat.le_of_ble_eq_true rfl)) dX11_core_20 (le2 rfl rfl)) hS (fun q _ h => hFc q h) hFc (fun q _ h => hFc q h) (fun E ce q9 u t H locs ht1 hvm hw hB hz1 hk1 hS hcell hv9 hcl => ?_) (fun u t H locs ht1 hvm hw hB hz1 hk1 hS => ?_)
      · obtain ⟨rfl, hB⟩ := hB
        rcases hB with hB | hB
        · have c_11 := hB
          exact out0 htab hlocks hS hcell hv9 hcl (fun t _ hF => ⟨(), trivial, ⟨rfl, (Or.inr (Or.inr (Or.inr (Or.inr (Or.inl ⟨c_4, c_5, c_9, c_10, c_11⟩)))))⟩, hF⟩) (fun _ h => h) rfl rfl
        · obtain ⟨c_12, c_13⟩ := hB
          exact out0 htab hlocks hS hcell hv9 hcl (fun t _ hF => ⟨(), trivial, ⟨rfl, (Or.inr (Or.inr (Or.inr (Or.inr (Or.inr ⟨c_4, c_5, c_9, c_10, c_12, c_13⟩)))))⟩, hF⟩) (fun _ h => h) rfl rfl
      · obtain ⟨c_14, c_15⟩ := hw
        have hP := ro1 hP hk1
        refine lv_aload_n hx hb dX11_core_23 rfl (lv_at hl 0 rfl) ?_
        refine va_get (D := D) (ci := 17) (v := .ref (a 11)) (C := RX11) (T := TX11) (N := 11) hx hb ht in_X11 hown hK.1 hP 0 rfl rfl 10 (by decide) (ht _ w_51) (fun _ h9 => h9) rfl dX11_core_24 ?_
        refine va_get (D := D) (ci := 8) (v := .int 0) (C := RX2) (T := TX2) (N := 7) hx hb ht in_X2 hown hK.1 hP 1 rfl rfl 6 (by decide) (ht _ w_52) (fun _ h9 => h9) rfl dX11_core_27 ?_
        refine lv_bipush (v := 6) hx hb dX11_core_30 (by decide) ?_
        refine lv_icmp_lt (tgt := 43) hx hb dX11_core_32 (by decide) (fun c_16 => ?_) (fun c_16 => ?_)
        · refine lv_aload_n hx hb dX11_core_43 rfl (lv_at hl 0 rfl) ?_
          refine va_get (D := D) (ci := 17) (v := .ref (a 11)) (C := RX11) (T := TX11) (N := 11) hx hb ht in_X11 hown hK.1 hP 0 rfl rfl 10 (by decide) (ht _ w_51) (fun _ h9 => h9) rfl dX11_core_44 ?_
          refine lv_iload_n hx hb dX11_core_47 rfl (lv_at hl 1 rfl) ?_
          refine lv_iload_n hx hb dX11_core_48 rfl (lv_at hl 2 rfl) ?_
          refine lv_iload_n hx hb dX11_core_49 rfl (lv_at hl 3 rfl) ?_
          have hPc : va_P D vwCl [((a 11), f_cores a), ((a 63), .inl (g 0, 6, .inl (fun _ => 0))), ((a 64), .inl (g 0, 6, .inl (fun _ => 0))), ((a 65), .inl (g 0, 6, .inl (fun _ => 0)))] _ := hP.sub (ws' := [((a 11), f_cores a), ((a 63), .inl (g 0, 6, .inl (fun _ => 0))), ((a 64), .inl (g 0, 6, .inl (fun _ => 0))), ((a 65), .inl (g 0, 6, .inl (fun _ => 0)))]) [1, 2, 3, 4] rfl
          have hDc : va_D (fun q => z0 ≤ q) [((a 11), f_cores a), ((a 63), .inl (g 0, 6, .inl (fun _ => 0))), ((a 64), .inl (g 0, 6, .inl (fun _ => 0))), ((a 65), .inl (g 0, 6, .inl (fun _ => 0)))] := (hD.to hAz).pick (ws' := [((a 11), f_cores a), ((a 63), .inl (g 0, 6, .inl (fun _ => 0))), ((a 64), .inl (g 0, 6, .inl (fun _ => 0))), ((a 65), .inl (g 0, 6, .inl (fun _ => 0)))]) [1, 2, 3, 4] (by decide) rfl
          have hFc := va_free (wc := [((a 11), f_cores a), ((a 63), .inl (g 0, 6, .inl (fun _ => 0))), ((a 64), .inl (g 0, 6, .inl (fun _ => 0))), ((a 65), .inl (g 0, 6, .inl (fun _ => 0)))]) hD hS hA [1, 2, 3, 4] rfl
          refine va_calli (va_runV (As := [.int p0, .int p1, .int p2]) (rest := []) ⟨hx, hb, hml, hown, ht⟩ (k_X2_add l D g z0 _ a p0 p1 p2) (cwV 3 ht (gV w_157 w_159 w_160 w_161 w_158) rfl rfl rfl (by decide +kernel) (le2 rfl rfl)) ⟨PP.blind, va_recv hK.1 hP (ci := 8) (q0 := 1) rfl rfl, PP.mk' hK hZ hz hAz hS hPc hDc⟩ rfl rfl hl.1 rfl (lv_room (Nat.le_of_ble_eq_true rfl)) dX11_core_50 (le2 rfl rfl)) hS (fun q _ h => hFc q h) hFc (fun r u t H locs ht1 hvm hw hB hz1 hk1 hS => ?_)
          obtain ⟨rfl, hw⟩ := hw
          obtain ⟨hP1, hD1⟩ := hB
          rw [ht1] at hP1
          obtain ⟨hP, hD⟩ := va_join (wr := [((a 0), f_x a)]) (w1 := [((a 11), .inr (8, [.ref (a 63), .ref (a 64), .ref (a 65), .ref (a 66), .ref (a 67), .ref (a 68), .int 1])), ((a 63), .inl (g 0, 6, .inl (upd (fun _ => 0) (0 : Int32).toNatClampNeg p0))), ((a 64), .inl (g 0, 6, .inl (upd (fun _ => 0) (0 : Int32).toNatClampNeg p1))), ((a 65), .inl (g 0, 6, .inl (upd (fun _ => 0) (0 : Int32).toNatClampNeg p2)))]) hP hD [1, 2, 3, 4] [0] rfl rfl (by decide) (by decide) hk1 hFc hP1 hD1
          have hP : va_P D vwCl [((a 0), f_x a), ((a 11), .inr (8, [.ref (a 63), .ref (a 64), .ref (a 65), .ref (a 66), .ref (a 67), .ref (a 68), .int 1])), ((a 63), .inl (g 0, 6, .inl (upd (fun _ => 0) (0 : Int32).toNatClampNeg p0))), ((a 64), .inl (g 0, 6, .inl (upd (fun _ => 0) (0 : Int32).toNatClampNeg p1))), ((a 65), .inl (g 0, 6, .inl (upd (fun _ => 0) (0 : Int32).toNatClampNeg p2)))] H := hP
          have hD : va_D (va_A [((a 0), f_x a), ((a 11), f_cores a), ((a 63), .inl (g 0, 6, .inl (fun _ => 0))), ((a 64), .inl (g 0, 6, .inl (fun _ => 0))), ((a 65), .inl (g 0, 6, .inl (fun _ => 0)))] s.heap.size) [((a 0), f_x a), ((a 11), .inr (8, [.ref (a 63), .ref (a 64), .ref (a 65), .ref (a 66), .ref (a 67), .ref (a 68), .int 1])), ((a 63), .inl (g 0, 6, .inl (upd (fun _ => 0) (0 : Int32).toNatClampNeg p0))), ((a 64), .inl (g 0, 6, .inl (upd (fun _ => 0) (0 : Int32).toNatClampNeg p1))), ((a 65), .inl (g 0, 6, .inl (upd (fun _ => 0) (0 : Int32).toNatClampNeg p2)))] := hD
          have hP9 := hP.sub (ws' := []) [] rfl
          have hD9 := hD.sub (ws' := []) [] (by decide) rfl
          refine vx_ret (W.widen (k := 3) (n := 18) (Nat.le_of_ble_eq_true rfl) (Nat.le_of_ble_eq_true rfl) ?_)
          exact W.iret (v := 0) hx hb hr (fun t ht9 hW9 => ⟨⟨0, (), rfl, ⟨rfl, ⟨c_4, c_5, c_9, c_10, c_14, c_15⟩⟩, ⟨(by rw [ht9]; exact hP9), hD9⟩⟩, hS.F ht9⟩) hS.2.2 dX11_core_53 hlocks
        · exact absurd c_16 (by decide)
set_option maxHeartbeats 4000000 in
set_option maxRecDepth 100000 in
theorem k_X11_needEngine (l : Launch) (hfl : l.stackTraces = false) (D : va_G) (g : Nat → ClassId) (z0 sz : Nat) (a : Nat → Nat) (p0 : Int32) (hc_p0 : isC p0) : vx_Met l yX11_needEngine (.code yX11_needEngine cX11_needEngine 2 none :: TG) (rmk 6 1 6 81) (va_Pc [.ref (a 0), .int p0] (PP D g z0 sz [])) (va_Qv (fun (u : Unit) => ((p0 = 115) ∨ ((¬ p0 = 115) ∧ (p0 = 112)) ∨ ((¬ p0 = 115) ∧ (¬ p0 = 112) ∧ (p0 = 100)))) (fun (_ : Unit) (_ : State) => True) (va_A [] sz)) (vx_X (fun _ : Unit => True) (fun E _ _ => (E = "java/lang/IllegalArgumentException" ∧ ((¬ p0 = 115) ∧ (¬ p0 = 112) ∧ (¬ p0 = 100)))) (va_A [] sz)) 1 6 (va_A [] sz) := by
  refine vxm0 (cc := cX11_needEngine) (n := 2) (by decide) (Nat.le_of_ble_eq_true rfl) ?_
  intro p e s m args below meth c hx hb hr hml htab hown ht hlocks hnm hP0 hD0 hK hZ hsz hz ls hl
  subst hsz
  have hA : ∀ q : Nat, s.heap.size ≤ q → va_A [] s.heap.size q := Anw
  have hAz : ∀ q, va_A [] s.heap.size q → z0 ≤ q := A0z hz
  have hS : va_S (va_A [] s.heap.size) s.heap s.heap [] := va_S.rf
  have hl : lv_has ls 2 [(0, .ref (a 0)), (1, .int p0)] := hl
  refine lv_iload_n hx hb dX11_needEngine_0 rfl (lv_at hl 1 rfl) ?_
  refine lv_bipush (v := 115) hx hb dX11_needEngine_1 (by decide) ?_
  refine lv_icmp_eq (tgt := 26) hx hb dX11_needEngine_3 (by decide) (fun c_1 => ?_) (fun c_1 => ?_)
  · refine vx_ret (W.widen (k := 1) (n := 6) (Nat.le_of_ble_eq_true rfl) (Nat.le_of_ble_eq_true rfl) ?_)
    exact W.vret hx hb hr (fun t ht9 hW9 => ⟨⟨(), rfl, (Or.inl c_1), trivial⟩, hS.F ht9⟩) hS.2.2 dX11_needEngine_26 hlocks
  · refine lv_iload_n hx hb dX11_needEngine_6 rfl (lv_at hl 1 rfl) ?_
    refine lv_bipush (v := 112) hx hb dX11_needEngine_7 (by decide) ?_
    refine lv_icmp_eq (tgt := 26) hx hb dX11_needEngine_9 (by decide) (fun c_2 => ?_) (fun c_2 => ?_)
    · refine vx_ret (W.widen (k := 1) (n := 6) (Nat.le_of_ble_eq_true rfl) (Nat.le_of_ble_eq_true rfl) ?_)
      exact W.vret hx hb hr (fun t ht9 hW9 => ⟨⟨(), rfl, (Or.inr (Or.inl ⟨c_1, c_2⟩)), trivial⟩, hS.F ht9⟩) hS.2.2 dX11_needEngine_26 hlocks
    · refine lv_iload_n hx hb dX11_needEngine_12 rfl (lv_at hl 1 rfl) ?_
      refine lv_bipush (v := 100) hx hb dX11_needEngine_13 (by decide) ?_
      refine lv_icmp_eq (tgt := 26) hx hb dX11_needEngine_15 (by decide) (fun c_3 => ?_) (fun c_3 => ?_)
      · refine vx_ret (W.widen (k := 1) (n := 6) (Nat.le_of_ble_eq_true rfl) (Nat.le_of_ble_eq_true rfl) ?_)
        exact W.vret hx hb hr (fun t ht9 hW9 => ⟨⟨(), rfl, (Or.inr (Or.inr ⟨c_1, c_2, c_3⟩)), trivial⟩, hS.F ht9⟩) hS.2.2 dX11_needEngine_26 hlocks
      · exact thr0 hx hb hfl hown ht hK.2.2 hZ hAz hS hl hml htab hlocks (by decide +kernel) w_43 w_44 at_X11_116 dX11_needEngine_18 dX11_needEngine_21 dX11_needEngine_22 dX11_needEngine_25 rfl rfl rfl rfl (fun t _ hF => ⟨(), trivial, ⟨rfl, ⟨c_1, c_2, c_3⟩⟩, hF⟩) (fun _ h => h) rfl rfl
set_option maxHeartbeats 4000000 in
set_option maxRecDepth 100000 in
theorem k_X11_coverage (l : Launch) (hfl : l.stackTraces = false) (D : va_G) (g : Nat → ClassId) (z0 sz : Nat) (a : Nat → Nat) (p0 : Int32) (hc_p0 : isC p0) : vx_Met l yX11_coverage (.code yX11_coverage cX11_coverage 3 (some .float) :: TG) (rmk 7 2 12 102) (va_Pc [.ref (a 0), .int p0] (PP D g z0 sz [((a 0), f_x a), ((a 2), f_book a)])) (va_Qf (fun (r : UInt32) (u : Unit) => False) (fun (_ : Unit) (_ : State) => True) (va_A [] sz)) (vx_X (fun _ : Unit => True) (fun E _ _ => (E = "java/lang/IllegalArgumentException" ∧ ((¬ p0 = 115) ∧ (¬ p0 = 112) ∧ (¬ p0 = 100))) ∨ (E = "java/lang/ArithmeticException" ∧ ((p0 = 115) ∨ ((¬ p0 = 115) ∧ (p0 = 112)) ∨ ((¬ p0 = 115) ∧ (¬ p0 = 112) ∧ (p0 = 100))))) (va_A [] sz)) 2 12 (va_A [] sz) := by
  refine vxm0 (cc := cX11_coverage) (n := 3) (by decide) (Nat.le_of_ble_eq_true rfl) ?_
  intro p e s m args below meth c hx hb hr hml htab hown ht hlocks hnm hP0 hD0 hK hZ hsz hz ls hl
  subst hsz
  have hA : ∀ q : Nat, s.heap.size ≤ q → va_A [] s.heap.size q := Anw
  have hAz : ∀ q, va_A [] s.heap.size q → z0 ≤ q := A0z hz
  have hS : va_S (va_A [] s.heap.size) s.heap s.heap [] := va_S.rf
  have hl : lv_has ls 3 [(0, .ref (a 0)), (1, .int p0)] := hl
  refine lv_aload_n hx hb dX11_coverage_0 rfl (lv_at hl 0 rfl) ?_
  refine lv_iload_n hx hb dX11_coverage_1 rfl (lv_at hl 1 rfl) ?_
  have hPc : va_P D vwCl [] _ := (ro0 hP0 hS).sub (ws' := []) [] rfl
  have hDc : va_D (fun q => z0 ≤ q) [] := hD0.pick (ws' := []) [] (by decide) rfl
  have hFc := AnA (ws := []) hS.1
  refine vx_callv (vx_runV (As := [.int p0]) (rest := []) ⟨hx, hb, hml, hown, ht⟩ (k_X11_needEngine l hfl D g z0 _ a p0 hc_p0) (cwV 1 ht (gV w_162 w_164 w_165 w_31 w_163) rfl rfl rfl (by decide +kernel) (le2 rfl rfl)) ⟨PP.blind, va_recv hK.1 (ro0 hP0 hS) (ci := 17) (q0 := 0) rfl rfl, PP.mk' hK hZ hz hAz hS hPc hDc⟩ rfl rfl hl.1 rfl (lv_room (Nat.le_of_ble_eq_true rfl)) dX11_coverage_2 (le2 rfl rfl)) hS (fun q _ h => hFc q h) hFc (fun q _ h => hFc q h) (fun E ce q9 u t H locs ht1 hvm hw hB hz1 hk1 hS hcell hv9 hcl => ?_) (fun u t H locs ht1 hvm hw hB hz1 hk1 hS => ?_)
  · obtain ⟨rfl, hB⟩ := hB
    obtain ⟨c_1, c_2, c_3⟩ := hB
    exact out0 htab hlocks hS hcell hv9 hcl (fun t _ hF => ⟨(), trivial, (Or.inl ⟨rfl, ⟨c_1, c_2, c_3⟩⟩), hF⟩) (fun _ h => h) rfl rfl
  · rcases hw with hw | hw | hw
    · have c_4 := hw
      refine lv_aload_n hx hb dX11_coverage_5 rfl (lv_at hl 0 rfl) ?_
      refine va_get (D := D) (ci := 17) (v := .ref (a 2)) (C := RX11) (T := TX11) (N := 11) hx hb ht in_X11 hown hK.1 (ro0 hP0 hS) 0 rfl rfl 1 (by decide) (ht _ w_32) (fun _ h9 => h9) rfl dX11_coverage_6 ?_
      have hPc : va_P D vwCl [((a 2), f_book a)] _ := (ro0 hP0 hS).sub (ws' := [((a 2), f_book a)]) [1] rfl
      have hDc : va_D (fun q => z0 ≤ q) [((a 2), f_book a)] := hD0.pick (ws' := [((a 2), f_book a)]) [1] (by decide) rfl
      have hFc := AnA (ws := []) hS.1
      refine va_calli (va_runV (As := []) (rest := []) ⟨hx, hb, hml, hown, ht⟩ (k_X3_countClasses l D g z0 _ a) (cwV 0 ht (gV w_144 w_146 w_147 w_148 w_145) rfl rfl rfl (by decide +kernel) (le2 rfl rfl)) ⟨PP.blind, va_recv hK.1 (ro0 hP0 hS) (ci := 9) (q0 := 1) rfl rfl, PP.mk' hK hZ hz hAz hS hPc hDc⟩ rfl rfl hl.1 rfl (lv_room (Nat.le_of_ble_eq_true rfl)) dX11_coverage_9 (le2 rfl rfl)) hS (fun q _ h => hFc q h) hFc (fun r u t H locs ht1 hvm hw hB hz1 hk1 hS => ?_)
      obtain ⟨rfl, hw⟩ := hw
      refine lv_istore_n (lv' := [(2, .int 0), (0, .ref (a 0)), (1, .int p0)]) hx hb dX11_coverage_12 rfl hl (by decide) rfl (fun ls hl => ?_)
      refine lv_iload_n hx hb dX11_coverage_13 rfl (lv_at hl 0 rfl) ?_
      refine lv_if_ne (tgt := 25) hx hb dX11_coverage_14 (by decide) (fun c_5 => ?_) (fun c_5 => ?_)
      · exact absurd c_5 (by decide)
      · exact thr0 hx hb hfl hown ht hK.2.2 hZ hAz hS hl hml htab hlocks (by decide +kernel) w_166 w_167 at_X11_269 dX11_coverage_17 dX11_coverage_20 dX11_coverage_21 dX11_coverage_24 rfl rfl rfl rfl (fun t _ hF => ⟨(), trivial, (Or.inr ⟨rfl, (Or.inl c_4)⟩), hF⟩) (fun _ h => h) rfl rfl
    · obtain ⟨c_6, c_7⟩ := hw
      refine lv_aload_n hx hb dX11_coverage_5 rfl (lv_at hl 0 rfl) ?_
      refine va_get (D := D) (ci := 17) (v := .ref (a 2)) (C := RX11) (T := TX11) (N := 11) hx hb ht in_X11 hown hK.1 (ro0 hP0 hS) 0 rfl rfl 1 (by decide) (ht _ w_32) (fun _ h9 => h9) rfl dX11_coverage_6 ?_
      have hPc : va_P D vwCl [((a 2), f_book a)] _ := (ro0 hP0 hS).sub (ws' := [((a 2), f_book a)]) [1] rfl
      have hDc : va_D (fun q => z0 ≤ q) [((a 2), f_book a)] := hD0.pick (ws' := [((a 2), f_book a)]) [1] (by decide) rfl
      have hFc := AnA (ws := []) hS.1
      refine va_calli (va_runV (As := []) (rest := []) ⟨hx, hb, hml, hown, ht⟩ (k_X3_countClasses l D g z0 _ a) (cwV 0 ht (gV w_144 w_146 w_147 w_148 w_145) rfl rfl rfl (by decide +kernel) (le2 rfl rfl)) ⟨PP.blind, va_recv hK.1 (ro0 hP0 hS) (ci := 9) (q0 := 1) rfl rfl, PP.mk' hK hZ hz hAz hS hPc hDc⟩ rfl rfl hl.1 rfl (lv_room (Nat.le_of_ble_eq_true rfl)) dX11_coverage_9 (le2 rfl rfl)) hS (fun q _ h => hFc q h) hFc (fun r u t H locs ht1 hvm hw hB hz1 hk1 hS => ?_)
      obtain ⟨rfl, hw⟩ := hw
      refine lv_istore_n (lv' := [(2, .int 0), (0, .ref (a 0)), (1, .int p0)]) hx hb dX11_coverage_12 rfl hl (by decide) rfl (fun ls hl => ?_)
      refine lv_iload_n hx hb dX11_coverage_13 rfl (lv_at hl 0 rfl) ?_
      refine lv_if_ne (tgt := 25) hx hb dX11_coverage_14 (by decide) (fun c_8 => ?_) (fun c_8 => ?_)
      · exact absurd c_8 (by decide)
      · exact thr0 hx hb hfl hown ht hK.2.2 hZ hAz hS hl hml htab hlocks (by decide +kernel) w_166 w_167 at_X11_269 dX11_coverage_17 dX11_coverage_20 dX11_coverage_21 dX11_coverage_24 rfl rfl rfl rfl (fun t _ hF => ⟨(), trivial, (Or.inr ⟨rfl, (Or.inr (Or.inl ⟨c_6, c_7⟩))⟩), hF⟩) (fun _ h => h) rfl rfl
    · obtain ⟨c_9, c_10, c_11⟩ := hw
      refine lv_aload_n hx hb dX11_coverage_5 rfl (lv_at hl 0 rfl) ?_
      refine va_get (D := D) (ci := 17) (v := .ref (a 2)) (C := RX11) (T := TX11) (N := 11) hx hb ht in_X11 hown hK.1 (ro0 hP0 hS) 0 rfl rfl 1 (by decide) (ht _ w_32) (fun _ h9 => h9) rfl dX11_coverage_6 ?_
      have hPc : va_P D vwCl [((a 2), f_book a)] _ := (ro0 hP0 hS).sub (ws' := [((a 2), f_book a)]) [1] rfl
      have hDc : va_D (fun q => z0 ≤ q) [((a 2), f_book a)] := hD0.pick (ws' := [((a 2), f_book a)]) [1] (by decide) rfl
      have hFc := AnA (ws := []) hS.1
      refine va_calli (va_runV (As := []) (rest := []) ⟨hx, hb, hml, hown, ht⟩ (k_X3_countClasses l D g z0 _ a) (cwV 0 ht (gV w_144 w_146 w_147 w_148 w_145) rfl rfl rfl (by decide +kernel) (le2 rfl rfl)) ⟨PP.blind, va_recv hK.1 (ro0 hP0 hS) (ci := 9) (q0 := 1) rfl rfl, PP.mk' hK hZ hz hAz hS hPc hDc⟩ rfl rfl hl.1 rfl (lv_room (Nat.le_of_ble_eq_true rfl)) dX11_coverage_9 (le2 rfl rfl)) hS (fun q _ h => hFc q h) hFc (fun r u t H locs ht1 hvm hw hB hz1 hk1 hS => ?_)
      obtain ⟨rfl, hw⟩ := hw
      refine lv_istore_n (lv' := [(2, .int 0), (0, .ref (a 0)), (1, .int p0)]) hx hb dX11_coverage_12 rfl hl (by decide) rfl (fun ls hl => ?_)
      refine lv_iload_n hx hb dX11_coverage_13 rfl (lv_at hl 0 rfl) ?_
      refine lv_if_ne (tgt := 25) hx hb dX11_coverage_14 (by decide) (fun c_12 => ?_) (fun c_12 => ?_)
      · exact absurd c_12 (by decide)
      · exact thr0 hx hb hfl hown ht hK.2.2 hZ hAz hS hl hml htab hlocks (by decide +kernel) w_166 w_167 at_X11_269 dX11_coverage_17 dX11_coverage_20 dX11_coverage_21 dX11_coverage_24 rfl rfl rfl rfl (fun t _ hF => ⟨(), trivial, (Or.inr ⟨rfl, (Or.inr (Or.inr ⟨c_9, c_10, c_11⟩))⟩), hF⟩) (fun _ h => h) rfl rfl
set_option maxHeartbeats 4000000 in
set_option maxRecDepth 100000 in
theorem k_X11_cycles (l : Launch) (D : va_G) (g : Nat → ClassId) (z0 sz : Nat) (a : Nat → Nat) : Met l yX11_cycles (.code yX11_cycles cX11_cycles 1 (some .int) :: TG) (rmk 0 0 0 0) (va_Pc [.ref (a 0)] (PP D g z0 sz [((a 0), f_x a), ((a 1), f_net a), ((a 3), f_rows a)])) (va_Qi (fun (r : Int32) (u : Unit) => (r = 0) ∧ True) (fun (_ : Unit) (_ : State) => True) (va_A [] sz)) 0 0 (va_A [] sz) := by
  refine met0 (cc := cX11_cycles) (n := 1) (by decide) (Nat.le_of_ble_eq_true rfl) ?_
  intro p e s m args below meth c hx hb hr hml hown ht hlocks hnm hP0 hD0 hK hZ hsz hz ls hl
  subst hsz
  have hA : ∀ q : Nat, s.heap.size ≤ q → va_A [] s.heap.size q := Anw
  have hAz : ∀ q, va_A [] s.heap.size q → z0 ≤ q := A0z hz
  have hS : va_S (va_A [] s.heap.size) s.heap s.heap [] := va_S.rf
  have hl : lv_has ls 1 [(0, .ref (a 0))] := hl
  refine lv_aload_n hx hb dX11_cycles_0 rfl (lv_at hl 0 rfl) ?_
  refine va_get (D := D) (ci := 17) (v := .ref (a 1)) (C := RX11) (T := TX11) (N := 11) hx hb ht in_X11 hown hK.1 (ro0 hP0 hS) 0 rfl rfl 0 (by decide) (ht _ w_68) (fun _ h9 => h9) rfl dX11_cycles_1 ?_
  refine va_get (D := D) (ci := 12) (v := .int 0) (C := RX6) (T := TX6) (N := 18) hx hb ht in_X6 hown hK.1 (ro0 hP0 hS) 1 rfl rfl 14 (by decide) (ht _ w_69) (fun _ h9 => h9) rfl dX11_cycles_4 ?_
  refine lv_iconst (v := 1) hx hb dX11_cycles_7 (by decide) ?_
  refine lv_iadd hx hb dX11_cycles_8 ?_
  refine r_topi (v := 1) (by decide) ?_
  refine lv_aload_n hx hb dX11_cycles_9 rfl (lv_at hl 0 rfl) ?_
  refine va_get (D := D) (ci := 17) (v := .ref (a 3)) (C := RX11) (T := TX11) (N := 11) hx hb ht in_X11 hown hK.1 (ro0 hP0 hS) 0 rfl rfl 2 (by decide) (ht _ w_1) (fun _ h9 => h9) rfl dX11_cycles_10 ?_
  refine va_get (D := D) (ci := 13) (v := .int 0) (C := RX7) (T := TX7) (N := 6) hx hb ht in_X7 hown hK.1 (ro0 hP0 hS) 2 rfl rfl 5 (by decide) (ht _ w_26) (fun _ h9 => h9) rfl dX11_cycles_13 ?_
  refine lv_imul hx hb dX11_cycles_16 ?_
  refine r_topi (v := 0) (by decide) ?_
  refine lv_aload_n hx hb dX11_cycles_17 rfl (lv_at hl 0 rfl) ?_
  refine va_get (D := D) (ci := 17) (v := .ref (a 1)) (C := RX11) (T := TX11) (N := 11) hx hb ht in_X11 hown hK.1 (ro0 hP0 hS) 0 rfl rfl 0 (by decide) (ht _ w_68) (fun _ h9 => h9) rfl dX11_cycles_18 ?_
  refine va_get (D := D) (ci := 12) (v := .int 0) (C := RX6) (T := TX6) (N := 18) hx hb ht in_X6 hown hK.1 (ro0 hP0 hS) 1 rfl rfl 14 (by decide) (ht _ w_69) (fun _ h9 => h9) rfl dX11_cycles_21 ?_
  refine lv_iadd hx hb dX11_cycles_24 ?_
  refine r_topi (v := 0) (by decide) ?_
  refine W.widen (k := 0) (n := 0) (Nat.le_of_ble_eq_true rfl) (Nat.le_of_ble_eq_true rfl) ?_
  exact W.iret (v := 0) hx hb hr (fun t ht9 hW9 => ⟨⟨0, (), rfl, ⟨rfl, trivial⟩, trivial⟩, hS.F ht9⟩) hS.2.2 dX11_cycles_25 hlocks
set_option maxHeartbeats 4000000 in
set_option maxRecDepth 100000 in
theorem k_X11_data (l : Launch) (hfl : l.stackTraces = false) (D : va_G) (g : Nat → ClassId) (z0 sz : Nat) (a : Nat → Nat) (p0 : Int32) (p1 : Int32) : vx_Met l yX11_data (.code yX11_data cX11_data 4 (some .int) :: TG) (rmk 7 1 6 102) (va_Pc [.ref (a 0), .int p0, .int p1] (PP D g z0 sz [((a 0), f_x a), ((a 1), f_net a)])) (va_Qi (fun (r : Int32) (u : Unit) => False) (fun (_ : Unit) (_ : State) => True) (va_A [] sz)) (vx_X (fun _ : Unit => True) (fun E _ _ => (E = "java/lang/IndexOutOfBoundsException" ∧ True)) (va_A [] sz)) 1 6 (va_A [] sz) := by
  refine vxm0 (cc := cX11_data) (n := 4) (by decide) (Nat.le_of_ble_eq_true rfl) ?_
  intro p e s m args below meth c hx hb hr hml htab hown ht hlocks hnm hP0 hD0 hK hZ hsz hz ls hl
  subst hsz
  have hA : ∀ q : Nat, s.heap.size ≤ q → va_A [] s.heap.size q := Anw
  have hAz : ∀ q, va_A [] s.heap.size q → z0 ≤ q := A0z hz
  have hS : va_S (va_A [] s.heap.size) s.heap s.heap [] := va_S.rf
  have hl : lv_has ls 4 [(0, .ref (a 0)), (1, .int p0), (2, .int p1)] := hl
  refine lv_aload_n hx hb dX11_data_0 rfl (lv_at hl 0 rfl) ?_
  refine lv_iload_n hx hb dX11_data_1 rfl (lv_at hl 1 rfl) ?_
  have hPc : va_P D vwCl [((a 0), f_x a), ((a 1), f_net a)] _ := (ro0 hP0 hS).sub (ws' := [((a 0), f_x a), ((a 1), f_net a)]) [0, 1] rfl
  have hDc : va_D (fun q => z0 ≤ q) [((a 0), f_x a), ((a 1), f_net a)] := hD0.pick (ws' := [((a 0), f_x a), ((a 1), f_net a)]) [0, 1] (by decide) rfl
  have hFc := AnA (ws := []) hS.1
  refine vx_callv (vx_runV (As := [.int p0]) (rest := []) ⟨hx, hb, hml, hown, ht⟩ (k_X11_needLine l hfl D g z0 _ a p0) (cwV 1 ht (gV w_82 w_84 w_85 w_31 w_83) rfl rfl rfl (by decide +kernel) (le2 rfl rfl)) ⟨PP.blind, va_recv hK.1 (ro0 hP0 hS) (ci := 17) (q0 := 0) rfl rfl, PP.mk' hK hZ hz hAz hS hPc hDc⟩ rfl rfl hl.1 rfl (lv_room (Nat.le_of_ble_eq_true rfl)) dX11_data_2 (le2 rfl rfl)) hS (fun q _ h => hFc q h) hFc (fun q _ h => hFc q h) (fun E ce q9 u t H locs ht1 hvm hw hB hz1 hk1 hS hcell hv9 hcl => ?_) (fun u t H locs ht1 hvm hw hB hz1 hk1 hS => ?_)
  · obtain ⟨rfl, hB⟩ := hB
    exact out0 htab hlocks hS hcell hv9 hcl (fun t _ hF => ⟨(), trivial, ⟨rfl, trivial⟩, hF⟩) (fun _ h => h) rfl rfl
  · exact hw.elim
set_option maxHeartbeats 4000000 in
set_option maxRecDepth 100000 in
theorem k_X11_eraseMarch (l : Launch) (D : va_G) (g : Nat → ClassId) (z0 sz : Nat) (a : Nat → Nat) : Met l yX11_eraseMarch (.code yX11_eraseMarch cX11_eraseMarch 2 (some .int) :: TG) (rmk 0 0 0 0) (va_Pc [.ref (a 0)] (PP D g z0 sz [((a 0), f_x a), ((a 9), f_memory a)])) (va_Qi (fun (r : Int32) (u : Unit) => (r = 0) ∧ True) (fun (u : Unit) (t : State) => va_P D vwCl [] t.heap ∧ va_D (va_A [((a 0), f_x a), ((a 9), f_memory a)] sz) []) (va_A [((a 0), f_x a), ((a 9), f_memory a)] sz)) 0 0 (va_A [((a 0), f_x a), ((a 9), f_memory a)] sz) := by
  refine met0 (cc := cX11_eraseMarch) (n := 2) (by decide) (Nat.le_of_ble_eq_true rfl) ?_
  intro p e s m args below meth c hx hb hr hml hown ht hlocks hnm hP0 hD0 hK hZ hsz hz ls hl
  subst hsz
  have hA : ∀ q : Nat, s.heap.size ≤ q → va_A [((a 0), f_x a), ((a 9), f_memory a)] s.heap.size q := Anw
  have hAz : ∀ q, va_A [((a 0), f_x a), ((a 9), f_memory a)] s.heap.size q → z0 ≤ q := Awz hz hD0
  have hS : va_S (va_A [((a 0), f_x a), ((a 9), f_memory a)] s.heap.size) s.heap s.heap [] := va_S.rf
  have hD : va_D (va_A [((a 0), f_x a), ((a 9), f_memory a)] s.heap.size) [((a 0), f_x a), ((a 9), f_memory a)] := hD0.self
  have hP : va_P D vwCl [((a 0), f_x a), ((a 9), f_memory a)] s.heap := hP0
  have hl : lv_has ls 2 [(0, .ref (a 0))] := hl
  refine lv_aload_n hx hb dX11_eraseMarch_0 rfl (lv_at hl 0 rfl) ?_
  refine va_get (D := D) (ci := 17) (v := .ref (a 9)) (C := RX11) (T := TX11) (N := 11) hx hb ht in_X11 hown hK.1 hP 0 rfl rfl 8 (by decide) (ht _ w_41) (fun _ h9 => h9) rfl dX11_eraseMarch_1 ?_
  refine va_get (D := D) (ci := 11) (v := .int 0) (C := RX5) (T := TX5) (N := 9) hx hb ht in_X5 hown hK.1 hP 1 rfl rfl 2 (by decide) (ht _ w_168) (fun _ h9 => h9) rfl dX11_eraseMarch_4 ?_
  refine lv_istore_n (lv' := [(1, .int 0), (0, .ref (a 0))]) hx hb dX11_eraseMarch_7 rfl hl (by decide) rfl (fun ls hl => ?_)
  refine lv_aload_n hx hb dX11_eraseMarch_8 rfl (lv_at hl 1 rfl) ?_
  refine va_get (D := D) (ci := 17) (v := .ref (a 9)) (C := RX11) (T := TX11) (N := 11) hx hb ht in_X11 hown hK.1 hP 0 rfl rfl 8 (by decide) (ht _ w_41) (fun _ h9 => h9) rfl dX11_eraseMarch_9 ?_
  refine lv_iconst (v := 0) hx hb dX11_eraseMarch_12 (by decide) ?_
  refine va_put (D := D) (ci := 11) (v := .int 0) (ty := .int) (C := RX5) (T := TX5) (N := 9) hx hb ht in_X5 tyX5 tyX5_ok nmX5 hown hK.1 hP hD hS 1 rfl rfl 2 (by decide) (ht _ w_168) (fun _ h9 => h9) rfl (by decide +kernel) rfl rfl (Nat.le_of_ble_eq_true rfl) dX11_eraseMarch_13 (fun H locs hP hD hS => ?_)
  have hP : va_P D vwCl [((a 0), f_x a), ((a 9), .inr (11, [.ref (a 59), .ref (a 60), .int 0, .int 45, .int 0, .int 0, .int 0, .int 0, .int 0]))] H := hP
  have hD : va_D (va_A [((a 0), f_x a), ((a 9), f_memory a)] s.heap.size) [((a 0), f_x a), ((a 9), .inr (11, [.ref (a 59), .ref (a 60), .int 0, .int 45, .int 0, .int 0, .int 0, .int 0, .int 0]))] := hD
  refine lv_iload_n hx hb dX11_eraseMarch_16 rfl (lv_at hl 0 rfl) ?_
  have hP9 := hP.sub (ws' := []) [] rfl
  have hD9 := hD.sub (ws' := []) [] (by decide) rfl
  refine W.widen (k := 0) (n := 0) (Nat.le_of_ble_eq_true rfl) (Nat.le_of_ble_eq_true rfl) ?_
  exact W.iret (v := 0) hx hb hr (fun t ht9 hW9 => ⟨⟨0, (), rfl, ⟨rfl, trivial⟩, ⟨(by rw [ht9]; exact hP9), hD9⟩⟩, hS.F ht9⟩) hS.2.2 dX11_eraseMarch_17 hlocks
set_option maxHeartbeats 4000000 in
set_option maxRecDepth 100000 in
theorem k_X10_findAll (l : Launch) (D : va_G) (g : Nat → ClassId) (z0 sz : Nat) (a : Nat → Nat) : Met l yX10_findAll (.code yX10_findAll cX10_findAll 3 none :: TG) (rmk 3 0 0 68) (va_Pc [.ref (a 4), .ref (a 3)] (PP D g z0 sz [((a 3), f_rows a), ((a 4), f_words a), ((a 38), .inl (g 1, 12, .inr (.inl (fun _ => 0)))), ((a 39), .inl (g 1, 12, .inr (.inl (fun _ => 0)))), ((a 1), f_net a), ((a 2), f_book a)])) (va_Qv (fun (u : Unit) => True) (fun (u : Unit) (t : State) => va_P D vwCl [((a 3), f_rows a), ((a 38), .inl (g 1, 12, .inr (.inl (fun _ => 0)))), ((a 39), .inl (g 1, 12, .inr (.inl (fun _ => 0)))), ((a 4), f_words a), ((a 1), f_net a), ((a 2), f_book a)] t.heap ∧ va_D (va_A [((a 3), f_rows a), ((a 4), f_words a), ((a 38), .inl (g 1, 12, .inr (.inl (fun _ => 0)))), ((a 39), .inl (g 1, 12, .inr (.inl (fun _ => 0)))), ((a 1), f_net a), ((a 2), f_book a)] sz) [((a 3), f_rows a), ((a 38), .inl (g 1, 12, .inr (.inl (fun _ => 0)))), ((a 39), .inl (g 1, 12, .inr (.inl (fun _ => 0)))), ((a 4), f_words a), ((a 1), f_net a), ((a 2), f_book a)]) (va_A [((a 3), f_rows a), ((a 4), f_words a), ((a 38), .inl (g 1, 12, .inr (.inl (fun _ => 0)))), ((a 39), .inl (g 1, 12, .inr (.inl (fun _ => 0)))), ((a 1), f_net a), ((a 2), f_book a)] sz)) 0 0 (va_A [((a 3), f_rows a), ((a 4), f_words a), ((a 38), .inl (g 1, 12, .inr (.inl (fun _ => 0)))), ((a 39), .inl (g 1, 12, .inr (.inl (fun _ => 0)))), ((a 1), f_net a), ((a 2), f_book a)] sz) := by
  refine met0 (cc := cX10_findAll) (n := 3) (by decide) (Nat.le_of_ble_eq_true rfl) ?_
  intro p e s m args below meth c hx hb hr hml hown ht hlocks hnm hP0 hD0 hK hZ hsz hz ls hl
  subst hsz
  have hA : ∀ q : Nat, s.heap.size ≤ q → va_A [((a 3), f_rows a), ((a 4), f_words a), ((a 38), .inl (g 1, 12, .inr (.inl (fun _ => 0)))), ((a 39), .inl (g 1, 12, .inr (.inl (fun _ => 0)))), ((a 1), f_net a), ((a 2), f_book a)] s.heap.size q := Anw
  have hAz : ∀ q, va_A [((a 3), f_rows a), ((a 4), f_words a), ((a 38), .inl (g 1, 12, .inr (.inl (fun _ => 0)))), ((a 39), .inl (g 1, 12, .inr (.inl (fun _ => 0)))), ((a 1), f_net a), ((a 2), f_book a)] s.heap.size q → z0 ≤ q := Awz hz hD0
  have hS : va_S (va_A [((a 3), f_rows a), ((a 4), f_words a), ((a 38), .inl (g 1, 12, .inr (.inl (fun _ => 0)))), ((a 39), .inl (g 1, 12, .inr (.inl (fun _ => 0)))), ((a 1), f_net a), ((a 2), f_book a)] s.heap.size) s.heap s.heap [] := va_S.rf
  have hD : va_D (va_A [((a 3), f_rows a), ((a 4), f_words a), ((a 38), .inl (g 1, 12, .inr (.inl (fun _ => 0)))), ((a 39), .inl (g 1, 12, .inr (.inl (fun _ => 0)))), ((a 1), f_net a), ((a 2), f_book a)] s.heap.size) [((a 3), f_rows a), ((a 4), f_words a), ((a 38), .inl (g 1, 12, .inr (.inl (fun _ => 0)))), ((a 39), .inl (g 1, 12, .inr (.inl (fun _ => 0)))), ((a 1), f_net a), ((a 2), f_book a)] := hD0.self
  have hP : va_P D vwCl [((a 3), f_rows a), ((a 4), f_words a), ((a 38), .inl (g 1, 12, .inr (.inl (fun _ => 0)))), ((a 39), .inl (g 1, 12, .inr (.inl (fun _ => 0)))), ((a 1), f_net a), ((a 2), f_book a)] s.heap := hP0
  have hl : lv_has ls 3 [(0, .ref (a 4)), (1, .ref (a 3))] := hl
  refine lv_aload_n hx hb dX10_findAll_0 rfl (lv_at hl 0 rfl) ?_
  refine lv_aload_n hx hb dX10_findAll_1 rfl (lv_at hl 1 rfl) ?_
  have hPc : va_P D vwCl [((a 3), f_rows a), ((a 4), f_words a), ((a 38), .inl (g 1, 12, .inr (.inl (fun _ => 0)))), ((a 39), .inl (g 1, 12, .inr (.inl (fun _ => 0))))] _ := hP.sub (ws' := [((a 3), f_rows a), ((a 4), f_words a), ((a 38), .inl (g 1, 12, .inr (.inl (fun _ => 0)))), ((a 39), .inl (g 1, 12, .inr (.inl (fun _ => 0))))]) [0, 1, 2, 3] rfl
  have hDc : va_D (fun q => z0 ≤ q) [((a 3), f_rows a), ((a 4), f_words a), ((a 38), .inl (g 1, 12, .inr (.inl (fun _ => 0)))), ((a 39), .inl (g 1, 12, .inr (.inl (fun _ => 0))))] := (hD.to hAz).pick (ws' := [((a 3), f_rows a), ((a 4), f_words a), ((a 38), .inl (g 1, 12, .inr (.inl (fun _ => 0)))), ((a 39), .inl (g 1, 12, .inr (.inl (fun _ => 0))))]) [0, 1, 2, 3] (by decide) rfl
  have hFc := va_free (wc := [((a 3), f_rows a), ((a 4), f_words a), ((a 38), .inl (g 1, 12, .inr (.inl (fun _ => 0)))), ((a 39), .inl (g 1, 12, .inr (.inl (fun _ => 0))))]) hD hS hA [0, 1, 2, 3] rfl
  refine va_callv (va_runV (As := [.ref (a 3)]) (rest := []) ⟨hx, hb, hml, hown, ht⟩ (k_X10_loadRows l D g z0 _ a) (cwV 1 ht (gV w_169 w_17 w_18 w_14 w_16) rfl rfl rfl (by decide +kernel) (le2 rfl rfl)) ⟨PP.blind, va_recv hK.1 hP (ci := 16) (q0 := 1) rfl rfl, PP.mk' hK hZ hz hAz hS hPc hDc⟩ rfl rfl hl.1 rfl (lv_room (Nat.le_of_ble_eq_true rfl)) dX10_findAll_2 (le2 rfl rfl)) hS (fun q _ h => hFc q h) hFc (fun u t H locs ht1 hvm hw hB hz1 hk1 hS => ?_)
  obtain ⟨hP1, hD1⟩ := hB
  rw [ht1] at hP1
  obtain ⟨hP, hD⟩ := va_join (wr := [((a 1), f_net a), ((a 2), f_book a)]) (w1 := [((a 3), f_rows a), ((a 4), f_words a), ((a 38), .inl (g 1, 12, .inr (.inl (fun _ => 0)))), ((a 39), .inl (g 1, 12, .inr (.inl (fun _ => 0))))]) hP hD [0, 1, 2, 3] [4, 5] rfl rfl (by decide) (by decide) hk1 hFc hP1 hD1
  have hP : va_P D vwCl [((a 1), f_net a), ((a 2), f_book a), ((a 3), f_rows a), ((a 4), f_words a), ((a 38), .inl (g 1, 12, .inr (.inl (fun _ => 0)))), ((a 39), .inl (g 1, 12, .inr (.inl (fun _ => 0))))] H := hP
  have hD : va_D (va_A [((a 3), f_rows a), ((a 4), f_words a), ((a 38), .inl (g 1, 12, .inr (.inl (fun _ => 0)))), ((a 39), .inl (g 1, 12, .inr (.inl (fun _ => 0)))), ((a 1), f_net a), ((a 2), f_book a)] s.heap.size) [((a 1), f_net a), ((a 2), f_book a), ((a 3), f_rows a), ((a 4), f_words a), ((a 38), .inl (g 1, 12, .inr (.inl (fun _ => 0)))), ((a 39), .inl (g 1, 12, .inr (.inl (fun _ => 0))))] := hD
  refine lv_aload_n hx hb dX10_findAll_5 rfl (lv_at hl 0 rfl) ?_
  have hPc : va_P D vwCl [((a 4), f_words a), ((a 1), f_net a)] _ := hP.sub (ws' := [((a 4), f_words a), ((a 1), f_net a)]) [3, 0] rfl
  have hDc : va_D (fun q => z0 ≤ q) [((a 4), f_words a), ((a 1), f_net a)] := (hD.to hAz).pick (ws' := [((a 4), f_words a), ((a 1), f_net a)]) [3, 0] (by decide) rfl
  have hFc := va_free (wc := [((a 4), f_words a), ((a 1), f_net a)]) hD hS hA [3, 0] rfl
  refine va_callv (va_runV (As := []) (rest := []) ⟨hx, hb, hml, hown, ht⟩ (k_X10_runGood l D g z0 _ a) (cwV 0 ht (gV w_170 w_24 w_25 w_14 w_23) rfl rfl rfl (by decide +kernel) (le2 rfl rfl)) ⟨PP.blind, va_recv hK.1 hP (ci := 16) (q0 := 3) rfl rfl, PP.mk' hK hZ hz hAz hS hPc hDc⟩ rfl rfl hl.1 rfl (lv_room (Nat.le_of_ble_eq_true rfl)) dX10_findAll_6 (le2 rfl rfl)) hS (fun q _ h => hFc q h) hFc (fun u t H locs ht1 hvm hw hB hz1 hk1 hS => ?_)
  obtain ⟨hP1, hD1⟩ := hB
  rw [ht1] at hP1
  obtain ⟨hP, hD⟩ := va_join (wr := [((a 2), f_book a), ((a 3), f_rows a), ((a 38), .inl (g 1, 12, .inr (.inl (fun _ => 0)))), ((a 39), .inl (g 1, 12, .inr (.inl (fun _ => 0))))]) (w1 := [((a 4), f_words a), ((a 1), f_net a)]) hP hD [3, 0] [1, 2, 4, 5] rfl rfl (by decide) (by decide) hk1 hFc hP1 hD1
  have hP : va_P D vwCl [((a 2), f_book a), ((a 3), f_rows a), ((a 38), .inl (g 1, 12, .inr (.inl (fun _ => 0)))), ((a 39), .inl (g 1, 12, .inr (.inl (fun _ => 0)))), ((a 4), f_words a), ((a 1), f_net a)] H := hP
  have hD : va_D (va_A [((a 3), f_rows a), ((a 4), f_words a), ((a 38), .inl (g 1, 12, .inr (.inl (fun _ => 0)))), ((a 39), .inl (g 1, 12, .inr (.inl (fun _ => 0)))), ((a 1), f_net a), ((a 2), f_book a)] s.heap.size) [((a 2), f_book a), ((a 3), f_rows a), ((a 38), .inl (g 1, 12, .inr (.inl (fun _ => 0)))), ((a 39), .inl (g 1, 12, .inr (.inl (fun _ => 0)))), ((a 4), f_words a), ((a 1), f_net a)] := hD
  refine lv_iconst (v := 0) hx hb dX10_findAll_9 (by decide) ?_
  refine lv_istore_n (lv' := [(2, .int 0), (0, .ref (a 4)), (1, .ref (a 3))]) hx hb dX10_findAll_10 rfl hl (by decide) rfl (fun ls hl => ?_)
  refine lv_iload_n hx hb dX10_findAll_11 rfl (lv_at hl 0 rfl) ?_
  refine lv_aload_n hx hb dX10_findAll_12 rfl (lv_at hl 1 rfl) ?_
  refine va_get (D := D) (ci := 16) (v := .ref (a 2)) (C := RX10) (T := TX10) (N := 17) hx hb ht in_X10 hown hK.1 hP 4 rfl rfl 1 (by decide) (ht _ w_171) (fun _ h9 => h9) rfl dX10_findAll_13 ?_
  refine va_get (D := D) (ci := 9) (v := .int 0) (C := RX3) (T := TX3) (N := 14) hx hb ht in_X3 hown hK.1 hP 0 rfl rfl 10 (by decide) (ht _ w_172) (fun _ h9 => h9) rfl dX10_findAll_16 ?_
  refine lv_icmp_ge (tgt := 39) hx hb dX10_findAll_19 (by decide) (fun c_1 => ?_) (fun c_1 => ?_)
  · have hP9 := hP.sub (ws' := [((a 3), f_rows a), ((a 38), .inl (g 1, 12, .inr (.inl (fun _ => 0)))), ((a 39), .inl (g 1, 12, .inr (.inl (fun _ => 0)))), ((a 4), f_words a), ((a 1), f_net a), ((a 2), f_book a)]) [1, 2, 3, 4, 5, 0] rfl
    have hD9 := hD.sub (ws' := [((a 3), f_rows a), ((a 38), .inl (g 1, 12, .inr (.inl (fun _ => 0)))), ((a 39), .inl (g 1, 12, .inr (.inl (fun _ => 0)))), ((a 4), f_words a), ((a 1), f_net a), ((a 2), f_book a)]) [1, 2, 3, 4, 5, 0] (by decide) rfl
    refine W.widen (k := 0) (n := 0) (Nat.le_of_ble_eq_true rfl) (Nat.le_of_ble_eq_true rfl) ?_
    exact W.vret hx hb hr (fun t ht9 hW9 => ⟨⟨(), rfl, trivial, ⟨(by rw [ht9]; exact hP9), hD9⟩⟩, hS.F ht9⟩) hS.2.2 dX10_findAll_39 hlocks
  · exact absurd c_1 (by decide)
set_option maxHeartbeats 4000000 in
set_option maxRecDepth 100000 in
theorem k_X7_putInOrder (l : Launch) (D : va_G) (g : Nat → ClassId) (z0 sz : Nat) (a : Nat → Nat) : Met l yX7_putInOrder (.code yX7_putInOrder cX7_putInOrder 6 none :: TG) (rmk 0 0 0 0) (va_Pc [.ref (a 3), .ref (a 4), .ref (a 2)] (PP D g z0 sz [((a 2), f_book a), ((a 3), f_rows a)])) (va_Qv (fun (u : Unit) => True) (fun (_ : Unit) (_ : State) => True) (va_A [] sz)) 0 0 (va_A [] sz) := by
  refine met0 (cc := cX7_putInOrder) (n := 6) (by decide) (Nat.le_of_ble_eq_true rfl) ?_
  intro p e s m args below meth c hx hb hr hml hown ht hlocks hnm hP0 hD0 hK hZ hsz hz ls hl
  subst hsz
  have hA : ∀ q : Nat, s.heap.size ≤ q → va_A [] s.heap.size q := Anw
  have hAz : ∀ q, va_A [] s.heap.size q → z0 ≤ q := A0z hz
  have hS : va_S (va_A [] s.heap.size) s.heap s.heap [] := va_S.rf
  have hl : lv_has ls 6 [(0, .ref (a 3)), (1, .ref (a 4)), (2, .ref (a 2))] := hl
  refine lv_iconst (v := 0) hx hb dX7_putInOrder_0 (by decide) ?_
  refine lv_istore_n (lv' := [(3, .int 0), (0, .ref (a 3)), (1, .ref (a 4)), (2, .ref (a 2))]) hx hb dX7_putInOrder_1 rfl hl (by decide) rfl (fun ls hl => ?_)
  refine lv_iload_n hx hb dX7_putInOrder_2 rfl (lv_at hl 0 rfl) ?_
  refine lv_aload_n hx hb dX7_putInOrder_3 rfl (lv_at hl 3 rfl) ?_
  refine va_get (D := D) (ci := 9) (v := .int 0) (C := RX3) (T := TX3) (N := 14) hx hb ht in_X3 hown hK.1 (ro0 hP0 hS) 0 rfl rfl 11 (by decide) (ht _ w_177) (fun _ h9 => h9) rfl dX7_putInOrder_4 ?_
  refine lv_icmp_ge (tgt := 41) hx hb dX7_putInOrder_7 (by decide) (fun c_1 => ?_) (fun c_1 => ?_)
  · refine lv_lconst (v := 0) hx hb dX7_putInOrder_41 (by decide) ?_
    refine lv_lstore_n (lv' := [(3, .long 0), (0, .ref (a 3)), (1, .ref (a 4)), (2, .ref (a 2))]) hx hb dX7_putInOrder_42 rfl hl (by decide) rfl (fun ls hl => ?_)
    refine lv_iconst (v := 0) hx hb dX7_putInOrder_43 (by decide) ?_
    refine lv_istore (lv' := [(5, .int 0), (3, .long 0), (0, .ref (a 3)), (1, .ref (a 4)), (2, .ref (a 2))]) hx hb dX7_putInOrder_44 hl (by decide) rfl (fun ls hl => ?_)
    refine lv_iload hx hb dX7_putInOrder_46 (lv_at hl 0 rfl) ?_
    refine lv_aload_n hx hb dX7_putInOrder_48 rfl (lv_at hl 2 rfl) ?_
    refine va_get (D := D) (ci := 13) (v := .int 0) (C := RX7) (T := TX7) (N := 6) hx hb ht in_X7 hown hK.1 (ro0 hP0 hS) 1 rfl rfl 5 (by decide) (ht _ w_178) (fun _ h9 => h9) rfl dX7_putInOrder_49 ?_
    refine lv_icmp_ge (tgt := 87) hx hb dX7_putInOrder_52 (by decide) (fun c_2 => ?_) (fun c_2 => ?_)
    · refine W.widen (k := 0) (n := 0) (Nat.le_of_ble_eq_true rfl) (Nat.le_of_ble_eq_true rfl) ?_
      exact W.vret hx hb hr (fun t ht9 hW9 => ⟨⟨(), rfl, trivial, trivial⟩, hS.F ht9⟩) hS.2.2 dX7_putInOrder_87 hlocks
    · exact absurd c_2 (by decide)
  · exact absurd c_1 (by decide)
set_option maxHeartbeats 4000000 in
set_option maxRecDepth 100000 in
theorem k_X11_escapes (l : Launch) (hfl : l.stackTraces = false) (D : va_G) (g : Nat → ClassId) (z0 sz : Nat) (a : Nat → Nat) (p0 : Int32) : vx_Met l yX11_escapes (.code yX11_escapes cX11_escapes 6 (some .int) :: TG) (rmk 7 1 6 103) (va_Pc [.ref (a 0), .int p0] (PP D g z0 sz [((a 0), f_x a), ((a 3), f_rows a), ((a 4), f_words a), ((a 38), .inl (g 1, 12, .inr (.inl (fun _ => 0)))), ((a 39), .inl (g 1, 12, .inr (.inl (fun _ => 0)))), ((a 1), f_net a), ((a 2), f_book a)])) (va_Qi (fun (r : Int32) (u : Unit) => (r = 0) ∧ ((¬ p0 < 0) ∧ (p0 ≤ 0))) (fun (u : Unit) (t : State) => va_P D vwCl [] t.heap ∧ va_D (va_A [((a 0), f_x a), ((a 3), f_rows a), ((a 4), f_words a), ((a 38), .inl (g 1, 12, .inr (.inl (fun _ => 0)))), ((a 39), .inl (g 1, 12, .inr (.inl (fun _ => 0)))), ((a 1), f_net a), ((a 2), f_book a)] sz) []) (va_A [((a 0), f_x a), ((a 3), f_rows a), ((a 4), f_words a), ((a 38), .inl (g 1, 12, .inr (.inl (fun _ => 0)))), ((a 39), .inl (g 1, 12, .inr (.inl (fun _ => 0)))), ((a 1), f_net a), ((a 2), f_book a)] sz)) (vx_X (fun _ : Unit => True) (fun E _ _ => (E = "java/lang/IllegalArgumentException" ∧ ((p0 < 0) ∨ ((¬ p0 < 0) ∧ (¬ p0 ≤ 0))))) (va_A [((a 0), f_x a), ((a 3), f_rows a), ((a 4), f_words a), ((a 38), .inl (g 1, 12, .inr (.inl (fun _ => 0)))), ((a 39), .inl (g 1, 12, .inr (.inl (fun _ => 0)))), ((a 1), f_net a), ((a 2), f_book a)] sz)) 1 6 (va_A [((a 0), f_x a), ((a 3), f_rows a), ((a 4), f_words a), ((a 38), .inl (g 1, 12, .inr (.inl (fun _ => 0)))), ((a 39), .inl (g 1, 12, .inr (.inl (fun _ => 0)))), ((a 1), f_net a), ((a 2), f_book a)] sz) := by
  refine vxm0 (cc := cX11_escapes) (n := 6) (by decide) (Nat.le_of_ble_eq_true rfl) ?_
  intro p e s m args below meth c hx hb hr hml htab hown ht hlocks hnm hP0 hD0 hK hZ hsz hz ls hl
  subst hsz
  have hA : ∀ q : Nat, s.heap.size ≤ q → va_A [((a 0), f_x a), ((a 3), f_rows a), ((a 4), f_words a), ((a 38), .inl (g 1, 12, .inr (.inl (fun _ => 0)))), ((a 39), .inl (g 1, 12, .inr (.inl (fun _ => 0)))), ((a 1), f_net a), ((a 2), f_book a)] s.heap.size q := Anw
  have hAz : ∀ q, va_A [((a 0), f_x a), ((a 3), f_rows a), ((a 4), f_words a), ((a 38), .inl (g 1, 12, .inr (.inl (fun _ => 0)))), ((a 39), .inl (g 1, 12, .inr (.inl (fun _ => 0)))), ((a 1), f_net a), ((a 2), f_book a)] s.heap.size q → z0 ≤ q := Awz hz hD0
  have hS : va_S (va_A [((a 0), f_x a), ((a 3), f_rows a), ((a 4), f_words a), ((a 38), .inl (g 1, 12, .inr (.inl (fun _ => 0)))), ((a 39), .inl (g 1, 12, .inr (.inl (fun _ => 0)))), ((a 1), f_net a), ((a 2), f_book a)] s.heap.size) s.heap s.heap [] := va_S.rf
  have hD : va_D (va_A [((a 0), f_x a), ((a 3), f_rows a), ((a 4), f_words a), ((a 38), .inl (g 1, 12, .inr (.inl (fun _ => 0)))), ((a 39), .inl (g 1, 12, .inr (.inl (fun _ => 0)))), ((a 1), f_net a), ((a 2), f_book a)] s.heap.size) [((a 0), f_x a), ((a 3), f_rows a), ((a 4), f_words a), ((a 38), .inl (g 1, 12, .inr (.inl (fun _ => 0)))), ((a 39), .inl (g 1, 12, .inr (.inl (fun _ => 0)))), ((a 1), f_net a), ((a 2), f_book a)] := hD0.self
  have hP : va_P D vwCl [((a 0), f_x a), ((a 3), f_rows a), ((a 4), f_words a), ((a 38), .inl (g 1, 12, .inr (.inl (fun _ => 0)))), ((a 39), .inl (g 1, 12, .inr (.inl (fun _ => 0)))), ((a 1), f_net a), ((a 2), f_book a)] s.heap := hP0
  have hl : lv_has ls 6 [(0, .ref (a 0)), (1, .int p0)] := hl
  refine lv_iload_n hx hb dX11_escapes_0 rfl (lv_at hl 1 rfl) ?_
  refine lv_iconst (v := 0) hx hb dX11_escapes_1 (by decide) ?_
  refine lv_aload_n hx hb dX11_escapes_2 rfl (lv_at hl 0 rfl) ?_
  refine va_get (D := D) (ci := 17) (v := .ref (a 3)) (C := RX11) (T := TX11) (N := 11) hx hb ht in_X11 hown hK.1 hP 0 rfl rfl 2 (by decide) (ht _ w_1) (fun _ h9 => h9) rfl dX11_escapes_3 ?_
  refine va_get (D := D) (ci := 13) (v := .int 0) (C := RX7) (T := TX7) (N := 6) hx hb ht in_X7 hown hK.1 hP 1 rfl rfl 5 (by decide) (ht _ w_26) (fun _ h9 => h9) rfl dX11_escapes_6 ?_
  have hPc : va_P D vwCl [] _ := hP.sub (ws' := []) [] rfl
  have hDc : va_D (fun q => z0 ≤ q) [] := (hD.to hAz).pick (ws' := []) [] (by decide) rfl
  have hFc := AnA (ws := [((a 0), f_x a), ((a 3), f_rows a), ((a 4), f_words a), ((a 38), .inl (g 1, 12, .inr (.inl (fun _ => 0)))), ((a 39), .inl (g 1, 12, .inr (.inl (fun _ => 0)))), ((a 1), f_net a), ((a 2), f_book a)]) hS.1
  refine vx_callv (vx_runS (As := [.int p0, .int 0, .int 0]) (rest := []) ⟨hx, hb, hml, hown, ht⟩ (k_X11_needRange l hfl D g z0 _ a p0 0 0) (va_cwS 3 ht (gS w_53 w_55 w_31 w_54) rfl rfl rfl (by decide +kernel) (le2 rfl rfl)) ⟨PP.blind, PP.mk' hK hZ hz hAz hS hPc hDc⟩ rfl rfl hl.1 rfl (lv_room (Nat.le_of_ble_eq_true rfl)) dX11_escapes_9 (le2 rfl rfl)) hS (fun q _ h => hFc q h) hFc (fun q _ h => hFc q h) (fun E ce q9 u t H locs ht1 hvm hw hB hz1 hk1 hS hcell hv9 hcl => ?_) (fun u t H locs ht1 hvm hw hB hz1 hk1 hS => ?_)
  · obtain ⟨rfl, hB⟩ := hB
    rcases hB with hB | hB
    · have c_1 := hB
      exact out0 htab hlocks hS hcell hv9 hcl (fun t _ hF => ⟨(), trivial, ⟨rfl, (Or.inl c_1)⟩, hF⟩) (fun _ h => h) rfl rfl
    · obtain ⟨c_2, c_3⟩ := hB
      exact out0 htab hlocks hS hcell hv9 hcl (fun t _ hF => ⟨(), trivial, ⟨rfl, (Or.inr ⟨c_2, c_3⟩)⟩, hF⟩) (fun _ h => h) rfl rfl
  · obtain ⟨c_4, c_5⟩ := hw
    have hP := ro1 hP hk1
    refine lv_aload_n hx hb dX11_escapes_12 rfl (lv_at hl 0 rfl) ?_
    refine va_get (D := D) (ci := 17) (v := .ref (a 4)) (C := RX11) (T := TX11) (N := 11) hx hb ht in_X11 hown hK.1 hP 0 rfl rfl 3 (by decide) (ht _ w_0) (fun _ h9 => h9) rfl dX11_escapes_13 ?_
    refine lv_aload_n hx hb dX11_escapes_16 rfl (lv_at hl 0 rfl) ?_
    refine va_get (D := D) (ci := 17) (v := .ref (a 3)) (C := RX11) (T := TX11) (N := 11) hx hb ht in_X11 hown hK.1 hP 0 rfl rfl 2 (by decide) (ht _ w_1) (fun _ h9 => h9) rfl dX11_escapes_17 ?_
    have hPc : va_P D vwCl [((a 3), f_rows a), ((a 4), f_words a), ((a 38), .inl (g 1, 12, .inr (.inl (fun _ => 0)))), ((a 39), .inl (g 1, 12, .inr (.inl (fun _ => 0)))), ((a 1), f_net a), ((a 2), f_book a)] _ := hP.sub (ws' := [((a 3), f_rows a), ((a 4), f_words a), ((a 38), .inl (g 1, 12, .inr (.inl (fun _ => 0)))), ((a 39), .inl (g 1, 12, .inr (.inl (fun _ => 0)))), ((a 1), f_net a), ((a 2), f_book a)]) [1, 2, 3, 4, 5, 6] rfl
    have hDc : va_D (fun q => z0 ≤ q) [((a 3), f_rows a), ((a 4), f_words a), ((a 38), .inl (g 1, 12, .inr (.inl (fun _ => 0)))), ((a 39), .inl (g 1, 12, .inr (.inl (fun _ => 0)))), ((a 1), f_net a), ((a 2), f_book a)] := (hD.to hAz).pick (ws' := [((a 3), f_rows a), ((a 4), f_words a), ((a 38), .inl (g 1, 12, .inr (.inl (fun _ => 0)))), ((a 39), .inl (g 1, 12, .inr (.inl (fun _ => 0)))), ((a 1), f_net a), ((a 2), f_book a)]) [1, 2, 3, 4, 5, 6] (by decide) rfl
    have hFc := va_free (wc := [((a 3), f_rows a), ((a 4), f_words a), ((a 38), .inl (g 1, 12, .inr (.inl (fun _ => 0)))), ((a 39), .inl (g 1, 12, .inr (.inl (fun _ => 0)))), ((a 1), f_net a), ((a 2), f_book a)]) hD hS hA [1, 2, 3, 4, 5, 6] rfl
    refine va_callv (va_runV (As := [.ref (a 3)]) (rest := []) ⟨hx, hb, hml, hown, ht⟩ (k_X10_findAll l D g z0 _ a) (cwV 1 ht (gV w_173 w_175 w_176 w_14 w_174) rfl rfl rfl (by decide +kernel) (le2 rfl rfl)) ⟨PP.blind, va_recv hK.1 hP (ci := 16) (q0 := 2) rfl rfl, PP.mk' hK hZ hz hAz hS hPc hDc⟩ rfl rfl hl.1 rfl (lv_room (Nat.le_of_ble_eq_true rfl)) dX11_escapes_20 (le2 rfl rfl)) hS (fun q _ h => hFc q h) hFc (fun u t H locs ht1 hvm hw hB hz1 hk1 hS => ?_)
    obtain ⟨hP1, hD1⟩ := hB
    rw [ht1] at hP1
    obtain ⟨hP, hD⟩ := va_join (wr := [((a 0), f_x a)]) (w1 := [((a 3), f_rows a), ((a 38), .inl (g 1, 12, .inr (.inl (fun _ => 0)))), ((a 39), .inl (g 1, 12, .inr (.inl (fun _ => 0)))), ((a 4), f_words a), ((a 1), f_net a), ((a 2), f_book a)]) hP hD [1, 2, 3, 4, 5, 6] [0] rfl rfl (by decide) (by decide) hk1 hFc hP1 hD1
    have hP : va_P D vwCl [((a 0), f_x a), ((a 3), f_rows a), ((a 38), .inl (g 1, 12, .inr (.inl (fun _ => 0)))), ((a 39), .inl (g 1, 12, .inr (.inl (fun _ => 0)))), ((a 4), f_words a), ((a 1), f_net a), ((a 2), f_book a)] H := hP
    have hD : va_D (va_A [((a 0), f_x a), ((a 3), f_rows a), ((a 4), f_words a), ((a 38), .inl (g 1, 12, .inr (.inl (fun _ => 0)))), ((a 39), .inl (g 1, 12, .inr (.inl (fun _ => 0)))), ((a 1), f_net a), ((a 2), f_book a)] s.heap.size) [((a 0), f_x a), ((a 3), f_rows a), ((a 38), .inl (g 1, 12, .inr (.inl (fun _ => 0)))), ((a 39), .inl (g 1, 12, .inr (.inl (fun _ => 0)))), ((a 4), f_words a), ((a 1), f_net a), ((a 2), f_book a)] := hD
    refine lv_aload_n hx hb dX11_escapes_23 rfl (lv_at hl 0 rfl) ?_
    refine va_get (D := D) (ci := 17) (v := .ref (a 3)) (C := RX11) (T := TX11) (N := 11) hx hb ht in_X11 hown hK.1 hP 0 rfl rfl 2 (by decide) (ht _ w_1) (fun _ h9 => h9) rfl dX11_escapes_24 ?_
    refine lv_aload_n hx hb dX11_escapes_27 rfl (lv_at hl 0 rfl) ?_
    refine va_get (D := D) (ci := 17) (v := .ref (a 4)) (C := RX11) (T := TX11) (N := 11) hx hb ht in_X11 hown hK.1 hP 0 rfl rfl 3 (by decide) (ht _ w_0) (fun _ h9 => h9) rfl dX11_escapes_28 ?_
    refine lv_aload_n hx hb dX11_escapes_31 rfl (lv_at hl 0 rfl) ?_
    refine va_get (D := D) (ci := 17) (v := .ref (a 2)) (C := RX11) (T := TX11) (N := 11) hx hb ht in_X11 hown hK.1 hP 0 rfl rfl 1 (by decide) (ht _ w_32) (fun _ h9 => h9) rfl dX11_escapes_32 ?_
    have hPc : va_P D vwCl [((a 2), f_book a), ((a 3), f_rows a)] _ := hP.sub (ws' := [((a 2), f_book a), ((a 3), f_rows a)]) [6, 1] rfl
    have hDc : va_D (fun q => z0 ≤ q) [((a 2), f_book a), ((a 3), f_rows a)] := (hD.to hAz).pick (ws' := [((a 2), f_book a), ((a 3), f_rows a)]) [6, 1] (by decide) rfl
    have hFc := AnA (ws := [((a 0), f_x a), ((a 3), f_rows a), ((a 4), f_words a), ((a 38), .inl (g 1, 12, .inr (.inl (fun _ => 0)))), ((a 39), .inl (g 1, 12, .inr (.inl (fun _ => 0)))), ((a 1), f_net a), ((a 2), f_book a)]) hS.1
    refine va_callv (va_runV (As := [.ref (a 4), .ref (a 2)]) (rest := []) ⟨hx, hb, hml, hown, ht⟩ (k_X7_putInOrder l D g z0 _ a) (cwV 2 ht (gV w_179 w_181 w_182 w_183 w_180) rfl rfl rfl (by decide +kernel) (le2 rfl rfl)) ⟨PP.blind, va_recv hK.1 hP (ci := 13) (q0 := 1) rfl rfl, PP.mk' hK hZ hz hAz hS hPc hDc⟩ rfl rfl hl.1 rfl (lv_room (Nat.le_of_ble_eq_true rfl)) dX11_escapes_35 (le2 rfl rfl)) hS (fun q _ h => hFc q h) hFc (fun u t H locs ht1 hvm hw hB hz1 hk1 hS => ?_)
    have hP := ro1 hP hk1
    refine lv_lconst (v := 0) hx hb dX11_escapes_38 (by decide) ?_
    refine lv_lstore_n (lv' := [(2, .long 0), (0, .ref (a 0)), (1, .int p0)]) hx hb dX11_escapes_39 rfl hl (by decide) rfl (fun ls hl => ?_)
    refine lv_iconst (v := 0) hx hb dX11_escapes_40 (by decide) ?_
    refine lv_istore (lv' := [(4, .int 0), (2, .long 0), (0, .ref (a 0)), (1, .int p0)]) hx hb dX11_escapes_41 hl (by decide) rfl (fun ls hl => ?_)
    refine lv_iload hx hb dX11_escapes_43 (lv_at hl 0 rfl) ?_
    refine lv_iload_n hx hb dX11_escapes_45 rfl (lv_at hl 3 rfl) ?_
    refine lv_icmp_ge (tgt := 70) hx hb dX11_escapes_46 (by decide) (fun c_6 => ?_) (fun c_6 => ?_)
    · refine lv_iconst (v := 0) hx hb dX11_escapes_70 (by decide) ?_
      refine lv_istore (lv' := [(4, .int 0), (2, .long 0), (0, .ref (a 0)), (1, .int p0)]) hx hb dX11_escapes_71 hl (by decide) rfl (fun ls hl => ?_)
      refine lv_iconst (v := 0) hx hb dX11_escapes_73 (by decide) ?_
      refine lv_istore (lv' := [(5, .int 0), (4, .int 0), (2, .long 0), (0, .ref (a 0)), (1, .int p0)]) hx hb dX11_escapes_74 hl (by decide) rfl (fun ls hl => ?_)
      refine lv_iload hx hb dX11_escapes_76 (lv_at hl 0 rfl) ?_
      refine lv_aload_n hx hb dX11_escapes_78 rfl (lv_at hl 3 rfl) ?_
      refine va_get (D := D) (ci := 17) (v := .ref (a 2)) (C := RX11) (T := TX11) (N := 11) hx hb ht in_X11 hown hK.1 hP 0 rfl rfl 1 (by decide) (ht _ w_32) (fun _ h9 => h9) rfl dX11_escapes_79 ?_
      refine va_get (D := D) (ci := 9) (v := .int 0) (C := RX3) (T := TX3) (N := 14) hx hb ht in_X3 hown hK.1 hP 6 rfl rfl 11 (by decide) (ht _ w_33) (fun _ h9 => h9) rfl dX11_escapes_82 ?_
      refine lv_icmp_ge (tgt := 137) hx hb dX11_escapes_85 (by decide) (fun c_7 => ?_) (fun c_7 => ?_)
      · refine lv_iload hx hb dX11_escapes_137 (lv_at hl 1 rfl) ?_
        have hP9 := hP.sub (ws' := []) [] rfl
        have hD9 := hD.sub (ws' := []) [] (by decide) rfl
        refine vx_ret (W.widen (k := 1) (n := 6) (Nat.le_of_ble_eq_true rfl) (Nat.le_of_ble_eq_true rfl) ?_)
        exact W.iret (v := 0) hx hb hr (fun t ht9 hW9 => ⟨⟨0, (), rfl, ⟨rfl, ⟨c_4, c_5⟩⟩, ⟨(by rw [ht9]; exact hP9), hD9⟩⟩, hS.F ht9⟩) hS.2.2 dX11_escapes_139 hlocks
      · exact absurd c_7 (by decide)
    · exact absurd c_5 c_6
set_option maxHeartbeats 4000000 in
set_option maxRecDepth 100000 in
theorem k_X11_needPattern (l : Launch) (hfl : l.stackTraces = false) (D : va_G) (g : Nat → ClassId) (z0 sz : Nat) (a : Nat → Nat) (p0 : Int32) : vx_Met l yX11_needPattern (.code yX11_needPattern cX11_needPattern 2 none :: TG) (rmk 6 1 6 81) (va_Pc [.ref (a 0), .int p0] (PP D g z0 sz [((a 0), f_x a), ((a 3), f_rows a)])) (va_Qv (fun (u : Unit) => False) (fun (_ : Unit) (_ : State) => True) (va_A [] sz)) (vx_X (fun _ : Unit => True) (fun E _ _ => (E = "java/lang/IndexOutOfBoundsException" ∧ True)) (va_A [] sz)) 1 6 (va_A [] sz) := by
  refine vxm0 (cc := cX11_needPattern) (n := 2) (by decide) (Nat.le_of_ble_eq_true rfl) ?_
  intro p e s m args below meth c hx hb hr hml htab hown ht hlocks hnm hP0 hD0 hK hZ hsz hz ls hl
  subst hsz
  have hA : ∀ q : Nat, s.heap.size ≤ q → va_A [] s.heap.size q := Anw
  have hAz : ∀ q, va_A [] s.heap.size q → z0 ≤ q := A0z hz
  have hS : va_S (va_A [] s.heap.size) s.heap s.heap [] := va_S.rf
  have hl : lv_has ls 2 [(0, .ref (a 0)), (1, .int p0)] := hl
  refine lv_iload_n hx hb dX11_needPattern_0 rfl (lv_at hl 1 rfl) ?_
  refine lv_if_lt (tgt := 15) hx hb dX11_needPattern_1 (by decide) (fun c_1 => ?_) (fun c_1 => ?_)
  · exact thr0 hx hb hfl hown ht hK.2.2 hZ hAz hS hl hml htab hlocks (by decide +kernel) w_35 w_36 at_X11_102 dX11_needPattern_15 dX11_needPattern_18 dX11_needPattern_19 dX11_needPattern_22 rfl rfl rfl rfl (fun t _ hF => ⟨(), trivial, ⟨rfl, trivial⟩, hF⟩) (fun _ h => h) rfl rfl
  · refine lv_iload_n hx hb dX11_needPattern_4 rfl (lv_at hl 1 rfl) ?_
    refine lv_aload_n hx hb dX11_needPattern_5 rfl (lv_at hl 0 rfl) ?_
    refine va_get (D := D) (ci := 17) (v := .ref (a 3)) (C := RX11) (T := TX11) (N := 11) hx hb ht in_X11 hown hK.1 (ro0 hP0 hS) 0 rfl rfl 2 (by decide) (ht _ w_1) (fun _ h9 => h9) rfl dX11_needPattern_6 ?_
    refine va_get (D := D) (ci := 13) (v := .int 0) (C := RX7) (T := TX7) (N := 6) hx hb ht in_X7 hown hK.1 (ro0 hP0 hS) 1 rfl rfl 5 (by decide) (ht _ w_26) (fun _ h9 => h9) rfl dX11_needPattern_9 ?_
    refine lv_icmp_lt (tgt := 23) hx hb dX11_needPattern_12 (by decide) (fun c_2 => ?_) (fun c_2 => ?_)
    · exact absurd c_2 c_1
    · exact thr0 hx hb hfl hown ht hK.2.2 hZ hAz hS hl hml htab hlocks (by decide +kernel) w_35 w_36 at_X11_102 dX11_needPattern_15 dX11_needPattern_18 dX11_needPattern_19 dX11_needPattern_22 rfl rfl rfl rfl (fun t _ hF => ⟨(), trivial, ⟨rfl, trivial⟩, hF⟩) (fun _ h => h) rfl rfl
set_option maxHeartbeats 4000000 in
set_option maxRecDepth 100000 in
theorem k_X11_fails (l : Launch) (hfl : l.stackTraces = false) (D : va_G) (g : Nat → ClassId) (z0 sz : Nat) (a : Nat → Nat) (p0 : Int32) : vx_Met l yX11_fails (.code yX11_fails cX11_fails 2 (some .long) :: TG) (rmk 7 1 6 102) (va_Pc [.ref (a 0), .int p0] (PP D g z0 sz [((a 0), f_x a), ((a 3), f_rows a)])) (va_Ql (fun (r : Int64) (u : Unit) => False) (fun (_ : Unit) (_ : State) => True) (va_A [] sz)) (vx_X (fun _ : Unit => True) (fun E _ _ => (E = "java/lang/IndexOutOfBoundsException" ∧ True)) (va_A [] sz)) 1 6 (va_A [] sz) := by
  refine vxm0 (cc := cX11_fails) (n := 2) (by decide) (Nat.le_of_ble_eq_true rfl) ?_
  intro p e s m args below meth c hx hb hr hml htab hown ht hlocks hnm hP0 hD0 hK hZ hsz hz ls hl
  subst hsz
  have hA : ∀ q : Nat, s.heap.size ≤ q → va_A [] s.heap.size q := Anw
  have hAz : ∀ q, va_A [] s.heap.size q → z0 ≤ q := A0z hz
  have hS : va_S (va_A [] s.heap.size) s.heap s.heap [] := va_S.rf
  have hl : lv_has ls 2 [(0, .ref (a 0)), (1, .int p0)] := hl
  refine lv_aload_n hx hb dX11_fails_0 rfl (lv_at hl 0 rfl) ?_
  refine lv_iload_n hx hb dX11_fails_1 rfl (lv_at hl 1 rfl) ?_
  have hPc : va_P D vwCl [((a 0), f_x a), ((a 3), f_rows a)] _ := (ro0 hP0 hS).sub (ws' := [((a 0), f_x a), ((a 3), f_rows a)]) [0, 1] rfl
  have hDc : va_D (fun q => z0 ≤ q) [((a 0), f_x a), ((a 3), f_rows a)] := hD0.pick (ws' := [((a 0), f_x a), ((a 3), f_rows a)]) [0, 1] (by decide) rfl
  have hFc := AnA (ws := []) hS.1
  refine vx_callv (vx_runV (As := [.int p0]) (rest := []) ⟨hx, hb, hml, hown, ht⟩ (k_X11_needPattern l hfl D g z0 _ a p0) (cwV 1 ht (gV w_184 w_186 w_187 w_31 w_185) rfl rfl rfl (by decide +kernel) (le2 rfl rfl)) ⟨PP.blind, va_recv hK.1 (ro0 hP0 hS) (ci := 17) (q0 := 0) rfl rfl, PP.mk' hK hZ hz hAz hS hPc hDc⟩ rfl rfl hl.1 rfl (lv_room (Nat.le_of_ble_eq_true rfl)) dX11_fails_2 (le2 rfl rfl)) hS (fun q _ h => hFc q h) hFc (fun q _ h => hFc q h) (fun E ce q9 u t H locs ht1 hvm hw hB hz1 hk1 hS hcell hv9 hcl => ?_) (fun u t H locs ht1 hvm hw hB hz1 hk1 hS => ?_)
  · obtain ⟨rfl, hB⟩ := hB
    exact out0 htab hlocks hS hcell hv9 hcl (fun t _ hF => ⟨(), trivial, ⟨rfl, trivial⟩, hF⟩) (fun _ h => h) rfl rfl
  · exact hw.elim
set_option maxHeartbeats 4000000 in
set_option maxRecDepth 100000 in
theorem k_X11_faults (l : Launch) (D : va_G) (g : Nat → ClassId) (z0 sz : Nat) (a : Nat → Nat) : Met l yX11_faults (.code yX11_faults cX11_faults 1 (some .int) :: TG) (rmk 0 0 0 0) (va_Pc [.ref (a 0)] (PP D g z0 sz [((a 0), f_x a), ((a 2), f_book a)])) (va_Qi (fun (r : Int32) (u : Unit) => (r = 0) ∧ True) (fun (_ : Unit) (_ : State) => True) (va_A [] sz)) 0 0 (va_A [] sz) := by
  refine met0 (cc := cX11_faults) (n := 1) (by decide) (Nat.le_of_ble_eq_true rfl) ?_
  intro p e s m args below meth c hx hb hr hml hown ht hlocks hnm hP0 hD0 hK hZ hsz hz ls hl
  subst hsz
  have hA : ∀ q : Nat, s.heap.size ≤ q → va_A [] s.heap.size q := Anw
  have hAz : ∀ q, va_A [] s.heap.size q → z0 ≤ q := A0z hz
  have hS : va_S (va_A [] s.heap.size) s.heap s.heap [] := va_S.rf
  have hl : lv_has ls 1 [(0, .ref (a 0))] := hl
  refine lv_aload_n hx hb dX11_faults_0 rfl (lv_at hl 0 rfl) ?_
  refine va_get (D := D) (ci := 17) (v := .ref (a 2)) (C := RX11) (T := TX11) (N := 11) hx hb ht in_X11 hown hK.1 (ro0 hP0 hS) 0 rfl rfl 1 (by decide) (ht _ w_32) (fun _ h9 => h9) rfl dX11_faults_1 ?_
  refine va_get (D := D) (ci := 9) (v := .int 0) (C := RX3) (T := TX3) (N := 14) hx hb ht in_X3 hown hK.1 (ro0 hP0 hS) 1 rfl rfl 10 (by decide) (ht _ w_34) (fun _ h9 => h9) rfl dX11_faults_4 ?_
  refine W.widen (k := 0) (n := 0) (Nat.le_of_ble_eq_true rfl) (Nat.le_of_ble_eq_true rfl) ?_
  exact W.iret (v := 0) hx hb hr (fun t ht9 hW9 => ⟨⟨0, (), rfl, ⟨rfl, trivial⟩, trivial⟩, hS.F ht9⟩) hS.2.2 dX11_faults_7 hlocks
set_option maxHeartbeats 4000000 in
set_option maxRecDepth 100000 in
theorem k_X11_faulty (l : Launch) (hfl : l.stackTraces = false) (D : va_G) (g : Nat → ClassId) (z0 sz : Nat) (a : Nat → Nat) (p0 : Int32) (p1 : Int32) (p2 : Int32) : vx_Met l yX11_faulty (.code yX11_faulty cX11_faulty 4 (some .int) :: TG) (rmk 7 1 6 102) (va_Pc [.ref (a 0), .int p0, .int p1, .int p2] (PP D g z0 sz [((a 0), f_x a), ((a 3), f_rows a)])) (va_Qi (fun (r : Int32) (u : Unit) => False) (fun (_ : Unit) (_ : State) => True) (va_A [] sz)) (vx_X (fun _ : Unit => True) (fun E _ _ => (E = "java/lang/IndexOutOfBoundsException" ∧ True)) (va_A [] sz)) 1 6 (va_A [] sz) := by
  refine vxm0 (cc := cX11_faulty) (n := 4) (by decide) (Nat.le_of_ble_eq_true rfl) ?_
  intro p e s m args below meth c hx hb hr hml htab hown ht hlocks hnm hP0 hD0 hK hZ hsz hz ls hl
  subst hsz
  have hA : ∀ q : Nat, s.heap.size ≤ q → va_A [] s.heap.size q := Anw
  have hAz : ∀ q, va_A [] s.heap.size q → z0 ≤ q := A0z hz
  have hS : va_S (va_A [] s.heap.size) s.heap s.heap [] := va_S.rf
  have hl : lv_has ls 4 [(0, .ref (a 0)), (1, .int p0), (2, .int p1), (3, .int p2)] := hl
  refine lv_aload_n hx hb dX11_faulty_0 rfl (lv_at hl 0 rfl) ?_
  refine lv_iload_n hx hb dX11_faulty_1 rfl (lv_at hl 1 rfl) ?_
  have hPc : va_P D vwCl [((a 0), f_x a), ((a 3), f_rows a)] _ := (ro0 hP0 hS).sub (ws' := [((a 0), f_x a), ((a 3), f_rows a)]) [0, 1] rfl
  have hDc : va_D (fun q => z0 ≤ q) [((a 0), f_x a), ((a 3), f_rows a)] := hD0.pick (ws' := [((a 0), f_x a), ((a 3), f_rows a)]) [0, 1] (by decide) rfl
  have hFc := AnA (ws := []) hS.1
  refine vx_callv (vx_runV (As := [.int p0]) (rest := []) ⟨hx, hb, hml, hown, ht⟩ (k_X11_needPattern l hfl D g z0 _ a p0) (cwV 1 ht (gV w_184 w_186 w_187 w_31 w_185) rfl rfl rfl (by decide +kernel) (le2 rfl rfl)) ⟨PP.blind, va_recv hK.1 (ro0 hP0 hS) (ci := 17) (q0 := 0) rfl rfl, PP.mk' hK hZ hz hAz hS hPc hDc⟩ rfl rfl hl.1 rfl (lv_room (Nat.le_of_ble_eq_true rfl)) dX11_faulty_2 (le2 rfl rfl)) hS (fun q _ h => hFc q h) hFc (fun q _ h => hFc q h) (fun E ce q9 u t H locs ht1 hvm hw hB hz1 hk1 hS hcell hv9 hcl => ?_) (fun u t H locs ht1 hvm hw hB hz1 hk1 hS => ?_)
  · obtain ⟨rfl, hB⟩ := hB
    exact out0 htab hlocks hS hcell hv9 hcl (fun t _ hF => ⟨(), trivial, ⟨rfl, trivial⟩, hF⟩) (fun _ h => h) rfl rfl
  · exact hw.elim
set_option maxHeartbeats 4000000 in
set_option maxRecDepth 100000 in
theorem k_X11_fill (l : Launch) (hfl : l.stackTraces = false) (D : va_G) (g : Nat → ClassId) (z0 sz : Nat) (a : Nat → Nat) (p0 : Int32) (p1 : Int32) (hc_p1 : isC p1) : vx_Met l yX11_fill (.code yX11_fill cX11_fill 3 (some .int) :: TG) (rmk 7 1 6 102) (va_Pc [.ref (a 0), .int p0, .int p1] (PP D g z0 sz [((a 0), f_x a), ((a 3), f_rows a)])) (va_Qi (fun (r : Int32) (u : Unit) => False) (fun (_ : Unit) (_ : State) => True) (va_A [] sz)) (vx_X (fun _ : Unit => True) (fun E _ _ => (E = "java/lang/IndexOutOfBoundsException" ∧ True)) (va_A [] sz)) 1 6 (va_A [] sz) := by
  refine vxm0 (cc := cX11_fill) (n := 3) (by decide) (Nat.le_of_ble_eq_true rfl) ?_
  intro p e s m args below meth c hx hb hr hml htab hown ht hlocks hnm hP0 hD0 hK hZ hsz hz ls hl
  subst hsz
  have hA : ∀ q : Nat, s.heap.size ≤ q → va_A [] s.heap.size q := Anw
  have hAz : ∀ q, va_A [] s.heap.size q → z0 ≤ q := A0z hz
  have hS : va_S (va_A [] s.heap.size) s.heap s.heap [] := va_S.rf
  have hl : lv_has ls 3 [(0, .ref (a 0)), (1, .int p0), (2, .int p1)] := hl
  refine lv_aload_n hx hb dX11_fill_0 rfl (lv_at hl 0 rfl) ?_
  refine lv_iload_n hx hb dX11_fill_1 rfl (lv_at hl 1 rfl) ?_
  have hPc : va_P D vwCl [((a 0), f_x a), ((a 3), f_rows a)] _ := (ro0 hP0 hS).sub (ws' := [((a 0), f_x a), ((a 3), f_rows a)]) [0, 1] rfl
  have hDc : va_D (fun q => z0 ≤ q) [((a 0), f_x a), ((a 3), f_rows a)] := hD0.pick (ws' := [((a 0), f_x a), ((a 3), f_rows a)]) [0, 1] (by decide) rfl
  have hFc := AnA (ws := []) hS.1
  refine vx_callv (vx_runV (As := [.int p0]) (rest := []) ⟨hx, hb, hml, hown, ht⟩ (k_X11_needPattern l hfl D g z0 _ a p0) (cwV 1 ht (gV w_184 w_186 w_187 w_31 w_185) rfl rfl rfl (by decide +kernel) (le2 rfl rfl)) ⟨PP.blind, va_recv hK.1 (ro0 hP0 hS) (ci := 17) (q0 := 0) rfl rfl, PP.mk' hK hZ hz hAz hS hPc hDc⟩ rfl rfl hl.1 rfl (lv_room (Nat.le_of_ble_eq_true rfl)) dX11_fill_2 (le2 rfl rfl)) hS (fun q _ h => hFc q h) hFc (fun q _ h => hFc q h) (fun E ce q9 u t H locs ht1 hvm hw hB hz1 hk1 hS hcell hv9 hcl => ?_) (fun u t H locs ht1 hvm hw hB hz1 hk1 hS => ?_)
  · obtain ⟨rfl, hB⟩ := hB
    exact out0 htab hlocks hS hcell hv9 hcl (fun t _ hF => ⟨(), trivial, ⟨rfl, trivial⟩, hF⟩) (fun _ h => h) rfl rfl
  · exact hw.elim
set_option maxHeartbeats 4000000 in
set_option maxRecDepth 100000 in
theorem k_X11_finds (l : Launch) (hfl : l.stackTraces = false) (D : va_G) (g : Nat → ClassId) (z0 sz : Nat) (a : Nat → Nat) (p0 : Int32) (p1 : Int32) (p2 : Int32) (hc_p2 : isC p2) : vx_Met l yX11_finds (.code yX11_finds cX11_finds 4 (some .boolean) :: TG) (rmk 7 1 6 102) (va_Pc [.ref (a 0), .int p0, .int p1, .int p2] (PP D g z0 sz [((a 0), f_x a), ((a 2), f_book a)])) (va_Qi (fun (r : Int32) (u : Unit) => False) (fun (_ : Unit) (_ : State) => True) (va_A [] sz)) (vx_X (fun _ : Unit => True) (fun E _ _ => (E = "java/lang/IndexOutOfBoundsException" ∧ True)) (va_A [] sz)) 1 6 (va_A [] sz) := by
  refine vxm0 (cc := cX11_finds) (n := 4) (by decide) (Nat.le_of_ble_eq_true rfl) ?_
  intro p e s m args below meth c hx hb hr hml htab hown ht hlocks hnm hP0 hD0 hK hZ hsz hz ls hl
  subst hsz
  have hA : ∀ q : Nat, s.heap.size ≤ q → va_A [] s.heap.size q := Anw
  have hAz : ∀ q, va_A [] s.heap.size q → z0 ≤ q := A0z hz
  have hS : va_S (va_A [] s.heap.size) s.heap s.heap [] := va_S.rf
  have hl : lv_has ls 4 [(0, .ref (a 0)), (1, .int p0), (2, .int p1), (3, .int p2)] := hl
  refine lv_aload_n hx hb dX11_finds_0 rfl (lv_at hl 0 rfl) ?_
  refine lv_iload_n hx hb dX11_finds_1 rfl (lv_at hl 1 rfl) ?_
  have hPc : va_P D vwCl [((a 0), f_x a), ((a 2), f_book a)] _ := (ro0 hP0 hS).sub (ws' := [((a 0), f_x a), ((a 2), f_book a)]) [0, 1] rfl
  have hDc : va_D (fun q => z0 ≤ q) [((a 0), f_x a), ((a 2), f_book a)] := hD0.pick (ws' := [((a 0), f_x a), ((a 2), f_book a)]) [0, 1] (by decide) rfl
  have hFc := AnA (ws := []) hS.1
  refine vx_callv (vx_runV (As := [.int p0]) (rest := []) ⟨hx, hb, hml, hown, ht⟩ (k_X11_needFault l hfl D g z0 _ a p0) (cwV 1 ht (gV w_37 w_39 w_40 w_31 w_38) rfl rfl rfl (by decide +kernel) (le2 rfl rfl)) ⟨PP.blind, va_recv hK.1 (ro0 hP0 hS) (ci := 17) (q0 := 0) rfl rfl, PP.mk' hK hZ hz hAz hS hPc hDc⟩ rfl rfl hl.1 rfl (lv_room (Nat.le_of_ble_eq_true rfl)) dX11_finds_2 (le2 rfl rfl)) hS (fun q _ h => hFc q h) hFc (fun q _ h => hFc q h) (fun E ce q9 u t H locs ht1 hvm hw hB hz1 hk1 hS hcell hv9 hcl => ?_) (fun u t H locs ht1 hvm hw hB hz1 hk1 hS => ?_)
  · obtain ⟨rfl, hB⟩ := hB
    exact out0 htab hlocks hS hcell hv9 hcl (fun t _ hF => ⟨(), trivial, ⟨rfl, trivial⟩, hF⟩) (fun _ h => h) rfl rfl
  · exact hw.elim
set_option maxHeartbeats 4000000 in
set_option maxRecDepth 100000 in
theorem k_X11_foundBy (l : Launch) (hfl : l.stackTraces = false) (D : va_G) (g : Nat → ClassId) (z0 sz : Nat) (a : Nat → Nat) (p0 : Int32) : vx_Met l yX11_foundBy (.code yX11_foundBy cX11_foundBy 2 (some .long) :: TG) (rmk 7 1 6 102) (va_Pc [.ref (a 0), .int p0] (PP D g z0 sz [((a 0), f_x a), ((a 2), f_book a)])) (va_Ql (fun (r : Int64) (u : Unit) => False) (fun (_ : Unit) (_ : State) => True) (va_A [] sz)) (vx_X (fun _ : Unit => True) (fun E _ _ => (E = "java/lang/IndexOutOfBoundsException" ∧ True)) (va_A [] sz)) 1 6 (va_A [] sz) := by
  refine vxm0 (cc := cX11_foundBy) (n := 2) (by decide) (Nat.le_of_ble_eq_true rfl) ?_
  intro p e s m args below meth c hx hb hr hml htab hown ht hlocks hnm hP0 hD0 hK hZ hsz hz ls hl
  subst hsz
  have hA : ∀ q : Nat, s.heap.size ≤ q → va_A [] s.heap.size q := Anw
  have hAz : ∀ q, va_A [] s.heap.size q → z0 ≤ q := A0z hz
  have hS : va_S (va_A [] s.heap.size) s.heap s.heap [] := va_S.rf
  have hl : lv_has ls 2 [(0, .ref (a 0)), (1, .int p0)] := hl
  refine lv_aload_n hx hb dX11_foundBy_0 rfl (lv_at hl 0 rfl) ?_
  refine lv_iload_n hx hb dX11_foundBy_1 rfl (lv_at hl 1 rfl) ?_
  have hPc : va_P D vwCl [((a 0), f_x a), ((a 2), f_book a)] _ := (ro0 hP0 hS).sub (ws' := [((a 0), f_x a), ((a 2), f_book a)]) [0, 1] rfl
  have hDc : va_D (fun q => z0 ≤ q) [((a 0), f_x a), ((a 2), f_book a)] := hD0.pick (ws' := [((a 0), f_x a), ((a 2), f_book a)]) [0, 1] (by decide) rfl
  have hFc := AnA (ws := []) hS.1
  refine vx_callv (vx_runV (As := [.int p0]) (rest := []) ⟨hx, hb, hml, hown, ht⟩ (k_X11_needFault l hfl D g z0 _ a p0) (cwV 1 ht (gV w_37 w_39 w_40 w_31 w_38) rfl rfl rfl (by decide +kernel) (le2 rfl rfl)) ⟨PP.blind, va_recv hK.1 (ro0 hP0 hS) (ci := 17) (q0 := 0) rfl rfl, PP.mk' hK hZ hz hAz hS hPc hDc⟩ rfl rfl hl.1 rfl (lv_room (Nat.le_of_ble_eq_true rfl)) dX11_foundBy_2 (le2 rfl rfl)) hS (fun q _ h => hFc q h) hFc (fun q _ h => hFc q h) (fun E ce q9 u t H locs ht1 hvm hw hB hz1 hk1 hS hcell hv9 hcl => ?_) (fun u t H locs ht1 hvm hw hB hz1 hk1 hS => ?_)
  · obtain ⟨rfl, hB⟩ := hB
    exact out0 htab hlocks hS hcell hv9 hcl (fun t _ hF => ⟨(), trivial, ⟨rfl, trivial⟩, hF⟩) (fun _ h => h) rfl rfl
  · exact hw.elim
set_option maxHeartbeats 4000000 in
set_option maxRecDepth 100000 in
theorem k_X11_gate (l : Launch) (hfl : l.stackTraces = false) (D : va_G) (g : Nat → ClassId) (z0 sz : Nat) (a : Nat → Nat) (p0 : Int32) (p1 : Int32) (p2 : Int32) (hc_p0 : isC p0) : vx_Met l yX11_gate (.code yX11_gate cX11_gate 5 (some .int) :: TG) (rmk 7 1 6 102) (va_Pc [.ref (a 0), .int p0, .int p1, .int p2] (PP D g z0 sz [((a 0), f_x a), ((a 1), f_net a)])) (va_Qi (fun (r : Int32) (u : Unit) => False) (fun (_ : Unit) (_ : State) => True) (va_A [] sz)) (vx_X (fun _ : Unit => True) (fun E _ _ => (E = "java/lang/IndexOutOfBoundsException" ∧ ((gk2 p0) ∨ (gk1 p0))) ∨ (E = "java/lang/IllegalArgumentException" ∧ ((¬ gk2 p0) ∧ (¬ gk1 p0)))) (va_A [] sz)) 1 6 (va_A [] sz) := by
  refine vxm0 (cc := cX11_gate) (n := 5) (by decide) (Nat.le_of_ble_eq_true rfl) ?_
  intro p e s m args below meth c hx hb hr hml htab hown ht hlocks hnm hP0 hD0 hK hZ hsz hz ls hl
  subst hsz
  have hA : ∀ q : Nat, s.heap.size ≤ q → va_A [] s.heap.size q := Anw
  have hAz : ∀ q, va_A [] s.heap.size q → z0 ≤ q := A0z hz
  have hS : va_S (va_A [] s.heap.size) s.heap s.heap [] := va_S.rf
  have hl : lv_has ls 5 [(0, .ref (a 0)), (1, .int p0), (2, .int p1), (3, .int p2)] := hl
  refine lv_iload_n hx hb dX11_gate_0 rfl (lv_at hl 1 rfl) ?_
  have hPc : va_P D vwCl [] _ := (ro0 hP0 hS).sub (ws' := []) [] rfl
  have hDc : va_D (fun q => z0 ≤ q) [] := hD0.pick (ws' := []) [] (by decide) rfl
  have hFc := AnA (ws := []) hS.1
  refine va_calli (va_runS (As := [.int p0]) (rest := []) ⟨hx, hb, hml, hown, ht⟩ (k_X6_pinsOfKind l D g z0 _ p0) (va_cwS 1 ht (gS w_188 w_190 w_137 w_189) rfl rfl rfl (by decide +kernel) (le2 rfl rfl)) ⟨PP.blind, PP.mk' hK hZ hz hAz hS hPc hDc⟩ rfl rfl hl.1 rfl (lv_room (Nat.le_of_ble_eq_true rfl)) dX11_gate_1 (le2 rfl rfl)) hS (fun q _ h => hFc q h) hFc (fun r u t H locs ht1 hvm hw hB hz1 hk1 hS => ?_)
  rcases hw with hw | hw | hw
  · obtain ⟨rfl, hw⟩ := hw
    have c_1 := hw
    refine lv_istore (lv' := [(4, .int 2), (0, .ref (a 0)), (1, .int p0), (2, .int p1), (3, .int p2)]) hx hb dX11_gate_4 hl (by decide) rfl (fun ls hl => ?_)
    refine lv_iload hx hb dX11_gate_6 (lv_at hl 0 rfl) ?_
    refine lv_if_ne (tgt := 19) hx hb dX11_gate_8 (by decide) (fun c_2 => ?_) (fun c_2 => ?_)
    · refine lv_aload_n hx hb dX11_gate_19 rfl (lv_at hl 1 rfl) ?_
      refine lv_iload_n hx hb dX11_gate_20 rfl (lv_at hl 3 rfl) ?_
      have hPc : va_P D vwCl [((a 0), f_x a), ((a 1), f_net a)] _ := (ro0 hP0 hS).sub (ws' := [((a 0), f_x a), ((a 1), f_net a)]) [0, 1] rfl
      have hDc : va_D (fun q => z0 ≤ q) [((a 0), f_x a), ((a 1), f_net a)] := hD0.pick (ws' := [((a 0), f_x a), ((a 1), f_net a)]) [0, 1] (by decide) rfl
      have hFc := AnA (ws := []) hS.1
      refine vx_callv (vx_runV (As := [.int p1]) (rest := []) ⟨hx, hb, hml, hown, ht⟩ (k_X11_needLine l hfl D g z0 _ a p1) (cwV 1 ht (gV w_82 w_84 w_85 w_31 w_83) rfl rfl rfl (by decide +kernel) (le2 rfl rfl)) ⟨PP.blind, va_recv hK.1 (ro0 hP0 hS) (ci := 17) (q0 := 0) rfl rfl, PP.mk' hK hZ hz hAz hS hPc hDc⟩ rfl rfl hl.1 rfl (lv_room (Nat.le_of_ble_eq_true rfl)) dX11_gate_21 (le2 rfl rfl)) hS (fun q _ h => hFc q h) hFc (fun q _ h => hFc q h) (fun E ce q9 u t H locs ht1 hvm hw hB hz1 hk1 hS hcell hv9 hcl => ?_) (fun u t H locs ht1 hvm hw hB hz1 hk1 hS => ?_)
      · obtain ⟨rfl, hB⟩ := hB
        exact out0 htab hlocks hS hcell hv9 hcl (fun t _ hF => ⟨(), trivial, (Or.inl ⟨rfl, (Or.inl c_1)⟩), hF⟩) (fun _ h => h) rfl rfl
      · exact hw.elim
    · exact absurd c_2 (by decide)
  · obtain ⟨rfl, hw⟩ := hw
    have c_3 := hw
    refine lv_istore (lv' := [(4, .int 1), (0, .ref (a 0)), (1, .int p0), (2, .int p1), (3, .int p2)]) hx hb dX11_gate_4 hl (by decide) rfl (fun ls hl => ?_)
    refine lv_iload hx hb dX11_gate_6 (lv_at hl 0 rfl) ?_
    refine lv_if_ne (tgt := 19) hx hb dX11_gate_8 (by decide) (fun c_4 => ?_) (fun c_4 => ?_)
    · refine lv_aload_n hx hb dX11_gate_19 rfl (lv_at hl 1 rfl) ?_
      refine lv_iload_n hx hb dX11_gate_20 rfl (lv_at hl 3 rfl) ?_
      have hPc : va_P D vwCl [((a 0), f_x a), ((a 1), f_net a)] _ := (ro0 hP0 hS).sub (ws' := [((a 0), f_x a), ((a 1), f_net a)]) [0, 1] rfl
      have hDc : va_D (fun q => z0 ≤ q) [((a 0), f_x a), ((a 1), f_net a)] := hD0.pick (ws' := [((a 0), f_x a), ((a 1), f_net a)]) [0, 1] (by decide) rfl
      have hFc := AnA (ws := []) hS.1
      refine vx_callv (vx_runV (As := [.int p1]) (rest := []) ⟨hx, hb, hml, hown, ht⟩ (k_X11_needLine l hfl D g z0 _ a p1) (cwV 1 ht (gV w_82 w_84 w_85 w_31 w_83) rfl rfl rfl (by decide +kernel) (le2 rfl rfl)) ⟨PP.blind, va_recv hK.1 (ro0 hP0 hS) (ci := 17) (q0 := 0) rfl rfl, PP.mk' hK hZ hz hAz hS hPc hDc⟩ rfl rfl hl.1 rfl (lv_room (Nat.le_of_ble_eq_true rfl)) dX11_gate_21 (le2 rfl rfl)) hS (fun q _ h => hFc q h) hFc (fun q _ h => hFc q h) (fun E ce q9 u t H locs ht1 hvm hw hB hz1 hk1 hS hcell hv9 hcl => ?_) (fun u t H locs ht1 hvm hw hB hz1 hk1 hS => ?_)
      · obtain ⟨rfl, hB⟩ := hB
        exact out0 htab hlocks hS hcell hv9 hcl (fun t _ hF => ⟨(), trivial, (Or.inl ⟨rfl, (Or.inr c_3)⟩), hF⟩) (fun _ h => h) rfl rfl
      · exact hw.elim
    · exact absurd c_4 (by decide)
  · obtain ⟨rfl, hw⟩ := hw
    obtain ⟨c_5, c_6⟩ := hw
    refine lv_istore (lv' := [(4, .int 0), (0, .ref (a 0)), (1, .int p0), (2, .int p1), (3, .int p2)]) hx hb dX11_gate_4 hl (by decide) rfl (fun ls hl => ?_)
    refine lv_iload hx hb dX11_gate_6 (lv_at hl 0 rfl) ?_
    refine lv_if_ne (tgt := 19) hx hb dX11_gate_8 (by decide) (fun c_7 => ?_) (fun c_7 => ?_)
    · exact absurd c_7 (by decide)
    · exact thr0 hx hb hfl hown ht hK.2.2 hZ hAz hS hl hml htab hlocks (by decide +kernel) w_43 w_44 at_X11_116 dX11_gate_11 dX11_gate_14 dX11_gate_15 dX11_gate_18 rfl rfl rfl rfl (fun t _ hF => ⟨(), trivial, (Or.inr ⟨rfl, ⟨c_5, c_6⟩⟩), hF⟩) (fun _ h => h) rfl rfl
set_option maxHeartbeats 4000000 in
set_option maxRecDepth 100000 in
theorem k_X11_needWire (l : Launch) (hfl : l.stackTraces = false) (D : va_G) (g : Nat → ClassId) (z0 sz : Nat) (a : Nat → Nat) (p0 : Int32) : vx_Met l yX11_needWire (.code yX11_needWire cX11_needWire 2 none :: TG) (rmk 6 1 6 81) (va_Pc [.ref (a 0), .int p0] (PP D g z0 sz [((a 0), f_x a), ((a 10), f_wires a)])) (va_Qv (fun (u : Unit) => False) (fun (_ : Unit) (_ : State) => True) (va_A [] sz)) (vx_X (fun _ : Unit => True) (fun E _ _ => (E = "java/lang/IndexOutOfBoundsException" ∧ True)) (va_A [] sz)) 1 6 (va_A [] sz) := by
  refine vxm0 (cc := cX11_needWire) (n := 2) (by decide) (Nat.le_of_ble_eq_true rfl) ?_
  intro p e s m args below meth c hx hb hr hml htab hown ht hlocks hnm hP0 hD0 hK hZ hsz hz ls hl
  subst hsz
  have hA : ∀ q : Nat, s.heap.size ≤ q → va_A [] s.heap.size q := Anw
  have hAz : ∀ q, va_A [] s.heap.size q → z0 ≤ q := A0z hz
  have hS : va_S (va_A [] s.heap.size) s.heap s.heap [] := va_S.rf
  have hl : lv_has ls 2 [(0, .ref (a 0)), (1, .int p0)] := hl
  refine lv_iload_n hx hb dX11_needWire_0 rfl (lv_at hl 1 rfl) ?_
  refine lv_if_lt (tgt := 15) hx hb dX11_needWire_1 (by decide) (fun c_1 => ?_) (fun c_1 => ?_)
  · exact thr0 hx hb hfl hown ht hK.2.2 hZ hAz hS hl hml htab hlocks (by decide +kernel) w_35 w_36 at_X11_102 dX11_needWire_15 dX11_needWire_18 dX11_needWire_19 dX11_needWire_22 rfl rfl rfl rfl (fun t _ hF => ⟨(), trivial, ⟨rfl, trivial⟩, hF⟩) (fun _ h => h) rfl rfl
  · refine lv_iload_n hx hb dX11_needWire_4 rfl (lv_at hl 1 rfl) ?_
    refine lv_aload_n hx hb dX11_needWire_5 rfl (lv_at hl 0 rfl) ?_
    refine va_get (D := D) (ci := 17) (v := .ref (a 10)) (C := RX11) (T := TX11) (N := 11) hx hb ht in_X11 hown hK.1 (ro0 hP0 hS) 0 rfl rfl 9 (by decide) (ht _ w_49) (fun _ h9 => h9) rfl dX11_needWire_6 ?_
    refine va_get (D := D) (ci := 6) (v := .int 0) (C := RX0) (T := TX0) (N := 4) hx hb ht in_X0 hown hK.1 (ro0 hP0 hS) 1 rfl rfl 2 (by decide) (ht _ w_50) (fun _ h9 => h9) rfl dX11_needWire_9 ?_
    refine lv_icmp_lt (tgt := 23) hx hb dX11_needWire_12 (by decide) (fun c_2 => ?_) (fun c_2 => ?_)
    · exact absurd c_2 c_1
    · exact thr0 hx hb hfl hown ht hK.2.2 hZ hAz hS hl hml htab hlocks (by decide +kernel) w_35 w_36 at_X11_102 dX11_needWire_15 dX11_needWire_18 dX11_needWire_19 dX11_needWire_22 rfl rfl rfl rfl (fun t _ hF => ⟨(), trivial, ⟨rfl, trivial⟩, hF⟩) (fun _ h => h) rfl rfl
set_option maxHeartbeats 4000000 in
set_option maxRecDepth 100000 in
theorem k_X11_got (l : Launch) (hfl : l.stackTraces = false) (D : va_G) (g : Nat → ClassId) (z0 sz : Nat) (a : Nat → Nat) (p0 : Int32) (p1 : Int32) (hc_p1 : isC p1) : vx_Met l yX11_got (.code yX11_got cX11_got 3 (some .int) :: TG) (rmk 7 1 6 102) (va_Pc [.ref (a 0), .int p0, .int p1] (PP D g z0 sz [((a 0), f_x a), ((a 10), f_wires a)])) (va_Qi (fun (r : Int32) (u : Unit) => False) (fun (_ : Unit) (_ : State) => True) (va_A [] sz)) (vx_X (fun _ : Unit => True) (fun E _ _ => (E = "java/lang/IndexOutOfBoundsException" ∧ True)) (va_A [] sz)) 1 6 (va_A [] sz) := by
  refine vxm0 (cc := cX11_got) (n := 3) (by decide) (Nat.le_of_ble_eq_true rfl) ?_
  intro p e s m args below meth c hx hb hr hml htab hown ht hlocks hnm hP0 hD0 hK hZ hsz hz ls hl
  subst hsz
  have hA : ∀ q : Nat, s.heap.size ≤ q → va_A [] s.heap.size q := Anw
  have hAz : ∀ q, va_A [] s.heap.size q → z0 ≤ q := A0z hz
  have hS : va_S (va_A [] s.heap.size) s.heap s.heap [] := va_S.rf
  have hl : lv_has ls 3 [(0, .ref (a 0)), (1, .int p0), (2, .int p1)] := hl
  refine lv_aload_n hx hb dX11_got_0 rfl (lv_at hl 0 rfl) ?_
  refine lv_iload_n hx hb dX11_got_1 rfl (lv_at hl 1 rfl) ?_
  have hPc : va_P D vwCl [((a 0), f_x a), ((a 10), f_wires a)] _ := (ro0 hP0 hS).sub (ws' := [((a 0), f_x a), ((a 10), f_wires a)]) [0, 1] rfl
  have hDc : va_D (fun q => z0 ≤ q) [((a 0), f_x a), ((a 10), f_wires a)] := hD0.pick (ws' := [((a 0), f_x a), ((a 10), f_wires a)]) [0, 1] (by decide) rfl
  have hFc := AnA (ws := []) hS.1
  refine vx_callv (vx_runV (As := [.int p0]) (rest := []) ⟨hx, hb, hml, hown, ht⟩ (k_X11_needWire l hfl D g z0 _ a p0) (cwV 1 ht (gV w_191 w_193 w_194 w_31 w_192) rfl rfl rfl (by decide +kernel) (le2 rfl rfl)) ⟨PP.blind, va_recv hK.1 (ro0 hP0 hS) (ci := 17) (q0 := 0) rfl rfl, PP.mk' hK hZ hz hAz hS hPc hDc⟩ rfl rfl hl.1 rfl (lv_room (Nat.le_of_ble_eq_true rfl)) dX11_got_2 (le2 rfl rfl)) hS (fun q _ h => hFc q h) hFc (fun q _ h => hFc q h) (fun E ce q9 u t H locs ht1 hvm hw hB hz1 hk1 hS hcell hv9 hcl => ?_) (fun u t H locs ht1 hvm hw hB hz1 hk1 hS => ?_)
  · obtain ⟨rfl, hB⟩ := hB
    exact out0 htab hlocks hS hcell hv9 hcl (fun t _ hF => ⟨(), trivial, ⟨rfl, trivial⟩, hF⟩) (fun _ h => h) rfl rfl
  · exact hw.elim
set_option maxHeartbeats 4000000 in
set_option maxRecDepth 100000 in
theorem k_X10_wordsOfWays (l : Launch) (D : va_G) (g : Nat → ClassId) (z0 sz : Nat) (a : Nat → Nat) : Met l yX10_wordsOfWays (.code yX10_wordsOfWays cX10_wordsOfWays 1 (some .int) :: TG) (rmk 0 0 0 0) (va_Pc [.ref (a 4)] (PP D g z0 sz [((a 4), f_words a), ((a 1), f_net a)])) (va_Qi (fun (r : Int32) (u : Unit) => (r = 1) ∧ True) (fun (_ : Unit) (_ : State) => True) (va_A [] sz)) 0 0 (va_A [] sz) := by
  refine met0 (cc := cX10_wordsOfWays) (n := 1) (by decide) (Nat.le_of_ble_eq_true rfl) ?_
  intro p e s m args below meth c hx hb hr hml hown ht hlocks hnm hP0 hD0 hK hZ hsz hz ls hl
  subst hsz
  have hA : ∀ q : Nat, s.heap.size ≤ q → va_A [] s.heap.size q := Anw
  have hAz : ∀ q, va_A [] s.heap.size q → z0 ≤ q := A0z hz
  have hS : va_S (va_A [] s.heap.size) s.heap s.heap [] := va_S.rf
  have hl : lv_has ls 1 [(0, .ref (a 4))] := hl
  refine lv_aload_n hx hb dX10_wordsOfWays_0 rfl (lv_at hl 0 rfl) ?_
  refine va_get (D := D) (ci := 16) (v := .ref (a 1)) (C := RX10) (T := TX10) (N := 17) hx hb ht in_X10 hown hK.1 (ro0 hP0 hS) 0 rfl rfl 0 (by decide) (ht _ w_20) (fun _ h9 => h9) rfl dX10_wordsOfWays_1 ?_
  refine va_get (D := D) (ci := 12) (v := .int 0) (C := RX6) (T := TX6) (N := 18) hx hb ht in_X6 hown hK.1 (ro0 hP0 hS) 1 rfl rfl 13 (by decide) (ht _ w_197) (fun _ h9 => h9) rfl dX10_wordsOfWays_4 ?_
  refine lv_bipush (v := 6) hx hb dX10_wordsOfWays_7 (by decide) ?_
  refine lv_icmp_le (tgt := 27) hx hb dX10_wordsOfWays_9 (by decide) (fun c_1 => ?_) (fun c_1 => ?_)
  · refine lv_iconst (v := 1) hx hb dX10_wordsOfWays_27 (by decide) ?_
    refine W.widen (k := 0) (n := 0) (Nat.le_of_ble_eq_true rfl) (Nat.le_of_ble_eq_true rfl) ?_
    exact W.iret (v := 1) hx hb hr (fun t ht9 hW9 => ⟨⟨1, (), rfl, ⟨rfl, trivial⟩, trivial⟩, hS.F ht9⟩) hS.2.2 dX10_wordsOfWays_28 hlocks
  · exact absurd c_1 (by decide)
set_option maxHeartbeats 4000000 in
set_option maxRecDepth 100000 in
theorem k_X10_loadWays (l : Launch) (D : va_G) (g : Nat → ClassId) (z0 sz : Nat) (a : Nat → Nat) : Met l yX10_loadWays (.code yX10_loadWays cX10_loadWays 4 none :: TG) (rmk 0 0 0 0) (va_Pc [.ref (a 4), .int 0] (PP D g z0 sz [((a 4), f_words a), ((a 1), f_net a)])) (va_Qv (fun (u : Unit) => True) (fun (u : Unit) (t : State) => va_P D vwCl [((a 4), .inr (16, [.ref (a 1), .ref (a 2), .ref (a 38), .ref (a 39), .ref (a 40), .ref (a 41), .ref (a 42), .ref (a 43), .ref (a 44), .ref (a 45), .ref (a 46), .ref (a 47), .long 1, .long 0, .long 0, .int 0, .int (-1)])), ((a 1), f_net a)] t.heap ∧ va_D (va_A [((a 4), f_words a), ((a 1), f_net a)] sz) [((a 4), .inr (16, [.ref (a 1), .ref (a 2), .ref (a 38), .ref (a 39), .ref (a 40), .ref (a 41), .ref (a 42), .ref (a 43), .ref (a 44), .ref (a 45), .ref (a 46), .ref (a 47), .long 1, .long 0, .long 0, .int 0, .int (-1)])), ((a 1), f_net a)]) (va_A [((a 4), f_words a), ((a 1), f_net a)] sz)) 0 0 (va_A [((a 4), f_words a), ((a 1), f_net a)] sz) := by
  refine met0 (cc := cX10_loadWays) (n := 4) (by decide) (Nat.le_of_ble_eq_true rfl) ?_
  intro p e s m args below meth c hx hb hr hml hown ht hlocks hnm hP0 hD0 hK hZ hsz hz ls hl
  subst hsz
  have hA : ∀ q : Nat, s.heap.size ≤ q → va_A [((a 4), f_words a), ((a 1), f_net a)] s.heap.size q := Anw
  have hAz : ∀ q, va_A [((a 4), f_words a), ((a 1), f_net a)] s.heap.size q → z0 ≤ q := Awz hz hD0
  have hS : va_S (va_A [((a 4), f_words a), ((a 1), f_net a)] s.heap.size) s.heap s.heap [] := va_S.rf
  have hD : va_D (va_A [((a 4), f_words a), ((a 1), f_net a)] s.heap.size) [((a 4), f_words a), ((a 1), f_net a)] := hD0.self
  have hP : va_P D vwCl [((a 4), f_words a), ((a 1), f_net a)] s.heap := hP0
  have hl : lv_has ls 4 [(0, .ref (a 4)), (1, .int 0)] := hl
  refine lv_aload_n hx hb dX10_loadWays_0 rfl (lv_at hl 0 rfl) ?_
  refine lv_aload_n hx hb dX10_loadWays_1 rfl (lv_at hl 0 rfl) ?_
  refine va_get (D := D) (ci := 16) (v := .ref (a 1)) (C := RX10) (T := TX10) (N := 17) hx hb ht in_X10 hown hK.1 hP 0 rfl rfl 0 (by decide) (ht _ w_20) (fun _ h9 => h9) rfl dX10_loadWays_2 ?_
  refine va_get (D := D) (ci := 12) (v := .int 0) (C := RX6) (T := TX6) (N := 18) hx hb ht in_X6 hown hK.1 hP 1 rfl rfl 13 (by decide) (ht _ w_197) (fun _ h9 => h9) rfl dX10_loadWays_5 ?_
  refine lv_bipush (v := 6) hx hb dX10_loadWays_8 (by decide) ?_
  refine lv_icmp_lt (tgt := 19) hx hb dX10_loadWays_10 (by decide) (fun c_1 => ?_) (fun c_1 => ?_)
  · refine lv_lconst (v := 1) hx hb dX10_loadWays_19 (by decide) ?_
    refine lv_iconst (v := 1) hx hb dX10_loadWays_20 (by decide) ?_
    refine lv_aload_n hx hb dX10_loadWays_21 rfl (lv_at hl 0 rfl) ?_
    refine va_get (D := D) (ci := 16) (v := .ref (a 1)) (C := RX10) (T := TX10) (N := 17) hx hb ht in_X10 hown hK.1 hP 0 rfl rfl 0 (by decide) (ht _ w_20) (fun _ h9 => h9) rfl dX10_loadWays_22 ?_
    refine va_get (D := D) (ci := 12) (v := .int 0) (C := RX6) (T := TX6) (N := 18) hx hb ht in_X6 hown hK.1 hP 1 rfl rfl 13 (by decide) (ht _ w_197) (fun _ h9 => h9) rfl dX10_loadWays_25 ?_
    refine lv_ishl hx hb dX10_loadWays_28 ?_
    refine r_topi (v := 1) (by decide) ?_
    refine lv_lshl (v := 2) hx hb dX10_loadWays_29 (by decide) ?_
    refine lv_lconst (v := 1) hx hb dX10_loadWays_30 (by decide) ?_
    refine lv_lsub hx hb dX10_loadWays_31 ?_
    refine r_topl (v := 1) (by decide) ?_
    refine va_put (D := D) (ci := 16) (v := .long 1) (ty := .long) (C := RX10) (T := TX10) (N := 17) hx hb ht in_X10 tyX10 tyX10_ok nmX10 hown hK.1 hP hD hS 0 rfl rfl 12 (by decide) (ht _ w_3) (fun _ h9 => h9) rfl (by decide +kernel) rfl rfl (Nat.le_of_ble_eq_true rfl) dX10_loadWays_32 (fun H locs hP hD hS => ?_)
    have hP : va_P D vwCl [((a 4), .inr (16, [.ref (a 1), .ref (a 2), .ref (a 38), .ref (a 39), .ref (a 40), .ref (a 41), .ref (a 42), .ref (a 43), .ref (a 44), .ref (a 45), .ref (a 46), .ref (a 47), .long 1, .long 0, .long 0, .int 0, .int (-1)])), ((a 1), f_net a)] H := hP
    have hD : va_D (va_A [((a 4), f_words a), ((a 1), f_net a)] s.heap.size) [((a 4), .inr (16, [.ref (a 1), .ref (a 2), .ref (a 38), .ref (a 39), .ref (a 40), .ref (a 41), .ref (a 42), .ref (a 43), .ref (a 44), .ref (a 45), .ref (a 46), .ref (a 47), .long 1, .long 0, .long 0, .int 0, .int (-1)])), ((a 1), f_net a)] := hD
    refine lv_iconst (v := 0) hx hb dX10_loadWays_35 (by decide) ?_
    refine lv_istore_n (lv' := [(2, .int 0), (0, .ref (a 4)), (1, .int 0)]) hx hb dX10_loadWays_36 rfl hl (by decide) rfl (fun ls hl => ?_)
    refine lv_iload_n hx hb dX10_loadWays_37 rfl (lv_at hl 0 rfl) ?_
    refine lv_aload_n hx hb dX10_loadWays_38 rfl (lv_at hl 1 rfl) ?_
    refine va_get (D := D) (ci := 16) (v := .ref (a 1)) (C := RX10) (T := TX10) (N := 17) hx hb ht in_X10 hown hK.1 hP 0 rfl rfl 0 (by decide) (ht _ w_20) (fun _ h9 => h9) rfl dX10_loadWays_39 ?_
    refine va_get (D := D) (ci := 12) (v := .int 0) (C := RX6) (T := TX6) (N := 18) hx hb ht in_X6 hown hK.1 hP 1 rfl rfl 13 (by decide) (ht _ w_197) (fun _ h9 => h9) rfl dX10_loadWays_42 ?_
    refine lv_icmp_ge (tgt := 114) hx hb dX10_loadWays_45 (by decide) (fun c_2 => ?_) (fun c_2 => ?_)
    · have hP9 := hP.sub (ws' := [((a 4), .inr (16, [.ref (a 1), .ref (a 2), .ref (a 38), .ref (a 39), .ref (a 40), .ref (a 41), .ref (a 42), .ref (a 43), .ref (a 44), .ref (a 45), .ref (a 46), .ref (a 47), .long 1, .long 0, .long 0, .int 0, .int (-1)])), ((a 1), f_net a)]) [0, 1] rfl
      have hD9 := hD.sub (ws' := [((a 4), .inr (16, [.ref (a 1), .ref (a 2), .ref (a 38), .ref (a 39), .ref (a 40), .ref (a 41), .ref (a 42), .ref (a 43), .ref (a 44), .ref (a 45), .ref (a 46), .ref (a 47), .long 1, .long 0, .long 0, .int 0, .int (-1)])), ((a 1), f_net a)]) [0, 1] (by decide) rfl
      refine W.widen (k := 0) (n := 0) (Nat.le_of_ble_eq_true rfl) (Nat.le_of_ble_eq_true rfl) ?_
      exact W.vret hx hb hr (fun t ht9 hW9 => ⟨⟨(), rfl, trivial, ⟨(by rw [ht9]; exact hP9), hD9⟩⟩, hS.F ht9⟩) hS.2.2 dX10_loadWays_114 hlocks
    · exact absurd c_2 (by decide)
  · exact absurd c_1 (by decide)
set_option maxHeartbeats 4000000 in
set_option maxRecDepth 100000 in
theorem k_X10_runGood_v1 (l : Launch) (D : va_G) (g : Nat → ClassId) (z0 sz : Nat) (a : Nat → Nat) : Met l yX10_runGood (.code yX10_runGood cX10_runGood 5 none :: TG) (rmk 0 0 0 0) (va_Pc [.ref (a 4)] (PP D g z0 sz [((a 4), .inr (16, [.ref (a 1), .ref (a 2), .ref (a 38), .ref (a 39), .ref (a 40), .ref (a 41), .ref (a 42), .ref (a 43), .ref (a 44), .ref (a 45), .ref (a 46), .ref (a 47), .long 1, .long 0, .long 0, .int 0, .int (-1)])), ((a 1), f_net a)])) (va_Qv (fun (u : Unit) => True) (fun (u : Unit) (t : State) => va_P D vwCl [((a 4), .inr (16, [.ref (a 1), .ref (a 2), .ref (a 38), .ref (a 39), .ref (a 40), .ref (a 41), .ref (a 42), .ref (a 43), .ref (a 44), .ref (a 45), .ref (a 46), .ref (a 47), .long 1, .long 0, .long 0, .int 0, .int (-1)])), ((a 1), f_net a)] t.heap ∧ va_D (va_A [((a 4), .inr (16, [.ref (a 1), .ref (a 2), .ref (a 38), .ref (a 39), .ref (a 40), .ref (a 41), .ref (a 42), .ref (a 43), .ref (a 44), .ref (a 45), .ref (a 46), .ref (a 47), .long 1, .long 0, .long 0, .int 0, .int (-1)])), ((a 1), f_net a)] sz) [((a 4), .inr (16, [.ref (a 1), .ref (a 2), .ref (a 38), .ref (a 39), .ref (a 40), .ref (a 41), .ref (a 42), .ref (a 43), .ref (a 44), .ref (a 45), .ref (a 46), .ref (a 47), .long 1, .long 0, .long 0, .int 0, .int (-1)])), ((a 1), f_net a)]) (va_A [((a 4), .inr (16, [.ref (a 1), .ref (a 2), .ref (a 38), .ref (a 39), .ref (a 40), .ref (a 41), .ref (a 42), .ref (a 43), .ref (a 44), .ref (a 45), .ref (a 46), .ref (a 47), .long 1, .long 0, .long 0, .int 0, .int (-1)])), ((a 1), f_net a)] sz)) 0 0 (va_A [((a 4), .inr (16, [.ref (a 1), .ref (a 2), .ref (a 38), .ref (a 39), .ref (a 40), .ref (a 41), .ref (a 42), .ref (a 43), .ref (a 44), .ref (a 45), .ref (a 46), .ref (a 47), .long 1, .long 0, .long 0, .int 0, .int (-1)])), ((a 1), f_net a)] sz) := by
  refine met0 (cc := cX10_runGood) (n := 5) (by decide) (Nat.le_of_ble_eq_true rfl) ?_
  intro p e s m args below meth c hx hb hr hml hown ht hlocks hnm hP0 hD0 hK hZ hsz hz ls hl
  subst hsz
  have hA : ∀ q : Nat, s.heap.size ≤ q → va_A [((a 4), .inr (16, [.ref (a 1), .ref (a 2), .ref (a 38), .ref (a 39), .ref (a 40), .ref (a 41), .ref (a 42), .ref (a 43), .ref (a 44), .ref (a 45), .ref (a 46), .ref (a 47), .long 1, .long 0, .long 0, .int 0, .int (-1)])), ((a 1), f_net a)] s.heap.size q := Anw
  have hAz : ∀ q, va_A [((a 4), .inr (16, [.ref (a 1), .ref (a 2), .ref (a 38), .ref (a 39), .ref (a 40), .ref (a 41), .ref (a 42), .ref (a 43), .ref (a 44), .ref (a 45), .ref (a 46), .ref (a 47), .long 1, .long 0, .long 0, .int 0, .int (-1)])), ((a 1), f_net a)] s.heap.size q → z0 ≤ q := Awz hz hD0
  have hS : va_S (va_A [((a 4), .inr (16, [.ref (a 1), .ref (a 2), .ref (a 38), .ref (a 39), .ref (a 40), .ref (a 41), .ref (a 42), .ref (a 43), .ref (a 44), .ref (a 45), .ref (a 46), .ref (a 47), .long 1, .long 0, .long 0, .int 0, .int (-1)])), ((a 1), f_net a)] s.heap.size) s.heap s.heap [] := va_S.rf
  have hD : va_D (va_A [((a 4), .inr (16, [.ref (a 1), .ref (a 2), .ref (a 38), .ref (a 39), .ref (a 40), .ref (a 41), .ref (a 42), .ref (a 43), .ref (a 44), .ref (a 45), .ref (a 46), .ref (a 47), .long 1, .long 0, .long 0, .int 0, .int (-1)])), ((a 1), f_net a)] s.heap.size) [((a 4), .inr (16, [.ref (a 1), .ref (a 2), .ref (a 38), .ref (a 39), .ref (a 40), .ref (a 41), .ref (a 42), .ref (a 43), .ref (a 44), .ref (a 45), .ref (a 46), .ref (a 47), .long 1, .long 0, .long 0, .int 0, .int (-1)])), ((a 1), f_net a)] := hD0.self
  have hP : va_P D vwCl [((a 4), .inr (16, [.ref (a 1), .ref (a 2), .ref (a 38), .ref (a 39), .ref (a 40), .ref (a 41), .ref (a 42), .ref (a 43), .ref (a 44), .ref (a 45), .ref (a 46), .ref (a 47), .long 1, .long 0, .long 0, .int 0, .int (-1)])), ((a 1), f_net a)] s.heap := hP0
  have hl : lv_has ls 5 [(0, .ref (a 4))] := hl
  refine lv_aload_n hx hb dX10_runGood_0 rfl (lv_at hl 0 rfl) ?_
  refine lv_lconst (v := 0) hx hb dX10_runGood_1 (by decide) ?_
  refine va_put (D := D) (ci := 16) (v := .long 0) (ty := .long) (C := RX10) (T := TX10) (N := 17) hx hb ht in_X10 tyX10 tyX10_ok nmX10 hown hK.1 hP hD hS 0 rfl rfl 14 (by decide) (ht _ w_19) (fun _ h9 => h9) rfl (by decide +kernel) rfl rfl (Nat.le_of_ble_eq_true rfl) dX10_runGood_2 (fun H locs hP hD hS => ?_)
  have hP : va_P D vwCl [((a 4), .inr (16, [.ref (a 1), .ref (a 2), .ref (a 38), .ref (a 39), .ref (a 40), .ref (a 41), .ref (a 42), .ref (a 43), .ref (a 44), .ref (a 45), .ref (a 46), .ref (a 47), .long 1, .long 0, .long 0, .int 0, .int (-1)])), ((a 1), f_net a)] H := hP
  have hD : va_D (va_A [((a 4), .inr (16, [.ref (a 1), .ref (a 2), .ref (a 38), .ref (a 39), .ref (a 40), .ref (a 41), .ref (a 42), .ref (a 43), .ref (a 44), .ref (a 45), .ref (a 46), .ref (a 47), .long 1, .long 0, .long 0, .int 0, .int (-1)])), ((a 1), f_net a)] s.heap.size) [((a 4), .inr (16, [.ref (a 1), .ref (a 2), .ref (a 38), .ref (a 39), .ref (a 40), .ref (a 41), .ref (a 42), .ref (a 43), .ref (a 44), .ref (a 45), .ref (a 46), .ref (a 47), .long 1, .long 0, .long 0, .int 0, .int (-1)])), ((a 1), f_net a)] := hD
  refine lv_iconst (v := 0) hx hb dX10_runGood_5 (by decide) ?_
  refine lv_istore_n (lv' := [(1, .int 0), (0, .ref (a 4))]) hx hb dX10_runGood_6 rfl hl (by decide) rfl (fun ls hl => ?_)
  refine lv_iload_n hx hb dX10_runGood_7 rfl (lv_at hl 0 rfl) ?_
  refine lv_aload_n hx hb dX10_runGood_8 rfl (lv_at hl 1 rfl) ?_
  refine va_get (D := D) (ci := 16) (v := .ref (a 1)) (C := RX10) (T := TX10) (N := 17) hx hb ht in_X10 hown hK.1 hP 0 rfl rfl 0 (by decide) (ht _ w_20) (fun _ h9 => h9) rfl dX10_runGood_9 ?_
  refine va_get (D := D) (ci := 12) (v := .int 0) (C := RX6) (T := TX6) (N := 18) hx hb ht in_X6 hown hK.1 hP 1 rfl rfl 12 (by decide) (ht _ w_21) (fun _ h9 => h9) rfl dX10_runGood_12 ?_
  refine lv_icmp_ge (tgt := 240) hx hb dX10_runGood_15 (by decide) (fun c_1 => ?_) (fun c_1 => ?_)
  · have hP9 := hP.sub (ws' := [((a 4), .inr (16, [.ref (a 1), .ref (a 2), .ref (a 38), .ref (a 39), .ref (a 40), .ref (a 41), .ref (a 42), .ref (a 43), .ref (a 44), .ref (a 45), .ref (a 46), .ref (a 47), .long 1, .long 0, .long 0, .int 0, .int (-1)])), ((a 1), f_net a)]) [0, 1] rfl
    have hD9 := hD.sub (ws' := [((a 4), .inr (16, [.ref (a 1), .ref (a 2), .ref (a 38), .ref (a 39), .ref (a 40), .ref (a 41), .ref (a 42), .ref (a 43), .ref (a 44), .ref (a 45), .ref (a 46), .ref (a 47), .long 1, .long 0, .long 0, .int 0, .int (-1)])), ((a 1), f_net a)]) [0, 1] (by decide) rfl
    refine W.widen (k := 0) (n := 0) (Nat.le_of_ble_eq_true rfl) (Nat.le_of_ble_eq_true rfl) ?_
    exact W.vret hx hb hr (fun t ht9 hW9 => ⟨⟨(), rfl, trivial, ⟨(by rw [ht9]; exact hP9), hD9⟩⟩, hS.F ht9⟩) hS.2.2 dX10_runGood_240 hlocks
  · exact absurd c_1 (by decide)
set_option maxHeartbeats 4000000 in
set_option maxRecDepth 100000 in
theorem k_X10_wordsOfWays_v1 (l : Launch) (D : va_G) (g : Nat → ClassId) (z0 sz : Nat) (a : Nat → Nat) : Met l yX10_wordsOfWays (.code yX10_wordsOfWays cX10_wordsOfWays 1 (some .int) :: TG) (rmk 0 0 0 0) (va_Pc [.ref (a 4)] (PP D g z0 sz [((a 4), .inr (16, [.ref (a 1), .ref (a 2), .ref (a 38), .ref (a 39), .ref (a 40), .ref (a 41), .ref (a 42), .ref (a 43), .ref (a 44), .ref (a 45), .ref (a 46), .ref (a 47), .long 1, .long 0, .long 0, .int 0, .int (-1)])), ((a 1), f_net a)])) (va_Qi (fun (r : Int32) (u : Unit) => (r = 1) ∧ True) (fun (_ : Unit) (_ : State) => True) (va_A [] sz)) 0 0 (va_A [] sz) := by
  refine met0 (cc := cX10_wordsOfWays) (n := 1) (by decide) (Nat.le_of_ble_eq_true rfl) ?_
  intro p e s m args below meth c hx hb hr hml hown ht hlocks hnm hP0 hD0 hK hZ hsz hz ls hl
  subst hsz
  have hA : ∀ q : Nat, s.heap.size ≤ q → va_A [] s.heap.size q := Anw
  have hAz : ∀ q, va_A [] s.heap.size q → z0 ≤ q := A0z hz
  have hS : va_S (va_A [] s.heap.size) s.heap s.heap [] := va_S.rf
  have hl : lv_has ls 1 [(0, .ref (a 4))] := hl
  refine lv_aload_n hx hb dX10_wordsOfWays_0 rfl (lv_at hl 0 rfl) ?_
  refine va_get (D := D) (ci := 16) (v := .ref (a 1)) (C := RX10) (T := TX10) (N := 17) hx hb ht in_X10 hown hK.1 (ro0 hP0 hS) 0 rfl rfl 0 (by decide) (ht _ w_20) (fun _ h9 => h9) rfl dX10_wordsOfWays_1 ?_
  refine va_get (D := D) (ci := 12) (v := .int 0) (C := RX6) (T := TX6) (N := 18) hx hb ht in_X6 hown hK.1 (ro0 hP0 hS) 1 rfl rfl 13 (by decide) (ht _ w_197) (fun _ h9 => h9) rfl dX10_wordsOfWays_4 ?_
  refine lv_bipush (v := 6) hx hb dX10_wordsOfWays_7 (by decide) ?_
  refine lv_icmp_le (tgt := 27) hx hb dX10_wordsOfWays_9 (by decide) (fun c_1 => ?_) (fun c_1 => ?_)
  · refine lv_iconst (v := 1) hx hb dX10_wordsOfWays_27 (by decide) ?_
    refine W.widen (k := 0) (n := 0) (Nat.le_of_ble_eq_true rfl) (Nat.le_of_ble_eq_true rfl) ?_
    exact W.iret (v := 1) hx hb hr (fun t ht9 hW9 => ⟨⟨1, (), rfl, ⟨rfl, trivial⟩, trivial⟩, hS.F ht9⟩) hS.2.2 dX10_wordsOfWays_28 hlocks
  · exact absurd c_1 (by decide)
set_option maxHeartbeats 4000000 in
set_option maxRecDepth 100000 in
theorem k_X10_countAllWays (l : Launch) (D : va_G) (g : Nat → ClassId) (z0 sz : Nat) (a : Nat → Nat) : Met l yX10_countAllWays (.code yX10_countAllWays cX10_countAllWays 3 none :: TG) (rmk 1 0 0 24) (va_Pc [.ref (a 4)] (PP D g z0 sz [((a 4), f_words a), ((a 47), .inl (g 0, 256, .inl (fun _ => 0))), ((a 1), f_net a), ((a 2), f_book a)])) (va_Qv (fun (u : Unit) => True) (fun (u : Unit) (t : State) => va_P D vwCl [((a 47), .inl (g 0, 256, .inl (fun _ => 0))), ((a 4), .inr (16, [.ref (a 1), .ref (a 2), .ref (a 38), .ref (a 39), .ref (a 40), .ref (a 41), .ref (a 42), .ref (a 43), .ref (a 44), .ref (a 45), .ref (a 46), .ref (a 47), .long 1, .long 0, .long 0, .int 0, .int (-1)])), ((a 1), f_net a), ((a 2), f_book a)] t.heap ∧ va_D (va_A [((a 4), f_words a), ((a 47), .inl (g 0, 256, .inl (fun _ => 0))), ((a 1), f_net a), ((a 2), f_book a)] sz) [((a 47), .inl (g 0, 256, .inl (fun _ => 0))), ((a 4), .inr (16, [.ref (a 1), .ref (a 2), .ref (a 38), .ref (a 39), .ref (a 40), .ref (a 41), .ref (a 42), .ref (a 43), .ref (a 44), .ref (a 45), .ref (a 46), .ref (a 47), .long 1, .long 0, .long 0, .int 0, .int (-1)])), ((a 1), f_net a), ((a 2), f_book a)]) (va_A [((a 4), f_words a), ((a 47), .inl (g 0, 256, .inl (fun _ => 0))), ((a 1), f_net a), ((a 2), f_book a)] sz)) 0 0 (va_A [((a 4), f_words a), ((a 47), .inl (g 0, 256, .inl (fun _ => 0))), ((a 1), f_net a), ((a 2), f_book a)] sz) := by
  refine met0 (cc := cX10_countAllWays) (n := 3) (by decide) (Nat.le_of_ble_eq_true rfl) ?_
  intro p e s m args below meth c hx hb hr hml hown ht hlocks hnm hP0 hD0 hK hZ hsz hz ls hl
  subst hsz
  have hA : ∀ q : Nat, s.heap.size ≤ q → va_A [((a 4), f_words a), ((a 47), .inl (g 0, 256, .inl (fun _ => 0))), ((a 1), f_net a), ((a 2), f_book a)] s.heap.size q := Anw
  have hAz : ∀ q, va_A [((a 4), f_words a), ((a 47), .inl (g 0, 256, .inl (fun _ => 0))), ((a 1), f_net a), ((a 2), f_book a)] s.heap.size q → z0 ≤ q := Awz hz hD0
  have hS : va_S (va_A [((a 4), f_words a), ((a 47), .inl (g 0, 256, .inl (fun _ => 0))), ((a 1), f_net a), ((a 2), f_book a)] s.heap.size) s.heap s.heap [] := va_S.rf
  have hD : va_D (va_A [((a 4), f_words a), ((a 47), .inl (g 0, 256, .inl (fun _ => 0))), ((a 1), f_net a), ((a 2), f_book a)] s.heap.size) [((a 4), f_words a), ((a 47), .inl (g 0, 256, .inl (fun _ => 0))), ((a 1), f_net a), ((a 2), f_book a)] := hD0.self
  have hP : va_P D vwCl [((a 4), f_words a), ((a 47), .inl (g 0, 256, .inl (fun _ => 0))), ((a 1), f_net a), ((a 2), f_book a)] s.heap := hP0
  have hl : lv_has ls 3 [(0, .ref (a 4))] := hl
  refine lv_aload_n hx hb dX10_countAllWays_0 rfl (lv_at hl 0 rfl) ?_
  refine va_get (D := D) (ci := 16) (v := .ref (a 47)) (C := RX10) (T := TX10) (N := 17) hx hb ht in_X10 hown hK.1 hP 0 rfl rfl 11 (by decide) (ht _ w_195) (fun _ h9 => h9) rfl dX10_countAllWays_1 ?_
  refine lv_iconst (v := 0) hx hb dX10_countAllWays_4 (by decide) ?_
  have hPc : va_P D vwCl [((a 47), .inl (g 0, 256, .inl (fun _ => 0)))] _ := hP.sub (ws' := [((a 47), .inl (g 0, 256, .inl (fun _ => 0)))]) [1] rfl
  have hDc : va_D (fun q => z0 ≤ q) [((a 47), .inl (g 0, 256, .inl (fun _ => 0)))] := (hD.to hAz).pick (ws' := [((a 47), .inl (g 0, 256, .inl (fun _ => 0)))]) [1] (by decide) rfl
  have hFc := va_free (wc := [((a 47), .inl (g 0, 256, .inl (fun _ => 0)))]) hD hS hA [1] rfl
  refine va_callv (va_runS (As := [.ref (a 47), .int 0]) (rest := []) ⟨hx, hb, hml, hown, ht⟩ (k_fillI l D g z0 _ (a 47) 256 (fun _ => 0) 0 (by decide)) (va_cwS 2 ht (gS w_196 w_61 w_8 w_60) rfl rfl rfl (by decide +kernel) (le2 rfl rfl)) ⟨PP.blind, PP.mk' hK hZ hz hAz hS hPc hDc⟩ rfl rfl hl.1 rfl (lv_room (Nat.le_of_ble_eq_true rfl)) dX10_countAllWays_5 (le2 rfl rfl)) hS (fun q _ h => hFc q h) hFc (fun u t H locs ht1 hvm hw hB hz1 hk1 hS => ?_)
  obtain ⟨hP1, hD1⟩ := hB
  rw [ht1] at hP1
  obtain ⟨hP, hD⟩ := va_join (wr := [((a 4), f_words a), ((a 1), f_net a), ((a 2), f_book a)]) (w1 := [((a 47), .inl (g 0, 256, .inl (fun _ => 0)))]) hP hD [1] [0, 2, 3] rfl rfl (by decide) (by decide) hk1 hFc hP1 hD1
  have hP : va_P D vwCl [((a 4), f_words a), ((a 1), f_net a), ((a 2), f_book a), ((a 47), .inl (g 0, 256, .inl (fun _ => 0)))] H := hP
  have hD : va_D (va_A [((a 4), f_words a), ((a 47), .inl (g 0, 256, .inl (fun _ => 0))), ((a 1), f_net a), ((a 2), f_book a)] s.heap.size) [((a 4), f_words a), ((a 1), f_net a), ((a 2), f_book a), ((a 47), .inl (g 0, 256, .inl (fun _ => 0)))] := hD
  refine lv_iconst (v := 0) hx hb dX10_countAllWays_8 (by decide) ?_
  refine lv_istore_n (lv' := [(1, .int 0), (0, .ref (a 4))]) hx hb dX10_countAllWays_9 rfl hl (by decide) rfl (fun ls hl => ?_)
  refine lv_iload_n hx hb dX10_countAllWays_10 rfl (lv_at hl 0 rfl) ?_
  refine lv_aload_n hx hb dX10_countAllWays_11 rfl (lv_at hl 1 rfl) ?_
  have hPc : va_P D vwCl [((a 4), f_words a), ((a 1), f_net a)] _ := hP.sub (ws' := [((a 4), f_words a), ((a 1), f_net a)]) [0, 1] rfl
  have hDc : va_D (fun q => z0 ≤ q) [((a 4), f_words a), ((a 1), f_net a)] := (hD.to hAz).pick (ws' := [((a 4), f_words a), ((a 1), f_net a)]) [0, 1] (by decide) rfl
  have hFc := AnA (ws := [((a 4), f_words a), ((a 47), .inl (g 0, 256, .inl (fun _ => 0))), ((a 1), f_net a), ((a 2), f_book a)]) hS.1
  refine va_calli (va_runV (As := []) (rest := [.int 0]) ⟨hx, hb, hml, hown, ht⟩ (k_X10_wordsOfWays l D g z0 _ a) (cwV 0 ht (gV w_198 w_200 w_201 w_14 w_199) rfl rfl rfl (by decide +kernel) (le2 rfl rfl)) ⟨PP.blind, va_recv hK.1 hP (ci := 16) (q0 := 0) rfl rfl, PP.mk' hK hZ hz hAz hS hPc hDc⟩ rfl rfl hl.1 rfl (lv_room (Nat.le_of_ble_eq_true rfl)) dX10_countAllWays_12 (le2 rfl rfl)) hS (fun q _ h => hFc q h) hFc (fun r u t H locs ht1 hvm hw hB hz1 hk1 hS => ?_)
  obtain ⟨rfl, hw⟩ := hw
  have hP := ro1 hP hk1
  refine lv_icmp_ge (tgt := 80) hx hb dX10_countAllWays_15 (by decide) (fun c_1 => ?_) (fun c_1 => ?_)
  · exact absurd c_1 (by decide)
  · refine lv_aload_n hx hb dX10_countAllWays_18 rfl (lv_at hl 1 rfl) ?_
    refine lv_iload_n hx hb dX10_countAllWays_19 rfl (lv_at hl 0 rfl) ?_
    have hPc : va_P D vwCl [((a 4), f_words a), ((a 1), f_net a)] _ := hP.sub (ws' := [((a 4), f_words a), ((a 1), f_net a)]) [0, 1] rfl
    have hDc : va_D (fun q => z0 ≤ q) [((a 4), f_words a), ((a 1), f_net a)] := (hD.to hAz).pick (ws' := [((a 4), f_words a), ((a 1), f_net a)]) [0, 1] (by decide) rfl
    have hFc := va_free (wc := [((a 4), f_words a), ((a 1), f_net a)]) hD hS hA [0, 1] rfl
    refine va_callv (va_runV (As := [.int 0]) (rest := []) ⟨hx, hb, hml, hown, ht⟩ (k_X10_loadWays l D g z0 _ a) (cwV 1 ht (gV w_202 w_204 w_205 w_14 w_203) rfl rfl rfl (by decide +kernel) (le2 rfl rfl)) ⟨PP.blind, va_recv hK.1 hP (ci := 16) (q0 := 0) rfl rfl, PP.mk' hK hZ hz hAz hS hPc hDc⟩ rfl rfl hl.1 rfl (lv_room (Nat.le_of_ble_eq_true rfl)) dX10_countAllWays_20 (le2 rfl rfl)) hS (fun q _ h => hFc q h) hFc (fun u t H locs ht1 hvm hw hB hz1 hk1 hS => ?_)
    obtain ⟨hP1, hD1⟩ := hB
    rw [ht1] at hP1
    obtain ⟨hP, hD⟩ := va_join (wr := [((a 2), f_book a), ((a 47), .inl (g 0, 256, .inl (fun _ => 0)))]) (w1 := [((a 4), .inr (16, [.ref (a 1), .ref (a 2), .ref (a 38), .ref (a 39), .ref (a 40), .ref (a 41), .ref (a 42), .ref (a 43), .ref (a 44), .ref (a 45), .ref (a 46), .ref (a 47), .long 1, .long 0, .long 0, .int 0, .int (-1)])), ((a 1), f_net a)]) hP hD [0, 1] [2, 3] rfl rfl (by decide) (by decide) hk1 hFc hP1 hD1
    have hP : va_P D vwCl [((a 2), f_book a), ((a 47), .inl (g 0, 256, .inl (fun _ => 0))), ((a 4), .inr (16, [.ref (a 1), .ref (a 2), .ref (a 38), .ref (a 39), .ref (a 40), .ref (a 41), .ref (a 42), .ref (a 43), .ref (a 44), .ref (a 45), .ref (a 46), .ref (a 47), .long 1, .long 0, .long 0, .int 0, .int (-1)])), ((a 1), f_net a)] H := hP
    have hD : va_D (va_A [((a 4), f_words a), ((a 47), .inl (g 0, 256, .inl (fun _ => 0))), ((a 1), f_net a), ((a 2), f_book a)] s.heap.size) [((a 2), f_book a), ((a 47), .inl (g 0, 256, .inl (fun _ => 0))), ((a 4), .inr (16, [.ref (a 1), .ref (a 2), .ref (a 38), .ref (a 39), .ref (a 40), .ref (a 41), .ref (a 42), .ref (a 43), .ref (a 44), .ref (a 45), .ref (a 46), .ref (a 47), .long 1, .long 0, .long 0, .int 0, .int (-1)])), ((a 1), f_net a)] := hD
    refine lv_aload_n hx hb dX10_countAllWays_23 rfl (lv_at hl 1 rfl) ?_
    have hPc : va_P D vwCl [((a 4), .inr (16, [.ref (a 1), .ref (a 2), .ref (a 38), .ref (a 39), .ref (a 40), .ref (a 41), .ref (a 42), .ref (a 43), .ref (a 44), .ref (a 45), .ref (a 46), .ref (a 47), .long 1, .long 0, .long 0, .int 0, .int (-1)])), ((a 1), f_net a)] _ := hP.sub (ws' := [((a 4), .inr (16, [.ref (a 1), .ref (a 2), .ref (a 38), .ref (a 39), .ref (a 40), .ref (a 41), .ref (a 42), .ref (a 43), .ref (a 44), .ref (a 45), .ref (a 46), .ref (a 47), .long 1, .long 0, .long 0, .int 0, .int (-1)])), ((a 1), f_net a)]) [2, 3] rfl
    have hDc : va_D (fun q => z0 ≤ q) [((a 4), .inr (16, [.ref (a 1), .ref (a 2), .ref (a 38), .ref (a 39), .ref (a 40), .ref (a 41), .ref (a 42), .ref (a 43), .ref (a 44), .ref (a 45), .ref (a 46), .ref (a 47), .long 1, .long 0, .long 0, .int 0, .int (-1)])), ((a 1), f_net a)] := (hD.to hAz).pick (ws' := [((a 4), .inr (16, [.ref (a 1), .ref (a 2), .ref (a 38), .ref (a 39), .ref (a 40), .ref (a 41), .ref (a 42), .ref (a 43), .ref (a 44), .ref (a 45), .ref (a 46), .ref (a 47), .long 1, .long 0, .long 0, .int 0, .int (-1)])), ((a 1), f_net a)]) [2, 3] (by decide) rfl
    have hFc := va_free (wc := [((a 4), .inr (16, [.ref (a 1), .ref (a 2), .ref (a 38), .ref (a 39), .ref (a 40), .ref (a 41), .ref (a 42), .ref (a 43), .ref (a 44), .ref (a 45), .ref (a 46), .ref (a 47), .long 1, .long 0, .long 0, .int 0, .int (-1)])), ((a 1), f_net a)]) hD hS hA [2, 3] rfl
    refine va_callv (va_runV (As := []) (rest := []) ⟨hx, hb, hml, hown, ht⟩ (k_X10_runGood_v1 l D g z0 _ a) (cwV 0 ht (gV w_170 w_24 w_25 w_14 w_23) rfl rfl rfl (by decide +kernel) (le2 rfl rfl)) ⟨PP.blind, va_recv hK.1 hP (ci := 16) (q0 := 2) rfl rfl, PP.mk' hK hZ hz hAz hS hPc hDc⟩ rfl rfl hl.1 rfl (lv_room (Nat.le_of_ble_eq_true rfl)) dX10_countAllWays_24 (le2 rfl rfl)) hS (fun q _ h => hFc q h) hFc (fun u t H locs ht1 hvm hw hB hz1 hk1 hS => ?_)
    obtain ⟨hP1, hD1⟩ := hB
    rw [ht1] at hP1
    obtain ⟨hP, hD⟩ := va_join (wr := [((a 2), f_book a), ((a 47), .inl (g 0, 256, .inl (fun _ => 0)))]) (w1 := [((a 4), .inr (16, [.ref (a 1), .ref (a 2), .ref (a 38), .ref (a 39), .ref (a 40), .ref (a 41), .ref (a 42), .ref (a 43), .ref (a 44), .ref (a 45), .ref (a 46), .ref (a 47), .long 1, .long 0, .long 0, .int 0, .int (-1)])), ((a 1), f_net a)]) hP hD [2, 3] [0, 1] rfl rfl (by decide) (by decide) hk1 hFc hP1 hD1
    have hP : va_P D vwCl [((a 2), f_book a), ((a 47), .inl (g 0, 256, .inl (fun _ => 0))), ((a 4), .inr (16, [.ref (a 1), .ref (a 2), .ref (a 38), .ref (a 39), .ref (a 40), .ref (a 41), .ref (a 42), .ref (a 43), .ref (a 44), .ref (a 45), .ref (a 46), .ref (a 47), .long 1, .long 0, .long 0, .int 0, .int (-1)])), ((a 1), f_net a)] H := hP
    have hD : va_D (va_A [((a 4), f_words a), ((a 47), .inl (g 0, 256, .inl (fun _ => 0))), ((a 1), f_net a), ((a 2), f_book a)] s.heap.size) [((a 2), f_book a), ((a 47), .inl (g 0, 256, .inl (fun _ => 0))), ((a 4), .inr (16, [.ref (a 1), .ref (a 2), .ref (a 38), .ref (a 39), .ref (a 40), .ref (a 41), .ref (a 42), .ref (a 43), .ref (a 44), .ref (a 45), .ref (a 46), .ref (a 47), .long 1, .long 0, .long 0, .int 0, .int (-1)])), ((a 1), f_net a)] := hD
    refine lv_iconst (v := 0) hx hb dX10_countAllWays_27 (by decide) ?_
    refine lv_istore_n (lv' := [(2, .int 0), (1, .int 0), (0, .ref (a 4))]) hx hb dX10_countAllWays_28 rfl hl (by decide) rfl (fun ls hl => ?_)
    refine lv_iload_n hx hb dX10_countAllWays_29 rfl (lv_at hl 0 rfl) ?_
    refine lv_aload_n hx hb dX10_countAllWays_30 rfl (lv_at hl 2 rfl) ?_
    refine va_get (D := D) (ci := 16) (v := .ref (a 2)) (C := RX10) (T := TX10) (N := 17) hx hb ht in_X10 hown hK.1 hP 2 rfl rfl 1 (by decide) (ht _ w_171) (fun _ h9 => h9) rfl dX10_countAllWays_31 ?_
    refine va_get (D := D) (ci := 9) (v := .int 0) (C := RX3) (T := TX3) (N := 14) hx hb ht in_X3 hown hK.1 hP 0 rfl rfl 11 (by decide) (ht _ w_206) (fun _ h9 => h9) rfl dX10_countAllWays_34 ?_
    refine lv_icmp_ge (tgt := 74) hx hb dX10_countAllWays_37 (by decide) (fun c_2 => ?_) (fun c_2 => ?_)
    · refine lv_iinc (v := 1) (lv' := [(1, .int 1), (2, .int 0), (0, .ref (a 4))]) hx hb dX10_countAllWays_74 hl (k := 1) rfl (by decide) (by decide) rfl (fun ls hl => ?_)
      refine lv_goto (tgt := 10) hx hb dX10_countAllWays_77 (by decide) ?_
      refine lv_iload_n hx hb dX10_countAllWays_10 rfl (lv_at hl 0 rfl) ?_
      refine lv_aload_n hx hb dX10_countAllWays_11 rfl (lv_at hl 2 rfl) ?_
      have hPc : va_P D vwCl [((a 4), .inr (16, [.ref (a 1), .ref (a 2), .ref (a 38), .ref (a 39), .ref (a 40), .ref (a 41), .ref (a 42), .ref (a 43), .ref (a 44), .ref (a 45), .ref (a 46), .ref (a 47), .long 1, .long 0, .long 0, .int 0, .int (-1)])), ((a 1), f_net a)] _ := hP.sub (ws' := [((a 4), .inr (16, [.ref (a 1), .ref (a 2), .ref (a 38), .ref (a 39), .ref (a 40), .ref (a 41), .ref (a 42), .ref (a 43), .ref (a 44), .ref (a 45), .ref (a 46), .ref (a 47), .long 1, .long 0, .long 0, .int 0, .int (-1)])), ((a 1), f_net a)]) [2, 3] rfl
      have hDc : va_D (fun q => z0 ≤ q) [((a 4), .inr (16, [.ref (a 1), .ref (a 2), .ref (a 38), .ref (a 39), .ref (a 40), .ref (a 41), .ref (a 42), .ref (a 43), .ref (a 44), .ref (a 45), .ref (a 46), .ref (a 47), .long 1, .long 0, .long 0, .int 0, .int (-1)])), ((a 1), f_net a)] := (hD.to hAz).pick (ws' := [((a 4), .inr (16, [.ref (a 1), .ref (a 2), .ref (a 38), .ref (a 39), .ref (a 40), .ref (a 41), .ref (a 42), .ref (a 43), .ref (a 44), .ref (a 45), .ref (a 46), .ref (a 47), .long 1, .long 0, .long 0, .int 0, .int (-1)])), ((a 1), f_net a)]) [2, 3] (by decide) rfl
      have hFc := AnA (ws := [((a 4), f_words a), ((a 47), .inl (g 0, 256, .inl (fun _ => 0))), ((a 1), f_net a), ((a 2), f_book a)]) hS.1
      refine va_calli (va_runV (As := []) (rest := [.int 1]) ⟨hx, hb, hml, hown, ht⟩ (k_X10_wordsOfWays_v1 l D g z0 _ a) (cwV 0 ht (gV w_198 w_200 w_201 w_14 w_199) rfl rfl rfl (by decide +kernel) (le2 rfl rfl)) ⟨PP.blind, va_recv hK.1 hP (ci := 16) (q0 := 2) rfl rfl, PP.mk' hK hZ hz hAz hS hPc hDc⟩ rfl rfl hl.1 rfl (lv_room (Nat.le_of_ble_eq_true rfl)) dX10_countAllWays_12 (le2 rfl rfl)) hS (fun q _ h => hFc q h) hFc (fun r u t H locs ht1 hvm hw hB hz1 hk1 hS => ?_)
      obtain ⟨rfl, hw⟩ := hw
      have hP := ro1 hP hk1
      refine lv_icmp_ge (tgt := 80) hx hb dX10_countAllWays_15 (by decide) (fun c_3 => ?_) (fun c_3 => ?_)
      · have hP9 := hP.sub (ws' := [((a 47), .inl (g 0, 256, .inl (fun _ => 0))), ((a 4), .inr (16, [.ref (a 1), .ref (a 2), .ref (a 38), .ref (a 39), .ref (a 40), .ref (a 41), .ref (a 42), .ref (a 43), .ref (a 44), .ref (a 45), .ref (a 46), .ref (a 47), .long 1, .long 0, .long 0, .int 0, .int (-1)])), ((a 1), f_net a), ((a 2), f_book a)]) [1, 2, 3, 0] rfl
        have hD9 := hD.sub (ws' := [((a 47), .inl (g 0, 256, .inl (fun _ => 0))), ((a 4), .inr (16, [.ref (a 1), .ref (a 2), .ref (a 38), .ref (a 39), .ref (a 40), .ref (a 41), .ref (a 42), .ref (a 43), .ref (a 44), .ref (a 45), .ref (a 46), .ref (a 47), .long 1, .long 0, .long 0, .int 0, .int (-1)])), ((a 1), f_net a), ((a 2), f_book a)]) [1, 2, 3, 0] (by decide) rfl
        refine W.widen (k := 0) (n := 0) (Nat.le_of_ble_eq_true rfl) (Nat.le_of_ble_eq_true rfl) ?_
        exact W.vret hx hb hr (fun t ht9 hW9 => ⟨⟨(), rfl, trivial, ⟨(by rw [ht9]; exact hP9), hD9⟩⟩, hS.F ht9⟩) hS.2.2 dX10_countAllWays_80 hlocks
      · exact absurd c_3 (by decide)
    · exact absurd c_2 (by decide)
set_option maxHeartbeats 4000000 in
set_option maxRecDepth 100000 in
theorem k_X11_hardest (l : Launch) (hfl : l.stackTraces = false) (D : va_G) (g : Nat → ClassId) (z0 sz : Nat) (a : Nat → Nat) : vx_Met l yX11_hardest (.code yX11_hardest cX11_hardest 4 (some .int) :: TG) (rmk 6 1 6 81) (va_Pc [.ref (a 0)] (PP D g z0 sz [((a 0), f_x a), ((a 4), f_words a), ((a 47), .inl (g 0, 256, .inl (fun _ => 0))), ((a 1), f_net a), ((a 2), f_book a)])) (va_Qi (fun (r : Int32) (u : Unit) => False) (fun (_ : Unit) (_ : State) => True) (va_A [((a 0), f_x a), ((a 4), f_words a), ((a 47), .inl (g 0, 256, .inl (fun _ => 0))), ((a 1), f_net a), ((a 2), f_book a)] sz)) (vx_X (fun _ : Unit => True) (fun E _ _ => (E = "java/util/NoSuchElementException" ∧ True)) (va_A [((a 0), f_x a), ((a 4), f_words a), ((a 47), .inl (g 0, 256, .inl (fun _ => 0))), ((a 1), f_net a), ((a 2), f_book a)] sz)) 1 6 (va_A [((a 0), f_x a), ((a 4), f_words a), ((a 47), .inl (g 0, 256, .inl (fun _ => 0))), ((a 1), f_net a), ((a 2), f_book a)] sz) := by
  refine vxm0 (cc := cX11_hardest) (n := 4) (by decide) (Nat.le_of_ble_eq_true rfl) ?_
  intro p e s m args below meth c hx hb hr hml htab hown ht hlocks hnm hP0 hD0 hK hZ hsz hz ls hl
  subst hsz
  have hA : ∀ q : Nat, s.heap.size ≤ q → va_A [((a 0), f_x a), ((a 4), f_words a), ((a 47), .inl (g 0, 256, .inl (fun _ => 0))), ((a 1), f_net a), ((a 2), f_book a)] s.heap.size q := Anw
  have hAz : ∀ q, va_A [((a 0), f_x a), ((a 4), f_words a), ((a 47), .inl (g 0, 256, .inl (fun _ => 0))), ((a 1), f_net a), ((a 2), f_book a)] s.heap.size q → z0 ≤ q := Awz hz hD0
  have hS : va_S (va_A [((a 0), f_x a), ((a 4), f_words a), ((a 47), .inl (g 0, 256, .inl (fun _ => 0))), ((a 1), f_net a), ((a 2), f_book a)] s.heap.size) s.heap s.heap [] := va_S.rf
  have hD : va_D (va_A [((a 0), f_x a), ((a 4), f_words a), ((a 47), .inl (g 0, 256, .inl (fun _ => 0))), ((a 1), f_net a), ((a 2), f_book a)] s.heap.size) [((a 0), f_x a), ((a 4), f_words a), ((a 47), .inl (g 0, 256, .inl (fun _ => 0))), ((a 1), f_net a), ((a 2), f_book a)] := hD0.self
  have hP : va_P D vwCl [((a 0), f_x a), ((a 4), f_words a), ((a 47), .inl (g 0, 256, .inl (fun _ => 0))), ((a 1), f_net a), ((a 2), f_book a)] s.heap := hP0
  have hl : lv_has ls 4 [(0, .ref (a 0))] := hl
  refine lv_aload_n hx hb dX11_hardest_0 rfl (lv_at hl 0 rfl) ?_
  refine va_get (D := D) (ci := 17) (v := .ref (a 4)) (C := RX11) (T := TX11) (N := 11) hx hb ht in_X11 hown hK.1 hP 0 rfl rfl 3 (by decide) (ht _ w_0) (fun _ h9 => h9) rfl dX11_hardest_1 ?_
  have hPc : va_P D vwCl [((a 4), f_words a), ((a 47), .inl (g 0, 256, .inl (fun _ => 0))), ((a 1), f_net a), ((a 2), f_book a)] _ := hP.sub (ws' := [((a 4), f_words a), ((a 47), .inl (g 0, 256, .inl (fun _ => 0))), ((a 1), f_net a), ((a 2), f_book a)]) [1, 2, 3, 4] rfl
  have hDc : va_D (fun q => z0 ≤ q) [((a 4), f_words a), ((a 47), .inl (g 0, 256, .inl (fun _ => 0))), ((a 1), f_net a), ((a 2), f_book a)] := (hD.to hAz).pick (ws' := [((a 4), f_words a), ((a 47), .inl (g 0, 256, .inl (fun _ => 0))), ((a 1), f_net a), ((a 2), f_book a)]) [1, 2, 3, 4] (by decide) rfl
  have hFc := va_free (wc := [((a 4), f_words a), ((a 47), .inl (g 0, 256, .inl (fun _ => 0))), ((a 1), f_net a), ((a 2), f_book a)]) hD hS hA [1, 2, 3, 4] rfl
  refine va_callv (va_runV (As := []) (rest := []) ⟨hx, hb, hml, hown, ht⟩ (k_X10_countAllWays l D g z0 _ a) (cwV 0 ht (gV w_207 w_209 w_210 w_14 w_208) rfl rfl rfl (by decide +kernel) (le2 rfl rfl)) ⟨PP.blind, va_recv hK.1 hP (ci := 16) (q0 := 1) rfl rfl, PP.mk' hK hZ hz hAz hS hPc hDc⟩ rfl rfl hl.1 rfl (lv_room (Nat.le_of_ble_eq_true rfl)) dX11_hardest_4 (le2 rfl rfl)) hS (fun q _ h => hFc q h) hFc (fun u t H locs ht1 hvm hw hB hz1 hk1 hS => ?_)
  obtain ⟨hP1, hD1⟩ := hB
  rw [ht1] at hP1
  obtain ⟨hP, hD⟩ := va_join (wr := [((a 0), f_x a)]) (w1 := [((a 47), .inl (g 0, 256, .inl (fun _ => 0))), ((a 4), .inr (16, [.ref (a 1), .ref (a 2), .ref (a 38), .ref (a 39), .ref (a 40), .ref (a 41), .ref (a 42), .ref (a 43), .ref (a 44), .ref (a 45), .ref (a 46), .ref (a 47), .long 1, .long 0, .long 0, .int 0, .int (-1)])), ((a 1), f_net a), ((a 2), f_book a)]) hP hD [1, 2, 3, 4] [0] rfl rfl (by decide) (by decide) hk1 hFc hP1 hD1
  have hP : va_P D vwCl [((a 0), f_x a), ((a 47), .inl (g 0, 256, .inl (fun _ => 0))), ((a 4), .inr (16, [.ref (a 1), .ref (a 2), .ref (a 38), .ref (a 39), .ref (a 40), .ref (a 41), .ref (a 42), .ref (a 43), .ref (a 44), .ref (a 45), .ref (a 46), .ref (a 47), .long 1, .long 0, .long 0, .int 0, .int (-1)])), ((a 1), f_net a), ((a 2), f_book a)] H := hP
  have hD : va_D (va_A [((a 0), f_x a), ((a 4), f_words a), ((a 47), .inl (g 0, 256, .inl (fun _ => 0))), ((a 1), f_net a), ((a 2), f_book a)] s.heap.size) [((a 0), f_x a), ((a 47), .inl (g 0, 256, .inl (fun _ => 0))), ((a 4), .inr (16, [.ref (a 1), .ref (a 2), .ref (a 38), .ref (a 39), .ref (a 40), .ref (a 41), .ref (a 42), .ref (a 43), .ref (a 44), .ref (a 45), .ref (a 46), .ref (a 47), .long 1, .long 0, .long 0, .int 0, .int (-1)])), ((a 1), f_net a), ((a 2), f_book a)] := hD
  refine lv_iconst (v := (-1)) hx hb dX11_hardest_7 (by decide) ?_
  refine lv_istore_n (lv' := [(1, .int (-1)), (0, .ref (a 0))]) hx hb dX11_hardest_8 rfl hl (by decide) rfl (fun ls hl => ?_)
  refine lv_iconst (v := 0) hx hb dX11_hardest_9 (by decide) ?_
  refine lv_istore_n (lv' := [(2, .int 0), (1, .int (-1)), (0, .ref (a 0))]) hx hb dX11_hardest_10 rfl hl (by decide) rfl (fun ls hl => ?_)
  refine lv_iload_n hx hb dX11_hardest_11 rfl (lv_at hl 0 rfl) ?_
  refine lv_aload_n hx hb dX11_hardest_12 rfl (lv_at hl 2 rfl) ?_
  refine va_get (D := D) (ci := 17) (v := .ref (a 2)) (C := RX11) (T := TX11) (N := 11) hx hb ht in_X11 hown hK.1 hP 0 rfl rfl 1 (by decide) (ht _ w_32) (fun _ h9 => h9) rfl dX11_hardest_13 ?_
  refine va_get (D := D) (ci := 9) (v := .int 0) (C := RX3) (T := TX3) (N := 14) hx hb ht in_X3 hown hK.1 hP 4 rfl rfl 11 (by decide) (ht _ w_33) (fun _ h9 => h9) rfl dX11_hardest_16 ?_
  refine lv_icmp_ge (tgt := 88) hx hb dX11_hardest_19 (by decide) (fun c_1 => ?_) (fun c_1 => ?_)
  · refine lv_iload_n hx hb dX11_hardest_88 rfl (lv_at hl 1 rfl) ?_
    refine lv_if_ge (tgt := 100) hx hb dX11_hardest_89 (by decide) (fun c_2 => ?_) (fun c_2 => ?_)
    · exact absurd c_2 (by decide)
    · exact thr0 hx hb hfl hown ht hK.2.2 hZ hAz hS hl hml htab hlocks (by decide +kernel) w_119 w_120 at_X11_312 dX11_hardest_92 dX11_hardest_95 dX11_hardest_96 dX11_hardest_99 rfl rfl rfl rfl (fun t _ hF => ⟨(), trivial, ⟨rfl, trivial⟩, hF⟩) (fun _ h => h) rfl rfl
  · exact absurd c_1 (by decide)
set_option maxHeartbeats 4000000 in
set_option maxRecDepth 100000 in
theorem k_X6_addSource_v1 (l : Launch) (D : va_G) (g : Nat → ClassId) (z0 sz : Nat) (a : Nat → Nat) : Met l yX6_addSource (.code yX6_addSource cX6_addSource 3 (some .int) :: TG) (rmk 0 0 0 0) (va_Pc [.ref (a 1), .int 0] (PP D g z0 sz [((a 1), f_net a), ((a 12), .inl (g 2, 40, .inl (fun _ => 0))), ((a 19), .inl (g 1, 40, .inr (.inl (fun _ => 0)))), ((a 18), .inl (g 0, 40, .inl (fun _ => (-1))))])) (va_Qi (fun (r : Int32) (u : Unit) => (r = 0) ∧ True) (fun (u : Unit) (t : State) => va_P D vwCl [((a 1), .inr (12, [.ref (a 12), .ref (a 13), .ref (a 14), .ref (a 15), .ref (a 16), .ref (a 17), .ref (a 18), .ref (a 19), .ref (a 20), .ref (a 21), .ref (a 22), .ref (a 23), .int 1, .int 1, .int 0, .int 0, .int 0, .int 0])), ((a 12), .inl (g 2, 40, .inl (upd (fun _ => 0) (0 : Int32).toNatClampNeg (vp_nar .char 105)))), ((a 19), .inl (g 1, 40, .inr (.inl (vp_updL (fun _ => 0) (0 : Int32).toNatClampNeg 1)))), ((a 18), .inl (g 0, 40, .inl (upd (fun _ => (-1)) (0 : Int32).toNatClampNeg 0)))] t.heap ∧ va_D (va_A [((a 1), f_net a), ((a 12), .inl (g 2, 40, .inl (fun _ => 0))), ((a 19), .inl (g 1, 40, .inr (.inl (fun _ => 0)))), ((a 18), .inl (g 0, 40, .inl (fun _ => (-1))))] sz) [((a 1), .inr (12, [.ref (a 12), .ref (a 13), .ref (a 14), .ref (a 15), .ref (a 16), .ref (a 17), .ref (a 18), .ref (a 19), .ref (a 20), .ref (a 21), .ref (a 22), .ref (a 23), .int 1, .int 1, .int 0, .int 0, .int 0, .int 0])), ((a 12), .inl (g 2, 40, .inl (upd (fun _ => 0) (0 : Int32).toNatClampNeg (vp_nar .char 105)))), ((a 19), .inl (g 1, 40, .inr (.inl (vp_updL (fun _ => 0) (0 : Int32).toNatClampNeg 1)))), ((a 18), .inl (g 0, 40, .inl (upd (fun _ => (-1)) (0 : Int32).toNatClampNeg 0)))]) (va_A [((a 1), f_net a), ((a 12), .inl (g 2, 40, .inl (fun _ => 0))), ((a 19), .inl (g 1, 40, .inr (.inl (fun _ => 0)))), ((a 18), .inl (g 0, 40, .inl (fun _ => (-1))))] sz)) 0 0 (va_A [((a 1), f_net a), ((a 12), .inl (g 2, 40, .inl (fun _ => 0))), ((a 19), .inl (g 1, 40, .inr (.inl (fun _ => 0)))), ((a 18), .inl (g 0, 40, .inl (fun _ => (-1))))] sz) := by
  refine met0 (cc := cX6_addSource) (n := 3) (by decide) (Nat.le_of_ble_eq_true rfl) ?_
  intro p e s m args below meth c hx hb hr hml hown ht hlocks hnm hP0 hD0 hK hZ hsz hz ls hl
  subst hsz
  have hA : ∀ q : Nat, s.heap.size ≤ q → va_A [((a 1), f_net a), ((a 12), .inl (g 2, 40, .inl (fun _ => 0))), ((a 19), .inl (g 1, 40, .inr (.inl (fun _ => 0)))), ((a 18), .inl (g 0, 40, .inl (fun _ => (-1))))] s.heap.size q := Anw
  have hAz : ∀ q, va_A [((a 1), f_net a), ((a 12), .inl (g 2, 40, .inl (fun _ => 0))), ((a 19), .inl (g 1, 40, .inr (.inl (fun _ => 0)))), ((a 18), .inl (g 0, 40, .inl (fun _ => (-1))))] s.heap.size q → z0 ≤ q := Awz hz hD0
  have hS : va_S (va_A [((a 1), f_net a), ((a 12), .inl (g 2, 40, .inl (fun _ => 0))), ((a 19), .inl (g 1, 40, .inr (.inl (fun _ => 0)))), ((a 18), .inl (g 0, 40, .inl (fun _ => (-1))))] s.heap.size) s.heap s.heap [] := va_S.rf
  have hD : va_D (va_A [((a 1), f_net a), ((a 12), .inl (g 2, 40, .inl (fun _ => 0))), ((a 19), .inl (g 1, 40, .inr (.inl (fun _ => 0)))), ((a 18), .inl (g 0, 40, .inl (fun _ => (-1))))] s.heap.size) [((a 1), f_net a), ((a 12), .inl (g 2, 40, .inl (fun _ => 0))), ((a 19), .inl (g 1, 40, .inr (.inl (fun _ => 0)))), ((a 18), .inl (g 0, 40, .inl (fun _ => (-1))))] := hD0.self
  have hP : va_P D vwCl [((a 1), f_net a), ((a 12), .inl (g 2, 40, .inl (fun _ => 0))), ((a 19), .inl (g 1, 40, .inr (.inl (fun _ => 0)))), ((a 18), .inl (g 0, 40, .inl (fun _ => (-1))))] s.heap := hP0
  have hl : lv_has ls 3 [(0, .ref (a 1)), (1, .int 0)] := hl
  refine lv_aload_n hx hb dX6_addSource_0 rfl (lv_at hl 0 rfl) ?_
  refine va_get (D := D) (ci := 12) (v := .int 0) (C := RX6) (T := TX6) (N := 18) hx hb ht in_X6 hown hK.1 hP 0 rfl rfl 12 (by decide) (ht _ w_126) (fun _ h9 => h9) rfl dX6_addSource_1 ?_
  refine lv_istore_n (lv' := [(2, .int 0), (0, .ref (a 1)), (1, .int 0)]) hx hb dX6_addSource_4 rfl hl (by decide) rfl (fun ls hl => ?_)
  refine lv_aload_n hx hb dX6_addSource_5 rfl (lv_at hl 1 rfl) ?_
  refine va_get (D := D) (ci := 12) (v := .ref (a 12)) (C := RX6) (T := TX6) (N := 18) hx hb ht in_X6 hown hK.1 hP 0 rfl rfl 0 (by decide) (ht _ w_127) (fun _ h9 => h9) rfl dX6_addSource_6 ?_
  refine lv_iload_n hx hb dX6_addSource_9 rfl (lv_at hl 0 rfl) ?_
  refine lv_iload_n hx hb dX6_addSource_10 rfl (lv_at hl 2 rfl) ?_
  refine lv_if_eq (tgt := 19) hx hb dX6_addSource_11 (by decide) (fun c_1 => ?_) (fun c_1 => ?_)
  · refine lv_bipush (v := 105) hx hb dX6_addSource_19 (by decide) ?_
    refine va_cast hx hb hK.1 hP hD hS 1 2 rfl rfl (by unfold vp_in; decide) dX6_addSource_21 (fun H locs hP hD hS => ?_)
    have hP : va_P D vwCl [((a 1), f_net a), ((a 12), .inl (g 2, 40, .inl (upd (fun _ => 0) (0 : Int32).toNatClampNeg (vp_nar .char 105)))), ((a 19), .inl (g 1, 40, .inr (.inl (fun _ => 0)))), ((a 18), .inl (g 0, 40, .inl (fun _ => (-1))))] H := hP
    have hD : va_D (va_A [((a 1), f_net a), ((a 12), .inl (g 2, 40, .inl (fun _ => 0))), ((a 19), .inl (g 1, 40, .inr (.inl (fun _ => 0)))), ((a 18), .inl (g 0, 40, .inl (fun _ => (-1))))] s.heap.size) [((a 1), f_net a), ((a 12), .inl (g 2, 40, .inl (upd (fun _ => 0) (0 : Int32).toNatClampNeg (vp_nar .char 105)))), ((a 19), .inl (g 1, 40, .inr (.inl (fun _ => 0)))), ((a 18), .inl (g 0, 40, .inl (fun _ => (-1))))] := hD
    refine lv_aload_n hx hb dX6_addSource_22 rfl (lv_at hl 1 rfl) ?_
    refine va_get (D := D) (ci := 12) (v := .ref (a 19)) (C := RX6) (T := TX6) (N := 18) hx hb ht in_X6 hown hK.1 hP 0 rfl rfl 7 (by decide) (ht _ w_128) (fun _ h9 => h9) rfl dX6_addSource_23 ?_
    refine lv_iload_n hx hb dX6_addSource_26 rfl (lv_at hl 0 rfl) ?_
    refine lv_lconst (v := 1) hx hb dX6_addSource_27 (by decide) ?_
    refine lv_iload_n hx hb dX6_addSource_28 rfl (lv_at hl 0 rfl) ?_
    refine lv_lshl (v := 1) hx hb dX6_addSource_29 (by decide) ?_
    refine va_last hx hb hK.1 hP hD hS 2 1 rfl rfl (by unfold vp_in; decide) dX6_addSource_30 (fun H locs hP hD hS => ?_)
    have hP : va_P D vwCl [((a 1), f_net a), ((a 12), .inl (g 2, 40, .inl (upd (fun _ => 0) (0 : Int32).toNatClampNeg (vp_nar .char 105)))), ((a 19), .inl (g 1, 40, .inr (.inl (vp_updL (fun _ => 0) (0 : Int32).toNatClampNeg 1)))), ((a 18), .inl (g 0, 40, .inl (fun _ => (-1))))] H := hP
    have hD : va_D (va_A [((a 1), f_net a), ((a 12), .inl (g 2, 40, .inl (fun _ => 0))), ((a 19), .inl (g 1, 40, .inr (.inl (fun _ => 0)))), ((a 18), .inl (g 0, 40, .inl (fun _ => (-1))))] s.heap.size) [((a 1), f_net a), ((a 12), .inl (g 2, 40, .inl (upd (fun _ => 0) (0 : Int32).toNatClampNeg (vp_nar .char 105)))), ((a 19), .inl (g 1, 40, .inr (.inl (vp_updL (fun _ => 0) (0 : Int32).toNatClampNeg 1)))), ((a 18), .inl (g 0, 40, .inl (fun _ => (-1))))] := hD
    refine lv_aload_n hx hb dX6_addSource_31 rfl (lv_at hl 1 rfl) ?_
    refine va_get (D := D) (ci := 12) (v := .ref (a 18)) (C := RX6) (T := TX6) (N := 18) hx hb ht in_X6 hown hK.1 hP 0 rfl rfl 6 (by decide) (ht _ w_129) (fun _ h9 => h9) rfl dX6_addSource_32 ?_
    refine lv_iload_n hx hb dX6_addSource_35 rfl (lv_at hl 0 rfl) ?_
    refine lv_aload_n hx hb dX6_addSource_36 rfl (lv_at hl 1 rfl) ?_
    refine va_get (D := D) (ci := 12) (v := .int 0) (C := RX6) (T := TX6) (N := 18) hx hb ht in_X6 hown hK.1 hP 0 rfl rfl 13 (by decide) (ht _ w_130) (fun _ h9 => h9) rfl dX6_addSource_37 ?_
    refine va_iast hx hb hK.1 hP hD hS 3 0 rfl rfl (by unfold vp_in; decide) dX6_addSource_40 (fun H locs hP hD hS => ?_)
    have hP : va_P D vwCl [((a 1), f_net a), ((a 12), .inl (g 2, 40, .inl (upd (fun _ => 0) (0 : Int32).toNatClampNeg (vp_nar .char 105)))), ((a 19), .inl (g 1, 40, .inr (.inl (vp_updL (fun _ => 0) (0 : Int32).toNatClampNeg 1)))), ((a 18), .inl (g 0, 40, .inl (upd (fun _ => (-1)) (0 : Int32).toNatClampNeg 0)))] H := hP
    have hD : va_D (va_A [((a 1), f_net a), ((a 12), .inl (g 2, 40, .inl (fun _ => 0))), ((a 19), .inl (g 1, 40, .inr (.inl (fun _ => 0)))), ((a 18), .inl (g 0, 40, .inl (fun _ => (-1))))] s.heap.size) [((a 1), f_net a), ((a 12), .inl (g 2, 40, .inl (upd (fun _ => 0) (0 : Int32).toNatClampNeg (vp_nar .char 105)))), ((a 19), .inl (g 1, 40, .inr (.inl (vp_updL (fun _ => 0) (0 : Int32).toNatClampNeg 1)))), ((a 18), .inl (g 0, 40, .inl (upd (fun _ => (-1)) (0 : Int32).toNatClampNeg 0)))] := hD
    refine lv_aload_n hx hb dX6_addSource_41 rfl (lv_at hl 1 rfl) ?_
    refine lv_dup hx hb dX6_addSource_42 rfl ?_
    refine va_get (D := D) (ci := 12) (v := .int 0) (C := RX6) (T := TX6) (N := 18) hx hb ht in_X6 hown hK.1 hP 0 rfl rfl 13 (by decide) (ht _ w_130) (fun _ h9 => h9) rfl dX6_addSource_43 ?_
    refine lv_iconst (v := 1) hx hb dX6_addSource_46 (by decide) ?_
    refine lv_iadd hx hb dX6_addSource_47 ?_
    refine r_topi (v := 1) (by decide) ?_
    refine va_put (D := D) (ci := 12) (v := .int 1) (ty := .int) (C := RX6) (T := TX6) (N := 18) hx hb ht in_X6 tyX6 tyX6_ok nmX6 hown hK.1 hP hD hS 0 rfl rfl 13 (by decide) (ht _ w_130) (fun _ h9 => h9) rfl (by decide +kernel) rfl rfl (Nat.le_of_ble_eq_true rfl) dX6_addSource_48 (fun H locs hP hD hS => ?_)
    have hP : va_P D vwCl [((a 1), .inr (12, [.ref (a 12), .ref (a 13), .ref (a 14), .ref (a 15), .ref (a 16), .ref (a 17), .ref (a 18), .ref (a 19), .ref (a 20), .ref (a 21), .ref (a 22), .ref (a 23), .int 0, .int 1, .int 0, .int 0, .int 0, .int 0])), ((a 12), .inl (g 2, 40, .inl (upd (fun _ => 0) (0 : Int32).toNatClampNeg (vp_nar .char 105)))), ((a 19), .inl (g 1, 40, .inr (.inl (vp_updL (fun _ => 0) (0 : Int32).toNatClampNeg 1)))), ((a 18), .inl (g 0, 40, .inl (upd (fun _ => (-1)) (0 : Int32).toNatClampNeg 0)))] H := hP
    have hD : va_D (va_A [((a 1), f_net a), ((a 12), .inl (g 2, 40, .inl (fun _ => 0))), ((a 19), .inl (g 1, 40, .inr (.inl (fun _ => 0)))), ((a 18), .inl (g 0, 40, .inl (fun _ => (-1))))] s.heap.size) [((a 1), .inr (12, [.ref (a 12), .ref (a 13), .ref (a 14), .ref (a 15), .ref (a 16), .ref (a 17), .ref (a 18), .ref (a 19), .ref (a 20), .ref (a 21), .ref (a 22), .ref (a 23), .int 0, .int 1, .int 0, .int 0, .int 0, .int 0])), ((a 12), .inl (g 2, 40, .inl (upd (fun _ => 0) (0 : Int32).toNatClampNeg (vp_nar .char 105)))), ((a 19), .inl (g 1, 40, .inr (.inl (vp_updL (fun _ => 0) (0 : Int32).toNatClampNeg 1)))), ((a 18), .inl (g 0, 40, .inl (upd (fun _ => (-1)) (0 : Int32).toNatClampNeg 0)))] := hD
    refine lv_iload_n hx hb dX6_addSource_51 rfl (lv_at hl 2 rfl) ?_
    refine lv_if_eq (tgt := 75) hx hb dX6_addSource_52 (by decide) (fun c_2 => ?_) (fun c_2 => ?_)
    · refine lv_aload_n hx hb dX6_addSource_75 rfl (lv_at hl 1 rfl) ?_
      refine lv_dup hx hb dX6_addSource_76 rfl ?_
      refine va_get (D := D) (ci := 12) (v := .int 0) (C := RX6) (T := TX6) (N := 18) hx hb ht in_X6 hown hK.1 hP 0 rfl rfl 12 (by decide) (ht _ w_126) (fun _ h9 => h9) rfl dX6_addSource_77 ?_
      refine lv_iconst (v := 1) hx hb dX6_addSource_80 (by decide) ?_
      refine lv_iadd hx hb dX6_addSource_81 ?_
      refine r_topi (v := 1) (by decide) ?_
      refine va_put (D := D) (ci := 12) (v := .int 1) (ty := .int) (C := RX6) (T := TX6) (N := 18) hx hb ht in_X6 tyX6 tyX6_ok nmX6 hown hK.1 hP hD hS 0 rfl rfl 12 (by decide) (ht _ w_126) (fun _ h9 => h9) rfl (by decide +kernel) rfl rfl (Nat.le_of_ble_eq_true rfl) dX6_addSource_82 (fun H locs hP hD hS => ?_)
      have hP : va_P D vwCl [((a 1), .inr (12, [.ref (a 12), .ref (a 13), .ref (a 14), .ref (a 15), .ref (a 16), .ref (a 17), .ref (a 18), .ref (a 19), .ref (a 20), .ref (a 21), .ref (a 22), .ref (a 23), .int 1, .int 1, .int 0, .int 0, .int 0, .int 0])), ((a 12), .inl (g 2, 40, .inl (upd (fun _ => 0) (0 : Int32).toNatClampNeg (vp_nar .char 105)))), ((a 19), .inl (g 1, 40, .inr (.inl (vp_updL (fun _ => 0) (0 : Int32).toNatClampNeg 1)))), ((a 18), .inl (g 0, 40, .inl (upd (fun _ => (-1)) (0 : Int32).toNatClampNeg 0)))] H := hP
      have hD : va_D (va_A [((a 1), f_net a), ((a 12), .inl (g 2, 40, .inl (fun _ => 0))), ((a 19), .inl (g 1, 40, .inr (.inl (fun _ => 0)))), ((a 18), .inl (g 0, 40, .inl (fun _ => (-1))))] s.heap.size) [((a 1), .inr (12, [.ref (a 12), .ref (a 13), .ref (a 14), .ref (a 15), .ref (a 16), .ref (a 17), .ref (a 18), .ref (a 19), .ref (a 20), .ref (a 21), .ref (a 22), .ref (a 23), .int 1, .int 1, .int 0, .int 0, .int 0, .int 0])), ((a 12), .inl (g 2, 40, .inl (upd (fun _ => 0) (0 : Int32).toNatClampNeg (vp_nar .char 105)))), ((a 19), .inl (g 1, 40, .inr (.inl (vp_updL (fun _ => 0) (0 : Int32).toNatClampNeg 1)))), ((a 18), .inl (g 0, 40, .inl (upd (fun _ => (-1)) (0 : Int32).toNatClampNeg 0)))] := hD
      refine lv_iload_n hx hb dX6_addSource_85 rfl (lv_at hl 0 rfl) ?_
      have hP9 := hP.sub (ws' := [((a 1), .inr (12, [.ref (a 12), .ref (a 13), .ref (a 14), .ref (a 15), .ref (a 16), .ref (a 17), .ref (a 18), .ref (a 19), .ref (a 20), .ref (a 21), .ref (a 22), .ref (a 23), .int 1, .int 1, .int 0, .int 0, .int 0, .int 0])), ((a 12), .inl (g 2, 40, .inl (upd (fun _ => 0) (0 : Int32).toNatClampNeg (vp_nar .char 105)))), ((a 19), .inl (g 1, 40, .inr (.inl (vp_updL (fun _ => 0) (0 : Int32).toNatClampNeg 1)))), ((a 18), .inl (g 0, 40, .inl (upd (fun _ => (-1)) (0 : Int32).toNatClampNeg 0)))]) [0, 1, 2, 3] rfl
      have hD9 := hD.sub (ws' := [((a 1), .inr (12, [.ref (a 12), .ref (a 13), .ref (a 14), .ref (a 15), .ref (a 16), .ref (a 17), .ref (a 18), .ref (a 19), .ref (a 20), .ref (a 21), .ref (a 22), .ref (a 23), .int 1, .int 1, .int 0, .int 0, .int 0, .int 0])), ((a 12), .inl (g 2, 40, .inl (upd (fun _ => 0) (0 : Int32).toNatClampNeg (vp_nar .char 105)))), ((a 19), .inl (g 1, 40, .inr (.inl (vp_updL (fun _ => 0) (0 : Int32).toNatClampNeg 1)))), ((a 18), .inl (g 0, 40, .inl (upd (fun _ => (-1)) (0 : Int32).toNatClampNeg 0)))]) [0, 1, 2, 3] (by decide) rfl
      refine W.widen (k := 0) (n := 0) (Nat.le_of_ble_eq_true rfl) (Nat.le_of_ble_eq_true rfl) ?_
      exact W.iret (v := 0) hx hb hr (fun t ht9 hW9 => ⟨⟨0, (), rfl, ⟨rfl, trivial⟩, ⟨(by rw [ht9]; exact hP9), hD9⟩⟩, hS.F ht9⟩) hS.2.2 dX6_addSource_86 hlocks
    · exact absurd c_2 (by decide)
  · exact absurd c_1 (by decide)
set_option maxHeartbeats 4000000 in
set_option maxRecDepth 100000 in
theorem k_X11_addSource_v1 (l : Launch) (D : va_G) (g : Nat → ClassId) (z0 sz : Nat) (a : Nat → Nat) : Met l yX11_addSource (.code yX11_addSource cX11_addSource 2 (some .int) :: TG) (rmk 1 0 0 22) (va_Pc [.ref (a 0), .int 0] (PP D g z0 sz [((a 0), f_x a), ((a 1), f_net a), ((a 12), .inl (g 2, 40, .inl (fun _ => 0))), ((a 19), .inl (g 1, 40, .inr (.inl (fun _ => 0)))), ((a 18), .inl (g 0, 40, .inl (fun _ => (-1))))])) (va_Qi (fun (r : Int32) (u : Unit) => (r = 0) ∧ True) (fun (u : Unit) (t : State) => va_P D vwCl [((a 0), f_x a), ((a 1), .inr (12, [.ref (a 12), .ref (a 13), .ref (a 14), .ref (a 15), .ref (a 16), .ref (a 17), .ref (a 18), .ref (a 19), .ref (a 20), .ref (a 21), .ref (a 22), .ref (a 23), .int 1, .int 1, .int 0, .int 0, .int 0, .int 0])), ((a 12), .inl (g 2, 40, .inl (upd (fun _ => 0) (0 : Int32).toNatClampNeg (vp_nar .char 105)))), ((a 19), .inl (g 1, 40, .inr (.inl (vp_updL (fun _ => 0) (0 : Int32).toNatClampNeg 1)))), ((a 18), .inl (g 0, 40, .inl (upd (fun _ => (-1)) (0 : Int32).toNatClampNeg 0)))] t.heap ∧ va_D (va_A [((a 0), f_x a), ((a 1), f_net a), ((a 12), .inl (g 2, 40, .inl (fun _ => 0))), ((a 19), .inl (g 1, 40, .inr (.inl (fun _ => 0)))), ((a 18), .inl (g 0, 40, .inl (fun _ => (-1))))] sz) [((a 0), f_x a), ((a 1), .inr (12, [.ref (a 12), .ref (a 13), .ref (a 14), .ref (a 15), .ref (a 16), .ref (a 17), .ref (a 18), .ref (a 19), .ref (a 20), .ref (a 21), .ref (a 22), .ref (a 23), .int 1, .int 1, .int 0, .int 0, .int 0, .int 0])), ((a 12), .inl (g 2, 40, .inl (upd (fun _ => 0) (0 : Int32).toNatClampNeg (vp_nar .char 105)))), ((a 19), .inl (g 1, 40, .inr (.inl (vp_updL (fun _ => 0) (0 : Int32).toNatClampNeg 1)))), ((a 18), .inl (g 0, 40, .inl (upd (fun _ => (-1)) (0 : Int32).toNatClampNeg 0)))]) (va_A [((a 0), f_x a), ((a 1), f_net a), ((a 12), .inl (g 2, 40, .inl (fun _ => 0))), ((a 19), .inl (g 1, 40, .inr (.inl (fun _ => 0)))), ((a 18), .inl (g 0, 40, .inl (fun _ => (-1))))] sz)) 0 0 (va_A [((a 0), f_x a), ((a 1), f_net a), ((a 12), .inl (g 2, 40, .inl (fun _ => 0))), ((a 19), .inl (g 1, 40, .inr (.inl (fun _ => 0)))), ((a 18), .inl (g 0, 40, .inl (fun _ => (-1))))] sz) := by
  refine met0 (cc := cX11_addSource) (n := 2) (by decide) (Nat.le_of_ble_eq_true rfl) ?_
  intro p e s m args below meth c hx hb hr hml hown ht hlocks hnm hP0 hD0 hK hZ hsz hz ls hl
  subst hsz
  have hA : ∀ q : Nat, s.heap.size ≤ q → va_A [((a 0), f_x a), ((a 1), f_net a), ((a 12), .inl (g 2, 40, .inl (fun _ => 0))), ((a 19), .inl (g 1, 40, .inr (.inl (fun _ => 0)))), ((a 18), .inl (g 0, 40, .inl (fun _ => (-1))))] s.heap.size q := Anw
  have hAz : ∀ q, va_A [((a 0), f_x a), ((a 1), f_net a), ((a 12), .inl (g 2, 40, .inl (fun _ => 0))), ((a 19), .inl (g 1, 40, .inr (.inl (fun _ => 0)))), ((a 18), .inl (g 0, 40, .inl (fun _ => (-1))))] s.heap.size q → z0 ≤ q := Awz hz hD0
  have hS : va_S (va_A [((a 0), f_x a), ((a 1), f_net a), ((a 12), .inl (g 2, 40, .inl (fun _ => 0))), ((a 19), .inl (g 1, 40, .inr (.inl (fun _ => 0)))), ((a 18), .inl (g 0, 40, .inl (fun _ => (-1))))] s.heap.size) s.heap s.heap [] := va_S.rf
  have hD : va_D (va_A [((a 0), f_x a), ((a 1), f_net a), ((a 12), .inl (g 2, 40, .inl (fun _ => 0))), ((a 19), .inl (g 1, 40, .inr (.inl (fun _ => 0)))), ((a 18), .inl (g 0, 40, .inl (fun _ => (-1))))] s.heap.size) [((a 0), f_x a), ((a 1), f_net a), ((a 12), .inl (g 2, 40, .inl (fun _ => 0))), ((a 19), .inl (g 1, 40, .inr (.inl (fun _ => 0)))), ((a 18), .inl (g 0, 40, .inl (fun _ => (-1))))] := hD0.self
  have hP : va_P D vwCl [((a 0), f_x a), ((a 1), f_net a), ((a 12), .inl (g 2, 40, .inl (fun _ => 0))), ((a 19), .inl (g 1, 40, .inr (.inl (fun _ => 0)))), ((a 18), .inl (g 0, 40, .inl (fun _ => (-1))))] s.heap := hP0
  have hl : lv_has ls 2 [(0, .ref (a 0)), (1, .int 0)] := hl
  refine lv_aload_n hx hb dX11_addSource_0 rfl (lv_at hl 0 rfl) ?_
  have hPc : va_P D vwCl [((a 0), f_x a), ((a 1), f_net a)] _ := hP.sub (ws' := [((a 0), f_x a), ((a 1), f_net a)]) [0, 1] rfl
  have hDc : va_D (fun q => z0 ≤ q) [((a 0), f_x a), ((a 1), f_net a)] := (hD.to hAz).pick (ws' := [((a 0), f_x a), ((a 1), f_net a)]) [0, 1] (by decide) rfl
  have hFc := AnA (ws := [((a 0), f_x a), ((a 1), f_net a), ((a 12), .inl (g 2, 40, .inl (fun _ => 0))), ((a 19), .inl (g 1, 40, .inr (.inl (fun _ => 0)))), ((a 18), .inl (g 0, 40, .inl (fun _ => (-1))))]) hS.1
  refine va_callv (va_runV (As := []) (rest := []) ⟨hx, hb, hml, hown, ht⟩ (k_X11_needOpenNet l D g z0 _ a) (cwV 0 ht (gV w_121 w_123 w_124 w_31 w_122) rfl rfl rfl (by decide +kernel) (le2 rfl rfl)) ⟨PP.blind, va_recv hK.1 hP (ci := 17) (q0 := 0) rfl rfl, PP.mk' hK hZ hz hAz hS hPc hDc⟩ rfl rfl hl.1 rfl (lv_room (Nat.le_of_ble_eq_true rfl)) dX11_addSource_1 (le2 rfl rfl)) hS (fun q _ h => hFc q h) hFc (fun u t H locs ht1 hvm hw hB hz1 hk1 hS => ?_)
  have hP := ro1 hP hk1
  refine lv_aload_n hx hb dX11_addSource_4 rfl (lv_at hl 0 rfl) ?_
  refine va_get (D := D) (ci := 17) (v := .ref (a 1)) (C := RX11) (T := TX11) (N := 11) hx hb ht in_X11 hown hK.1 hP 0 rfl rfl 0 (by decide) (ht _ w_68) (fun _ h9 => h9) rfl dX11_addSource_5 ?_
  refine va_get (D := D) (ci := 12) (v := .int 0) (C := RX6) (T := TX6) (N := 18) hx hb ht in_X6 hown hK.1 hP 1 rfl rfl 12 (by decide) (ht _ w_81) (fun _ h9 => h9) rfl dX11_addSource_8 ?_
  refine lv_bipush (v := 40) hx hb dX11_addSource_11 (by decide) ?_
  refine lv_icmp_ge (tgt := 28) hx hb dX11_addSource_13 (by decide) (fun c_1 => ?_) (fun c_1 => ?_)
  · exact absurd c_1 (by decide)
  · refine lv_aload_n hx hb dX11_addSource_16 rfl (lv_at hl 0 rfl) ?_
    refine va_get (D := D) (ci := 17) (v := .ref (a 1)) (C := RX11) (T := TX11) (N := 11) hx hb ht in_X11 hown hK.1 hP 0 rfl rfl 0 (by decide) (ht _ w_68) (fun _ h9 => h9) rfl dX11_addSource_17 ?_
    refine va_get (D := D) (ci := 12) (v := .int 0) (C := RX6) (T := TX6) (N := 18) hx hb ht in_X6 hown hK.1 hP 1 rfl rfl 13 (by decide) (ht _ w_125) (fun _ h9 => h9) rfl dX11_addSource_20 ?_
    refine lv_bipush (v := 12) hx hb dX11_addSource_23 (by decide) ?_
    refine lv_icmp_lt (tgt := 36) hx hb dX11_addSource_25 (by decide) (fun c_2 => ?_) (fun c_2 => ?_)
    · refine lv_aload_n hx hb dX11_addSource_36 rfl (lv_at hl 0 rfl) ?_
      refine va_get (D := D) (ci := 17) (v := .ref (a 1)) (C := RX11) (T := TX11) (N := 11) hx hb ht in_X11 hown hK.1 hP 0 rfl rfl 0 (by decide) (ht _ w_68) (fun _ h9 => h9) rfl dX11_addSource_37 ?_
      refine lv_iload_n hx hb dX11_addSource_40 rfl (lv_at hl 1 rfl) ?_
      have hPc : va_P D vwCl [((a 1), f_net a), ((a 12), .inl (g 2, 40, .inl (fun _ => 0))), ((a 19), .inl (g 1, 40, .inr (.inl (fun _ => 0)))), ((a 18), .inl (g 0, 40, .inl (fun _ => (-1))))] _ := hP.sub (ws' := [((a 1), f_net a), ((a 12), .inl (g 2, 40, .inl (fun _ => 0))), ((a 19), .inl (g 1, 40, .inr (.inl (fun _ => 0)))), ((a 18), .inl (g 0, 40, .inl (fun _ => (-1))))]) [1, 2, 3, 4] rfl
      have hDc : va_D (fun q => z0 ≤ q) [((a 1), f_net a), ((a 12), .inl (g 2, 40, .inl (fun _ => 0))), ((a 19), .inl (g 1, 40, .inr (.inl (fun _ => 0)))), ((a 18), .inl (g 0, 40, .inl (fun _ => (-1))))] := (hD.to hAz).pick (ws' := [((a 1), f_net a), ((a 12), .inl (g 2, 40, .inl (fun _ => 0))), ((a 19), .inl (g 1, 40, .inr (.inl (fun _ => 0)))), ((a 18), .inl (g 0, 40, .inl (fun _ => (-1))))]) [1, 2, 3, 4] (by decide) rfl
      have hFc := va_free (wc := [((a 1), f_net a), ((a 12), .inl (g 2, 40, .inl (fun _ => 0))), ((a 19), .inl (g 1, 40, .inr (.inl (fun _ => 0)))), ((a 18), .inl (g 0, 40, .inl (fun _ => (-1))))]) hD hS hA [1, 2, 3, 4] rfl
      refine va_calli (va_runV (As := [.int 0]) (rest := []) ⟨hx, hb, hml, hown, ht⟩ (k_X6_addSource_v1 l D g z0 _ a) (cwV 1 ht (gV w_133 w_135 w_136 w_137 w_134) rfl rfl rfl (by decide +kernel) (le2 rfl rfl)) ⟨PP.blind, va_recv hK.1 hP (ci := 12) (q0 := 1) rfl rfl, PP.mk' hK hZ hz hAz hS hPc hDc⟩ rfl rfl hl.1 rfl (lv_room (Nat.le_of_ble_eq_true rfl)) dX11_addSource_41 (le2 rfl rfl)) hS (fun q _ h => hFc q h) hFc (fun r u t H locs ht1 hvm hw hB hz1 hk1 hS => ?_)
      obtain ⟨rfl, hw⟩ := hw
      obtain ⟨hP1, hD1⟩ := hB
      rw [ht1] at hP1
      obtain ⟨hP, hD⟩ := va_join (wr := [((a 0), f_x a)]) (w1 := [((a 1), .inr (12, [.ref (a 12), .ref (a 13), .ref (a 14), .ref (a 15), .ref (a 16), .ref (a 17), .ref (a 18), .ref (a 19), .ref (a 20), .ref (a 21), .ref (a 22), .ref (a 23), .int 1, .int 1, .int 0, .int 0, .int 0, .int 0])), ((a 12), .inl (g 2, 40, .inl (upd (fun _ => 0) (0 : Int32).toNatClampNeg (vp_nar .char 105)))), ((a 19), .inl (g 1, 40, .inr (.inl (vp_updL (fun _ => 0) (0 : Int32).toNatClampNeg 1)))), ((a 18), .inl (g 0, 40, .inl (upd (fun _ => (-1)) (0 : Int32).toNatClampNeg 0)))]) hP hD [1, 2, 3, 4] [0] rfl rfl (by decide) (by decide) hk1 hFc hP1 hD1
      have hP : va_P D vwCl [((a 0), f_x a), ((a 1), .inr (12, [.ref (a 12), .ref (a 13), .ref (a 14), .ref (a 15), .ref (a 16), .ref (a 17), .ref (a 18), .ref (a 19), .ref (a 20), .ref (a 21), .ref (a 22), .ref (a 23), .int 1, .int 1, .int 0, .int 0, .int 0, .int 0])), ((a 12), .inl (g 2, 40, .inl (upd (fun _ => 0) (0 : Int32).toNatClampNeg (vp_nar .char 105)))), ((a 19), .inl (g 1, 40, .inr (.inl (vp_updL (fun _ => 0) (0 : Int32).toNatClampNeg 1)))), ((a 18), .inl (g 0, 40, .inl (upd (fun _ => (-1)) (0 : Int32).toNatClampNeg 0)))] H := hP
      have hD : va_D (va_A [((a 0), f_x a), ((a 1), f_net a), ((a 12), .inl (g 2, 40, .inl (fun _ => 0))), ((a 19), .inl (g 1, 40, .inr (.inl (fun _ => 0)))), ((a 18), .inl (g 0, 40, .inl (fun _ => (-1))))] s.heap.size) [((a 0), f_x a), ((a 1), .inr (12, [.ref (a 12), .ref (a 13), .ref (a 14), .ref (a 15), .ref (a 16), .ref (a 17), .ref (a 18), .ref (a 19), .ref (a 20), .ref (a 21), .ref (a 22), .ref (a 23), .int 1, .int 1, .int 0, .int 0, .int 0, .int 0])), ((a 12), .inl (g 2, 40, .inl (upd (fun _ => 0) (0 : Int32).toNatClampNeg (vp_nar .char 105)))), ((a 19), .inl (g 1, 40, .inr (.inl (vp_updL (fun _ => 0) (0 : Int32).toNatClampNeg 1)))), ((a 18), .inl (g 0, 40, .inl (upd (fun _ => (-1)) (0 : Int32).toNatClampNeg 0)))] := hD
      have hP9 := hP.sub (ws' := [((a 0), f_x a), ((a 1), .inr (12, [.ref (a 12), .ref (a 13), .ref (a 14), .ref (a 15), .ref (a 16), .ref (a 17), .ref (a 18), .ref (a 19), .ref (a 20), .ref (a 21), .ref (a 22), .ref (a 23), .int 1, .int 1, .int 0, .int 0, .int 0, .int 0])), ((a 12), .inl (g 2, 40, .inl (upd (fun _ => 0) (0 : Int32).toNatClampNeg (vp_nar .char 105)))), ((a 19), .inl (g 1, 40, .inr (.inl (vp_updL (fun _ => 0) (0 : Int32).toNatClampNeg 1)))), ((a 18), .inl (g 0, 40, .inl (upd (fun _ => (-1)) (0 : Int32).toNatClampNeg 0)))]) [0, 1, 2, 3, 4] rfl
      have hD9 := hD.sub (ws' := [((a 0), f_x a), ((a 1), .inr (12, [.ref (a 12), .ref (a 13), .ref (a 14), .ref (a 15), .ref (a 16), .ref (a 17), .ref (a 18), .ref (a 19), .ref (a 20), .ref (a 21), .ref (a 22), .ref (a 23), .int 1, .int 1, .int 0, .int 0, .int 0, .int 0])), ((a 12), .inl (g 2, 40, .inl (upd (fun _ => 0) (0 : Int32).toNatClampNeg (vp_nar .char 105)))), ((a 19), .inl (g 1, 40, .inr (.inl (vp_updL (fun _ => 0) (0 : Int32).toNatClampNeg 1)))), ((a 18), .inl (g 0, 40, .inl (upd (fun _ => (-1)) (0 : Int32).toNatClampNeg 0)))]) [0, 1, 2, 3, 4] (by decide) rfl
      refine W.widen (k := 0) (n := 0) (Nat.le_of_ble_eq_true rfl) (Nat.le_of_ble_eq_true rfl) ?_
      exact W.iret (v := 0) hx hb hr (fun t ht9 hW9 => ⟨⟨0, (), rfl, ⟨rfl, trivial⟩, ⟨(by rw [ht9]; exact hP9), hD9⟩⟩, hS.F ht9⟩) hS.2.2 dX11_addSource_44 hlocks
    · exact absurd c_2 (by decide)
set_option maxHeartbeats 4000000 in
set_option maxRecDepth 100000 in
theorem k_X11_input (l : Launch) (D : va_G) (g : Nat → ClassId) (z0 sz : Nat) (a : Nat → Nat) : Met l yX11_input (.code yX11_input cX11_input 1 (some .int) :: TG) (rmk 2 0 0 43) (va_Pc [.ref (a 0)] (PP D g z0 sz [((a 0), f_x a), ((a 1), f_net a), ((a 12), .inl (g 2, 40, .inl (fun _ => 0))), ((a 19), .inl (g 1, 40, .inr (.inl (fun _ => 0)))), ((a 18), .inl (g 0, 40, .inl (fun _ => (-1))))])) (va_Qi (fun (r : Int32) (u : Unit) => (r = 0) ∧ True) (fun (u : Unit) (t : State) => va_P D vwCl [] t.heap ∧ va_D (va_A [((a 0), f_x a), ((a 1), f_net a), ((a 12), .inl (g 2, 40, .inl (fun _ => 0))), ((a 19), .inl (g 1, 40, .inr (.inl (fun _ => 0)))), ((a 18), .inl (g 0, 40, .inl (fun _ => (-1))))] sz) []) (va_A [((a 0), f_x a), ((a 1), f_net a), ((a 12), .inl (g 2, 40, .inl (fun _ => 0))), ((a 19), .inl (g 1, 40, .inr (.inl (fun _ => 0)))), ((a 18), .inl (g 0, 40, .inl (fun _ => (-1))))] sz)) 0 0 (va_A [((a 0), f_x a), ((a 1), f_net a), ((a 12), .inl (g 2, 40, .inl (fun _ => 0))), ((a 19), .inl (g 1, 40, .inr (.inl (fun _ => 0)))), ((a 18), .inl (g 0, 40, .inl (fun _ => (-1))))] sz) := by
  refine met0 (cc := cX11_input) (n := 1) (by decide) (Nat.le_of_ble_eq_true rfl) ?_
  intro p e s m args below meth c hx hb hr hml hown ht hlocks hnm hP0 hD0 hK hZ hsz hz ls hl
  subst hsz
  have hA : ∀ q : Nat, s.heap.size ≤ q → va_A [((a 0), f_x a), ((a 1), f_net a), ((a 12), .inl (g 2, 40, .inl (fun _ => 0))), ((a 19), .inl (g 1, 40, .inr (.inl (fun _ => 0)))), ((a 18), .inl (g 0, 40, .inl (fun _ => (-1))))] s.heap.size q := Anw
  have hAz : ∀ q, va_A [((a 0), f_x a), ((a 1), f_net a), ((a 12), .inl (g 2, 40, .inl (fun _ => 0))), ((a 19), .inl (g 1, 40, .inr (.inl (fun _ => 0)))), ((a 18), .inl (g 0, 40, .inl (fun _ => (-1))))] s.heap.size q → z0 ≤ q := Awz hz hD0
  have hS : va_S (va_A [((a 0), f_x a), ((a 1), f_net a), ((a 12), .inl (g 2, 40, .inl (fun _ => 0))), ((a 19), .inl (g 1, 40, .inr (.inl (fun _ => 0)))), ((a 18), .inl (g 0, 40, .inl (fun _ => (-1))))] s.heap.size) s.heap s.heap [] := va_S.rf
  have hD : va_D (va_A [((a 0), f_x a), ((a 1), f_net a), ((a 12), .inl (g 2, 40, .inl (fun _ => 0))), ((a 19), .inl (g 1, 40, .inr (.inl (fun _ => 0)))), ((a 18), .inl (g 0, 40, .inl (fun _ => (-1))))] s.heap.size) [((a 0), f_x a), ((a 1), f_net a), ((a 12), .inl (g 2, 40, .inl (fun _ => 0))), ((a 19), .inl (g 1, 40, .inr (.inl (fun _ => 0)))), ((a 18), .inl (g 0, 40, .inl (fun _ => (-1))))] := hD0.self
  have hP : va_P D vwCl [((a 0), f_x a), ((a 1), f_net a), ((a 12), .inl (g 2, 40, .inl (fun _ => 0))), ((a 19), .inl (g 1, 40, .inr (.inl (fun _ => 0)))), ((a 18), .inl (g 0, 40, .inl (fun _ => (-1))))] s.heap := hP0
  have hl : lv_has ls 1 [(0, .ref (a 0))] := hl
  refine lv_aload_n hx hb dX11_input_0 rfl (lv_at hl 0 rfl) ?_
  refine lv_iconst (v := 0) hx hb dX11_input_1 (by decide) ?_
  have hPc : va_P D vwCl [((a 0), f_x a), ((a 1), f_net a), ((a 12), .inl (g 2, 40, .inl (fun _ => 0))), ((a 19), .inl (g 1, 40, .inr (.inl (fun _ => 0)))), ((a 18), .inl (g 0, 40, .inl (fun _ => (-1))))] _ := hP.sub (ws' := [((a 0), f_x a), ((a 1), f_net a), ((a 12), .inl (g 2, 40, .inl (fun _ => 0))), ((a 19), .inl (g 1, 40, .inr (.inl (fun _ => 0)))), ((a 18), .inl (g 0, 40, .inl (fun _ => (-1))))]) [0, 1, 2, 3, 4] rfl
  have hDc : va_D (fun q => z0 ≤ q) [((a 0), f_x a), ((a 1), f_net a), ((a 12), .inl (g 2, 40, .inl (fun _ => 0))), ((a 19), .inl (g 1, 40, .inr (.inl (fun _ => 0)))), ((a 18), .inl (g 0, 40, .inl (fun _ => (-1))))] := (hD.to hAz).pick (ws' := [((a 0), f_x a), ((a 1), f_net a), ((a 12), .inl (g 2, 40, .inl (fun _ => 0))), ((a 19), .inl (g 1, 40, .inr (.inl (fun _ => 0)))), ((a 18), .inl (g 0, 40, .inl (fun _ => (-1))))]) [0, 1, 2, 3, 4] (by decide) rfl
  have hFc := va_free (wc := [((a 0), f_x a), ((a 1), f_net a), ((a 12), .inl (g 2, 40, .inl (fun _ => 0))), ((a 19), .inl (g 1, 40, .inr (.inl (fun _ => 0)))), ((a 18), .inl (g 0, 40, .inl (fun _ => (-1))))]) hD hS hA [0, 1, 2, 3, 4] rfl
  refine va_calli (va_runV (As := [.int 0]) (rest := []) ⟨hx, hb, hml, hown, ht⟩ (k_X11_addSource_v1 l D g z0 _ a) (cwV 1 ht (gV w_138 w_140 w_141 w_31 w_139) rfl rfl rfl (by decide +kernel) (le2 rfl rfl)) ⟨PP.blind, va_recv hK.1 hP (ci := 17) (q0 := 0) rfl rfl, PP.mk' hK hZ hz hAz hS hPc hDc⟩ rfl rfl hl.1 rfl (lv_room (Nat.le_of_ble_eq_true rfl)) dX11_input_2 (le2 rfl rfl)) hS (fun q _ h => hFc q h) hFc (fun r u t H locs ht1 hvm hw hB hz1 hk1 hS => ?_)
  obtain ⟨rfl, hw⟩ := hw
  obtain ⟨hP1, hD1⟩ := hB
  rw [ht1] at hP1
  obtain ⟨hP, hD⟩ := va_join (wr := []) (w1 := [((a 0), f_x a), ((a 1), .inr (12, [.ref (a 12), .ref (a 13), .ref (a 14), .ref (a 15), .ref (a 16), .ref (a 17), .ref (a 18), .ref (a 19), .ref (a 20), .ref (a 21), .ref (a 22), .ref (a 23), .int 1, .int 1, .int 0, .int 0, .int 0, .int 0])), ((a 12), .inl (g 2, 40, .inl (upd (fun _ => 0) (0 : Int32).toNatClampNeg (vp_nar .char 105)))), ((a 19), .inl (g 1, 40, .inr (.inl (vp_updL (fun _ => 0) (0 : Int32).toNatClampNeg 1)))), ((a 18), .inl (g 0, 40, .inl (upd (fun _ => (-1)) (0 : Int32).toNatClampNeg 0)))]) hP hD [0, 1, 2, 3, 4] [] rfl rfl (by decide) (by decide) hk1 hFc hP1 hD1
  have hP : va_P D vwCl [((a 0), f_x a), ((a 1), .inr (12, [.ref (a 12), .ref (a 13), .ref (a 14), .ref (a 15), .ref (a 16), .ref (a 17), .ref (a 18), .ref (a 19), .ref (a 20), .ref (a 21), .ref (a 22), .ref (a 23), .int 1, .int 1, .int 0, .int 0, .int 0, .int 0])), ((a 12), .inl (g 2, 40, .inl (upd (fun _ => 0) (0 : Int32).toNatClampNeg (vp_nar .char 105)))), ((a 19), .inl (g 1, 40, .inr (.inl (vp_updL (fun _ => 0) (0 : Int32).toNatClampNeg 1)))), ((a 18), .inl (g 0, 40, .inl (upd (fun _ => (-1)) (0 : Int32).toNatClampNeg 0)))] H := hP
  have hD : va_D (va_A [((a 0), f_x a), ((a 1), f_net a), ((a 12), .inl (g 2, 40, .inl (fun _ => 0))), ((a 19), .inl (g 1, 40, .inr (.inl (fun _ => 0)))), ((a 18), .inl (g 0, 40, .inl (fun _ => (-1))))] s.heap.size) [((a 0), f_x a), ((a 1), .inr (12, [.ref (a 12), .ref (a 13), .ref (a 14), .ref (a 15), .ref (a 16), .ref (a 17), .ref (a 18), .ref (a 19), .ref (a 20), .ref (a 21), .ref (a 22), .ref (a 23), .int 1, .int 1, .int 0, .int 0, .int 0, .int 0])), ((a 12), .inl (g 2, 40, .inl (upd (fun _ => 0) (0 : Int32).toNatClampNeg (vp_nar .char 105)))), ((a 19), .inl (g 1, 40, .inr (.inl (vp_updL (fun _ => 0) (0 : Int32).toNatClampNeg 1)))), ((a 18), .inl (g 0, 40, .inl (upd (fun _ => (-1)) (0 : Int32).toNatClampNeg 0)))] := hD
  have hP9 := hP.sub (ws' := []) [] rfl
  have hD9 := hD.sub (ws' := []) [] (by decide) rfl
  refine W.widen (k := 0) (n := 0) (Nat.le_of_ble_eq_true rfl) (Nat.le_of_ble_eq_true rfl) ?_
  exact W.iret (v := 0) hx hb hr (fun t ht9 hW9 => ⟨⟨0, (), rfl, ⟨rfl, trivial⟩, ⟨(by rw [ht9]; exact hP9), hD9⟩⟩, hS.F ht9⟩) hS.2.2 dX11_input_5 hlocks
set_option maxHeartbeats 4000000 in
set_option maxRecDepth 100000 in
theorem k_X11_needNotSlow (l : Launch) (hfl : l.stackTraces = false) (D : va_G) (g : Nat → ClassId) (z0 sz : Nat) (a : Nat → Nat) (p0 : Int32) : vx_Met l yX11_needNotSlow (.code yX11_needNotSlow cX11_needNotSlow 2 none :: TG) (rmk 7 1 6 102) (va_Pc [.ref (a 0), .int p0] (PP D g z0 sz [((a 0), f_x a), ((a 2), f_book a)])) (va_Qv (fun (u : Unit) => False) (fun (_ : Unit) (_ : State) => True) (va_A [] sz)) (vx_X (fun _ : Unit => True) (fun E _ _ => (E = "java/lang/IndexOutOfBoundsException" ∧ True)) (va_A [] sz)) 1 6 (va_A [] sz) := by
  refine vxm0 (cc := cX11_needNotSlow) (n := 2) (by decide) (Nat.le_of_ble_eq_true rfl) ?_
  intro p e s m args below meth c hx hb hr hml htab hown ht hlocks hnm hP0 hD0 hK hZ hsz hz ls hl
  subst hsz
  have hA : ∀ q : Nat, s.heap.size ≤ q → va_A [] s.heap.size q := Anw
  have hAz : ∀ q, va_A [] s.heap.size q → z0 ≤ q := A0z hz
  have hS : va_S (va_A [] s.heap.size) s.heap s.heap [] := va_S.rf
  have hl : lv_has ls 2 [(0, .ref (a 0)), (1, .int p0)] := hl
  refine lv_aload_n hx hb dX11_needNotSlow_0 rfl (lv_at hl 0 rfl) ?_
  refine lv_iload_n hx hb dX11_needNotSlow_1 rfl (lv_at hl 1 rfl) ?_
  have hPc : va_P D vwCl [((a 0), f_x a), ((a 2), f_book a)] _ := (ro0 hP0 hS).sub (ws' := [((a 0), f_x a), ((a 2), f_book a)]) [0, 1] rfl
  have hDc : va_D (fun q => z0 ≤ q) [((a 0), f_x a), ((a 2), f_book a)] := hD0.pick (ws' := [((a 0), f_x a), ((a 2), f_book a)]) [0, 1] (by decide) rfl
  have hFc := AnA (ws := []) hS.1
  refine vx_callv (vx_runV (As := [.int p0]) (rest := []) ⟨hx, hb, hml, hown, ht⟩ (k_X11_needFault l hfl D g z0 _ a p0) (cwV 1 ht (gV w_37 w_39 w_40 w_31 w_38) rfl rfl rfl (by decide +kernel) (le2 rfl rfl)) ⟨PP.blind, va_recv hK.1 (ro0 hP0 hS) (ci := 17) (q0 := 0) rfl rfl, PP.mk' hK hZ hz hAz hS hPc hDc⟩ rfl rfl hl.1 rfl (lv_room (Nat.le_of_ble_eq_true rfl)) dX11_needNotSlow_2 (le2 rfl rfl)) hS (fun q _ h => hFc q h) hFc (fun q _ h => hFc q h) (fun E ce q9 u t H locs ht1 hvm hw hB hz1 hk1 hS hcell hv9 hcl => ?_) (fun u t H locs ht1 hvm hw hB hz1 hk1 hS => ?_)
  · obtain ⟨rfl, hB⟩ := hB
    exact out0 htab hlocks hS hcell hv9 hcl (fun t _ hF => ⟨(), trivial, ⟨rfl, trivial⟩, hF⟩) (fun _ h => h) rfl rfl
  · exact hw.elim
set_option maxHeartbeats 4000000 in
set_option maxRecDepth 100000 in
theorem k_X11_isImpossible (l : Launch) (hfl : l.stackTraces = false) (D : va_G) (g : Nat → ClassId) (z0 sz : Nat) (a : Nat → Nat) (p0 : Int32) : vx_Met l yX11_isImpossible (.code yX11_isImpossible cX11_isImpossible 2 (some .boolean) :: TG) (rmk 8 1 6 123) (va_Pc [.ref (a 0), .int p0] (PP D g z0 sz [((a 0), f_x a), ((a 2), f_book a)])) (va_Qi (fun (r : Int32) (u : Unit) => False) (fun (_ : Unit) (_ : State) => True) (va_A [] sz)) (vx_X (fun _ : Unit => True) (fun E _ _ => (E = "java/lang/IndexOutOfBoundsException" ∧ True)) (va_A [] sz)) 1 6 (va_A [] sz) := by
  refine vxm0 (cc := cX11_isImpossible) (n := 2) (by decide) (Nat.le_of_ble_eq_true rfl) ?_
  intro p e s m args below meth c hx hb hr hml htab hown ht hlocks hnm hP0 hD0 hK hZ hsz hz ls hl
  subst hsz
  have hA : ∀ q : Nat, s.heap.size ≤ q → va_A [] s.heap.size q := Anw
  have hAz : ∀ q, va_A [] s.heap.size q → z0 ≤ q := A0z hz
  have hS : va_S (va_A [] s.heap.size) s.heap s.heap [] := va_S.rf
  have hl : lv_has ls 2 [(0, .ref (a 0)), (1, .int p0)] := hl
  refine lv_aload_n hx hb dX11_isImpossible_0 rfl (lv_at hl 0 rfl) ?_
  refine lv_iload_n hx hb dX11_isImpossible_1 rfl (lv_at hl 1 rfl) ?_
  have hPc : va_P D vwCl [((a 0), f_x a), ((a 2), f_book a)] _ := (ro0 hP0 hS).sub (ws' := [((a 0), f_x a), ((a 2), f_book a)]) [0, 1] rfl
  have hDc : va_D (fun q => z0 ≤ q) [((a 0), f_x a), ((a 2), f_book a)] := hD0.pick (ws' := [((a 0), f_x a), ((a 2), f_book a)]) [0, 1] (by decide) rfl
  have hFc := AnA (ws := []) hS.1
  refine vx_callv (vx_runV (As := [.int p0]) (rest := []) ⟨hx, hb, hml, hown, ht⟩ (k_X11_needNotSlow l hfl D g z0 _ a p0) (cwV 1 ht (gV w_211 w_213 w_214 w_31 w_212) rfl rfl rfl (by decide +kernel) (le2 rfl rfl)) ⟨PP.blind, va_recv hK.1 (ro0 hP0 hS) (ci := 17) (q0 := 0) rfl rfl, PP.mk' hK hZ hz hAz hS hPc hDc⟩ rfl rfl hl.1 rfl (lv_room (Nat.le_of_ble_eq_true rfl)) dX11_isImpossible_2 (le2 rfl rfl)) hS (fun q _ h => hFc q h) hFc (fun q _ h => hFc q h) (fun E ce q9 u t H locs ht1 hvm hw hB hz1 hk1 hS hcell hv9 hcl => ?_) (fun u t H locs ht1 hvm hw hB hz1 hk1 hS => ?_)
  · obtain ⟨rfl, hB⟩ := hB
    exact out0 htab hlocks hS hcell hv9 hcl (fun t _ hF => ⟨(), trivial, ⟨rfl, trivial⟩, hF⟩) (fun _ h => h) rfl rfl
  · exact hw.elim
set_option maxHeartbeats 4000000 in
set_option maxRecDepth 100000 in
theorem k_X5_isMarchRight (l : Launch) (D : va_G) (g : Nat → ClassId) (z0 sz : Nat) (a : Nat → Nat) : Met l yX5_isMarchRight (.code yX5_isMarchRight cX5_isMarchRight 1 (some .boolean) :: TG) (rmk 0 0 0 0) (va_Pc [.ref (a 9)] (PP D g z0 sz [((a 9), f_memory a)])) (va_Qi (fun (r : Int32) (u : Unit) => (r = 0) ∧ True) (fun (u : Unit) (t : State) => va_P D vwCl [((a 9), .inr (11, [.ref (a 59), .ref (a 60), .int 0, .int 45, .int 0, .int 0, .int 0, .int 0, .int 0]))] t.heap ∧ va_D (va_A [((a 9), f_memory a)] sz) [((a 9), .inr (11, [.ref (a 59), .ref (a 60), .int 0, .int 45, .int 0, .int 0, .int 0, .int 0, .int 0]))]) (va_A [((a 9), f_memory a)] sz)) 0 0 (va_A [((a 9), f_memory a)] sz) := by
  refine met0 (cc := cX5_isMarchRight) (n := 1) (by decide) (Nat.le_of_ble_eq_true rfl) ?_
  intro p e s m args below meth c hx hb hr hml hown ht hlocks hnm hP0 hD0 hK hZ hsz hz ls hl
  subst hsz
  have hA : ∀ q : Nat, s.heap.size ≤ q → va_A [((a 9), f_memory a)] s.heap.size q := Anw
  have hAz : ∀ q, va_A [((a 9), f_memory a)] s.heap.size q → z0 ≤ q := Awz hz hD0
  have hS : va_S (va_A [((a 9), f_memory a)] s.heap.size) s.heap s.heap [] := va_S.rf
  have hD : va_D (va_A [((a 9), f_memory a)] s.heap.size) [((a 9), f_memory a)] := hD0.self
  have hP : va_P D vwCl [((a 9), f_memory a)] s.heap := hP0
  have hl : lv_has ls 1 [(0, .ref (a 9))] := hl
  refine lv_aload_n hx hb dX5_isMarchRight_0 rfl (lv_at hl 0 rfl) ?_
  refine lv_bipush (v := 45) hx hb dX5_isMarchRight_1 (by decide) ?_
  refine va_put (D := D) (ci := 11) (v := .int 45) (ty := .char) (C := RX5) (T := TX5) (N := 9) hx hb ht in_X5 tyX5 tyX5_ok nmX5 hown hK.1 hP hD hS 0 rfl rfl 3 (by decide) (ht _ w_215) (fun _ h9 => h9) rfl (by decide +kernel) rfl rfl (Nat.le_of_ble_eq_true rfl) dX5_isMarchRight_3 (fun H locs hP hD hS => ?_)
  have hP : va_P D vwCl [((a 9), .inr (11, [.ref (a 59), .ref (a 60), .int 0, .int 45, .int 0, .int 0, .int 0, .int 0, .int 0]))] H := hP
  have hD : va_D (va_A [((a 9), f_memory a)] s.heap.size) [((a 9), .inr (11, [.ref (a 59), .ref (a 60), .int 0, .int 45, .int 0, .int 0, .int 0, .int 0, .int 0]))] := hD
  refine lv_aload_n hx hb dX5_isMarchRight_6 rfl (lv_at hl 0 rfl) ?_
  refine va_get (D := D) (ci := 11) (v := .int 0) (C := RX5) (T := TX5) (N := 9) hx hb ht in_X5 hown hK.1 hP 0 rfl rfl 2 (by decide) (ht _ w_216) (fun _ h9 => h9) rfl dX5_isMarchRight_7 ?_
  refine lv_if_le (tgt := 47) hx hb dX5_isMarchRight_10 (by decide) (fun c_1 => ?_) (fun c_1 => ?_)
  · refine lv_iconst (v := 0) hx hb dX5_isMarchRight_47 (by decide) ?_
    have hP9 := hP.sub (ws' := [((a 9), .inr (11, [.ref (a 59), .ref (a 60), .int 0, .int 45, .int 0, .int 0, .int 0, .int 0, .int 0]))]) [0] rfl
    have hD9 := hD.sub (ws' := [((a 9), .inr (11, [.ref (a 59), .ref (a 60), .int 0, .int 45, .int 0, .int 0, .int 0, .int 0, .int 0]))]) [0] (by decide) rfl
    refine W.widen (k := 0) (n := 0) (Nat.le_of_ble_eq_true rfl) (Nat.le_of_ble_eq_true rfl) ?_
    exact W.zret (v := 0) hx hb hr rfl (fun t ht9 hW9 => ⟨⟨0, (), rfl, ⟨rfl, trivial⟩, ⟨(by rw [ht9]; exact hP9), hD9⟩⟩, hS.F ht9⟩) hS.2.2 dX5_isMarchRight_48 hlocks
  · exact absurd c_1 (by decide)
set_option maxHeartbeats 4000000 in
set_option maxRecDepth 100000 in
theorem k_X11_isRight (l : Launch) (D : va_G) (g : Nat → ClassId) (z0 sz : Nat) (a : Nat → Nat) : Met l yX11_isRight (.code yX11_isRight cX11_isRight 1 (some .boolean) :: TG) (rmk 1 0 0 20) (va_Pc [.ref (a 0)] (PP D g z0 sz [((a 0), f_x a), ((a 9), f_memory a)])) (va_Qi (fun (r : Int32) (u : Unit) => (r = 0) ∧ True) (fun (u : Unit) (t : State) => va_P D vwCl [] t.heap ∧ va_D (va_A [((a 0), f_x a), ((a 9), f_memory a)] sz) []) (va_A [((a 0), f_x a), ((a 9), f_memory a)] sz)) 0 0 (va_A [((a 0), f_x a), ((a 9), f_memory a)] sz) := by
  refine met0 (cc := cX11_isRight) (n := 1) (by decide) (Nat.le_of_ble_eq_true rfl) ?_
  intro p e s m args below meth c hx hb hr hml hown ht hlocks hnm hP0 hD0 hK hZ hsz hz ls hl
  subst hsz
  have hA : ∀ q : Nat, s.heap.size ≤ q → va_A [((a 0), f_x a), ((a 9), f_memory a)] s.heap.size q := Anw
  have hAz : ∀ q, va_A [((a 0), f_x a), ((a 9), f_memory a)] s.heap.size q → z0 ≤ q := Awz hz hD0
  have hS : va_S (va_A [((a 0), f_x a), ((a 9), f_memory a)] s.heap.size) s.heap s.heap [] := va_S.rf
  have hD : va_D (va_A [((a 0), f_x a), ((a 9), f_memory a)] s.heap.size) [((a 0), f_x a), ((a 9), f_memory a)] := hD0.self
  have hP : va_P D vwCl [((a 0), f_x a), ((a 9), f_memory a)] s.heap := hP0
  have hl : lv_has ls 1 [(0, .ref (a 0))] := hl
  refine lv_aload_n hx hb dX11_isRight_0 rfl (lv_at hl 0 rfl) ?_
  refine va_get (D := D) (ci := 17) (v := .ref (a 9)) (C := RX11) (T := TX11) (N := 11) hx hb ht in_X11 hown hK.1 hP 0 rfl rfl 8 (by decide) (ht _ w_41) (fun _ h9 => h9) rfl dX11_isRight_1 ?_
  have hPc : va_P D vwCl [((a 9), f_memory a)] _ := hP.sub (ws' := [((a 9), f_memory a)]) [1] rfl
  have hDc : va_D (fun q => z0 ≤ q) [((a 9), f_memory a)] := (hD.to hAz).pick (ws' := [((a 9), f_memory a)]) [1] (by decide) rfl
  have hFc := va_free (wc := [((a 9), f_memory a)]) hD hS hA [1] rfl
  refine va_calli (va_runV (As := []) (rest := []) ⟨hx, hb, hml, hown, ht⟩ (k_X5_isMarchRight l D g z0 _ a) (cwV 0 ht (gV w_217 w_219 w_220 w_221 w_218) rfl rfl rfl (by decide +kernel) (le2 rfl rfl)) ⟨PP.blind, va_recv hK.1 hP (ci := 11) (q0 := 1) rfl rfl, PP.mk' hK hZ hz hAz hS hPc hDc⟩ rfl rfl hl.1 rfl (lv_room (Nat.le_of_ble_eq_true rfl)) dX11_isRight_4 (le2 rfl rfl)) hS (fun q _ h => hFc q h) hFc (fun r u t H locs ht1 hvm hw hB hz1 hk1 hS => ?_)
  obtain ⟨rfl, hw⟩ := hw
  obtain ⟨hP1, hD1⟩ := hB
  rw [ht1] at hP1
  obtain ⟨hP, hD⟩ := va_join (wr := [((a 0), f_x a)]) (w1 := [((a 9), f_memory a)]) hP hD [1] [0] rfl rfl (by decide) (by decide) hk1 hFc hP1 hD1
  have hP : va_P D vwCl [((a 0), f_x a), ((a 9), f_memory a)] H := hP
  have hD : va_D (va_A [((a 0), f_x a), ((a 9), f_memory a)] s.heap.size) [((a 0), f_x a), ((a 9), f_memory a)] := hD
  have hP9 := hP.sub (ws' := []) [] rfl
  have hD9 := hD.sub (ws' := []) [] (by decide) rfl
  refine W.widen (k := 0) (n := 0) (Nat.le_of_ble_eq_true rfl) (Nat.le_of_ble_eq_true rfl) ?_
  exact W.zret (v := 0) hx hb hr rfl (fun t ht9 hW9 => ⟨⟨0, (), rfl, ⟨rfl, trivial⟩, ⟨(by rw [ht9]; exact hP9), hD9⟩⟩, hS.F ht9⟩) hS.2.2 dX11_isRight_7 hlocks
set_option maxHeartbeats 4000000 in
set_option maxRecDepth 100000 in
theorem k_X11_doEnginesAgree (l : Launch) (D : va_G) (g : Nat → ClassId) (z0 sz : Nat) (a : Nat → Nat) : Met l yX11_doEnginesAgree (.code yX11_doEnginesAgree cX11_doEnginesAgree 2 (some .boolean) :: TG) (rmk 0 0 0 0) (va_Pc [.ref (a 0)] (PP D g z0 sz [((a 0), f_x a), ((a 3), f_rows a)])) (va_Qi (fun (r : Int32) (u : Unit) => (r = 1) ∧ True) (fun (_ : Unit) (_ : State) => True) (va_A [] sz)) 0 0 (va_A [] sz) := by
  refine met0 (cc := cX11_doEnginesAgree) (n := 2) (by decide) (Nat.le_of_ble_eq_true rfl) ?_
  intro p e s m args below meth c hx hb hr hml hown ht hlocks hnm hP0 hD0 hK hZ hsz hz ls hl
  subst hsz
  have hA : ∀ q : Nat, s.heap.size ≤ q → va_A [] s.heap.size q := Anw
  have hAz : ∀ q, va_A [] s.heap.size q → z0 ≤ q := A0z hz
  have hS : va_S (va_A [] s.heap.size) s.heap s.heap [] := va_S.rf
  have hl : lv_has ls 2 [(0, .ref (a 0))] := hl
  refine lv_iconst (v := 0) hx hb dX11_doEnginesAgree_0 (by decide) ?_
  refine lv_istore_n (lv' := [(1, .int 0), (0, .ref (a 0))]) hx hb dX11_doEnginesAgree_1 rfl hl (by decide) rfl (fun ls hl => ?_)
  refine lv_iload_n hx hb dX11_doEnginesAgree_2 rfl (lv_at hl 0 rfl) ?_
  refine lv_aload_n hx hb dX11_doEnginesAgree_3 rfl (lv_at hl 1 rfl) ?_
  refine va_get (D := D) (ci := 17) (v := .ref (a 3)) (C := RX11) (T := TX11) (N := 11) hx hb ht in_X11 hown hK.1 (ro0 hP0 hS) 0 rfl rfl 2 (by decide) (ht _ w_1) (fun _ h9 => h9) rfl dX11_doEnginesAgree_4 ?_
  refine va_get (D := D) (ci := 13) (v := .int 0) (C := RX7) (T := TX7) (N := 6) hx hb ht in_X7 hown hK.1 (ro0 hP0 hS) 1 rfl rfl 5 (by decide) (ht _ w_26) (fun _ h9 => h9) rfl dX11_doEnginesAgree_7 ?_
  refine lv_icmp_ge (tgt := 37) hx hb dX11_doEnginesAgree_10 (by decide) (fun c_1 => ?_) (fun c_1 => ?_)
  · refine lv_iconst (v := 1) hx hb dX11_doEnginesAgree_37 (by decide) ?_
    refine W.widen (k := 0) (n := 0) (Nat.le_of_ble_eq_true rfl) (Nat.le_of_ble_eq_true rfl) ?_
    exact W.zret (v := 1) hx hb hr rfl (fun t ht9 hW9 => ⟨⟨1, (), rfl, ⟨rfl, trivial⟩, trivial⟩, hS.F ht9⟩) hS.2.2 dX11_doEnginesAgree_38 hlocks
  · exact absurd c_1 (by decide)
set_option maxHeartbeats 4000000 in
set_option maxRecDepth 100000 in
theorem k_X11_areLikesFoundAlike (l : Launch) (D : va_G) (g : Nat → ClassId) (z0 sz : Nat) (a : Nat → Nat) : Met l yX11_areLikesFoundAlike (.code yX11_areLikesFoundAlike cX11_areLikesFoundAlike 2 (some .boolean) :: TG) (rmk 0 0 0 0) (va_Pc [.ref (a 0)] (PP D g z0 sz [((a 0), f_x a), ((a 2), f_book a)])) (va_Qi (fun (r : Int32) (u : Unit) => (r = 1) ∧ True) (fun (_ : Unit) (_ : State) => True) (va_A [] sz)) 0 0 (va_A [] sz) := by
  refine met0 (cc := cX11_areLikesFoundAlike) (n := 2) (by decide) (Nat.le_of_ble_eq_true rfl) ?_
  intro p e s m args below meth c hx hb hr hml hown ht hlocks hnm hP0 hD0 hK hZ hsz hz ls hl
  subst hsz
  have hA : ∀ q : Nat, s.heap.size ≤ q → va_A [] s.heap.size q := Anw
  have hAz : ∀ q, va_A [] s.heap.size q → z0 ≤ q := A0z hz
  have hS : va_S (va_A [] s.heap.size) s.heap s.heap [] := va_S.rf
  have hl : lv_has ls 2 [(0, .ref (a 0))] := hl
  refine lv_iconst (v := 0) hx hb dX11_areLikesFoundAlike_0 (by decide) ?_
  refine lv_istore_n (lv' := [(1, .int 0), (0, .ref (a 0))]) hx hb dX11_areLikesFoundAlike_1 rfl hl (by decide) rfl (fun ls hl => ?_)
  refine lv_iload_n hx hb dX11_areLikesFoundAlike_2 rfl (lv_at hl 0 rfl) ?_
  refine lv_aload_n hx hb dX11_areLikesFoundAlike_3 rfl (lv_at hl 1 rfl) ?_
  refine va_get (D := D) (ci := 17) (v := .ref (a 2)) (C := RX11) (T := TX11) (N := 11) hx hb ht in_X11 hown hK.1 (ro0 hP0 hS) 0 rfl rfl 1 (by decide) (ht _ w_32) (fun _ h9 => h9) rfl dX11_areLikesFoundAlike_4 ?_
  refine va_get (D := D) (ci := 9) (v := .int 0) (C := RX3) (T := TX3) (N := 14) hx hb ht in_X3 hown hK.1 (ro0 hP0 hS) 1 rfl rfl 11 (by decide) (ht _ w_33) (fun _ h9 => h9) rfl dX11_areLikesFoundAlike_7 ?_
  refine lv_icmp_ge (tgt := 51) hx hb dX11_areLikesFoundAlike_10 (by decide) (fun c_1 => ?_) (fun c_1 => ?_)
  · refine lv_iconst (v := 1) hx hb dX11_areLikesFoundAlike_51 (by decide) ?_
    refine W.widen (k := 0) (n := 0) (Nat.le_of_ble_eq_true rfl) (Nat.le_of_ble_eq_true rfl) ?_
    exact W.zret (v := 1) hx hb hr rfl (fun t ht9 hW9 => ⟨⟨1, (), rfl, ⟨rfl, trivial⟩, trivial⟩, hS.F ht9⟩) hS.2.2 dX11_areLikesFoundAlike_52 hlocks
  · exact absurd c_1 (by decide)
set_option maxHeartbeats 4000000 in
set_option maxRecDepth 100000 in
theorem k_X11_isNoImpossibleFound (l : Launch) (D : va_G) (g : Nat → ClassId) (z0 sz : Nat) (a : Nat → Nat) : Met l yX11_isNoImpossibleFound (.code yX11_isNoImpossibleFound cX11_isNoImpossibleFound 2 (some .boolean) :: TG) (rmk 2 0 0 46) (va_Pc [.ref (a 0)] (PP D g z0 sz [((a 0), f_x a), ((a 4), f_words a), ((a 47), .inl (g 0, 256, .inl (fun _ => 0))), ((a 1), f_net a), ((a 2), f_book a)])) (va_Qi (fun (r : Int32) (u : Unit) => (r = 1) ∧ True) (fun (u : Unit) (t : State) => va_P D vwCl [((a 0), f_x a), ((a 47), .inl (g 0, 256, .inl (fun _ => 0))), ((a 4), .inr (16, [.ref (a 1), .ref (a 2), .ref (a 38), .ref (a 39), .ref (a 40), .ref (a 41), .ref (a 42), .ref (a 43), .ref (a 44), .ref (a 45), .ref (a 46), .ref (a 47), .long 1, .long 0, .long 0, .int 0, .int (-1)])), ((a 1), f_net a), ((a 2), f_book a)] t.heap ∧ va_D (va_A [((a 0), f_x a), ((a 4), f_words a), ((a 47), .inl (g 0, 256, .inl (fun _ => 0))), ((a 1), f_net a), ((a 2), f_book a)] sz) [((a 0), f_x a), ((a 47), .inl (g 0, 256, .inl (fun _ => 0))), ((a 4), .inr (16, [.ref (a 1), .ref (a 2), .ref (a 38), .ref (a 39), .ref (a 40), .ref (a 41), .ref (a 42), .ref (a 43), .ref (a 44), .ref (a 45), .ref (a 46), .ref (a 47), .long 1, .long 0, .long 0, .int 0, .int (-1)])), ((a 1), f_net a), ((a 2), f_book a)]) (va_A [((a 0), f_x a), ((a 4), f_words a), ((a 47), .inl (g 0, 256, .inl (fun _ => 0))), ((a 1), f_net a), ((a 2), f_book a)] sz)) 0 0 (va_A [((a 0), f_x a), ((a 4), f_words a), ((a 47), .inl (g 0, 256, .inl (fun _ => 0))), ((a 1), f_net a), ((a 2), f_book a)] sz) := by
  refine met0 (cc := cX11_isNoImpossibleFound) (n := 2) (by decide) (Nat.le_of_ble_eq_true rfl) ?_
  intro p e s m args below meth c hx hb hr hml hown ht hlocks hnm hP0 hD0 hK hZ hsz hz ls hl
  subst hsz
  have hA : ∀ q : Nat, s.heap.size ≤ q → va_A [((a 0), f_x a), ((a 4), f_words a), ((a 47), .inl (g 0, 256, .inl (fun _ => 0))), ((a 1), f_net a), ((a 2), f_book a)] s.heap.size q := Anw
  have hAz : ∀ q, va_A [((a 0), f_x a), ((a 4), f_words a), ((a 47), .inl (g 0, 256, .inl (fun _ => 0))), ((a 1), f_net a), ((a 2), f_book a)] s.heap.size q → z0 ≤ q := Awz hz hD0
  have hS : va_S (va_A [((a 0), f_x a), ((a 4), f_words a), ((a 47), .inl (g 0, 256, .inl (fun _ => 0))), ((a 1), f_net a), ((a 2), f_book a)] s.heap.size) s.heap s.heap [] := va_S.rf
  have hD : va_D (va_A [((a 0), f_x a), ((a 4), f_words a), ((a 47), .inl (g 0, 256, .inl (fun _ => 0))), ((a 1), f_net a), ((a 2), f_book a)] s.heap.size) [((a 0), f_x a), ((a 4), f_words a), ((a 47), .inl (g 0, 256, .inl (fun _ => 0))), ((a 1), f_net a), ((a 2), f_book a)] := hD0.self
  have hP : va_P D vwCl [((a 0), f_x a), ((a 4), f_words a), ((a 47), .inl (g 0, 256, .inl (fun _ => 0))), ((a 1), f_net a), ((a 2), f_book a)] s.heap := hP0
  have hl : lv_has ls 2 [(0, .ref (a 0))] := hl
  refine lv_aload_n hx hb dX11_isNoImpossibleFound_0 rfl (lv_at hl 0 rfl) ?_
  refine va_get (D := D) (ci := 17) (v := .ref (a 4)) (C := RX11) (T := TX11) (N := 11) hx hb ht in_X11 hown hK.1 hP 0 rfl rfl 3 (by decide) (ht _ w_0) (fun _ h9 => h9) rfl dX11_isNoImpossibleFound_1 ?_
  have hPc : va_P D vwCl [((a 4), f_words a), ((a 47), .inl (g 0, 256, .inl (fun _ => 0))), ((a 1), f_net a), ((a 2), f_book a)] _ := hP.sub (ws' := [((a 4), f_words a), ((a 47), .inl (g 0, 256, .inl (fun _ => 0))), ((a 1), f_net a), ((a 2), f_book a)]) [1, 2, 3, 4] rfl
  have hDc : va_D (fun q => z0 ≤ q) [((a 4), f_words a), ((a 47), .inl (g 0, 256, .inl (fun _ => 0))), ((a 1), f_net a), ((a 2), f_book a)] := (hD.to hAz).pick (ws' := [((a 4), f_words a), ((a 47), .inl (g 0, 256, .inl (fun _ => 0))), ((a 1), f_net a), ((a 2), f_book a)]) [1, 2, 3, 4] (by decide) rfl
  have hFc := va_free (wc := [((a 4), f_words a), ((a 47), .inl (g 0, 256, .inl (fun _ => 0))), ((a 1), f_net a), ((a 2), f_book a)]) hD hS hA [1, 2, 3, 4] rfl
  refine va_callv (va_runV (As := []) (rest := []) ⟨hx, hb, hml, hown, ht⟩ (k_X10_countAllWays l D g z0 _ a) (cwV 0 ht (gV w_207 w_209 w_210 w_14 w_208) rfl rfl rfl (by decide +kernel) (le2 rfl rfl)) ⟨PP.blind, va_recv hK.1 hP (ci := 16) (q0 := 1) rfl rfl, PP.mk' hK hZ hz hAz hS hPc hDc⟩ rfl rfl hl.1 rfl (lv_room (Nat.le_of_ble_eq_true rfl)) dX11_isNoImpossibleFound_4 (le2 rfl rfl)) hS (fun q _ h => hFc q h) hFc (fun u t H locs ht1 hvm hw hB hz1 hk1 hS => ?_)
  obtain ⟨hP1, hD1⟩ := hB
  rw [ht1] at hP1
  obtain ⟨hP, hD⟩ := va_join (wr := [((a 0), f_x a)]) (w1 := [((a 47), .inl (g 0, 256, .inl (fun _ => 0))), ((a 4), .inr (16, [.ref (a 1), .ref (a 2), .ref (a 38), .ref (a 39), .ref (a 40), .ref (a 41), .ref (a 42), .ref (a 43), .ref (a 44), .ref (a 45), .ref (a 46), .ref (a 47), .long 1, .long 0, .long 0, .int 0, .int (-1)])), ((a 1), f_net a), ((a 2), f_book a)]) hP hD [1, 2, 3, 4] [0] rfl rfl (by decide) (by decide) hk1 hFc hP1 hD1
  have hP : va_P D vwCl [((a 0), f_x a), ((a 47), .inl (g 0, 256, .inl (fun _ => 0))), ((a 4), .inr (16, [.ref (a 1), .ref (a 2), .ref (a 38), .ref (a 39), .ref (a 40), .ref (a 41), .ref (a 42), .ref (a 43), .ref (a 44), .ref (a 45), .ref (a 46), .ref (a 47), .long 1, .long 0, .long 0, .int 0, .int (-1)])), ((a 1), f_net a), ((a 2), f_book a)] H := hP
  have hD : va_D (va_A [((a 0), f_x a), ((a 4), f_words a), ((a 47), .inl (g 0, 256, .inl (fun _ => 0))), ((a 1), f_net a), ((a 2), f_book a)] s.heap.size) [((a 0), f_x a), ((a 47), .inl (g 0, 256, .inl (fun _ => 0))), ((a 4), .inr (16, [.ref (a 1), .ref (a 2), .ref (a 38), .ref (a 39), .ref (a 40), .ref (a 41), .ref (a 42), .ref (a 43), .ref (a 44), .ref (a 45), .ref (a 46), .ref (a 47), .long 1, .long 0, .long 0, .int 0, .int (-1)])), ((a 1), f_net a), ((a 2), f_book a)] := hD
  refine lv_iconst (v := 0) hx hb dX11_isNoImpossibleFound_7 (by decide) ?_
  refine lv_istore_n (lv' := [(1, .int 0), (0, .ref (a 0))]) hx hb dX11_isNoImpossibleFound_8 rfl hl (by decide) rfl (fun ls hl => ?_)
  refine lv_iload_n hx hb dX11_isNoImpossibleFound_9 rfl (lv_at hl 0 rfl) ?_
  refine lv_aload_n hx hb dX11_isNoImpossibleFound_10 rfl (lv_at hl 1 rfl) ?_
  refine va_get (D := D) (ci := 17) (v := .ref (a 2)) (C := RX11) (T := TX11) (N := 11) hx hb ht in_X11 hown hK.1 hP 0 rfl rfl 1 (by decide) (ht _ w_32) (fun _ h9 => h9) rfl dX11_isNoImpossibleFound_11 ?_
  refine va_get (D := D) (ci := 9) (v := .int 0) (C := RX3) (T := TX3) (N := 14) hx hb ht in_X3 hown hK.1 hP 4 rfl rfl 11 (by decide) (ht _ w_33) (fun _ h9 => h9) rfl dX11_isNoImpossibleFound_14 ?_
  refine lv_icmp_ge (tgt := 65) hx hb dX11_isNoImpossibleFound_17 (by decide) (fun c_1 => ?_) (fun c_1 => ?_)
  · refine lv_iconst (v := 1) hx hb dX11_isNoImpossibleFound_65 (by decide) ?_
    have hP9 := hP.sub (ws' := [((a 0), f_x a), ((a 47), .inl (g 0, 256, .inl (fun _ => 0))), ((a 4), .inr (16, [.ref (a 1), .ref (a 2), .ref (a 38), .ref (a 39), .ref (a 40), .ref (a 41), .ref (a 42), .ref (a 43), .ref (a 44), .ref (a 45), .ref (a 46), .ref (a 47), .long 1, .long 0, .long 0, .int 0, .int (-1)])), ((a 1), f_net a), ((a 2), f_book a)]) [0, 1, 2, 3, 4] rfl
    have hD9 := hD.sub (ws' := [((a 0), f_x a), ((a 47), .inl (g 0, 256, .inl (fun _ => 0))), ((a 4), .inr (16, [.ref (a 1), .ref (a 2), .ref (a 38), .ref (a 39), .ref (a 40), .ref (a 41), .ref (a 42), .ref (a 43), .ref (a 44), .ref (a 45), .ref (a 46), .ref (a 47), .long 1, .long 0, .long 0, .int 0, .int (-1)])), ((a 1), f_net a), ((a 2), f_book a)]) [0, 1, 2, 3, 4] (by decide) rfl
    refine W.widen (k := 0) (n := 0) (Nat.le_of_ble_eq_true rfl) (Nat.le_of_ble_eq_true rfl) ?_
    exact W.zret (v := 1) hx hb hr rfl (fun t ht9 hW9 => ⟨⟨1, (), rfl, ⟨rfl, trivial⟩, ⟨(by rw [ht9]; exact hP9), hD9⟩⟩, hS.F ht9⟩) hS.2.2 dX11_isNoImpossibleFound_66 hlocks
  · exact absurd c_1 (by decide)
set_option maxHeartbeats 4000000 in
set_option maxRecDepth 100000 in
theorem k_X11_isChipTold (l : Launch) (D : va_G) (g : Nat → ClassId) (z0 sz : Nat) (a : Nat → Nat) : Met l yX11_isChipTold (.code yX11_isChipTold cX11_isChipTold 1 (some .boolean) :: TG) (rmk 0 0 0 0) (va_Pc [.ref (a 0)] (PP D g z0 sz [((a 0), f_x a), ((a 8), f_chip a)])) (va_Qi (fun (r : Int32) (u : Unit) => (r = 1) ∧ True) (fun (_ : Unit) (_ : State) => True) (va_A [] sz)) 0 0 (va_A [] sz) := by
  refine met0 (cc := cX11_isChipTold) (n := 1) (by decide) (Nat.le_of_ble_eq_true rfl) ?_
  intro p e s m args below meth c hx hb hr hml hown ht hlocks hnm hP0 hD0 hK hZ hsz hz ls hl
  subst hsz
  have hA : ∀ q : Nat, s.heap.size ≤ q → va_A [] s.heap.size q := Anw
  have hAz : ∀ q, va_A [] s.heap.size q → z0 ≤ q := A0z hz
  have hS : va_S (va_A [] s.heap.size) s.heap s.heap [] := va_S.rf
  have hl : lv_has ls 1 [(0, .ref (a 0))] := hl
  refine lv_aload_n hx hb dX11_isChipTold_0 rfl (lv_at hl 0 rfl) ?_
  refine va_get (D := D) (ci := 17) (v := .ref (a 8)) (C := RX11) (T := TX11) (N := 11) hx hb ht in_X11 hown hK.1 (ro0 hP0 hS) 0 rfl rfl 7 (by decide) (ht _ w_86) (fun _ h9 => h9) rfl dX11_isChipTold_1 ?_
  refine va_get (D := D) (ci := 7) (v := .int 0) (C := RX1) (T := TX1) (N := 13) hx hb ht in_X1 hown hK.1 (ro0 hP0 hS) 1 rfl rfl 10 (by decide) (ht _ w_234) (fun _ h9 => h9) rfl dX11_isChipTold_4 ?_
  refine lv_iconst (v := 1) hx hb dX11_isChipTold_7 (by decide) ?_
  refine lv_icmp_eq (tgt := 13) hx hb dX11_isChipTold_8 (by decide) (fun c_1 => ?_) (fun c_1 => ?_)
  · exact absurd c_1 (by decide)
  · refine lv_iconst (v := 1) hx hb dX11_isChipTold_11 (by decide) ?_
    refine W.widen (k := 0) (n := 0) (Nat.le_of_ble_eq_true rfl) (Nat.le_of_ble_eq_true rfl) ?_
    exact W.zret (v := 1) hx hb hr rfl (fun t ht9 hW9 => ⟨⟨1, (), rfl, ⟨rfl, trivial⟩, trivial⟩, hS.F ht9⟩) hS.2.2 dX11_isChipTold_12 hlocks
set_option maxHeartbeats 4000000 in
set_option maxRecDepth 100000 in
theorem k_X11_isSound (l : Launch) (D : va_G) (g : Nat → ClassId) (z0 sz : Nat) (a : Nat → Nat) : Met l yX11_isSound (.code yX11_isSound cX11_isSound 1 (some .boolean) :: TG) (rmk 4 0 0 90) (va_Pc [.ref (a 0)] (PP D g z0 sz [((a 0), f_x a), ((a 3), f_rows a), ((a 4), f_words a), ((a 38), .inl (g 1, 12, .inr (.inl (fun _ => 0)))), ((a 39), .inl (g 1, 12, .inr (.inl (fun _ => 0)))), ((a 1), f_net a), ((a 2), f_book a), ((a 47), .inl (g 0, 256, .inl (fun _ => 0))), ((a 8), f_chip a)])) (va_Qi (fun (r : Int32) (u : Unit) => (r = 1) ∧ True) (fun (u : Unit) (t : State) => va_P D vwCl [] t.heap ∧ va_D (va_A [((a 0), f_x a), ((a 3), f_rows a), ((a 4), f_words a), ((a 38), .inl (g 1, 12, .inr (.inl (fun _ => 0)))), ((a 39), .inl (g 1, 12, .inr (.inl (fun _ => 0)))), ((a 1), f_net a), ((a 2), f_book a), ((a 47), .inl (g 0, 256, .inl (fun _ => 0))), ((a 8), f_chip a)] sz) []) (va_A [((a 0), f_x a), ((a 3), f_rows a), ((a 4), f_words a), ((a 38), .inl (g 1, 12, .inr (.inl (fun _ => 0)))), ((a 39), .inl (g 1, 12, .inr (.inl (fun _ => 0)))), ((a 1), f_net a), ((a 2), f_book a), ((a 47), .inl (g 0, 256, .inl (fun _ => 0))), ((a 8), f_chip a)] sz)) 0 0 (va_A [((a 0), f_x a), ((a 3), f_rows a), ((a 4), f_words a), ((a 38), .inl (g 1, 12, .inr (.inl (fun _ => 0)))), ((a 39), .inl (g 1, 12, .inr (.inl (fun _ => 0)))), ((a 1), f_net a), ((a 2), f_book a), ((a 47), .inl (g 0, 256, .inl (fun _ => 0))), ((a 8), f_chip a)] sz) := by
  refine met0 (cc := cX11_isSound) (n := 1) (by decide) (Nat.le_of_ble_eq_true rfl) ?_
  intro p e s m args below meth c hx hb hr hml hown ht hlocks hnm hP0 hD0 hK hZ hsz hz ls hl
  subst hsz
  have hA : ∀ q : Nat, s.heap.size ≤ q → va_A [((a 0), f_x a), ((a 3), f_rows a), ((a 4), f_words a), ((a 38), .inl (g 1, 12, .inr (.inl (fun _ => 0)))), ((a 39), .inl (g 1, 12, .inr (.inl (fun _ => 0)))), ((a 1), f_net a), ((a 2), f_book a), ((a 47), .inl (g 0, 256, .inl (fun _ => 0))), ((a 8), f_chip a)] s.heap.size q := Anw
  have hAz : ∀ q, va_A [((a 0), f_x a), ((a 3), f_rows a), ((a 4), f_words a), ((a 38), .inl (g 1, 12, .inr (.inl (fun _ => 0)))), ((a 39), .inl (g 1, 12, .inr (.inl (fun _ => 0)))), ((a 1), f_net a), ((a 2), f_book a), ((a 47), .inl (g 0, 256, .inl (fun _ => 0))), ((a 8), f_chip a)] s.heap.size q → z0 ≤ q := Awz hz hD0
  have hS : va_S (va_A [((a 0), f_x a), ((a 3), f_rows a), ((a 4), f_words a), ((a 38), .inl (g 1, 12, .inr (.inl (fun _ => 0)))), ((a 39), .inl (g 1, 12, .inr (.inl (fun _ => 0)))), ((a 1), f_net a), ((a 2), f_book a), ((a 47), .inl (g 0, 256, .inl (fun _ => 0))), ((a 8), f_chip a)] s.heap.size) s.heap s.heap [] := va_S.rf
  have hD : va_D (va_A [((a 0), f_x a), ((a 3), f_rows a), ((a 4), f_words a), ((a 38), .inl (g 1, 12, .inr (.inl (fun _ => 0)))), ((a 39), .inl (g 1, 12, .inr (.inl (fun _ => 0)))), ((a 1), f_net a), ((a 2), f_book a), ((a 47), .inl (g 0, 256, .inl (fun _ => 0))), ((a 8), f_chip a)] s.heap.size) [((a 0), f_x a), ((a 3), f_rows a), ((a 4), f_words a), ((a 38), .inl (g 1, 12, .inr (.inl (fun _ => 0)))), ((a 39), .inl (g 1, 12, .inr (.inl (fun _ => 0)))), ((a 1), f_net a), ((a 2), f_book a), ((a 47), .inl (g 0, 256, .inl (fun _ => 0))), ((a 8), f_chip a)] := hD0.self
  have hP : va_P D vwCl [((a 0), f_x a), ((a 3), f_rows a), ((a 4), f_words a), ((a 38), .inl (g 1, 12, .inr (.inl (fun _ => 0)))), ((a 39), .inl (g 1, 12, .inr (.inl (fun _ => 0)))), ((a 1), f_net a), ((a 2), f_book a), ((a 47), .inl (g 0, 256, .inl (fun _ => 0))), ((a 8), f_chip a)] s.heap := hP0
  have hl : lv_has ls 1 [(0, .ref (a 0))] := hl
  refine lv_aload_n hx hb dX11_isSound_0 rfl (lv_at hl 0 rfl) ?_
  refine va_get (D := D) (ci := 17) (v := .ref (a 4)) (C := RX11) (T := TX11) (N := 11) hx hb ht in_X11 hown hK.1 hP 0 rfl rfl 3 (by decide) (ht _ w_0) (fun _ h9 => h9) rfl dX11_isSound_1 ?_
  refine lv_aload_n hx hb dX11_isSound_4 rfl (lv_at hl 0 rfl) ?_
  refine va_get (D := D) (ci := 17) (v := .ref (a 3)) (C := RX11) (T := TX11) (N := 11) hx hb ht in_X11 hown hK.1 hP 0 rfl rfl 2 (by decide) (ht _ w_1) (fun _ h9 => h9) rfl dX11_isSound_5 ?_
  have hPc : va_P D vwCl [((a 3), f_rows a), ((a 4), f_words a), ((a 38), .inl (g 1, 12, .inr (.inl (fun _ => 0)))), ((a 39), .inl (g 1, 12, .inr (.inl (fun _ => 0)))), ((a 1), f_net a), ((a 2), f_book a)] _ := hP.sub (ws' := [((a 3), f_rows a), ((a 4), f_words a), ((a 38), .inl (g 1, 12, .inr (.inl (fun _ => 0)))), ((a 39), .inl (g 1, 12, .inr (.inl (fun _ => 0)))), ((a 1), f_net a), ((a 2), f_book a)]) [1, 2, 3, 4, 5, 6] rfl
  have hDc : va_D (fun q => z0 ≤ q) [((a 3), f_rows a), ((a 4), f_words a), ((a 38), .inl (g 1, 12, .inr (.inl (fun _ => 0)))), ((a 39), .inl (g 1, 12, .inr (.inl (fun _ => 0)))), ((a 1), f_net a), ((a 2), f_book a)] := (hD.to hAz).pick (ws' := [((a 3), f_rows a), ((a 4), f_words a), ((a 38), .inl (g 1, 12, .inr (.inl (fun _ => 0)))), ((a 39), .inl (g 1, 12, .inr (.inl (fun _ => 0)))), ((a 1), f_net a), ((a 2), f_book a)]) [1, 2, 3, 4, 5, 6] (by decide) rfl
  have hFc := va_free (wc := [((a 3), f_rows a), ((a 4), f_words a), ((a 38), .inl (g 1, 12, .inr (.inl (fun _ => 0)))), ((a 39), .inl (g 1, 12, .inr (.inl (fun _ => 0)))), ((a 1), f_net a), ((a 2), f_book a)]) hD hS hA [1, 2, 3, 4, 5, 6] rfl
  refine va_callv (va_runV (As := [.ref (a 3)]) (rest := []) ⟨hx, hb, hml, hown, ht⟩ (k_X10_findAll l D g z0 _ a) (cwV 1 ht (gV w_173 w_175 w_176 w_14 w_174) rfl rfl rfl (by decide +kernel) (le2 rfl rfl)) ⟨PP.blind, va_recv hK.1 hP (ci := 16) (q0 := 2) rfl rfl, PP.mk' hK hZ hz hAz hS hPc hDc⟩ rfl rfl hl.1 rfl (lv_room (Nat.le_of_ble_eq_true rfl)) dX11_isSound_8 (le2 rfl rfl)) hS (fun q _ h => hFc q h) hFc (fun u t H locs ht1 hvm hw hB hz1 hk1 hS => ?_)
  obtain ⟨hP1, hD1⟩ := hB
  rw [ht1] at hP1
  obtain ⟨hP, hD⟩ := va_join (wr := [((a 0), f_x a), ((a 47), .inl (g 0, 256, .inl (fun _ => 0))), ((a 8), f_chip a)]) (w1 := [((a 3), f_rows a), ((a 38), .inl (g 1, 12, .inr (.inl (fun _ => 0)))), ((a 39), .inl (g 1, 12, .inr (.inl (fun _ => 0)))), ((a 4), f_words a), ((a 1), f_net a), ((a 2), f_book a)]) hP hD [1, 2, 3, 4, 5, 6] [0, 7, 8] rfl rfl (by decide) (by decide) hk1 hFc hP1 hD1
  have hP : va_P D vwCl [((a 0), f_x a), ((a 47), .inl (g 0, 256, .inl (fun _ => 0))), ((a 8), f_chip a), ((a 3), f_rows a), ((a 38), .inl (g 1, 12, .inr (.inl (fun _ => 0)))), ((a 39), .inl (g 1, 12, .inr (.inl (fun _ => 0)))), ((a 4), f_words a), ((a 1), f_net a), ((a 2), f_book a)] H := hP
  have hD : va_D (va_A [((a 0), f_x a), ((a 3), f_rows a), ((a 4), f_words a), ((a 38), .inl (g 1, 12, .inr (.inl (fun _ => 0)))), ((a 39), .inl (g 1, 12, .inr (.inl (fun _ => 0)))), ((a 1), f_net a), ((a 2), f_book a), ((a 47), .inl (g 0, 256, .inl (fun _ => 0))), ((a 8), f_chip a)] s.heap.size) [((a 0), f_x a), ((a 47), .inl (g 0, 256, .inl (fun _ => 0))), ((a 8), f_chip a), ((a 3), f_rows a), ((a 38), .inl (g 1, 12, .inr (.inl (fun _ => 0)))), ((a 39), .inl (g 1, 12, .inr (.inl (fun _ => 0)))), ((a 4), f_words a), ((a 1), f_net a), ((a 2), f_book a)] := hD
  refine lv_aload_n hx hb dX11_isSound_11 rfl (lv_at hl 0 rfl) ?_
  have hPc : va_P D vwCl [((a 0), f_x a), ((a 3), f_rows a)] _ := hP.sub (ws' := [((a 0), f_x a), ((a 3), f_rows a)]) [0, 3] rfl
  have hDc : va_D (fun q => z0 ≤ q) [((a 0), f_x a), ((a 3), f_rows a)] := (hD.to hAz).pick (ws' := [((a 0), f_x a), ((a 3), f_rows a)]) [0, 3] (by decide) rfl
  have hFc := AnA (ws := [((a 0), f_x a), ((a 3), f_rows a), ((a 4), f_words a), ((a 38), .inl (g 1, 12, .inr (.inl (fun _ => 0)))), ((a 39), .inl (g 1, 12, .inr (.inl (fun _ => 0)))), ((a 1), f_net a), ((a 2), f_book a), ((a 47), .inl (g 0, 256, .inl (fun _ => 0))), ((a 8), f_chip a)]) hS.1
  refine va_calli (va_runV (As := []) (rest := []) ⟨hx, hb, hml, hown, ht⟩ (k_X11_doEnginesAgree l D g z0 _ a) (cwV 0 ht (gV w_222 w_224 w_225 w_31 w_223) rfl rfl rfl (by decide +kernel) (le2 rfl rfl)) ⟨PP.blind, va_recv hK.1 hP (ci := 17) (q0 := 0) rfl rfl, PP.mk' hK hZ hz hAz hS hPc hDc⟩ rfl rfl hl.1 rfl (lv_room (Nat.le_of_ble_eq_true rfl)) dX11_isSound_12 (le2 rfl rfl)) hS (fun q _ h => hFc q h) hFc (fun r u t H locs ht1 hvm hw hB hz1 hk1 hS => ?_)
  obtain ⟨rfl, hw⟩ := hw
  have hP := ro1 hP hk1
  refine lv_if_eq (tgt := 43) hx hb dX11_isSound_15 (by decide) (fun c_1 => ?_) (fun c_1 => ?_)
  · exact absurd c_1 (by decide)
  · refine lv_aload_n hx hb dX11_isSound_18 rfl (lv_at hl 0 rfl) ?_
    have hPc : va_P D vwCl [((a 0), f_x a), ((a 2), f_book a)] _ := hP.sub (ws' := [((a 0), f_x a), ((a 2), f_book a)]) [0, 8] rfl
    have hDc : va_D (fun q => z0 ≤ q) [((a 0), f_x a), ((a 2), f_book a)] := (hD.to hAz).pick (ws' := [((a 0), f_x a), ((a 2), f_book a)]) [0, 8] (by decide) rfl
    have hFc := AnA (ws := [((a 0), f_x a), ((a 3), f_rows a), ((a 4), f_words a), ((a 38), .inl (g 1, 12, .inr (.inl (fun _ => 0)))), ((a 39), .inl (g 1, 12, .inr (.inl (fun _ => 0)))), ((a 1), f_net a), ((a 2), f_book a), ((a 47), .inl (g 0, 256, .inl (fun _ => 0))), ((a 8), f_chip a)]) hS.1
    refine va_calli (va_runV (As := []) (rest := []) ⟨hx, hb, hml, hown, ht⟩ (k_X11_areLikesFoundAlike l D g z0 _ a) (cwV 0 ht (gV w_226 w_228 w_229 w_31 w_227) rfl rfl rfl (by decide +kernel) (le2 rfl rfl)) ⟨PP.blind, va_recv hK.1 hP (ci := 17) (q0 := 0) rfl rfl, PP.mk' hK hZ hz hAz hS hPc hDc⟩ rfl rfl hl.1 rfl (lv_room (Nat.le_of_ble_eq_true rfl)) dX11_isSound_19 (le2 rfl rfl)) hS (fun q _ h => hFc q h) hFc (fun r u t H locs ht1 hvm hw hB hz1 hk1 hS => ?_)
    obtain ⟨rfl, hw⟩ := hw
    have hP := ro1 hP hk1
    refine lv_if_eq (tgt := 43) hx hb dX11_isSound_22 (by decide) (fun c_2 => ?_) (fun c_2 => ?_)
    · exact absurd c_2 (by decide)
    · refine lv_aload_n hx hb dX11_isSound_25 rfl (lv_at hl 0 rfl) ?_
      have hPc : va_P D vwCl [((a 0), f_x a), ((a 4), f_words a), ((a 47), .inl (g 0, 256, .inl (fun _ => 0))), ((a 1), f_net a), ((a 2), f_book a)] _ := hP.sub (ws' := [((a 0), f_x a), ((a 4), f_words a), ((a 47), .inl (g 0, 256, .inl (fun _ => 0))), ((a 1), f_net a), ((a 2), f_book a)]) [0, 6, 1, 7, 8] rfl
      have hDc : va_D (fun q => z0 ≤ q) [((a 0), f_x a), ((a 4), f_words a), ((a 47), .inl (g 0, 256, .inl (fun _ => 0))), ((a 1), f_net a), ((a 2), f_book a)] := (hD.to hAz).pick (ws' := [((a 0), f_x a), ((a 4), f_words a), ((a 47), .inl (g 0, 256, .inl (fun _ => 0))), ((a 1), f_net a), ((a 2), f_book a)]) [0, 6, 1, 7, 8] (by decide) rfl
      have hFc := va_free (wc := [((a 0), f_x a), ((a 4), f_words a), ((a 47), .inl (g 0, 256, .inl (fun _ => 0))), ((a 1), f_net a), ((a 2), f_book a)]) hD hS hA [0, 6, 1, 7, 8] rfl
      refine va_calli (va_runV (As := []) (rest := []) ⟨hx, hb, hml, hown, ht⟩ (k_X11_isNoImpossibleFound l D g z0 _ a) (cwV 0 ht (gV w_230 w_232 w_233 w_31 w_231) rfl rfl rfl (by decide +kernel) (le2 rfl rfl)) ⟨PP.blind, va_recv hK.1 hP (ci := 17) (q0 := 0) rfl rfl, PP.mk' hK hZ hz hAz hS hPc hDc⟩ rfl rfl hl.1 rfl (lv_room (Nat.le_of_ble_eq_true rfl)) dX11_isSound_26 (le2 rfl rfl)) hS (fun q _ h => hFc q h) hFc (fun r u t H locs ht1 hvm hw hB hz1 hk1 hS => ?_)
      obtain ⟨rfl, hw⟩ := hw
      obtain ⟨hP1, hD1⟩ := hB
      rw [ht1] at hP1
      obtain ⟨hP, hD⟩ := va_join (wr := [((a 8), f_chip a), ((a 3), f_rows a), ((a 38), .inl (g 1, 12, .inr (.inl (fun _ => 0)))), ((a 39), .inl (g 1, 12, .inr (.inl (fun _ => 0))))]) (w1 := [((a 0), f_x a), ((a 47), .inl (g 0, 256, .inl (fun _ => 0))), ((a 4), .inr (16, [.ref (a 1), .ref (a 2), .ref (a 38), .ref (a 39), .ref (a 40), .ref (a 41), .ref (a 42), .ref (a 43), .ref (a 44), .ref (a 45), .ref (a 46), .ref (a 47), .long 1, .long 0, .long 0, .int 0, .int (-1)])), ((a 1), f_net a), ((a 2), f_book a)]) hP hD [0, 6, 1, 7, 8] [2, 3, 4, 5] rfl rfl (by decide) (by decide) hk1 hFc hP1 hD1
      have hP : va_P D vwCl [((a 8), f_chip a), ((a 3), f_rows a), ((a 38), .inl (g 1, 12, .inr (.inl (fun _ => 0)))), ((a 39), .inl (g 1, 12, .inr (.inl (fun _ => 0)))), ((a 0), f_x a), ((a 47), .inl (g 0, 256, .inl (fun _ => 0))), ((a 4), .inr (16, [.ref (a 1), .ref (a 2), .ref (a 38), .ref (a 39), .ref (a 40), .ref (a 41), .ref (a 42), .ref (a 43), .ref (a 44), .ref (a 45), .ref (a 46), .ref (a 47), .long 1, .long 0, .long 0, .int 0, .int (-1)])), ((a 1), f_net a), ((a 2), f_book a)] H := hP
      have hD : va_D (va_A [((a 0), f_x a), ((a 3), f_rows a), ((a 4), f_words a), ((a 38), .inl (g 1, 12, .inr (.inl (fun _ => 0)))), ((a 39), .inl (g 1, 12, .inr (.inl (fun _ => 0)))), ((a 1), f_net a), ((a 2), f_book a), ((a 47), .inl (g 0, 256, .inl (fun _ => 0))), ((a 8), f_chip a)] s.heap.size) [((a 8), f_chip a), ((a 3), f_rows a), ((a 38), .inl (g 1, 12, .inr (.inl (fun _ => 0)))), ((a 39), .inl (g 1, 12, .inr (.inl (fun _ => 0)))), ((a 0), f_x a), ((a 47), .inl (g 0, 256, .inl (fun _ => 0))), ((a 4), .inr (16, [.ref (a 1), .ref (a 2), .ref (a 38), .ref (a 39), .ref (a 40), .ref (a 41), .ref (a 42), .ref (a 43), .ref (a 44), .ref (a 45), .ref (a 46), .ref (a 47), .long 1, .long 0, .long 0, .int 0, .int (-1)])), ((a 1), f_net a), ((a 2), f_book a)] := hD
      refine lv_if_eq (tgt := 43) hx hb dX11_isSound_29 (by decide) (fun c_3 => ?_) (fun c_3 => ?_)
      · exact absurd c_3 (by decide)
      · refine lv_aload_n hx hb dX11_isSound_32 rfl (lv_at hl 0 rfl) ?_
        have hPc : va_P D vwCl [((a 0), f_x a), ((a 8), f_chip a)] _ := hP.sub (ws' := [((a 0), f_x a), ((a 8), f_chip a)]) [4, 0] rfl
        have hDc : va_D (fun q => z0 ≤ q) [((a 0), f_x a), ((a 8), f_chip a)] := (hD.to hAz).pick (ws' := [((a 0), f_x a), ((a 8), f_chip a)]) [4, 0] (by decide) rfl
        have hFc := AnA (ws := [((a 0), f_x a), ((a 3), f_rows a), ((a 4), f_words a), ((a 38), .inl (g 1, 12, .inr (.inl (fun _ => 0)))), ((a 39), .inl (g 1, 12, .inr (.inl (fun _ => 0)))), ((a 1), f_net a), ((a 2), f_book a), ((a 47), .inl (g 0, 256, .inl (fun _ => 0))), ((a 8), f_chip a)]) hS.1
        refine va_calli (va_runV (As := []) (rest := []) ⟨hx, hb, hml, hown, ht⟩ (k_X11_isChipTold l D g z0 _ a) (cwV 0 ht (gV w_235 w_237 w_238 w_31 w_236) rfl rfl rfl (by decide +kernel) (le2 rfl rfl)) ⟨PP.blind, va_recv hK.1 hP (ci := 17) (q0 := 4) rfl rfl, PP.mk' hK hZ hz hAz hS hPc hDc⟩ rfl rfl hl.1 rfl (lv_room (Nat.le_of_ble_eq_true rfl)) dX11_isSound_33 (le2 rfl rfl)) hS (fun q _ h => hFc q h) hFc (fun r u t H locs ht1 hvm hw hB hz1 hk1 hS => ?_)
        obtain ⟨rfl, hw⟩ := hw
        have hP := ro1 hP hk1
        refine lv_if_eq (tgt := 43) hx hb dX11_isSound_36 (by decide) (fun c_4 => ?_) (fun c_4 => ?_)
        · exact absurd c_4 (by decide)
        · refine lv_iconst (v := 1) hx hb dX11_isSound_39 (by decide) ?_
          refine lv_goto (tgt := 44) hx hb dX11_isSound_40 (by decide) ?_
          have hP9 := hP.sub (ws' := []) [] rfl
          have hD9 := hD.sub (ws' := []) [] (by decide) rfl
          refine W.widen (k := 0) (n := 0) (Nat.le_of_ble_eq_true rfl) (Nat.le_of_ble_eq_true rfl) ?_
          exact W.zret (v := 1) hx hb hr rfl (fun t ht9 hW9 => ⟨⟨1, (), rfl, ⟨rfl, trivial⟩, ⟨(by rw [ht9]; exact hP9), hD9⟩⟩, hS.F ht9⟩) hS.2.2 dX11_isSound_44 hlocks
set_option maxHeartbeats 4000000 in
set_option maxRecDepth 100000 in
theorem k_X11_known (l : Launch) (hfl : l.stackTraces = false) (D : va_G) (g : Nat → ClassId) (z0 sz : Nat) (a : Nat → Nat) (p0 : Int32) (p1 : Int32) : vx_Met l yX11_known (.code yX11_known cX11_known 3 (some .int) :: TG) (rmk 7 1 6 102) (va_Pc [.ref (a 0), .int p0, .int p1] (PP D g z0 sz [((a 0), f_x a), ((a 3), f_rows a)])) (va_Qi (fun (r : Int32) (u : Unit) => False) (fun (_ : Unit) (_ : State) => True) (va_A [] sz)) (vx_X (fun _ : Unit => True) (fun E _ _ => (E = "java/lang/IndexOutOfBoundsException" ∧ True)) (va_A [] sz)) 1 6 (va_A [] sz) := by
  refine vxm0 (cc := cX11_known) (n := 3) (by decide) (Nat.le_of_ble_eq_true rfl) ?_
  intro p e s m args below meth c hx hb hr hml htab hown ht hlocks hnm hP0 hD0 hK hZ hsz hz ls hl
  subst hsz
  have hA : ∀ q : Nat, s.heap.size ≤ q → va_A [] s.heap.size q := Anw
  have hAz : ∀ q, va_A [] s.heap.size q → z0 ≤ q := A0z hz
  have hS : va_S (va_A [] s.heap.size) s.heap s.heap [] := va_S.rf
  have hl : lv_has ls 3 [(0, .ref (a 0)), (1, .int p0), (2, .int p1)] := hl
  refine lv_aload_n hx hb dX11_known_0 rfl (lv_at hl 0 rfl) ?_
  refine lv_iload_n hx hb dX11_known_1 rfl (lv_at hl 1 rfl) ?_
  have hPc : va_P D vwCl [((a 0), f_x a), ((a 3), f_rows a)] _ := (ro0 hP0 hS).sub (ws' := [((a 0), f_x a), ((a 3), f_rows a)]) [0, 1] rfl
  have hDc : va_D (fun q => z0 ≤ q) [((a 0), f_x a), ((a 3), f_rows a)] := hD0.pick (ws' := [((a 0), f_x a), ((a 3), f_rows a)]) [0, 1] (by decide) rfl
  have hFc := AnA (ws := []) hS.1
  refine vx_callv (vx_runV (As := [.int p0]) (rest := []) ⟨hx, hb, hml, hown, ht⟩ (k_X11_needPattern l hfl D g z0 _ a p0) (cwV 1 ht (gV w_184 w_186 w_187 w_31 w_185) rfl rfl rfl (by decide +kernel) (le2 rfl rfl)) ⟨PP.blind, va_recv hK.1 (ro0 hP0 hS) (ci := 17) (q0 := 0) rfl rfl, PP.mk' hK hZ hz hAz hS hPc hDc⟩ rfl rfl hl.1 rfl (lv_room (Nat.le_of_ble_eq_true rfl)) dX11_known_2 (le2 rfl rfl)) hS (fun q _ h => hFc q h) hFc (fun q _ h => hFc q h) (fun E ce q9 u t H locs ht1 hvm hw hB hz1 hk1 hS hcell hv9 hcl => ?_) (fun u t H locs ht1 hvm hw hB hz1 hk1 hS => ?_)
  · obtain ⟨rfl, hB⟩ := hB
    exact out0 htab hlocks hS hcell hv9 hcl (fun t _ hF => ⟨(), trivial, ⟨rfl, trivial⟩, hF⟩) (fun _ h => h) rfl rfl
  · exact hw.elim
set_option maxHeartbeats 4000000 in
set_option maxRecDepth 100000 in
theorem k_X11_needRoomForCores (l : Launch) (hfl : l.stackTraces = false) (D : va_G) (g : Nat → ClassId) (z0 sz : Nat) (a : Nat → Nat) (p0 : Int32) (p1 : Int32) : vx_Met l yX11_needRoomForCores (.code yX11_needRoomForCores cX11_needRoomForCores 3 none :: TG) (rmk 6 1 6 81) (va_Pc [.ref (a 0), .int p0, .int p1] (PP D g z0 sz [((a 0), f_x a), ((a 11), f_cores a)])) (va_Qv (fun (u : Unit) => False) (fun (_ : Unit) (_ : State) => True) (va_A [] sz)) (vx_X (fun _ : Unit => True) (fun E _ _ => (E = "java/util/NoSuchElementException" ∧ True)) (va_A [] sz)) 1 6 (va_A [] sz) := by
  refine vxm0 (cc := cX11_needRoomForCores) (n := 3) (by decide) (Nat.le_of_ble_eq_true rfl) ?_
  intro p e s m args below meth c hx hb hr hml htab hown ht hlocks hnm hP0 hD0 hK hZ hsz hz ls hl
  subst hsz
  have hA : ∀ q : Nat, s.heap.size ≤ q → va_A [] s.heap.size q := Anw
  have hAz : ∀ q, va_A [] s.heap.size q → z0 ≤ q := A0z hz
  have hS : va_S (va_A [] s.heap.size) s.heap s.heap [] := va_S.rf
  have hl : lv_has ls 3 [(0, .ref (a 0)), (1, .int p0), (2, .int p1)] := hl
  refine lv_aload_n hx hb dX11_needRoomForCores_0 rfl (lv_at hl 0 rfl) ?_
  refine va_get (D := D) (ci := 17) (v := .ref (a 11)) (C := RX11) (T := TX11) (N := 11) hx hb ht in_X11 hown hK.1 (ro0 hP0 hS) 0 rfl rfl 10 (by decide) (ht _ w_51) (fun _ h9 => h9) rfl dX11_needRoomForCores_1 ?_
  refine va_get (D := D) (ci := 8) (v := .int 0) (C := RX2) (T := TX2) (N := 7) hx hb ht in_X2 hown hK.1 (ro0 hP0 hS) 1 rfl rfl 6 (by decide) (ht _ w_52) (fun _ h9 => h9) rfl dX11_needRoomForCores_4 ?_
  refine lv_if_eq (tgt := 22) hx hb dX11_needRoomForCores_7 (by decide) (fun c_1 => ?_) (fun c_1 => ?_)
  · exact thr0 hx hb hfl hown ht hK.2.2 hZ hAz hS hl hml htab hlocks (by decide +kernel) w_119 w_120 at_X11_312 dX11_needRoomForCores_22 dX11_needRoomForCores_25 dX11_needRoomForCores_26 dX11_needRoomForCores_29 rfl rfl rfl rfl (fun t _ hF => ⟨(), trivial, ⟨rfl, trivial⟩, hF⟩) (fun _ h => h) rfl rfl
  · exact absurd c_1 (by decide)
set_option maxHeartbeats 4000000 in
set_option maxRecDepth 100000 in
theorem k_X11_least (l : Launch) (hfl : l.stackTraces = false) (D : va_G) (g : Nat → ClassId) (z0 sz : Nat) (a : Nat → Nat) (p0 : Int32) (p1 : Int32) : vx_Met l yX11_least (.code yX11_least cX11_least 3 (some .int) :: TG) (rmk 7 1 6 103) (va_Pc [.ref (a 0), .int p0, .int p1] (PP D g z0 sz [((a 0), f_x a), ((a 11), f_cores a)])) (va_Qi (fun (r : Int32) (u : Unit) => False) (fun (_ : Unit) (_ : State) => True) (va_A [] sz)) (vx_X (fun _ : Unit => True) (fun E _ _ => (E = "java/util/NoSuchElementException" ∧ True)) (va_A [] sz)) 1 6 (va_A [] sz) := by
  refine vxm0 (cc := cX11_least) (n := 3) (by decide) (Nat.le_of_ble_eq_true rfl) ?_
  intro p e s m args below meth c hx hb hr hml htab hown ht hlocks hnm hP0 hD0 hK hZ hsz hz ls hl
  subst hsz
  have hA : ∀ q : Nat, s.heap.size ≤ q → va_A [] s.heap.size q := Anw
  have hAz : ∀ q, va_A [] s.heap.size q → z0 ≤ q := A0z hz
  have hS : va_S (va_A [] s.heap.size) s.heap s.heap [] := va_S.rf
  have hl : lv_has ls 3 [(0, .ref (a 0)), (1, .int p0), (2, .int p1)] := hl
  refine lv_aload_n hx hb dX11_least_0 rfl (lv_at hl 0 rfl) ?_
  refine lv_iload_n hx hb dX11_least_1 rfl (lv_at hl 1 rfl) ?_
  refine lv_iload_n hx hb dX11_least_2 rfl (lv_at hl 2 rfl) ?_
  have hPc : va_P D vwCl [((a 0), f_x a), ((a 11), f_cores a)] _ := (ro0 hP0 hS).sub (ws' := [((a 0), f_x a), ((a 11), f_cores a)]) [0, 1] rfl
  have hDc : va_D (fun q => z0 ≤ q) [((a 0), f_x a), ((a 11), f_cores a)] := hD0.pick (ws' := [((a 0), f_x a), ((a 11), f_cores a)]) [0, 1] (by decide) rfl
  have hFc := AnA (ws := []) hS.1
  refine vx_callv (vx_runV (As := [.int p0, .int p1]) (rest := []) ⟨hx, hb, hml, hown, ht⟩ (k_X11_needRoomForCores l hfl D g z0 _ a p0 p1) (cwV 2 ht (gV w_239 w_241 w_242 w_31 w_240) rfl rfl rfl (by decide +kernel) (le2 rfl rfl)) ⟨PP.blind, va_recv hK.1 (ro0 hP0 hS) (ci := 17) (q0 := 0) rfl rfl, PP.mk' hK hZ hz hAz hS hPc hDc⟩ rfl rfl hl.1 rfl (lv_room (Nat.le_of_ble_eq_true rfl)) dX11_least_3 (le2 rfl rfl)) hS (fun q _ h => hFc q h) hFc (fun q _ h => hFc q h) (fun E ce q9 u t H locs ht1 hvm hw hB hz1 hk1 hS hcell hv9 hcl => ?_) (fun u t H locs ht1 hvm hw hB hz1 hk1 hS => ?_)
  · obtain ⟨rfl, hB⟩ := hB
    exact out0 htab hlocks hS hcell hv9 hcl (fun t _ hF => ⟨(), trivial, ⟨rfl, trivial⟩, hF⟩) (fun _ h => h) rfl rfl
  · exact hw.elim
set_option maxHeartbeats 4000000 in
set_option maxRecDepth 100000 in
theorem k_X11_lineOf (l : Launch) (hfl : l.stackTraces = false) (D : va_G) (g : Nat → ClassId) (z0 sz : Nat) (a : Nat → Nat) (p0 : Int32) : vx_Met l yX11_lineOf (.code yX11_lineOf cX11_lineOf 2 (some .int) :: TG) (rmk 7 1 6 102) (va_Pc [.ref (a 0), .int p0] (PP D g z0 sz [((a 0), f_x a), ((a 2), f_book a)])) (va_Qi (fun (r : Int32) (u : Unit) => False) (fun (_ : Unit) (_ : State) => True) (va_A [] sz)) (vx_X (fun _ : Unit => True) (fun E _ _ => (E = "java/lang/IndexOutOfBoundsException" ∧ True)) (va_A [] sz)) 1 6 (va_A [] sz) := by
  refine vxm0 (cc := cX11_lineOf) (n := 2) (by decide) (Nat.le_of_ble_eq_true rfl) ?_
  intro p e s m args below meth c hx hb hr hml htab hown ht hlocks hnm hP0 hD0 hK hZ hsz hz ls hl
  subst hsz
  have hA : ∀ q : Nat, s.heap.size ≤ q → va_A [] s.heap.size q := Anw
  have hAz : ∀ q, va_A [] s.heap.size q → z0 ≤ q := A0z hz
  have hS : va_S (va_A [] s.heap.size) s.heap s.heap [] := va_S.rf
  have hl : lv_has ls 2 [(0, .ref (a 0)), (1, .int p0)] := hl
  refine lv_aload_n hx hb dX11_lineOf_0 rfl (lv_at hl 0 rfl) ?_
  refine lv_iload_n hx hb dX11_lineOf_1 rfl (lv_at hl 1 rfl) ?_
  have hPc : va_P D vwCl [((a 0), f_x a), ((a 2), f_book a)] _ := (ro0 hP0 hS).sub (ws' := [((a 0), f_x a), ((a 2), f_book a)]) [0, 1] rfl
  have hDc : va_D (fun q => z0 ≤ q) [((a 0), f_x a), ((a 2), f_book a)] := hD0.pick (ws' := [((a 0), f_x a), ((a 2), f_book a)]) [0, 1] (by decide) rfl
  have hFc := AnA (ws := []) hS.1
  refine vx_callv (vx_runV (As := [.int p0]) (rest := []) ⟨hx, hb, hml, hown, ht⟩ (k_X11_needFault l hfl D g z0 _ a p0) (cwV 1 ht (gV w_37 w_39 w_40 w_31 w_38) rfl rfl rfl (by decide +kernel) (le2 rfl rfl)) ⟨PP.blind, va_recv hK.1 (ro0 hP0 hS) (ci := 17) (q0 := 0) rfl rfl, PP.mk' hK hZ hz hAz hS hPc hDc⟩ rfl rfl hl.1 rfl (lv_room (Nat.le_of_ble_eq_true rfl)) dX11_lineOf_2 (le2 rfl rfl)) hS (fun q _ h => hFc q h) hFc (fun q _ h => hFc q h) (fun E ce q9 u t H locs ht1 hvm hw hB hz1 hk1 hS hcell hv9 hcl => ?_) (fun u t H locs ht1 hvm hw hB hz1 hk1 hS => ?_)
  · obtain ⟨rfl, hB⟩ := hB
    exact out0 htab hlocks hS hcell hv9 hcl (fun t _ hF => ⟨(), trivial, ⟨rfl, trivial⟩, hF⟩) (fun _ h => h) rfl rfl
  · exact hw.elim
set_option maxHeartbeats 4000000 in
set_option maxRecDepth 100000 in
theorem k_X11_make (l : Launch) (hfl : l.stackTraces = false) (D : va_G) (g : Nat → ClassId) (z0 sz : Nat) (a : Nat → Nat) (p0 : Int32) : vx_Met l yX11_make (.code yX11_make cX11_make 6 (some .int) :: TG) (rmk 8 1 6 123) (va_Pc [.ref (a 0), .int p0] (PP D g z0 sz [((a 0), f_x a), ((a 2), f_book a)])) (va_Qi (fun (r : Int32) (u : Unit) => False) (fun (_ : Unit) (_ : State) => True) (va_A [] sz)) (vx_X (fun _ : Unit => True) (fun E _ _ => (E = "java/lang/IndexOutOfBoundsException" ∧ True)) (va_A [] sz)) 1 6 (va_A [] sz) := by
  refine vxm0 (cc := cX11_make) (n := 6) (by decide) (Nat.le_of_ble_eq_true rfl) ?_
  intro p e s m args below meth c hx hb hr hml htab hown ht hlocks hnm hP0 hD0 hK hZ hsz hz ls hl
  subst hsz
  have hA : ∀ q : Nat, s.heap.size ≤ q → va_A [] s.heap.size q := Anw
  have hAz : ∀ q, va_A [] s.heap.size q → z0 ≤ q := A0z hz
  have hS : va_S (va_A [] s.heap.size) s.heap s.heap [] := va_S.rf
  have hl : lv_has ls 6 [(0, .ref (a 0)), (1, .int p0)] := hl
  refine lv_aload_n hx hb dX11_make_0 rfl (lv_at hl 0 rfl) ?_
  refine lv_iload_n hx hb dX11_make_1 rfl (lv_at hl 1 rfl) ?_
  have hPc : va_P D vwCl [((a 0), f_x a), ((a 2), f_book a)] _ := (ro0 hP0 hS).sub (ws' := [((a 0), f_x a), ((a 2), f_book a)]) [0, 1] rfl
  have hDc : va_D (fun q => z0 ≤ q) [((a 0), f_x a), ((a 2), f_book a)] := hD0.pick (ws' := [((a 0), f_x a), ((a 2), f_book a)]) [0, 1] (by decide) rfl
  have hFc := AnA (ws := []) hS.1
  refine vx_callv (vx_runV (As := [.int p0]) (rest := []) ⟨hx, hb, hml, hown, ht⟩ (k_X11_needNotSlow l hfl D g z0 _ a p0) (cwV 1 ht (gV w_211 w_213 w_214 w_31 w_212) rfl rfl rfl (by decide +kernel) (le2 rfl rfl)) ⟨PP.blind, va_recv hK.1 (ro0 hP0 hS) (ci := 17) (q0 := 0) rfl rfl, PP.mk' hK hZ hz hAz hS hPc hDc⟩ rfl rfl hl.1 rfl (lv_room (Nat.le_of_ble_eq_true rfl)) dX11_make_2 (le2 rfl rfl)) hS (fun q _ h => hFc q h) hFc (fun q _ h => hFc q h) (fun E ce q9 u t H locs ht1 hvm hw hB hz1 hk1 hS hcell hv9 hcl => ?_) (fun u t H locs ht1 hvm hw hB hz1 hk1 hS => ?_)
  · obtain ⟨rfl, hB⟩ := hB
    exact out0 htab hlocks hS hcell hv9 hcl (fun t _ hF => ⟨(), trivial, ⟨rfl, trivial⟩, hF⟩) (fun _ h => h) rfl rfl
  · exact hw.elim
set_option maxHeartbeats 4000000 in
set_option maxRecDepth 100000 in
theorem k_X5_isElement (l : Launch) (D : va_G) (g : Nat → ClassId) (z0 sz : Nat) (a : Nat → Nat) (p0 : Int32) (hc_p0 : isC p0) : Met l yX5_isElement (.code yX5_isElement cX5_isElement 1 (some .boolean) :: TG) (rmk 0 0 0 0) (va_Pc [.int p0] (PP D g z0 sz [])) (va_Qi (fun (r : Int32) (u : Unit) => ((r = 1) ∧ ((p0 = 94) ∨ ((¬ p0 = 94) ∧ (p0 = 118)))) ∨ ((r = 0) ∧ ((¬ p0 = 94) ∧ (¬ p0 = 118)))) (fun (_ : Unit) (_ : State) => True) (va_A [] sz)) 0 0 (va_A [] sz) := by
  refine met0 (cc := cX5_isElement) (n := 1) (by decide) (Nat.le_of_ble_eq_true rfl) ?_
  intro p e s m args below meth c hx hb hr hml hown ht hlocks hnm hP0 hD0 hK hZ hsz hz ls hl
  subst hsz
  have hA : ∀ q : Nat, s.heap.size ≤ q → va_A [] s.heap.size q := Anw
  have hAz : ∀ q, va_A [] s.heap.size q → z0 ≤ q := A0z hz
  have hS : va_S (va_A [] s.heap.size) s.heap s.heap [] := va_S.rf
  have hl : lv_has ls 1 [(0, .int p0)] := hl
  refine lv_iload_n hx hb dX5_isElement_0 rfl (lv_at hl 0 rfl) ?_
  refine lv_bipush (v := 94) hx hb dX5_isElement_1 (by decide) ?_
  refine lv_icmp_eq (tgt := 12) hx hb dX5_isElement_3 (by decide) (fun c_1 => ?_) (fun c_1 => ?_)
  · refine lv_iconst (v := 1) hx hb dX5_isElement_12 (by decide) ?_
    refine lv_goto (tgt := 17) hx hb dX5_isElement_13 (by decide) ?_
    refine W.widen (k := 0) (n := 0) (Nat.le_of_ble_eq_true rfl) (Nat.le_of_ble_eq_true rfl) ?_
    exact W.zret (v := 1) hx hb hr rfl (fun t ht9 hW9 => ⟨⟨1, (), rfl, (Or.inl ⟨rfl, (Or.inl c_1)⟩), trivial⟩, hS.F ht9⟩) hS.2.2 dX5_isElement_17 hlocks
  · refine lv_iload_n hx hb dX5_isElement_6 rfl (lv_at hl 0 rfl) ?_
    refine lv_bipush (v := 118) hx hb dX5_isElement_7 (by decide) ?_
    refine lv_icmp_ne (tgt := 16) hx hb dX5_isElement_9 (by decide) (fun c_2 => ?_) (fun c_2 => ?_)
    · refine lv_iconst (v := 0) hx hb dX5_isElement_16 (by decide) ?_
      refine W.widen (k := 0) (n := 0) (Nat.le_of_ble_eq_true rfl) (Nat.le_of_ble_eq_true rfl) ?_
      exact W.zret (v := 0) hx hb hr rfl (fun t ht9 hW9 => ⟨⟨0, (), rfl, (Or.inr ⟨rfl, ⟨c_1, c_2⟩⟩), trivial⟩, hS.F ht9⟩) hS.2.2 dX5_isElement_17 hlocks
    · refine lv_iconst (v := 1) hx hb dX5_isElement_12 (by decide) ?_
      refine lv_goto (tgt := 17) hx hb dX5_isElement_13 (by decide) ?_
      refine W.widen (k := 0) (n := 0) (Nat.le_of_ble_eq_true rfl) (Nat.le_of_ble_eq_true rfl) ?_
      exact W.zret (v := 1) hx hb hr rfl (fun t ht9 hW9 => ⟨⟨1, (), rfl, (Or.inl ⟨rfl, (Or.inr ⟨c_1, c_2⟩)⟩), trivial⟩, hS.F ht9⟩) hS.2.2 dX5_isElement_17 hlocks
set_option maxHeartbeats 4000000 in
set_option maxRecDepth 100000 in
theorem k_X5_isWrite (l : Launch) (D : va_G) (g : Nat → ClassId) (z0 sz : Nat) (a : Nat → Nat) (p0 : Int32) (hc_p0 : isC p0) : Met l yX5_isWrite (.code yX5_isWrite cX5_isWrite 1 (some .boolean) :: TG) (rmk 0 0 0 0) (va_Pc [.int p0] (PP D g z0 sz [])) (va_Qi (fun (r : Int32) (u : Unit) => ((r = 1) ∧ ((p0 = 48) ∨ ((¬ p0 = 48) ∧ (p0 = 49)))) ∨ ((r = 0) ∧ ((¬ p0 = 48) ∧ (¬ p0 = 49)))) (fun (_ : Unit) (_ : State) => True) (va_A [] sz)) 0 0 (va_A [] sz) := by
  refine met0 (cc := cX5_isWrite) (n := 1) (by decide) (Nat.le_of_ble_eq_true rfl) ?_
  intro p e s m args below meth c hx hb hr hml hown ht hlocks hnm hP0 hD0 hK hZ hsz hz ls hl
  subst hsz
  have hA : ∀ q : Nat, s.heap.size ≤ q → va_A [] s.heap.size q := Anw
  have hAz : ∀ q, va_A [] s.heap.size q → z0 ≤ q := A0z hz
  have hS : va_S (va_A [] s.heap.size) s.heap s.heap [] := va_S.rf
  have hl : lv_has ls 1 [(0, .int p0)] := hl
  refine lv_iload_n hx hb dX5_isWrite_0 rfl (lv_at hl 0 rfl) ?_
  refine lv_bipush (v := 48) hx hb dX5_isWrite_1 (by decide) ?_
  refine lv_icmp_eq (tgt := 12) hx hb dX5_isWrite_3 (by decide) (fun c_1 => ?_) (fun c_1 => ?_)
  · refine lv_iconst (v := 1) hx hb dX5_isWrite_12 (by decide) ?_
    refine lv_goto (tgt := 17) hx hb dX5_isWrite_13 (by decide) ?_
    refine W.widen (k := 0) (n := 0) (Nat.le_of_ble_eq_true rfl) (Nat.le_of_ble_eq_true rfl) ?_
    exact W.zret (v := 1) hx hb hr rfl (fun t ht9 hW9 => ⟨⟨1, (), rfl, (Or.inl ⟨rfl, (Or.inl c_1)⟩), trivial⟩, hS.F ht9⟩) hS.2.2 dX5_isWrite_17 hlocks
  · refine lv_iload_n hx hb dX5_isWrite_6 rfl (lv_at hl 0 rfl) ?_
    refine lv_bipush (v := 49) hx hb dX5_isWrite_7 (by decide) ?_
    refine lv_icmp_ne (tgt := 16) hx hb dX5_isWrite_9 (by decide) (fun c_2 => ?_) (fun c_2 => ?_)
    · refine lv_iconst (v := 0) hx hb dX5_isWrite_16 (by decide) ?_
      refine W.widen (k := 0) (n := 0) (Nat.le_of_ble_eq_true rfl) (Nat.le_of_ble_eq_true rfl) ?_
      exact W.zret (v := 0) hx hb hr rfl (fun t ht9 hW9 => ⟨⟨0, (), rfl, (Or.inr ⟨rfl, ⟨c_1, c_2⟩⟩), trivial⟩, hS.F ht9⟩) hS.2.2 dX5_isWrite_17 hlocks
    · refine lv_iconst (v := 1) hx hb dX5_isWrite_12 (by decide) ?_
      refine lv_goto (tgt := 17) hx hb dX5_isWrite_13 (by decide) ?_
      refine W.widen (k := 0) (n := 0) (Nat.le_of_ble_eq_true rfl) (Nat.le_of_ble_eq_true rfl) ?_
      exact W.zret (v := 1) hx hb hr rfl (fun t ht9 hW9 => ⟨⟨1, (), rfl, (Or.inl ⟨rfl, (Or.inr ⟨c_1, c_2⟩)⟩), trivial⟩, hS.F ht9⟩) hS.2.2 dX5_isWrite_17 hlocks
set_option maxHeartbeats 4000000 in
set_option maxRecDepth 100000 in
theorem k_X5_isSign (l : Launch) (D : va_G) (g : Nat → ClassId) (z0 sz : Nat) (a : Nat → Nat) (p0 : Int32) (hc_p0 : isC p0) : Met l yX5_isSign (.code yX5_isSign cX5_isSign 1 (some .boolean) :: TG) (rmk 1 0 0 20) (va_Pc [.int p0] (PP D g z0 sz [])) (va_Qi (fun (r : Int32) (u : Unit) => ((r = 1) ∧ ((p0 = 94) ∨ ((¬ p0 = 94) ∧ (p0 = 118)) ∨ ((¬ p0 = 94) ∧ (¬ p0 = 118) ∧ (p0 = 48)) ∨ ((¬ p0 = 94) ∧ (¬ p0 = 118) ∧ (¬ p0 = 48) ∧ (p0 = 49)) ∨ ((¬ p0 = 94) ∧ (¬ p0 = 118) ∧ (¬ p0 = 48) ∧ (¬ p0 = 49) ∧ (p0 = 122)) ∨ ((¬ p0 = 94) ∧ (¬ p0 = 118) ∧ (¬ p0 = 48) ∧ (¬ p0 = 49) ∧ (¬ p0 = 122) ∧ (p0 = 111)))) ∨ ((r = 0) ∧ ((¬ p0 = 94) ∧ (¬ p0 = 118) ∧ (¬ p0 = 48) ∧ (¬ p0 = 49) ∧ (¬ p0 = 122) ∧ (¬ p0 = 111)))) (fun (_ : Unit) (_ : State) => True) (va_A [] sz)) 0 0 (va_A [] sz) := by
  refine met0 (cc := cX5_isSign) (n := 1) (by decide) (Nat.le_of_ble_eq_true rfl) ?_
  intro p e s m args below meth c hx hb hr hml hown ht hlocks hnm hP0 hD0 hK hZ hsz hz ls hl
  subst hsz
  have hA : ∀ q : Nat, s.heap.size ≤ q → va_A [] s.heap.size q := Anw
  have hAz : ∀ q, va_A [] s.heap.size q → z0 ≤ q := A0z hz
  have hS : va_S (va_A [] s.heap.size) s.heap s.heap [] := va_S.rf
  have hl : lv_has ls 1 [(0, .int p0)] := hl
  refine lv_iload_n hx hb dX5_isSign_0 rfl (lv_at hl 0 rfl) ?_
  have hPc : va_P D vwCl [] _ := (ro0 hP0 hS).sub (ws' := []) [] rfl
  have hDc : va_D (fun q => z0 ≤ q) [] := hD0.pick (ws' := []) [] (by decide) rfl
  have hFc := AnA (ws := []) hS.1
  refine va_calli (va_runS (As := [.int p0]) (rest := []) ⟨hx, hb, hml, hown, ht⟩ (k_X5_isElement l D g z0 _ a p0 hc_p0) (va_cwS 1 ht (gS w_243 w_245 w_221 w_244) rfl rfl rfl (by decide +kernel) (le2 rfl rfl)) ⟨PP.blind, PP.mk' hK hZ hz hAz hS hPc hDc⟩ rfl rfl hl.1 rfl (lv_room (Nat.le_of_ble_eq_true rfl)) dX5_isSign_1 (le2 rfl rfl)) hS (fun q _ h => hFc q h) hFc (fun r u t H locs ht1 hvm hw hB hz1 hk1 hS => ?_)
  rcases hw with hw | hw
  · obtain ⟨rfl, hw⟩ := hw
    rcases hw with hw | hw
    · have c_1 := hw
      refine lv_if_ne (tgt := 26) hx hb dX5_isSign_4 (by decide) (fun c_2 => ?_) (fun c_2 => ?_)
      · refine lv_iconst (v := 1) hx hb dX5_isSign_26 (by decide) ?_
        refine lv_goto (tgt := 31) hx hb dX5_isSign_27 (by decide) ?_
        refine W.widen (k := 0) (n := 0) (Nat.le_of_ble_eq_true rfl) (Nat.le_of_ble_eq_true rfl) ?_
        exact W.zret (v := 1) hx hb hr rfl (fun t ht9 hW9 => ⟨⟨1, (), rfl, (Or.inl ⟨rfl, (Or.inl c_1)⟩), trivial⟩, hS.F ht9⟩) hS.2.2 dX5_isSign_31 hlocks
      · exact absurd c_2 (by decide)
    · obtain ⟨c_3, c_4⟩ := hw
      refine lv_if_ne (tgt := 26) hx hb dX5_isSign_4 (by decide) (fun c_5 => ?_) (fun c_5 => ?_)
      · refine lv_iconst (v := 1) hx hb dX5_isSign_26 (by decide) ?_
        refine lv_goto (tgt := 31) hx hb dX5_isSign_27 (by decide) ?_
        refine W.widen (k := 0) (n := 0) (Nat.le_of_ble_eq_true rfl) (Nat.le_of_ble_eq_true rfl) ?_
        exact W.zret (v := 1) hx hb hr rfl (fun t ht9 hW9 => ⟨⟨1, (), rfl, (Or.inl ⟨rfl, (Or.inr (Or.inl ⟨c_3, c_4⟩))⟩), trivial⟩, hS.F ht9⟩) hS.2.2 dX5_isSign_31 hlocks
      · exact absurd c_5 (by decide)
  · obtain ⟨rfl, hw⟩ := hw
    obtain ⟨c_6, c_7⟩ := hw
    refine lv_if_ne (tgt := 26) hx hb dX5_isSign_4 (by decide) (fun c_8 => ?_) (fun c_8 => ?_)
    · exact absurd c_8 (by decide)
    · refine lv_iload_n hx hb dX5_isSign_7 rfl (lv_at hl 0 rfl) ?_
      have hPc : va_P D vwCl [] _ := (ro0 hP0 hS).sub (ws' := []) [] rfl
      have hDc : va_D (fun q => z0 ≤ q) [] := hD0.pick (ws' := []) [] (by decide) rfl
      have hFc := AnA (ws := []) hS.1
      refine va_calli (va_runS (As := [.int p0]) (rest := []) ⟨hx, hb, hml, hown, ht⟩ (k_X5_isWrite l D g z0 _ a p0 hc_p0) (va_cwS 1 ht (gS w_246 w_248 w_221 w_247) rfl rfl rfl (by decide +kernel) (le2 rfl rfl)) ⟨PP.blind, PP.mk' hK hZ hz hAz hS hPc hDc⟩ rfl rfl hl.1 rfl (lv_room (Nat.le_of_ble_eq_true rfl)) dX5_isSign_8 (le2 rfl rfl)) hS (fun q _ h => hFc q h) hFc (fun r u t H locs ht1 hvm hw hB hz1 hk1 hS => ?_)
      rcases hw with hw | hw
      · obtain ⟨rfl, hw⟩ := hw
        rcases hw with hw | hw
        · have c_9 := hw
          refine lv_if_ne (tgt := 26) hx hb dX5_isSign_11 (by decide) (fun c_10 => ?_) (fun c_10 => ?_)
          · refine lv_iconst (v := 1) hx hb dX5_isSign_26 (by decide) ?_
            refine lv_goto (tgt := 31) hx hb dX5_isSign_27 (by decide) ?_
            refine W.widen (k := 0) (n := 0) (Nat.le_of_ble_eq_true rfl) (Nat.le_of_ble_eq_true rfl) ?_
            exact W.zret (v := 1) hx hb hr rfl (fun t ht9 hW9 => ⟨⟨1, (), rfl, (Or.inl ⟨rfl, (Or.inr (Or.inr (Or.inl ⟨c_6, c_7, c_9⟩)))⟩), trivial⟩, hS.F ht9⟩) hS.2.2 dX5_isSign_31 hlocks
          · exact absurd c_10 (by decide)
        · obtain ⟨c_11, c_12⟩ := hw
          refine lv_if_ne (tgt := 26) hx hb dX5_isSign_11 (by decide) (fun c_13 => ?_) (fun c_13 => ?_)
          · refine lv_iconst (v := 1) hx hb dX5_isSign_26 (by decide) ?_
            refine lv_goto (tgt := 31) hx hb dX5_isSign_27 (by decide) ?_
            refine W.widen (k := 0) (n := 0) (Nat.le_of_ble_eq_true rfl) (Nat.le_of_ble_eq_true rfl) ?_
            exact W.zret (v := 1) hx hb hr rfl (fun t ht9 hW9 => ⟨⟨1, (), rfl, (Or.inl ⟨rfl, (Or.inr (Or.inr (Or.inr (Or.inl ⟨c_6, c_7, c_11, c_12⟩))))⟩), trivial⟩, hS.F ht9⟩) hS.2.2 dX5_isSign_31 hlocks
          · exact absurd c_13 (by decide)
      · obtain ⟨rfl, hw⟩ := hw
        obtain ⟨c_14, c_15⟩ := hw
        refine lv_if_ne (tgt := 26) hx hb dX5_isSign_11 (by decide) (fun c_16 => ?_) (fun c_16 => ?_)
        · exact absurd c_16 (by decide)
        · refine lv_iload_n hx hb dX5_isSign_14 rfl (lv_at hl 0 rfl) ?_
          refine lv_bipush (v := 122) hx hb dX5_isSign_15 (by decide) ?_
          refine lv_icmp_eq (tgt := 26) hx hb dX5_isSign_17 (by decide) (fun c_17 => ?_) (fun c_17 => ?_)
          · refine lv_iconst (v := 1) hx hb dX5_isSign_26 (by decide) ?_
            refine lv_goto (tgt := 31) hx hb dX5_isSign_27 (by decide) ?_
            refine W.widen (k := 0) (n := 0) (Nat.le_of_ble_eq_true rfl) (Nat.le_of_ble_eq_true rfl) ?_
            exact W.zret (v := 1) hx hb hr rfl (fun t ht9 hW9 => ⟨⟨1, (), rfl, (Or.inl ⟨rfl, (Or.inr (Or.inr (Or.inr (Or.inr (Or.inl ⟨c_6, c_7, c_14, c_15, c_17⟩)))))⟩), trivial⟩, hS.F ht9⟩) hS.2.2 dX5_isSign_31 hlocks
          · refine lv_iload_n hx hb dX5_isSign_20 rfl (lv_at hl 0 rfl) ?_
            refine lv_bipush (v := 111) hx hb dX5_isSign_21 (by decide) ?_
            refine lv_icmp_ne (tgt := 30) hx hb dX5_isSign_23 (by decide) (fun c_18 => ?_) (fun c_18 => ?_)
            · refine lv_iconst (v := 0) hx hb dX5_isSign_30 (by decide) ?_
              refine W.widen (k := 0) (n := 0) (Nat.le_of_ble_eq_true rfl) (Nat.le_of_ble_eq_true rfl) ?_
              exact W.zret (v := 0) hx hb hr rfl (fun t ht9 hW9 => ⟨⟨0, (), rfl, (Or.inr ⟨rfl, ⟨c_6, c_7, c_14, c_15, c_17, c_18⟩⟩), trivial⟩, hS.F ht9⟩) hS.2.2 dX5_isSign_31 hlocks
            · refine lv_iconst (v := 1) hx hb dX5_isSign_26 (by decide) ?_
              refine lv_goto (tgt := 31) hx hb dX5_isSign_27 (by decide) ?_
              refine W.widen (k := 0) (n := 0) (Nat.le_of_ble_eq_true rfl) (Nat.le_of_ble_eq_true rfl) ?_
              exact W.zret (v := 1) hx hb hr rfl (fun t ht9 hW9 => ⟨⟨1, (), rfl, (Or.inl ⟨rfl, (Or.inr (Or.inr (Or.inr (Or.inr (Or.inr ⟨c_6, c_7, c_14, c_15, c_17, c_18⟩)))))⟩), trivial⟩, hS.F ht9⟩) hS.2.2 dX5_isSign_31 hlocks
set_option maxHeartbeats 4000000 in
set_option maxRecDepth 100000 in
theorem k_X5_type (l : Launch) (D : va_G) (g : Nat → ClassId) (z0 sz : Nat) (a : Nat → Nat) (p0 : Int32) (hc_p0 : isC p0) : Met l yX5_type (.code yX5_type cX5_type 2 (some .int) :: TG) (rmk 0 0 0 0) (va_Pc [.ref (a 9), .int p0] (PP D g z0 sz [((a 9), f_memory a), ((a 59), .inl (g 2, 24, .inl (fun _ => 0)))])) (va_Qi (fun (r : Int32) (u : Unit) => (r = 1) ∧ True) (fun (u : Unit) (t : State) => va_P D vwCl [((a 9), .inr (11, [.ref (a 59), .ref (a 60), .int 1, .int 45, .int 0, .int 0, .int 0, .int 0, .int 0])), ((a 59), .inl (g 2, 24, .inl (upd (fun _ => 0) (0 : Int32).toNatClampNeg (vp_nar .char p0))))] t.heap ∧ va_D (va_A [((a 9), f_memory a), ((a 59), .inl (g 2, 24, .inl (fun _ => 0)))] sz) [((a 9), .inr (11, [.ref (a 59), .ref (a 60), .int 1, .int 45, .int 0, .int 0, .int 0, .int 0, .int 0])), ((a 59), .inl (g 2, 24, .inl (upd (fun _ => 0) (0 : Int32).toNatClampNeg (vp_nar .char p0))))]) (va_A [((a 9), f_memory a), ((a 59), .inl (g 2, 24, .inl (fun _ => 0)))] sz)) 0 0 (va_A [((a 9), f_memory a), ((a 59), .inl (g 2, 24, .inl (fun _ => 0)))] sz) := by
  refine met0 (cc := cX5_type) (n := 2) (by decide) (Nat.le_of_ble_eq_true rfl) ?_
  intro p e s m args below meth c hx hb hr hml hown ht hlocks hnm hP0 hD0 hK hZ hsz hz ls hl
  subst hsz
  have hA : ∀ q : Nat, s.heap.size ≤ q → va_A [((a 9), f_memory a), ((a 59), .inl (g 2, 24, .inl (fun _ => 0)))] s.heap.size q := Anw
  have hAz : ∀ q, va_A [((a 9), f_memory a), ((a 59), .inl (g 2, 24, .inl (fun _ => 0)))] s.heap.size q → z0 ≤ q := Awz hz hD0
  have hS : va_S (va_A [((a 9), f_memory a), ((a 59), .inl (g 2, 24, .inl (fun _ => 0)))] s.heap.size) s.heap s.heap [] := va_S.rf
  have hD : va_D (va_A [((a 9), f_memory a), ((a 59), .inl (g 2, 24, .inl (fun _ => 0)))] s.heap.size) [((a 9), f_memory a), ((a 59), .inl (g 2, 24, .inl (fun _ => 0)))] := hD0.self
  have hP : va_P D vwCl [((a 9), f_memory a), ((a 59), .inl (g 2, 24, .inl (fun _ => 0)))] s.heap := hP0
  have hl : lv_has ls 2 [(0, .ref (a 9)), (1, .int p0)] := hl
  refine lv_aload_n hx hb dX5_type_0 rfl (lv_at hl 0 rfl) ?_
  refine va_get (D := D) (ci := 11) (v := .ref (a 59)) (C := RX5) (T := TX5) (N := 9) hx hb ht in_X5 hown hK.1 hP 0 rfl rfl 0 (by decide) (ht _ w_252) (fun _ h9 => h9) rfl dX5_type_1 ?_
  refine lv_aload_n hx hb dX5_type_4 rfl (lv_at hl 0 rfl) ?_
  refine va_get (D := D) (ci := 11) (v := .int 0) (C := RX5) (T := TX5) (N := 9) hx hb ht in_X5 hown hK.1 hP 0 rfl rfl 2 (by decide) (ht _ w_216) (fun _ h9 => h9) rfl dX5_type_5 ?_
  refine lv_iload_n hx hb dX5_type_8 rfl (lv_at hl 1 rfl) ?_
  refine va_cast hx hb hK.1 hP hD hS 1 2 rfl rfl (by unfold vp_in; decide) dX5_type_9 (fun H locs hP hD hS => ?_)
  have hP : va_P D vwCl [((a 9), f_memory a), ((a 59), .inl (g 2, 24, .inl (upd (fun _ => 0) (0 : Int32).toNatClampNeg (vp_nar .char p0))))] H := hP
  have hD : va_D (va_A [((a 9), f_memory a), ((a 59), .inl (g 2, 24, .inl (fun _ => 0)))] s.heap.size) [((a 9), f_memory a), ((a 59), .inl (g 2, 24, .inl (upd (fun _ => 0) (0 : Int32).toNatClampNeg (vp_nar .char p0))))] := hD
  refine lv_aload_n hx hb dX5_type_10 rfl (lv_at hl 0 rfl) ?_
  refine lv_dup hx hb dX5_type_11 rfl ?_
  refine va_get (D := D) (ci := 11) (v := .int 0) (C := RX5) (T := TX5) (N := 9) hx hb ht in_X5 hown hK.1 hP 0 rfl rfl 2 (by decide) (ht _ w_216) (fun _ h9 => h9) rfl dX5_type_12 ?_
  refine lv_iconst (v := 1) hx hb dX5_type_15 (by decide) ?_
  refine lv_iadd hx hb dX5_type_16 ?_
  refine r_topi (v := 1) (by decide) ?_
  refine va_put (D := D) (ci := 11) (v := .int 1) (ty := .int) (C := RX5) (T := TX5) (N := 9) hx hb ht in_X5 tyX5 tyX5_ok nmX5 hown hK.1 hP hD hS 0 rfl rfl 2 (by decide) (ht _ w_216) (fun _ h9 => h9) rfl (by decide +kernel) rfl rfl (Nat.le_of_ble_eq_true rfl) dX5_type_17 (fun H locs hP hD hS => ?_)
  have hP : va_P D vwCl [((a 9), .inr (11, [.ref (a 59), .ref (a 60), .int 1, .int 45, .int 0, .int 0, .int 0, .int 0, .int 0])), ((a 59), .inl (g 2, 24, .inl (upd (fun _ => 0) (0 : Int32).toNatClampNeg (vp_nar .char p0))))] H := hP
  have hD : va_D (va_A [((a 9), f_memory a), ((a 59), .inl (g 2, 24, .inl (fun _ => 0)))] s.heap.size) [((a 9), .inr (11, [.ref (a 59), .ref (a 60), .int 1, .int 45, .int 0, .int 0, .int 0, .int 0, .int 0])), ((a 59), .inl (g 2, 24, .inl (upd (fun _ => 0) (0 : Int32).toNatClampNeg (vp_nar .char p0))))] := hD
  refine lv_aload_n hx hb dX5_type_20 rfl (lv_at hl 0 rfl) ?_
  refine va_get (D := D) (ci := 11) (v := .int 1) (C := RX5) (T := TX5) (N := 9) hx hb ht in_X5 hown hK.1 hP 0 rfl rfl 2 (by decide) (ht _ w_216) (fun _ h9 => h9) rfl dX5_type_21 ?_
  have hP9 := hP.sub (ws' := [((a 9), .inr (11, [.ref (a 59), .ref (a 60), .int 1, .int 45, .int 0, .int 0, .int 0, .int 0, .int 0])), ((a 59), .inl (g 2, 24, .inl (upd (fun _ => 0) (0 : Int32).toNatClampNeg (vp_nar .char p0))))]) [0, 1] rfl
  have hD9 := hD.sub (ws' := [((a 9), .inr (11, [.ref (a 59), .ref (a 60), .int 1, .int 45, .int 0, .int 0, .int 0, .int 0, .int 0])), ((a 59), .inl (g 2, 24, .inl (upd (fun _ => 0) (0 : Int32).toNatClampNeg (vp_nar .char p0))))]) [0, 1] (by decide) rfl
  refine W.widen (k := 0) (n := 0) (Nat.le_of_ble_eq_true rfl) (Nat.le_of_ble_eq_true rfl) ?_
  exact W.iret (v := 1) hx hb hr (fun t ht9 hW9 => ⟨⟨1, (), rfl, ⟨rfl, trivial⟩, ⟨(by rw [ht9]; exact hP9), hD9⟩⟩, hS.F ht9⟩) hS.2.2 dX5_type_24 hlocks
set_option maxHeartbeats 4000000 in
set_option maxRecDepth 100000 in
theorem k_X11_march (l : Launch) (hfl : l.stackTraces = false) (D : va_G) (g : Nat → ClassId) (z0 sz : Nat) (a : Nat → Nat) (p0 : Int32) (hc_p0 : isC p0) : vx_Met l yX11_march (.code yX11_march cX11_march 2 (some .int) :: TG) (rmk 6 1 6 81) (va_Pc [.ref (a 0), .int p0] (PP D g z0 sz [((a 0), f_x a), ((a 9), f_memory a), ((a 59), .inl (g 2, 24, .inl (fun _ => 0)))])) (va_Qi (fun (r : Int32) (u : Unit) => (r = 1) ∧ ((p0 = 94) ∨ ((¬ p0 = 94) ∧ (p0 = 118)) ∨ ((¬ p0 = 94) ∧ (¬ p0 = 118) ∧ (p0 = 48)) ∨ ((¬ p0 = 94) ∧ (¬ p0 = 118) ∧ (¬ p0 = 48) ∧ (p0 = 49)) ∨ ((¬ p0 = 94) ∧ (¬ p0 = 118) ∧ (¬ p0 = 48) ∧ (¬ p0 = 49) ∧ (p0 = 122)) ∨ ((¬ p0 = 94) ∧ (¬ p0 = 118) ∧ (¬ p0 = 48) ∧ (¬ p0 = 49) ∧ (¬ p0 = 122) ∧ (p0 = 111)))) (fun (u : Unit) (t : State) => va_P D vwCl [] t.heap ∧ va_D (va_A [((a 0), f_x a), ((a 9), f_memory a), ((a 59), .inl (g 2, 24, .inl (fun _ => 0)))] sz) []) (va_A [((a 0), f_x a), ((a 9), f_memory a), ((a 59), .inl (g 2, 24, .inl (fun _ => 0)))] sz)) (vx_X (fun _ : Unit => True) (fun E _ _ => (E = "java/lang/IllegalArgumentException" ∧ ((¬ p0 = 94) ∧ (¬ p0 = 118) ∧ (¬ p0 = 48) ∧ (¬ p0 = 49) ∧ (¬ p0 = 122) ∧ (¬ p0 = 111)))) (va_A [((a 0), f_x a), ((a 9), f_memory a), ((a 59), .inl (g 2, 24, .inl (fun _ => 0)))] sz)) 1 6 (va_A [((a 0), f_x a), ((a 9), f_memory a), ((a 59), .inl (g 2, 24, .inl (fun _ => 0)))] sz) := by
  refine vxm0 (cc := cX11_march) (n := 2) (by decide) (Nat.le_of_ble_eq_true rfl) ?_
  intro p e s m args below meth c hx hb hr hml htab hown ht hlocks hnm hP0 hD0 hK hZ hsz hz ls hl
  subst hsz
  have hA : ∀ q : Nat, s.heap.size ≤ q → va_A [((a 0), f_x a), ((a 9), f_memory a), ((a 59), .inl (g 2, 24, .inl (fun _ => 0)))] s.heap.size q := Anw
  have hAz : ∀ q, va_A [((a 0), f_x a), ((a 9), f_memory a), ((a 59), .inl (g 2, 24, .inl (fun _ => 0)))] s.heap.size q → z0 ≤ q := Awz hz hD0
  have hS : va_S (va_A [((a 0), f_x a), ((a 9), f_memory a), ((a 59), .inl (g 2, 24, .inl (fun _ => 0)))] s.heap.size) s.heap s.heap [] := va_S.rf
  have hD : va_D (va_A [((a 0), f_x a), ((a 9), f_memory a), ((a 59), .inl (g 2, 24, .inl (fun _ => 0)))] s.heap.size) [((a 0), f_x a), ((a 9), f_memory a), ((a 59), .inl (g 2, 24, .inl (fun _ => 0)))] := hD0.self
  have hP : va_P D vwCl [((a 0), f_x a), ((a 9), f_memory a), ((a 59), .inl (g 2, 24, .inl (fun _ => 0)))] s.heap := hP0
  have hl : lv_has ls 2 [(0, .ref (a 0)), (1, .int p0)] := hl
  refine lv_iload_n hx hb dX11_march_0 rfl (lv_at hl 1 rfl) ?_
  have hPc : va_P D vwCl [] _ := hP.sub (ws' := []) [] rfl
  have hDc : va_D (fun q => z0 ≤ q) [] := (hD.to hAz).pick (ws' := []) [] (by decide) rfl
  have hFc := AnA (ws := [((a 0), f_x a), ((a 9), f_memory a), ((a 59), .inl (g 2, 24, .inl (fun _ => 0)))]) hS.1
  refine va_calli (va_runS (As := [.int p0]) (rest := []) ⟨hx, hb, hml, hown, ht⟩ (k_X5_isSign l D g z0 _ a p0 hc_p0) (va_cwS 1 ht (gS w_249 w_251 w_221 w_250) rfl rfl rfl (by decide +kernel) (le2 rfl rfl)) ⟨PP.blind, PP.mk' hK hZ hz hAz hS hPc hDc⟩ rfl rfl hl.1 rfl (lv_room (Nat.le_of_ble_eq_true rfl)) dX11_march_1 (le2 rfl rfl)) hS (fun q _ h => hFc q h) hFc (fun r u t H locs ht1 hvm hw hB hz1 hk1 hS => ?_)
  rcases hw with hw | hw
  · obtain ⟨rfl, hw⟩ := hw
    rcases hw with hw | hw | hw | hw | hw | hw
    · have c_1 := hw
      have hP := ro1 hP hk1
      refine lv_if_ne (tgt := 15) hx hb dX11_march_4 (by decide) (fun c_2 => ?_) (fun c_2 => ?_)
      · refine lv_aload_n hx hb dX11_march_15 rfl (lv_at hl 0 rfl) ?_
        refine va_get (D := D) (ci := 17) (v := .ref (a 9)) (C := RX11) (T := TX11) (N := 11) hx hb ht in_X11 hown hK.1 hP 0 rfl rfl 8 (by decide) (ht _ w_41) (fun _ h9 => h9) rfl dX11_march_16 ?_
        refine va_get (D := D) (ci := 11) (v := .int 0) (C := RX5) (T := TX5) (N := 9) hx hb ht in_X5 hown hK.1 hP 1 rfl rfl 2 (by decide) (ht _ w_168) (fun _ h9 => h9) rfl dX11_march_19 ?_
        refine lv_bipush (v := 24) hx hb dX11_march_22 (by decide) ?_
        refine lv_icmp_lt (tgt := 35) hx hb dX11_march_24 (by decide) (fun c_3 => ?_) (fun c_3 => ?_)
        · refine lv_aload_n hx hb dX11_march_35 rfl (lv_at hl 0 rfl) ?_
          refine va_get (D := D) (ci := 17) (v := .ref (a 9)) (C := RX11) (T := TX11) (N := 11) hx hb ht in_X11 hown hK.1 hP 0 rfl rfl 8 (by decide) (ht _ w_41) (fun _ h9 => h9) rfl dX11_march_36 ?_
          refine lv_iload_n hx hb dX11_march_39 rfl (lv_at hl 1 rfl) ?_
          have hPc : va_P D vwCl [((a 9), f_memory a), ((a 59), .inl (g 2, 24, .inl (fun _ => 0)))] _ := hP.sub (ws' := [((a 9), f_memory a), ((a 59), .inl (g 2, 24, .inl (fun _ => 0)))]) [1, 2] rfl
          have hDc : va_D (fun q => z0 ≤ q) [((a 9), f_memory a), ((a 59), .inl (g 2, 24, .inl (fun _ => 0)))] := (hD.to hAz).pick (ws' := [((a 9), f_memory a), ((a 59), .inl (g 2, 24, .inl (fun _ => 0)))]) [1, 2] (by decide) rfl
          have hFc := va_free (wc := [((a 9), f_memory a), ((a 59), .inl (g 2, 24, .inl (fun _ => 0)))]) hD hS hA [1, 2] rfl
          refine va_calli (va_runV (As := [.int p0]) (rest := []) ⟨hx, hb, hml, hown, ht⟩ (k_X5_type l D g z0 _ a p0 hc_p0) (cwV 1 ht (gV w_253 w_255 w_256 w_221 w_254) rfl rfl rfl (by decide +kernel) (le2 rfl rfl)) ⟨PP.blind, va_recv hK.1 hP (ci := 11) (q0 := 1) rfl rfl, PP.mk' hK hZ hz hAz hS hPc hDc⟩ rfl rfl hl.1 rfl (lv_room (Nat.le_of_ble_eq_true rfl)) dX11_march_40 (le2 rfl rfl)) hS (fun q _ h => hFc q h) hFc (fun r u t H locs ht1 hvm hw hB hz1 hk1 hS => ?_)
          obtain ⟨rfl, hw⟩ := hw
          obtain ⟨hP1, hD1⟩ := hB
          rw [ht1] at hP1
          obtain ⟨hP, hD⟩ := va_join (wr := [((a 0), f_x a)]) (w1 := [((a 9), .inr (11, [.ref (a 59), .ref (a 60), .int 1, .int 45, .int 0, .int 0, .int 0, .int 0, .int 0])), ((a 59), .inl (g 2, 24, .inl (upd (fun _ => 0) (0 : Int32).toNatClampNeg (vp_nar .char p0))))]) hP hD [1, 2] [0] rfl rfl (by decide) (by decide) hk1 hFc hP1 hD1
          have hP : va_P D vwCl [((a 0), f_x a), ((a 9), .inr (11, [.ref (a 59), .ref (a 60), .int 1, .int 45, .int 0, .int 0, .int 0, .int 0, .int 0])), ((a 59), .inl (g 2, 24, .inl (upd (fun _ => 0) (0 : Int32).toNatClampNeg (vp_nar .char p0))))] H := hP
          have hD : va_D (va_A [((a 0), f_x a), ((a 9), f_memory a), ((a 59), .inl (g 2, 24, .inl (fun _ => 0)))] s.heap.size) [((a 0), f_x a), ((a 9), .inr (11, [.ref (a 59), .ref (a 60), .int 1, .int 45, .int 0, .int 0, .int 0, .int 0, .int 0])), ((a 59), .inl (g 2, 24, .inl (upd (fun _ => 0) (0 : Int32).toNatClampNeg (vp_nar .char p0))))] := hD
          have hP9 := hP.sub (ws' := []) [] rfl
          have hD9 := hD.sub (ws' := []) [] (by decide) rfl
          refine vx_ret (W.widen (k := 1) (n := 6) (Nat.le_of_ble_eq_true rfl) (Nat.le_of_ble_eq_true rfl) ?_)
          exact W.iret (v := 1) hx hb hr (fun t ht9 hW9 => ⟨⟨1, (), rfl, ⟨rfl, (Or.inl c_1)⟩, ⟨(by rw [ht9]; exact hP9), hD9⟩⟩, hS.F ht9⟩) hS.2.2 dX11_march_43 hlocks
        · exact absurd c_3 (by decide)
      · exact absurd c_2 (by decide)
    · obtain ⟨c_4, c_5⟩ := hw
      have hP := ro1 hP hk1
      refine lv_if_ne (tgt := 15) hx hb dX11_march_4 (by decide) (fun c_6 => ?_) (fun c_6 => ?_)
      · refine lv_aload_n hx hb dX11_march_15 rfl (lv_at hl 0 rfl) ?_
        refine va_get (D := D) (ci := 17) (v := .ref (a 9)) (C := RX11) (T := TX11) (N := 11) hx hb ht in_X11 hown hK.1 hP 0 rfl rfl 8 (by decide) (ht _ w_41) (fun _ h9 => h9) rfl dX11_march_16 ?_
        refine va_get (D := D) (ci := 11) (v := .int 0) (C := RX5) (T := TX5) (N := 9) hx hb ht in_X5 hown hK.1 hP 1 rfl rfl 2 (by decide) (ht _ w_168) (fun _ h9 => h9) rfl dX11_march_19 ?_
        refine lv_bipush (v := 24) hx hb dX11_march_22 (by decide) ?_
        refine lv_icmp_lt (tgt := 35) hx hb dX11_march_24 (by decide) (fun c_7 => ?_) (fun c_7 => ?_)
        · refine lv_aload_n hx hb dX11_march_35 rfl (lv_at hl 0 rfl) ?_
          refine va_get (D := D) (ci := 17) (v := .ref (a 9)) (C := RX11) (T := TX11) (N := 11) hx hb ht in_X11 hown hK.1 hP 0 rfl rfl 8 (by decide) (ht _ w_41) (fun _ h9 => h9) rfl dX11_march_36 ?_
          refine lv_iload_n hx hb dX11_march_39 rfl (lv_at hl 1 rfl) ?_
          have hPc : va_P D vwCl [((a 9), f_memory a), ((a 59), .inl (g 2, 24, .inl (fun _ => 0)))] _ := hP.sub (ws' := [((a 9), f_memory a), ((a 59), .inl (g 2, 24, .inl (fun _ => 0)))]) [1, 2] rfl
          have hDc : va_D (fun q => z0 ≤ q) [((a 9), f_memory a), ((a 59), .inl (g 2, 24, .inl (fun _ => 0)))] := (hD.to hAz).pick (ws' := [((a 9), f_memory a), ((a 59), .inl (g 2, 24, .inl (fun _ => 0)))]) [1, 2] (by decide) rfl
          have hFc := va_free (wc := [((a 9), f_memory a), ((a 59), .inl (g 2, 24, .inl (fun _ => 0)))]) hD hS hA [1, 2] rfl
          refine va_calli (va_runV (As := [.int p0]) (rest := []) ⟨hx, hb, hml, hown, ht⟩ (k_X5_type l D g z0 _ a p0 hc_p0) (cwV 1 ht (gV w_253 w_255 w_256 w_221 w_254) rfl rfl rfl (by decide +kernel) (le2 rfl rfl)) ⟨PP.blind, va_recv hK.1 hP (ci := 11) (q0 := 1) rfl rfl, PP.mk' hK hZ hz hAz hS hPc hDc⟩ rfl rfl hl.1 rfl (lv_room (Nat.le_of_ble_eq_true rfl)) dX11_march_40 (le2 rfl rfl)) hS (fun q _ h => hFc q h) hFc (fun r u t H locs ht1 hvm hw hB hz1 hk1 hS => ?_)
          obtain ⟨rfl, hw⟩ := hw
          obtain ⟨hP1, hD1⟩ := hB
          rw [ht1] at hP1
          obtain ⟨hP, hD⟩ := va_join (wr := [((a 0), f_x a)]) (w1 := [((a 9), .inr (11, [.ref (a 59), .ref (a 60), .int 1, .int 45, .int 0, .int 0, .int 0, .int 0, .int 0])), ((a 59), .inl (g 2, 24, .inl (upd (fun _ => 0) (0 : Int32).toNatClampNeg (vp_nar .char p0))))]) hP hD [1, 2] [0] rfl rfl (by decide) (by decide) hk1 hFc hP1 hD1
          have hP : va_P D vwCl [((a 0), f_x a), ((a 9), .inr (11, [.ref (a 59), .ref (a 60), .int 1, .int 45, .int 0, .int 0, .int 0, .int 0, .int 0])), ((a 59), .inl (g 2, 24, .inl (upd (fun _ => 0) (0 : Int32).toNatClampNeg (vp_nar .char p0))))] H := hP
          have hD : va_D (va_A [((a 0), f_x a), ((a 9), f_memory a), ((a 59), .inl (g 2, 24, .inl (fun _ => 0)))] s.heap.size) [((a 0), f_x a), ((a 9), .inr (11, [.ref (a 59), .ref (a 60), .int 1, .int 45, .int 0, .int 0, .int 0, .int 0, .int 0])), ((a 59), .inl (g 2, 24, .inl (upd (fun _ => 0) (0 : Int32).toNatClampNeg (vp_nar .char p0))))] := hD
          have hP9 := hP.sub (ws' := []) [] rfl
          have hD9 := hD.sub (ws' := []) [] (by decide) rfl
          refine vx_ret (W.widen (k := 1) (n := 6) (Nat.le_of_ble_eq_true rfl) (Nat.le_of_ble_eq_true rfl) ?_)
          exact W.iret (v := 1) hx hb hr (fun t ht9 hW9 => ⟨⟨1, (), rfl, ⟨rfl, (Or.inr (Or.inl ⟨c_4, c_5⟩))⟩, ⟨(by rw [ht9]; exact hP9), hD9⟩⟩, hS.F ht9⟩) hS.2.2 dX11_march_43 hlocks
        · exact absurd c_7 (by decide)
      · exact absurd c_6 (by decide)
    · obtain ⟨c_8, c_9, c_10⟩ := hw
      have hP := ro1 hP hk1
      refine lv_if_ne (tgt := 15) hx hb dX11_march_4 (by decide) (fun c_11 => ?_) (fun c_11 => ?_)
      · refine lv_aload_n hx hb dX11_march_15 rfl (lv_at hl 0 rfl) ?_
        refine va_get (D := D) (ci := 17) (v := .ref (a 9)) (C := RX11) (T := TX11) (N := 11) hx hb ht in_X11 hown hK.1 hP 0 rfl rfl 8 (by decide) (ht _ w_41) (fun _ h9 => h9) rfl dX11_march_16 ?_
        refine va_get (D := D) (ci := 11) (v := .int 0) (C := RX5) (T := TX5) (N := 9) hx hb ht in_X5 hown hK.1 hP 1 rfl rfl 2 (by decide) (ht _ w_168) (fun _ h9 => h9) rfl dX11_march_19 ?_
        refine lv_bipush (v := 24) hx hb dX11_march_22 (by decide) ?_
        refine lv_icmp_lt (tgt := 35) hx hb dX11_march_24 (by decide) (fun c_12 => ?_) (fun c_12 => ?_)
        · refine lv_aload_n hx hb dX11_march_35 rfl (lv_at hl 0 rfl) ?_
          refine va_get (D := D) (ci := 17) (v := .ref (a 9)) (C := RX11) (T := TX11) (N := 11) hx hb ht in_X11 hown hK.1 hP 0 rfl rfl 8 (by decide) (ht _ w_41) (fun _ h9 => h9) rfl dX11_march_36 ?_
          refine lv_iload_n hx hb dX11_march_39 rfl (lv_at hl 1 rfl) ?_
          have hPc : va_P D vwCl [((a 9), f_memory a), ((a 59), .inl (g 2, 24, .inl (fun _ => 0)))] _ := hP.sub (ws' := [((a 9), f_memory a), ((a 59), .inl (g 2, 24, .inl (fun _ => 0)))]) [1, 2] rfl
          have hDc : va_D (fun q => z0 ≤ q) [((a 9), f_memory a), ((a 59), .inl (g 2, 24, .inl (fun _ => 0)))] := (hD.to hAz).pick (ws' := [((a 9), f_memory a), ((a 59), .inl (g 2, 24, .inl (fun _ => 0)))]) [1, 2] (by decide) rfl
          have hFc := va_free (wc := [((a 9), f_memory a), ((a 59), .inl (g 2, 24, .inl (fun _ => 0)))]) hD hS hA [1, 2] rfl
          refine va_calli (va_runV (As := [.int p0]) (rest := []) ⟨hx, hb, hml, hown, ht⟩ (k_X5_type l D g z0 _ a p0 hc_p0) (cwV 1 ht (gV w_253 w_255 w_256 w_221 w_254) rfl rfl rfl (by decide +kernel) (le2 rfl rfl)) ⟨PP.blind, va_recv hK.1 hP (ci := 11) (q0 := 1) rfl rfl, PP.mk' hK hZ hz hAz hS hPc hDc⟩ rfl rfl hl.1 rfl (lv_room (Nat.le_of_ble_eq_true rfl)) dX11_march_40 (le2 rfl rfl)) hS (fun q _ h => hFc q h) hFc (fun r u t H locs ht1 hvm hw hB hz1 hk1 hS => ?_)
          obtain ⟨rfl, hw⟩ := hw
          obtain ⟨hP1, hD1⟩ := hB
          rw [ht1] at hP1
          obtain ⟨hP, hD⟩ := va_join (wr := [((a 0), f_x a)]) (w1 := [((a 9), .inr (11, [.ref (a 59), .ref (a 60), .int 1, .int 45, .int 0, .int 0, .int 0, .int 0, .int 0])), ((a 59), .inl (g 2, 24, .inl (upd (fun _ => 0) (0 : Int32).toNatClampNeg (vp_nar .char p0))))]) hP hD [1, 2] [0] rfl rfl (by decide) (by decide) hk1 hFc hP1 hD1
          have hP : va_P D vwCl [((a 0), f_x a), ((a 9), .inr (11, [.ref (a 59), .ref (a 60), .int 1, .int 45, .int 0, .int 0, .int 0, .int 0, .int 0])), ((a 59), .inl (g 2, 24, .inl (upd (fun _ => 0) (0 : Int32).toNatClampNeg (vp_nar .char p0))))] H := hP
          have hD : va_D (va_A [((a 0), f_x a), ((a 9), f_memory a), ((a 59), .inl (g 2, 24, .inl (fun _ => 0)))] s.heap.size) [((a 0), f_x a), ((a 9), .inr (11, [.ref (a 59), .ref (a 60), .int 1, .int 45, .int 0, .int 0, .int 0, .int 0, .int 0])), ((a 59), .inl (g 2, 24, .inl (upd (fun _ => 0) (0 : Int32).toNatClampNeg (vp_nar .char p0))))] := hD
          have hP9 := hP.sub (ws' := []) [] rfl
          have hD9 := hD.sub (ws' := []) [] (by decide) rfl
          refine vx_ret (W.widen (k := 1) (n := 6) (Nat.le_of_ble_eq_true rfl) (Nat.le_of_ble_eq_true rfl) ?_)
          exact W.iret (v := 1) hx hb hr (fun t ht9 hW9 => ⟨⟨1, (), rfl, ⟨rfl, (Or.inr (Or.inr (Or.inl ⟨c_8, c_9, c_10⟩)))⟩, ⟨(by rw [ht9]; exact hP9), hD9⟩⟩, hS.F ht9⟩) hS.2.2 dX11_march_43 hlocks
        · exact absurd c_12 (by decide)
      · exact absurd c_11 (by decide)
    · obtain ⟨c_13, c_14, c_15, c_16⟩ := hw
      have hP := ro1 hP hk1
      refine lv_if_ne (tgt := 15) hx hb dX11_march_4 (by decide) (fun c_17 => ?_) (fun c_17 => ?_)
      · refine lv_aload_n hx hb dX11_march_15 rfl (lv_at hl 0 rfl) ?_
        refine va_get (D := D) (ci := 17) (v := .ref (a 9)) (C := RX11) (T := TX11) (N := 11) hx hb ht in_X11 hown hK.1 hP 0 rfl rfl 8 (by decide) (ht _ w_41) (fun _ h9 => h9) rfl dX11_march_16 ?_
        refine va_get (D := D) (ci := 11) (v := .int 0) (C := RX5) (T := TX5) (N := 9) hx hb ht in_X5 hown hK.1 hP 1 rfl rfl 2 (by decide) (ht _ w_168) (fun _ h9 => h9) rfl dX11_march_19 ?_
        refine lv_bipush (v := 24) hx hb dX11_march_22 (by decide) ?_
        refine lv_icmp_lt (tgt := 35) hx hb dX11_march_24 (by decide) (fun c_18 => ?_) (fun c_18 => ?_)
        · refine lv_aload_n hx hb dX11_march_35 rfl (lv_at hl 0 rfl) ?_
          refine va_get (D := D) (ci := 17) (v := .ref (a 9)) (C := RX11) (T := TX11) (N := 11) hx hb ht in_X11 hown hK.1 hP 0 rfl rfl 8 (by decide) (ht _ w_41) (fun _ h9 => h9) rfl dX11_march_36 ?_
          refine lv_iload_n hx hb dX11_march_39 rfl (lv_at hl 1 rfl) ?_
          have hPc : va_P D vwCl [((a 9), f_memory a), ((a 59), .inl (g 2, 24, .inl (fun _ => 0)))] _ := hP.sub (ws' := [((a 9), f_memory a), ((a 59), .inl (g 2, 24, .inl (fun _ => 0)))]) [1, 2] rfl
          have hDc : va_D (fun q => z0 ≤ q) [((a 9), f_memory a), ((a 59), .inl (g 2, 24, .inl (fun _ => 0)))] := (hD.to hAz).pick (ws' := [((a 9), f_memory a), ((a 59), .inl (g 2, 24, .inl (fun _ => 0)))]) [1, 2] (by decide) rfl
          have hFc := va_free (wc := [((a 9), f_memory a), ((a 59), .inl (g 2, 24, .inl (fun _ => 0)))]) hD hS hA [1, 2] rfl
          refine va_calli (va_runV (As := [.int p0]) (rest := []) ⟨hx, hb, hml, hown, ht⟩ (k_X5_type l D g z0 _ a p0 hc_p0) (cwV 1 ht (gV w_253 w_255 w_256 w_221 w_254) rfl rfl rfl (by decide +kernel) (le2 rfl rfl)) ⟨PP.blind, va_recv hK.1 hP (ci := 11) (q0 := 1) rfl rfl, PP.mk' hK hZ hz hAz hS hPc hDc⟩ rfl rfl hl.1 rfl (lv_room (Nat.le_of_ble_eq_true rfl)) dX11_march_40 (le2 rfl rfl)) hS (fun q _ h => hFc q h) hFc (fun r u t H locs ht1 hvm hw hB hz1 hk1 hS => ?_)
          obtain ⟨rfl, hw⟩ := hw
          obtain ⟨hP1, hD1⟩ := hB
          rw [ht1] at hP1
          obtain ⟨hP, hD⟩ := va_join (wr := [((a 0), f_x a)]) (w1 := [((a 9), .inr (11, [.ref (a 59), .ref (a 60), .int 1, .int 45, .int 0, .int 0, .int 0, .int 0, .int 0])), ((a 59), .inl (g 2, 24, .inl (upd (fun _ => 0) (0 : Int32).toNatClampNeg (vp_nar .char p0))))]) hP hD [1, 2] [0] rfl rfl (by decide) (by decide) hk1 hFc hP1 hD1
          have hP : va_P D vwCl [((a 0), f_x a), ((a 9), .inr (11, [.ref (a 59), .ref (a 60), .int 1, .int 45, .int 0, .int 0, .int 0, .int 0, .int 0])), ((a 59), .inl (g 2, 24, .inl (upd (fun _ => 0) (0 : Int32).toNatClampNeg (vp_nar .char p0))))] H := hP
          have hD : va_D (va_A [((a 0), f_x a), ((a 9), f_memory a), ((a 59), .inl (g 2, 24, .inl (fun _ => 0)))] s.heap.size) [((a 0), f_x a), ((a 9), .inr (11, [.ref (a 59), .ref (a 60), .int 1, .int 45, .int 0, .int 0, .int 0, .int 0, .int 0])), ((a 59), .inl (g 2, 24, .inl (upd (fun _ => 0) (0 : Int32).toNatClampNeg (vp_nar .char p0))))] := hD
          have hP9 := hP.sub (ws' := []) [] rfl
          have hD9 := hD.sub (ws' := []) [] (by decide) rfl
          refine vx_ret (W.widen (k := 1) (n := 6) (Nat.le_of_ble_eq_true rfl) (Nat.le_of_ble_eq_true rfl) ?_)
          exact W.iret (v := 1) hx hb hr (fun t ht9 hW9 => ⟨⟨1, (), rfl, ⟨rfl, (Or.inr (Or.inr (Or.inr (Or.inl ⟨c_13, c_14, c_15, c_16⟩))))⟩, ⟨(by rw [ht9]; exact hP9), hD9⟩⟩, hS.F ht9⟩) hS.2.2 dX11_march_43 hlocks
        · exact absurd c_18 (by decide)
      · exact absurd c_17 (by decide)
    · obtain ⟨c_19, c_20, c_21, c_22, c_23⟩ := hw
      have hP := ro1 hP hk1
      refine lv_if_ne (tgt := 15) hx hb dX11_march_4 (by decide) (fun c_24 => ?_) (fun c_24 => ?_)
      · refine lv_aload_n hx hb dX11_march_15 rfl (lv_at hl 0 rfl) ?_
        refine va_get (D := D) (ci := 17) (v := .ref (a 9)) (C := RX11) (T := TX11) (N := 11) hx hb ht in_X11 hown hK.1 hP 0 rfl rfl 8 (by decide) (ht _ w_41) (fun _ h9 => h9) rfl dX11_march_16 ?_
        refine va_get (D := D) (ci := 11) (v := .int 0) (C := RX5) (T := TX5) (N := 9) hx hb ht in_X5 hown hK.1 hP 1 rfl rfl 2 (by decide) (ht _ w_168) (fun _ h9 => h9) rfl dX11_march_19 ?_
        refine lv_bipush (v := 24) hx hb dX11_march_22 (by decide) ?_
        refine lv_icmp_lt (tgt := 35) hx hb dX11_march_24 (by decide) (fun c_25 => ?_) (fun c_25 => ?_)
        · refine lv_aload_n hx hb dX11_march_35 rfl (lv_at hl 0 rfl) ?_
          refine va_get (D := D) (ci := 17) (v := .ref (a 9)) (C := RX11) (T := TX11) (N := 11) hx hb ht in_X11 hown hK.1 hP 0 rfl rfl 8 (by decide) (ht _ w_41) (fun _ h9 => h9) rfl dX11_march_36 ?_
          refine lv_iload_n hx hb dX11_march_39 rfl (lv_at hl 1 rfl) ?_
          have hPc : va_P D vwCl [((a 9), f_memory a), ((a 59), .inl (g 2, 24, .inl (fun _ => 0)))] _ := hP.sub (ws' := [((a 9), f_memory a), ((a 59), .inl (g 2, 24, .inl (fun _ => 0)))]) [1, 2] rfl
          have hDc : va_D (fun q => z0 ≤ q) [((a 9), f_memory a), ((a 59), .inl (g 2, 24, .inl (fun _ => 0)))] := (hD.to hAz).pick (ws' := [((a 9), f_memory a), ((a 59), .inl (g 2, 24, .inl (fun _ => 0)))]) [1, 2] (by decide) rfl
          have hFc := va_free (wc := [((a 9), f_memory a), ((a 59), .inl (g 2, 24, .inl (fun _ => 0)))]) hD hS hA [1, 2] rfl
          refine va_calli (va_runV (As := [.int p0]) (rest := []) ⟨hx, hb, hml, hown, ht⟩ (k_X5_type l D g z0 _ a p0 hc_p0) (cwV 1 ht (gV w_253 w_255 w_256 w_221 w_254) rfl rfl rfl (by decide +kernel) (le2 rfl rfl)) ⟨PP.blind, va_recv hK.1 hP (ci := 11) (q0 := 1) rfl rfl, PP.mk' hK hZ hz hAz hS hPc hDc⟩ rfl rfl hl.1 rfl (lv_room (Nat.le_of_ble_eq_true rfl)) dX11_march_40 (le2 rfl rfl)) hS (fun q _ h => hFc q h) hFc (fun r u t H locs ht1 hvm hw hB hz1 hk1 hS => ?_)
          obtain ⟨rfl, hw⟩ := hw
          obtain ⟨hP1, hD1⟩ := hB
          rw [ht1] at hP1
          obtain ⟨hP, hD⟩ := va_join (wr := [((a 0), f_x a)]) (w1 := [((a 9), .inr (11, [.ref (a 59), .ref (a 60), .int 1, .int 45, .int 0, .int 0, .int 0, .int 0, .int 0])), ((a 59), .inl (g 2, 24, .inl (upd (fun _ => 0) (0 : Int32).toNatClampNeg (vp_nar .char p0))))]) hP hD [1, 2] [0] rfl rfl (by decide) (by decide) hk1 hFc hP1 hD1
          have hP : va_P D vwCl [((a 0), f_x a), ((a 9), .inr (11, [.ref (a 59), .ref (a 60), .int 1, .int 45, .int 0, .int 0, .int 0, .int 0, .int 0])), ((a 59), .inl (g 2, 24, .inl (upd (fun _ => 0) (0 : Int32).toNatClampNeg (vp_nar .char p0))))] H := hP
          have hD : va_D (va_A [((a 0), f_x a), ((a 9), f_memory a), ((a 59), .inl (g 2, 24, .inl (fun _ => 0)))] s.heap.size) [((a 0), f_x a), ((a 9), .inr (11, [.ref (a 59), .ref (a 60), .int 1, .int 45, .int 0, .int 0, .int 0, .int 0, .int 0])), ((a 59), .inl (g 2, 24, .inl (upd (fun _ => 0) (0 : Int32).toNatClampNeg (vp_nar .char p0))))] := hD
          have hP9 := hP.sub (ws' := []) [] rfl
          have hD9 := hD.sub (ws' := []) [] (by decide) rfl
          refine vx_ret (W.widen (k := 1) (n := 6) (Nat.le_of_ble_eq_true rfl) (Nat.le_of_ble_eq_true rfl) ?_)
          exact W.iret (v := 1) hx hb hr (fun t ht9 hW9 => ⟨⟨1, (), rfl, ⟨rfl, (Or.inr (Or.inr (Or.inr (Or.inr (Or.inl ⟨c_19, c_20, c_21, c_22, c_23⟩)))))⟩, ⟨(by rw [ht9]; exact hP9), hD9⟩⟩, hS.F ht9⟩) hS.2.2 dX11_march_43 hlocks
        · exact absurd c_25 (by decide)
      · exact absurd c_24 (by decide)
    · obtain ⟨c_26, c_27, c_28, c_29, c_30, c_31⟩ := hw
      have hP := ro1 hP hk1
      refine lv_if_ne (tgt := 15) hx hb dX11_march_4 (by decide) (fun c_32 => ?_) (fun c_32 => ?_)
      · refine lv_aload_n hx hb dX11_march_15 rfl (lv_at hl 0 rfl) ?_
        refine va_get (D := D) (ci := 17) (v := .ref (a 9)) (C := RX11) (T := TX11) (N := 11) hx hb ht in_X11 hown hK.1 hP 0 rfl rfl 8 (by decide) (ht _ w_41) (fun _ h9 => h9) rfl dX11_march_16 ?_
        refine va_get (D := D) (ci := 11) (v := .int 0) (C := RX5) (T := TX5) (N := 9) hx hb ht in_X5 hown hK.1 hP 1 rfl rfl 2 (by decide) (ht _ w_168) (fun _ h9 => h9) rfl dX11_march_19 ?_
        refine lv_bipush (v := 24) hx hb dX11_march_22 (by decide) ?_
        refine lv_icmp_lt (tgt := 35) hx hb dX11_march_24 (by decide) (fun c_33 => ?_) (fun c_33 => ?_)
        · refine lv_aload_n hx hb dX11_march_35 rfl (lv_at hl 0 rfl) ?_
          refine va_get (D := D) (ci := 17) (v := .ref (a 9)) (C := RX11) (T := TX11) (N := 11) hx hb ht in_X11 hown hK.1 hP 0 rfl rfl 8 (by decide) (ht _ w_41) (fun _ h9 => h9) rfl dX11_march_36 ?_
          refine lv_iload_n hx hb dX11_march_39 rfl (lv_at hl 1 rfl) ?_
          have hPc : va_P D vwCl [((a 9), f_memory a), ((a 59), .inl (g 2, 24, .inl (fun _ => 0)))] _ := hP.sub (ws' := [((a 9), f_memory a), ((a 59), .inl (g 2, 24, .inl (fun _ => 0)))]) [1, 2] rfl
          have hDc : va_D (fun q => z0 ≤ q) [((a 9), f_memory a), ((a 59), .inl (g 2, 24, .inl (fun _ => 0)))] := (hD.to hAz).pick (ws' := [((a 9), f_memory a), ((a 59), .inl (g 2, 24, .inl (fun _ => 0)))]) [1, 2] (by decide) rfl
          have hFc := va_free (wc := [((a 9), f_memory a), ((a 59), .inl (g 2, 24, .inl (fun _ => 0)))]) hD hS hA [1, 2] rfl
          refine va_calli (va_runV (As := [.int p0]) (rest := []) ⟨hx, hb, hml, hown, ht⟩ (k_X5_type l D g z0 _ a p0 hc_p0) (cwV 1 ht (gV w_253 w_255 w_256 w_221 w_254) rfl rfl rfl (by decide +kernel) (le2 rfl rfl)) ⟨PP.blind, va_recv hK.1 hP (ci := 11) (q0 := 1) rfl rfl, PP.mk' hK hZ hz hAz hS hPc hDc⟩ rfl rfl hl.1 rfl (lv_room (Nat.le_of_ble_eq_true rfl)) dX11_march_40 (le2 rfl rfl)) hS (fun q _ h => hFc q h) hFc (fun r u t H locs ht1 hvm hw hB hz1 hk1 hS => ?_)
          obtain ⟨rfl, hw⟩ := hw
          obtain ⟨hP1, hD1⟩ := hB
          rw [ht1] at hP1
          obtain ⟨hP, hD⟩ := va_join (wr := [((a 0), f_x a)]) (w1 := [((a 9), .inr (11, [.ref (a 59), .ref (a 60), .int 1, .int 45, .int 0, .int 0, .int 0, .int 0, .int 0])), ((a 59), .inl (g 2, 24, .inl (upd (fun _ => 0) (0 : Int32).toNatClampNeg (vp_nar .char p0))))]) hP hD [1, 2] [0] rfl rfl (by decide) (by decide) hk1 hFc hP1 hD1
          have hP : va_P D vwCl [((a 0), f_x a), ((a 9), .inr (11, [.ref (a 59), .ref (a 60), .int 1, .int 45, .int 0, .int 0, .int 0, .int 0, .int 0])), ((a 59), .inl (g 2, 24, .inl (upd (fun _ => 0) (0 : Int32).toNatClampNeg (vp_nar .char p0))))] H := hP
          have hD : va_D (va_A [((a 0), f_x a), ((a 9), f_memory a), ((a 59), .inl (g 2, 24, .inl (fun _ => 0)))] s.heap.size) [((a 0), f_x a), ((a 9), .inr (11, [.ref (a 59), .ref (a 60), .int 1, .int 45, .int 0, .int 0, .int 0, .int 0, .int 0])), ((a 59), .inl (g 2, 24, .inl (upd (fun _ => 0) (0 : Int32).toNatClampNeg (vp_nar .char p0))))] := hD
          have hP9 := hP.sub (ws' := []) [] rfl
          have hD9 := hD.sub (ws' := []) [] (by decide) rfl
          refine vx_ret (W.widen (k := 1) (n := 6) (Nat.le_of_ble_eq_true rfl) (Nat.le_of_ble_eq_true rfl) ?_)
          exact W.iret (v := 1) hx hb hr (fun t ht9 hW9 => ⟨⟨1, (), rfl, ⟨rfl, (Or.inr (Or.inr (Or.inr (Or.inr (Or.inr ⟨c_26, c_27, c_28, c_29, c_30, c_31⟩)))))⟩, ⟨(by rw [ht9]; exact hP9), hD9⟩⟩, hS.F ht9⟩) hS.2.2 dX11_march_43 hlocks
        · exact absurd c_33 (by decide)
      · exact absurd c_32 (by decide)
  · obtain ⟨rfl, hw⟩ := hw
    obtain ⟨c_34, c_35, c_36, c_37, c_38, c_39⟩ := hw
    have hP := ro1 hP hk1
    refine lv_if_ne (tgt := 15) hx hb dX11_march_4 (by decide) (fun c_40 => ?_) (fun c_40 => ?_)
    · exact absurd c_40 (by decide)
    · exact thr0 hx hb hfl hown ht hK.2.2 hZ hAz hS hl hml htab hlocks (by decide +kernel) w_43 w_44 at_X11_116 dX11_march_7 dX11_march_10 dX11_march_11 dX11_march_14 rfl rfl rfl rfl (fun t _ hF => ⟨(), trivial, ⟨rfl, ⟨c_34, c_35, c_36, c_37, c_38, c_39⟩⟩, hF⟩) (fun _ h => h) rfl rfl
set_option maxHeartbeats 4000000 in
set_option maxRecDepth 100000 in
theorem k_X5_isKind (l : Launch) (D : va_G) (g : Nat → ClassId) (z0 sz : Nat) (a : Nat → Nat) (p0 : Int32) (hc_p0 : isC p0) : Met l yX5_isKind (.code yX5_isKind cX5_isKind 1 (some .boolean) :: TG) (rmk 0 0 0 0) (va_Pc [.int p0] (PP D g z0 sz [])) (va_Qi (fun (r : Int32) (u : Unit) => ((r = 1) ∧ ((p0 = 115) ∨ ((¬ p0 = 115) ∧ (p0 = 116)) ∨ ((¬ p0 = 115) ∧ (¬ p0 = 116) ∧ (p0 = 99)) ∨ ((¬ p0 = 115) ∧ (¬ p0 = 116) ∧ (¬ p0 = 99) ∧ (p0 = 105)) ∨ ((¬ p0 = 115) ∧ (¬ p0 = 116) ∧ (¬ p0 = 99) ∧ (¬ p0 = 105) ∧ (p0 = 97)))) ∨ ((r = 0) ∧ ((¬ p0 = 115) ∧ (¬ p0 = 116) ∧ (¬ p0 = 99) ∧ (¬ p0 = 105) ∧ (¬ p0 = 97)))) (fun (_ : Unit) (_ : State) => True) (va_A [] sz)) 0 0 (va_A [] sz) := by
  refine met0 (cc := cX5_isKind) (n := 1) (by decide) (Nat.le_of_ble_eq_true rfl) ?_
  intro p e s m args below meth c hx hb hr hml hown ht hlocks hnm hP0 hD0 hK hZ hsz hz ls hl
  subst hsz
  have hA : ∀ q : Nat, s.heap.size ≤ q → va_A [] s.heap.size q := Anw
  have hAz : ∀ q, va_A [] s.heap.size q → z0 ≤ q := A0z hz
  have hS : va_S (va_A [] s.heap.size) s.heap s.heap [] := va_S.rf
  have hl : lv_has ls 1 [(0, .int p0)] := hl
  refine lv_iload_n hx hb dX5_isKind_0 rfl (lv_at hl 0 rfl) ?_
  refine lv_bipush (v := 115) hx hb dX5_isKind_1 (by decide) ?_
  refine lv_icmp_eq (tgt := 30) hx hb dX5_isKind_3 (by decide) (fun c_1 => ?_) (fun c_1 => ?_)
  · refine lv_iconst (v := 1) hx hb dX5_isKind_30 (by decide) ?_
    refine lv_goto (tgt := 35) hx hb dX5_isKind_31 (by decide) ?_
    refine W.widen (k := 0) (n := 0) (Nat.le_of_ble_eq_true rfl) (Nat.le_of_ble_eq_true rfl) ?_
    exact W.zret (v := 1) hx hb hr rfl (fun t ht9 hW9 => ⟨⟨1, (), rfl, (Or.inl ⟨rfl, (Or.inl c_1)⟩), trivial⟩, hS.F ht9⟩) hS.2.2 dX5_isKind_35 hlocks
  · refine lv_iload_n hx hb dX5_isKind_6 rfl (lv_at hl 0 rfl) ?_
    refine lv_bipush (v := 116) hx hb dX5_isKind_7 (by decide) ?_
    refine lv_icmp_eq (tgt := 30) hx hb dX5_isKind_9 (by decide) (fun c_2 => ?_) (fun c_2 => ?_)
    · refine lv_iconst (v := 1) hx hb dX5_isKind_30 (by decide) ?_
      refine lv_goto (tgt := 35) hx hb dX5_isKind_31 (by decide) ?_
      refine W.widen (k := 0) (n := 0) (Nat.le_of_ble_eq_true rfl) (Nat.le_of_ble_eq_true rfl) ?_
      exact W.zret (v := 1) hx hb hr rfl (fun t ht9 hW9 => ⟨⟨1, (), rfl, (Or.inl ⟨rfl, (Or.inr (Or.inl ⟨c_1, c_2⟩))⟩), trivial⟩, hS.F ht9⟩) hS.2.2 dX5_isKind_35 hlocks
    · refine lv_iload_n hx hb dX5_isKind_12 rfl (lv_at hl 0 rfl) ?_
      refine lv_bipush (v := 99) hx hb dX5_isKind_13 (by decide) ?_
      refine lv_icmp_eq (tgt := 30) hx hb dX5_isKind_15 (by decide) (fun c_3 => ?_) (fun c_3 => ?_)
      · refine lv_iconst (v := 1) hx hb dX5_isKind_30 (by decide) ?_
        refine lv_goto (tgt := 35) hx hb dX5_isKind_31 (by decide) ?_
        refine W.widen (k := 0) (n := 0) (Nat.le_of_ble_eq_true rfl) (Nat.le_of_ble_eq_true rfl) ?_
        exact W.zret (v := 1) hx hb hr rfl (fun t ht9 hW9 => ⟨⟨1, (), rfl, (Or.inl ⟨rfl, (Or.inr (Or.inr (Or.inl ⟨c_1, c_2, c_3⟩)))⟩), trivial⟩, hS.F ht9⟩) hS.2.2 dX5_isKind_35 hlocks
      · refine lv_iload_n hx hb dX5_isKind_18 rfl (lv_at hl 0 rfl) ?_
        refine lv_bipush (v := 105) hx hb dX5_isKind_19 (by decide) ?_
        refine lv_icmp_eq (tgt := 30) hx hb dX5_isKind_21 (by decide) (fun c_4 => ?_) (fun c_4 => ?_)
        · refine lv_iconst (v := 1) hx hb dX5_isKind_30 (by decide) ?_
          refine lv_goto (tgt := 35) hx hb dX5_isKind_31 (by decide) ?_
          refine W.widen (k := 0) (n := 0) (Nat.le_of_ble_eq_true rfl) (Nat.le_of_ble_eq_true rfl) ?_
          exact W.zret (v := 1) hx hb hr rfl (fun t ht9 hW9 => ⟨⟨1, (), rfl, (Or.inl ⟨rfl, (Or.inr (Or.inr (Or.inr (Or.inl ⟨c_1, c_2, c_3, c_4⟩))))⟩), trivial⟩, hS.F ht9⟩) hS.2.2 dX5_isKind_35 hlocks
        · refine lv_iload_n hx hb dX5_isKind_24 rfl (lv_at hl 0 rfl) ?_
          refine lv_bipush (v := 97) hx hb dX5_isKind_25 (by decide) ?_
          refine lv_icmp_ne (tgt := 34) hx hb dX5_isKind_27 (by decide) (fun c_5 => ?_) (fun c_5 => ?_)
          · refine lv_iconst (v := 0) hx hb dX5_isKind_34 (by decide) ?_
            refine W.widen (k := 0) (n := 0) (Nat.le_of_ble_eq_true rfl) (Nat.le_of_ble_eq_true rfl) ?_
            exact W.zret (v := 0) hx hb hr rfl (fun t ht9 hW9 => ⟨⟨0, (), rfl, (Or.inr ⟨rfl, ⟨c_1, c_2, c_3, c_4, c_5⟩⟩), trivial⟩, hS.F ht9⟩) hS.2.2 dX5_isKind_35 hlocks
          · refine lv_iconst (v := 1) hx hb dX5_isKind_30 (by decide) ?_
            refine lv_goto (tgt := 35) hx hb dX5_isKind_31 (by decide) ?_
            refine W.widen (k := 0) (n := 0) (Nat.le_of_ble_eq_true rfl) (Nat.le_of_ble_eq_true rfl) ?_
            exact W.zret (v := 1) hx hb hr rfl (fun t ht9 hW9 => ⟨⟨1, (), rfl, (Or.inl ⟨rfl, (Or.inr (Or.inr (Or.inr (Or.inr ⟨c_1, c_2, c_3, c_4, c_5⟩))))⟩), trivial⟩, hS.F ht9⟩) hS.2.2 dX5_isKind_35 hlocks
set_option maxHeartbeats 4000000 in
set_option maxRecDepth 100000 in
theorem k_X11_marchCount (l : Launch) (hfl : l.stackTraces = false) (D : va_G) (g : Nat → ClassId) (z0 sz : Nat) (a : Nat → Nat) (p0 : Int32) (hc_p0 : isC p0) : vx_Met l yX11_marchCount (.code yX11_marchCount cX11_marchCount 2 (some .int) :: TG) (rmk 6 1 6 81) (va_Pc [.ref (a 0), .int p0] (PP D g z0 sz [((a 0), f_x a), ((a 9), f_memory a)])) (va_Qi (fun (r : Int32) (u : Unit) => False) (fun (_ : Unit) (_ : State) => True) (va_A [((a 0), f_x a), ((a 9), f_memory a)] sz)) (vx_X (fun _ : Unit => True) (fun E _ _ => (E = "java/lang/UnsupportedOperationException" ∧ ((p0 = 115) ∨ ((¬ p0 = 115) ∧ (p0 = 116)) ∨ ((¬ p0 = 115) ∧ (¬ p0 = 116) ∧ (p0 = 99)) ∨ ((¬ p0 = 115) ∧ (¬ p0 = 116) ∧ (¬ p0 = 99) ∧ (p0 = 105)) ∨ ((¬ p0 = 115) ∧ (¬ p0 = 116) ∧ (¬ p0 = 99) ∧ (¬ p0 = 105) ∧ (p0 = 97)))) ∨ (E = "java/lang/IllegalArgumentException" ∧ ((¬ p0 = 115) ∧ (¬ p0 = 116) ∧ (¬ p0 = 99) ∧ (¬ p0 = 105) ∧ (¬ p0 = 97)))) (va_A [((a 0), f_x a), ((a 9), f_memory a)] sz)) 1 6 (va_A [((a 0), f_x a), ((a 9), f_memory a)] sz) := by
  refine vxm0 (cc := cX11_marchCount) (n := 2) (by decide) (Nat.le_of_ble_eq_true rfl) ?_
  intro p e s m args below meth c hx hb hr hml htab hown ht hlocks hnm hP0 hD0 hK hZ hsz hz ls hl
  subst hsz
  have hA : ∀ q : Nat, s.heap.size ≤ q → va_A [((a 0), f_x a), ((a 9), f_memory a)] s.heap.size q := Anw
  have hAz : ∀ q, va_A [((a 0), f_x a), ((a 9), f_memory a)] s.heap.size q → z0 ≤ q := Awz hz hD0
  have hS : va_S (va_A [((a 0), f_x a), ((a 9), f_memory a)] s.heap.size) s.heap s.heap [] := va_S.rf
  have hD : va_D (va_A [((a 0), f_x a), ((a 9), f_memory a)] s.heap.size) [((a 0), f_x a), ((a 9), f_memory a)] := hD0.self
  have hP : va_P D vwCl [((a 0), f_x a), ((a 9), f_memory a)] s.heap := hP0
  have hl : lv_has ls 2 [(0, .ref (a 0)), (1, .int p0)] := hl
  refine lv_iload_n hx hb dX11_marchCount_0 rfl (lv_at hl 1 rfl) ?_
  have hPc : va_P D vwCl [] _ := hP.sub (ws' := []) [] rfl
  have hDc : va_D (fun q => z0 ≤ q) [] := (hD.to hAz).pick (ws' := []) [] (by decide) rfl
  have hFc := AnA (ws := [((a 0), f_x a), ((a 9), f_memory a)]) hS.1
  refine va_calli (va_runS (As := [.int p0]) (rest := []) ⟨hx, hb, hml, hown, ht⟩ (k_X5_isKind l D g z0 _ a p0 hc_p0) (va_cwS 1 ht (gS w_257 w_259 w_221 w_258) rfl rfl rfl (by decide +kernel) (le2 rfl rfl)) ⟨PP.blind, PP.mk' hK hZ hz hAz hS hPc hDc⟩ rfl rfl hl.1 rfl (lv_room (Nat.le_of_ble_eq_true rfl)) dX11_marchCount_1 (le2 rfl rfl)) hS (fun q _ h => hFc q h) hFc (fun r u t H locs ht1 hvm hw hB hz1 hk1 hS => ?_)
  rcases hw with hw | hw
  · obtain ⟨rfl, hw⟩ := hw
    rcases hw with hw | hw | hw | hw | hw
    · have c_1 := hw
      have hP := ro1 hP hk1
      refine lv_if_ne (tgt := 15) hx hb dX11_marchCount_4 (by decide) (fun c_2 => ?_) (fun c_2 => ?_)
      · refine lv_aload_n hx hb dX11_marchCount_15 rfl (lv_at hl 0 rfl) ?_
        refine va_get (D := D) (ci := 17) (v := .ref (a 9)) (C := RX11) (T := TX11) (N := 11) hx hb ht in_X11 hown hK.1 hP 0 rfl rfl 8 (by decide) (ht _ w_41) (fun _ h9 => h9) rfl dX11_marchCount_16 ?_
        have hPc : va_P D vwCl [((a 9), f_memory a)] _ := hP.sub (ws' := [((a 9), f_memory a)]) [1] rfl
        have hDc : va_D (fun q => z0 ≤ q) [((a 9), f_memory a)] := (hD.to hAz).pick (ws' := [((a 9), f_memory a)]) [1] (by decide) rfl
        have hFc := va_free (wc := [((a 9), f_memory a)]) hD hS hA [1] rfl
        refine va_calli (va_runV (As := []) (rest := []) ⟨hx, hb, hml, hown, ht⟩ (k_X5_isMarchRight l D g z0 _ a) (cwV 0 ht (gV w_217 w_219 w_220 w_221 w_218) rfl rfl rfl (by decide +kernel) (le2 rfl rfl)) ⟨PP.blind, va_recv hK.1 hP (ci := 11) (q0 := 1) rfl rfl, PP.mk' hK hZ hz hAz hS hPc hDc⟩ rfl rfl hl.1 rfl (lv_room (Nat.le_of_ble_eq_true rfl)) dX11_marchCount_19 (le2 rfl rfl)) hS (fun q _ h => hFc q h) hFc (fun r u t H locs ht1 hvm hw hB hz1 hk1 hS => ?_)
        obtain ⟨rfl, hw⟩ := hw
        obtain ⟨hP1, hD1⟩ := hB
        rw [ht1] at hP1
        obtain ⟨hP, hD⟩ := va_join (wr := [((a 0), f_x a)]) (w1 := [((a 9), f_memory a)]) hP hD [1] [0] rfl rfl (by decide) (by decide) hk1 hFc hP1 hD1
        have hP : va_P D vwCl [((a 0), f_x a), ((a 9), f_memory a)] H := hP
        have hD : va_D (va_A [((a 0), f_x a), ((a 9), f_memory a)] s.heap.size) [((a 0), f_x a), ((a 9), f_memory a)] := hD
        refine lv_if_ne (tgt := 33) hx hb dX11_marchCount_22 (by decide) (fun c_3 => ?_) (fun c_3 => ?_)
        · exact absurd c_3 (by decide)
        · exact thr0 hx hb hfl hown ht hK.2.2 hZ hAz hS hl hml htab hlocks (by decide +kernel) w_71 w_72 at_X11_127 dX11_marchCount_25 dX11_marchCount_28 dX11_marchCount_29 dX11_marchCount_32 rfl rfl rfl rfl (fun t _ hF => ⟨(), trivial, (Or.inl ⟨rfl, (Or.inl c_1)⟩), hF⟩) (fun _ h => h) rfl rfl
      · exact absurd c_2 (by decide)
    · obtain ⟨c_4, c_5⟩ := hw
      have hP := ro1 hP hk1
      refine lv_if_ne (tgt := 15) hx hb dX11_marchCount_4 (by decide) (fun c_6 => ?_) (fun c_6 => ?_)
      · refine lv_aload_n hx hb dX11_marchCount_15 rfl (lv_at hl 0 rfl) ?_
        refine va_get (D := D) (ci := 17) (v := .ref (a 9)) (C := RX11) (T := TX11) (N := 11) hx hb ht in_X11 hown hK.1 hP 0 rfl rfl 8 (by decide) (ht _ w_41) (fun _ h9 => h9) rfl dX11_marchCount_16 ?_
        have hPc : va_P D vwCl [((a 9), f_memory a)] _ := hP.sub (ws' := [((a 9), f_memory a)]) [1] rfl
        have hDc : va_D (fun q => z0 ≤ q) [((a 9), f_memory a)] := (hD.to hAz).pick (ws' := [((a 9), f_memory a)]) [1] (by decide) rfl
        have hFc := va_free (wc := [((a 9), f_memory a)]) hD hS hA [1] rfl
        refine va_calli (va_runV (As := []) (rest := []) ⟨hx, hb, hml, hown, ht⟩ (k_X5_isMarchRight l D g z0 _ a) (cwV 0 ht (gV w_217 w_219 w_220 w_221 w_218) rfl rfl rfl (by decide +kernel) (le2 rfl rfl)) ⟨PP.blind, va_recv hK.1 hP (ci := 11) (q0 := 1) rfl rfl, PP.mk' hK hZ hz hAz hS hPc hDc⟩ rfl rfl hl.1 rfl (lv_room (Nat.le_of_ble_eq_true rfl)) dX11_marchCount_19 (le2 rfl rfl)) hS (fun q _ h => hFc q h) hFc (fun r u t H locs ht1 hvm hw hB hz1 hk1 hS => ?_)
        obtain ⟨rfl, hw⟩ := hw
        obtain ⟨hP1, hD1⟩ := hB
        rw [ht1] at hP1
        obtain ⟨hP, hD⟩ := va_join (wr := [((a 0), f_x a)]) (w1 := [((a 9), f_memory a)]) hP hD [1] [0] rfl rfl (by decide) (by decide) hk1 hFc hP1 hD1
        have hP : va_P D vwCl [((a 0), f_x a), ((a 9), f_memory a)] H := hP
        have hD : va_D (va_A [((a 0), f_x a), ((a 9), f_memory a)] s.heap.size) [((a 0), f_x a), ((a 9), f_memory a)] := hD
        refine lv_if_ne (tgt := 33) hx hb dX11_marchCount_22 (by decide) (fun c_7 => ?_) (fun c_7 => ?_)
        · exact absurd c_7 (by decide)
        · exact thr0 hx hb hfl hown ht hK.2.2 hZ hAz hS hl hml htab hlocks (by decide +kernel) w_71 w_72 at_X11_127 dX11_marchCount_25 dX11_marchCount_28 dX11_marchCount_29 dX11_marchCount_32 rfl rfl rfl rfl (fun t _ hF => ⟨(), trivial, (Or.inl ⟨rfl, (Or.inr (Or.inl ⟨c_4, c_5⟩))⟩), hF⟩) (fun _ h => h) rfl rfl
      · exact absurd c_6 (by decide)
    · obtain ⟨c_8, c_9, c_10⟩ := hw
      have hP := ro1 hP hk1
      refine lv_if_ne (tgt := 15) hx hb dX11_marchCount_4 (by decide) (fun c_11 => ?_) (fun c_11 => ?_)
      · refine lv_aload_n hx hb dX11_marchCount_15 rfl (lv_at hl 0 rfl) ?_
        refine va_get (D := D) (ci := 17) (v := .ref (a 9)) (C := RX11) (T := TX11) (N := 11) hx hb ht in_X11 hown hK.1 hP 0 rfl rfl 8 (by decide) (ht _ w_41) (fun _ h9 => h9) rfl dX11_marchCount_16 ?_
        have hPc : va_P D vwCl [((a 9), f_memory a)] _ := hP.sub (ws' := [((a 9), f_memory a)]) [1] rfl
        have hDc : va_D (fun q => z0 ≤ q) [((a 9), f_memory a)] := (hD.to hAz).pick (ws' := [((a 9), f_memory a)]) [1] (by decide) rfl
        have hFc := va_free (wc := [((a 9), f_memory a)]) hD hS hA [1] rfl
        refine va_calli (va_runV (As := []) (rest := []) ⟨hx, hb, hml, hown, ht⟩ (k_X5_isMarchRight l D g z0 _ a) (cwV 0 ht (gV w_217 w_219 w_220 w_221 w_218) rfl rfl rfl (by decide +kernel) (le2 rfl rfl)) ⟨PP.blind, va_recv hK.1 hP (ci := 11) (q0 := 1) rfl rfl, PP.mk' hK hZ hz hAz hS hPc hDc⟩ rfl rfl hl.1 rfl (lv_room (Nat.le_of_ble_eq_true rfl)) dX11_marchCount_19 (le2 rfl rfl)) hS (fun q _ h => hFc q h) hFc (fun r u t H locs ht1 hvm hw hB hz1 hk1 hS => ?_)
        obtain ⟨rfl, hw⟩ := hw
        obtain ⟨hP1, hD1⟩ := hB
        rw [ht1] at hP1
        obtain ⟨hP, hD⟩ := va_join (wr := [((a 0), f_x a)]) (w1 := [((a 9), f_memory a)]) hP hD [1] [0] rfl rfl (by decide) (by decide) hk1 hFc hP1 hD1
        have hP : va_P D vwCl [((a 0), f_x a), ((a 9), f_memory a)] H := hP
        have hD : va_D (va_A [((a 0), f_x a), ((a 9), f_memory a)] s.heap.size) [((a 0), f_x a), ((a 9), f_memory a)] := hD
        refine lv_if_ne (tgt := 33) hx hb dX11_marchCount_22 (by decide) (fun c_12 => ?_) (fun c_12 => ?_)
        · exact absurd c_12 (by decide)
        · exact thr0 hx hb hfl hown ht hK.2.2 hZ hAz hS hl hml htab hlocks (by decide +kernel) w_71 w_72 at_X11_127 dX11_marchCount_25 dX11_marchCount_28 dX11_marchCount_29 dX11_marchCount_32 rfl rfl rfl rfl (fun t _ hF => ⟨(), trivial, (Or.inl ⟨rfl, (Or.inr (Or.inr (Or.inl ⟨c_8, c_9, c_10⟩)))⟩), hF⟩) (fun _ h => h) rfl rfl
      · exact absurd c_11 (by decide)
    · obtain ⟨c_13, c_14, c_15, c_16⟩ := hw
      have hP := ro1 hP hk1
      refine lv_if_ne (tgt := 15) hx hb dX11_marchCount_4 (by decide) (fun c_17 => ?_) (fun c_17 => ?_)
      · refine lv_aload_n hx hb dX11_marchCount_15 rfl (lv_at hl 0 rfl) ?_
        refine va_get (D := D) (ci := 17) (v := .ref (a 9)) (C := RX11) (T := TX11) (N := 11) hx hb ht in_X11 hown hK.1 hP 0 rfl rfl 8 (by decide) (ht _ w_41) (fun _ h9 => h9) rfl dX11_marchCount_16 ?_
        have hPc : va_P D vwCl [((a 9), f_memory a)] _ := hP.sub (ws' := [((a 9), f_memory a)]) [1] rfl
        have hDc : va_D (fun q => z0 ≤ q) [((a 9), f_memory a)] := (hD.to hAz).pick (ws' := [((a 9), f_memory a)]) [1] (by decide) rfl
        have hFc := va_free (wc := [((a 9), f_memory a)]) hD hS hA [1] rfl
        refine va_calli (va_runV (As := []) (rest := []) ⟨hx, hb, hml, hown, ht⟩ (k_X5_isMarchRight l D g z0 _ a) (cwV 0 ht (gV w_217 w_219 w_220 w_221 w_218) rfl rfl rfl (by decide +kernel) (le2 rfl rfl)) ⟨PP.blind, va_recv hK.1 hP (ci := 11) (q0 := 1) rfl rfl, PP.mk' hK hZ hz hAz hS hPc hDc⟩ rfl rfl hl.1 rfl (lv_room (Nat.le_of_ble_eq_true rfl)) dX11_marchCount_19 (le2 rfl rfl)) hS (fun q _ h => hFc q h) hFc (fun r u t H locs ht1 hvm hw hB hz1 hk1 hS => ?_)
        obtain ⟨rfl, hw⟩ := hw
        obtain ⟨hP1, hD1⟩ := hB
        rw [ht1] at hP1
        obtain ⟨hP, hD⟩ := va_join (wr := [((a 0), f_x a)]) (w1 := [((a 9), f_memory a)]) hP hD [1] [0] rfl rfl (by decide) (by decide) hk1 hFc hP1 hD1
        have hP : va_P D vwCl [((a 0), f_x a), ((a 9), f_memory a)] H := hP
        have hD : va_D (va_A [((a 0), f_x a), ((a 9), f_memory a)] s.heap.size) [((a 0), f_x a), ((a 9), f_memory a)] := hD
        refine lv_if_ne (tgt := 33) hx hb dX11_marchCount_22 (by decide) (fun c_18 => ?_) (fun c_18 => ?_)
        · exact absurd c_18 (by decide)
        · exact thr0 hx hb hfl hown ht hK.2.2 hZ hAz hS hl hml htab hlocks (by decide +kernel) w_71 w_72 at_X11_127 dX11_marchCount_25 dX11_marchCount_28 dX11_marchCount_29 dX11_marchCount_32 rfl rfl rfl rfl (fun t _ hF => ⟨(), trivial, (Or.inl ⟨rfl, (Or.inr (Or.inr (Or.inr (Or.inl ⟨c_13, c_14, c_15, c_16⟩))))⟩), hF⟩) (fun _ h => h) rfl rfl
      · exact absurd c_17 (by decide)
    · obtain ⟨c_19, c_20, c_21, c_22, c_23⟩ := hw
      have hP := ro1 hP hk1
      refine lv_if_ne (tgt := 15) hx hb dX11_marchCount_4 (by decide) (fun c_24 => ?_) (fun c_24 => ?_)
      · refine lv_aload_n hx hb dX11_marchCount_15 rfl (lv_at hl 0 rfl) ?_
        refine va_get (D := D) (ci := 17) (v := .ref (a 9)) (C := RX11) (T := TX11) (N := 11) hx hb ht in_X11 hown hK.1 hP 0 rfl rfl 8 (by decide) (ht _ w_41) (fun _ h9 => h9) rfl dX11_marchCount_16 ?_
        have hPc : va_P D vwCl [((a 9), f_memory a)] _ := hP.sub (ws' := [((a 9), f_memory a)]) [1] rfl
        have hDc : va_D (fun q => z0 ≤ q) [((a 9), f_memory a)] := (hD.to hAz).pick (ws' := [((a 9), f_memory a)]) [1] (by decide) rfl
        have hFc := va_free (wc := [((a 9), f_memory a)]) hD hS hA [1] rfl
        refine va_calli (va_runV (As := []) (rest := []) ⟨hx, hb, hml, hown, ht⟩ (k_X5_isMarchRight l D g z0 _ a) (cwV 0 ht (gV w_217 w_219 w_220 w_221 w_218) rfl rfl rfl (by decide +kernel) (le2 rfl rfl)) ⟨PP.blind, va_recv hK.1 hP (ci := 11) (q0 := 1) rfl rfl, PP.mk' hK hZ hz hAz hS hPc hDc⟩ rfl rfl hl.1 rfl (lv_room (Nat.le_of_ble_eq_true rfl)) dX11_marchCount_19 (le2 rfl rfl)) hS (fun q _ h => hFc q h) hFc (fun r u t H locs ht1 hvm hw hB hz1 hk1 hS => ?_)
        obtain ⟨rfl, hw⟩ := hw
        obtain ⟨hP1, hD1⟩ := hB
        rw [ht1] at hP1
        obtain ⟨hP, hD⟩ := va_join (wr := [((a 0), f_x a)]) (w1 := [((a 9), f_memory a)]) hP hD [1] [0] rfl rfl (by decide) (by decide) hk1 hFc hP1 hD1
        have hP : va_P D vwCl [((a 0), f_x a), ((a 9), f_memory a)] H := hP
        have hD : va_D (va_A [((a 0), f_x a), ((a 9), f_memory a)] s.heap.size) [((a 0), f_x a), ((a 9), f_memory a)] := hD
        refine lv_if_ne (tgt := 33) hx hb dX11_marchCount_22 (by decide) (fun c_25 => ?_) (fun c_25 => ?_)
        · exact absurd c_25 (by decide)
        · exact thr0 hx hb hfl hown ht hK.2.2 hZ hAz hS hl hml htab hlocks (by decide +kernel) w_71 w_72 at_X11_127 dX11_marchCount_25 dX11_marchCount_28 dX11_marchCount_29 dX11_marchCount_32 rfl rfl rfl rfl (fun t _ hF => ⟨(), trivial, (Or.inl ⟨rfl, (Or.inr (Or.inr (Or.inr (Or.inr ⟨c_19, c_20, c_21, c_22, c_23⟩))))⟩), hF⟩) (fun _ h => h) rfl rfl
      · exact absurd c_24 (by decide)
  · obtain ⟨rfl, hw⟩ := hw
    obtain ⟨c_26, c_27, c_28, c_29, c_30⟩ := hw
    have hP := ro1 hP hk1
    refine lv_if_ne (tgt := 15) hx hb dX11_marchCount_4 (by decide) (fun c_31 => ?_) (fun c_31 => ?_)
    · exact absurd c_31 (by decide)
    · exact thr0 hx hb hfl hown ht hK.2.2 hZ hAz hS hl hml htab hlocks (by decide +kernel) w_43 w_44 at_X11_116 dX11_marchCount_7 dX11_marchCount_10 dX11_marchCount_11 dX11_marchCount_14 rfl rfl rfl rfl (fun t _ hF => ⟨(), trivial, (Or.inr ⟨rfl, ⟨c_26, c_27, c_28, c_29, c_30⟩⟩), hF⟩) (fun _ h => h) rfl rfl
set_option maxHeartbeats 4000000 in
set_option maxRecDepth 100000 in
theorem k_X5_isOfTwoCells (l : Launch) (D : va_G) (g : Nat → ClassId) (z0 sz : Nat) (a : Nat → Nat) (p0 : Int32) (hc_p0 : isC p0) : Met l yX5_isOfTwoCells (.code yX5_isOfTwoCells cX5_isOfTwoCells 1 (some .boolean) :: TG) (rmk 0 0 0 0) (va_Pc [.int p0] (PP D g z0 sz [])) (va_Qi (fun (r : Int32) (u : Unit) => ((r = 1) ∧ ((p0 = 99) ∨ ((¬ p0 = 99) ∧ (p0 = 105)) ∨ ((¬ p0 = 99) ∧ (¬ p0 = 105) ∧ (p0 = 97)))) ∨ ((r = 0) ∧ ((¬ p0 = 99) ∧ (¬ p0 = 105) ∧ (¬ p0 = 97)))) (fun (_ : Unit) (_ : State) => True) (va_A [] sz)) 0 0 (va_A [] sz) := by
  refine met0 (cc := cX5_isOfTwoCells) (n := 1) (by decide) (Nat.le_of_ble_eq_true rfl) ?_
  intro p e s m args below meth c hx hb hr hml hown ht hlocks hnm hP0 hD0 hK hZ hsz hz ls hl
  subst hsz
  have hA : ∀ q : Nat, s.heap.size ≤ q → va_A [] s.heap.size q := Anw
  have hAz : ∀ q, va_A [] s.heap.size q → z0 ≤ q := A0z hz
  have hS : va_S (va_A [] s.heap.size) s.heap s.heap [] := va_S.rf
  have hl : lv_has ls 1 [(0, .int p0)] := hl
  refine lv_iload_n hx hb dX5_isOfTwoCells_0 rfl (lv_at hl 0 rfl) ?_
  refine lv_bipush (v := 99) hx hb dX5_isOfTwoCells_1 (by decide) ?_
  refine lv_icmp_eq (tgt := 18) hx hb dX5_isOfTwoCells_3 (by decide) (fun c_1 => ?_) (fun c_1 => ?_)
  · refine lv_iconst (v := 1) hx hb dX5_isOfTwoCells_18 (by decide) ?_
    refine lv_goto (tgt := 23) hx hb dX5_isOfTwoCells_19 (by decide) ?_
    refine W.widen (k := 0) (n := 0) (Nat.le_of_ble_eq_true rfl) (Nat.le_of_ble_eq_true rfl) ?_
    exact W.zret (v := 1) hx hb hr rfl (fun t ht9 hW9 => ⟨⟨1, (), rfl, (Or.inl ⟨rfl, (Or.inl c_1)⟩), trivial⟩, hS.F ht9⟩) hS.2.2 dX5_isOfTwoCells_23 hlocks
  · refine lv_iload_n hx hb dX5_isOfTwoCells_6 rfl (lv_at hl 0 rfl) ?_
    refine lv_bipush (v := 105) hx hb dX5_isOfTwoCells_7 (by decide) ?_
    refine lv_icmp_eq (tgt := 18) hx hb dX5_isOfTwoCells_9 (by decide) (fun c_2 => ?_) (fun c_2 => ?_)
    · refine lv_iconst (v := 1) hx hb dX5_isOfTwoCells_18 (by decide) ?_
      refine lv_goto (tgt := 23) hx hb dX5_isOfTwoCells_19 (by decide) ?_
      refine W.widen (k := 0) (n := 0) (Nat.le_of_ble_eq_true rfl) (Nat.le_of_ble_eq_true rfl) ?_
      exact W.zret (v := 1) hx hb hr rfl (fun t ht9 hW9 => ⟨⟨1, (), rfl, (Or.inl ⟨rfl, (Or.inr (Or.inl ⟨c_1, c_2⟩))⟩), trivial⟩, hS.F ht9⟩) hS.2.2 dX5_isOfTwoCells_23 hlocks
    · refine lv_iload_n hx hb dX5_isOfTwoCells_12 rfl (lv_at hl 0 rfl) ?_
      refine lv_bipush (v := 97) hx hb dX5_isOfTwoCells_13 (by decide) ?_
      refine lv_icmp_ne (tgt := 22) hx hb dX5_isOfTwoCells_15 (by decide) (fun c_3 => ?_) (fun c_3 => ?_)
      · refine lv_iconst (v := 0) hx hb dX5_isOfTwoCells_22 (by decide) ?_
        refine W.widen (k := 0) (n := 0) (Nat.le_of_ble_eq_true rfl) (Nat.le_of_ble_eq_true rfl) ?_
        exact W.zret (v := 0) hx hb hr rfl (fun t ht9 hW9 => ⟨⟨0, (), rfl, (Or.inr ⟨rfl, ⟨c_1, c_2, c_3⟩⟩), trivial⟩, hS.F ht9⟩) hS.2.2 dX5_isOfTwoCells_23 hlocks
      · refine lv_iconst (v := 1) hx hb dX5_isOfTwoCells_18 (by decide) ?_
        refine lv_goto (tgt := 23) hx hb dX5_isOfTwoCells_19 (by decide) ?_
        refine W.widen (k := 0) (n := 0) (Nat.le_of_ble_eq_true rfl) (Nat.le_of_ble_eq_true rfl) ?_
        exact W.zret (v := 1) hx hb hr rfl (fun t ht9 hW9 => ⟨⟨1, (), rfl, (Or.inl ⟨rfl, (Or.inr (Or.inr ⟨c_1, c_2, c_3⟩))⟩), trivial⟩, hS.F ht9⟩) hS.2.2 dX5_isOfTwoCells_23 hlocks
set_option maxHeartbeats 4000000 in
set_option maxRecDepth 100000 in
theorem k_X5_isFault (l : Launch) (D : va_G) (g : Nat → ClassId) (z0 sz : Nat) (a : Nat → Nat) (p0 : Int32) (p1 : Int32) (p2 : Int32) (p3 : Int32) (p4 : Int32) (hc_p0 : isC p0) : Met l yX5_isFault (.code yX5_isFault cX5_isFault 5 (some .boolean) :: TG) (rmk 1 0 0 20) (va_Pc [.int p0, .int p1, .int p2, .int p3, .int p4] (PP D g z0 sz [])) (va_Qi (fun (r : Int32) (u : Unit) => ((r = 0) ∧ (((p0 = 115) ∧ (p1 < 0)) ∨ ((p0 = 115) ∧ (¬ p1 < 0) ∧ (p1 < 8) ∧ (¬ p0 = 99) ∧ (¬ p0 = 105) ∧ (¬ p0 = 97) ∧ (¬ p3 = 0) ∧ (¬ p3 = 1)) ∨ ((p0 = 115) ∧ (¬ p1 < 0) ∧ (¬ p1 < 8)) ∨ ((¬ p0 = 115) ∧ (p0 = 116) ∧ (p1 < 0)) ∨ ((¬ p0 = 115) ∧ (p0 = 116) ∧ (¬ p1 < 0) ∧ (p1 < 8) ∧ (¬ p0 = 99) ∧ (¬ p0 = 105) ∧ (¬ p0 = 97) ∧ (¬ p3 = 0) ∧ (¬ p3 = 1)) ∨ ((¬ p0 = 115) ∧ (p0 = 116) ∧ (¬ p1 < 0) ∧ (¬ p1 < 8)) ∨ ((¬ p0 = 115) ∧ (¬ p0 = 116) ∧ (p0 = 99) ∧ (p1 < 0)) ∨ ((¬ p0 = 115) ∧ (¬ p0 = 116) ∧ (p0 = 99) ∧ (¬ p1 < 0) ∧ (p1 < 8) ∧ (p2 < 0)) ∨ ((¬ p0 = 115) ∧ (¬ p0 = 116) ∧ (p0 = 99) ∧ (¬ p1 < 0) ∧ (p1 < 8) ∧ (¬ p2 < 0) ∧ ((8 : Int32) ≤ p2)) ∨ ((¬ p0 = 115) ∧ (¬ p0 = 116) ∧ (p0 = 99) ∧ (¬ p1 < 0) ∧ (p1 < 8) ∧ (¬ p2 < 0) ∧ (¬ (8 : Int32) ≤ p2) ∧ (¬ p1 = p2) ∧ (¬ p0 = 97) ∧ (p3 = 0) ∧ (¬ p4 = 0) ∧ (¬ p4 = 1)) ∨ ((¬ p0 = 115) ∧ (¬ p0 = 116) ∧ (p0 = 99) ∧ (¬ p1 < 0) ∧ (p1 < 8) ∧ (¬ p2 < 0) ∧ (¬ (8 : Int32) ≤ p2) ∧ (¬ p1 = p2) ∧ (¬ p0 = 97) ∧ (¬ p3 = 0) ∧ (p3 = 1) ∧ (¬ p4 = 0) ∧ (¬ p4 = 1)) ∨ ((¬ p0 = 115) ∧ (¬ p0 = 116) ∧ (p0 = 99) ∧ (¬ p1 < 0) ∧ (p1 < 8) ∧ (¬ p2 < 0) ∧ (¬ (8 : Int32) ≤ p2) ∧ (¬ p1 = p2) ∧ (¬ p0 = 97) ∧ (¬ p3 = 0) ∧ (¬ p3 = 1)) ∨ ((¬ p0 = 115) ∧ (¬ p0 = 116) ∧ (p0 = 99) ∧ (¬ p1 < 0) ∧ (p1 < 8) ∧ (¬ p2 < 0) ∧ (¬ (8 : Int32) ≤ p2) ∧ (p1 = p2)) ∨ ((¬ p0 = 115) ∧ (¬ p0 = 116) ∧ (p0 = 99) ∧ (¬ p1 < 0) ∧ (¬ p1 < 8)) ∨ ((¬ p0 = 115) ∧ (¬ p0 = 116) ∧ (¬ p0 = 99) ∧ (p0 = 105) ∧ (p1 < 0)) ∨ ((¬ p0 = 115) ∧ (¬ p0 = 116) ∧ (¬ p0 = 99) ∧ (p0 = 105) ∧ (¬ p1 < 0) ∧ (p1 < 8) ∧ (p2 < 0)) ∨ ((¬ p0 = 115) ∧ (¬ p0 = 116) ∧ (¬ p0 = 99) ∧ (p0 = 105) ∧ (¬ p1 < 0) ∧ (p1 < 8) ∧ (¬ p2 < 0) ∧ ((8 : Int32) ≤ p2)) ∨ ((¬ p0 = 115) ∧ (¬ p0 = 116) ∧ (¬ p0 = 99) ∧ (p0 = 105) ∧ (¬ p1 < 0) ∧ (p1 < 8) ∧ (¬ p2 < 0) ∧ (¬ (8 : Int32) ≤ p2) ∧ (¬ p1 = p2) ∧ (¬ p0 = 97) ∧ (¬ p3 = 0) ∧ (¬ p3 = 1)) ∨ ((¬ p0 = 115) ∧ (¬ p0 = 116) ∧ (¬ p0 = 99) ∧ (p0 = 105) ∧ (¬ p1 < 0) ∧ (p1 < 8) ∧ (¬ p2 < 0) ∧ (¬ (8 : Int32) ≤ p2) ∧ (p1 = p2)) ∨ ((¬ p0 = 115) ∧ (¬ p0 = 116) ∧ (¬ p0 = 99) ∧ (p0 = 105) ∧ (¬ p1 < 0) ∧ (¬ p1 < 8)) ∨ ((¬ p0 = 115) ∧ (¬ p0 = 116) ∧ (¬ p0 = 99) ∧ (¬ p0 = 105) ∧ (p0 = 97) ∧ (p1 < 0)) ∨ ((¬ p0 = 115) ∧ (¬ p0 = 116) ∧ (¬ p0 = 99) ∧ (¬ p0 = 105) ∧ (p0 = 97) ∧ (¬ p1 < 0) ∧ (p1 < 8) ∧ (p2 < 0)) ∨ ((¬ p0 = 115) ∧ (¬ p0 = 116) ∧ (¬ p0 = 99) ∧ (¬ p0 = 105) ∧ (p0 = 97) ∧ (¬ p1 < 0) ∧ (p1 < 8) ∧ (¬ p2 < 0) ∧ ((8 : Int32) ≤ p2)) ∨ ((¬ p0 = 115) ∧ (¬ p0 = 116) ∧ (¬ p0 = 99) ∧ (¬ p0 = 105) ∧ (p0 = 97) ∧ (¬ p1 < 0) ∧ (p1 < 8) ∧ (¬ p2 < 0) ∧ (¬ (8 : Int32) ≤ p2) ∧ (p1 = p2)) ∨ ((¬ p0 = 115) ∧ (¬ p0 = 116) ∧ (¬ p0 = 99) ∧ (¬ p0 = 105) ∧ (p0 = 97) ∧ (¬ p1 < 0) ∧ (¬ p1 < 8)) ∨ ((¬ p0 = 115) ∧ (¬ p0 = 116) ∧ (¬ p0 = 99) ∧ (¬ p0 = 105) ∧ (¬ p0 = 97)))) ∨ ((r = 1) ∧ (((p0 = 115) ∧ (¬ p1 < 0) ∧ (p1 < 8) ∧ (¬ p0 = 99) ∧ (¬ p0 = 105) ∧ (¬ p0 = 97) ∧ (p3 = 0)) ∨ ((p0 = 115) ∧ (¬ p1 < 0) ∧ (p1 < 8) ∧ (¬ p0 = 99) ∧ (¬ p0 = 105) ∧ (¬ p0 = 97) ∧ (¬ p3 = 0) ∧ (p3 = 1)) ∨ ((¬ p0 = 115) ∧ (p0 = 116) ∧ (¬ p1 < 0) ∧ (p1 < 8) ∧ (¬ p0 = 99) ∧ (¬ p0 = 105) ∧ (¬ p0 = 97) ∧ (p3 = 0)) ∨ ((¬ p0 = 115) ∧ (p0 = 116) ∧ (¬ p1 < 0) ∧ (p1 < 8) ∧ (¬ p0 = 99) ∧ (¬ p0 = 105) ∧ (¬ p0 = 97) ∧ (¬ p3 = 0) ∧ (p3 = 1)) ∨ ((¬ p0 = 115) ∧ (¬ p0 = 116) ∧ (p0 = 99) ∧ (¬ p1 < 0) ∧ (p1 < 8) ∧ (¬ p2 < 0) ∧ (¬ (8 : Int32) ≤ p2) ∧ (¬ p1 = p2) ∧ (¬ p0 = 97) ∧ (p3 = 0) ∧ (p4 = 0)) ∨ ((¬ p0 = 115) ∧ (¬ p0 = 116) ∧ (p0 = 99) ∧ (¬ p1 < 0) ∧ (p1 < 8) ∧ (¬ p2 < 0) ∧ (¬ (8 : Int32) ≤ p2) ∧ (¬ p1 = p2) ∧ (¬ p0 = 97) ∧ (p3 = 0) ∧ (¬ p4 = 0) ∧ (p4 = 1)) ∨ ((¬ p0 = 115) ∧ (¬ p0 = 116) ∧ (p0 = 99) ∧ (¬ p1 < 0) ∧ (p1 < 8) ∧ (¬ p2 < 0) ∧ (¬ (8 : Int32) ≤ p2) ∧ (¬ p1 = p2) ∧ (¬ p0 = 97) ∧ (¬ p3 = 0) ∧ (p3 = 1) ∧ (p4 = 0)) ∨ ((¬ p0 = 115) ∧ (¬ p0 = 116) ∧ (p0 = 99) ∧ (¬ p1 < 0) ∧ (p1 < 8) ∧ (¬ p2 < 0) ∧ (¬ (8 : Int32) ≤ p2) ∧ (¬ p1 = p2) ∧ (¬ p0 = 97) ∧ (¬ p3 = 0) ∧ (p3 = 1) ∧ (¬ p4 = 0) ∧ (p4 = 1)) ∨ ((¬ p0 = 115) ∧ (¬ p0 = 116) ∧ (¬ p0 = 99) ∧ (p0 = 105) ∧ (¬ p1 < 0) ∧ (p1 < 8) ∧ (¬ p2 < 0) ∧ (¬ (8 : Int32) ≤ p2) ∧ (¬ p1 = p2) ∧ (¬ p0 = 97) ∧ (p3 = 0)) ∨ ((¬ p0 = 115) ∧ (¬ p0 = 116) ∧ (¬ p0 = 99) ∧ (p0 = 105) ∧ (¬ p1 < 0) ∧ (p1 < 8) ∧ (¬ p2 < 0) ∧ (¬ (8 : Int32) ≤ p2) ∧ (¬ p1 = p2) ∧ (¬ p0 = 97) ∧ (¬ p3 = 0) ∧ (p3 = 1)) ∨ ((¬ p0 = 115) ∧ (¬ p0 = 116) ∧ (¬ p0 = 99) ∧ (¬ p0 = 105) ∧ (p0 = 97) ∧ (¬ p1 < 0) ∧ (p1 < 8) ∧ (¬ p2 < 0) ∧ (¬ (8 : Int32) ≤ p2) ∧ (¬ p1 = p2))))) (fun (_ : Unit) (_ : State) => True) (va_A [] sz)) 0 0 (va_A [] sz) := by
  refine met0 (cc := cX5_isFault) (n := 5) (by decide) (Nat.le_of_ble_eq_true rfl) ?_
  intro p e s m args below meth c hx hb hr hml hown ht hlocks hnm hP0 hD0 hK hZ hsz hz ls hl
  subst hsz
  have hA : ∀ q : Nat, s.heap.size ≤ q → va_A [] s.heap.size q := Anw
  have hAz : ∀ q, va_A [] s.heap.size q → z0 ≤ q := A0z hz
  have hS : va_S (va_A [] s.heap.size) s.heap s.heap [] := va_S.rf
  have hl : lv_has ls 5 [(0, .int p0), (1, .int p1), (2, .int p2), (3, .int p3), (4, .int p4)] := hl
  refine lv_iload_n hx hb dX5_isFault_0 rfl (lv_at hl 0 rfl) ?_
  have hPc : va_P D vwCl [] _ := (ro0 hP0 hS).sub (ws' := []) [] rfl
  have hDc : va_D (fun q => z0 ≤ q) [] := hD0.pick (ws' := []) [] (by decide) rfl
  have hFc := AnA (ws := []) hS.1
  refine va_calli (va_runS (As := [.int p0]) (rest := []) ⟨hx, hb, hml, hown, ht⟩ (k_X5_isKind l D g z0 _ a p0 hc_p0) (va_cwS 1 ht (gS w_260 w_259 w_221 w_258) rfl rfl rfl (by decide +kernel) (le2 rfl rfl)) ⟨PP.blind, PP.mk' hK hZ hz hAz hS hPc hDc⟩ rfl rfl hl.1 rfl (lv_room (Nat.le_of_ble_eq_true rfl)) dX5_isFault_1 (le2 rfl rfl)) hS (fun q _ h => hFc q h) hFc (fun r u t H locs ht1 hvm hw hB hz1 hk1 hS => ?_)
  rcases hw with hw | hw
  · obtain ⟨rfl, hw⟩ := hw
    rcases hw with hw | hw | hw | hw | hw
    · have c_1 := hw
      refine lv_if_eq (tgt := 17) hx hb dX5_isFault_4 (by decide) (fun c_2 => ?_) (fun c_2 => ?_)
      · exact absurd c_2 (by decide)
      · refine lv_iload_n hx hb dX5_isFault_7 rfl (lv_at hl 1 rfl) ?_
        refine lv_if_lt (tgt := 17) hx hb dX5_isFault_8 (by decide) (fun c_3 => ?_) (fun c_3 => ?_)
        · refine lv_iconst (v := 0) hx hb dX5_isFault_17 (by decide) ?_
          refine W.widen (k := 0) (n := 0) (Nat.le_of_ble_eq_true rfl) (Nat.le_of_ble_eq_true rfl) ?_
          exact W.zret (v := 0) hx hb hr rfl (fun t ht9 hW9 => ⟨⟨0, (), rfl, (Or.inl ⟨rfl, (Or.inl ⟨c_1, c_3⟩)⟩), trivial⟩, hS.F ht9⟩) hS.2.2 dX5_isFault_18 hlocks
        · refine lv_iload_n hx hb dX5_isFault_11 rfl (lv_at hl 1 rfl) ?_
          refine lv_bipush (v := 8) hx hb dX5_isFault_12 (by decide) ?_
          refine lv_icmp_lt (tgt := 19) hx hb dX5_isFault_14 (by decide) (fun c_4 => ?_) (fun c_4 => ?_)
          · refine lv_iload_n hx hb dX5_isFault_19 rfl (lv_at hl 0 rfl) ?_
            have hPc : va_P D vwCl [] _ := (ro0 hP0 hS).sub (ws' := []) [] rfl
            have hDc : va_D (fun q => z0 ≤ q) [] := hD0.pick (ws' := []) [] (by decide) rfl
            have hFc := AnA (ws := []) hS.1
            refine va_calli (va_runS (As := [.int p0]) (rest := []) ⟨hx, hb, hml, hown, ht⟩ (k_X5_isOfTwoCells l D g z0 _ a p0 hc_p0) (va_cwS 1 ht (gS w_261 w_263 w_221 w_262) rfl rfl rfl (by decide +kernel) (le2 rfl rfl)) ⟨PP.blind, PP.mk' hK hZ hz hAz hS hPc hDc⟩ rfl rfl hl.1 rfl (lv_room (Nat.le_of_ble_eq_true rfl)) dX5_isFault_20 (le2 rfl rfl)) hS (fun q _ h => hFc q h) hFc (fun r u t H locs ht1 hvm hw hB hz1 hk1 hS => ?_)
            rcases hw with hw | hw
            · obtain ⟨rfl, hw⟩ := hw
              rcases hw with hw | hw | hw
              · have c_5 := hw
                exact absurd (c_1.symm.trans c_5) (by decide)
              · obtain ⟨c_6, c_7⟩ := hw
                exact absurd (c_1.symm.trans c_7) (by decide)
              · obtain ⟨c_8, c_9, c_10⟩ := hw
                exact absurd (c_1.symm.trans c_10) (by decide)
            · obtain ⟨rfl, hw⟩ := hw
              obtain ⟨c_11, c_12, c_13⟩ := hw
              refine lv_if_eq (tgt := 43) hx hb dX5_isFault_23 (by decide) (fun c_14 => ?_) (fun c_14 => ?_)
              · refine lv_iload_n hx hb dX5_isFault_43 rfl (lv_at hl 0 rfl) ?_
                refine lv_bipush (v := 97) hx hb dX5_isFault_44 (by decide) ?_
                refine lv_icmp_eq (tgt := 60) hx hb dX5_isFault_46 (by decide) (fun c_15 => ?_) (fun c_15 => ?_)
                · exact absurd (c_1.symm.trans c_15) (by decide)
                · refine lv_iload_n hx hb dX5_isFault_49 rfl (lv_at hl 3 rfl) ?_
                  refine lv_if_eq (tgt := 60) hx hb dX5_isFault_50 (by decide) (fun c_16 => ?_) (fun c_16 => ?_)
                  · refine lv_iload_n hx hb dX5_isFault_60 rfl (lv_at hl 0 rfl) ?_
                    refine lv_bipush (v := 99) hx hb dX5_isFault_61 (by decide) ?_
                    refine lv_icmp_ne (tgt := 77) hx hb dX5_isFault_63 (by decide) (fun c_17 => ?_) (fun c_17 => ?_)
                    · refine lv_iconst (v := 1) hx hb dX5_isFault_77 (by decide) ?_
                      refine lv_goto (tgt := 82) hx hb dX5_isFault_78 (by decide) ?_
                      refine W.widen (k := 0) (n := 0) (Nat.le_of_ble_eq_true rfl) (Nat.le_of_ble_eq_true rfl) ?_
                      exact W.zret (v := 1) hx hb hr rfl (fun t ht9 hW9 => ⟨⟨1, (), rfl, (Or.inr ⟨rfl, (Or.inl ⟨c_1, c_3, c_4, c_11, c_12, c_13, c_16⟩)⟩), trivial⟩, hS.F ht9⟩) hS.2.2 dX5_isFault_82 hlocks
                    · exact absurd (c_1.symm.trans c_17) (by decide)
                  · refine lv_iload_n hx hb dX5_isFault_53 rfl (lv_at hl 3 rfl) ?_
                    refine lv_iconst (v := 1) hx hb dX5_isFault_54 (by decide) ?_
                    refine lv_icmp_eq (tgt := 60) hx hb dX5_isFault_55 (by decide) (fun c_18 => ?_) (fun c_18 => ?_)
                    · refine lv_iload_n hx hb dX5_isFault_60 rfl (lv_at hl 0 rfl) ?_
                      refine lv_bipush (v := 99) hx hb dX5_isFault_61 (by decide) ?_
                      refine lv_icmp_ne (tgt := 77) hx hb dX5_isFault_63 (by decide) (fun c_19 => ?_) (fun c_19 => ?_)
                      · refine lv_iconst (v := 1) hx hb dX5_isFault_77 (by decide) ?_
                        refine lv_goto (tgt := 82) hx hb dX5_isFault_78 (by decide) ?_
                        refine W.widen (k := 0) (n := 0) (Nat.le_of_ble_eq_true rfl) (Nat.le_of_ble_eq_true rfl) ?_
                        exact W.zret (v := 1) hx hb hr rfl (fun t ht9 hW9 => ⟨⟨1, (), rfl, (Or.inr ⟨rfl, (Or.inr (Or.inl ⟨c_1, c_3, c_4, c_11, c_12, c_13, c_16, c_18⟩))⟩), trivial⟩, hS.F ht9⟩) hS.2.2 dX5_isFault_82 hlocks
                      · exact absurd (c_1.symm.trans c_19) (by decide)
                    · refine lv_iconst (v := 0) hx hb dX5_isFault_58 (by decide) ?_
                      refine W.widen (k := 0) (n := 0) (Nat.le_of_ble_eq_true rfl) (Nat.le_of_ble_eq_true rfl) ?_
                      exact W.zret (v := 0) hx hb hr rfl (fun t ht9 hW9 => ⟨⟨0, (), rfl, (Or.inl ⟨rfl, (Or.inr (Or.inl ⟨c_1, c_3, c_4, c_11, c_12, c_13, c_16, c_18⟩))⟩), trivial⟩, hS.F ht9⟩) hS.2.2 dX5_isFault_59 hlocks
              · exact absurd c_14 (by decide)
          · refine lv_iconst (v := 0) hx hb dX5_isFault_17 (by decide) ?_
            refine W.widen (k := 0) (n := 0) (Nat.le_of_ble_eq_true rfl) (Nat.le_of_ble_eq_true rfl) ?_
            exact W.zret (v := 0) hx hb hr rfl (fun t ht9 hW9 => ⟨⟨0, (), rfl, (Or.inl ⟨rfl, (Or.inr (Or.inr (Or.inl ⟨c_1, c_3, c_4⟩)))⟩), trivial⟩, hS.F ht9⟩) hS.2.2 dX5_isFault_18 hlocks
    · obtain ⟨c_20, c_21⟩ := hw
      refine lv_if_eq (tgt := 17) hx hb dX5_isFault_4 (by decide) (fun c_22 => ?_) (fun c_22 => ?_)
      · exact absurd c_22 (by decide)
      · refine lv_iload_n hx hb dX5_isFault_7 rfl (lv_at hl 1 rfl) ?_
        refine lv_if_lt (tgt := 17) hx hb dX5_isFault_8 (by decide) (fun c_23 => ?_) (fun c_23 => ?_)
        · refine lv_iconst (v := 0) hx hb dX5_isFault_17 (by decide) ?_
          refine W.widen (k := 0) (n := 0) (Nat.le_of_ble_eq_true rfl) (Nat.le_of_ble_eq_true rfl) ?_
          exact W.zret (v := 0) hx hb hr rfl (fun t ht9 hW9 => ⟨⟨0, (), rfl, (Or.inl ⟨rfl, (Or.inr (Or.inr (Or.inr (Or.inl ⟨c_20, c_21, c_23⟩))))⟩), trivial⟩, hS.F ht9⟩) hS.2.2 dX5_isFault_18 hlocks
        · refine lv_iload_n hx hb dX5_isFault_11 rfl (lv_at hl 1 rfl) ?_
          refine lv_bipush (v := 8) hx hb dX5_isFault_12 (by decide) ?_
          refine lv_icmp_lt (tgt := 19) hx hb dX5_isFault_14 (by decide) (fun c_24 => ?_) (fun c_24 => ?_)
          · refine lv_iload_n hx hb dX5_isFault_19 rfl (lv_at hl 0 rfl) ?_
            have hPc : va_P D vwCl [] _ := (ro0 hP0 hS).sub (ws' := []) [] rfl
            have hDc : va_D (fun q => z0 ≤ q) [] := hD0.pick (ws' := []) [] (by decide) rfl
            have hFc := AnA (ws := []) hS.1
            refine va_calli (va_runS (As := [.int p0]) (rest := []) ⟨hx, hb, hml, hown, ht⟩ (k_X5_isOfTwoCells l D g z0 _ a p0 hc_p0) (va_cwS 1 ht (gS w_261 w_263 w_221 w_262) rfl rfl rfl (by decide +kernel) (le2 rfl rfl)) ⟨PP.blind, PP.mk' hK hZ hz hAz hS hPc hDc⟩ rfl rfl hl.1 rfl (lv_room (Nat.le_of_ble_eq_true rfl)) dX5_isFault_20 (le2 rfl rfl)) hS (fun q _ h => hFc q h) hFc (fun r u t H locs ht1 hvm hw hB hz1 hk1 hS => ?_)
            rcases hw with hw | hw
            · obtain ⟨rfl, hw⟩ := hw
              rcases hw with hw | hw | hw
              · have c_25 := hw
                exact absurd (c_21.symm.trans c_25) (by decide)
              · obtain ⟨c_26, c_27⟩ := hw
                exact absurd (c_21.symm.trans c_27) (by decide)
              · obtain ⟨c_28, c_29, c_30⟩ := hw
                exact absurd (c_21.symm.trans c_30) (by decide)
            · obtain ⟨rfl, hw⟩ := hw
              obtain ⟨c_31, c_32, c_33⟩ := hw
              refine lv_if_eq (tgt := 43) hx hb dX5_isFault_23 (by decide) (fun c_34 => ?_) (fun c_34 => ?_)
              · refine lv_iload_n hx hb dX5_isFault_43 rfl (lv_at hl 0 rfl) ?_
                refine lv_bipush (v := 97) hx hb dX5_isFault_44 (by decide) ?_
                refine lv_icmp_eq (tgt := 60) hx hb dX5_isFault_46 (by decide) (fun c_35 => ?_) (fun c_35 => ?_)
                · exact absurd (c_21.symm.trans c_35) (by decide)
                · refine lv_iload_n hx hb dX5_isFault_49 rfl (lv_at hl 3 rfl) ?_
                  refine lv_if_eq (tgt := 60) hx hb dX5_isFault_50 (by decide) (fun c_36 => ?_) (fun c_36 => ?_)
                  · refine lv_iload_n hx hb dX5_isFault_60 rfl (lv_at hl 0 rfl) ?_
                    refine lv_bipush (v := 99) hx hb dX5_isFault_61 (by decide) ?_
                    refine lv_icmp_ne (tgt := 77) hx hb dX5_isFault_63 (by decide) (fun c_37 => ?_) (fun c_37 => ?_)
                    · refine lv_iconst (v := 1) hx hb dX5_isFault_77 (by decide) ?_
                      refine lv_goto (tgt := 82) hx hb dX5_isFault_78 (by decide) ?_
                      refine W.widen (k := 0) (n := 0) (Nat.le_of_ble_eq_true rfl) (Nat.le_of_ble_eq_true rfl) ?_
                      exact W.zret (v := 1) hx hb hr rfl (fun t ht9 hW9 => ⟨⟨1, (), rfl, (Or.inr ⟨rfl, (Or.inr (Or.inr (Or.inl ⟨c_20, c_21, c_23, c_24, c_31, c_32, c_33, c_36⟩)))⟩), trivial⟩, hS.F ht9⟩) hS.2.2 dX5_isFault_82 hlocks
                    · exact absurd (c_21.symm.trans c_37) (by decide)
                  · refine lv_iload_n hx hb dX5_isFault_53 rfl (lv_at hl 3 rfl) ?_
                    refine lv_iconst (v := 1) hx hb dX5_isFault_54 (by decide) ?_
                    refine lv_icmp_eq (tgt := 60) hx hb dX5_isFault_55 (by decide) (fun c_38 => ?_) (fun c_38 => ?_)
                    · refine lv_iload_n hx hb dX5_isFault_60 rfl (lv_at hl 0 rfl) ?_
                      refine lv_bipush (v := 99) hx hb dX5_isFault_61 (by decide) ?_
                      refine lv_icmp_ne (tgt := 77) hx hb dX5_isFault_63 (by decide) (fun c_39 => ?_) (fun c_39 => ?_)
                      · refine lv_iconst (v := 1) hx hb dX5_isFault_77 (by decide) ?_
                        refine lv_goto (tgt := 82) hx hb dX5_isFault_78 (by decide) ?_
                        refine W.widen (k := 0) (n := 0) (Nat.le_of_ble_eq_true rfl) (Nat.le_of_ble_eq_true rfl) ?_
                        exact W.zret (v := 1) hx hb hr rfl (fun t ht9 hW9 => ⟨⟨1, (), rfl, (Or.inr ⟨rfl, (Or.inr (Or.inr (Or.inr (Or.inl ⟨c_20, c_21, c_23, c_24, c_31, c_32, c_33, c_36, c_38⟩))))⟩), trivial⟩, hS.F ht9⟩) hS.2.2 dX5_isFault_82 hlocks
                      · exact absurd (c_21.symm.trans c_39) (by decide)
                    · refine lv_iconst (v := 0) hx hb dX5_isFault_58 (by decide) ?_
                      refine W.widen (k := 0) (n := 0) (Nat.le_of_ble_eq_true rfl) (Nat.le_of_ble_eq_true rfl) ?_
                      exact W.zret (v := 0) hx hb hr rfl (fun t ht9 hW9 => ⟨⟨0, (), rfl, (Or.inl ⟨rfl, (Or.inr (Or.inr (Or.inr (Or.inr (Or.inl ⟨c_20, c_21, c_23, c_24, c_31, c_32, c_33, c_36, c_38⟩)))))⟩), trivial⟩, hS.F ht9⟩) hS.2.2 dX5_isFault_59 hlocks
              · exact absurd c_34 (by decide)
          · refine lv_iconst (v := 0) hx hb dX5_isFault_17 (by decide) ?_
            refine W.widen (k := 0) (n := 0) (Nat.le_of_ble_eq_true rfl) (Nat.le_of_ble_eq_true rfl) ?_
            exact W.zret (v := 0) hx hb hr rfl (fun t ht9 hW9 => ⟨⟨0, (), rfl, (Or.inl ⟨rfl, (Or.inr (Or.inr (Or.inr (Or.inr (Or.inr (Or.inl ⟨c_20, c_21, c_23, c_24⟩))))))⟩), trivial⟩, hS.F ht9⟩) hS.2.2 dX5_isFault_18 hlocks
    · obtain ⟨c_40, c_41, c_42⟩ := hw
      refine lv_if_eq (tgt := 17) hx hb dX5_isFault_4 (by decide) (fun c_43 => ?_) (fun c_43 => ?_)
      · exact absurd c_43 (by decide)
      · refine lv_iload_n hx hb dX5_isFault_7 rfl (lv_at hl 1 rfl) ?_
        refine lv_if_lt (tgt := 17) hx hb dX5_isFault_8 (by decide) (fun c_44 => ?_) (fun c_44 => ?_)
        · refine lv_iconst (v := 0) hx hb dX5_isFault_17 (by decide) ?_
          refine W.widen (k := 0) (n := 0) (Nat.le_of_ble_eq_true rfl) (Nat.le_of_ble_eq_true rfl) ?_
          exact W.zret (v := 0) hx hb hr rfl (fun t ht9 hW9 => ⟨⟨0, (), rfl, (Or.inl ⟨rfl, (Or.inr (Or.inr (Or.inr (Or.inr (Or.inr (Or.inr (Or.inl ⟨c_40, c_41, c_42, c_44⟩)))))))⟩), trivial⟩, hS.F ht9⟩) hS.2.2 dX5_isFault_18 hlocks
        · refine lv_iload_n hx hb dX5_isFault_11 rfl (lv_at hl 1 rfl) ?_
          refine lv_bipush (v := 8) hx hb dX5_isFault_12 (by decide) ?_
          refine lv_icmp_lt (tgt := 19) hx hb dX5_isFault_14 (by decide) (fun c_45 => ?_) (fun c_45 => ?_)
          · refine lv_iload_n hx hb dX5_isFault_19 rfl (lv_at hl 0 rfl) ?_
            have hPc : va_P D vwCl [] _ := (ro0 hP0 hS).sub (ws' := []) [] rfl
            have hDc : va_D (fun q => z0 ≤ q) [] := hD0.pick (ws' := []) [] (by decide) rfl
            have hFc := AnA (ws := []) hS.1
            refine va_calli (va_runS (As := [.int p0]) (rest := []) ⟨hx, hb, hml, hown, ht⟩ (k_X5_isOfTwoCells l D g z0 _ a p0 hc_p0) (va_cwS 1 ht (gS w_261 w_263 w_221 w_262) rfl rfl rfl (by decide +kernel) (le2 rfl rfl)) ⟨PP.blind, PP.mk' hK hZ hz hAz hS hPc hDc⟩ rfl rfl hl.1 rfl (lv_room (Nat.le_of_ble_eq_true rfl)) dX5_isFault_20 (le2 rfl rfl)) hS (fun q _ h => hFc q h) hFc (fun r u t H locs ht1 hvm hw hB hz1 hk1 hS => ?_)
            rcases hw with hw | hw
            · obtain ⟨rfl, hw⟩ := hw
              rcases hw with hw | hw | hw
              · have c_46 := hw
                refine lv_if_eq (tgt := 43) hx hb dX5_isFault_23 (by decide) (fun c_47 => ?_) (fun c_47 => ?_)
                · exact absurd c_47 (by decide)
                · refine lv_iload_n hx hb dX5_isFault_26 rfl (lv_at hl 2 rfl) ?_
                  refine lv_if_lt (tgt := 41) hx hb dX5_isFault_27 (by decide) (fun c_48 => ?_) (fun c_48 => ?_)
                  · refine lv_iconst (v := 0) hx hb dX5_isFault_41 (by decide) ?_
                    refine W.widen (k := 0) (n := 0) (Nat.le_of_ble_eq_true rfl) (Nat.le_of_ble_eq_true rfl) ?_
                    exact W.zret (v := 0) hx hb hr rfl (fun t ht9 hW9 => ⟨⟨0, (), rfl, (Or.inl ⟨rfl, (Or.inr (Or.inr (Or.inr (Or.inr (Or.inr (Or.inr (Or.inr (Or.inl ⟨c_40, c_41, c_42, c_44, c_45, c_48⟩))))))))⟩), trivial⟩, hS.F ht9⟩) hS.2.2 dX5_isFault_42 hlocks
                  · refine lv_iload_n hx hb dX5_isFault_30 rfl (lv_at hl 2 rfl) ?_
                    refine lv_bipush (v := 8) hx hb dX5_isFault_31 (by decide) ?_
                    refine lv_icmp_ge (tgt := 41) hx hb dX5_isFault_33 (by decide) (fun c_49 => ?_) (fun c_49 => ?_)
                    · refine lv_iconst (v := 0) hx hb dX5_isFault_41 (by decide) ?_
                      refine W.widen (k := 0) (n := 0) (Nat.le_of_ble_eq_true rfl) (Nat.le_of_ble_eq_true rfl) ?_
                      exact W.zret (v := 0) hx hb hr rfl (fun t ht9 hW9 => ⟨⟨0, (), rfl, (Or.inl ⟨rfl, (Or.inr (Or.inr (Or.inr (Or.inr (Or.inr (Or.inr (Or.inr (Or.inr (Or.inl ⟨c_40, c_41, c_42, c_44, c_45, c_48, c_49⟩)))))))))⟩), trivial⟩, hS.F ht9⟩) hS.2.2 dX5_isFault_42 hlocks
                    · refine lv_iload_n hx hb dX5_isFault_36 rfl (lv_at hl 1 rfl) ?_
                      refine lv_iload_n hx hb dX5_isFault_37 rfl (lv_at hl 2 rfl) ?_
                      refine lv_icmp_ne (tgt := 43) hx hb dX5_isFault_38 (by decide) (fun c_50 => ?_) (fun c_50 => ?_)
                      · refine lv_iload_n hx hb dX5_isFault_43 rfl (lv_at hl 0 rfl) ?_
                        refine lv_bipush (v := 97) hx hb dX5_isFault_44 (by decide) ?_
                        refine lv_icmp_eq (tgt := 60) hx hb dX5_isFault_46 (by decide) (fun c_51 => ?_) (fun c_51 => ?_)
                        · exact absurd (c_42.symm.trans c_51) (by decide)
                        · refine lv_iload_n hx hb dX5_isFault_49 rfl (lv_at hl 3 rfl) ?_
                          refine lv_if_eq (tgt := 60) hx hb dX5_isFault_50 (by decide) (fun c_52 => ?_) (fun c_52 => ?_)
                          · refine lv_iload_n hx hb dX5_isFault_60 rfl (lv_at hl 0 rfl) ?_
                            refine lv_bipush (v := 99) hx hb dX5_isFault_61 (by decide) ?_
                            refine lv_icmp_ne (tgt := 77) hx hb dX5_isFault_63 (by decide) (fun c_53 => ?_) (fun c_53 => ?_)
                            · exact absurd c_42 c_53
                            · refine lv_iload hx hb dX5_isFault_66 (lv_at hl 4 rfl) ?_
                              refine lv_if_eq (tgt := 77) hx hb dX5_isFault_68 (by decide) (fun c_54 => ?_) (fun c_54 => ?_)
                              · refine lv_iconst (v := 1) hx hb dX5_isFault_77 (by decide) ?_
                                refine lv_goto (tgt := 82) hx hb dX5_isFault_78 (by decide) ?_
                                refine W.widen (k := 0) (n := 0) (Nat.le_of_ble_eq_true rfl) (Nat.le_of_ble_eq_true rfl) ?_
                                exact W.zret (v := 1) hx hb hr rfl (fun t ht9 hW9 => ⟨⟨1, (), rfl, (Or.inr ⟨rfl, (Or.inr (Or.inr (Or.inr (Or.inr (Or.inl ⟨c_40, c_41, c_42, c_44, c_45, c_48, c_49, c_50, c_51, c_52, c_54⟩)))))⟩), trivial⟩, hS.F ht9⟩) hS.2.2 dX5_isFault_82 hlocks
                              · refine lv_iload hx hb dX5_isFault_71 (lv_at hl 4 rfl) ?_
                                refine lv_iconst (v := 1) hx hb dX5_isFault_73 (by decide) ?_
                                refine lv_icmp_ne (tgt := 81) hx hb dX5_isFault_74 (by decide) (fun c_55 => ?_) (fun c_55 => ?_)
                                · refine lv_iconst (v := 0) hx hb dX5_isFault_81 (by decide) ?_
                                  refine W.widen (k := 0) (n := 0) (Nat.le_of_ble_eq_true rfl) (Nat.le_of_ble_eq_true rfl) ?_
                                  exact W.zret (v := 0) hx hb hr rfl (fun t ht9 hW9 => ⟨⟨0, (), rfl, (Or.inl ⟨rfl, (Or.inr (Or.inr (Or.inr (Or.inr (Or.inr (Or.inr (Or.inr (Or.inr (Or.inr (Or.inl ⟨c_40, c_41, c_42, c_44, c_45, c_48, c_49, c_50, c_51, c_52, c_54, c_55⟩))))))))))⟩), trivial⟩, hS.F ht9⟩) hS.2.2 dX5_isFault_82 hlocks
                                · refine lv_iconst (v := 1) hx hb dX5_isFault_77 (by decide) ?_
                                  refine lv_goto (tgt := 82) hx hb dX5_isFault_78 (by decide) ?_
                                  refine W.widen (k := 0) (n := 0) (Nat.le_of_ble_eq_true rfl) (Nat.le_of_ble_eq_true rfl) ?_
                                  exact W.zret (v := 1) hx hb hr rfl (fun t ht9 hW9 => ⟨⟨1, (), rfl, (Or.inr ⟨rfl, (Or.inr (Or.inr (Or.inr (Or.inr (Or.inr (Or.inl ⟨c_40, c_41, c_42, c_44, c_45, c_48, c_49, c_50, c_51, c_52, c_54, c_55⟩))))))⟩), trivial⟩, hS.F ht9⟩) hS.2.2 dX5_isFault_82 hlocks
                          · refine lv_iload_n hx hb dX5_isFault_53 rfl (lv_at hl 3 rfl) ?_
                            refine lv_iconst (v := 1) hx hb dX5_isFault_54 (by decide) ?_
                            refine lv_icmp_eq (tgt := 60) hx hb dX5_isFault_55 (by decide) (fun c_56 => ?_) (fun c_56 => ?_)
                            · refine lv_iload_n hx hb dX5_isFault_60 rfl (lv_at hl 0 rfl) ?_
                              refine lv_bipush (v := 99) hx hb dX5_isFault_61 (by decide) ?_
                              refine lv_icmp_ne (tgt := 77) hx hb dX5_isFault_63 (by decide) (fun c_57 => ?_) (fun c_57 => ?_)
                              · exact absurd c_42 c_57
                              · refine lv_iload hx hb dX5_isFault_66 (lv_at hl 4 rfl) ?_
                                refine lv_if_eq (tgt := 77) hx hb dX5_isFault_68 (by decide) (fun c_58 => ?_) (fun c_58 => ?_)
                                · refine lv_iconst (v := 1) hx hb dX5_isFault_77 (by decide) ?_
                                  refine lv_goto (tgt := 82) hx hb dX5_isFault_78 (by decide) ?_
                                  refine W.widen (k := 0) (n := 0) (Nat.le_of_ble_eq_true rfl) (Nat.le_of_ble_eq_true rfl) ?_
                                  exact W.zret (v := 1) hx hb hr rfl (fun t ht9 hW9 => ⟨⟨1, (), rfl, (Or.inr ⟨rfl, (Or.inr (Or.inr (Or.inr (Or.inr (Or.inr (Or.inr (Or.inl ⟨c_40, c_41, c_42, c_44, c_45, c_48, c_49, c_50, c_51, c_52, c_56, c_58⟩)))))))⟩), trivial⟩, hS.F ht9⟩) hS.2.2 dX5_isFault_82 hlocks
                                · refine lv_iload hx hb dX5_isFault_71 (lv_at hl 4 rfl) ?_
                                  refine lv_iconst (v := 1) hx hb dX5_isFault_73 (by decide) ?_
                                  refine lv_icmp_ne (tgt := 81) hx hb dX5_isFault_74 (by decide) (fun c_59 => ?_) (fun c_59 => ?_)
                                  · refine lv_iconst (v := 0) hx hb dX5_isFault_81 (by decide) ?_
                                    refine W.widen (k := 0) (n := 0) (Nat.le_of_ble_eq_true rfl) (Nat.le_of_ble_eq_true rfl) ?_
                                    exact W.zret (v := 0) hx hb hr rfl (fun t ht9 hW9 => ⟨⟨0, (), rfl, (Or.inl ⟨rfl, (Or.inr (Or.inr (Or.inr (Or.inr (Or.inr (Or.inr (Or.inr (Or.inr (Or.inr (Or.inr (Or.inl ⟨c_40, c_41, c_42, c_44, c_45, c_48, c_49, c_50, c_51, c_52, c_56, c_58, c_59⟩)))))))))))⟩), trivial⟩, hS.F ht9⟩) hS.2.2 dX5_isFault_82 hlocks
                                  · refine lv_iconst (v := 1) hx hb dX5_isFault_77 (by decide) ?_
                                    refine lv_goto (tgt := 82) hx hb dX5_isFault_78 (by decide) ?_
                                    refine W.widen (k := 0) (n := 0) (Nat.le_of_ble_eq_true rfl) (Nat.le_of_ble_eq_true rfl) ?_
                                    exact W.zret (v := 1) hx hb hr rfl (fun t ht9 hW9 => ⟨⟨1, (), rfl, (Or.inr ⟨rfl, (Or.inr (Or.inr (Or.inr (Or.inr (Or.inr (Or.inr (Or.inr (Or.inl ⟨c_40, c_41, c_42, c_44, c_45, c_48, c_49, c_50, c_51, c_52, c_56, c_58, c_59⟩))))))))⟩), trivial⟩, hS.F ht9⟩) hS.2.2 dX5_isFault_82 hlocks
                            · refine lv_iconst (v := 0) hx hb dX5_isFault_58 (by decide) ?_
                              refine W.widen (k := 0) (n := 0) (Nat.le_of_ble_eq_true rfl) (Nat.le_of_ble_eq_true rfl) ?_
                              exact W.zret (v := 0) hx hb hr rfl (fun t ht9 hW9 => ⟨⟨0, (), rfl, (Or.inl ⟨rfl, (Or.inr (Or.inr (Or.inr (Or.inr (Or.inr (Or.inr (Or.inr (Or.inr (Or.inr (Or.inr (Or.inr (Or.inl ⟨c_40, c_41, c_42, c_44, c_45, c_48, c_49, c_50, c_51, c_52, c_56⟩))))))))))))⟩), trivial⟩, hS.F ht9⟩) hS.2.2 dX5_isFault_59 hlocks
                      · refine lv_iconst (v := 0) hx hb dX5_isFault_41 (by decide) ?_
                        refine W.widen (k := 0) (n := 0) (Nat.le_of_ble_eq_true rfl) (Nat.le_of_ble_eq_true rfl) ?_
                        exact W.zret (v := 0) hx hb hr rfl (fun t ht9 hW9 => ⟨⟨0, (), rfl, (Or.inl ⟨rfl, (Or.inr (Or.inr (Or.inr (Or.inr (Or.inr (Or.inr (Or.inr (Or.inr (Or.inr (Or.inr (Or.inr (Or.inr (Or.inl ⟨c_40, c_41, c_42, c_44, c_45, c_48, c_49, c_50⟩)))))))))))))⟩), trivial⟩, hS.F ht9⟩) hS.2.2 dX5_isFault_42 hlocks
              · obtain ⟨c_60, c_61⟩ := hw
                exact absurd c_42 c_60
              · obtain ⟨c_62, c_63, c_64⟩ := hw
                exact absurd c_42 c_62
            · obtain ⟨rfl, hw⟩ := hw
              obtain ⟨c_65, c_66, c_67⟩ := hw
              exact absurd c_42 c_65
          · refine lv_iconst (v := 0) hx hb dX5_isFault_17 (by decide) ?_
            refine W.widen (k := 0) (n := 0) (Nat.le_of_ble_eq_true rfl) (Nat.le_of_ble_eq_true rfl) ?_
            exact W.zret (v := 0) hx hb hr rfl (fun t ht9 hW9 => ⟨⟨0, (), rfl, (Or.inl ⟨rfl, (Or.inr (Or.inr (Or.inr (Or.inr (Or.inr (Or.inr (Or.inr (Or.inr (Or.inr (Or.inr (Or.inr (Or.inr (Or.inr (Or.inl ⟨c_40, c_41, c_42, c_44, c_45⟩))))))))))))))⟩), trivial⟩, hS.F ht9⟩) hS.2.2 dX5_isFault_18 hlocks
    · obtain ⟨c_68, c_69, c_70, c_71⟩ := hw
      refine lv_if_eq (tgt := 17) hx hb dX5_isFault_4 (by decide) (fun c_72 => ?_) (fun c_72 => ?_)
      · exact absurd c_72 (by decide)
      · refine lv_iload_n hx hb dX5_isFault_7 rfl (lv_at hl 1 rfl) ?_
        refine lv_if_lt (tgt := 17) hx hb dX5_isFault_8 (by decide) (fun c_73 => ?_) (fun c_73 => ?_)
        · refine lv_iconst (v := 0) hx hb dX5_isFault_17 (by decide) ?_
          refine W.widen (k := 0) (n := 0) (Nat.le_of_ble_eq_true rfl) (Nat.le_of_ble_eq_true rfl) ?_
          exact W.zret (v := 0) hx hb hr rfl (fun t ht9 hW9 => ⟨⟨0, (), rfl, (Or.inl ⟨rfl, (Or.inr (Or.inr (Or.inr (Or.inr (Or.inr (Or.inr (Or.inr (Or.inr (Or.inr (Or.inr (Or.inr (Or.inr (Or.inr (Or.inr (Or.inl ⟨c_68, c_69, c_70, c_71, c_73⟩)))))))))))))))⟩), trivial⟩, hS.F ht9⟩) hS.2.2 dX5_isFault_18 hlocks
        · refine lv_iload_n hx hb dX5_isFault_11 rfl (lv_at hl 1 rfl) ?_
          refine lv_bipush (v := 8) hx hb dX5_isFault_12 (by decide) ?_
          refine lv_icmp_lt (tgt := 19) hx hb dX5_isFault_14 (by decide) (fun c_74 => ?_) (fun c_74 => ?_)
          · refine lv_iload_n hx hb dX5_isFault_19 rfl (lv_at hl 0 rfl) ?_
            have hPc : va_P D vwCl [] _ := (ro0 hP0 hS).sub (ws' := []) [] rfl
            have hDc : va_D (fun q => z0 ≤ q) [] := hD0.pick (ws' := []) [] (by decide) rfl
            have hFc := AnA (ws := []) hS.1
            refine va_calli (va_runS (As := [.int p0]) (rest := []) ⟨hx, hb, hml, hown, ht⟩ (k_X5_isOfTwoCells l D g z0 _ a p0 hc_p0) (va_cwS 1 ht (gS w_261 w_263 w_221 w_262) rfl rfl rfl (by decide +kernel) (le2 rfl rfl)) ⟨PP.blind, PP.mk' hK hZ hz hAz hS hPc hDc⟩ rfl rfl hl.1 rfl (lv_room (Nat.le_of_ble_eq_true rfl)) dX5_isFault_20 (le2 rfl rfl)) hS (fun q _ h => hFc q h) hFc (fun r u t H locs ht1 hvm hw hB hz1 hk1 hS => ?_)
            rcases hw with hw | hw
            · obtain ⟨rfl, hw⟩ := hw
              rcases hw with hw | hw | hw
              · have c_75 := hw
                exact absurd c_75 c_70
              · obtain ⟨c_76, c_77⟩ := hw
                refine lv_if_eq (tgt := 43) hx hb dX5_isFault_23 (by decide) (fun c_78 => ?_) (fun c_78 => ?_)
                · exact absurd c_78 (by decide)
                · refine lv_iload_n hx hb dX5_isFault_26 rfl (lv_at hl 2 rfl) ?_
                  refine lv_if_lt (tgt := 41) hx hb dX5_isFault_27 (by decide) (fun c_79 => ?_) (fun c_79 => ?_)
                  · refine lv_iconst (v := 0) hx hb dX5_isFault_41 (by decide) ?_
                    refine W.widen (k := 0) (n := 0) (Nat.le_of_ble_eq_true rfl) (Nat.le_of_ble_eq_true rfl) ?_
                    exact W.zret (v := 0) hx hb hr rfl (fun t ht9 hW9 => ⟨⟨0, (), rfl, (Or.inl ⟨rfl, (Or.inr (Or.inr (Or.inr (Or.inr (Or.inr (Or.inr (Or.inr (Or.inr (Or.inr (Or.inr (Or.inr (Or.inr (Or.inr (Or.inr (Or.inr (Or.inl ⟨c_68, c_69, c_70, c_71, c_73, c_74, c_79⟩))))))))))))))))⟩), trivial⟩, hS.F ht9⟩) hS.2.2 dX5_isFault_42 hlocks
                  · refine lv_iload_n hx hb dX5_isFault_30 rfl (lv_at hl 2 rfl) ?_
                    refine lv_bipush (v := 8) hx hb dX5_isFault_31 (by decide) ?_
                    refine lv_icmp_ge (tgt := 41) hx hb dX5_isFault_33 (by decide) (fun c_80 => ?_) (fun c_80 => ?_)
                    · refine lv_iconst (v := 0) hx hb dX5_isFault_41 (by decide) ?_
                      refine W.widen (k := 0) (n := 0) (Nat.le_of_ble_eq_true rfl) (Nat.le_of_ble_eq_true rfl) ?_
                      exact W.zret (v := 0) hx hb hr rfl (fun t ht9 hW9 => ⟨⟨0, (), rfl, (Or.inl ⟨rfl, (Or.inr (Or.inr (Or.inr (Or.inr (Or.inr (Or.inr (Or.inr (Or.inr (Or.inr (Or.inr (Or.inr (Or.inr (Or.inr (Or.inr (Or.inr (Or.inr (Or.inl ⟨c_68, c_69, c_70, c_71, c_73, c_74, c_79, c_80⟩)))))))))))))))))⟩), trivial⟩, hS.F ht9⟩) hS.2.2 dX5_isFault_42 hlocks
                    · refine lv_iload_n hx hb dX5_isFault_36 rfl (lv_at hl 1 rfl) ?_
                      refine lv_iload_n hx hb dX5_isFault_37 rfl (lv_at hl 2 rfl) ?_
                      refine lv_icmp_ne (tgt := 43) hx hb dX5_isFault_38 (by decide) (fun c_81 => ?_) (fun c_81 => ?_)
                      · refine lv_iload_n hx hb dX5_isFault_43 rfl (lv_at hl 0 rfl) ?_
                        refine lv_bipush (v := 97) hx hb dX5_isFault_44 (by decide) ?_
                        refine lv_icmp_eq (tgt := 60) hx hb dX5_isFault_46 (by decide) (fun c_82 => ?_) (fun c_82 => ?_)
                        · exact absurd (c_71.symm.trans c_82) (by decide)
                        · refine lv_iload_n hx hb dX5_isFault_49 rfl (lv_at hl 3 rfl) ?_
                          refine lv_if_eq (tgt := 60) hx hb dX5_isFault_50 (by decide) (fun c_83 => ?_) (fun c_83 => ?_)
                          · refine lv_iload_n hx hb dX5_isFault_60 rfl (lv_at hl 0 rfl) ?_
                            refine lv_bipush (v := 99) hx hb dX5_isFault_61 (by decide) ?_
                            refine lv_icmp_ne (tgt := 77) hx hb dX5_isFault_63 (by decide) (fun c_84 => ?_) (fun c_84 => ?_)
                            · refine lv_iconst (v := 1) hx hb dX5_isFault_77 (by decide) ?_
                              refine lv_goto (tgt := 82) hx hb dX5_isFault_78 (by decide) ?_
                              refine W.widen (k := 0) (n := 0) (Nat.le_of_ble_eq_true rfl) (Nat.le_of_ble_eq_true rfl) ?_
                              exact W.zret (v := 1) hx hb hr rfl (fun t ht9 hW9 => ⟨⟨1, (), rfl, (Or.inr ⟨rfl, (Or.inr (Or.inr (Or.inr (Or.inr (Or.inr (Or.inr (Or.inr (Or.inr (Or.inl ⟨c_68, c_69, c_70, c_71, c_73, c_74, c_79, c_80, c_81, c_82, c_83⟩)))))))))⟩), trivial⟩, hS.F ht9⟩) hS.2.2 dX5_isFault_82 hlocks
                            · exact absurd c_84 c_70
                          · refine lv_iload_n hx hb dX5_isFault_53 rfl (lv_at hl 3 rfl) ?_
                            refine lv_iconst (v := 1) hx hb dX5_isFault_54 (by decide) ?_
                            refine lv_icmp_eq (tgt := 60) hx hb dX5_isFault_55 (by decide) (fun c_85 => ?_) (fun c_85 => ?_)
                            · refine lv_iload_n hx hb dX5_isFault_60 rfl (lv_at hl 0 rfl) ?_
                              refine lv_bipush (v := 99) hx hb dX5_isFault_61 (by decide) ?_
                              refine lv_icmp_ne (tgt := 77) hx hb dX5_isFault_63 (by decide) (fun c_86 => ?_) (fun c_86 => ?_)
                              · refine lv_iconst (v := 1) hx hb dX5_isFault_77 (by decide) ?_
                                refine lv_goto (tgt := 82) hx hb dX5_isFault_78 (by decide) ?_
                                refine W.widen (k := 0) (n := 0) (Nat.le_of_ble_eq_true rfl) (Nat.le_of_ble_eq_true rfl) ?_
                                exact W.zret (v := 1) hx hb hr rfl (fun t ht9 hW9 => ⟨⟨1, (), rfl, (Or.inr ⟨rfl, (Or.inr (Or.inr (Or.inr (Or.inr (Or.inr (Or.inr (Or.inr (Or.inr (Or.inr (Or.inl ⟨c_68, c_69, c_70, c_71, c_73, c_74, c_79, c_80, c_81, c_82, c_83, c_85⟩))))))))))⟩), trivial⟩, hS.F ht9⟩) hS.2.2 dX5_isFault_82 hlocks
                              · exact absurd c_86 c_70
                            · refine lv_iconst (v := 0) hx hb dX5_isFault_58 (by decide) ?_
                              refine W.widen (k := 0) (n := 0) (Nat.le_of_ble_eq_true rfl) (Nat.le_of_ble_eq_true rfl) ?_
                              exact W.zret (v := 0) hx hb hr rfl (fun t ht9 hW9 => ⟨⟨0, (), rfl, (Or.inl ⟨rfl, (Or.inr (Or.inr (Or.inr (Or.inr (Or.inr (Or.inr (Or.inr (Or.inr (Or.inr (Or.inr (Or.inr (Or.inr (Or.inr (Or.inr (Or.inr (Or.inr (Or.inr (Or.inl ⟨c_68, c_69, c_70, c_71, c_73, c_74, c_79, c_80, c_81, c_82, c_83, c_85⟩))))))))))))))))))⟩), trivial⟩, hS.F ht9⟩) hS.2.2 dX5_isFault_59 hlocks
                      · refine lv_iconst (v := 0) hx hb dX5_isFault_41 (by decide) ?_
                        refine W.widen (k := 0) (n := 0) (Nat.le_of_ble_eq_true rfl) (Nat.le_of_ble_eq_true rfl) ?_
                        exact W.zret (v := 0) hx hb hr rfl (fun t ht9 hW9 => ⟨⟨0, (), rfl, (Or.inl ⟨rfl, (Or.inr (Or.inr (Or.inr (Or.inr (Or.inr (Or.inr (Or.inr (Or.inr (Or.inr (Or.inr (Or.inr (Or.inr (Or.inr (Or.inr (Or.inr (Or.inr (Or.inr (Or.inr (Or.inl ⟨c_68, c_69, c_70, c_71, c_73, c_74, c_79, c_80, c_81⟩)))))))))))))))))))⟩), trivial⟩, hS.F ht9⟩) hS.2.2 dX5_isFault_42 hlocks
              · obtain ⟨c_87, c_88, c_89⟩ := hw
                exact absurd c_71 c_88
            · obtain ⟨rfl, hw⟩ := hw
              obtain ⟨c_90, c_91, c_92⟩ := hw
              exact absurd c_71 c_91
          · refine lv_iconst (v := 0) hx hb dX5_isFault_17 (by decide) ?_
            refine W.widen (k := 0) (n := 0) (Nat.le_of_ble_eq_true rfl) (Nat.le_of_ble_eq_true rfl) ?_
            exact W.zret (v := 0) hx hb hr rfl (fun t ht9 hW9 => ⟨⟨0, (), rfl, (Or.inl ⟨rfl, (Or.inr (Or.inr (Or.inr (Or.inr (Or.inr (Or.inr (Or.inr (Or.inr (Or.inr (Or.inr (Or.inr (Or.inr (Or.inr (Or.inr (Or.inr (Or.inr (Or.inr (Or.inr (Or.inr (Or.inl ⟨c_68, c_69, c_70, c_71, c_73, c_74⟩))))))))))))))))))))⟩), trivial⟩, hS.F ht9⟩) hS.2.2 dX5_isFault_18 hlocks
    · obtain ⟨c_93, c_94, c_95, c_96, c_97⟩ := hw
      refine lv_if_eq (tgt := 17) hx hb dX5_isFault_4 (by decide) (fun c_98 => ?_) (fun c_98 => ?_)
      · exact absurd c_98 (by decide)
      · refine lv_iload_n hx hb dX5_isFault_7 rfl (lv_at hl 1 rfl) ?_
        refine lv_if_lt (tgt := 17) hx hb dX5_isFault_8 (by decide) (fun c_99 => ?_) (fun c_99 => ?_)
        · refine lv_iconst (v := 0) hx hb dX5_isFault_17 (by decide) ?_
          refine W.widen (k := 0) (n := 0) (Nat.le_of_ble_eq_true rfl) (Nat.le_of_ble_eq_true rfl) ?_
          exact W.zret (v := 0) hx hb hr rfl (fun t ht9 hW9 => ⟨⟨0, (), rfl, (Or.inl ⟨rfl, (Or.inr (Or.inr (Or.inr (Or.inr (Or.inr (Or.inr (Or.inr (Or.inr (Or.inr (Or.inr (Or.inr (Or.inr (Or.inr (Or.inr (Or.inr (Or.inr (Or.inr (Or.inr (Or.inr (Or.inr (Or.inl ⟨c_93, c_94, c_95, c_96, c_97, c_99⟩)))))))))))))))))))))⟩), trivial⟩, hS.F ht9⟩) hS.2.2 dX5_isFault_18 hlocks
        · refine lv_iload_n hx hb dX5_isFault_11 rfl (lv_at hl 1 rfl) ?_
          refine lv_bipush (v := 8) hx hb dX5_isFault_12 (by decide) ?_
          refine lv_icmp_lt (tgt := 19) hx hb dX5_isFault_14 (by decide) (fun c_100 => ?_) (fun c_100 => ?_)
          · refine lv_iload_n hx hb dX5_isFault_19 rfl (lv_at hl 0 rfl) ?_
            have hPc : va_P D vwCl [] _ := (ro0 hP0 hS).sub (ws' := []) [] rfl
            have hDc : va_D (fun q => z0 ≤ q) [] := hD0.pick (ws' := []) [] (by decide) rfl
            have hFc := AnA (ws := []) hS.1
            refine va_calli (va_runS (As := [.int p0]) (rest := []) ⟨hx, hb, hml, hown, ht⟩ (k_X5_isOfTwoCells l D g z0 _ a p0 hc_p0) (va_cwS 1 ht (gS w_261 w_263 w_221 w_262) rfl rfl rfl (by decide +kernel) (le2 rfl rfl)) ⟨PP.blind, PP.mk' hK hZ hz hAz hS hPc hDc⟩ rfl rfl hl.1 rfl (lv_room (Nat.le_of_ble_eq_true rfl)) dX5_isFault_20 (le2 rfl rfl)) hS (fun q _ h => hFc q h) hFc (fun r u t H locs ht1 hvm hw hB hz1 hk1 hS => ?_)
            rcases hw with hw | hw
            · obtain ⟨rfl, hw⟩ := hw
              rcases hw with hw | hw | hw
              · have c_101 := hw
                exact absurd c_101 c_95
              · obtain ⟨c_102, c_103⟩ := hw
                exact absurd c_103 c_96
              · obtain ⟨c_104, c_105, c_106⟩ := hw
                refine lv_if_eq (tgt := 43) hx hb dX5_isFault_23 (by decide) (fun c_107 => ?_) (fun c_107 => ?_)
                · exact absurd c_107 (by decide)
                · refine lv_iload_n hx hb dX5_isFault_26 rfl (lv_at hl 2 rfl) ?_
                  refine lv_if_lt (tgt := 41) hx hb dX5_isFault_27 (by decide) (fun c_108 => ?_) (fun c_108 => ?_)
                  · refine lv_iconst (v := 0) hx hb dX5_isFault_41 (by decide) ?_
                    refine W.widen (k := 0) (n := 0) (Nat.le_of_ble_eq_true rfl) (Nat.le_of_ble_eq_true rfl) ?_
                    exact W.zret (v := 0) hx hb hr rfl (fun t ht9 hW9 => ⟨⟨0, (), rfl, (Or.inl ⟨rfl, (Or.inr (Or.inr (Or.inr (Or.inr (Or.inr (Or.inr (Or.inr (Or.inr (Or.inr (Or.inr (Or.inr (Or.inr (Or.inr (Or.inr (Or.inr (Or.inr (Or.inr (Or.inr (Or.inr (Or.inr (Or.inr (Or.inl ⟨c_93, c_94, c_95, c_96, c_97, c_99, c_100, c_108⟩))))))))))))))))))))))⟩), trivial⟩, hS.F ht9⟩) hS.2.2 dX5_isFault_42 hlocks
                  · refine lv_iload_n hx hb dX5_isFault_30 rfl (lv_at hl 2 rfl) ?_
                    refine lv_bipush (v := 8) hx hb dX5_isFault_31 (by decide) ?_
                    refine lv_icmp_ge (tgt := 41) hx hb dX5_isFault_33 (by decide) (fun c_109 => ?_) (fun c_109 => ?_)
                    · refine lv_iconst (v := 0) hx hb dX5_isFault_41 (by decide) ?_
                      refine W.widen (k := 0) (n := 0) (Nat.le_of_ble_eq_true rfl) (Nat.le_of_ble_eq_true rfl) ?_
                      exact W.zret (v := 0) hx hb hr rfl (fun t ht9 hW9 => ⟨⟨0, (), rfl, (Or.inl ⟨rfl, (Or.inr (Or.inr (Or.inr (Or.inr (Or.inr (Or.inr (Or.inr (Or.inr (Or.inr (Or.inr (Or.inr (Or.inr (Or.inr (Or.inr (Or.inr (Or.inr (Or.inr (Or.inr (Or.inr (Or.inr (Or.inr (Or.inr (Or.inl ⟨c_93, c_94, c_95, c_96, c_97, c_99, c_100, c_108, c_109⟩)))))))))))))))))))))))⟩), trivial⟩, hS.F ht9⟩) hS.2.2 dX5_isFault_42 hlocks
                    · refine lv_iload_n hx hb dX5_isFault_36 rfl (lv_at hl 1 rfl) ?_
                      refine lv_iload_n hx hb dX5_isFault_37 rfl (lv_at hl 2 rfl) ?_
                      refine lv_icmp_ne (tgt := 43) hx hb dX5_isFault_38 (by decide) (fun c_110 => ?_) (fun c_110 => ?_)
                      · refine lv_iload_n hx hb dX5_isFault_43 rfl (lv_at hl 0 rfl) ?_
                        refine lv_bipush (v := 97) hx hb dX5_isFault_44 (by decide) ?_
                        refine lv_icmp_eq (tgt := 60) hx hb dX5_isFault_46 (by decide) (fun c_111 => ?_) (fun c_111 => ?_)
                        · refine lv_iload_n hx hb dX5_isFault_60 rfl (lv_at hl 0 rfl) ?_
                          refine lv_bipush (v := 99) hx hb dX5_isFault_61 (by decide) ?_
                          refine lv_icmp_ne (tgt := 77) hx hb dX5_isFault_63 (by decide) (fun c_112 => ?_) (fun c_112 => ?_)
                          · refine lv_iconst (v := 1) hx hb dX5_isFault_77 (by decide) ?_
                            refine lv_goto (tgt := 82) hx hb dX5_isFault_78 (by decide) ?_
                            refine W.widen (k := 0) (n := 0) (Nat.le_of_ble_eq_true rfl) (Nat.le_of_ble_eq_true rfl) ?_
                            exact W.zret (v := 1) hx hb hr rfl (fun t ht9 hW9 => ⟨⟨1, (), rfl, (Or.inr ⟨rfl, (Or.inr (Or.inr (Or.inr (Or.inr (Or.inr (Or.inr (Or.inr (Or.inr (Or.inr (Or.inr ⟨c_93, c_94, c_95, c_96, c_97, c_99, c_100, c_108, c_109, c_110⟩))))))))))⟩), trivial⟩, hS.F ht9⟩) hS.2.2 dX5_isFault_82 hlocks
                          · exact absurd c_112 c_95
                        · exact absurd c_97 c_111
                      · refine lv_iconst (v := 0) hx hb dX5_isFault_41 (by decide) ?_
                        refine W.widen (k := 0) (n := 0) (Nat.le_of_ble_eq_true rfl) (Nat.le_of_ble_eq_true rfl) ?_
                        exact W.zret (v := 0) hx hb hr rfl (fun t ht9 hW9 => ⟨⟨0, (), rfl, (Or.inl ⟨rfl, (Or.inr (Or.inr (Or.inr (Or.inr (Or.inr (Or.inr (Or.inr (Or.inr (Or.inr (Or.inr (Or.inr (Or.inr (Or.inr (Or.inr (Or.inr (Or.inr (Or.inr (Or.inr (Or.inr (Or.inr (Or.inr (Or.inr (Or.inr (Or.inl ⟨c_93, c_94, c_95, c_96, c_97, c_99, c_100, c_108, c_109, c_110⟩))))))))))))))))))))))))⟩), trivial⟩, hS.F ht9⟩) hS.2.2 dX5_isFault_42 hlocks
            · obtain ⟨rfl, hw⟩ := hw
              obtain ⟨c_113, c_114, c_115⟩ := hw
              exact absurd c_97 c_115
          · refine lv_iconst (v := 0) hx hb dX5_isFault_17 (by decide) ?_
            refine W.widen (k := 0) (n := 0) (Nat.le_of_ble_eq_true rfl) (Nat.le_of_ble_eq_true rfl) ?_
            exact W.zret (v := 0) hx hb hr rfl (fun t ht9 hW9 => ⟨⟨0, (), rfl, (Or.inl ⟨rfl, (Or.inr (Or.inr (Or.inr (Or.inr (Or.inr (Or.inr (Or.inr (Or.inr (Or.inr (Or.inr (Or.inr (Or.inr (Or.inr (Or.inr (Or.inr (Or.inr (Or.inr (Or.inr (Or.inr (Or.inr (Or.inr (Or.inr (Or.inr (Or.inr (Or.inl ⟨c_93, c_94, c_95, c_96, c_97, c_99, c_100⟩)))))))))))))))))))))))))⟩), trivial⟩, hS.F ht9⟩) hS.2.2 dX5_isFault_18 hlocks
  · obtain ⟨rfl, hw⟩ := hw
    obtain ⟨c_116, c_117, c_118, c_119, c_120⟩ := hw
    refine lv_if_eq (tgt := 17) hx hb dX5_isFault_4 (by decide) (fun c_121 => ?_) (fun c_121 => ?_)
    · refine lv_iconst (v := 0) hx hb dX5_isFault_17 (by decide) ?_
      refine W.widen (k := 0) (n := 0) (Nat.le_of_ble_eq_true rfl) (Nat.le_of_ble_eq_true rfl) ?_
      exact W.zret (v := 0) hx hb hr rfl (fun t ht9 hW9 => ⟨⟨0, (), rfl, (Or.inl ⟨rfl, (Or.inr (Or.inr (Or.inr (Or.inr (Or.inr (Or.inr (Or.inr (Or.inr (Or.inr (Or.inr (Or.inr (Or.inr (Or.inr (Or.inr (Or.inr (Or.inr (Or.inr (Or.inr (Or.inr (Or.inr (Or.inr (Or.inr (Or.inr (Or.inr (Or.inr ⟨c_116, c_117, c_118, c_119, c_120⟩)))))))))))))))))))))))))⟩), trivial⟩, hS.F ht9⟩) hS.2.2 dX5_isFault_18 hlocks
    · exact absurd c_121 (by decide)
set_option maxHeartbeats 4000000 in
set_option maxRecDepth 100000 in
theorem k_X11_marchFinds (l : Launch) (hfl : l.stackTraces = false) (D : va_G) (g : Nat → ClassId) (z0 sz : Nat) (a : Nat → Nat) (p0 : Int32) (p1 : Int32) (p2 : Int32) (p3 : Int32) (p4 : Int32) (hc_p0 : isC p0) : vx_Met l yX11_marchFinds (.code yX11_marchFinds cX11_marchFinds 6 (some .boolean) :: TG) (rmk 6 1 6 81) (va_Pc [.ref (a 0), .int p0, .int p1, .int p2, .int p3, .int p4] (PP D g z0 sz [((a 0), f_x a), ((a 9), f_memory a)])) (va_Qi (fun (r : Int32) (u : Unit) => False) (fun (_ : Unit) (_ : State) => True) (va_A [((a 0), f_x a), ((a 9), f_memory a)] sz)) (vx_X (fun _ : Unit => True) (fun E _ _ => (E = "java/lang/IllegalArgumentException" ∧ (((p0 = 115) ∧ (p1 < 0)) ∨ ((p0 = 115) ∧ (¬ p1 < 0) ∧ (p1 < 8) ∧ (¬ p0 = 99) ∧ (¬ p0 = 105) ∧ (¬ p0 = 97) ∧ (¬ p3 = 0) ∧ (¬ p3 = 1)) ∨ ((p0 = 115) ∧ (¬ p1 < 0) ∧ (¬ p1 < 8)) ∨ ((¬ p0 = 115) ∧ (p0 = 116) ∧ (p1 < 0)) ∨ ((¬ p0 = 115) ∧ (p0 = 116) ∧ (¬ p1 < 0) ∧ (p1 < 8) ∧ (¬ p0 = 99) ∧ (¬ p0 = 105) ∧ (¬ p0 = 97) ∧ (¬ p3 = 0) ∧ (¬ p3 = 1)) ∨ ((¬ p0 = 115) ∧ (p0 = 116) ∧ (¬ p1 < 0) ∧ (¬ p1 < 8)) ∨ ((¬ p0 = 115) ∧ (¬ p0 = 116) ∧ (p0 = 99) ∧ (p1 < 0)) ∨ ((¬ p0 = 115) ∧ (¬ p0 = 116) ∧ (p0 = 99) ∧ (¬ p1 < 0) ∧ (p1 < 8) ∧ (p2 < 0)) ∨ ((¬ p0 = 115) ∧ (¬ p0 = 116) ∧ (p0 = 99) ∧ (¬ p1 < 0) ∧ (p1 < 8) ∧ (¬ p2 < 0) ∧ ((8 : Int32) ≤ p2)) ∨ ((¬ p0 = 115) ∧ (¬ p0 = 116) ∧ (p0 = 99) ∧ (¬ p1 < 0) ∧ (p1 < 8) ∧ (¬ p2 < 0) ∧ (¬ (8 : Int32) ≤ p2) ∧ (¬ p1 = p2) ∧ (¬ p0 = 97) ∧ (p3 = 0) ∧ (¬ p4 = 0) ∧ (¬ p4 = 1)) ∨ ((¬ p0 = 115) ∧ (¬ p0 = 116) ∧ (p0 = 99) ∧ (¬ p1 < 0) ∧ (p1 < 8) ∧ (¬ p2 < 0) ∧ (¬ (8 : Int32) ≤ p2) ∧ (¬ p1 = p2) ∧ (¬ p0 = 97) ∧ (¬ p3 = 0) ∧ (p3 = 1) ∧ (¬ p4 = 0) ∧ (¬ p4 = 1)) ∨ ((¬ p0 = 115) ∧ (¬ p0 = 116) ∧ (p0 = 99) ∧ (¬ p1 < 0) ∧ (p1 < 8) ∧ (¬ p2 < 0) ∧ (¬ (8 : Int32) ≤ p2) ∧ (¬ p1 = p2) ∧ (¬ p0 = 97) ∧ (¬ p3 = 0) ∧ (¬ p3 = 1)) ∨ ((¬ p0 = 115) ∧ (¬ p0 = 116) ∧ (p0 = 99) ∧ (¬ p1 < 0) ∧ (p1 < 8) ∧ (¬ p2 < 0) ∧ (¬ (8 : Int32) ≤ p2) ∧ (p1 = p2)) ∨ ((¬ p0 = 115) ∧ (¬ p0 = 116) ∧ (p0 = 99) ∧ (¬ p1 < 0) ∧ (¬ p1 < 8)) ∨ ((¬ p0 = 115) ∧ (¬ p0 = 116) ∧ (¬ p0 = 99) ∧ (p0 = 105) ∧ (p1 < 0)) ∨ ((¬ p0 = 115) ∧ (¬ p0 = 116) ∧ (¬ p0 = 99) ∧ (p0 = 105) ∧ (¬ p1 < 0) ∧ (p1 < 8) ∧ (p2 < 0)) ∨ ((¬ p0 = 115) ∧ (¬ p0 = 116) ∧ (¬ p0 = 99) ∧ (p0 = 105) ∧ (¬ p1 < 0) ∧ (p1 < 8) ∧ (¬ p2 < 0) ∧ ((8 : Int32) ≤ p2)) ∨ ((¬ p0 = 115) ∧ (¬ p0 = 116) ∧ (¬ p0 = 99) ∧ (p0 = 105) ∧ (¬ p1 < 0) ∧ (p1 < 8) ∧ (¬ p2 < 0) ∧ (¬ (8 : Int32) ≤ p2) ∧ (¬ p1 = p2) ∧ (¬ p0 = 97) ∧ (¬ p3 = 0) ∧ (¬ p3 = 1)) ∨ ((¬ p0 = 115) ∧ (¬ p0 = 116) ∧ (¬ p0 = 99) ∧ (p0 = 105) ∧ (¬ p1 < 0) ∧ (p1 < 8) ∧ (¬ p2 < 0) ∧ (¬ (8 : Int32) ≤ p2) ∧ (p1 = p2)) ∨ ((¬ p0 = 115) ∧ (¬ p0 = 116) ∧ (¬ p0 = 99) ∧ (p0 = 105) ∧ (¬ p1 < 0) ∧ (¬ p1 < 8)) ∨ ((¬ p0 = 115) ∧ (¬ p0 = 116) ∧ (¬ p0 = 99) ∧ (¬ p0 = 105) ∧ (p0 = 97) ∧ (p1 < 0)) ∨ ((¬ p0 = 115) ∧ (¬ p0 = 116) ∧ (¬ p0 = 99) ∧ (¬ p0 = 105) ∧ (p0 = 97) ∧ (¬ p1 < 0) ∧ (p1 < 8) ∧ (p2 < 0)) ∨ ((¬ p0 = 115) ∧ (¬ p0 = 116) ∧ (¬ p0 = 99) ∧ (¬ p0 = 105) ∧ (p0 = 97) ∧ (¬ p1 < 0) ∧ (p1 < 8) ∧ (¬ p2 < 0) ∧ ((8 : Int32) ≤ p2)) ∨ ((¬ p0 = 115) ∧ (¬ p0 = 116) ∧ (¬ p0 = 99) ∧ (¬ p0 = 105) ∧ (p0 = 97) ∧ (¬ p1 < 0) ∧ (p1 < 8) ∧ (¬ p2 < 0) ∧ (¬ (8 : Int32) ≤ p2) ∧ (p1 = p2)) ∨ ((¬ p0 = 115) ∧ (¬ p0 = 116) ∧ (¬ p0 = 99) ∧ (¬ p0 = 105) ∧ (p0 = 97) ∧ (¬ p1 < 0) ∧ (¬ p1 < 8)) ∨ ((¬ p0 = 115) ∧ (¬ p0 = 116) ∧ (¬ p0 = 99) ∧ (¬ p0 = 105) ∧ (¬ p0 = 97)))) ∨ (E = "java/lang/UnsupportedOperationException" ∧ (((p0 = 115) ∧ (¬ p1 < 0) ∧ (p1 < 8) ∧ (¬ p0 = 99) ∧ (¬ p0 = 105) ∧ (¬ p0 = 97) ∧ (p3 = 0)) ∨ ((p0 = 115) ∧ (¬ p1 < 0) ∧ (p1 < 8) ∧ (¬ p0 = 99) ∧ (¬ p0 = 105) ∧ (¬ p0 = 97) ∧ (¬ p3 = 0) ∧ (p3 = 1)) ∨ ((¬ p0 = 115) ∧ (p0 = 116) ∧ (¬ p1 < 0) ∧ (p1 < 8) ∧ (¬ p0 = 99) ∧ (¬ p0 = 105) ∧ (¬ p0 = 97) ∧ (p3 = 0)) ∨ ((¬ p0 = 115) ∧ (p0 = 116) ∧ (¬ p1 < 0) ∧ (p1 < 8) ∧ (¬ p0 = 99) ∧ (¬ p0 = 105) ∧ (¬ p0 = 97) ∧ (¬ p3 = 0) ∧ (p3 = 1)) ∨ ((¬ p0 = 115) ∧ (¬ p0 = 116) ∧ (p0 = 99) ∧ (¬ p1 < 0) ∧ (p1 < 8) ∧ (¬ p2 < 0) ∧ (¬ (8 : Int32) ≤ p2) ∧ (¬ p1 = p2) ∧ (¬ p0 = 97) ∧ (p3 = 0) ∧ (p4 = 0)) ∨ ((¬ p0 = 115) ∧ (¬ p0 = 116) ∧ (p0 = 99) ∧ (¬ p1 < 0) ∧ (p1 < 8) ∧ (¬ p2 < 0) ∧ (¬ (8 : Int32) ≤ p2) ∧ (¬ p1 = p2) ∧ (¬ p0 = 97) ∧ (p3 = 0) ∧ (¬ p4 = 0) ∧ (p4 = 1)) ∨ ((¬ p0 = 115) ∧ (¬ p0 = 116) ∧ (p0 = 99) ∧ (¬ p1 < 0) ∧ (p1 < 8) ∧ (¬ p2 < 0) ∧ (¬ (8 : Int32) ≤ p2) ∧ (¬ p1 = p2) ∧ (¬ p0 = 97) ∧ (¬ p3 = 0) ∧ (p3 = 1) ∧ (p4 = 0)) ∨ ((¬ p0 = 115) ∧ (¬ p0 = 116) ∧ (p0 = 99) ∧ (¬ p1 < 0) ∧ (p1 < 8) ∧ (¬ p2 < 0) ∧ (¬ (8 : Int32) ≤ p2) ∧ (¬ p1 = p2) ∧ (¬ p0 = 97) ∧ (¬ p3 = 0) ∧ (p3 = 1) ∧ (¬ p4 = 0) ∧ (p4 = 1)) ∨ ((¬ p0 = 115) ∧ (¬ p0 = 116) ∧ (¬ p0 = 99) ∧ (p0 = 105) ∧ (¬ p1 < 0) ∧ (p1 < 8) ∧ (¬ p2 < 0) ∧ (¬ (8 : Int32) ≤ p2) ∧ (¬ p1 = p2) ∧ (¬ p0 = 97) ∧ (p3 = 0)) ∨ ((¬ p0 = 115) ∧ (¬ p0 = 116) ∧ (¬ p0 = 99) ∧ (p0 = 105) ∧ (¬ p1 < 0) ∧ (p1 < 8) ∧ (¬ p2 < 0) ∧ (¬ (8 : Int32) ≤ p2) ∧ (¬ p1 = p2) ∧ (¬ p0 = 97) ∧ (¬ p3 = 0) ∧ (p3 = 1)) ∨ ((¬ p0 = 115) ∧ (¬ p0 = 116) ∧ (¬ p0 = 99) ∧ (¬ p0 = 105) ∧ (p0 = 97) ∧ (¬ p1 < 0) ∧ (p1 < 8) ∧ (¬ p2 < 0) ∧ (¬ (8 : Int32) ≤ p2) ∧ (¬ p1 = p2))))) (va_A [((a 0), f_x a), ((a 9), f_memory a)] sz)) 1 6 (va_A [((a 0), f_x a), ((a 9), f_memory a)] sz) := by
  refine vxm0 (cc := cX11_marchFinds) (n := 6) (by decide) (Nat.le_of_ble_eq_true rfl) ?_
  intro p e s m args below meth c hx hb hr hml htab hown ht hlocks hnm hP0 hD0 hK hZ hsz hz ls hl
  subst hsz
  have hA : ∀ q : Nat, s.heap.size ≤ q → va_A [((a 0), f_x a), ((a 9), f_memory a)] s.heap.size q := Anw
  have hAz : ∀ q, va_A [((a 0), f_x a), ((a 9), f_memory a)] s.heap.size q → z0 ≤ q := Awz hz hD0
  have hS : va_S (va_A [((a 0), f_x a), ((a 9), f_memory a)] s.heap.size) s.heap s.heap [] := va_S.rf
  have hD : va_D (va_A [((a 0), f_x a), ((a 9), f_memory a)] s.heap.size) [((a 0), f_x a), ((a 9), f_memory a)] := hD0.self
  have hP : va_P D vwCl [((a 0), f_x a), ((a 9), f_memory a)] s.heap := hP0
  have hl : lv_has ls 6 [(0, .ref (a 0)), (1, .int p0), (2, .int p1), (3, .int p2), (4, .int p3), (5, .int p4)] := hl
  refine lv_iload_n hx hb dX11_marchFinds_0 rfl (lv_at hl 1 rfl) ?_
  refine lv_iload_n hx hb dX11_marchFinds_1 rfl (lv_at hl 2 rfl) ?_
  refine lv_iload_n hx hb dX11_marchFinds_2 rfl (lv_at hl 3 rfl) ?_
  refine lv_iload hx hb dX11_marchFinds_3 (lv_at hl 4 rfl) ?_
  refine lv_iload hx hb dX11_marchFinds_5 (lv_at hl 5 rfl) ?_
  have hPc : va_P D vwCl [] _ := hP.sub (ws' := []) [] rfl
  have hDc : va_D (fun q => z0 ≤ q) [] := (hD.to hAz).pick (ws' := []) [] (by decide) rfl
  have hFc := AnA (ws := [((a 0), f_x a), ((a 9), f_memory a)]) hS.1
  refine va_calli (va_runS (As := [.int p0, .int p1, .int p2, .int p3, .int p4]) (rest := []) ⟨hx, hb, hml, hown, ht⟩ (k_X5_isFault l D g z0 _ a p0 p1 p2 p3 p4 hc_p0) (va_cwS 5 ht (gS w_264 w_266 w_221 w_265) rfl rfl rfl (by decide +kernel) (le2 rfl rfl)) ⟨PP.blind, PP.mk' hK hZ hz hAz hS hPc hDc⟩ rfl rfl hl.1 rfl (lv_room (Nat.le_of_ble_eq_true rfl)) dX11_marchFinds_7 (le2 rfl rfl)) hS (fun q _ h => hFc q h) hFc (fun r u t H locs ht1 hvm hw hB hz1 hk1 hS => ?_)
  rcases hw with hw | hw
  · obtain ⟨rfl, hw⟩ := hw
    rcases hw with hw | hw | hw | hw | hw | hw | hw | hw | hw | hw | hw | hw | hw | hw | hw | hw | hw | hw | hw | hw | hw | hw | hw | hw | hw | hw
    · obtain ⟨c_1, c_2⟩ := hw
      have hP := ro1 hP hk1
      refine lv_if_ne (tgt := 21) hx hb dX11_marchFinds_10 (by decide) (fun c_3 => ?_) (fun c_3 => ?_)
      · exact absurd c_3 (by decide)
      · exact thr0 hx hb hfl hown ht hK.2.2 hZ hAz hS hl hml htab hlocks (by decide +kernel) w_43 w_44 at_X11_116 dX11_marchFinds_13 dX11_marchFinds_16 dX11_marchFinds_17 dX11_marchFinds_20 rfl rfl rfl rfl (fun t _ hF => ⟨(), trivial, (Or.inl ⟨rfl, (Or.inl ⟨c_1, c_2⟩)⟩), hF⟩) (fun _ h => h) rfl rfl
    · obtain ⟨c_4, c_5, c_6, c_7, c_8, c_9, c_10, c_11⟩ := hw
      have hP := ro1 hP hk1
      refine lv_if_ne (tgt := 21) hx hb dX11_marchFinds_10 (by decide) (fun c_12 => ?_) (fun c_12 => ?_)
      · exact absurd c_12 (by decide)
      · exact thr0 hx hb hfl hown ht hK.2.2 hZ hAz hS hl hml htab hlocks (by decide +kernel) w_43 w_44 at_X11_116 dX11_marchFinds_13 dX11_marchFinds_16 dX11_marchFinds_17 dX11_marchFinds_20 rfl rfl rfl rfl (fun t _ hF => ⟨(), trivial, (Or.inl ⟨rfl, (Or.inr (Or.inl ⟨c_4, c_5, c_6, c_7, c_8, c_9, c_10, c_11⟩))⟩), hF⟩) (fun _ h => h) rfl rfl
    · obtain ⟨c_13, c_14, c_15⟩ := hw
      have hP := ro1 hP hk1
      refine lv_if_ne (tgt := 21) hx hb dX11_marchFinds_10 (by decide) (fun c_16 => ?_) (fun c_16 => ?_)
      · exact absurd c_16 (by decide)
      · exact thr0 hx hb hfl hown ht hK.2.2 hZ hAz hS hl hml htab hlocks (by decide +kernel) w_43 w_44 at_X11_116 dX11_marchFinds_13 dX11_marchFinds_16 dX11_marchFinds_17 dX11_marchFinds_20 rfl rfl rfl rfl (fun t _ hF => ⟨(), trivial, (Or.inl ⟨rfl, (Or.inr (Or.inr (Or.inl ⟨c_13, c_14, c_15⟩)))⟩), hF⟩) (fun _ h => h) rfl rfl
    · obtain ⟨c_17, c_18, c_19⟩ := hw
      have hP := ro1 hP hk1
      refine lv_if_ne (tgt := 21) hx hb dX11_marchFinds_10 (by decide) (fun c_20 => ?_) (fun c_20 => ?_)
      · exact absurd c_20 (by decide)
      · exact thr0 hx hb hfl hown ht hK.2.2 hZ hAz hS hl hml htab hlocks (by decide +kernel) w_43 w_44 at_X11_116 dX11_marchFinds_13 dX11_marchFinds_16 dX11_marchFinds_17 dX11_marchFinds_20 rfl rfl rfl rfl (fun t _ hF => ⟨(), trivial, (Or.inl ⟨rfl, (Or.inr (Or.inr (Or.inr (Or.inl ⟨c_17, c_18, c_19⟩))))⟩), hF⟩) (fun _ h => h) rfl rfl
    · obtain ⟨c_21, c_22, c_23, c_24, c_25, c_26, c_27, c_28, c_29⟩ := hw
      have hP := ro1 hP hk1
      refine lv_if_ne (tgt := 21) hx hb dX11_marchFinds_10 (by decide) (fun c_30 => ?_) (fun c_30 => ?_)
      · exact absurd c_30 (by decide)
      · exact thr0 hx hb hfl hown ht hK.2.2 hZ hAz hS hl hml htab hlocks (by decide +kernel) w_43 w_44 at_X11_116 dX11_marchFinds_13 dX11_marchFinds_16 dX11_marchFinds_17 dX11_marchFinds_20 rfl rfl rfl rfl (fun t _ hF => ⟨(), trivial, (Or.inl ⟨rfl, (Or.inr (Or.inr (Or.inr (Or.inr (Or.inl ⟨c_21, c_22, c_23, c_24, c_25, c_26, c_27, c_28, c_29⟩)))))⟩), hF⟩) (fun _ h => h) rfl rfl
    · obtain ⟨c_31, c_32, c_33, c_34⟩ := hw
      have hP := ro1 hP hk1
      refine lv_if_ne (tgt := 21) hx hb dX11_marchFinds_10 (by decide) (fun c_35 => ?_) (fun c_35 => ?_)
      · exact absurd c_35 (by decide)
      · exact thr0 hx hb hfl hown ht hK.2.2 hZ hAz hS hl hml htab hlocks (by decide +kernel) w_43 w_44 at_X11_116 dX11_marchFinds_13 dX11_marchFinds_16 dX11_marchFinds_17 dX11_marchFinds_20 rfl rfl rfl rfl (fun t _ hF => ⟨(), trivial, (Or.inl ⟨rfl, (Or.inr (Or.inr (Or.inr (Or.inr (Or.inr (Or.inl ⟨c_31, c_32, c_33, c_34⟩))))))⟩), hF⟩) (fun _ h => h) rfl rfl
    · obtain ⟨c_36, c_37, c_38, c_39⟩ := hw
      have hP := ro1 hP hk1
      refine lv_if_ne (tgt := 21) hx hb dX11_marchFinds_10 (by decide) (fun c_40 => ?_) (fun c_40 => ?_)
      · exact absurd c_40 (by decide)
      · exact thr0 hx hb hfl hown ht hK.2.2 hZ hAz hS hl hml htab hlocks (by decide +kernel) w_43 w_44 at_X11_116 dX11_marchFinds_13 dX11_marchFinds_16 dX11_marchFinds_17 dX11_marchFinds_20 rfl rfl rfl rfl (fun t _ hF => ⟨(), trivial, (Or.inl ⟨rfl, (Or.inr (Or.inr (Or.inr (Or.inr (Or.inr (Or.inr (Or.inl ⟨c_36, c_37, c_38, c_39⟩)))))))⟩), hF⟩) (fun _ h => h) rfl rfl
    · obtain ⟨c_41, c_42, c_43, c_44, c_45, c_46⟩ := hw
      have hP := ro1 hP hk1
      refine lv_if_ne (tgt := 21) hx hb dX11_marchFinds_10 (by decide) (fun c_47 => ?_) (fun c_47 => ?_)
      · exact absurd c_47 (by decide)
      · exact thr0 hx hb hfl hown ht hK.2.2 hZ hAz hS hl hml htab hlocks (by decide +kernel) w_43 w_44 at_X11_116 dX11_marchFinds_13 dX11_marchFinds_16 dX11_marchFinds_17 dX11_marchFinds_20 rfl rfl rfl rfl (fun t _ hF => ⟨(), trivial, (Or.inl ⟨rfl, (Or.inr (Or.inr (Or.inr (Or.inr (Or.inr (Or.inr (Or.inr (Or.inl ⟨c_41, c_42, c_43, c_44, c_45, c_46⟩))))))))⟩), hF⟩) (fun _ h => h) rfl rfl
    · obtain ⟨c_48, c_49, c_50, c_51, c_52, c_53, c_54⟩ := hw
      have hP := ro1 hP hk1
      refine lv_if_ne (tgt := 21) hx hb dX11_marchFinds_10 (by decide) (fun c_55 => ?_) (fun c_55 => ?_)
      · exact absurd c_55 (by decide)
      · exact thr0 hx hb hfl hown ht hK.2.2 hZ hAz hS hl hml htab hlocks (by decide +kernel) w_43 w_44 at_X11_116 dX11_marchFinds_13 dX11_marchFinds_16 dX11_marchFinds_17 dX11_marchFinds_20 rfl rfl rfl rfl (fun t _ hF => ⟨(), trivial, (Or.inl ⟨rfl, (Or.inr (Or.inr (Or.inr (Or.inr (Or.inr (Or.inr (Or.inr (Or.inr (Or.inl ⟨c_48, c_49, c_50, c_51, c_52, c_53, c_54⟩)))))))))⟩), hF⟩) (fun _ h => h) rfl rfl
    · obtain ⟨c_56, c_57, c_58, c_59, c_60, c_61, c_62, c_63, c_64, c_65, c_66, c_67⟩ := hw
      have hP := ro1 hP hk1
      refine lv_if_ne (tgt := 21) hx hb dX11_marchFinds_10 (by decide) (fun c_68 => ?_) (fun c_68 => ?_)
      · exact absurd c_68 (by decide)
      · exact thr0 hx hb hfl hown ht hK.2.2 hZ hAz hS hl hml htab hlocks (by decide +kernel) w_43 w_44 at_X11_116 dX11_marchFinds_13 dX11_marchFinds_16 dX11_marchFinds_17 dX11_marchFinds_20 rfl rfl rfl rfl (fun t _ hF => ⟨(), trivial, (Or.inl ⟨rfl, (Or.inr (Or.inr (Or.inr (Or.inr (Or.inr (Or.inr (Or.inr (Or.inr (Or.inr (Or.inl ⟨c_56, c_57, c_58, c_59, c_60, c_61, c_62, c_63, c_64, c_65, c_66, c_67⟩))))))))))⟩), hF⟩) (fun _ h => h) rfl rfl
    · obtain ⟨c_69, c_70, c_71, c_72, c_73, c_74, c_75, c_76, c_77, c_78, c_79, c_80, c_81⟩ := hw
      have hP := ro1 hP hk1
      refine lv_if_ne (tgt := 21) hx hb dX11_marchFinds_10 (by decide) (fun c_82 => ?_) (fun c_82 => ?_)
      · exact absurd c_82 (by decide)
      · exact thr0 hx hb hfl hown ht hK.2.2 hZ hAz hS hl hml htab hlocks (by decide +kernel) w_43 w_44 at_X11_116 dX11_marchFinds_13 dX11_marchFinds_16 dX11_marchFinds_17 dX11_marchFinds_20 rfl rfl rfl rfl (fun t _ hF => ⟨(), trivial, (Or.inl ⟨rfl, (Or.inr (Or.inr (Or.inr (Or.inr (Or.inr (Or.inr (Or.inr (Or.inr (Or.inr (Or.inr (Or.inl ⟨c_69, c_70, c_71, c_72, c_73, c_74, c_75, c_76, c_77, c_78, c_79, c_80, c_81⟩)))))))))))⟩), hF⟩) (fun _ h => h) rfl rfl
    · obtain ⟨c_83, c_84, c_85, c_86, c_87, c_88, c_89, c_90, c_91, c_92, c_93⟩ := hw
      have hP := ro1 hP hk1
      refine lv_if_ne (tgt := 21) hx hb dX11_marchFinds_10 (by decide) (fun c_94 => ?_) (fun c_94 => ?_)
      · exact absurd c_94 (by decide)
      · exact thr0 hx hb hfl hown ht hK.2.2 hZ hAz hS hl hml htab hlocks (by decide +kernel) w_43 w_44 at_X11_116 dX11_marchFinds_13 dX11_marchFinds_16 dX11_marchFinds_17 dX11_marchFinds_20 rfl rfl rfl rfl (fun t _ hF => ⟨(), trivial, (Or.inl ⟨rfl, (Or.inr (Or.inr (Or.inr (Or.inr (Or.inr (Or.inr (Or.inr (Or.inr (Or.inr (Or.inr (Or.inr (Or.inl ⟨c_83, c_84, c_85, c_86, c_87, c_88, c_89, c_90, c_91, c_92, c_93⟩))))))))))))⟩), hF⟩) (fun _ h => h) rfl rfl
    · obtain ⟨c_95, c_96, c_97, c_98, c_99, c_100, c_101, c_102⟩ := hw
      have hP := ro1 hP hk1
      refine lv_if_ne (tgt := 21) hx hb dX11_marchFinds_10 (by decide) (fun c_103 => ?_) (fun c_103 => ?_)
      · exact absurd c_103 (by decide)
      · exact thr0 hx hb hfl hown ht hK.2.2 hZ hAz hS hl hml htab hlocks (by decide +kernel) w_43 w_44 at_X11_116 dX11_marchFinds_13 dX11_marchFinds_16 dX11_marchFinds_17 dX11_marchFinds_20 rfl rfl rfl rfl (fun t _ hF => ⟨(), trivial, (Or.inl ⟨rfl, (Or.inr (Or.inr (Or.inr (Or.inr (Or.inr (Or.inr (Or.inr (Or.inr (Or.inr (Or.inr (Or.inr (Or.inr (Or.inl ⟨c_95, c_96, c_97, c_98, c_99, c_100, c_101, c_102⟩)))))))))))))⟩), hF⟩) (fun _ h => h) rfl rfl
    · obtain ⟨c_104, c_105, c_106, c_107, c_108⟩ := hw
      have hP := ro1 hP hk1
      refine lv_if_ne (tgt := 21) hx hb dX11_marchFinds_10 (by decide) (fun c_109 => ?_) (fun c_109 => ?_)
      · exact absurd c_109 (by decide)
      · exact thr0 hx hb hfl hown ht hK.2.2 hZ hAz hS hl hml htab hlocks (by decide +kernel) w_43 w_44 at_X11_116 dX11_marchFinds_13 dX11_marchFinds_16 dX11_marchFinds_17 dX11_marchFinds_20 rfl rfl rfl rfl (fun t _ hF => ⟨(), trivial, (Or.inl ⟨rfl, (Or.inr (Or.inr (Or.inr (Or.inr (Or.inr (Or.inr (Or.inr (Or.inr (Or.inr (Or.inr (Or.inr (Or.inr (Or.inr (Or.inl ⟨c_104, c_105, c_106, c_107, c_108⟩))))))))))))))⟩), hF⟩) (fun _ h => h) rfl rfl
    · obtain ⟨c_110, c_111, c_112, c_113, c_114⟩ := hw
      have hP := ro1 hP hk1
      refine lv_if_ne (tgt := 21) hx hb dX11_marchFinds_10 (by decide) (fun c_115 => ?_) (fun c_115 => ?_)
      · exact absurd c_115 (by decide)
      · exact thr0 hx hb hfl hown ht hK.2.2 hZ hAz hS hl hml htab hlocks (by decide +kernel) w_43 w_44 at_X11_116 dX11_marchFinds_13 dX11_marchFinds_16 dX11_marchFinds_17 dX11_marchFinds_20 rfl rfl rfl rfl (fun t _ hF => ⟨(), trivial, (Or.inl ⟨rfl, (Or.inr (Or.inr (Or.inr (Or.inr (Or.inr (Or.inr (Or.inr (Or.inr (Or.inr (Or.inr (Or.inr (Or.inr (Or.inr (Or.inr (Or.inl ⟨c_110, c_111, c_112, c_113, c_114⟩)))))))))))))))⟩), hF⟩) (fun _ h => h) rfl rfl
    · obtain ⟨c_116, c_117, c_118, c_119, c_120, c_121, c_122⟩ := hw
      have hP := ro1 hP hk1
      refine lv_if_ne (tgt := 21) hx hb dX11_marchFinds_10 (by decide) (fun c_123 => ?_) (fun c_123 => ?_)
      · exact absurd c_123 (by decide)
      · exact thr0 hx hb hfl hown ht hK.2.2 hZ hAz hS hl hml htab hlocks (by decide +kernel) w_43 w_44 at_X11_116 dX11_marchFinds_13 dX11_marchFinds_16 dX11_marchFinds_17 dX11_marchFinds_20 rfl rfl rfl rfl (fun t _ hF => ⟨(), trivial, (Or.inl ⟨rfl, (Or.inr (Or.inr (Or.inr (Or.inr (Or.inr (Or.inr (Or.inr (Or.inr (Or.inr (Or.inr (Or.inr (Or.inr (Or.inr (Or.inr (Or.inr (Or.inl ⟨c_116, c_117, c_118, c_119, c_120, c_121, c_122⟩))))))))))))))))⟩), hF⟩) (fun _ h => h) rfl rfl
    · obtain ⟨c_124, c_125, c_126, c_127, c_128, c_129, c_130, c_131⟩ := hw
      have hP := ro1 hP hk1
      refine lv_if_ne (tgt := 21) hx hb dX11_marchFinds_10 (by decide) (fun c_132 => ?_) (fun c_132 => ?_)
      · exact absurd c_132 (by decide)
      · exact thr0 hx hb hfl hown ht hK.2.2 hZ hAz hS hl hml htab hlocks (by decide +kernel) w_43 w_44 at_X11_116 dX11_marchFinds_13 dX11_marchFinds_16 dX11_marchFinds_17 dX11_marchFinds_20 rfl rfl rfl rfl (fun t _ hF => ⟨(), trivial, (Or.inl ⟨rfl, (Or.inr (Or.inr (Or.inr (Or.inr (Or.inr (Or.inr (Or.inr (Or.inr (Or.inr (Or.inr (Or.inr (Or.inr (Or.inr (Or.inr (Or.inr (Or.inr (Or.inl ⟨c_124, c_125, c_126, c_127, c_128, c_129, c_130, c_131⟩)))))))))))))))))⟩), hF⟩) (fun _ h => h) rfl rfl
    · obtain ⟨c_133, c_134, c_135, c_136, c_137, c_138, c_139, c_140, c_141, c_142, c_143, c_144⟩ := hw
      have hP := ro1 hP hk1
      refine lv_if_ne (tgt := 21) hx hb dX11_marchFinds_10 (by decide) (fun c_145 => ?_) (fun c_145 => ?_)
      · exact absurd c_145 (by decide)
      · exact thr0 hx hb hfl hown ht hK.2.2 hZ hAz hS hl hml htab hlocks (by decide +kernel) w_43 w_44 at_X11_116 dX11_marchFinds_13 dX11_marchFinds_16 dX11_marchFinds_17 dX11_marchFinds_20 rfl rfl rfl rfl (fun t _ hF => ⟨(), trivial, (Or.inl ⟨rfl, (Or.inr (Or.inr (Or.inr (Or.inr (Or.inr (Or.inr (Or.inr (Or.inr (Or.inr (Or.inr (Or.inr (Or.inr (Or.inr (Or.inr (Or.inr (Or.inr (Or.inr (Or.inl ⟨c_133, c_134, c_135, c_136, c_137, c_138, c_139, c_140, c_141, c_142, c_143, c_144⟩))))))))))))))))))⟩), hF⟩) (fun _ h => h) rfl rfl
    · obtain ⟨c_146, c_147, c_148, c_149, c_150, c_151, c_152, c_153, c_154⟩ := hw
      have hP := ro1 hP hk1
      refine lv_if_ne (tgt := 21) hx hb dX11_marchFinds_10 (by decide) (fun c_155 => ?_) (fun c_155 => ?_)
      · exact absurd c_155 (by decide)
      · exact thr0 hx hb hfl hown ht hK.2.2 hZ hAz hS hl hml htab hlocks (by decide +kernel) w_43 w_44 at_X11_116 dX11_marchFinds_13 dX11_marchFinds_16 dX11_marchFinds_17 dX11_marchFinds_20 rfl rfl rfl rfl (fun t _ hF => ⟨(), trivial, (Or.inl ⟨rfl, (Or.inr (Or.inr (Or.inr (Or.inr (Or.inr (Or.inr (Or.inr (Or.inr (Or.inr (Or.inr (Or.inr (Or.inr (Or.inr (Or.inr (Or.inr (Or.inr (Or.inr (Or.inr (Or.inl ⟨c_146, c_147, c_148, c_149, c_150, c_151, c_152, c_153, c_154⟩)))))))))))))))))))⟩), hF⟩) (fun _ h => h) rfl rfl
    · obtain ⟨c_156, c_157, c_158, c_159, c_160, c_161⟩ := hw
      have hP := ro1 hP hk1
      refine lv_if_ne (tgt := 21) hx hb dX11_marchFinds_10 (by decide) (fun c_162 => ?_) (fun c_162 => ?_)
      · exact absurd c_162 (by decide)
      · exact thr0 hx hb hfl hown ht hK.2.2 hZ hAz hS hl hml htab hlocks (by decide +kernel) w_43 w_44 at_X11_116 dX11_marchFinds_13 dX11_marchFinds_16 dX11_marchFinds_17 dX11_marchFinds_20 rfl rfl rfl rfl (fun t _ hF => ⟨(), trivial, (Or.inl ⟨rfl, (Or.inr (Or.inr (Or.inr (Or.inr (Or.inr (Or.inr (Or.inr (Or.inr (Or.inr (Or.inr (Or.inr (Or.inr (Or.inr (Or.inr (Or.inr (Or.inr (Or.inr (Or.inr (Or.inr (Or.inl ⟨c_156, c_157, c_158, c_159, c_160, c_161⟩))))))))))))))))))))⟩), hF⟩) (fun _ h => h) rfl rfl
    · obtain ⟨c_163, c_164, c_165, c_166, c_167, c_168⟩ := hw
      have hP := ro1 hP hk1
      refine lv_if_ne (tgt := 21) hx hb dX11_marchFinds_10 (by decide) (fun c_169 => ?_) (fun c_169 => ?_)
      · exact absurd c_169 (by decide)
      · exact thr0 hx hb hfl hown ht hK.2.2 hZ hAz hS hl hml htab hlocks (by decide +kernel) w_43 w_44 at_X11_116 dX11_marchFinds_13 dX11_marchFinds_16 dX11_marchFinds_17 dX11_marchFinds_20 rfl rfl rfl rfl (fun t _ hF => ⟨(), trivial, (Or.inl ⟨rfl, (Or.inr (Or.inr (Or.inr (Or.inr (Or.inr (Or.inr (Or.inr (Or.inr (Or.inr (Or.inr (Or.inr (Or.inr (Or.inr (Or.inr (Or.inr (Or.inr (Or.inr (Or.inr (Or.inr (Or.inr (Or.inl ⟨c_163, c_164, c_165, c_166, c_167, c_168⟩)))))))))))))))))))))⟩), hF⟩) (fun _ h => h) rfl rfl
    · obtain ⟨c_170, c_171, c_172, c_173, c_174, c_175, c_176, c_177⟩ := hw
      have hP := ro1 hP hk1
      refine lv_if_ne (tgt := 21) hx hb dX11_marchFinds_10 (by decide) (fun c_178 => ?_) (fun c_178 => ?_)
      · exact absurd c_178 (by decide)
      · exact thr0 hx hb hfl hown ht hK.2.2 hZ hAz hS hl hml htab hlocks (by decide +kernel) w_43 w_44 at_X11_116 dX11_marchFinds_13 dX11_marchFinds_16 dX11_marchFinds_17 dX11_marchFinds_20 rfl rfl rfl rfl (fun t _ hF => ⟨(), trivial, (Or.inl ⟨rfl, (Or.inr (Or.inr (Or.inr (Or.inr (Or.inr (Or.inr (Or.inr (Or.inr (Or.inr (Or.inr (Or.inr (Or.inr (Or.inr (Or.inr (Or.inr (Or.inr (Or.inr (Or.inr (Or.inr (Or.inr (Or.inr (Or.inl ⟨c_170, c_171, c_172, c_173, c_174, c_175, c_176, c_177⟩))))))))))))))))))))))⟩), hF⟩) (fun _ h => h) rfl rfl
    · obtain ⟨c_179, c_180, c_181, c_182, c_183, c_184, c_185, c_186, c_187⟩ := hw
      have hP := ro1 hP hk1
      refine lv_if_ne (tgt := 21) hx hb dX11_marchFinds_10 (by decide) (fun c_188 => ?_) (fun c_188 => ?_)
      · exact absurd c_188 (by decide)
      · exact thr0 hx hb hfl hown ht hK.2.2 hZ hAz hS hl hml htab hlocks (by decide +kernel) w_43 w_44 at_X11_116 dX11_marchFinds_13 dX11_marchFinds_16 dX11_marchFinds_17 dX11_marchFinds_20 rfl rfl rfl rfl (fun t _ hF => ⟨(), trivial, (Or.inl ⟨rfl, (Or.inr (Or.inr (Or.inr (Or.inr (Or.inr (Or.inr (Or.inr (Or.inr (Or.inr (Or.inr (Or.inr (Or.inr (Or.inr (Or.inr (Or.inr (Or.inr (Or.inr (Or.inr (Or.inr (Or.inr (Or.inr (Or.inr (Or.inl ⟨c_179, c_180, c_181, c_182, c_183, c_184, c_185, c_186, c_187⟩)))))))))))))))))))))))⟩), hF⟩) (fun _ h => h) rfl rfl
    · obtain ⟨c_189, c_190, c_191, c_192, c_193, c_194, c_195, c_196, c_197, c_198⟩ := hw
      have hP := ro1 hP hk1
      refine lv_if_ne (tgt := 21) hx hb dX11_marchFinds_10 (by decide) (fun c_199 => ?_) (fun c_199 => ?_)
      · exact absurd c_199 (by decide)
      · exact thr0 hx hb hfl hown ht hK.2.2 hZ hAz hS hl hml htab hlocks (by decide +kernel) w_43 w_44 at_X11_116 dX11_marchFinds_13 dX11_marchFinds_16 dX11_marchFinds_17 dX11_marchFinds_20 rfl rfl rfl rfl (fun t _ hF => ⟨(), trivial, (Or.inl ⟨rfl, (Or.inr (Or.inr (Or.inr (Or.inr (Or.inr (Or.inr (Or.inr (Or.inr (Or.inr (Or.inr (Or.inr (Or.inr (Or.inr (Or.inr (Or.inr (Or.inr (Or.inr (Or.inr (Or.inr (Or.inr (Or.inr (Or.inr (Or.inr (Or.inl ⟨c_189, c_190, c_191, c_192, c_193, c_194, c_195, c_196, c_197, c_198⟩))))))))))))))))))))))))⟩), hF⟩) (fun _ h => h) rfl rfl
    · obtain ⟨c_200, c_201, c_202, c_203, c_204, c_205, c_206⟩ := hw
      have hP := ro1 hP hk1
      refine lv_if_ne (tgt := 21) hx hb dX11_marchFinds_10 (by decide) (fun c_207 => ?_) (fun c_207 => ?_)
      · exact absurd c_207 (by decide)
      · exact thr0 hx hb hfl hown ht hK.2.2 hZ hAz hS hl hml htab hlocks (by decide +kernel) w_43 w_44 at_X11_116 dX11_marchFinds_13 dX11_marchFinds_16 dX11_marchFinds_17 dX11_marchFinds_20 rfl rfl rfl rfl (fun t _ hF => ⟨(), trivial, (Or.inl ⟨rfl, (Or.inr (Or.inr (Or.inr (Or.inr (Or.inr (Or.inr (Or.inr (Or.inr (Or.inr (Or.inr (Or.inr (Or.inr (Or.inr (Or.inr (Or.inr (Or.inr (Or.inr (Or.inr (Or.inr (Or.inr (Or.inr (Or.inr (Or.inr (Or.inr (Or.inl ⟨c_200, c_201, c_202, c_203, c_204, c_205, c_206⟩)))))))))))))))))))))))))⟩), hF⟩) (fun _ h => h) rfl rfl
    · obtain ⟨c_208, c_209, c_210, c_211, c_212⟩ := hw
      have hP := ro1 hP hk1
      refine lv_if_ne (tgt := 21) hx hb dX11_marchFinds_10 (by decide) (fun c_213 => ?_) (fun c_213 => ?_)
      · exact absurd c_213 (by decide)
      · exact thr0 hx hb hfl hown ht hK.2.2 hZ hAz hS hl hml htab hlocks (by decide +kernel) w_43 w_44 at_X11_116 dX11_marchFinds_13 dX11_marchFinds_16 dX11_marchFinds_17 dX11_marchFinds_20 rfl rfl rfl rfl (fun t _ hF => ⟨(), trivial, (Or.inl ⟨rfl, (Or.inr (Or.inr (Or.inr (Or.inr (Or.inr (Or.inr (Or.inr (Or.inr (Or.inr (Or.inr (Or.inr (Or.inr (Or.inr (Or.inr (Or.inr (Or.inr (Or.inr (Or.inr (Or.inr (Or.inr (Or.inr (Or.inr (Or.inr (Or.inr (Or.inr ⟨c_208, c_209, c_210, c_211, c_212⟩)))))))))))))))))))))))))⟩), hF⟩) (fun _ h => h) rfl rfl
  · obtain ⟨rfl, hw⟩ := hw
    rcases hw with hw | hw | hw | hw | hw | hw | hw | hw | hw | hw | hw
    · obtain ⟨c_214, c_215, c_216, c_217, c_218, c_219, c_220⟩ := hw
      have hP := ro1 hP hk1
      refine lv_if_ne (tgt := 21) hx hb dX11_marchFinds_10 (by decide) (fun c_221 => ?_) (fun c_221 => ?_)
      · refine lv_aload_n hx hb dX11_marchFinds_21 rfl (lv_at hl 0 rfl) ?_
        refine va_get (D := D) (ci := 17) (v := .ref (a 9)) (C := RX11) (T := TX11) (N := 11) hx hb ht in_X11 hown hK.1 hP 0 rfl rfl 8 (by decide) (ht _ w_41) (fun _ h9 => h9) rfl dX11_marchFinds_22 ?_
        have hPc : va_P D vwCl [((a 9), f_memory a)] _ := hP.sub (ws' := [((a 9), f_memory a)]) [1] rfl
        have hDc : va_D (fun q => z0 ≤ q) [((a 9), f_memory a)] := (hD.to hAz).pick (ws' := [((a 9), f_memory a)]) [1] (by decide) rfl
        have hFc := va_free (wc := [((a 9), f_memory a)]) hD hS hA [1] rfl
        refine va_calli (va_runV (As := []) (rest := []) ⟨hx, hb, hml, hown, ht⟩ (k_X5_isMarchRight l D g z0 _ a) (cwV 0 ht (gV w_217 w_219 w_220 w_221 w_218) rfl rfl rfl (by decide +kernel) (le2 rfl rfl)) ⟨PP.blind, va_recv hK.1 hP (ci := 11) (q0 := 1) rfl rfl, PP.mk' hK hZ hz hAz hS hPc hDc⟩ rfl rfl hl.1 rfl (lv_room (Nat.le_of_ble_eq_true rfl)) dX11_marchFinds_25 (le2 rfl rfl)) hS (fun q _ h => hFc q h) hFc (fun r u t H locs ht1 hvm hw hB hz1 hk1 hS => ?_)
        obtain ⟨rfl, hw⟩ := hw
        obtain ⟨hP1, hD1⟩ := hB
        rw [ht1] at hP1
        obtain ⟨hP, hD⟩ := va_join (wr := [((a 0), f_x a)]) (w1 := [((a 9), f_memory a)]) hP hD [1] [0] rfl rfl (by decide) (by decide) hk1 hFc hP1 hD1
        have hP : va_P D vwCl [((a 0), f_x a), ((a 9), f_memory a)] H := hP
        have hD : va_D (va_A [((a 0), f_x a), ((a 9), f_memory a)] s.heap.size) [((a 0), f_x a), ((a 9), f_memory a)] := hD
        refine lv_if_ne (tgt := 39) hx hb dX11_marchFinds_28 (by decide) (fun c_222 => ?_) (fun c_222 => ?_)
        · exact absurd c_222 (by decide)
        · exact thr0 hx hb hfl hown ht hK.2.2 hZ hAz hS hl hml htab hlocks (by decide +kernel) w_71 w_72 at_X11_127 dX11_marchFinds_31 dX11_marchFinds_34 dX11_marchFinds_35 dX11_marchFinds_38 rfl rfl rfl rfl (fun t _ hF => ⟨(), trivial, (Or.inr ⟨rfl, (Or.inl ⟨c_214, c_215, c_216, c_217, c_218, c_219, c_220⟩)⟩), hF⟩) (fun _ h => h) rfl rfl
      · exact absurd c_221 (by decide)
    · obtain ⟨c_223, c_224, c_225, c_226, c_227, c_228, c_229, c_230⟩ := hw
      have hP := ro1 hP hk1
      refine lv_if_ne (tgt := 21) hx hb dX11_marchFinds_10 (by decide) (fun c_231 => ?_) (fun c_231 => ?_)
      · refine lv_aload_n hx hb dX11_marchFinds_21 rfl (lv_at hl 0 rfl) ?_
        refine va_get (D := D) (ci := 17) (v := .ref (a 9)) (C := RX11) (T := TX11) (N := 11) hx hb ht in_X11 hown hK.1 hP 0 rfl rfl 8 (by decide) (ht _ w_41) (fun _ h9 => h9) rfl dX11_marchFinds_22 ?_
        have hPc : va_P D vwCl [((a 9), f_memory a)] _ := hP.sub (ws' := [((a 9), f_memory a)]) [1] rfl
        have hDc : va_D (fun q => z0 ≤ q) [((a 9), f_memory a)] := (hD.to hAz).pick (ws' := [((a 9), f_memory a)]) [1] (by decide) rfl
        have hFc := va_free (wc := [((a 9), f_memory a)]) hD hS hA [1] rfl
        refine va_calli (va_runV (As := []) (rest := []) ⟨hx, hb, hml, hown, ht⟩ (k_X5_isMarchRight l D g z0 _ a) (cwV 0 ht (gV w_217 w_219 w_220 w_221 w_218) rfl rfl rfl (by decide +kernel) (le2 rfl rfl)) ⟨PP.blind, va_recv hK.1 hP (ci := 11) (q0 := 1) rfl rfl, PP.mk' hK hZ hz hAz hS hPc hDc⟩ rfl rfl hl.1 rfl (lv_room (Nat.le_of_ble_eq_true rfl)) dX11_marchFinds_25 (le2 rfl rfl)) hS (fun q _ h => hFc q h) hFc (fun r u t H locs ht1 hvm hw hB hz1 hk1 hS => ?_)
        obtain ⟨rfl, hw⟩ := hw
        obtain ⟨hP1, hD1⟩ := hB
        rw [ht1] at hP1
        obtain ⟨hP, hD⟩ := va_join (wr := [((a 0), f_x a)]) (w1 := [((a 9), f_memory a)]) hP hD [1] [0] rfl rfl (by decide) (by decide) hk1 hFc hP1 hD1
        have hP : va_P D vwCl [((a 0), f_x a), ((a 9), f_memory a)] H := hP
        have hD : va_D (va_A [((a 0), f_x a), ((a 9), f_memory a)] s.heap.size) [((a 0), f_x a), ((a 9), f_memory a)] := hD
        refine lv_if_ne (tgt := 39) hx hb dX11_marchFinds_28 (by decide) (fun c_232 => ?_) (fun c_232 => ?_)
        · exact absurd c_232 (by decide)
        · exact thr0 hx hb hfl hown ht hK.2.2 hZ hAz hS hl hml htab hlocks (by decide +kernel) w_71 w_72 at_X11_127 dX11_marchFinds_31 dX11_marchFinds_34 dX11_marchFinds_35 dX11_marchFinds_38 rfl rfl rfl rfl (fun t _ hF => ⟨(), trivial, (Or.inr ⟨rfl, (Or.inr (Or.inl ⟨c_223, c_224, c_225, c_226, c_227, c_228, c_229, c_230⟩))⟩), hF⟩) (fun _ h => h) rfl rfl
      · exact absurd c_231 (by decide)
    · obtain ⟨c_233, c_234, c_235, c_236, c_237, c_238, c_239, c_240⟩ := hw
      have hP := ro1 hP hk1
      refine lv_if_ne (tgt := 21) hx hb dX11_marchFinds_10 (by decide) (fun c_241 => ?_) (fun c_241 => ?_)
      · refine lv_aload_n hx hb dX11_marchFinds_21 rfl (lv_at hl 0 rfl) ?_
        refine va_get (D := D) (ci := 17) (v := .ref (a 9)) (C := RX11) (T := TX11) (N := 11) hx hb ht in_X11 hown hK.1 hP 0 rfl rfl 8 (by decide) (ht _ w_41) (fun _ h9 => h9) rfl dX11_marchFinds_22 ?_
        have hPc : va_P D vwCl [((a 9), f_memory a)] _ := hP.sub (ws' := [((a 9), f_memory a)]) [1] rfl
        have hDc : va_D (fun q => z0 ≤ q) [((a 9), f_memory a)] := (hD.to hAz).pick (ws' := [((a 9), f_memory a)]) [1] (by decide) rfl
        have hFc := va_free (wc := [((a 9), f_memory a)]) hD hS hA [1] rfl
        refine va_calli (va_runV (As := []) (rest := []) ⟨hx, hb, hml, hown, ht⟩ (k_X5_isMarchRight l D g z0 _ a) (cwV 0 ht (gV w_217 w_219 w_220 w_221 w_218) rfl rfl rfl (by decide +kernel) (le2 rfl rfl)) ⟨PP.blind, va_recv hK.1 hP (ci := 11) (q0 := 1) rfl rfl, PP.mk' hK hZ hz hAz hS hPc hDc⟩ rfl rfl hl.1 rfl (lv_room (Nat.le_of_ble_eq_true rfl)) dX11_marchFinds_25 (le2 rfl rfl)) hS (fun q _ h => hFc q h) hFc (fun r u t H locs ht1 hvm hw hB hz1 hk1 hS => ?_)
        obtain ⟨rfl, hw⟩ := hw
        obtain ⟨hP1, hD1⟩ := hB
        rw [ht1] at hP1
        obtain ⟨hP, hD⟩ := va_join (wr := [((a 0), f_x a)]) (w1 := [((a 9), f_memory a)]) hP hD [1] [0] rfl rfl (by decide) (by decide) hk1 hFc hP1 hD1
        have hP : va_P D vwCl [((a 0), f_x a), ((a 9), f_memory a)] H := hP
        have hD : va_D (va_A [((a 0), f_x a), ((a 9), f_memory a)] s.heap.size) [((a 0), f_x a), ((a 9), f_memory a)] := hD
        refine lv_if_ne (tgt := 39) hx hb dX11_marchFinds_28 (by decide) (fun c_242 => ?_) (fun c_242 => ?_)
        · exact absurd c_242 (by decide)
        · exact thr0 hx hb hfl hown ht hK.2.2 hZ hAz hS hl hml htab hlocks (by decide +kernel) w_71 w_72 at_X11_127 dX11_marchFinds_31 dX11_marchFinds_34 dX11_marchFinds_35 dX11_marchFinds_38 rfl rfl rfl rfl (fun t _ hF => ⟨(), trivial, (Or.inr ⟨rfl, (Or.inr (Or.inr (Or.inl ⟨c_233, c_234, c_235, c_236, c_237, c_238, c_239, c_240⟩)))⟩), hF⟩) (fun _ h => h) rfl rfl
      · exact absurd c_241 (by decide)
    · obtain ⟨c_243, c_244, c_245, c_246, c_247, c_248, c_249, c_250, c_251⟩ := hw
      have hP := ro1 hP hk1
      refine lv_if_ne (tgt := 21) hx hb dX11_marchFinds_10 (by decide) (fun c_252 => ?_) (fun c_252 => ?_)
      · refine lv_aload_n hx hb dX11_marchFinds_21 rfl (lv_at hl 0 rfl) ?_
        refine va_get (D := D) (ci := 17) (v := .ref (a 9)) (C := RX11) (T := TX11) (N := 11) hx hb ht in_X11 hown hK.1 hP 0 rfl rfl 8 (by decide) (ht _ w_41) (fun _ h9 => h9) rfl dX11_marchFinds_22 ?_
        have hPc : va_P D vwCl [((a 9), f_memory a)] _ := hP.sub (ws' := [((a 9), f_memory a)]) [1] rfl
        have hDc : va_D (fun q => z0 ≤ q) [((a 9), f_memory a)] := (hD.to hAz).pick (ws' := [((a 9), f_memory a)]) [1] (by decide) rfl
        have hFc := va_free (wc := [((a 9), f_memory a)]) hD hS hA [1] rfl
        refine va_calli (va_runV (As := []) (rest := []) ⟨hx, hb, hml, hown, ht⟩ (k_X5_isMarchRight l D g z0 _ a) (cwV 0 ht (gV w_217 w_219 w_220 w_221 w_218) rfl rfl rfl (by decide +kernel) (le2 rfl rfl)) ⟨PP.blind, va_recv hK.1 hP (ci := 11) (q0 := 1) rfl rfl, PP.mk' hK hZ hz hAz hS hPc hDc⟩ rfl rfl hl.1 rfl (lv_room (Nat.le_of_ble_eq_true rfl)) dX11_marchFinds_25 (le2 rfl rfl)) hS (fun q _ h => hFc q h) hFc (fun r u t H locs ht1 hvm hw hB hz1 hk1 hS => ?_)
        obtain ⟨rfl, hw⟩ := hw
        obtain ⟨hP1, hD1⟩ := hB
        rw [ht1] at hP1
        obtain ⟨hP, hD⟩ := va_join (wr := [((a 0), f_x a)]) (w1 := [((a 9), f_memory a)]) hP hD [1] [0] rfl rfl (by decide) (by decide) hk1 hFc hP1 hD1
        have hP : va_P D vwCl [((a 0), f_x a), ((a 9), f_memory a)] H := hP
        have hD : va_D (va_A [((a 0), f_x a), ((a 9), f_memory a)] s.heap.size) [((a 0), f_x a), ((a 9), f_memory a)] := hD
        refine lv_if_ne (tgt := 39) hx hb dX11_marchFinds_28 (by decide) (fun c_253 => ?_) (fun c_253 => ?_)
        · exact absurd c_253 (by decide)
        · exact thr0 hx hb hfl hown ht hK.2.2 hZ hAz hS hl hml htab hlocks (by decide +kernel) w_71 w_72 at_X11_127 dX11_marchFinds_31 dX11_marchFinds_34 dX11_marchFinds_35 dX11_marchFinds_38 rfl rfl rfl rfl (fun t _ hF => ⟨(), trivial, (Or.inr ⟨rfl, (Or.inr (Or.inr (Or.inr (Or.inl ⟨c_243, c_244, c_245, c_246, c_247, c_248, c_249, c_250, c_251⟩))))⟩), hF⟩) (fun _ h => h) rfl rfl
      · exact absurd c_252 (by decide)
    · obtain ⟨c_254, c_255, c_256, c_257, c_258, c_259, c_260, c_261, c_262, c_263, c_264⟩ := hw
      have hP := ro1 hP hk1
      refine lv_if_ne (tgt := 21) hx hb dX11_marchFinds_10 (by decide) (fun c_265 => ?_) (fun c_265 => ?_)
      · refine lv_aload_n hx hb dX11_marchFinds_21 rfl (lv_at hl 0 rfl) ?_
        refine va_get (D := D) (ci := 17) (v := .ref (a 9)) (C := RX11) (T := TX11) (N := 11) hx hb ht in_X11 hown hK.1 hP 0 rfl rfl 8 (by decide) (ht _ w_41) (fun _ h9 => h9) rfl dX11_marchFinds_22 ?_
        have hPc : va_P D vwCl [((a 9), f_memory a)] _ := hP.sub (ws' := [((a 9), f_memory a)]) [1] rfl
        have hDc : va_D (fun q => z0 ≤ q) [((a 9), f_memory a)] := (hD.to hAz).pick (ws' := [((a 9), f_memory a)]) [1] (by decide) rfl
        have hFc := va_free (wc := [((a 9), f_memory a)]) hD hS hA [1] rfl
        refine va_calli (va_runV (As := []) (rest := []) ⟨hx, hb, hml, hown, ht⟩ (k_X5_isMarchRight l D g z0 _ a) (cwV 0 ht (gV w_217 w_219 w_220 w_221 w_218) rfl rfl rfl (by decide +kernel) (le2 rfl rfl)) ⟨PP.blind, va_recv hK.1 hP (ci := 11) (q0 := 1) rfl rfl, PP.mk' hK hZ hz hAz hS hPc hDc⟩ rfl rfl hl.1 rfl (lv_room (Nat.le_of_ble_eq_true rfl)) dX11_marchFinds_25 (le2 rfl rfl)) hS (fun q _ h => hFc q h) hFc (fun r u t H locs ht1 hvm hw hB hz1 hk1 hS => ?_)
        obtain ⟨rfl, hw⟩ := hw
        obtain ⟨hP1, hD1⟩ := hB
        rw [ht1] at hP1
        obtain ⟨hP, hD⟩ := va_join (wr := [((a 0), f_x a)]) (w1 := [((a 9), f_memory a)]) hP hD [1] [0] rfl rfl (by decide) (by decide) hk1 hFc hP1 hD1
        have hP : va_P D vwCl [((a 0), f_x a), ((a 9), f_memory a)] H := hP
        have hD : va_D (va_A [((a 0), f_x a), ((a 9), f_memory a)] s.heap.size) [((a 0), f_x a), ((a 9), f_memory a)] := hD
        refine lv_if_ne (tgt := 39) hx hb dX11_marchFinds_28 (by decide) (fun c_266 => ?_) (fun c_266 => ?_)
        · exact absurd c_266 (by decide)
        · exact thr0 hx hb hfl hown ht hK.2.2 hZ hAz hS hl hml htab hlocks (by decide +kernel) w_71 w_72 at_X11_127 dX11_marchFinds_31 dX11_marchFinds_34 dX11_marchFinds_35 dX11_marchFinds_38 rfl rfl rfl rfl (fun t _ hF => ⟨(), trivial, (Or.inr ⟨rfl, (Or.inr (Or.inr (Or.inr (Or.inr (Or.inl ⟨c_254, c_255, c_256, c_257, c_258, c_259, c_260, c_261, c_262, c_263, c_264⟩)))))⟩), hF⟩) (fun _ h => h) rfl rfl
      · exact absurd c_265 (by decide)
    · obtain ⟨c_267, c_268, c_269, c_270, c_271, c_272, c_273, c_274, c_275, c_276, c_277, c_278⟩ := hw
      have hP := ro1 hP hk1
      refine lv_if_ne (tgt := 21) hx hb dX11_marchFinds_10 (by decide) (fun c_279 => ?_) (fun c_279 => ?_)
      · refine lv_aload_n hx hb dX11_marchFinds_21 rfl (lv_at hl 0 rfl) ?_
        refine va_get (D := D) (ci := 17) (v := .ref (a 9)) (C := RX11) (T := TX11) (N := 11) hx hb ht in_X11 hown hK.1 hP 0 rfl rfl 8 (by decide) (ht _ w_41) (fun _ h9 => h9) rfl dX11_marchFinds_22 ?_
        have hPc : va_P D vwCl [((a 9), f_memory a)] _ := hP.sub (ws' := [((a 9), f_memory a)]) [1] rfl
        have hDc : va_D (fun q => z0 ≤ q) [((a 9), f_memory a)] := (hD.to hAz).pick (ws' := [((a 9), f_memory a)]) [1] (by decide) rfl
        have hFc := va_free (wc := [((a 9), f_memory a)]) hD hS hA [1] rfl
        refine va_calli (va_runV (As := []) (rest := []) ⟨hx, hb, hml, hown, ht⟩ (k_X5_isMarchRight l D g z0 _ a) (cwV 0 ht (gV w_217 w_219 w_220 w_221 w_218) rfl rfl rfl (by decide +kernel) (le2 rfl rfl)) ⟨PP.blind, va_recv hK.1 hP (ci := 11) (q0 := 1) rfl rfl, PP.mk' hK hZ hz hAz hS hPc hDc⟩ rfl rfl hl.1 rfl (lv_room (Nat.le_of_ble_eq_true rfl)) dX11_marchFinds_25 (le2 rfl rfl)) hS (fun q _ h => hFc q h) hFc (fun r u t H locs ht1 hvm hw hB hz1 hk1 hS => ?_)
        obtain ⟨rfl, hw⟩ := hw
        obtain ⟨hP1, hD1⟩ := hB
        rw [ht1] at hP1
        obtain ⟨hP, hD⟩ := va_join (wr := [((a 0), f_x a)]) (w1 := [((a 9), f_memory a)]) hP hD [1] [0] rfl rfl (by decide) (by decide) hk1 hFc hP1 hD1
        have hP : va_P D vwCl [((a 0), f_x a), ((a 9), f_memory a)] H := hP
        have hD : va_D (va_A [((a 0), f_x a), ((a 9), f_memory a)] s.heap.size) [((a 0), f_x a), ((a 9), f_memory a)] := hD
        refine lv_if_ne (tgt := 39) hx hb dX11_marchFinds_28 (by decide) (fun c_280 => ?_) (fun c_280 => ?_)
        · exact absurd c_280 (by decide)
        · exact thr0 hx hb hfl hown ht hK.2.2 hZ hAz hS hl hml htab hlocks (by decide +kernel) w_71 w_72 at_X11_127 dX11_marchFinds_31 dX11_marchFinds_34 dX11_marchFinds_35 dX11_marchFinds_38 rfl rfl rfl rfl (fun t _ hF => ⟨(), trivial, (Or.inr ⟨rfl, (Or.inr (Or.inr (Or.inr (Or.inr (Or.inr (Or.inl ⟨c_267, c_268, c_269, c_270, c_271, c_272, c_273, c_274, c_275, c_276, c_277, c_278⟩))))))⟩), hF⟩) (fun _ h => h) rfl rfl
      · exact absurd c_279 (by decide)
    · obtain ⟨c_281, c_282, c_283, c_284, c_285, c_286, c_287, c_288, c_289, c_290, c_291, c_292⟩ := hw
      have hP := ro1 hP hk1
      refine lv_if_ne (tgt := 21) hx hb dX11_marchFinds_10 (by decide) (fun c_293 => ?_) (fun c_293 => ?_)
      · refine lv_aload_n hx hb dX11_marchFinds_21 rfl (lv_at hl 0 rfl) ?_
        refine va_get (D := D) (ci := 17) (v := .ref (a 9)) (C := RX11) (T := TX11) (N := 11) hx hb ht in_X11 hown hK.1 hP 0 rfl rfl 8 (by decide) (ht _ w_41) (fun _ h9 => h9) rfl dX11_marchFinds_22 ?_
        have hPc : va_P D vwCl [((a 9), f_memory a)] _ := hP.sub (ws' := [((a 9), f_memory a)]) [1] rfl
        have hDc : va_D (fun q => z0 ≤ q) [((a 9), f_memory a)] := (hD.to hAz).pick (ws' := [((a 9), f_memory a)]) [1] (by decide) rfl
        have hFc := va_free (wc := [((a 9), f_memory a)]) hD hS hA [1] rfl
        refine va_calli (va_runV (As := []) (rest := []) ⟨hx, hb, hml, hown, ht⟩ (k_X5_isMarchRight l D g z0 _ a) (cwV 0 ht (gV w_217 w_219 w_220 w_221 w_218) rfl rfl rfl (by decide +kernel) (le2 rfl rfl)) ⟨PP.blind, va_recv hK.1 hP (ci := 11) (q0 := 1) rfl rfl, PP.mk' hK hZ hz hAz hS hPc hDc⟩ rfl rfl hl.1 rfl (lv_room (Nat.le_of_ble_eq_true rfl)) dX11_marchFinds_25 (le2 rfl rfl)) hS (fun q _ h => hFc q h) hFc (fun r u t H locs ht1 hvm hw hB hz1 hk1 hS => ?_)
        obtain ⟨rfl, hw⟩ := hw
        obtain ⟨hP1, hD1⟩ := hB
        rw [ht1] at hP1
        obtain ⟨hP, hD⟩ := va_join (wr := [((a 0), f_x a)]) (w1 := [((a 9), f_memory a)]) hP hD [1] [0] rfl rfl (by decide) (by decide) hk1 hFc hP1 hD1
        have hP : va_P D vwCl [((a 0), f_x a), ((a 9), f_memory a)] H := hP
        have hD : va_D (va_A [((a 0), f_x a), ((a 9), f_memory a)] s.heap.size) [((a 0), f_x a), ((a 9), f_memory a)] := hD
        refine lv_if_ne (tgt := 39) hx hb dX11_marchFinds_28 (by decide) (fun c_294 => ?_) (fun c_294 => ?_)
        · exact absurd c_294 (by decide)
        · exact thr0 hx hb hfl hown ht hK.2.2 hZ hAz hS hl hml htab hlocks (by decide +kernel) w_71 w_72 at_X11_127 dX11_marchFinds_31 dX11_marchFinds_34 dX11_marchFinds_35 dX11_marchFinds_38 rfl rfl rfl rfl (fun t _ hF => ⟨(), trivial, (Or.inr ⟨rfl, (Or.inr (Or.inr (Or.inr (Or.inr (Or.inr (Or.inr (Or.inl ⟨c_281, c_282, c_283, c_284, c_285, c_286, c_287, c_288, c_289, c_290, c_291, c_292⟩)))))))⟩), hF⟩) (fun _ h => h) rfl rfl
      · exact absurd c_293 (by decide)
    · obtain ⟨c_295, c_296, c_297, c_298, c_299, c_300, c_301, c_302, c_303, c_304, c_305, c_306, c_307⟩ := hw
      have hP := ro1 hP hk1
      refine lv_if_ne (tgt := 21) hx hb dX11_marchFinds_10 (by decide) (fun c_308 => ?_) (fun c_308 => ?_)
      · refine lv_aload_n hx hb dX11_marchFinds_21 rfl (lv_at hl 0 rfl) ?_
        refine va_get (D := D) (ci := 17) (v := .ref (a 9)) (C := RX11) (T := TX11) (N := 11) hx hb ht in_X11 hown hK.1 hP 0 rfl rfl 8 (by decide) (ht _ w_41) (fun _ h9 => h9) rfl dX11_marchFinds_22 ?_
        have hPc : va_P D vwCl [((a 9), f_memory a)] _ := hP.sub (ws' := [((a 9), f_memory a)]) [1] rfl
        have hDc : va_D (fun q => z0 ≤ q) [((a 9), f_memory a)] := (hD.to hAz).pick (ws' := [((a 9), f_memory a)]) [1] (by decide) rfl
        have hFc := va_free (wc := [((a 9), f_memory a)]) hD hS hA [1] rfl
        refine va_calli (va_runV (As := []) (rest := []) ⟨hx, hb, hml, hown, ht⟩ (k_X5_isMarchRight l D g z0 _ a) (cwV 0 ht (gV w_217 w_219 w_220 w_221 w_218) rfl rfl rfl (by decide +kernel) (le2 rfl rfl)) ⟨PP.blind, va_recv hK.1 hP (ci := 11) (q0 := 1) rfl rfl, PP.mk' hK hZ hz hAz hS hPc hDc⟩ rfl rfl hl.1 rfl (lv_room (Nat.le_of_ble_eq_true rfl)) dX11_marchFinds_25 (le2 rfl rfl)) hS (fun q _ h => hFc q h) hFc (fun r u t H locs ht1 hvm hw hB hz1 hk1 hS => ?_)
        obtain ⟨rfl, hw⟩ := hw
        obtain ⟨hP1, hD1⟩ := hB
        rw [ht1] at hP1
        obtain ⟨hP, hD⟩ := va_join (wr := [((a 0), f_x a)]) (w1 := [((a 9), f_memory a)]) hP hD [1] [0] rfl rfl (by decide) (by decide) hk1 hFc hP1 hD1
        have hP : va_P D vwCl [((a 0), f_x a), ((a 9), f_memory a)] H := hP
        have hD : va_D (va_A [((a 0), f_x a), ((a 9), f_memory a)] s.heap.size) [((a 0), f_x a), ((a 9), f_memory a)] := hD
        refine lv_if_ne (tgt := 39) hx hb dX11_marchFinds_28 (by decide) (fun c_309 => ?_) (fun c_309 => ?_)
        · exact absurd c_309 (by decide)
        · exact thr0 hx hb hfl hown ht hK.2.2 hZ hAz hS hl hml htab hlocks (by decide +kernel) w_71 w_72 at_X11_127 dX11_marchFinds_31 dX11_marchFinds_34 dX11_marchFinds_35 dX11_marchFinds_38 rfl rfl rfl rfl (fun t _ hF => ⟨(), trivial, (Or.inr ⟨rfl, (Or.inr (Or.inr (Or.inr (Or.inr (Or.inr (Or.inr (Or.inr (Or.inl ⟨c_295, c_296, c_297, c_298, c_299, c_300, c_301, c_302, c_303, c_304, c_305, c_306, c_307⟩))))))))⟩), hF⟩) (fun _ h => h) rfl rfl
      · exact absurd c_308 (by decide)
    · obtain ⟨c_310, c_311, c_312, c_313, c_314, c_315, c_316, c_317, c_318, c_319, c_320⟩ := hw
      have hP := ro1 hP hk1
      refine lv_if_ne (tgt := 21) hx hb dX11_marchFinds_10 (by decide) (fun c_321 => ?_) (fun c_321 => ?_)
      · refine lv_aload_n hx hb dX11_marchFinds_21 rfl (lv_at hl 0 rfl) ?_
        refine va_get (D := D) (ci := 17) (v := .ref (a 9)) (C := RX11) (T := TX11) (N := 11) hx hb ht in_X11 hown hK.1 hP 0 rfl rfl 8 (by decide) (ht _ w_41) (fun _ h9 => h9) rfl dX11_marchFinds_22 ?_
        have hPc : va_P D vwCl [((a 9), f_memory a)] _ := hP.sub (ws' := [((a 9), f_memory a)]) [1] rfl
        have hDc : va_D (fun q => z0 ≤ q) [((a 9), f_memory a)] := (hD.to hAz).pick (ws' := [((a 9), f_memory a)]) [1] (by decide) rfl
        have hFc := va_free (wc := [((a 9), f_memory a)]) hD hS hA [1] rfl
        refine va_calli (va_runV (As := []) (rest := []) ⟨hx, hb, hml, hown, ht⟩ (k_X5_isMarchRight l D g z0 _ a) (cwV 0 ht (gV w_217 w_219 w_220 w_221 w_218) rfl rfl rfl (by decide +kernel) (le2 rfl rfl)) ⟨PP.blind, va_recv hK.1 hP (ci := 11) (q0 := 1) rfl rfl, PP.mk' hK hZ hz hAz hS hPc hDc⟩ rfl rfl hl.1 rfl (lv_room (Nat.le_of_ble_eq_true rfl)) dX11_marchFinds_25 (le2 rfl rfl)) hS (fun q _ h => hFc q h) hFc (fun r u t H locs ht1 hvm hw hB hz1 hk1 hS => ?_)
        obtain ⟨rfl, hw⟩ := hw
        obtain ⟨hP1, hD1⟩ := hB
        rw [ht1] at hP1
        obtain ⟨hP, hD⟩ := va_join (wr := [((a 0), f_x a)]) (w1 := [((a 9), f_memory a)]) hP hD [1] [0] rfl rfl (by decide) (by decide) hk1 hFc hP1 hD1
        have hP : va_P D vwCl [((a 0), f_x a), ((a 9), f_memory a)] H := hP
        have hD : va_D (va_A [((a 0), f_x a), ((a 9), f_memory a)] s.heap.size) [((a 0), f_x a), ((a 9), f_memory a)] := hD
        refine lv_if_ne (tgt := 39) hx hb dX11_marchFinds_28 (by decide) (fun c_322 => ?_) (fun c_322 => ?_)
        · exact absurd c_322 (by decide)
        · exact thr0 hx hb hfl hown ht hK.2.2 hZ hAz hS hl hml htab hlocks (by decide +kernel) w_71 w_72 at_X11_127 dX11_marchFinds_31 dX11_marchFinds_34 dX11_marchFinds_35 dX11_marchFinds_38 rfl rfl rfl rfl (fun t _ hF => ⟨(), trivial, (Or.inr ⟨rfl, (Or.inr (Or.inr (Or.inr (Or.inr (Or.inr (Or.inr (Or.inr (Or.inr (Or.inl ⟨c_310, c_311, c_312, c_313, c_314, c_315, c_316, c_317, c_318, c_319, c_320⟩)))))))))⟩), hF⟩) (fun _ h => h) rfl rfl
      · exact absurd c_321 (by decide)
    · obtain ⟨c_323, c_324, c_325, c_326, c_327, c_328, c_329, c_330, c_331, c_332, c_333, c_334⟩ := hw
      have hP := ro1 hP hk1
      refine lv_if_ne (tgt := 21) hx hb dX11_marchFinds_10 (by decide) (fun c_335 => ?_) (fun c_335 => ?_)
      · refine lv_aload_n hx hb dX11_marchFinds_21 rfl (lv_at hl 0 rfl) ?_
        refine va_get (D := D) (ci := 17) (v := .ref (a 9)) (C := RX11) (T := TX11) (N := 11) hx hb ht in_X11 hown hK.1 hP 0 rfl rfl 8 (by decide) (ht _ w_41) (fun _ h9 => h9) rfl dX11_marchFinds_22 ?_
        have hPc : va_P D vwCl [((a 9), f_memory a)] _ := hP.sub (ws' := [((a 9), f_memory a)]) [1] rfl
        have hDc : va_D (fun q => z0 ≤ q) [((a 9), f_memory a)] := (hD.to hAz).pick (ws' := [((a 9), f_memory a)]) [1] (by decide) rfl
        have hFc := va_free (wc := [((a 9), f_memory a)]) hD hS hA [1] rfl
        refine va_calli (va_runV (As := []) (rest := []) ⟨hx, hb, hml, hown, ht⟩ (k_X5_isMarchRight l D g z0 _ a) (cwV 0 ht (gV w_217 w_219 w_220 w_221 w_218) rfl rfl rfl (by decide +kernel) (le2 rfl rfl)) ⟨PP.blind, va_recv hK.1 hP (ci := 11) (q0 := 1) rfl rfl, PP.mk' hK hZ hz hAz hS hPc hDc⟩ rfl rfl hl.1 rfl (lv_room (Nat.le_of_ble_eq_true rfl)) dX11_marchFinds_25 (le2 rfl rfl)) hS (fun q _ h => hFc q h) hFc (fun r u t H locs ht1 hvm hw hB hz1 hk1 hS => ?_)
        obtain ⟨rfl, hw⟩ := hw
        obtain ⟨hP1, hD1⟩ := hB
        rw [ht1] at hP1
        obtain ⟨hP, hD⟩ := va_join (wr := [((a 0), f_x a)]) (w1 := [((a 9), f_memory a)]) hP hD [1] [0] rfl rfl (by decide) (by decide) hk1 hFc hP1 hD1
        have hP : va_P D vwCl [((a 0), f_x a), ((a 9), f_memory a)] H := hP
        have hD : va_D (va_A [((a 0), f_x a), ((a 9), f_memory a)] s.heap.size) [((a 0), f_x a), ((a 9), f_memory a)] := hD
        refine lv_if_ne (tgt := 39) hx hb dX11_marchFinds_28 (by decide) (fun c_336 => ?_) (fun c_336 => ?_)
        · exact absurd c_336 (by decide)
        · exact thr0 hx hb hfl hown ht hK.2.2 hZ hAz hS hl hml htab hlocks (by decide +kernel) w_71 w_72 at_X11_127 dX11_marchFinds_31 dX11_marchFinds_34 dX11_marchFinds_35 dX11_marchFinds_38 rfl rfl rfl rfl (fun t _ hF => ⟨(), trivial, (Or.inr ⟨rfl, (Or.inr (Or.inr (Or.inr (Or.inr (Or.inr (Or.inr (Or.inr (Or.inr (Or.inr (Or.inl ⟨c_323, c_324, c_325, c_326, c_327, c_328, c_329, c_330, c_331, c_332, c_333, c_334⟩))))))))))⟩), hF⟩) (fun _ h => h) rfl rfl
      · exact absurd c_335 (by decide)
    · obtain ⟨c_337, c_338, c_339, c_340, c_341, c_342, c_343, c_344, c_345, c_346⟩ := hw
      have hP := ro1 hP hk1
      refine lv_if_ne (tgt := 21) hx hb dX11_marchFinds_10 (by decide) (fun c_347 => ?_) (fun c_347 => ?_)
      · refine lv_aload_n hx hb dX11_marchFinds_21 rfl (lv_at hl 0 rfl) ?_
        refine va_get (D := D) (ci := 17) (v := .ref (a 9)) (C := RX11) (T := TX11) (N := 11) hx hb ht in_X11 hown hK.1 hP 0 rfl rfl 8 (by decide) (ht _ w_41) (fun _ h9 => h9) rfl dX11_marchFinds_22 ?_
        have hPc : va_P D vwCl [((a 9), f_memory a)] _ := hP.sub (ws' := [((a 9), f_memory a)]) [1] rfl
        have hDc : va_D (fun q => z0 ≤ q) [((a 9), f_memory a)] := (hD.to hAz).pick (ws' := [((a 9), f_memory a)]) [1] (by decide) rfl
        have hFc := va_free (wc := [((a 9), f_memory a)]) hD hS hA [1] rfl
        refine va_calli (va_runV (As := []) (rest := []) ⟨hx, hb, hml, hown, ht⟩ (k_X5_isMarchRight l D g z0 _ a) (cwV 0 ht (gV w_217 w_219 w_220 w_221 w_218) rfl rfl rfl (by decide +kernel) (le2 rfl rfl)) ⟨PP.blind, va_recv hK.1 hP (ci := 11) (q0 := 1) rfl rfl, PP.mk' hK hZ hz hAz hS hPc hDc⟩ rfl rfl hl.1 rfl (lv_room (Nat.le_of_ble_eq_true rfl)) dX11_marchFinds_25 (le2 rfl rfl)) hS (fun q _ h => hFc q h) hFc (fun r u t H locs ht1 hvm hw hB hz1 hk1 hS => ?_)
        obtain ⟨rfl, hw⟩ := hw
        obtain ⟨hP1, hD1⟩ := hB
        rw [ht1] at hP1
        obtain ⟨hP, hD⟩ := va_join (wr := [((a 0), f_x a)]) (w1 := [((a 9), f_memory a)]) hP hD [1] [0] rfl rfl (by decide) (by decide) hk1 hFc hP1 hD1
        have hP : va_P D vwCl [((a 0), f_x a), ((a 9), f_memory a)] H := hP
        have hD : va_D (va_A [((a 0), f_x a), ((a 9), f_memory a)] s.heap.size) [((a 0), f_x a), ((a 9), f_memory a)] := hD
        refine lv_if_ne (tgt := 39) hx hb dX11_marchFinds_28 (by decide) (fun c_348 => ?_) (fun c_348 => ?_)
        · exact absurd c_348 (by decide)
        · exact thr0 hx hb hfl hown ht hK.2.2 hZ hAz hS hl hml htab hlocks (by decide +kernel) w_71 w_72 at_X11_127 dX11_marchFinds_31 dX11_marchFinds_34 dX11_marchFinds_35 dX11_marchFinds_38 rfl rfl rfl rfl (fun t _ hF => ⟨(), trivial, (Or.inr ⟨rfl, (Or.inr (Or.inr (Or.inr (Or.inr (Or.inr (Or.inr (Or.inr (Or.inr (Or.inr (Or.inr ⟨c_337, c_338, c_339, c_340, c_341, c_342, c_343, c_344, c_345, c_346⟩))))))))))⟩), hF⟩) (fun _ h => h) rfl rfl
      · exact absurd c_347 (by decide)
set_option maxHeartbeats 4000000 in
set_option maxRecDepth 100000 in
theorem k_X11_meanFound (l : Launch) (hfl : l.stackTraces = false) (D : va_G) (g : Nat → ClassId) (z0 sz : Nat) (a : Nat → Nat) : vx_Met l yX11_meanFound (.code yX11_meanFound cX11_meanFound 4 (some .double) :: TG) (rmk 6 1 6 81) (va_Pc [.ref (a 0)] (PP D g z0 sz [((a 0), f_x a), ((a 2), f_book a)])) (va_Qd (fun (r : UInt64) (u : Unit) => False) (fun (_ : Unit) (_ : State) => True) (va_A [] sz)) (vx_X (fun _ : Unit => True) (fun E _ _ => (E = "java/lang/ArithmeticException" ∧ True)) (va_A [] sz)) 1 6 (va_A [] sz) := by
  refine vxm0 (cc := cX11_meanFound) (n := 4) (by decide) (Nat.le_of_ble_eq_true rfl) ?_
  intro p e s m args below meth c hx hb hr hml htab hown ht hlocks hnm hP0 hD0 hK hZ hsz hz ls hl
  subst hsz
  have hA : ∀ q : Nat, s.heap.size ≤ q → va_A [] s.heap.size q := Anw
  have hAz : ∀ q, va_A [] s.heap.size q → z0 ≤ q := A0z hz
  have hS : va_S (va_A [] s.heap.size) s.heap s.heap [] := va_S.rf
  have hl : lv_has ls 4 [(0, .ref (a 0))] := hl
  refine lv_aload_n hx hb dX11_meanFound_0 rfl (lv_at hl 0 rfl) ?_
  refine va_get (D := D) (ci := 17) (v := .ref (a 2)) (C := RX11) (T := TX11) (N := 11) hx hb ht in_X11 hown hK.1 (ro0 hP0 hS) 0 rfl rfl 1 (by decide) (ht _ w_32) (fun _ h9 => h9) rfl dX11_meanFound_1 ?_
  have hPc : va_P D vwCl [((a 2), f_book a)] _ := (ro0 hP0 hS).sub (ws' := [((a 2), f_book a)]) [1] rfl
  have hDc : va_D (fun q => z0 ≤ q) [((a 2), f_book a)] := hD0.pick (ws' := [((a 2), f_book a)]) [1] (by decide) rfl
  have hFc := AnA (ws := []) hS.1
  refine va_calli (va_runV (As := []) (rest := []) ⟨hx, hb, hml, hown, ht⟩ (k_X3_countClasses l D g z0 _ a) (cwV 0 ht (gV w_144 w_146 w_147 w_148 w_145) rfl rfl rfl (by decide +kernel) (le2 rfl rfl)) ⟨PP.blind, va_recv hK.1 (ro0 hP0 hS) (ci := 9) (q0 := 1) rfl rfl, PP.mk' hK hZ hz hAz hS hPc hDc⟩ rfl rfl hl.1 rfl (lv_room (Nat.le_of_ble_eq_true rfl)) dX11_meanFound_4 (le2 rfl rfl)) hS (fun q _ h => hFc q h) hFc (fun r u t H locs ht1 hvm hw hB hz1 hk1 hS => ?_)
  obtain ⟨rfl, hw⟩ := hw
  refine lv_istore_n (lv' := [(1, .int 0), (0, .ref (a 0))]) hx hb dX11_meanFound_7 rfl hl (by decide) rfl (fun ls hl => ?_)
  refine lv_iload_n hx hb dX11_meanFound_8 rfl (lv_at hl 0 rfl) ?_
  refine lv_if_ne (tgt := 20) hx hb dX11_meanFound_9 (by decide) (fun c_1 => ?_) (fun c_1 => ?_)
  · exact absurd c_1 (by decide)
  · exact thr0 hx hb hfl hown ht hK.2.2 hZ hAz hS hl hml htab hlocks (by decide +kernel) w_166 w_167 at_X11_269 dX11_meanFound_12 dX11_meanFound_15 dX11_meanFound_16 dX11_meanFound_19 rfl rfl rfl rfl (fun t _ hF => ⟨(), trivial, ⟨rfl, trivial⟩, hF⟩) (fun _ h => h) rfl rfl
set_option maxHeartbeats 4000000 in
set_option maxRecDepth 100000 in
theorem k_X11_mend (l : Launch) (D : va_G) (g : Nat → ClassId) (z0 sz : Nat) (a : Nat → Nat) : Met l yX11_mend (.code yX11_mend cX11_mend 2 (some .int) :: TG) (rmk 0 0 0 0) (va_Pc [.ref (a 0)] (PP D g z0 sz [((a 0), f_x a), ((a 8), f_chip a)])) (va_Qi (fun (r : Int32) (u : Unit) => (r = 0) ∧ True) (fun (u : Unit) (t : State) => va_P D vwCl [] t.heap ∧ va_D (va_A [((a 0), f_x a), ((a 8), f_chip a)] sz) []) (va_A [((a 0), f_x a), ((a 8), f_chip a)] sz)) 0 0 (va_A [((a 0), f_x a), ((a 8), f_chip a)] sz) := by
  refine met0 (cc := cX11_mend) (n := 2) (by decide) (Nat.le_of_ble_eq_true rfl) ?_
  intro p e s m args below meth c hx hb hr hml hown ht hlocks hnm hP0 hD0 hK hZ hsz hz ls hl
  subst hsz
  have hA : ∀ q : Nat, s.heap.size ≤ q → va_A [((a 0), f_x a), ((a 8), f_chip a)] s.heap.size q := Anw
  have hAz : ∀ q, va_A [((a 0), f_x a), ((a 8), f_chip a)] s.heap.size q → z0 ≤ q := Awz hz hD0
  have hS : va_S (va_A [((a 0), f_x a), ((a 8), f_chip a)] s.heap.size) s.heap s.heap [] := va_S.rf
  have hD : va_D (va_A [((a 0), f_x a), ((a 8), f_chip a)] s.heap.size) [((a 0), f_x a), ((a 8), f_chip a)] := hD0.self
  have hP : va_P D vwCl [((a 0), f_x a), ((a 8), f_chip a)] s.heap := hP0
  have hl : lv_has ls 2 [(0, .ref (a 0))] := hl
  refine lv_aload_n hx hb dX11_mend_0 rfl (lv_at hl 0 rfl) ?_
  refine va_get (D := D) (ci := 17) (v := .ref (a 8)) (C := RX11) (T := TX11) (N := 11) hx hb ht in_X11 hown hK.1 hP 0 rfl rfl 7 (by decide) (ht _ w_86) (fun _ h9 => h9) rfl dX11_mend_1 ?_
  refine va_get (D := D) (ci := 7) (v := .int 0) (C := RX1) (T := TX1) (N := 13) hx hb ht in_X1 hown hK.1 hP 1 rfl rfl 10 (by decide) (ht _ w_234) (fun _ h9 => h9) rfl dX11_mend_4 ?_
  refine lv_istore_n (lv' := [(1, .int 0), (0, .ref (a 0))]) hx hb dX11_mend_7 rfl hl (by decide) rfl (fun ls hl => ?_)
  refine lv_aload_n hx hb dX11_mend_8 rfl (lv_at hl 1 rfl) ?_
  refine va_get (D := D) (ci := 17) (v := .ref (a 8)) (C := RX11) (T := TX11) (N := 11) hx hb ht in_X11 hown hK.1 hP 0 rfl rfl 7 (by decide) (ht _ w_86) (fun _ h9 => h9) rfl dX11_mend_9 ?_
  refine lv_iconst (v := 0) hx hb dX11_mend_12 (by decide) ?_
  refine va_put (D := D) (ci := 7) (v := .int 0) (ty := .int) (C := RX1) (T := TX1) (N := 13) hx hb ht in_X1 tyX1 tyX1_ok nmX1 hown hK.1 hP hD hS 1 rfl rfl 10 (by decide) (ht _ w_234) (fun _ h9 => h9) rfl (by decide +kernel) rfl rfl (Nat.le_of_ble_eq_true rfl) dX11_mend_13 (fun H locs hP hD hS => ?_)
  have hP : va_P D vwCl [((a 0), f_x a), ((a 8), .inr (7, [.ref (a 1), .ref (a 2), .ref (a 3), .ref (a 4), .ref (a 53), .ref (a 54), .ref (a 55), .ref (a 56), .ref (a 57), .ref (a 58), .int 0, .int (-1), .int 0]))] H := hP
  have hD : va_D (va_A [((a 0), f_x a), ((a 8), f_chip a)] s.heap.size) [((a 0), f_x a), ((a 8), .inr (7, [.ref (a 1), .ref (a 2), .ref (a 3), .ref (a 4), .ref (a 53), .ref (a 54), .ref (a 55), .ref (a 56), .ref (a 57), .ref (a 58), .int 0, .int (-1), .int 0]))] := hD
  refine lv_iload_n hx hb dX11_mend_16 rfl (lv_at hl 0 rfl) ?_
  have hP9 := hP.sub (ws' := []) [] rfl
  have hD9 := hD.sub (ws' := []) [] (by decide) rfl
  refine W.widen (k := 0) (n := 0) (Nat.le_of_ble_eq_true rfl) (Nat.le_of_ble_eq_true rfl) ?_
  exact W.iret (v := 0) hx hb hr (fun t ht9 hW9 => ⟨⟨0, (), rfl, ⟨rfl, trivial⟩, ⟨(by rw [ht9]; exact hP9), hD9⟩⟩, hS.F ht9⟩) hS.2.2 dX11_mend_17 hlocks
set_option maxHeartbeats 4000000 in
set_option maxRecDepth 100000 in
theorem k_X11_merge (l : Launch) (hfl : l.stackTraces = false) (D : va_G) (g : Nat → ClassId) (z0 sz : Nat) (a : Nat → Nat) (p0 : Int32) (p1 : Int32) : vx_Met l yX11_merge (.code yX11_merge cX11_merge 3 (some .int) :: TG) (rmk 7 1 6 102) (va_Pc [.ref (a 0), .int p0, .int p1] (PP D g z0 sz [((a 0), f_x a), ((a 3), f_rows a)])) (va_Qi (fun (r : Int32) (u : Unit) => False) (fun (_ : Unit) (_ : State) => True) (va_A [] sz)) (vx_X (fun _ : Unit => True) (fun E _ _ => (E = "java/lang/IndexOutOfBoundsException" ∧ True)) (va_A [] sz)) 1 6 (va_A [] sz) := by
  refine vxm0 (cc := cX11_merge) (n := 3) (by decide) (Nat.le_of_ble_eq_true rfl) ?_
  intro p e s m args below meth c hx hb hr hml htab hown ht hlocks hnm hP0 hD0 hK hZ hsz hz ls hl
  subst hsz
  have hA : ∀ q : Nat, s.heap.size ≤ q → va_A [] s.heap.size q := Anw
  have hAz : ∀ q, va_A [] s.heap.size q → z0 ≤ q := A0z hz
  have hS : va_S (va_A [] s.heap.size) s.heap s.heap [] := va_S.rf
  have hl : lv_has ls 3 [(0, .ref (a 0)), (1, .int p0), (2, .int p1)] := hl
  refine lv_aload_n hx hb dX11_merge_0 rfl (lv_at hl 0 rfl) ?_
  refine lv_iload_n hx hb dX11_merge_1 rfl (lv_at hl 1 rfl) ?_
  have hPc : va_P D vwCl [((a 0), f_x a), ((a 3), f_rows a)] _ := (ro0 hP0 hS).sub (ws' := [((a 0), f_x a), ((a 3), f_rows a)]) [0, 1] rfl
  have hDc : va_D (fun q => z0 ≤ q) [((a 0), f_x a), ((a 3), f_rows a)] := hD0.pick (ws' := [((a 0), f_x a), ((a 3), f_rows a)]) [0, 1] (by decide) rfl
  have hFc := AnA (ws := []) hS.1
  refine vx_callv (vx_runV (As := [.int p0]) (rest := []) ⟨hx, hb, hml, hown, ht⟩ (k_X11_needPattern l hfl D g z0 _ a p0) (cwV 1 ht (gV w_184 w_186 w_187 w_31 w_185) rfl rfl rfl (by decide +kernel) (le2 rfl rfl)) ⟨PP.blind, va_recv hK.1 (ro0 hP0 hS) (ci := 17) (q0 := 0) rfl rfl, PP.mk' hK hZ hz hAz hS hPc hDc⟩ rfl rfl hl.1 rfl (lv_room (Nat.le_of_ble_eq_true rfl)) dX11_merge_2 (le2 rfl rfl)) hS (fun q _ h => hFc q h) hFc (fun q _ h => hFc q h) (fun E ce q9 u t H locs ht1 hvm hw hB hz1 hk1 hS hcell hv9 hcl => ?_) (fun u t H locs ht1 hvm hw hB hz1 hk1 hS => ?_)
  · obtain ⟨rfl, hB⟩ := hB
    exact out0 htab hlocks hS hcell hv9 hcl (fun t _ hF => ⟨(), trivial, ⟨rfl, trivial⟩, hF⟩) (fun _ h => h) rfl rfl
  · exact hw.elim
set_option maxHeartbeats 4000000 in
set_option maxRecDepth 100000 in
theorem k_X7_joinAll (l : Launch) (D : va_G) (g : Nat → ClassId) (z0 sz : Nat) (a : Nat → Nat) : Met l yX7_joinAll (.code yX7_joinAll cX7_joinAll 4 none :: TG) (rmk 0 0 0 0) (va_Pc [.ref (a 3)] (PP D g z0 sz [((a 3), f_rows a)])) (va_Qv (fun (u : Unit) => True) (fun (u : Unit) (t : State) => va_P D vwCl [((a 3), .inr (13, [.ref (a 33), .ref (a 34), .ref (a 35), .ref (a 36), .ref (a 37), .int 0]))] t.heap ∧ va_D (va_A [((a 3), f_rows a)] sz) [((a 3), .inr (13, [.ref (a 33), .ref (a 34), .ref (a 35), .ref (a 36), .ref (a 37), .int 0]))]) (va_A [((a 3), f_rows a)] sz)) 0 0 (va_A [((a 3), f_rows a)] sz) := by
  refine met0 (cc := cX7_joinAll) (n := 4) (by decide) (Nat.le_of_ble_eq_true rfl) ?_
  intro p e s m args below meth c hx hb hr hml hown ht hlocks hnm hP0 hD0 hK hZ hsz hz ls hl
  subst hsz
  have hA : ∀ q : Nat, s.heap.size ≤ q → va_A [((a 3), f_rows a)] s.heap.size q := Anw
  have hAz : ∀ q, va_A [((a 3), f_rows a)] s.heap.size q → z0 ≤ q := Awz hz hD0
  have hS : va_S (va_A [((a 3), f_rows a)] s.heap.size) s.heap s.heap [] := va_S.rf
  have hD : va_D (va_A [((a 3), f_rows a)] s.heap.size) [((a 3), f_rows a)] := hD0.self
  have hP : va_P D vwCl [((a 3), f_rows a)] s.heap := hP0
  have hl : lv_has ls 4 [(0, .ref (a 3))] := hl
  refine lv_iconst (v := 0) hx hb dX7_joinAll_0 (by decide) ?_
  refine lv_istore_n (lv' := [(1, .int 0), (0, .ref (a 3))]) hx hb dX7_joinAll_1 rfl hl (by decide) rfl (fun ls hl => ?_)
  refine lv_iconst (v := 0) hx hb dX7_joinAll_2 (by decide) ?_
  refine lv_istore_n (lv' := [(2, .int 0), (1, .int 0), (0, .ref (a 3))]) hx hb dX7_joinAll_3 rfl hl (by decide) rfl (fun ls hl => ?_)
  refine lv_iload_n hx hb dX7_joinAll_4 rfl (lv_at hl 0 rfl) ?_
  refine lv_aload_n hx hb dX7_joinAll_5 rfl (lv_at hl 2 rfl) ?_
  refine va_get (D := D) (ci := 13) (v := .int 0) (C := RX7) (T := TX7) (N := 6) hx hb ht in_X7 hown hK.1 hP 0 rfl rfl 5 (by decide) (ht _ w_178) (fun _ h9 => h9) rfl dX7_joinAll_6 ?_
  refine lv_icmp_ge (tgt := 47) hx hb dX7_joinAll_9 (by decide) (fun c_1 => ?_) (fun c_1 => ?_)
  · refine lv_aload_n hx hb dX7_joinAll_47 rfl (lv_at hl 2 rfl) ?_
    refine lv_iload_n hx hb dX7_joinAll_48 rfl (lv_at hl 1 rfl) ?_
    refine va_put (D := D) (ci := 13) (v := .int 0) (ty := .int) (C := RX7) (T := TX7) (N := 6) hx hb ht in_X7 tyX7 tyX7_ok nmX7 hown hK.1 hP hD hS 0 rfl rfl 5 (by decide) (ht _ w_178) (fun _ h9 => h9) rfl (by decide +kernel) rfl rfl (Nat.le_of_ble_eq_true rfl) dX7_joinAll_49 (fun H locs hP hD hS => ?_)
    have hP : va_P D vwCl [((a 3), .inr (13, [.ref (a 33), .ref (a 34), .ref (a 35), .ref (a 36), .ref (a 37), .int 0]))] H := hP
    have hD : va_D (va_A [((a 3), f_rows a)] s.heap.size) [((a 3), .inr (13, [.ref (a 33), .ref (a 34), .ref (a 35), .ref (a 36), .ref (a 37), .int 0]))] := hD
    have hP9 := hP.sub (ws' := [((a 3), .inr (13, [.ref (a 33), .ref (a 34), .ref (a 35), .ref (a 36), .ref (a 37), .int 0]))]) [0] rfl
    have hD9 := hD.sub (ws' := [((a 3), .inr (13, [.ref (a 33), .ref (a 34), .ref (a 35), .ref (a 36), .ref (a 37), .int 0]))]) [0] (by decide) rfl
    refine W.widen (k := 0) (n := 0) (Nat.le_of_ble_eq_true rfl) (Nat.le_of_ble_eq_true rfl) ?_
    exact W.vret hx hb hr (fun t ht9 hW9 => ⟨⟨(), rfl, trivial, ⟨(by rw [ht9]; exact hP9), hD9⟩⟩, hS.F ht9⟩) hS.2.2 dX7_joinAll_52 hlocks
  · exact absurd c_1 (by decide)
set_option maxHeartbeats 4000000 in
set_option maxRecDepth 100000 in
theorem k_X11_mergeAll (l : Launch) (D : va_G) (g : Nat → ClassId) (z0 sz : Nat) (a : Nat → Nat) : Met l yX11_mergeAll (.code yX11_mergeAll cX11_mergeAll 1 (some .int) :: TG) (rmk 1 0 0 23) (va_Pc [.ref (a 0)] (PP D g z0 sz [((a 0), f_x a), ((a 3), f_rows a)])) (va_Qi (fun (r : Int32) (u : Unit) => (r = 0) ∧ True) (fun (u : Unit) (t : State) => va_P D vwCl [] t.heap ∧ va_D (va_A [((a 0), f_x a), ((a 3), f_rows a)] sz) []) (va_A [((a 0), f_x a), ((a 3), f_rows a)] sz)) 0 0 (va_A [((a 0), f_x a), ((a 3), f_rows a)] sz) := by
  refine met0 (cc := cX11_mergeAll) (n := 1) (by decide) (Nat.le_of_ble_eq_true rfl) ?_
  intro p e s m args below meth c hx hb hr hml hown ht hlocks hnm hP0 hD0 hK hZ hsz hz ls hl
  subst hsz
  have hA : ∀ q : Nat, s.heap.size ≤ q → va_A [((a 0), f_x a), ((a 3), f_rows a)] s.heap.size q := Anw
  have hAz : ∀ q, va_A [((a 0), f_x a), ((a 3), f_rows a)] s.heap.size q → z0 ≤ q := Awz hz hD0
  have hS : va_S (va_A [((a 0), f_x a), ((a 3), f_rows a)] s.heap.size) s.heap s.heap [] := va_S.rf
  have hD : va_D (va_A [((a 0), f_x a), ((a 3), f_rows a)] s.heap.size) [((a 0), f_x a), ((a 3), f_rows a)] := hD0.self
  have hP : va_P D vwCl [((a 0), f_x a), ((a 3), f_rows a)] s.heap := hP0
  have hl : lv_has ls 1 [(0, .ref (a 0))] := hl
  refine lv_aload_n hx hb dX11_mergeAll_0 rfl (lv_at hl 0 rfl) ?_
  refine va_get (D := D) (ci := 17) (v := .ref (a 3)) (C := RX11) (T := TX11) (N := 11) hx hb ht in_X11 hown hK.1 hP 0 rfl rfl 2 (by decide) (ht _ w_1) (fun _ h9 => h9) rfl dX11_mergeAll_1 ?_
  have hPc : va_P D vwCl [((a 3), f_rows a)] _ := hP.sub (ws' := [((a 3), f_rows a)]) [1] rfl
  have hDc : va_D (fun q => z0 ≤ q) [((a 3), f_rows a)] := (hD.to hAz).pick (ws' := [((a 3), f_rows a)]) [1] (by decide) rfl
  have hFc := va_free (wc := [((a 3), f_rows a)]) hD hS hA [1] rfl
  refine va_callv (va_runV (As := []) (rest := []) ⟨hx, hb, hml, hown, ht⟩ (k_X7_joinAll l D g z0 _ a) (cwV 0 ht (gV w_267 w_269 w_270 w_183 w_268) rfl rfl rfl (by decide +kernel) (le2 rfl rfl)) ⟨PP.blind, va_recv hK.1 hP (ci := 13) (q0 := 1) rfl rfl, PP.mk' hK hZ hz hAz hS hPc hDc⟩ rfl rfl hl.1 rfl (lv_room (Nat.le_of_ble_eq_true rfl)) dX11_mergeAll_4 (le2 rfl rfl)) hS (fun q _ h => hFc q h) hFc (fun u t H locs ht1 hvm hw hB hz1 hk1 hS => ?_)
  obtain ⟨hP1, hD1⟩ := hB
  rw [ht1] at hP1
  obtain ⟨hP, hD⟩ := va_join (wr := [((a 0), f_x a)]) (w1 := [((a 3), f_rows a)]) hP hD [1] [0] rfl rfl (by decide) (by decide) hk1 hFc hP1 hD1
  have hP : va_P D vwCl [((a 0), f_x a), ((a 3), f_rows a)] H := hP
  have hD : va_D (va_A [((a 0), f_x a), ((a 3), f_rows a)] s.heap.size) [((a 0), f_x a), ((a 3), f_rows a)] := hD
  refine lv_aload_n hx hb dX11_mergeAll_7 rfl (lv_at hl 0 rfl) ?_
  refine va_get (D := D) (ci := 17) (v := .ref (a 3)) (C := RX11) (T := TX11) (N := 11) hx hb ht in_X11 hown hK.1 hP 0 rfl rfl 2 (by decide) (ht _ w_1) (fun _ h9 => h9) rfl dX11_mergeAll_8 ?_
  refine va_get (D := D) (ci := 13) (v := .int 0) (C := RX7) (T := TX7) (N := 6) hx hb ht in_X7 hown hK.1 hP 1 rfl rfl 5 (by decide) (ht _ w_26) (fun _ h9 => h9) rfl dX11_mergeAll_11 ?_
  have hP9 := hP.sub (ws' := []) [] rfl
  have hD9 := hD.sub (ws' := []) [] (by decide) rfl
  refine W.widen (k := 0) (n := 0) (Nat.le_of_ble_eq_true rfl) (Nat.le_of_ble_eq_true rfl) ?_
  exact W.iret (v := 0) hx hb hr (fun t ht9 hW9 => ⟨⟨0, (), rfl, ⟨rfl, trivial⟩, ⟨(by rw [ht9]; exact hP9), hD9⟩⟩, hS.F ht9⟩) hS.2.2 dX11_mergeAll_14 hlocks
set_option maxHeartbeats 4000000 in
set_option maxRecDepth 100000 in
theorem k_X11_openWire (l : Launch) (hfl : l.stackTraces = false) (D : va_G) (g : Nat → ClassId) (z0 sz : Nat) (a : Nat → Nat) (p0 : Int32) (p1 : Int32) : vx_Met l yX11_openWire (.code yX11_openWire cX11_openWire 4 (some .boolean) :: TG) (rmk 7 1 6 102) (va_Pc [.ref (a 0), .int p0, .int p1] (PP D g z0 sz [((a 0), f_x a), ((a 10), f_wires a)])) (va_Qi (fun (r : Int32) (u : Unit) => False) (fun (_ : Unit) (_ : State) => True) (va_A [] sz)) (vx_X (fun _ : Unit => True) (fun E _ _ => (E = "java/lang/IndexOutOfBoundsException" ∧ True)) (va_A [] sz)) 1 6 (va_A [] sz) := by
  refine vxm0 (cc := cX11_openWire) (n := 4) (by decide) (Nat.le_of_ble_eq_true rfl) ?_
  intro p e s m args below meth c hx hb hr hml htab hown ht hlocks hnm hP0 hD0 hK hZ hsz hz ls hl
  subst hsz
  have hA : ∀ q : Nat, s.heap.size ≤ q → va_A [] s.heap.size q := Anw
  have hAz : ∀ q, va_A [] s.heap.size q → z0 ≤ q := A0z hz
  have hS : va_S (va_A [] s.heap.size) s.heap s.heap [] := va_S.rf
  have hl : lv_has ls 4 [(0, .ref (a 0)), (1, .int p0), (2, .int p1)] := hl
  refine lv_aload_n hx hb dX11_openWire_0 rfl (lv_at hl 0 rfl) ?_
  refine lv_iload_n hx hb dX11_openWire_1 rfl (lv_at hl 1 rfl) ?_
  have hPc : va_P D vwCl [((a 0), f_x a), ((a 10), f_wires a)] _ := (ro0 hP0 hS).sub (ws' := [((a 0), f_x a), ((a 10), f_wires a)]) [0, 1] rfl
  have hDc : va_D (fun q => z0 ≤ q) [((a 0), f_x a), ((a 10), f_wires a)] := hD0.pick (ws' := [((a 0), f_x a), ((a 10), f_wires a)]) [0, 1] (by decide) rfl
  have hFc := AnA (ws := []) hS.1
  refine vx_callv (vx_runV (As := [.int p0]) (rest := []) ⟨hx, hb, hml, hown, ht⟩ (k_X11_needWire l hfl D g z0 _ a p0) (cwV 1 ht (gV w_191 w_193 w_194 w_31 w_192) rfl rfl rfl (by decide +kernel) (le2 rfl rfl)) ⟨PP.blind, va_recv hK.1 (ro0 hP0 hS) (ci := 17) (q0 := 0) rfl rfl, PP.mk' hK hZ hz hAz hS hPc hDc⟩ rfl rfl hl.1 rfl (lv_room (Nat.le_of_ble_eq_true rfl)) dX11_openWire_2 (le2 rfl rfl)) hS (fun q _ h => hFc q h) hFc (fun q _ h => hFc q h) (fun E ce q9 u t H locs ht1 hvm hw hB hz1 hk1 hS hcell hv9 hcl => ?_) (fun u t H locs ht1 hvm hw hB hz1 hk1 hS => ?_)
  · obtain ⟨rfl, hB⟩ := hB
    exact out0 htab hlocks hS hcell hv9 hcl (fun t _ hF => ⟨(), trivial, ⟨rfl, trivial⟩, hF⟩) (fun _ h => h) rfl rfl
  · exact hw.elim
set_option maxHeartbeats 4000000 in
set_option maxRecDepth 100000 in
theorem k_X11_orderAt (l : Launch) (hfl : l.stackTraces = false) (D : va_G) (g : Nat → ClassId) (z0 sz : Nat) (a : Nat → Nat) (p0 : Int32) : vx_Met l yX11_orderAt (.code yX11_orderAt cX11_orderAt 2 (some .int) :: TG) (rmk 6 1 6 81) (va_Pc [.ref (a 0), .int p0] (PP D g z0 sz [((a 0), f_x a), ((a 3), f_rows a)])) (va_Qi (fun (r : Int32) (u : Unit) => False) (fun (_ : Unit) (_ : State) => True) (va_A [] sz)) (vx_X (fun _ : Unit => True) (fun E _ _ => (E = "java/util/NoSuchElementException" ∧ True)) (va_A [] sz)) 1 6 (va_A [] sz) := by
  refine vxm0 (cc := cX11_orderAt) (n := 2) (by decide) (Nat.le_of_ble_eq_true rfl) ?_
  intro p e s m args below meth c hx hb hr hml htab hown ht hlocks hnm hP0 hD0 hK hZ hsz hz ls hl
  subst hsz
  have hA : ∀ q : Nat, s.heap.size ≤ q → va_A [] s.heap.size q := Anw
  have hAz : ∀ q, va_A [] s.heap.size q → z0 ≤ q := A0z hz
  have hS : va_S (va_A [] s.heap.size) s.heap s.heap [] := va_S.rf
  have hl : lv_has ls 2 [(0, .ref (a 0)), (1, .int p0)] := hl
  refine lv_iload_n hx hb dX11_orderAt_0 rfl (lv_at hl 1 rfl) ?_
  refine lv_if_lt (tgt := 15) hx hb dX11_orderAt_1 (by decide) (fun c_1 => ?_) (fun c_1 => ?_)
  · exact thr0 hx hb hfl hown ht hK.2.2 hZ hAz hS hl hml htab hlocks (by decide +kernel) w_119 w_120 at_X11_312 dX11_orderAt_15 dX11_orderAt_18 dX11_orderAt_19 dX11_orderAt_22 rfl rfl rfl rfl (fun t _ hF => ⟨(), trivial, ⟨rfl, trivial⟩, hF⟩) (fun _ h => h) rfl rfl
  · refine lv_iload_n hx hb dX11_orderAt_4 rfl (lv_at hl 1 rfl) ?_
    refine lv_aload_n hx hb dX11_orderAt_5 rfl (lv_at hl 0 rfl) ?_
    refine va_get (D := D) (ci := 17) (v := .ref (a 3)) (C := RX11) (T := TX11) (N := 11) hx hb ht in_X11 hown hK.1 (ro0 hP0 hS) 0 rfl rfl 2 (by decide) (ht _ w_1) (fun _ h9 => h9) rfl dX11_orderAt_6 ?_
    refine va_get (D := D) (ci := 13) (v := .int 0) (C := RX7) (T := TX7) (N := 6) hx hb ht in_X7 hown hK.1 (ro0 hP0 hS) 1 rfl rfl 5 (by decide) (ht _ w_26) (fun _ h9 => h9) rfl dX11_orderAt_9 ?_
    refine lv_icmp_lt (tgt := 23) hx hb dX11_orderAt_12 (by decide) (fun c_2 => ?_) (fun c_2 => ?_)
    · exact absurd c_2 c_1
    · exact thr0 hx hb hfl hown ht hK.2.2 hZ hAz hS hl hml htab hlocks (by decide +kernel) w_119 w_120 at_X11_312 dX11_orderAt_15 dX11_orderAt_18 dX11_orderAt_19 dX11_orderAt_22 rfl rfl rfl rfl (fun t _ hF => ⟨(), trivial, ⟨rfl, trivial⟩, hF⟩) (fun _ h => h) rfl rfl
set_option maxHeartbeats 4000000 in
set_option maxRecDepth 100000 in
theorem k_X11_output (l : Launch) (hfl : l.stackTraces = false) (D : va_G) (g : Nat → ClassId) (z0 sz : Nat) (a : Nat → Nat) (p0 : Int32) : vx_Met l yX11_output (.code yX11_output cX11_output 3 (some .boolean) :: TG) (rmk 7 1 6 102) (va_Pc [.ref (a 0), .int p0] (PP D g z0 sz [((a 0), f_x a), ((a 1), f_net a)])) (va_Qi (fun (r : Int32) (u : Unit) => False) (fun (_ : Unit) (_ : State) => True) (va_A [] sz)) (vx_X (fun _ : Unit => True) (fun E _ _ => (E = "java/lang/IndexOutOfBoundsException" ∧ True)) (va_A [] sz)) 1 6 (va_A [] sz) := by
  refine vxm0 (cc := cX11_output) (n := 3) (by decide) (Nat.le_of_ble_eq_true rfl) ?_
  intro p e s m args below meth c hx hb hr hml htab hown ht hlocks hnm hP0 hD0 hK hZ hsz hz ls hl
  subst hsz
  have hA : ∀ q : Nat, s.heap.size ≤ q → va_A [] s.heap.size q := Anw
  have hAz : ∀ q, va_A [] s.heap.size q → z0 ≤ q := A0z hz
  have hS : va_S (va_A [] s.heap.size) s.heap s.heap [] := va_S.rf
  have hl : lv_has ls 3 [(0, .ref (a 0)), (1, .int p0)] := hl
  refine lv_aload_n hx hb dX11_output_0 rfl (lv_at hl 0 rfl) ?_
  refine lv_iload_n hx hb dX11_output_1 rfl (lv_at hl 1 rfl) ?_
  have hPc : va_P D vwCl [((a 0), f_x a), ((a 1), f_net a)] _ := (ro0 hP0 hS).sub (ws' := [((a 0), f_x a), ((a 1), f_net a)]) [0, 1] rfl
  have hDc : va_D (fun q => z0 ≤ q) [((a 0), f_x a), ((a 1), f_net a)] := hD0.pick (ws' := [((a 0), f_x a), ((a 1), f_net a)]) [0, 1] (by decide) rfl
  have hFc := AnA (ws := []) hS.1
  refine vx_callv (vx_runV (As := [.int p0]) (rest := []) ⟨hx, hb, hml, hown, ht⟩ (k_X11_needLine l hfl D g z0 _ a p0) (cwV 1 ht (gV w_82 w_84 w_85 w_31 w_83) rfl rfl rfl (by decide +kernel) (le2 rfl rfl)) ⟨PP.blind, va_recv hK.1 (ro0 hP0 hS) (ci := 17) (q0 := 0) rfl rfl, PP.mk' hK hZ hz hAz hS hPc hDc⟩ rfl rfl hl.1 rfl (lv_room (Nat.le_of_ble_eq_true rfl)) dX11_output_2 (le2 rfl rfl)) hS (fun q _ h => hFc q h) hFc (fun q _ h => hFc q h) (fun E ce q9 u t H locs ht1 hvm hw hB hz1 hk1 hS hcell hv9 hcl => ?_) (fun u t H locs ht1 hvm hw hB hz1 hk1 hS => ?_)
  · obtain ⟨rfl, hB⟩ := hB
    exact out0 htab hlocks hS hcell hv9 hcl (fun t _ hF => ⟨(), trivial, ⟨rfl, trivial⟩, hF⟩) (fun _ h => h) rfl rfl
  · exact hw.elim
set_option maxHeartbeats 4000000 in
set_option maxRecDepth 100000 in
theorem k_X6_allSources (l : Launch) (D : va_G) (g : Nat → ClassId) (z0 sz : Nat) (a : Nat → Nat) : Met l yX6_allSources (.code yX6_allSources cX6_allSources 1 (some .int) :: TG) (rmk 0 0 0 0) (va_Pc [.ref (a 1)] (PP D g z0 sz [((a 1), f_net a)])) (va_Qi (fun (r : Int32) (u : Unit) => (r = 0) ∧ True) (fun (_ : Unit) (_ : State) => True) (va_A [] sz)) 0 0 (va_A [] sz) := by
  refine met0 (cc := cX6_allSources) (n := 1) (by decide) (Nat.le_of_ble_eq_true rfl) ?_
  intro p e s m args below meth c hx hb hr hml hown ht hlocks hnm hP0 hD0 hK hZ hsz hz ls hl
  subst hsz
  have hA : ∀ q : Nat, s.heap.size ≤ q → va_A [] s.heap.size q := Anw
  have hAz : ∀ q, va_A [] s.heap.size q → z0 ≤ q := A0z hz
  have hS : va_S (va_A [] s.heap.size) s.heap s.heap [] := va_S.rf
  have hl : lv_has ls 1 [(0, .ref (a 1))] := hl
  refine lv_iconst (v := 1) hx hb dX6_allSources_0 (by decide) ?_
  refine lv_aload_n hx hb dX6_allSources_1 rfl (lv_at hl 0 rfl) ?_
  refine va_get (D := D) (ci := 12) (v := .int 0) (C := RX6) (T := TX6) (N := 18) hx hb ht in_X6 hown hK.1 (ro0 hP0 hS) 0 rfl rfl 13 (by decide) (ht _ w_130) (fun _ h9 => h9) rfl dX6_allSources_2 ?_
  refine lv_ishl hx hb dX6_allSources_5 ?_
  refine r_topi (v := 1) (by decide) ?_
  refine lv_iconst (v := 1) hx hb dX6_allSources_6 (by decide) ?_
  refine lv_isub hx hb dX6_allSources_7 ?_
  refine r_topi (v := 0) (by decide) ?_
  refine W.widen (k := 0) (n := 0) (Nat.le_of_ble_eq_true rfl) (Nat.le_of_ble_eq_true rfl) ?_
  exact W.iret (v := 0) hx hb hr (fun t ht9 hW9 => ⟨⟨0, (), rfl, ⟨rfl, trivial⟩, trivial⟩, hS.F ht9⟩) hS.2.2 dX6_allSources_8 hlocks
set_option maxHeartbeats 4000000 in
set_option maxRecDepth 100000 in
theorem k_X11_pattern (l : Launch) (hfl : l.stackTraces = false) (D : va_G) (g : Nat → ClassId) (z0 sz : Nat) (a : Nat → Nat) (p0 : Int32) (p1 : Int32) : vx_Met l yX11_pattern (.code yX11_pattern cX11_pattern 3 (some .int) :: TG) (rmk 7 1 6 101) (va_Pc [.ref (a 0), .int p0, .int p1] (PP D g z0 sz [((a 0), f_x a), ((a 1), f_net a)])) (va_Qi (fun (r : Int32) (u : Unit) => False) (fun (_ : Unit) (_ : State) => True) (va_A [] sz)) (vx_X (fun _ : Unit => True) (fun E _ _ => (E = "java/lang/IllegalArgumentException" ∧ ((¬ (p0 &&& (-1)) = 0) ∨ (((p0 &&& (-1)) = 0) ∧ (¬ (p1 &&& (p0 ^^^ (-1))) = 0)))) ∨ (E = "java/lang/UnsupportedOperationException" ∧ (((p0 &&& (-1)) = 0) ∧ ((p1 &&& (p0 ^^^ (-1))) = 0)))) (va_A [] sz)) 1 6 (va_A [] sz) := by
  refine vxm0 (cc := cX11_pattern) (n := 3) (by decide) (Nat.le_of_ble_eq_true rfl) ?_
  intro p e s m args below meth c hx hb hr hml htab hown ht hlocks hnm hP0 hD0 hK hZ hsz hz ls hl
  subst hsz
  have hA : ∀ q : Nat, s.heap.size ≤ q → va_A [] s.heap.size q := Anw
  have hAz : ∀ q, va_A [] s.heap.size q → z0 ≤ q := A0z hz
  have hS : va_S (va_A [] s.heap.size) s.heap s.heap [] := va_S.rf
  have hl : lv_has ls 3 [(0, .ref (a 0)), (1, .int p0), (2, .int p1)] := hl
  refine lv_iload_n hx hb dX11_pattern_0 rfl (lv_at hl 1 rfl) ?_
  refine lv_aload_n hx hb dX11_pattern_1 rfl (lv_at hl 0 rfl) ?_
  refine va_get (D := D) (ci := 17) (v := .ref (a 1)) (C := RX11) (T := TX11) (N := 11) hx hb ht in_X11 hown hK.1 (ro0 hP0 hS) 0 rfl rfl 0 (by decide) (ht _ w_68) (fun _ h9 => h9) rfl dX11_pattern_2 ?_
  have hPc : va_P D vwCl [((a 1), f_net a)] _ := (ro0 hP0 hS).sub (ws' := [((a 1), f_net a)]) [1] rfl
  have hDc : va_D (fun q => z0 ≤ q) [((a 1), f_net a)] := hD0.pick (ws' := [((a 1), f_net a)]) [1] (by decide) rfl
  have hFc := AnA (ws := []) hS.1
  refine va_calli (va_runV (As := []) (rest := [.int p0]) ⟨hx, hb, hml, hown, ht⟩ (k_X6_allSources l D g z0 _ a) (cwV 0 ht (gV w_271 w_273 w_274 w_137 w_272) rfl rfl rfl (by decide +kernel) (le2 rfl rfl)) ⟨PP.blind, va_recv hK.1 (ro0 hP0 hS) (ci := 12) (q0 := 1) rfl rfl, PP.mk' hK hZ hz hAz hS hPc hDc⟩ rfl rfl hl.1 rfl (lv_room (Nat.le_of_ble_eq_true rfl)) dX11_pattern_5 (le2 rfl rfl)) hS (fun q _ h => hFc q h) hFc (fun r u t H locs ht1 hvm hw hB hz1 hk1 hS => ?_)
  obtain ⟨rfl, hw⟩ := hw
  refine lv_iconst (v := (-1)) hx hb dX11_pattern_8 (by decide) ?_
  refine lv_ixor hx hb dX11_pattern_9 ?_
  refine r_topi (v := (-1)) (by decide) ?_
  refine lv_iand hx hb dX11_pattern_10 ?_
  refine lv_if_ne (tgt := 22) hx hb dX11_pattern_11 (by decide) (fun c_1 => ?_) (fun c_1 => ?_)
  · exact thr0 hx hb hfl hown ht hK.2.2 hZ hAz hS hl hml htab hlocks (by decide +kernel) w_43 w_44 at_X11_116 dX11_pattern_22 dX11_pattern_25 dX11_pattern_26 dX11_pattern_29 rfl rfl rfl rfl (fun t _ hF => ⟨(), trivial, (Or.inl ⟨rfl, (Or.inl c_1)⟩), hF⟩) (fun _ h => h) rfl rfl
  · refine lv_iload_n hx hb dX11_pattern_14 rfl (lv_at hl 2 rfl) ?_
    refine lv_iload_n hx hb dX11_pattern_15 rfl (lv_at hl 1 rfl) ?_
    refine lv_iconst (v := (-1)) hx hb dX11_pattern_16 (by decide) ?_
    refine lv_ixor hx hb dX11_pattern_17 ?_
    refine lv_iand hx hb dX11_pattern_18 ?_
    refine lv_if_eq (tgt := 30) hx hb dX11_pattern_19 (by decide) (fun c_2 => ?_) (fun c_2 => ?_)
    · refine lv_aload_n hx hb dX11_pattern_30 rfl (lv_at hl 0 rfl) ?_
      have hPc : va_P D vwCl [((a 0), f_x a), ((a 1), f_net a)] _ := (ro0 hP0 hS).sub (ws' := [((a 0), f_x a), ((a 1), f_net a)]) [0, 1] rfl
      have hDc : va_D (fun q => z0 ≤ q) [((a 0), f_x a), ((a 1), f_net a)] := hD0.pick (ws' := [((a 0), f_x a), ((a 1), f_net a)]) [0, 1] (by decide) rfl
      have hFc := AnA (ws := []) hS.1
      refine vx_callv (vx_runV (As := []) (rest := []) ⟨hx, hb, hml, hown, ht⟩ (k_X11_needClosedNet l hfl D g z0 _ a) (cwV 0 ht (gV w_73 w_75 w_76 w_31 w_74) rfl rfl rfl (by decide +kernel) (le2 rfl rfl)) ⟨PP.blind, va_recv hK.1 (ro0 hP0 hS) (ci := 17) (q0 := 0) rfl rfl, PP.mk' hK hZ hz hAz hS hPc hDc⟩ rfl rfl hl.1 rfl (lv_room (Nat.le_of_ble_eq_true rfl)) dX11_pattern_31 (le2 rfl rfl)) hS (fun q _ h => hFc q h) hFc (fun q _ h => hFc q h) (fun E ce q9 u t H locs ht1 hvm hw hB hz1 hk1 hS hcell hv9 hcl => ?_) (fun u t H locs ht1 hvm hw hB hz1 hk1 hS => ?_)
      · obtain ⟨rfl, hB⟩ := hB
        exact out0 htab hlocks hS hcell hv9 hcl (fun t _ hF => ⟨(), trivial, (Or.inr ⟨rfl, ⟨c_1, c_2⟩⟩), hF⟩) (fun _ h => h) rfl rfl
      · exact hw.elim
    · exact thr0 hx hb hfl hown ht hK.2.2 hZ hAz hS hl hml htab hlocks (by decide +kernel) w_43 w_44 at_X11_116 dX11_pattern_22 dX11_pattern_25 dX11_pattern_26 dX11_pattern_29 rfl rfl rfl rfl (fun t _ hF => ⟨(), trivial, (Or.inl ⟨rfl, (Or.inr ⟨c_1, c_2⟩)⟩), hF⟩) (fun _ h => h) rfl rfl
set_option maxHeartbeats 4000000 in
set_option maxRecDepth 100000 in
theorem k_X11_patterns (l : Launch) (D : va_G) (g : Nat → ClassId) (z0 sz : Nat) (a : Nat → Nat) : Met l yX11_patterns (.code yX11_patterns cX11_patterns 1 (some .int) :: TG) (rmk 0 0 0 0) (va_Pc [.ref (a 0)] (PP D g z0 sz [((a 0), f_x a), ((a 3), f_rows a)])) (va_Qi (fun (r : Int32) (u : Unit) => (r = 0) ∧ True) (fun (_ : Unit) (_ : State) => True) (va_A [] sz)) 0 0 (va_A [] sz) := by
  refine met0 (cc := cX11_patterns) (n := 1) (by decide) (Nat.le_of_ble_eq_true rfl) ?_
  intro p e s m args below meth c hx hb hr hml hown ht hlocks hnm hP0 hD0 hK hZ hsz hz ls hl
  subst hsz
  have hA : ∀ q : Nat, s.heap.size ≤ q → va_A [] s.heap.size q := Anw
  have hAz : ∀ q, va_A [] s.heap.size q → z0 ≤ q := A0z hz
  have hS : va_S (va_A [] s.heap.size) s.heap s.heap [] := va_S.rf
  have hl : lv_has ls 1 [(0, .ref (a 0))] := hl
  refine lv_aload_n hx hb dX11_patterns_0 rfl (lv_at hl 0 rfl) ?_
  refine va_get (D := D) (ci := 17) (v := .ref (a 3)) (C := RX11) (T := TX11) (N := 11) hx hb ht in_X11 hown hK.1 (ro0 hP0 hS) 0 rfl rfl 2 (by decide) (ht _ w_1) (fun _ h9 => h9) rfl dX11_patterns_1 ?_
  refine va_get (D := D) (ci := 13) (v := .int 0) (C := RX7) (T := TX7) (N := 6) hx hb ht in_X7 hown hK.1 (ro0 hP0 hS) 1 rfl rfl 5 (by decide) (ht _ w_26) (fun _ h9 => h9) rfl dX11_patterns_4 ?_
  refine W.widen (k := 0) (n := 0) (Nat.le_of_ble_eq_true rfl) (Nat.le_of_ble_eq_true rfl) ?_
  exact W.iret (v := 0) hx hb hr (fun t ht9 hW9 => ⟨⟨0, (), rfl, ⟨rfl, trivial⟩, trivial⟩, hS.F ht9⟩) hS.2.2 dX11_patterns_7 hlocks
set_option maxHeartbeats 4000000 in
set_option maxRecDepth 100000 in
theorem k_X11_pinOf (l : Launch) (hfl : l.stackTraces = false) (D : va_G) (g : Nat → ClassId) (z0 sz : Nat) (a : Nat → Nat) (p0 : Int32) : vx_Met l yX11_pinOf (.code yX11_pinOf cX11_pinOf 2 (some .int) :: TG) (rmk 7 1 6 102) (va_Pc [.ref (a 0), .int p0] (PP D g z0 sz [((a 0), f_x a), ((a 2), f_book a)])) (va_Qi (fun (r : Int32) (u : Unit) => False) (fun (_ : Unit) (_ : State) => True) (va_A [] sz)) (vx_X (fun _ : Unit => True) (fun E _ _ => (E = "java/lang/IndexOutOfBoundsException" ∧ True)) (va_A [] sz)) 1 6 (va_A [] sz) := by
  refine vxm0 (cc := cX11_pinOf) (n := 2) (by decide) (Nat.le_of_ble_eq_true rfl) ?_
  intro p e s m args below meth c hx hb hr hml htab hown ht hlocks hnm hP0 hD0 hK hZ hsz hz ls hl
  subst hsz
  have hA : ∀ q : Nat, s.heap.size ≤ q → va_A [] s.heap.size q := Anw
  have hAz : ∀ q, va_A [] s.heap.size q → z0 ≤ q := A0z hz
  have hS : va_S (va_A [] s.heap.size) s.heap s.heap [] := va_S.rf
  have hl : lv_has ls 2 [(0, .ref (a 0)), (1, .int p0)] := hl
  refine lv_aload_n hx hb dX11_pinOf_0 rfl (lv_at hl 0 rfl) ?_
  refine lv_iload_n hx hb dX11_pinOf_1 rfl (lv_at hl 1 rfl) ?_
  have hPc : va_P D vwCl [((a 0), f_x a), ((a 2), f_book a)] _ := (ro0 hP0 hS).sub (ws' := [((a 0), f_x a), ((a 2), f_book a)]) [0, 1] rfl
  have hDc : va_D (fun q => z0 ≤ q) [((a 0), f_x a), ((a 2), f_book a)] := hD0.pick (ws' := [((a 0), f_x a), ((a 2), f_book a)]) [0, 1] (by decide) rfl
  have hFc := AnA (ws := []) hS.1
  refine vx_callv (vx_runV (As := [.int p0]) (rest := []) ⟨hx, hb, hml, hown, ht⟩ (k_X11_needFault l hfl D g z0 _ a p0) (cwV 1 ht (gV w_37 w_39 w_40 w_31 w_38) rfl rfl rfl (by decide +kernel) (le2 rfl rfl)) ⟨PP.blind, va_recv hK.1 (ro0 hP0 hS) (ci := 17) (q0 := 0) rfl rfl, PP.mk' hK hZ hz hAz hS hPc hDc⟩ rfl rfl hl.1 rfl (lv_room (Nat.le_of_ble_eq_true rfl)) dX11_pinOf_2 (le2 rfl rfl)) hS (fun q _ h => hFc q h) hFc (fun q _ h => hFc q h) (fun E ce q9 u t H locs ht1 hvm hw hB hz1 hk1 hS hcell hv9 hcl => ?_) (fun u t H locs ht1 hvm hw hB hz1 hk1 hS => ?_)
  · obtain ⟨rfl, hB⟩ := hB
    exact out0 htab hlocks hS hcell hv9 hcl (fun t _ hF => ⟨(), trivial, ⟨rfl, trivial⟩, hF⟩) (fun _ h => h) rfl rfl
  · exact hw.elim
set_option maxHeartbeats 4000000 in
set_option maxRecDepth 100000 in
theorem k_X11_power (l : Launch) (hfl : l.stackTraces = false) (D : va_G) (g : Nat → ClassId) (z0 sz : Nat) (a : Nat → Nat) (p0 : Int32) : vx_Met l yX11_power (.code yX11_power cX11_power 2 (some .int) :: TG) (rmk 7 1 6 102) (va_Pc [.ref (a 0), .int p0] (PP D g z0 sz [((a 0), f_x a), ((a 3), f_rows a)])) (va_Qi (fun (r : Int32) (u : Unit) => False) (fun (_ : Unit) (_ : State) => True) (va_A [] sz)) (vx_X (fun _ : Unit => True) (fun E _ _ => (E = "java/lang/IndexOutOfBoundsException" ∧ True)) (va_A [] sz)) 1 6 (va_A [] sz) := by
  refine vxm0 (cc := cX11_power) (n := 2) (by decide) (Nat.le_of_ble_eq_true rfl) ?_
  intro p e s m args below meth c hx hb hr hml htab hown ht hlocks hnm hP0 hD0 hK hZ hsz hz ls hl
  subst hsz
  have hA : ∀ q : Nat, s.heap.size ≤ q → va_A [] s.heap.size q := Anw
  have hAz : ∀ q, va_A [] s.heap.size q → z0 ≤ q := A0z hz
  have hS : va_S (va_A [] s.heap.size) s.heap s.heap [] := va_S.rf
  have hl : lv_has ls 2 [(0, .ref (a 0)), (1, .int p0)] := hl
  refine lv_aload_n hx hb dX11_power_0 rfl (lv_at hl 0 rfl) ?_
  refine lv_iload_n hx hb dX11_power_1 rfl (lv_at hl 1 rfl) ?_
  have hPc : va_P D vwCl [((a 0), f_x a), ((a 3), f_rows a)] _ := (ro0 hP0 hS).sub (ws' := [((a 0), f_x a), ((a 3), f_rows a)]) [0, 1] rfl
  have hDc : va_D (fun q => z0 ≤ q) [((a 0), f_x a), ((a 3), f_rows a)] := hD0.pick (ws' := [((a 0), f_x a), ((a 3), f_rows a)]) [0, 1] (by decide) rfl
  have hFc := AnA (ws := []) hS.1
  refine vx_callv (vx_runV (As := [.int p0]) (rest := []) ⟨hx, hb, hml, hown, ht⟩ (k_X11_needPattern l hfl D g z0 _ a p0) (cwV 1 ht (gV w_184 w_186 w_187 w_31 w_185) rfl rfl rfl (by decide +kernel) (le2 rfl rfl)) ⟨PP.blind, va_recv hK.1 (ro0 hP0 hS) (ci := 17) (q0 := 0) rfl rfl, PP.mk' hK hZ hz hAz hS hPc hDc⟩ rfl rfl hl.1 rfl (lv_room (Nat.le_of_ble_eq_true rfl)) dX11_power_2 (le2 rfl rfl)) hS (fun q _ h => hFc q h) hFc (fun q _ h => hFc q h) (fun E ce q9 u t H locs ht1 hvm hw hB hz1 hk1 hS hcell hv9 hcl => ?_) (fun u t H locs ht1 hvm hw hB hz1 hk1 hS => ?_)
  · obtain ⟨rfl, hB⟩ := hB
    exact out0 htab hlocks hS hcell hv9 hcl (fun t _ hF => ⟨(), trivial, ⟨rfl, trivial⟩, hF⟩) (fun _ h => h) rfl rfl
  · exact hw.elim
set_option maxHeartbeats 4000000 in
set_option maxRecDepth 100000 in
theorem k_X11_record (l : Launch) (hfl : l.stackTraces = false) (D : va_G) (g : Nat → ClassId) (z0 sz : Nat) (a : Nat → Nat) : vx_Met l yX11_record (.code yX11_record cX11_record 2 (some .int) :: TG) (rmk 6 1 6 110) (va_Pc [.ref (a 0)] (PP D g z0 sz [((a 0), f_x a), ((a 8), f_chip a), ((a 3), f_rows a), ((a 4), f_words a), ((a 38), .inl (g 1, 12, .inr (.inl (fun _ => 0)))), ((a 39), .inl (g 1, 12, .inr (.inl (fun _ => 0)))), ((a 1), f_net a), ((a 2), f_book a)])) (va_Qi (fun (r : Int32) (u : Unit) => False) (fun (_ : Unit) (_ : State) => True) (va_A [((a 0), f_x a), ((a 8), f_chip a), ((a 3), f_rows a), ((a 4), f_words a), ((a 38), .inl (g 1, 12, .inr (.inl (fun _ => 0)))), ((a 39), .inl (g 1, 12, .inr (.inl (fun _ => 0)))), ((a 1), f_net a), ((a 2), f_book a)] sz)) (vx_X (fun _ : Unit => True) (fun E _ _ => (E = "java/util/NoSuchElementException" ∧ True)) (va_A [((a 0), f_x a), ((a 8), f_chip a), ((a 3), f_rows a), ((a 4), f_words a), ((a 38), .inl (g 1, 12, .inr (.inl (fun _ => 0)))), ((a 39), .inl (g 1, 12, .inr (.inl (fun _ => 0)))), ((a 1), f_net a), ((a 2), f_book a)] sz)) 1 6 (va_A [((a 0), f_x a), ((a 8), f_chip a), ((a 3), f_rows a), ((a 4), f_words a), ((a 38), .inl (g 1, 12, .inr (.inl (fun _ => 0)))), ((a 39), .inl (g 1, 12, .inr (.inl (fun _ => 0)))), ((a 1), f_net a), ((a 2), f_book a)] sz) := by
  refine vxm0 (cc := cX11_record) (n := 2) (by decide) (Nat.le_of_ble_eq_true rfl) ?_
  intro p e s m args below meth c hx hb hr hml htab hown ht hlocks hnm hP0 hD0 hK hZ hsz hz ls hl
  subst hsz
  have hA : ∀ q : Nat, s.heap.size ≤ q → va_A [((a 0), f_x a), ((a 8), f_chip a), ((a 3), f_rows a), ((a 4), f_words a), ((a 38), .inl (g 1, 12, .inr (.inl (fun _ => 0)))), ((a 39), .inl (g 1, 12, .inr (.inl (fun _ => 0)))), ((a 1), f_net a), ((a 2), f_book a)] s.heap.size q := Anw
  have hAz : ∀ q, va_A [((a 0), f_x a), ((a 8), f_chip a), ((a 3), f_rows a), ((a 4), f_words a), ((a 38), .inl (g 1, 12, .inr (.inl (fun _ => 0)))), ((a 39), .inl (g 1, 12, .inr (.inl (fun _ => 0)))), ((a 1), f_net a), ((a 2), f_book a)] s.heap.size q → z0 ≤ q := Awz hz hD0
  have hS : va_S (va_A [((a 0), f_x a), ((a 8), f_chip a), ((a 3), f_rows a), ((a 4), f_words a), ((a 38), .inl (g 1, 12, .inr (.inl (fun _ => 0)))), ((a 39), .inl (g 1, 12, .inr (.inl (fun _ => 0)))), ((a 1), f_net a), ((a 2), f_book a)] s.heap.size) s.heap s.heap [] := va_S.rf
  have hD : va_D (va_A [((a 0), f_x a), ((a 8), f_chip a), ((a 3), f_rows a), ((a 4), f_words a), ((a 38), .inl (g 1, 12, .inr (.inl (fun _ => 0)))), ((a 39), .inl (g 1, 12, .inr (.inl (fun _ => 0)))), ((a 1), f_net a), ((a 2), f_book a)] s.heap.size) [((a 0), f_x a), ((a 8), f_chip a), ((a 3), f_rows a), ((a 4), f_words a), ((a 38), .inl (g 1, 12, .inr (.inl (fun _ => 0)))), ((a 39), .inl (g 1, 12, .inr (.inl (fun _ => 0)))), ((a 1), f_net a), ((a 2), f_book a)] := hD0.self
  have hP : va_P D vwCl [((a 0), f_x a), ((a 8), f_chip a), ((a 3), f_rows a), ((a 4), f_words a), ((a 38), .inl (g 1, 12, .inr (.inl (fun _ => 0)))), ((a 39), .inl (g 1, 12, .inr (.inl (fun _ => 0)))), ((a 1), f_net a), ((a 2), f_book a)] s.heap := hP0
  have hl : lv_has ls 2 [(0, .ref (a 0))] := hl
  refine lv_aload_n hx hb dX11_record_0 rfl (lv_at hl 0 rfl) ?_
  refine va_get (D := D) (ci := 17) (v := .ref (a 8)) (C := RX11) (T := TX11) (N := 11) hx hb ht in_X11 hown hK.1 hP 0 rfl rfl 7 (by decide) (ht _ w_86) (fun _ h9 => h9) rfl dX11_record_1 ?_
  have hPc : va_P D vwCl [((a 8), f_chip a), ((a 3), f_rows a), ((a 4), f_words a), ((a 38), .inl (g 1, 12, .inr (.inl (fun _ => 0)))), ((a 39), .inl (g 1, 12, .inr (.inl (fun _ => 0)))), ((a 1), f_net a), ((a 2), f_book a)] _ := hP.sub (ws' := [((a 8), f_chip a), ((a 3), f_rows a), ((a 4), f_words a), ((a 38), .inl (g 1, 12, .inr (.inl (fun _ => 0)))), ((a 39), .inl (g 1, 12, .inr (.inl (fun _ => 0)))), ((a 1), f_net a), ((a 2), f_book a)]) [1, 2, 3, 4, 5, 6, 7] rfl
  have hDc : va_D (fun q => z0 ≤ q) [((a 8), f_chip a), ((a 3), f_rows a), ((a 4), f_words a), ((a 38), .inl (g 1, 12, .inr (.inl (fun _ => 0)))), ((a 39), .inl (g 1, 12, .inr (.inl (fun _ => 0)))), ((a 1), f_net a), ((a 2), f_book a)] := (hD.to hAz).pick (ws' := [((a 8), f_chip a), ((a 3), f_rows a), ((a 4), f_words a), ((a 38), .inl (g 1, 12, .inr (.inl (fun _ => 0)))), ((a 39), .inl (g 1, 12, .inr (.inl (fun _ => 0)))), ((a 1), f_net a), ((a 2), f_book a)]) [1, 2, 3, 4, 5, 6, 7] (by decide) rfl
  have hFc := va_free (wc := [((a 8), f_chip a), ((a 3), f_rows a), ((a 4), f_words a), ((a 38), .inl (g 1, 12, .inr (.inl (fun _ => 0)))), ((a 39), .inl (g 1, 12, .inr (.inl (fun _ => 0)))), ((a 1), f_net a), ((a 2), f_book a)]) hD hS hA [1, 2, 3, 4, 5, 6, 7] rfl
  refine va_callv (va_runV (As := []) (rest := []) ⟨hx, hb, hml, hown, ht⟩ (k_X1_compareAll l D g z0 _ a) (cwV 0 ht (gV w_111 w_113 w_114 w_108 w_112) rfl rfl rfl (by decide +kernel) (le2 rfl rfl)) ⟨PP.blind, va_recv hK.1 hP (ci := 7) (q0 := 1) rfl rfl, PP.mk' hK hZ hz hAz hS hPc hDc⟩ rfl rfl hl.1 rfl (lv_room (Nat.le_of_ble_eq_true rfl)) dX11_record_4 (le2 rfl rfl)) hS (fun q _ h => hFc q h) hFc (fun u t H locs ht1 hvm hw hB hz1 hk1 hS => ?_)
  obtain ⟨hP1, hD1⟩ := hB
  rw [ht1] at hP1
  obtain ⟨hP, hD⟩ := va_join (wr := [((a 0), f_x a)]) (w1 := [((a 8), f_chip a), ((a 3), f_rows a), ((a 38), .inl (g 1, 12, .inr (.inl (fun _ => 0)))), ((a 39), .inl (g 1, 12, .inr (.inl (fun _ => 0)))), ((a 4), f_words a), ((a 1), f_net a), ((a 2), f_book a)]) hP hD [1, 2, 3, 4, 5, 6, 7] [0] rfl rfl (by decide) (by decide) hk1 hFc hP1 hD1
  have hP : va_P D vwCl [((a 0), f_x a), ((a 8), f_chip a), ((a 3), f_rows a), ((a 38), .inl (g 1, 12, .inr (.inl (fun _ => 0)))), ((a 39), .inl (g 1, 12, .inr (.inl (fun _ => 0)))), ((a 4), f_words a), ((a 1), f_net a), ((a 2), f_book a)] H := hP
  have hD : va_D (va_A [((a 0), f_x a), ((a 8), f_chip a), ((a 3), f_rows a), ((a 4), f_words a), ((a 38), .inl (g 1, 12, .inr (.inl (fun _ => 0)))), ((a 39), .inl (g 1, 12, .inr (.inl (fun _ => 0)))), ((a 1), f_net a), ((a 2), f_book a)] s.heap.size) [((a 0), f_x a), ((a 8), f_chip a), ((a 3), f_rows a), ((a 38), .inl (g 1, 12, .inr (.inl (fun _ => 0)))), ((a 39), .inl (g 1, 12, .inr (.inl (fun _ => 0)))), ((a 4), f_words a), ((a 1), f_net a), ((a 2), f_book a)] := hD
  refine lv_aload_n hx hb dX11_record_7 rfl (lv_at hl 0 rfl) ?_
  refine va_get (D := D) (ci := 17) (v := .ref (a 8)) (C := RX11) (T := TX11) (N := 11) hx hb ht in_X11 hown hK.1 hP 0 rfl rfl 7 (by decide) (ht _ w_86) (fun _ h9 => h9) rfl dX11_record_8 ?_
  refine lv_iconst (v := 0) hx hb dX11_record_11 (by decide) ?_
  have hPc : va_P D vwCl [((a 8), f_chip a), ((a 2), f_book a)] _ := hP.sub (ws' := [((a 8), f_chip a), ((a 2), f_book a)]) [1, 7] rfl
  have hDc : va_D (fun q => z0 ≤ q) [((a 8), f_chip a), ((a 2), f_book a)] := (hD.to hAz).pick (ws' := [((a 8), f_chip a), ((a 2), f_book a)]) [1, 7] (by decide) rfl
  have hFc := AnA (ws := [((a 0), f_x a), ((a 8), f_chip a), ((a 3), f_rows a), ((a 4), f_words a), ((a 38), .inl (g 1, 12, .inr (.inl (fun _ => 0)))), ((a 39), .inl (g 1, 12, .inr (.inl (fun _ => 0)))), ((a 1), f_net a), ((a 2), f_book a)]) hS.1
  refine va_calli (va_runV (As := [.int 0]) (rest := []) ⟨hx, hb, hml, hown, ht⟩ (k_X1_candidateAt l D g z0 _ a 0) (cwV 1 ht (gV w_115 w_117 w_118 w_108 w_116) rfl rfl rfl (by decide +kernel) (le2 rfl rfl)) ⟨PP.blind, va_recv hK.1 hP (ci := 7) (q0 := 1) rfl rfl, PP.mk' hK hZ hz hAz hS hPc hDc⟩ rfl rfl hl.1 rfl (lv_room (Nat.le_of_ble_eq_true rfl)) dX11_record_12 (le2 rfl rfl)) hS (fun q _ h => hFc q h) hFc (fun r u t H locs ht1 hvm hw hB hz1 hk1 hS => ?_)
  obtain ⟨rfl, hw⟩ := hw
  have hP := ro1 hP hk1
  refine lv_istore_n (lv' := [(1, .int (-1)), (0, .ref (a 0))]) hx hb dX11_record_15 rfl hl (by decide) rfl (fun ls hl => ?_)
  refine lv_iload_n hx hb dX11_record_16 rfl (lv_at hl 0 rfl) ?_
  refine lv_if_ge (tgt := 28) hx hb dX11_record_17 (by decide) (fun c_1 => ?_) (fun c_1 => ?_)
  · exact absurd c_1 (by decide)
  · exact thr0 hx hb hfl hown ht hK.2.2 hZ hAz hS hl hml htab hlocks (by decide +kernel) w_119 w_120 at_X11_312 dX11_record_20 dX11_record_23 dX11_record_24 dX11_record_27 rfl rfl rfl rfl (fun t _ hF => ⟨(), trivial, ⟨rfl, trivial⟩, hF⟩) (fun _ h => h) rfl rfl
set_option maxHeartbeats 4000000 in
set_option maxRecDepth 100000 in
theorem k_J6_bitCount_0f7a4 (l : Launch) (D : va_G) (g : Nat → ClassId) (z0 sz : Nat) (a : Nat → Nat) (p0 : Int32) : Met l yJ6_bitCount_0f7a4 (.code yJ6_bitCount_0f7a4 cJ6_bitCount_0f7a4 1 (some .int) :: TG) (rmk 0 0 0 0) (va_Pc [.int p0] (PP D g z0 sz [])) (va_Qi (fun (r : Int32) (u : Unit) => (r = zBits p0) ∧ True) (fun (_ : Unit) (_ : State) => True) (va_A [] sz)) 0 0 (va_A [] sz) := by
  refine met0 (cc := cJ6_bitCount_0f7a4) (n := 1) (by decide) (Nat.le_of_ble_eq_true rfl) ?_
  intro p e s m args below meth c hx hb hr hml hown ht hlocks hnm hP0 hD0 hK hZ hsz hz ls hl
  subst hsz
  have hA : ∀ q : Nat, s.heap.size ≤ q → va_A [] s.heap.size q := Anw
  have hAz : ∀ q, va_A [] s.heap.size q → z0 ≤ q := A0z hz
  have hS : va_S (va_A [] s.heap.size) s.heap s.heap [] := va_S.rf
  have hl : lv_has ls 1 [(0, .int p0)] := hl
  refine lv_iload_n hx hb dJ6_bitCount_0f7a4_0 rfl (lv_at hl 0 rfl) ?_
  refine lv_iload_n hx hb dJ6_bitCount_0f7a4_1 rfl (lv_at hl 0 rfl) ?_
  refine lv_iconst (v := 1) hx hb dJ6_bitCount_0f7a4_2 (by decide) ?_
  refine lv_iushr (v := (p0.toUInt32 >>> ((1 : Int32).toUInt32 &&& Int32.toUInt32 31)).toInt32) hx hb dJ6_bitCount_0f7a4_3 rfl ?_
  refine lv_ldcw (v := 1431655765) hx hb hown (ht _ w_275) dJ6_bitCount_0f7a4_4 ?_
  refine lv_iand hx hb dJ6_bitCount_0f7a4_7 ?_
  refine lv_isub hx hb dJ6_bitCount_0f7a4_8 ?_
  refine lv_istore_n (lv' := [(0, .int (p0 - (((p0.toUInt32 >>> ((1 : Int32).toUInt32 &&& Int32.toUInt32 31)).toInt32) &&& 1431655765)))]) hx hb dJ6_bitCount_0f7a4_9 rfl hl (by decide) rfl (fun ls hl => ?_)
  refine lv_iload_n hx hb dJ6_bitCount_0f7a4_10 rfl (lv_at hl 0 rfl) ?_
  refine lv_ldcw (v := 858993459) hx hb hown (ht _ w_276) dJ6_bitCount_0f7a4_11 ?_
  refine lv_iand hx hb dJ6_bitCount_0f7a4_14 ?_
  refine lv_iload_n hx hb dJ6_bitCount_0f7a4_15 rfl (lv_at hl 0 rfl) ?_
  refine lv_iconst (v := 2) hx hb dJ6_bitCount_0f7a4_16 (by decide) ?_
  refine lv_iushr (v := ((p0 - (((p0.toUInt32 >>> ((1 : Int32).toUInt32 &&& Int32.toUInt32 31)).toInt32) &&& 1431655765)).toUInt32 >>> ((2 : Int32).toUInt32 &&& Int32.toUInt32 31)).toInt32) hx hb dJ6_bitCount_0f7a4_17 rfl ?_
  refine lv_ldcw (v := 858993459) hx hb hown (ht _ w_276) dJ6_bitCount_0f7a4_18 ?_
  refine lv_iand hx hb dJ6_bitCount_0f7a4_21 ?_
  refine lv_iadd hx hb dJ6_bitCount_0f7a4_22 ?_
  refine lv_istore_n (lv' := [(0, .int (((p0 - (((p0.toUInt32 >>> ((1 : Int32).toUInt32 &&& Int32.toUInt32 31)).toInt32) &&& 1431655765)) &&& 858993459) + ((((p0 - (((p0.toUInt32 >>> ((1 : Int32).toUInt32 &&& Int32.toUInt32 31)).toInt32) &&& 1431655765)).toUInt32 >>> ((2 : Int32).toUInt32 &&& Int32.toUInt32 31)).toInt32) &&& 858993459)))]) hx hb dJ6_bitCount_0f7a4_23 rfl hl (by decide) rfl (fun ls hl => ?_)
  refine lv_iload_n hx hb dJ6_bitCount_0f7a4_24 rfl (lv_at hl 0 rfl) ?_
  refine lv_iload_n hx hb dJ6_bitCount_0f7a4_25 rfl (lv_at hl 0 rfl) ?_
  refine lv_iconst (v := 4) hx hb dJ6_bitCount_0f7a4_26 (by decide) ?_
  refine lv_iushr (v := ((((p0 - (((p0.toUInt32 >>> ((1 : Int32).toUInt32 &&& Int32.toUInt32 31)).toInt32) &&& 1431655765)) &&& 858993459) + ((((p0 - (((p0.toUInt32 >>> ((1 : Int32).toUInt32 &&& Int32.toUInt32 31)).toInt32) &&& 1431655765)).toUInt32 >>> ((2 : Int32).toUInt32 &&& Int32.toUInt32 31)).toInt32) &&& 858993459)).toUInt32 >>> ((4 : Int32).toUInt32 &&& Int32.toUInt32 31)).toInt32) hx hb dJ6_bitCount_0f7a4_27 rfl ?_
  refine lv_iadd hx hb dJ6_bitCount_0f7a4_28 ?_
  refine lv_ldcw (v := 252645135) hx hb hown (ht _ w_277) dJ6_bitCount_0f7a4_29 ?_
  refine lv_iand hx hb dJ6_bitCount_0f7a4_32 ?_
  refine lv_istore_n (lv' := [(0, .int (((((p0 - (((p0.toUInt32 >>> ((1 : Int32).toUInt32 &&& Int32.toUInt32 31)).toInt32) &&& 1431655765)) &&& 858993459) + ((((p0 - (((p0.toUInt32 >>> ((1 : Int32).toUInt32 &&& Int32.toUInt32 31)).toInt32) &&& 1431655765)).toUInt32 >>> ((2 : Int32).toUInt32 &&& Int32.toUInt32 31)).toInt32) &&& 858993459)) + (((((p0 - (((p0.toUInt32 >>> ((1 : Int32).toUInt32 &&& Int32.toUInt32 31)).toInt32) &&& 1431655765)) &&& 858993459) + ((((p0 - (((p0.toUInt32 >>> ((1 : Int32).toUInt32 &&& Int32.toUInt32 31)).toInt32) &&& 1431655765)).toUInt32 >>> ((2 : Int32).toUInt32 &&& Int32.toUInt32 31)).toInt32) &&& 858993459)).toUInt32 >>> ((4 : Int32).toUInt32 &&& Int32.toUInt32 31)).toInt32)) &&& 252645135))]) hx hb dJ6_bitCount_0f7a4_33 rfl hl (by decide) rfl (fun ls hl => ?_)
  refine lv_iload_n hx hb dJ6_bitCount_0f7a4_34 rfl (lv_at hl 0 rfl) ?_
  refine lv_iload_n hx hb dJ6_bitCount_0f7a4_35 rfl (lv_at hl 0 rfl) ?_
  refine lv_bipush (v := 8) hx hb dJ6_bitCount_0f7a4_36 (by decide) ?_
  refine lv_iushr (v := ((((((p0 - (((p0.toUInt32 >>> ((1 : Int32).toUInt32 &&& Int32.toUInt32 31)).toInt32) &&& 1431655765)) &&& 858993459) + ((((p0 - (((p0.toUInt32 >>> ((1 : Int32).toUInt32 &&& Int32.toUInt32 31)).toInt32) &&& 1431655765)).toUInt32 >>> ((2 : Int32).toUInt32 &&& Int32.toUInt32 31)).toInt32) &&& 858993459)) + (((((p0 - (((p0.toUInt32 >>> ((1 : Int32).toUInt32 &&& Int32.toUInt32 31)).toInt32) &&& 1431655765)) &&& 858993459) + ((((p0 - (((p0.toUInt32 >>> ((1 : Int32).toUInt32 &&& Int32.toUInt32 31)).toInt32) &&& 1431655765)).toUInt32 >>> ((2 : Int32).toUInt32 &&& Int32.toUInt32 31)).toInt32) &&& 858993459)).toUInt32 >>> ((4 : Int32).toUInt32 &&& Int32.toUInt32 31)).toInt32)) &&& 252645135).toUInt32 >>> ((8 : Int32).toUInt32 &&& Int32.toUInt32 31)).toInt32) hx hb dJ6_bitCount_0f7a4_38 rfl ?_
  refine lv_iadd hx hb dJ6_bitCount_0f7a4_39 ?_
  refine lv_istore_n (lv' := [(0, .int ((((((p0 - (((p0.toUInt32 >>> ((1 : Int32).toUInt32 &&& Int32.toUInt32 31)).toInt32) &&& 1431655765)) &&& 858993459) + ((((p0 - (((p0.toUInt32 >>> ((1 : Int32).toUInt32 &&& Int32.toUInt32 31)).toInt32) &&& 1431655765)).toUInt32 >>> ((2 : Int32).toUInt32 &&& Int32.toUInt32 31)).toInt32) &&& 858993459)) + (((((p0 - (((p0.toUInt32 >>> ((1 : Int32).toUInt32 &&& Int32.toUInt32 31)).toInt32) &&& 1431655765)) &&& 858993459) + ((((p0 - (((p0.toUInt32 >>> ((1 : Int32).toUInt32 &&& Int32.toUInt32 31)).toInt32) &&& 1431655765)).toUInt32 >>> ((2 : Int32).toUInt32 &&& Int32.toUInt32 31)).toInt32) &&& 858993459)).toUInt32 >>> ((4 : Int32).toUInt32 &&& Int32.toUInt32 31)).toInt32)) &&& 252645135) + (((((((p0 - (((p0.toUInt32 >>> ((1 : Int32).toUInt32 &&& Int32.toUInt32 31)).toInt32) &&& 1431655765)) &&& 858993459) + ((((p0 - (((p0.toUInt32 >>> ((1 : Int32).toUInt32 &&& Int32.toUInt32 31)).toInt32) &&& 1431655765)).toUInt32 >>> ((2 : Int32).toUInt32 &&& Int32.toUInt32 31)).toInt32) &&& 858993459)) + (((((p0 - (((p0.toUInt32 >>> ((1 : Int32).toUInt32 &&& Int32.toUInt32 31)).toInt32) &&& 1431655765)) &&& 858993459) + ((((p0 - (((p0.toUInt32 >>> ((1 : Int32).toUInt32 &&& Int32.toUInt32 31)).toInt32) &&& 1431655765)).toUInt32 >>> ((2 : Int32).toUInt32 &&& Int32.toUInt32 31)).toInt32) &&& 858993459)).toUInt32 >>> ((4 : Int32).toUInt32 &&& Int32.toUInt32 31)).toInt32)) &&& 252645135).toUInt32 >>> ((8 : Int32).toUInt32 &&& Int32.toUInt32 31)).toInt32)))]) hx hb dJ6_bitCount_0f7a4_40 rfl hl (by decide) rfl (fun ls hl => ?_)
  refine lv_iload_n hx hb dJ6_bitCount_0f7a4_41 rfl (lv_at hl 0 rfl) ?_
  refine lv_iload_n hx hb dJ6_bitCount_0f7a4_42 rfl (lv_at hl 0 rfl) ?_
  refine lv_bipush (v := 16) hx hb dJ6_bitCount_0f7a4_43 (by decide) ?_
  refine lv_iushr (v := (((((((p0 - (((p0.toUInt32 >>> ((1 : Int32).toUInt32 &&& Int32.toUInt32 31)).toInt32) &&& 1431655765)) &&& 858993459) + ((((p0 - (((p0.toUInt32 >>> ((1 : Int32).toUInt32 &&& Int32.toUInt32 31)).toInt32) &&& 1431655765)).toUInt32 >>> ((2 : Int32).toUInt32 &&& Int32.toUInt32 31)).toInt32) &&& 858993459)) + (((((p0 - (((p0.toUInt32 >>> ((1 : Int32).toUInt32 &&& Int32.toUInt32 31)).toInt32) &&& 1431655765)) &&& 858993459) + ((((p0 - (((p0.toUInt32 >>> ((1 : Int32).toUInt32 &&& Int32.toUInt32 31)).toInt32) &&& 1431655765)).toUInt32 >>> ((2 : Int32).toUInt32 &&& Int32.toUInt32 31)).toInt32) &&& 858993459)).toUInt32 >>> ((4 : Int32).toUInt32 &&& Int32.toUInt32 31)).toInt32)) &&& 252645135) + (((((((p0 - (((p0.toUInt32 >>> ((1 : Int32).toUInt32 &&& Int32.toUInt32 31)).toInt32) &&& 1431655765)) &&& 858993459) + ((((p0 - (((p0.toUInt32 >>> ((1 : Int32).toUInt32 &&& Int32.toUInt32 31)).toInt32) &&& 1431655765)).toUInt32 >>> ((2 : Int32).toUInt32 &&& Int32.toUInt32 31)).toInt32) &&& 858993459)) + (((((p0 - (((p0.toUInt32 >>> ((1 : Int32).toUInt32 &&& Int32.toUInt32 31)).toInt32) &&& 1431655765)) &&& 858993459) + ((((p0 - (((p0.toUInt32 >>> ((1 : Int32).toUInt32 &&& Int32.toUInt32 31)).toInt32) &&& 1431655765)).toUInt32 >>> ((2 : Int32).toUInt32 &&& Int32.toUInt32 31)).toInt32) &&& 858993459)).toUInt32 >>> ((4 : Int32).toUInt32 &&& Int32.toUInt32 31)).toInt32)) &&& 252645135).toUInt32 >>> ((8 : Int32).toUInt32 &&& Int32.toUInt32 31)).toInt32)).toUInt32 >>> ((16 : Int32).toUInt32 &&& Int32.toUInt32 31)).toInt32) hx hb dJ6_bitCount_0f7a4_45 rfl ?_
  refine lv_iadd hx hb dJ6_bitCount_0f7a4_46 ?_
  refine lv_istore_n (lv' := [(0, .int (((((((p0 - (((p0.toUInt32 >>> ((1 : Int32).toUInt32 &&& Int32.toUInt32 31)).toInt32) &&& 1431655765)) &&& 858993459) + ((((p0 - (((p0.toUInt32 >>> ((1 : Int32).toUInt32 &&& Int32.toUInt32 31)).toInt32) &&& 1431655765)).toUInt32 >>> ((2 : Int32).toUInt32 &&& Int32.toUInt32 31)).toInt32) &&& 858993459)) + (((((p0 - (((p0.toUInt32 >>> ((1 : Int32).toUInt32 &&& Int32.toUInt32 31)).toInt32) &&& 1431655765)) &&& 858993459) + ((((p0 - (((p0.toUInt32 >>> ((1 : Int32).toUInt32 &&& Int32.toUInt32 31)).toInt32) &&& 1431655765)).toUInt32 >>> ((2 : Int32).toUInt32 &&& Int32.toUInt32 31)).toInt32) &&& 858993459)).toUInt32 >>> ((4 : Int32).toUInt32 &&& Int32.toUInt32 31)).toInt32)) &&& 252645135) + (((((((p0 - (((p0.toUInt32 >>> ((1 : Int32).toUInt32 &&& Int32.toUInt32 31)).toInt32) &&& 1431655765)) &&& 858993459) + ((((p0 - (((p0.toUInt32 >>> ((1 : Int32).toUInt32 &&& Int32.toUInt32 31)).toInt32) &&& 1431655765)).toUInt32 >>> ((2 : Int32).toUInt32 &&& Int32.toUInt32 31)).toInt32) &&& 858993459)) + (((((p0 - (((p0.toUInt32 >>> ((1 : Int32).toUInt32 &&& Int32.toUInt32 31)).toInt32) &&& 1431655765)) &&& 858993459) + ((((p0 - (((p0.toUInt32 >>> ((1 : Int32).toUInt32 &&& Int32.toUInt32 31)).toInt32) &&& 1431655765)).toUInt32 >>> ((2 : Int32).toUInt32 &&& Int32.toUInt32 31)).toInt32) &&& 858993459)).toUInt32 >>> ((4 : Int32).toUInt32 &&& Int32.toUInt32 31)).toInt32)) &&& 252645135).toUInt32 >>> ((8 : Int32).toUInt32 &&& Int32.toUInt32 31)).toInt32)) + ((((((((p0 - (((p0.toUInt32 >>> ((1 : Int32).toUInt32 &&& Int32.toUInt32 31)).toInt32) &&& 1431655765)) &&& 858993459) + ((((p0 - (((p0.toUInt32 >>> ((1 : Int32).toUInt32 &&& Int32.toUInt32 31)).toInt32) &&& 1431655765)).toUInt32 >>> ((2 : Int32).toUInt32 &&& Int32.toUInt32 31)).toInt32) &&& 858993459)) + (((((p0 - (((p0.toUInt32 >>> ((1 : Int32).toUInt32 &&& Int32.toUInt32 31)).toInt32) &&& 1431655765)) &&& 858993459) + ((((p0 - (((p0.toUInt32 >>> ((1 : Int32).toUInt32 &&& Int32.toUInt32 31)).toInt32) &&& 1431655765)).toUInt32 >>> ((2 : Int32).toUInt32 &&& Int32.toUInt32 31)).toInt32) &&& 858993459)).toUInt32 >>> ((4 : Int32).toUInt32 &&& Int32.toUInt32 31)).toInt32)) &&& 252645135) + (((((((p0 - (((p0.toUInt32 >>> ((1 : Int32).toUInt32 &&& Int32.toUInt32 31)).toInt32) &&& 1431655765)) &&& 858993459) + ((((p0 - (((p0.toUInt32 >>> ((1 : Int32).toUInt32 &&& Int32.toUInt32 31)).toInt32) &&& 1431655765)).toUInt32 >>> ((2 : Int32).toUInt32 &&& Int32.toUInt32 31)).toInt32) &&& 858993459)) + (((((p0 - (((p0.toUInt32 >>> ((1 : Int32).toUInt32 &&& Int32.toUInt32 31)).toInt32) &&& 1431655765)) &&& 858993459) + ((((p0 - (((p0.toUInt32 >>> ((1 : Int32).toUInt32 &&& Int32.toUInt32 31)).toInt32) &&& 1431655765)).toUInt32 >>> ((2 : Int32).toUInt32 &&& Int32.toUInt32 31)).toInt32) &&& 858993459)).toUInt32 >>> ((4 : Int32).toUInt32 &&& Int32.toUInt32 31)).toInt32)) &&& 252645135).toUInt32 >>> ((8 : Int32).toUInt32 &&& Int32.toUInt32 31)).toInt32)).toUInt32 >>> ((16 : Int32).toUInt32 &&& Int32.toUInt32 31)).toInt32)))]) hx hb dJ6_bitCount_0f7a4_47 rfl hl (by decide) rfl (fun ls hl => ?_)
  refine lv_iload_n hx hb dJ6_bitCount_0f7a4_48 rfl (lv_at hl 0 rfl) ?_
  refine lv_bipush (v := 63) hx hb dJ6_bitCount_0f7a4_49 (by decide) ?_
  refine lv_iand hx hb dJ6_bitCount_0f7a4_51 ?_
  refine W.widen (k := 0) (n := 0) (Nat.le_of_ble_eq_true rfl) (Nat.le_of_ble_eq_true rfl) ?_
  exact W.iret (v := ((((((((p0 - (((p0.toUInt32 >>> ((1 : Int32).toUInt32 &&& Int32.toUInt32 31)).toInt32) &&& 1431655765)) &&& 858993459) + ((((p0 - (((p0.toUInt32 >>> ((1 : Int32).toUInt32 &&& Int32.toUInt32 31)).toInt32) &&& 1431655765)).toUInt32 >>> ((2 : Int32).toUInt32 &&& Int32.toUInt32 31)).toInt32) &&& 858993459)) + (((((p0 - (((p0.toUInt32 >>> ((1 : Int32).toUInt32 &&& Int32.toUInt32 31)).toInt32) &&& 1431655765)) &&& 858993459) + ((((p0 - (((p0.toUInt32 >>> ((1 : Int32).toUInt32 &&& Int32.toUInt32 31)).toInt32) &&& 1431655765)).toUInt32 >>> ((2 : Int32).toUInt32 &&& Int32.toUInt32 31)).toInt32) &&& 858993459)).toUInt32 >>> ((4 : Int32).toUInt32 &&& Int32.toUInt32 31)).toInt32)) &&& 252645135) + (((((((p0 - (((p0.toUInt32 >>> ((1 : Int32).toUInt32 &&& Int32.toUInt32 31)).toInt32) &&& 1431655765)) &&& 858993459) + ((((p0 - (((p0.toUInt32 >>> ((1 : Int32).toUInt32 &&& Int32.toUInt32 31)).toInt32) &&& 1431655765)).toUInt32 >>> ((2 : Int32).toUInt32 &&& Int32.toUInt32 31)).toInt32) &&& 858993459)) + (((((p0 - (((p0.toUInt32 >>> ((1 : Int32).toUInt32 &&& Int32.toUInt32 31)).toInt32) &&& 1431655765)) &&& 858993459) + ((((p0 - (((p0.toUInt32 >>> ((1 : Int32).toUInt32 &&& Int32.toUInt32 31)).toInt32) &&& 1431655765)).toUInt32 >>> ((2 : Int32).toUInt32 &&& Int32.toUInt32 31)).toInt32) &&& 858993459)).toUInt32 >>> ((4 : Int32).toUInt32 &&& Int32.toUInt32 31)).toInt32)) &&& 252645135).toUInt32 >>> ((8 : Int32).toUInt32 &&& Int32.toUInt32 31)).toInt32)) + ((((((((p0 - (((p0.toUInt32 >>> ((1 : Int32).toUInt32 &&& Int32.toUInt32 31)).toInt32) &&& 1431655765)) &&& 858993459) + ((((p0 - (((p0.toUInt32 >>> ((1 : Int32).toUInt32 &&& Int32.toUInt32 31)).toInt32) &&& 1431655765)).toUInt32 >>> ((2 : Int32).toUInt32 &&& Int32.toUInt32 31)).toInt32) &&& 858993459)) + (((((p0 - (((p0.toUInt32 >>> ((1 : Int32).toUInt32 &&& Int32.toUInt32 31)).toInt32) &&& 1431655765)) &&& 858993459) + ((((p0 - (((p0.toUInt32 >>> ((1 : Int32).toUInt32 &&& Int32.toUInt32 31)).toInt32) &&& 1431655765)).toUInt32 >>> ((2 : Int32).toUInt32 &&& Int32.toUInt32 31)).toInt32) &&& 858993459)).toUInt32 >>> ((4 : Int32).toUInt32 &&& Int32.toUInt32 31)).toInt32)) &&& 252645135) + (((((((p0 - (((p0.toUInt32 >>> ((1 : Int32).toUInt32 &&& Int32.toUInt32 31)).toInt32) &&& 1431655765)) &&& 858993459) + ((((p0 - (((p0.toUInt32 >>> ((1 : Int32).toUInt32 &&& Int32.toUInt32 31)).toInt32) &&& 1431655765)).toUInt32 >>> ((2 : Int32).toUInt32 &&& Int32.toUInt32 31)).toInt32) &&& 858993459)) + (((((p0 - (((p0.toUInt32 >>> ((1 : Int32).toUInt32 &&& Int32.toUInt32 31)).toInt32) &&& 1431655765)) &&& 858993459) + ((((p0 - (((p0.toUInt32 >>> ((1 : Int32).toUInt32 &&& Int32.toUInt32 31)).toInt32) &&& 1431655765)).toUInt32 >>> ((2 : Int32).toUInt32 &&& Int32.toUInt32 31)).toInt32) &&& 858993459)).toUInt32 >>> ((4 : Int32).toUInt32 &&& Int32.toUInt32 31)).toInt32)) &&& 252645135).toUInt32 >>> ((8 : Int32).toUInt32 &&& Int32.toUInt32 31)).toInt32)).toUInt32 >>> ((16 : Int32).toUInt32 &&& Int32.toUInt32 31)).toInt32)) &&& 63)) hx hb hr (fun t ht9 hW9 => ⟨⟨(((((((p0 - (((p0.toUInt32 >>> ((1 : Int32).toUInt32 &&& Int32.toUInt32 31)).toInt32) &&& 1431655765)) &&& 858993459) + ((((p0 - (((p0.toUInt32 >>> ((1 : Int32).toUInt32 &&& Int32.toUInt32 31)).toInt32) &&& 1431655765)).toUInt32 >>> ((2 : Int32).toUInt32 &&& Int32.toUInt32 31)).toInt32) &&& 858993459)) + (((((p0 - (((p0.toUInt32 >>> ((1 : Int32).toUInt32 &&& Int32.toUInt32 31)).toInt32) &&& 1431655765)) &&& 858993459) + ((((p0 - (((p0.toUInt32 >>> ((1 : Int32).toUInt32 &&& Int32.toUInt32 31)).toInt32) &&& 1431655765)).toUInt32 >>> ((2 : Int32).toUInt32 &&& Int32.toUInt32 31)).toInt32) &&& 858993459)).toUInt32 >>> ((4 : Int32).toUInt32 &&& Int32.toUInt32 31)).toInt32)) &&& 252645135) + (((((((p0 - (((p0.toUInt32 >>> ((1 : Int32).toUInt32 &&& Int32.toUInt32 31)).toInt32) &&& 1431655765)) &&& 858993459) + ((((p0 - (((p0.toUInt32 >>> ((1 : Int32).toUInt32 &&& Int32.toUInt32 31)).toInt32) &&& 1431655765)).toUInt32 >>> ((2 : Int32).toUInt32 &&& Int32.toUInt32 31)).toInt32) &&& 858993459)) + (((((p0 - (((p0.toUInt32 >>> ((1 : Int32).toUInt32 &&& Int32.toUInt32 31)).toInt32) &&& 1431655765)) &&& 858993459) + ((((p0 - (((p0.toUInt32 >>> ((1 : Int32).toUInt32 &&& Int32.toUInt32 31)).toInt32) &&& 1431655765)).toUInt32 >>> ((2 : Int32).toUInt32 &&& Int32.toUInt32 31)).toInt32) &&& 858993459)).toUInt32 >>> ((4 : Int32).toUInt32 &&& Int32.toUInt32 31)).toInt32)) &&& 252645135).toUInt32 >>> ((8 : Int32).toUInt32 &&& Int32.toUInt32 31)).toInt32)) + ((((((((p0 - (((p0.toUInt32 >>> ((1 : Int32).toUInt32 &&& Int32.toUInt32 31)).toInt32) &&& 1431655765)) &&& 858993459) + ((((p0 - (((p0.toUInt32 >>> ((1 : Int32).toUInt32 &&& Int32.toUInt32 31)).toInt32) &&& 1431655765)).toUInt32 >>> ((2 : Int32).toUInt32 &&& Int32.toUInt32 31)).toInt32) &&& 858993459)) + (((((p0 - (((p0.toUInt32 >>> ((1 : Int32).toUInt32 &&& Int32.toUInt32 31)).toInt32) &&& 1431655765)) &&& 858993459) + ((((p0 - (((p0.toUInt32 >>> ((1 : Int32).toUInt32 &&& Int32.toUInt32 31)).toInt32) &&& 1431655765)).toUInt32 >>> ((2 : Int32).toUInt32 &&& Int32.toUInt32 31)).toInt32) &&& 858993459)).toUInt32 >>> ((4 : Int32).toUInt32 &&& Int32.toUInt32 31)).toInt32)) &&& 252645135) + (((((((p0 - (((p0.toUInt32 >>> ((1 : Int32).toUInt32 &&& Int32.toUInt32 31)).toInt32) &&& 1431655765)) &&& 858993459) + ((((p0 - (((p0.toUInt32 >>> ((1 : Int32).toUInt32 &&& Int32.toUInt32 31)).toInt32) &&& 1431655765)).toUInt32 >>> ((2 : Int32).toUInt32 &&& Int32.toUInt32 31)).toInt32) &&& 858993459)) + (((((p0 - (((p0.toUInt32 >>> ((1 : Int32).toUInt32 &&& Int32.toUInt32 31)).toInt32) &&& 1431655765)) &&& 858993459) + ((((p0 - (((p0.toUInt32 >>> ((1 : Int32).toUInt32 &&& Int32.toUInt32 31)).toInt32) &&& 1431655765)).toUInt32 >>> ((2 : Int32).toUInt32 &&& Int32.toUInt32 31)).toInt32) &&& 858993459)).toUInt32 >>> ((4 : Int32).toUInt32 &&& Int32.toUInt32 31)).toInt32)) &&& 252645135).toUInt32 >>> ((8 : Int32).toUInt32 &&& Int32.toUInt32 31)).toInt32)).toUInt32 >>> ((16 : Int32).toUInt32 &&& Int32.toUInt32 31)).toInt32)) &&& 63, (), rfl, ⟨rfl, trivial⟩, trivial⟩, hS.F ht9⟩) hS.2.2 dJ6_bitCount_0f7a4_52 hlocks
set_option maxHeartbeats 4000000 in
set_option maxRecDepth 100000 in
theorem k_X5_columnsLeft (l : Launch) (D : va_G) (g : Nat → ClassId) (z0 sz : Nat) (a : Nat → Nat) (p0 : Int32) : Met l yX5_columnsLeft (.code yX5_columnsLeft cX5_columnsLeft 4 (some .int) :: TG) (rmk 0 0 0 0) (va_Pc [.ref (a 9), .int p0] (PP D g z0 sz [((a 9), f_memory a), ((a 60), .inl (g 0, 8, .inl (fun _ => 0)))])) (va_Qi (fun (r : Int32) (u : Unit) => (r = 0) ∧ True) (fun (_ : Unit) (_ : State) => True) (va_A [] sz)) 0 0 (va_A [] sz) := by
  refine met0 (cc := cX5_columnsLeft) (n := 4) (by decide) (Nat.le_of_ble_eq_true rfl) ?_
  intro p e s m args below meth c hx hb hr hml hown ht hlocks hnm hP0 hD0 hK hZ hsz hz ls hl
  subst hsz
  have hA : ∀ q : Nat, s.heap.size ≤ q → va_A [] s.heap.size q := Anw
  have hAz : ∀ q, va_A [] s.heap.size q → z0 ≤ q := A0z hz
  have hS : va_S (va_A [] s.heap.size) s.heap s.heap [] := va_S.rf
  have hl : lv_has ls 4 [(0, .ref (a 9)), (1, .int p0)] := hl
  refine lv_iconst (v := 0) hx hb dX5_columnsLeft_0 (by decide) ?_
  refine lv_istore_n (lv' := [(2, .int 0), (0, .ref (a 9)), (1, .int p0)]) hx hb dX5_columnsLeft_1 rfl hl (by decide) rfl (fun ls hl => ?_)
  refine lv_iconst (v := 0) hx hb dX5_columnsLeft_2 (by decide) ?_
  refine lv_istore_n (lv' := [(3, .int 0), (2, .int 0), (0, .ref (a 9)), (1, .int p0)]) hx hb dX5_columnsLeft_3 rfl hl (by decide) rfl (fun ls hl => ?_)
  have loop : ∀ (k i : Nat), 8 = i + k → ∀ (H : Heap) (locs : List Loc), va_S (va_A [] s.heap.size) s.heap H locs → ∀ (ls : Array Slot), lv_has ls 4 [(3, .int (nI i)), (2, .int 0), (0, .ref (a 9)), (1, .int p0)] → W p l e (rmk 0 0 0 0) s m args below meth c H locs 0 0 (MQ below (va_Qi (fun (r : Int32) (u : Unit) => (r = 0) ∧ True) (fun (_ : Unit) (_ : State) => True) (va_A [] s.heap.size)) args s 0 0 (va_A [] s.heap.size)) (F0 m 4 ls []) := by
    intro k
    induction k with
    | zero =>
      intro i hi H locs hS ls hl
      have hi0 : i = 8 := by omega
      refine lv_iload_n hx hb dX5_columnsLeft_4 rfl (lv_at hl 0 rfl) ?_
      refine lv_bipush (v := 8) hx hb dX5_columnsLeft_5 (by decide) ?_
      refine lv_icmp_ge (tgt := 33) hx hb dX5_columnsLeft_7 (by decide) (fun c_1 => ?_) (fun c_1 => absurd (by rw [hi0]; decide) c_1)
      refine lv_iload_n hx hb dX5_columnsLeft_33 rfl (lv_at hl 1 rfl) ?_
      refine W.widen (k := 0) (n := 0) (Nat.le_of_ble_eq_true rfl) (Nat.le_of_ble_eq_true rfl) ?_
      exact W.iret (v := 0) hx hb hr (fun t ht9 hW9 => ⟨⟨0, (), rfl, ⟨rfl, trivial⟩, trivial⟩, hS.F ht9⟩) hS.2.2 dX5_columnsLeft_34 hlocks
    | succ k ih =>
      intro i hi H locs hS ls hl
      have hlt : i < 8 := by omega
      refine lv_iload_n hx hb dX5_columnsLeft_4 rfl (lv_at hl 0 rfl) ?_
      refine lv_bipush (v := 8) hx hb dX5_columnsLeft_5 (by decide) ?_
      refine lv_icmp_ge (tgt := 33) hx hb dX5_columnsLeft_7 (by decide) (fun c_2 => absurd c_2 (nI_ge hlt (by decide))) (fun c_2 => ?_)
      refine lv_iload_n hx hb dX5_columnsLeft_10 rfl (lv_at hl 3 rfl) ?_
      refine lv_iload_n hx hb dX5_columnsLeft_11 rfl (lv_at hl 0 rfl) ?_
      refine lv_ishr hx hb dX5_columnsLeft_12 ?_
      refine lv_iconst (v := 1) hx hb dX5_columnsLeft_13 (by decide) ?_
      refine lv_iand hx hb dX5_columnsLeft_14 ?_
      refine lv_if_ne (tgt := 27) hx hb dX5_columnsLeft_15 (by decide) (fun c_3 => ?_) (fun c_3 => ?_)
      · refine lv_iinc (v := nI (i + 1)) (lv' := [(3, .int (nI (i + 1))), (2, .int 0), (0, .ref (a 9)), (1, .int p0)]) hx hb dX5_columnsLeft_27 hl (k := 0) rfl (nI_1 i) (by decide) rfl (fun ls hl => ?_)
        refine lv_goto (tgt := 4) hx hb dX5_columnsLeft_30 (by decide) ?_
        exact ih (i + 1) (by omega) H locs hS ls (lv_sub hl [0, 1, 2, 3] rfl)
      · refine lv_iload_n hx hb dX5_columnsLeft_18 rfl (lv_at hl 1 rfl) ?_
        refine lv_aload_n hx hb dX5_columnsLeft_19 rfl (lv_at hl 2 rfl) ?_
        refine va_get (D := D) (ci := 11) (v := .ref (a 60)) (C := RX5) (T := TX5) (N := 9) hx hb ht in_X5 hown hK.1 (ro0 hP0 hS) 0 rfl rfl 1 (by decide) (ht _ w_42) (fun _ h9 => h9) rfl dX5_columnsLeft_20 ?_
        refine lv_iload_n hx hb dX5_columnsLeft_23 rfl (lv_at hl 0 rfl) ?_
        refine va_iald hx hb hK.1 (ro0 hP0 hS) 1 0 rfl rfl (vp_in_nI (Nat.lt_of_lt_of_le hlt (by decide)) (by decide)) dX5_columnsLeft_24 ?_
        refine r_topi (v := 0) rfl ?_
        refine lv_ior hx hb dX5_columnsLeft_25 ?_
        refine r_topi (v := 0) (by decide) ?_
        refine lv_istore_n (lv' := [(2, .int 0), (3, .int (nI i)), (0, .ref (a 9)), (1, .int p0)]) hx hb dX5_columnsLeft_26 rfl hl (by decide) rfl (fun ls hl => ?_)
        refine lv_iinc (v := nI (i + 1)) (lv' := [(3, .int (nI (i + 1))), (2, .int 0), (0, .ref (a 9)), (1, .int p0)]) hx hb dX5_columnsLeft_27 hl (k := 1) rfl (nI_1 i) (by decide) rfl (fun ls hl => ?_)
        refine lv_goto (tgt := 4) hx hb dX5_columnsLeft_30 (by decide) ?_
        exact ih (i + 1) (by omega) H locs hS ls (lv_sub hl [0, 1, 2, 3] rfl)
  exact loop 8 - 0 0 (by omega) _ _ hS ls (lv_sub hl [0, 1, 2, 3] rfl)
set_option maxHeartbeats 4000000 in
set_option maxRecDepth 100000 in
theorem k_X5_rowsToSpare (l : Launch) (D : va_G) (g : Nat → ClassId) (z0 sz : Nat) (a : Nat → Nat) (p0 : Int32) (p1 : Int32) (hy0 : ¬ p0 < 0) (hy1 : ¬ p1 < 0) : Met l yX5_rowsToSpare (.code yX5_rowsToSpare cX5_rowsToSpare 8 (some .int) :: TG) (rmk 1 0 0 23) (va_Pc [.ref (a 9), .int p0, .int p1] (PP D g z0 sz [((a 9), f_memory a), ((a 60), .inl (g 0, 8, .inl (fun _ => 0)))])) (va_Qi (fun (r : Int32) (u : Unit) => (r = 0) ∧ True) (fun (_ : Unit) (_ : State) => True) (va_A [] sz)) 0 0 (va_A [] sz) := by
  refine met0 (cc := cX5_rowsToSpare) (n := 8) (by decide) (Nat.le_of_ble_eq_true rfl) ?_
  intro p e s m args below meth c hx hb hr hml hown ht hlocks hnm hP0 hD0 hK hZ hsz hz ls hl
  subst hsz
  have hA : ∀ q : Nat, s.heap.size ≤ q → va_A [] s.heap.size q := Anw
  have hAz : ∀ q, va_A [] s.heap.size q → z0 ≤ q := A0z hz
  have hS : va_S (va_A [] s.heap.size) s.heap s.heap [] := va_S.rf
  have hl : lv_has ls 8 [(0, .ref (a 9)), (1, .int p0), (2, .int p1)] := hl
  refine lv_iconst (v := (-1)) hx hb dX5_rowsToSpare_0 (by decide) ?_
  refine lv_istore_n (lv' := [(3, .int (-1)), (0, .ref (a 9)), (1, .int p0), (2, .int p1)]) hx hb dX5_rowsToSpare_1 rfl hl (by decide) rfl (fun ls hl => ?_)
  refine lv_bipush (v := 17) hx hb dX5_rowsToSpare_2 (by decide) ?_
  refine lv_istore (lv' := [(4, .int 17), (3, .int (-1)), (0, .ref (a 9)), (1, .int p0), (2, .int p1)]) hx hb dX5_rowsToSpare_4 hl (by decide) rfl (fun ls hl => ?_)
  refine lv_iconst (v := 0) hx hb dX5_rowsToSpare_6 (by decide) ?_
  refine lv_istore (lv' := [(5, .int 0), (4, .int 17), (3, .int (-1)), (0, .ref (a 9)), (1, .int p0), (2, .int p1)]) hx hb dX5_rowsToSpare_7 hl (by decide) rfl (fun ls hl => ?_)
  refine lv_iload hx hb dX5_rowsToSpare_9 (lv_at hl 0 rfl) ?_
  refine lv_sipush (v := 256) hx hb dX5_rowsToSpare_11 (by decide) ?_
  refine lv_icmp_ge (tgt := 73) hx hb dX5_rowsToSpare_14 (by decide) (fun c_1 => ?_) (fun c_1 => ?_)
  · exact absurd c_1 (by decide)
  · refine lv_iload hx hb dX5_rowsToSpare_17 (lv_at hl 0 rfl) ?_
    have hPc : va_P D vwCl [] _ := (ro0 hP0 hS).sub (ws' := []) [] rfl
    have hDc : va_D (fun q => z0 ≤ q) [] := hD0.pick (ws' := []) [] (by decide) rfl
    have hFc := AnA (ws := []) hS.1
    refine va_calli (va_runS (As := [.int 0]) (rest := []) ⟨hx, hb, hml, hown, ht⟩ (k_J6_bitCount_0f7a4 l D g z0 _ a 0) (va_cwS 1 ht (gS w_278 w_280 w_281 w_279) rfl rfl rfl (by decide +kernel) (le2 rfl rfl)) ⟨PP.blind, PP.mk' hK hZ hz hAz hS hPc hDc⟩ rfl rfl hl.1 rfl (lv_room (Nat.le_of_ble_eq_true rfl)) dX5_rowsToSpare_19 (le2 rfl rfl)) hS (fun q _ h => hFc q h) hFc (fun r u t H locs ht1 hvm hw hB hz1 hk1 hS => ?_)
    obtain ⟨rfl, hw⟩ := hw
    refine r_topi (v := 0) (by decide +kernel) ?_
    refine lv_istore (lv' := [(6, .int 0), (5, .int 0), (4, .int 17), (3, .int (-1)), (0, .ref (a 9)), (1, .int p0), (2, .int p1)]) hx hb dX5_rowsToSpare_22 hl (by decide) rfl (fun ls hl => ?_)
    refine lv_aload_n hx hb dX5_rowsToSpare_24 rfl (lv_at hl 4 rfl) ?_
    refine lv_iload hx hb dX5_rowsToSpare_25 (lv_at hl 1 rfl) ?_
    have hPc : va_P D vwCl [((a 9), f_memory a), ((a 60), .inl (g 0, 8, .inl (fun _ => 0)))] _ := (ro0 hP0 hS).sub (ws' := [((a 9), f_memory a), ((a 60), .inl (g 0, 8, .inl (fun _ => 0)))]) [0, 1] rfl
    have hDc : va_D (fun q => z0 ≤ q) [((a 9), f_memory a), ((a 60), .inl (g 0, 8, .inl (fun _ => 0)))] := hD0.pick (ws' := [((a 9), f_memory a), ((a 60), .inl (g 0, 8, .inl (fun _ => 0)))]) [0, 1] (by decide) rfl
    have hFc := AnA (ws := []) hS.1
    refine va_calli (va_runV (As := [.int 0]) (rest := []) ⟨hx, hb, hml, hown, ht⟩ (k_X5_columnsLeft l D g z0 _ a 0) (cwV 1 ht (gV w_282 w_284 w_285 w_221 w_283) rfl rfl rfl (by decide +kernel) (le2 rfl rfl)) ⟨PP.blind, va_recv hK.1 (ro0 hP0 hS) (ci := 11) (q0 := 0) rfl rfl, PP.mk' hK hZ hz hAz hS hPc hDc⟩ rfl rfl hl.1 rfl (lv_room (Nat.le_of_ble_eq_true rfl)) dX5_rowsToSpare_27 (le2 rfl rfl)) hS (fun q _ h => hFc q h) hFc (fun r u t H locs ht1 hvm hw hB hz1 hk1 hS => ?_)
    obtain ⟨rfl, hw⟩ := hw
    have hPc : va_P D vwCl [] _ := (ro0 hP0 hS).sub (ws' := []) [] rfl
    have hDc : va_D (fun q => z0 ≤ q) [] := hD0.pick (ws' := []) [] (by decide) rfl
    have hFc := AnA (ws := []) hS.1
    refine va_calli (va_runS (As := [.int 0]) (rest := []) ⟨hx, hb, hml, hown, ht⟩ (k_J6_bitCount_0f7a4 l D g z0 _ a 0) (va_cwS 1 ht (gS w_278 w_280 w_281 w_279) rfl rfl rfl (by decide +kernel) (le2 rfl rfl)) ⟨PP.blind, PP.mk' hK hZ hz hAz hS hPc hDc⟩ rfl rfl hl.1 rfl (lv_room (Nat.le_of_ble_eq_true rfl)) dX5_rowsToSpare_30 (le2 rfl rfl)) hS (fun q _ h => hFc q h) hFc (fun r u t H locs ht1 hvm hw hB hz1 hk1 hS => ?_)
    obtain ⟨rfl, hw⟩ := hw
    refine r_topi (v := 0) (by decide +kernel) ?_
    refine lv_istore (lv' := [(7, .int 0), (6, .int 0), (5, .int 0), (4, .int 17), (3, .int (-1)), (0, .ref (a 9)), (1, .int p0), (2, .int p1)]) hx hb dX5_rowsToSpare_33 hl (by decide) rfl (fun ls hl => ?_)
    refine lv_iload hx hb dX5_rowsToSpare_35 (lv_at hl 1 rfl) ?_
    refine lv_iload_n hx hb dX5_rowsToSpare_37 rfl (lv_at hl 6 rfl) ?_
    refine lv_icmp_gt (tgt := 67) hx hb dX5_rowsToSpare_38 (by decide) (fun c_2 => ?_) (fun c_2 => ?_)
    · exact absurd c_2 hy0
    · refine lv_iload hx hb dX5_rowsToSpare_41 (lv_at hl 0 rfl) ?_
      refine lv_iload_n hx hb dX5_rowsToSpare_43 rfl (lv_at hl 7 rfl) ?_
      refine lv_icmp_gt (tgt := 67) hx hb dX5_rowsToSpare_44 (by decide) (fun c_3 => ?_) (fun c_3 => ?_)
      · exact absurd c_3 hy1
      · refine lv_iload hx hb dX5_rowsToSpare_47 (lv_at hl 1 rfl) ?_
        refine lv_iload hx hb dX5_rowsToSpare_49 (lv_at hl 0 rfl) ?_
        refine lv_iadd hx hb dX5_rowsToSpare_51 ?_
        refine r_topi (v := 0) (by decide) ?_
        refine lv_iload hx hb dX5_rowsToSpare_52 (lv_at hl 3 rfl) ?_
        refine lv_icmp_ge (tgt := 67) hx hb dX5_rowsToSpare_54 (by decide) (fun c_4 => ?_) (fun c_4 => ?_)
        · exact absurd c_4 (by decide)
        · refine lv_iload hx hb dX5_rowsToSpare_57 (lv_at hl 2 rfl) ?_
          refine lv_istore_n (lv' := [(3, .int 0), (7, .int 0), (6, .int 0), (5, .int 0), (4, .int 17), (0, .ref (a 9)), (1, .int p0), (2, .int p1)]) hx hb dX5_rowsToSpare_59 rfl hl (by decide) rfl (fun ls hl => ?_)
          refine lv_iload hx hb dX5_rowsToSpare_60 (lv_at hl 2 rfl) ?_
          refine lv_iload hx hb dX5_rowsToSpare_62 (lv_at hl 1 rfl) ?_
          refine lv_iadd hx hb dX5_rowsToSpare_64 ?_
          refine r_topi (v := 0) (by decide) ?_
          refine lv_istore (lv' := [(4, .int 0), (3, .int 0), (7, .int 0), (6, .int 0), (5, .int 0), (0, .ref (a 9)), (1, .int p0), (2, .int p1)]) hx hb dX5_rowsToSpare_65 hl (by decide) rfl (fun ls hl => ?_)
          refine lv_iinc (v := 1) (lv' := [(5, .int 1), (4, .int 0), (3, .int 0), (7, .int 0), (6, .int 0), (0, .ref (a 9)), (1, .int p0), (2, .int p1)]) hx hb dX5_rowsToSpare_67 hl (k := 4) rfl (by decide) (by decide) rfl (fun ls hl => ?_)
          refine lv_goto (tgt := 9) hx hb dX5_rowsToSpare_70 (by decide) ?_
          have loop : ∀ (k i : Nat), 256 = i + k → ∀ (H : Heap) (locs : List Loc), va_S (va_A [] s.heap.size) s.heap H locs → ∀ (ls : Array Slot), lv_has ls 8 [(5, .int (nI i)), (3, .int 0), (4, .int 0), (0, .ref (a 9)), (1, .int p0), (2, .int p1)] → W p l e (rmk 1 0 0 23) s m args below meth c H locs 0 0 (MQ below (va_Qi (fun (r : Int32) (u : Unit) => (r = 0) ∧ True) (fun (_ : Unit) (_ : State) => True) (va_A [] s.heap.size)) args s 0 0 (va_A [] s.heap.size)) (F0 m 9 ls []) := by
            intro k
            induction k with
            | zero =>
              intro i hi H locs hS ls hl
              have hi0 : i = 256 := by omega
              refine lv_iload hx hb dX5_rowsToSpare_9 (lv_at hl 0 rfl) ?_
              refine lv_sipush (v := 256) hx hb dX5_rowsToSpare_11 (by decide) ?_
              refine lv_icmp_ge (tgt := 73) hx hb dX5_rowsToSpare_14 (by decide) (fun c_5 => ?_) (fun c_5 => absurd (by rw [hi0]; decide) c_5)
              refine lv_iload_n hx hb dX5_rowsToSpare_73 rfl (lv_at hl 1 rfl) ?_
              refine W.widen (k := 0) (n := 0) (Nat.le_of_ble_eq_true rfl) (Nat.le_of_ble_eq_true rfl) ?_
              exact W.iret (v := 0) hx hb hr (fun t ht9 hW9 => ⟨⟨0, (), rfl, ⟨rfl, trivial⟩, trivial⟩, hS.F ht9⟩) hS.2.2 dX5_rowsToSpare_74 hlocks
            | succ k ih =>
              intro i hi H locs hS ls hl
              have hlt : i < 256 := by omega
              refine lv_iload hx hb dX5_rowsToSpare_9 (lv_at hl 0 rfl) ?_
              refine lv_sipush (v := 256) hx hb dX5_rowsToSpare_11 (by decide) ?_
              refine lv_icmp_ge (tgt := 73) hx hb dX5_rowsToSpare_14 (by decide) (fun c_6 => absurd c_6 (nI_ge hlt (by decide))) (fun c_6 => ?_)
              refine lv_iload hx hb dX5_rowsToSpare_17 (lv_at hl 0 rfl) ?_
              have hPc : va_P D vwCl [] _ := (ro0 hP0 hS).sub (ws' := []) [] rfl
              have hDc : va_D (fun q => z0 ≤ q) [] := hD0.pick (ws' := []) [] (by decide) rfl
              have hFc := AnA (ws := []) hS.1
              refine va_calli (va_runS (As := [.int (nI i)]) (rest := []) ⟨hx, hb, hml, hown, ht⟩ (k_J6_bitCount_0f7a4 l D g z0 _ a (nI i)) (va_cwS 1 ht (gS w_278 w_280 w_281 w_279) rfl rfl rfl (by decide +kernel) (le2 rfl rfl)) ⟨PP.blind, PP.mk' hK hZ hz hAz hS hPc hDc⟩ rfl rfl hl.1 rfl (lv_room (Nat.le_of_ble_eq_true rfl)) dX5_rowsToSpare_19 (le2 rfl rfl)) hS (fun q _ h => hFc q h) hFc (fun r u t H locs ht1 hvm hw hB hz1 hk1 hS => ?_)
              obtain ⟨rfl, hw⟩ := hw
              refine lv_istore (lv' := [(6, .int (zBits (nI i))), (5, .int (nI i)), (3, .int 0), (4, .int 0), (0, .ref (a 9)), (1, .int p0), (2, .int p1)]) hx hb dX5_rowsToSpare_22 hl (by decide) rfl (fun ls hl => ?_)
              refine lv_aload_n hx hb dX5_rowsToSpare_24 rfl (lv_at hl 4 rfl) ?_
              refine lv_iload hx hb dX5_rowsToSpare_25 (lv_at hl 1 rfl) ?_
              have hPc : va_P D vwCl [((a 9), f_memory a), ((a 60), .inl (g 0, 8, .inl (fun _ => 0)))] _ := (ro0 hP0 hS).sub (ws' := [((a 9), f_memory a), ((a 60), .inl (g 0, 8, .inl (fun _ => 0)))]) [0, 1] rfl
              have hDc : va_D (fun q => z0 ≤ q) [((a 9), f_memory a), ((a 60), .inl (g 0, 8, .inl (fun _ => 0)))] := hD0.pick (ws' := [((a 9), f_memory a), ((a 60), .inl (g 0, 8, .inl (fun _ => 0)))]) [0, 1] (by decide) rfl
              have hFc := AnA (ws := []) hS.1
              refine va_calli (va_runV (As := [.int (nI i)]) (rest := []) ⟨hx, hb, hml, hown, ht⟩ (k_X5_columnsLeft l D g z0 _ a (nI i)) (cwV 1 ht (gV w_282 w_284 w_285 w_221 w_283) rfl rfl rfl (by decide +kernel) (le2 rfl rfl)) ⟨PP.blind, va_recv hK.1 (ro0 hP0 hS) (ci := 11) (q0 := 0) rfl rfl, PP.mk' hK hZ hz hAz hS hPc hDc⟩ rfl rfl hl.1 rfl (lv_room (Nat.le_of_ble_eq_true rfl)) dX5_rowsToSpare_27 (le2 rfl rfl)) hS (fun q _ h => hFc q h) hFc (fun r u t H locs ht1 hvm hw hB hz1 hk1 hS => ?_)
              obtain ⟨rfl, hw⟩ := hw
              have hPc : va_P D vwCl [] _ := (ro0 hP0 hS).sub (ws' := []) [] rfl
              have hDc : va_D (fun q => z0 ≤ q) [] := hD0.pick (ws' := []) [] (by decide) rfl
              have hFc := AnA (ws := []) hS.1
              refine va_calli (va_runS (As := [.int 0]) (rest := []) ⟨hx, hb, hml, hown, ht⟩ (k_J6_bitCount_0f7a4 l D g z0 _ a 0) (va_cwS 1 ht (gS w_278 w_280 w_281 w_279) rfl rfl rfl (by decide +kernel) (le2 rfl rfl)) ⟨PP.blind, PP.mk' hK hZ hz hAz hS hPc hDc⟩ rfl rfl hl.1 rfl (lv_room (Nat.le_of_ble_eq_true rfl)) dX5_rowsToSpare_30 (le2 rfl rfl)) hS (fun q _ h => hFc q h) hFc (fun r u t H locs ht1 hvm hw hB hz1 hk1 hS => ?_)
              obtain ⟨rfl, hw⟩ := hw
              refine r_topi (v := 0) (by decide +kernel) ?_
              refine lv_istore (lv' := [(7, .int 0), (6, .int (zBits (nI i))), (5, .int (nI i)), (3, .int 0), (4, .int 0), (0, .ref (a 9)), (1, .int p0), (2, .int p1)]) hx hb dX5_rowsToSpare_33 hl (by decide) rfl (fun ls hl => ?_)
              refine lv_iload hx hb dX5_rowsToSpare_35 (lv_at hl 1 rfl) ?_
              refine lv_iload_n hx hb dX5_rowsToSpare_37 rfl (lv_at hl 6 rfl) ?_
              refine lv_icmp_gt (tgt := 67) hx hb dX5_rowsToSpare_38 (by decide) (fun c_7 => ?_) (fun c_7 => ?_)
              · refine lv_iinc (v := nI (i + 1)) (lv' := [(5, .int (nI (i + 1))), (7, .int 0), (6, .int (zBits (nI i))), (3, .int 0), (4, .int 0), (0, .ref (a 9)), (1, .int p0), (2, .int p1)]) hx hb dX5_rowsToSpare_67 hl (k := 2) rfl (nI_1 i) (by decide) rfl (fun ls hl => ?_)
                refine lv_goto (tgt := 9) hx hb dX5_rowsToSpare_70 (by decide) ?_
                exact ih (i + 1) (by omega) H locs hS ls (lv_sub hl [0, 3, 4, 5, 6, 7] rfl)
              · refine lv_iload hx hb dX5_rowsToSpare_41 (lv_at hl 0 rfl) ?_
                refine lv_iload_n hx hb dX5_rowsToSpare_43 rfl (lv_at hl 7 rfl) ?_
                refine lv_icmp_gt (tgt := 67) hx hb dX5_rowsToSpare_44 (by decide) (fun c_8 => ?_) (fun c_8 => ?_)
                · exact absurd c_8 hy1
                · refine lv_iload hx hb dX5_rowsToSpare_47 (lv_at hl 1 rfl) ?_
                  refine lv_iload hx hb dX5_rowsToSpare_49 (lv_at hl 0 rfl) ?_
                  refine lv_iadd hx hb dX5_rowsToSpare_51 ?_
                  refine lv_iload hx hb dX5_rowsToSpare_52 (lv_at hl 4 rfl) ?_
                  refine lv_icmp_ge (tgt := 67) hx hb dX5_rowsToSpare_54 (by decide) (fun c_9 => ?_) (fun c_9 => ?_)
                  · refine lv_iinc (v := nI (i + 1)) (lv' := [(5, .int (nI (i + 1))), (7, .int 0), (6, .int (zBits (nI i))), (3, .int 0), (4, .int 0), (0, .ref (a 9)), (1, .int p0), (2, .int p1)]) hx hb dX5_rowsToSpare_67 hl (k := 2) rfl (nI_1 i) (by decide) rfl (fun ls hl => ?_)
                    refine lv_goto (tgt := 9) hx hb dX5_rowsToSpare_70 (by decide) ?_
                    exact ih (i + 1) (by omega) H locs hS ls (lv_sub hl [0, 3, 4, 5, 6, 7] rfl)
                  · refine lv_iload hx hb dX5_rowsToSpare_57 (lv_at hl 2 rfl) ?_
                    refine lv_istore_n (lv' := [(3, .int (nI i)), (7, .int 0), (6, .int (zBits (nI i))), (5, .int (nI i)), (4, .int 0), (0, .ref (a 9)), (1, .int p0), (2, .int p1)]) hx hb dX5_rowsToSpare_59 rfl hl (by decide) rfl (fun ls hl => ?_)
                    refine lv_iload hx hb dX5_rowsToSpare_60 (lv_at hl 2 rfl) ?_
                    refine lv_iload hx hb dX5_rowsToSpare_62 (lv_at hl 1 rfl) ?_
                    refine lv_iadd hx hb dX5_rowsToSpare_64 ?_
                    refine lv_istore (lv' := [(4, .int ((zBits (nI i)) + 0)), (3, .int (nI i)), (7, .int 0), (6, .int (zBits (nI i))), (5, .int (nI i)), (0, .ref (a 9)), (1, .int p0), (2, .int p1)]) hx hb dX5_rowsToSpare_65 hl (by decide) rfl (fun ls hl => ?_)
                    refine lv_iinc (v := nI (i + 1)) (lv' := [(5, .int (nI (i + 1))), (4, .int ((zBits (nI i)) + 0)), (3, .int (nI i)), (7, .int 0), (6, .int (zBits (nI i))), (0, .ref (a 9)), (1, .int p0), (2, .int p1)]) hx hb dX5_rowsToSpare_67 hl (k := 4) rfl (nI_1 i) (by decide) rfl (fun ls hl => ?_)
                    refine lv_goto (tgt := 9) hx hb dX5_rowsToSpare_70 (by decide) ?_
                    exact ih (i + 1) (by omega) H locs hS ls (lv_sub hl [0, 2, 1, 5, 6, 7] rfl)
          exact loop (256 - 1) 1 (by omega) _ _ hS ls (lv_sub hl [0, 2, 1, 5, 6, 7] rfl)
set_option maxHeartbeats 4000000 in
set_option maxRecDepth 100000 in
theorem k_X11_repair (l : Launch) (hfl : l.stackTraces = false) (D : va_G) (g : Nat → ClassId) (z0 sz : Nat) (a : Nat → Nat) (p0 : Int32) (p1 : Int32) : vx_Met l yX11_repair (.code yX11_repair cX11_repair 4 (some .int) :: TG) (rmk 7 2 12 103) (va_Pc [.ref (a 0), .int p0, .int p1] (PP D g z0 sz [((a 0), f_x a), ((a 9), f_memory a), ((a 60), .inl (g 0, 8, .inl (fun _ => 0)))])) (va_Qi (fun (r : Int32) (u : Unit) => (r = 0) ∧ ((¬ p0 < 0) ∧ (p0 ≤ 8) ∧ (¬ p1 < 0) ∧ (p1 ≤ 8))) (fun (_ : Unit) (_ : State) => True) (va_A [] sz)) (vx_X (fun _ : Unit => True) (fun E _ _ => (E = "java/lang/IllegalArgumentException" ∧ ((p0 < 0) ∨ ((¬ p0 < 0) ∧ (¬ p0 ≤ 8)) ∨ ((¬ p0 < 0) ∧ (p0 ≤ 8) ∧ (p1 < 0)) ∨ ((¬ p0 < 0) ∧ (p0 ≤ 8) ∧ (¬ p1 < 0) ∧ (¬ p1 ≤ 8))))) (va_A [] sz)) 2 12 (va_A [] sz) := by
  refine vxm0 (cc := cX11_repair) (n := 4) (by decide) (Nat.le_of_ble_eq_true rfl) ?_
  intro p e s m args below meth c hx hb hr hml htab hown ht hlocks hnm hP0 hD0 hK hZ hsz hz ls hl
  subst hsz
  have hA : ∀ q : Nat, s.heap.size ≤ q → va_A [] s.heap.size q := Anw
  have hAz : ∀ q, va_A [] s.heap.size q → z0 ≤ q := A0z hz
  have hS : va_S (va_A [] s.heap.size) s.heap s.heap [] := va_S.rf
  have hl : lv_has ls 4 [(0, .ref (a 0)), (1, .int p0), (2, .int p1)] := hl
  refine lv_iload_n hx hb dX11_repair_0 rfl (lv_at hl 1 rfl) ?_
  refine lv_iconst (v := 0) hx hb dX11_repair_1 (by decide) ?_
  refine lv_bipush (v := 8) hx hb dX11_repair_2 (by decide) ?_
  have hPc : va_P D vwCl [] _ := (ro0 hP0 hS).sub (ws' := []) [] rfl
  have hDc : va_D (fun q => z0 ≤ q) [] := hD0.pick (ws' := []) [] (by decide) rfl
  have hFc := AnA (ws := []) hS.1
  refine vx_callv (vx_runS (As := [.int p0, .int 0, .int 8]) (rest := []) ⟨hx, hb, hml, hown, ht⟩ (k_X11_needRange l hfl D g z0 _ a p0 0 8) (va_cwS 3 ht (gS w_53 w_55 w_31 w_54) rfl rfl rfl (by decide +kernel) (le2 rfl rfl)) ⟨PP.blind, PP.mk' hK hZ hz hAz hS hPc hDc⟩ rfl rfl hl.1 rfl (lv_room (Nat.le_of_ble_eq_true rfl)) dX11_repair_4 (le2 rfl rfl)) hS (fun q _ h => hFc q h) hFc (fun q _ h => hFc q h) (fun E ce q9 u t H locs ht1 hvm hw hB hz1 hk1 hS hcell hv9 hcl => ?_) (fun u t H locs ht1 hvm hw hB hz1 hk1 hS => ?_)
  · obtain ⟨rfl, hB⟩ := hB
    rcases hB with hB | hB
    · have c_1 := hB
      exact out0 htab hlocks hS hcell hv9 hcl (fun t _ hF => ⟨(), trivial, ⟨rfl, (Or.inl c_1)⟩, hF⟩) (fun _ h => h) rfl rfl
    · obtain ⟨c_2, c_3⟩ := hB
      exact out0 htab hlocks hS hcell hv9 hcl (fun t _ hF => ⟨(), trivial, ⟨rfl, (Or.inr (Or.inl ⟨c_2, c_3⟩))⟩, hF⟩) (fun _ h => h) rfl rfl
  · obtain ⟨c_4, c_5⟩ := hw
    refine lv_iload_n hx hb dX11_repair_7 rfl (lv_at hl 2 rfl) ?_
    refine lv_iconst (v := 0) hx hb dX11_repair_8 (by decide) ?_
    refine lv_bipush (v := 8) hx hb dX11_repair_9 (by decide) ?_
    have hPc : va_P D vwCl [] _ := (ro0 hP0 hS).sub (ws' := []) [] rfl
    have hDc : va_D (fun q => z0 ≤ q) [] := hD0.pick (ws' := []) [] (by decide) rfl
    have hFc := AnA (ws := []) hS.1
    refine vx_callv (vx_runS (As := [.int p1, .int 0, .int 8]) (rest := []) ⟨hx, hb, hml, hown, ht⟩ (k_X11_needRange l hfl D g z0 _ a p1 0 8) (va_cwS 3 ht (gS w_53 w_55 w_31 w_54) rfl rfl rfl (by decide +kernel) (le2 rfl rfl)) ⟨PP.blind, PP.mk' hK hZ hz hAz hS hPc hDc⟩ rfl rfl hl.1 rfl (lv_room (Nat.le_of_ble_eq_true rfl)) dX11_repair_11 (le2 rfl rfl)) hS (fun q _ h => hFc q h) hFc (fun q _ h => hFc q h) (fun E ce q9 u t H locs ht1 hvm hw hB hz1 hk1 hS hcell hv9 hcl => ?_) (fun u t H locs ht1 hvm hw hB hz1 hk1 hS => ?_)
    · obtain ⟨rfl, hB⟩ := hB
      rcases hB with hB | hB
      · have c_6 := hB
        exact out0 htab hlocks hS hcell hv9 hcl (fun t _ hF => ⟨(), trivial, ⟨rfl, (Or.inr (Or.inr (Or.inl ⟨c_4, c_5, c_6⟩)))⟩, hF⟩) (fun _ h => h) rfl rfl
      · obtain ⟨c_7, c_8⟩ := hB
        exact out0 htab hlocks hS hcell hv9 hcl (fun t _ hF => ⟨(), trivial, ⟨rfl, (Or.inr (Or.inr (Or.inr ⟨c_4, c_5, c_7, c_8⟩)))⟩, hF⟩) (fun _ h => h) rfl rfl
    · obtain ⟨c_9, c_10⟩ := hw
      refine lv_aload_n hx hb dX11_repair_14 rfl (lv_at hl 0 rfl) ?_
      refine va_get (D := D) (ci := 17) (v := .ref (a 9)) (C := RX11) (T := TX11) (N := 11) hx hb ht in_X11 hown hK.1 (ro0 hP0 hS) 0 rfl rfl 8 (by decide) (ht _ w_41) (fun _ h9 => h9) rfl dX11_repair_15 ?_
      refine lv_iload_n hx hb dX11_repair_18 rfl (lv_at hl 1 rfl) ?_
      refine lv_iload_n hx hb dX11_repair_19 rfl (lv_at hl 2 rfl) ?_
      have hPc : va_P D vwCl [((a 9), f_memory a), ((a 60), .inl (g 0, 8, .inl (fun _ => 0)))] _ := (ro0 hP0 hS).sub (ws' := [((a 9), f_memory a), ((a 60), .inl (g 0, 8, .inl (fun _ => 0)))]) [1, 2] rfl
      have hDc : va_D (fun q => z0 ≤ q) [((a 9), f_memory a), ((a 60), .inl (g 0, 8, .inl (fun _ => 0)))] := hD0.pick (ws' := [((a 9), f_memory a), ((a 60), .inl (g 0, 8, .inl (fun _ => 0)))]) [1, 2] (by decide) rfl
      have hFc := AnA (ws := []) hS.1
      refine va_calli (va_runV (As := [.int p0, .int p1]) (rest := []) ⟨hx, hb, hml, hown, ht⟩ (k_X5_rowsToSpare l D g z0 _ a p0 p1 c_4 c_9) (cwV 2 ht (gV w_286 w_288 w_289 w_221 w_287) rfl rfl rfl (by decide +kernel) (le2 rfl rfl)) ⟨PP.blind, va_recv hK.1 (ro0 hP0 hS) (ci := 11) (q0 := 1) rfl rfl, PP.mk' hK hZ hz hAz hS hPc hDc⟩ rfl rfl hl.1 rfl (lv_room (Nat.le_of_ble_eq_true rfl)) dX11_repair_20 (le2 rfl rfl)) hS (fun q _ h => hFc q h) hFc (fun r u t H locs ht1 hvm hw hB hz1 hk1 hS => ?_)
      obtain ⟨rfl, hw⟩ := hw
      refine lv_istore_n (lv' := [(3, .int 0), (0, .ref (a 0)), (1, .int p0), (2, .int p1)]) hx hb dX11_repair_23 rfl hl (by decide) rfl (fun ls hl => ?_)
      refine lv_iload_n hx hb dX11_repair_24 rfl (lv_at hl 0 rfl) ?_
      refine lv_if_ge (tgt := 36) hx hb dX11_repair_25 (by decide) (fun c_11 => ?_) (fun c_11 => ?_)
      · refine lv_iload_n hx hb dX11_repair_36 rfl (lv_at hl 0 rfl) ?_
        refine vx_ret (W.widen (k := 2) (n := 12) (Nat.le_of_ble_eq_true rfl) (Nat.le_of_ble_eq_true rfl) ?_)
        exact W.iret (v := 0) hx hb hr (fun t ht9 hW9 => ⟨⟨0, (), rfl, ⟨rfl, ⟨c_4, c_5, c_9, c_10⟩⟩, trivial⟩, hS.F ht9⟩) hS.2.2 dX11_repair_37 hlocks
      · exact absurd c_11 (by decide)
set_option maxHeartbeats 4000000 in
set_option maxRecDepth 100000 in
theorem k_X11_sameAs (l : Launch) (hfl : l.stackTraces = false) (D : va_G) (g : Nat → ClassId) (z0 sz : Nat) (a : Nat → Nat) (p0 : Int32) (p1 : Int32) (hc_p1 : isC p1) : vx_Met l yX11_sameAs (.code yX11_sameAs cX11_sameAs 6 (some .int) :: TG) (rmk 7 1 6 102) (va_Pc [.ref (a 0), .int p0, .int p1] (PP D g z0 sz [((a 0), f_x a), ((a 10), f_wires a)])) (va_Qi (fun (r : Int32) (u : Unit) => False) (fun (_ : Unit) (_ : State) => True) (va_A [] sz)) (vx_X (fun _ : Unit => True) (fun E _ _ => (E = "java/lang/IndexOutOfBoundsException" ∧ True)) (va_A [] sz)) 1 6 (va_A [] sz) := by
  refine vxm0 (cc := cX11_sameAs) (n := 6) (by decide) (Nat.le_of_ble_eq_true rfl) ?_
  intro p e s m args below meth c hx hb hr hml htab hown ht hlocks hnm hP0 hD0 hK hZ hsz hz ls hl
  subst hsz
  have hA : ∀ q : Nat, s.heap.size ≤ q → va_A [] s.heap.size q := Anw
  have hAz : ∀ q, va_A [] s.heap.size q → z0 ≤ q := A0z hz
  have hS : va_S (va_A [] s.heap.size) s.heap s.heap [] := va_S.rf
  have hl : lv_has ls 6 [(0, .ref (a 0)), (1, .int p0), (2, .int p1)] := hl
  refine lv_aload_n hx hb dX11_sameAs_0 rfl (lv_at hl 0 rfl) ?_
  refine lv_iload_n hx hb dX11_sameAs_1 rfl (lv_at hl 1 rfl) ?_
  have hPc : va_P D vwCl [((a 0), f_x a), ((a 10), f_wires a)] _ := (ro0 hP0 hS).sub (ws' := [((a 0), f_x a), ((a 10), f_wires a)]) [0, 1] rfl
  have hDc : va_D (fun q => z0 ≤ q) [((a 0), f_x a), ((a 10), f_wires a)] := hD0.pick (ws' := [((a 0), f_x a), ((a 10), f_wires a)]) [0, 1] (by decide) rfl
  have hFc := AnA (ws := []) hS.1
  refine vx_callv (vx_runV (As := [.int p0]) (rest := []) ⟨hx, hb, hml, hown, ht⟩ (k_X11_needWire l hfl D g z0 _ a p0) (cwV 1 ht (gV w_191 w_193 w_194 w_31 w_192) rfl rfl rfl (by decide +kernel) (le2 rfl rfl)) ⟨PP.blind, va_recv hK.1 (ro0 hP0 hS) (ci := 17) (q0 := 0) rfl rfl, PP.mk' hK hZ hz hAz hS hPc hDc⟩ rfl rfl hl.1 rfl (lv_room (Nat.le_of_ble_eq_true rfl)) dX11_sameAs_2 (le2 rfl rfl)) hS (fun q _ h => hFc q h) hFc (fun q _ h => hFc q h) (fun E ce q9 u t H locs ht1 hvm hw hB hz1 hk1 hS hcell hv9 hcl => ?_) (fun u t H locs ht1 hvm hw hB hz1 hk1 hS => ?_)
  · obtain ⟨rfl, hB⟩ := hB
    exact out0 htab hlocks hS hcell hv9 hcl (fun t _ hF => ⟨(), trivial, ⟨rfl, trivial⟩, hF⟩) (fun _ h => h) rfl rfl
  · exact hw.elim
set_option maxHeartbeats 4000000 in
set_option maxRecDepth 100000 in
theorem k_X11_seedFor (l : Launch) (hfl : l.stackTraces = false) (D : va_G) (g : Nat → ClassId) (z0 sz : Nat) (a : Nat → Nat) (p0 : Int32) : vx_Met l yX11_seedFor (.code yX11_seedFor cX11_seedFor 3 (some .int) :: TG) (rmk 7 1 6 102) (va_Pc [.ref (a 0), .int p0] (PP D g z0 sz [((a 0), f_x a), ((a 3), f_rows a)])) (va_Qi (fun (r : Int32) (u : Unit) => False) (fun (_ : Unit) (_ : State) => True) (va_A [] sz)) (vx_X (fun _ : Unit => True) (fun E _ _ => (E = "java/lang/IndexOutOfBoundsException" ∧ True)) (va_A [] sz)) 1 6 (va_A [] sz) := by
  refine vxm0 (cc := cX11_seedFor) (n := 3) (by decide) (Nat.le_of_ble_eq_true rfl) ?_
  intro p e s m args below meth c hx hb hr hml htab hown ht hlocks hnm hP0 hD0 hK hZ hsz hz ls hl
  subst hsz
  have hA : ∀ q : Nat, s.heap.size ≤ q → va_A [] s.heap.size q := Anw
  have hAz : ∀ q, va_A [] s.heap.size q → z0 ≤ q := A0z hz
  have hS : va_S (va_A [] s.heap.size) s.heap s.heap [] := va_S.rf
  have hl : lv_has ls 3 [(0, .ref (a 0)), (1, .int p0)] := hl
  refine lv_aload_n hx hb dX11_seedFor_0 rfl (lv_at hl 0 rfl) ?_
  refine lv_iload_n hx hb dX11_seedFor_1 rfl (lv_at hl 1 rfl) ?_
  have hPc : va_P D vwCl [((a 0), f_x a), ((a 3), f_rows a)] _ := (ro0 hP0 hS).sub (ws' := [((a 0), f_x a), ((a 3), f_rows a)]) [0, 1] rfl
  have hDc : va_D (fun q => z0 ≤ q) [((a 0), f_x a), ((a 3), f_rows a)] := hD0.pick (ws' := [((a 0), f_x a), ((a 3), f_rows a)]) [0, 1] (by decide) rfl
  have hFc := AnA (ws := []) hS.1
  refine vx_callv (vx_runV (As := [.int p0]) (rest := []) ⟨hx, hb, hml, hown, ht⟩ (k_X11_needPattern l hfl D g z0 _ a p0) (cwV 1 ht (gV w_184 w_186 w_187 w_31 w_185) rfl rfl rfl (by decide +kernel) (le2 rfl rfl)) ⟨PP.blind, va_recv hK.1 (ro0 hP0 hS) (ci := 17) (q0 := 0) rfl rfl, PP.mk' hK hZ hz hAz hS hPc hDc⟩ rfl rfl hl.1 rfl (lv_room (Nat.le_of_ble_eq_true rfl)) dX11_seedFor_2 (le2 rfl rfl)) hS (fun q _ h => hFc q h) hFc (fun q _ h => hFc q h) (fun E ce q9 u t H locs ht1 hvm hw hB hz1 hk1 hS hcell hv9 hcl => ?_) (fun u t H locs ht1 hvm hw hB hz1 hk1 hS => ?_)
  · obtain ⟨rfl, hB⟩ := hB
    exact out0 htab hlocks hS hcell hv9 hcl (fun t _ hF => ⟨(), trivial, ⟨rfl, trivial⟩, hF⟩) (fun _ h => h) rfl rfl
  · exact hw.elim
set_option maxHeartbeats 4000000 in
set_option maxRecDepth 100000 in
theorem k_X11_seen (l : Launch) (hfl : l.stackTraces = false) (D : va_G) (g : Nat → ClassId) (z0 sz : Nat) (a : Nat → Nat) (p0 : Int32) (p1 : Int32) : vx_Met l yX11_seen (.code yX11_seen cX11_seen 3 (some .int) :: TG) (rmk 7 1 6 102) (va_Pc [.ref (a 0), .int p0, .int p1] (PP D g z0 sz [((a 0), f_x a), ((a 3), f_rows a)])) (va_Qi (fun (r : Int32) (u : Unit) => False) (fun (_ : Unit) (_ : State) => True) (va_A [] sz)) (vx_X (fun _ : Unit => True) (fun E _ _ => (E = "java/lang/IndexOutOfBoundsException" ∧ True)) (va_A [] sz)) 1 6 (va_A [] sz) := by
  refine vxm0 (cc := cX11_seen) (n := 3) (by decide) (Nat.le_of_ble_eq_true rfl) ?_
  intro p e s m args below meth c hx hb hr hml htab hown ht hlocks hnm hP0 hD0 hK hZ hsz hz ls hl
  subst hsz
  have hA : ∀ q : Nat, s.heap.size ≤ q → va_A [] s.heap.size q := Anw
  have hAz : ∀ q, va_A [] s.heap.size q → z0 ≤ q := A0z hz
  have hS : va_S (va_A [] s.heap.size) s.heap s.heap [] := va_S.rf
  have hl : lv_has ls 3 [(0, .ref (a 0)), (1, .int p0), (2, .int p1)] := hl
  refine lv_aload_n hx hb dX11_seen_0 rfl (lv_at hl 0 rfl) ?_
  refine lv_iload_n hx hb dX11_seen_1 rfl (lv_at hl 1 rfl) ?_
  have hPc : va_P D vwCl [((a 0), f_x a), ((a 3), f_rows a)] _ := (ro0 hP0 hS).sub (ws' := [((a 0), f_x a), ((a 3), f_rows a)]) [0, 1] rfl
  have hDc : va_D (fun q => z0 ≤ q) [((a 0), f_x a), ((a 3), f_rows a)] := hD0.pick (ws' := [((a 0), f_x a), ((a 3), f_rows a)]) [0, 1] (by decide) rfl
  have hFc := AnA (ws := []) hS.1
  refine vx_callv (vx_runV (As := [.int p0]) (rest := []) ⟨hx, hb, hml, hown, ht⟩ (k_X11_needPattern l hfl D g z0 _ a p0) (cwV 1 ht (gV w_184 w_186 w_187 w_31 w_185) rfl rfl rfl (by decide +kernel) (le2 rfl rfl)) ⟨PP.blind, va_recv hK.1 (ro0 hP0 hS) (ci := 17) (q0 := 0) rfl rfl, PP.mk' hK hZ hz hAz hS hPc hDc⟩ rfl rfl hl.1 rfl (lv_room (Nat.le_of_ble_eq_true rfl)) dX11_seen_2 (le2 rfl rfl)) hS (fun q _ h => hFc q h) hFc (fun q _ h => hFc q h) (fun E ce q9 u t H locs ht1 hvm hw hB hz1 hk1 hS hcell hv9 hcl => ?_) (fun u t H locs ht1 hvm hw hB hz1 hk1 hS => ?_)
  · obtain ⟨rfl, hB⟩ := hB
    exact out0 htab hlocks hS hcell hv9 hcl (fun t _ hF => ⟨(), trivial, ⟨rfl, trivial⟩, hF⟩) (fun _ h => h) rfl rfl
  · exact hw.elim
set_option maxHeartbeats 4000000 in
set_option maxRecDepth 100000 in
theorem k_X11_setTime (l : Launch) (hfl : l.stackTraces = false) (D : va_G) (g : Nat → ClassId) (z0 sz : Nat) (a : Nat → Nat) (p0 : Int32) (p1 : Int32) : vx_Met l yX11_setTime (.code yX11_setTime cX11_setTime 4 (some .int) :: TG) (rmk 7 1 6 102) (va_Pc [.ref (a 0), .int p0, .int p1] (PP D g z0 sz [((a 0), f_x a), ((a 3), f_rows a)])) (va_Qi (fun (r : Int32) (u : Unit) => False) (fun (_ : Unit) (_ : State) => True) (va_A [] sz)) (vx_X (fun _ : Unit => True) (fun E _ _ => (E = "java/lang/IndexOutOfBoundsException" ∧ True)) (va_A [] sz)) 1 6 (va_A [] sz) := by
  refine vxm0 (cc := cX11_setTime) (n := 4) (by decide) (Nat.le_of_ble_eq_true rfl) ?_
  intro p e s m args below meth c hx hb hr hml htab hown ht hlocks hnm hP0 hD0 hK hZ hsz hz ls hl
  subst hsz
  have hA : ∀ q : Nat, s.heap.size ≤ q → va_A [] s.heap.size q := Anw
  have hAz : ∀ q, va_A [] s.heap.size q → z0 ≤ q := A0z hz
  have hS : va_S (va_A [] s.heap.size) s.heap s.heap [] := va_S.rf
  have hl : lv_has ls 4 [(0, .ref (a 0)), (1, .int p0), (2, .int p1)] := hl
  refine lv_aload_n hx hb dX11_setTime_0 rfl (lv_at hl 0 rfl) ?_
  refine lv_iload_n hx hb dX11_setTime_1 rfl (lv_at hl 1 rfl) ?_
  have hPc : va_P D vwCl [((a 0), f_x a), ((a 3), f_rows a)] _ := (ro0 hP0 hS).sub (ws' := [((a 0), f_x a), ((a 3), f_rows a)]) [0, 1] rfl
  have hDc : va_D (fun q => z0 ≤ q) [((a 0), f_x a), ((a 3), f_rows a)] := hD0.pick (ws' := [((a 0), f_x a), ((a 3), f_rows a)]) [0, 1] (by decide) rfl
  have hFc := AnA (ws := []) hS.1
  refine vx_callv (vx_runV (As := [.int p0]) (rest := []) ⟨hx, hb, hml, hown, ht⟩ (k_X11_needPattern l hfl D g z0 _ a p0) (cwV 1 ht (gV w_184 w_186 w_187 w_31 w_185) rfl rfl rfl (by decide +kernel) (le2 rfl rfl)) ⟨PP.blind, va_recv hK.1 (ro0 hP0 hS) (ci := 17) (q0 := 0) rfl rfl, PP.mk' hK hZ hz hAz hS hPc hDc⟩ rfl rfl hl.1 rfl (lv_room (Nat.le_of_ble_eq_true rfl)) dX11_setTime_2 (le2 rfl rfl)) hS (fun q _ h => hFc q h) hFc (fun q _ h => hFc q h) (fun E ce q9 u t H locs ht1 hvm hw hB hz1 hk1 hS hcell hv9 hcl => ?_) (fun u t H locs ht1 hvm hw hB hz1 hk1 hS => ?_)
  · obtain ⟨rfl, hB⟩ := hB
    exact out0 htab hlocks hS hcell hv9 hcl (fun t _ hF => ⟨(), trivial, ⟨rfl, trivial⟩, hF⟩) (fun _ h => h) rfl rfl
  · exact hw.elim
set_option maxHeartbeats 4000000 in
set_option maxRecDepth 100000 in
theorem k_X11_shortWires (l : Launch) (hfl : l.stackTraces = false) (D : va_G) (g : Nat → ClassId) (z0 sz : Nat) (a : Nat → Nat) (p0 : Int32) (p1 : Int32) : vx_Met l yX11_shortWires (.code yX11_shortWires cX11_shortWires 3 (some .int) :: TG) (rmk 7 1 6 102) (va_Pc [.ref (a 0), .int p0, .int p1] (PP D g z0 sz [((a 0), f_x a), ((a 10), f_wires a)])) (va_Qi (fun (r : Int32) (u : Unit) => False) (fun (_ : Unit) (_ : State) => True) (va_A [] sz)) (vx_X (fun _ : Unit => True) (fun E _ _ => (E = "java/lang/IndexOutOfBoundsException" ∧ True)) (va_A [] sz)) 1 6 (va_A [] sz) := by
  refine vxm0 (cc := cX11_shortWires) (n := 3) (by decide) (Nat.le_of_ble_eq_true rfl) ?_
  intro p e s m args below meth c hx hb hr hml htab hown ht hlocks hnm hP0 hD0 hK hZ hsz hz ls hl
  subst hsz
  have hA : ∀ q : Nat, s.heap.size ≤ q → va_A [] s.heap.size q := Anw
  have hAz : ∀ q, va_A [] s.heap.size q → z0 ≤ q := A0z hz
  have hS : va_S (va_A [] s.heap.size) s.heap s.heap [] := va_S.rf
  have hl : lv_has ls 3 [(0, .ref (a 0)), (1, .int p0), (2, .int p1)] := hl
  refine lv_aload_n hx hb dX11_shortWires_0 rfl (lv_at hl 0 rfl) ?_
  refine lv_iload_n hx hb dX11_shortWires_1 rfl (lv_at hl 1 rfl) ?_
  have hPc : va_P D vwCl [((a 0), f_x a), ((a 10), f_wires a)] _ := (ro0 hP0 hS).sub (ws' := [((a 0), f_x a), ((a 10), f_wires a)]) [0, 1] rfl
  have hDc : va_D (fun q => z0 ≤ q) [((a 0), f_x a), ((a 10), f_wires a)] := hD0.pick (ws' := [((a 0), f_x a), ((a 10), f_wires a)]) [0, 1] (by decide) rfl
  have hFc := AnA (ws := []) hS.1
  refine vx_callv (vx_runV (As := [.int p0]) (rest := []) ⟨hx, hb, hml, hown, ht⟩ (k_X11_needWire l hfl D g z0 _ a p0) (cwV 1 ht (gV w_191 w_193 w_194 w_31 w_192) rfl rfl rfl (by decide +kernel) (le2 rfl rfl)) ⟨PP.blind, va_recv hK.1 (ro0 hP0 hS) (ci := 17) (q0 := 0) rfl rfl, PP.mk' hK hZ hz hAz hS hPc hDc⟩ rfl rfl hl.1 rfl (lv_room (Nat.le_of_ble_eq_true rfl)) dX11_shortWires_2 (le2 rfl rfl)) hS (fun q _ h => hFc q h) hFc (fun q _ h => hFc q h) (fun E ce q9 u t H locs ht1 hvm hw hB hz1 hk1 hS hcell hv9 hcl => ?_) (fun u t H locs ht1 hvm hw hB hz1 hk1 hS => ?_)
  · obtain ⟨rfl, hB⟩ := hB
    exact out0 htab hlocks hS hcell hv9 hcl (fun t _ hF => ⟨(), trivial, ⟨rfl, trivial⟩, hF⟩) (fun _ h => h) rfl rfl
  · exact hw.elim
set_option maxHeartbeats 4000000 in
set_option maxRecDepth 100000 in
theorem k_X11_signature (l : Launch) (hfl : l.stackTraces = false) (D : va_G) (g : Nat → ClassId) (z0 sz : Nat) (a : Nat → Nat) (p0 : Int32) : vx_Met l yX11_signature (.code yX11_signature cX11_signature 2 (some .int) :: TG) (rmk 8 1 6 123) (va_Pc [.ref (a 0), .int p0] (PP D g z0 sz [((a 0), f_x a), ((a 3), f_rows a), ((a 4), f_words a), ((a 38), .inl (g 1, 12, .inr (.inl (fun _ => 0)))), ((a 39), .inl (g 1, 12, .inr (.inl (fun _ => 0)))), ((a 1), f_net a), ((a 2), f_book a)])) (va_Qi (fun (r : Int32) (u : Unit) => (r = 0) ∧ (p0 = (-1))) (fun (u : Unit) (t : State) => va_P D vwCl [] t.heap ∧ va_D (va_A [((a 0), f_x a), ((a 3), f_rows a), ((a 4), f_words a), ((a 38), .inl (g 1, 12, .inr (.inl (fun _ => 0)))), ((a 39), .inl (g 1, 12, .inr (.inl (fun _ => 0)))), ((a 1), f_net a), ((a 2), f_book a)] sz) []) (va_A [((a 0), f_x a), ((a 3), f_rows a), ((a 4), f_words a), ((a 38), .inl (g 1, 12, .inr (.inl (fun _ => 0)))), ((a 39), .inl (g 1, 12, .inr (.inl (fun _ => 0)))), ((a 1), f_net a), ((a 2), f_book a)] sz)) (vx_X (fun _ : Unit => True) (fun E _ _ => (E = "java/lang/IndexOutOfBoundsException" ∧ (¬ p0 = (-1)))) (va_A [((a 0), f_x a), ((a 3), f_rows a), ((a 4), f_words a), ((a 38), .inl (g 1, 12, .inr (.inl (fun _ => 0)))), ((a 39), .inl (g 1, 12, .inr (.inl (fun _ => 0)))), ((a 1), f_net a), ((a 2), f_book a)] sz)) 1 6 (va_A [((a 0), f_x a), ((a 3), f_rows a), ((a 4), f_words a), ((a 38), .inl (g 1, 12, .inr (.inl (fun _ => 0)))), ((a 39), .inl (g 1, 12, .inr (.inl (fun _ => 0)))), ((a 1), f_net a), ((a 2), f_book a)] sz) := by
  refine vxm0 (cc := cX11_signature) (n := 2) (by decide) (Nat.le_of_ble_eq_true rfl) ?_
  intro p e s m args below meth c hx hb hr hml htab hown ht hlocks hnm hP0 hD0 hK hZ hsz hz ls hl
  subst hsz
  have hA : ∀ q : Nat, s.heap.size ≤ q → va_A [((a 0), f_x a), ((a 3), f_rows a), ((a 4), f_words a), ((a 38), .inl (g 1, 12, .inr (.inl (fun _ => 0)))), ((a 39), .inl (g 1, 12, .inr (.inl (fun _ => 0)))), ((a 1), f_net a), ((a 2), f_book a)] s.heap.size q := Anw
  have hAz : ∀ q, va_A [((a 0), f_x a), ((a 3), f_rows a), ((a 4), f_words a), ((a 38), .inl (g 1, 12, .inr (.inl (fun _ => 0)))), ((a 39), .inl (g 1, 12, .inr (.inl (fun _ => 0)))), ((a 1), f_net a), ((a 2), f_book a)] s.heap.size q → z0 ≤ q := Awz hz hD0
  have hS : va_S (va_A [((a 0), f_x a), ((a 3), f_rows a), ((a 4), f_words a), ((a 38), .inl (g 1, 12, .inr (.inl (fun _ => 0)))), ((a 39), .inl (g 1, 12, .inr (.inl (fun _ => 0)))), ((a 1), f_net a), ((a 2), f_book a)] s.heap.size) s.heap s.heap [] := va_S.rf
  have hD : va_D (va_A [((a 0), f_x a), ((a 3), f_rows a), ((a 4), f_words a), ((a 38), .inl (g 1, 12, .inr (.inl (fun _ => 0)))), ((a 39), .inl (g 1, 12, .inr (.inl (fun _ => 0)))), ((a 1), f_net a), ((a 2), f_book a)] s.heap.size) [((a 0), f_x a), ((a 3), f_rows a), ((a 4), f_words a), ((a 38), .inl (g 1, 12, .inr (.inl (fun _ => 0)))), ((a 39), .inl (g 1, 12, .inr (.inl (fun _ => 0)))), ((a 1), f_net a), ((a 2), f_book a)] := hD0.self
  have hP : va_P D vwCl [((a 0), f_x a), ((a 3), f_rows a), ((a 4), f_words a), ((a 38), .inl (g 1, 12, .inr (.inl (fun _ => 0)))), ((a 39), .inl (g 1, 12, .inr (.inl (fun _ => 0)))), ((a 1), f_net a), ((a 2), f_book a)] s.heap := hP0
  have hl : lv_has ls 2 [(0, .ref (a 0)), (1, .int p0)] := hl
  refine lv_aload_n hx hb dX11_signature_0 rfl (lv_at hl 0 rfl) ?_
  refine va_get (D := D) (ci := 17) (v := .ref (a 4)) (C := RX11) (T := TX11) (N := 11) hx hb ht in_X11 hown hK.1 hP 0 rfl rfl 3 (by decide) (ht _ w_0) (fun _ h9 => h9) rfl dX11_signature_1 ?_
  refine lv_aload_n hx hb dX11_signature_4 rfl (lv_at hl 0 rfl) ?_
  refine va_get (D := D) (ci := 17) (v := .ref (a 3)) (C := RX11) (T := TX11) (N := 11) hx hb ht in_X11 hown hK.1 hP 0 rfl rfl 2 (by decide) (ht _ w_1) (fun _ h9 => h9) rfl dX11_signature_5 ?_
  have hPc : va_P D vwCl [((a 3), f_rows a), ((a 4), f_words a), ((a 38), .inl (g 1, 12, .inr (.inl (fun _ => 0)))), ((a 39), .inl (g 1, 12, .inr (.inl (fun _ => 0))))] _ := hP.sub (ws' := [((a 3), f_rows a), ((a 4), f_words a), ((a 38), .inl (g 1, 12, .inr (.inl (fun _ => 0)))), ((a 39), .inl (g 1, 12, .inr (.inl (fun _ => 0))))]) [1, 2, 3, 4] rfl
  have hDc : va_D (fun q => z0 ≤ q) [((a 3), f_rows a), ((a 4), f_words a), ((a 38), .inl (g 1, 12, .inr (.inl (fun _ => 0)))), ((a 39), .inl (g 1, 12, .inr (.inl (fun _ => 0))))] := (hD.to hAz).pick (ws' := [((a 3), f_rows a), ((a 4), f_words a), ((a 38), .inl (g 1, 12, .inr (.inl (fun _ => 0)))), ((a 39), .inl (g 1, 12, .inr (.inl (fun _ => 0))))]) [1, 2, 3, 4] (by decide) rfl
  have hFc := va_free (wc := [((a 3), f_rows a), ((a 4), f_words a), ((a 38), .inl (g 1, 12, .inr (.inl (fun _ => 0)))), ((a 39), .inl (g 1, 12, .inr (.inl (fun _ => 0))))]) hD hS hA [1, 2, 3, 4] rfl
  refine va_callv (va_runV (As := [.ref (a 3)]) (rest := []) ⟨hx, hb, hml, hown, ht⟩ (k_X10_loadRows l D g z0 _ a) (cwV 1 ht (gV w_15 w_17 w_18 w_14 w_16) rfl rfl rfl (by decide +kernel) (le2 rfl rfl)) ⟨PP.blind, va_recv hK.1 hP (ci := 16) (q0 := 2) rfl rfl, PP.mk' hK hZ hz hAz hS hPc hDc⟩ rfl rfl hl.1 rfl (lv_room (Nat.le_of_ble_eq_true rfl)) dX11_signature_8 (le2 rfl rfl)) hS (fun q _ h => hFc q h) hFc (fun u t H locs ht1 hvm hw hB hz1 hk1 hS => ?_)
  obtain ⟨hP1, hD1⟩ := hB
  rw [ht1] at hP1
  obtain ⟨hP, hD⟩ := va_join (wr := [((a 0), f_x a), ((a 1), f_net a), ((a 2), f_book a)]) (w1 := [((a 3), f_rows a), ((a 4), f_words a), ((a 38), .inl (g 1, 12, .inr (.inl (fun _ => 0)))), ((a 39), .inl (g 1, 12, .inr (.inl (fun _ => 0))))]) hP hD [1, 2, 3, 4] [0, 5, 6] rfl rfl (by decide) (by decide) hk1 hFc hP1 hD1
  have hP : va_P D vwCl [((a 0), f_x a), ((a 1), f_net a), ((a 2), f_book a), ((a 3), f_rows a), ((a 4), f_words a), ((a 38), .inl (g 1, 12, .inr (.inl (fun _ => 0)))), ((a 39), .inl (g 1, 12, .inr (.inl (fun _ => 0))))] H := hP
  have hD : va_D (va_A [((a 0), f_x a), ((a 3), f_rows a), ((a 4), f_words a), ((a 38), .inl (g 1, 12, .inr (.inl (fun _ => 0)))), ((a 39), .inl (g 1, 12, .inr (.inl (fun _ => 0)))), ((a 1), f_net a), ((a 2), f_book a)] s.heap.size) [((a 0), f_x a), ((a 1), f_net a), ((a 2), f_book a), ((a 3), f_rows a), ((a 4), f_words a), ((a 38), .inl (g 1, 12, .inr (.inl (fun _ => 0)))), ((a 39), .inl (g 1, 12, .inr (.inl (fun _ => 0))))] := hD
  refine lv_aload_n hx hb dX11_signature_11 rfl (lv_at hl 0 rfl) ?_
  refine va_get (D := D) (ci := 17) (v := .ref (a 4)) (C := RX11) (T := TX11) (N := 11) hx hb ht in_X11 hown hK.1 hP 0 rfl rfl 3 (by decide) (ht _ w_0) (fun _ h9 => h9) rfl dX11_signature_12 ?_
  have hPc : va_P D vwCl [((a 4), f_words a), ((a 1), f_net a)] _ := hP.sub (ws' := [((a 4), f_words a), ((a 1), f_net a)]) [4, 1] rfl
  have hDc : va_D (fun q => z0 ≤ q) [((a 4), f_words a), ((a 1), f_net a)] := (hD.to hAz).pick (ws' := [((a 4), f_words a), ((a 1), f_net a)]) [4, 1] (by decide) rfl
  have hFc := va_free (wc := [((a 4), f_words a), ((a 1), f_net a)]) hD hS hA [4, 1] rfl
  refine va_callv (va_runV (As := []) (rest := []) ⟨hx, hb, hml, hown, ht⟩ (k_X10_runGood l D g z0 _ a) (cwV 0 ht (gV w_22 w_24 w_25 w_14 w_23) rfl rfl rfl (by decide +kernel) (le2 rfl rfl)) ⟨PP.blind, va_recv hK.1 hP (ci := 16) (q0 := 4) rfl rfl, PP.mk' hK hZ hz hAz hS hPc hDc⟩ rfl rfl hl.1 rfl (lv_room (Nat.le_of_ble_eq_true rfl)) dX11_signature_15 (le2 rfl rfl)) hS (fun q _ h => hFc q h) hFc (fun u t H locs ht1 hvm hw hB hz1 hk1 hS => ?_)
  obtain ⟨hP1, hD1⟩ := hB
  rw [ht1] at hP1
  obtain ⟨hP, hD⟩ := va_join (wr := [((a 0), f_x a), ((a 2), f_book a), ((a 3), f_rows a), ((a 38), .inl (g 1, 12, .inr (.inl (fun _ => 0)))), ((a 39), .inl (g 1, 12, .inr (.inl (fun _ => 0))))]) (w1 := [((a 4), f_words a), ((a 1), f_net a)]) hP hD [4, 1] [0, 2, 3, 5, 6] rfl rfl (by decide) (by decide) hk1 hFc hP1 hD1
  have hP : va_P D vwCl [((a 0), f_x a), ((a 2), f_book a), ((a 3), f_rows a), ((a 38), .inl (g 1, 12, .inr (.inl (fun _ => 0)))), ((a 39), .inl (g 1, 12, .inr (.inl (fun _ => 0)))), ((a 4), f_words a), ((a 1), f_net a)] H := hP
  have hD : va_D (va_A [((a 0), f_x a), ((a 3), f_rows a), ((a 4), f_words a), ((a 38), .inl (g 1, 12, .inr (.inl (fun _ => 0)))), ((a 39), .inl (g 1, 12, .inr (.inl (fun _ => 0)))), ((a 1), f_net a), ((a 2), f_book a)] s.heap.size) [((a 0), f_x a), ((a 2), f_book a), ((a 3), f_rows a), ((a 38), .inl (g 1, 12, .inr (.inl (fun _ => 0)))), ((a 39), .inl (g 1, 12, .inr (.inl (fun _ => 0)))), ((a 4), f_words a), ((a 1), f_net a)] := hD
  refine lv_iload_n hx hb dX11_signature_18 rfl (lv_at hl 1 rfl) ?_
  refine lv_iconst (v := (-1)) hx hb dX11_signature_19 (by decide) ?_
  refine lv_icmp_eq (tgt := 37) hx hb dX11_signature_20 (by decide) (fun c_1 => ?_) (fun c_1 => ?_)
  · refine lv_aload_n hx hb dX11_signature_37 rfl (lv_at hl 0 rfl) ?_
    have hPc : va_P D vwCl [((a 0), f_x a), ((a 3), f_rows a)] _ := hP.sub (ws' := [((a 0), f_x a), ((a 3), f_rows a)]) [0, 2] rfl
    have hDc : va_D (fun q => z0 ≤ q) [((a 0), f_x a), ((a 3), f_rows a)] := (hD.to hAz).pick (ws' := [((a 0), f_x a), ((a 3), f_rows a)]) [0, 2] (by decide) rfl
    have hFc := AnA (ws := [((a 0), f_x a), ((a 3), f_rows a), ((a 4), f_words a), ((a 38), .inl (g 1, 12, .inr (.inl (fun _ => 0)))), ((a 39), .inl (g 1, 12, .inr (.inl (fun _ => 0)))), ((a 1), f_net a), ((a 2), f_book a)]) hS.1
    refine va_calli (va_runV (As := []) (rest := []) ⟨hx, hb, hml, hown, ht⟩ (k_X11_foldObserved l D g z0 _ a) (cwV 0 ht (gV w_27 w_29 w_30 w_31 w_28) rfl rfl rfl (by decide +kernel) (le2 rfl rfl)) ⟨PP.blind, va_recv hK.1 hP (ci := 17) (q0 := 0) rfl rfl, PP.mk' hK hZ hz hAz hS hPc hDc⟩ rfl rfl hl.1 rfl (lv_room (Nat.le_of_ble_eq_true rfl)) dX11_signature_38 (le2 rfl rfl)) hS (fun q _ h => hFc q h) hFc (fun r u t H locs ht1 hvm hw hB hz1 hk1 hS => ?_)
    obtain ⟨rfl, hw⟩ := hw
    have hP := ro1 hP hk1
    have hP9 := hP.sub (ws' := []) [] rfl
    have hD9 := hD.sub (ws' := []) [] (by decide) rfl
    refine vx_ret (W.widen (k := 1) (n := 6) (Nat.le_of_ble_eq_true rfl) (Nat.le_of_ble_eq_true rfl) ?_)
    exact W.iret (v := 0) hx hb hr (fun t ht9 hW9 => ⟨⟨0, (), rfl, ⟨rfl, c_1⟩, ⟨(by rw [ht9]; exact hP9), hD9⟩⟩, hS.F ht9⟩) hS.2.2 dX11_signature_41 hlocks
  · refine lv_aload_n hx hb dX11_signature_23 rfl (lv_at hl 0 rfl) ?_
    refine lv_iload_n hx hb dX11_signature_24 rfl (lv_at hl 1 rfl) ?_
    have hPc : va_P D vwCl [((a 0), f_x a), ((a 2), f_book a)] _ := hP.sub (ws' := [((a 0), f_x a), ((a 2), f_book a)]) [0, 1] rfl
    have hDc : va_D (fun q => z0 ≤ q) [((a 0), f_x a), ((a 2), f_book a)] := (hD.to hAz).pick (ws' := [((a 0), f_x a), ((a 2), f_book a)]) [0, 1] (by decide) rfl
    have hFc := AnA (ws := [((a 0), f_x a), ((a 3), f_rows a), ((a 4), f_words a), ((a 38), .inl (g 1, 12, .inr (.inl (fun _ => 0)))), ((a 39), .inl (g 1, 12, .inr (.inl (fun _ => 0)))), ((a 1), f_net a), ((a 2), f_book a)]) hS.1
    refine vx_callv (vx_runV (As := [.int p0]) (rest := []) ⟨hx, hb, hml, hown, ht⟩ (k_X11_needStuck l hfl D g z0 _ a p0) (cwV 1 ht (gV w_77 w_79 w_80 w_31 w_78) rfl rfl rfl (by decide +kernel) (le2 rfl rfl)) ⟨PP.blind, va_recv hK.1 hP (ci := 17) (q0 := 0) rfl rfl, PP.mk' hK hZ hz hAz hS hPc hDc⟩ rfl rfl hl.1 rfl (lv_room (Nat.le_of_ble_eq_true rfl)) dX11_signature_25 (le2 rfl rfl)) hS (fun q _ h => hFc q h) hFc (fun q _ h => hFc q h) (fun E ce q9 u t H locs ht1 hvm hw hB hz1 hk1 hS hcell hv9 hcl => ?_) (fun u t H locs ht1 hvm hw hB hz1 hk1 hS => ?_)
    · obtain ⟨rfl, hB⟩ := hB
      exact out0 htab hlocks hS hcell hv9 hcl (fun t _ hF => ⟨(), trivial, ⟨rfl, c_1⟩, hF⟩) (fun _ h => h) rfl rfl
    · exact hw.elim
set_option maxHeartbeats 4000000 in
set_option maxRecDepth 100000 in
theorem k_X11_slow (l : Launch) (hfl : l.stackTraces = false) (D : va_G) (g : Nat → ClassId) (z0 sz : Nat) (a : Nat → Nat) (p0 : Int32) (p1 : Int32) : vx_Met l yX11_slow (.code yX11_slow cX11_slow 3 (some .int) :: TG) (rmk 7 1 6 102) (va_Pc [.ref (a 0), .int p0, .int p1] (PP D g z0 sz [((a 0), f_x a), ((a 1), f_net a)])) (va_Qi (fun (r : Int32) (u : Unit) => False) (fun (_ : Unit) (_ : State) => True) (va_A [] sz)) (vx_X (fun _ : Unit => True) (fun E _ _ => (E = "java/lang/IndexOutOfBoundsException" ∧ True)) (va_A [] sz)) 1 6 (va_A [] sz) := by
  refine vxm0 (cc := cX11_slow) (n := 3) (by decide) (Nat.le_of_ble_eq_true rfl) ?_
  intro p e s m args below meth c hx hb hr hml htab hown ht hlocks hnm hP0 hD0 hK hZ hsz hz ls hl
  subst hsz
  have hA : ∀ q : Nat, s.heap.size ≤ q → va_A [] s.heap.size q := Anw
  have hAz : ∀ q, va_A [] s.heap.size q → z0 ≤ q := A0z hz
  have hS : va_S (va_A [] s.heap.size) s.heap s.heap [] := va_S.rf
  have hl : lv_has ls 3 [(0, .ref (a 0)), (1, .int p0), (2, .int p1)] := hl
  refine lv_aload_n hx hb dX11_slow_0 rfl (lv_at hl 0 rfl) ?_
  refine lv_iload_n hx hb dX11_slow_1 rfl (lv_at hl 1 rfl) ?_
  have hPc : va_P D vwCl [((a 0), f_x a), ((a 1), f_net a)] _ := (ro0 hP0 hS).sub (ws' := [((a 0), f_x a), ((a 1), f_net a)]) [0, 1] rfl
  have hDc : va_D (fun q => z0 ≤ q) [((a 0), f_x a), ((a 1), f_net a)] := hD0.pick (ws' := [((a 0), f_x a), ((a 1), f_net a)]) [0, 1] (by decide) rfl
  have hFc := AnA (ws := []) hS.1
  refine vx_callv (vx_runV (As := [.int p0]) (rest := []) ⟨hx, hb, hml, hown, ht⟩ (k_X11_needLine l hfl D g z0 _ a p0) (cwV 1 ht (gV w_82 w_84 w_85 w_31 w_83) rfl rfl rfl (by decide +kernel) (le2 rfl rfl)) ⟨PP.blind, va_recv hK.1 (ro0 hP0 hS) (ci := 17) (q0 := 0) rfl rfl, PP.mk' hK hZ hz hAz hS hPc hDc⟩ rfl rfl hl.1 rfl (lv_room (Nat.le_of_ble_eq_true rfl)) dX11_slow_2 (le2 rfl rfl)) hS (fun q _ h => hFc q h) hFc (fun q _ h => hFc q h) (fun E ce q9 u t H locs ht1 hvm hw hB hz1 hk1 hS hcell hv9 hcl => ?_) (fun u t H locs ht1 hvm hw hB hz1 hk1 hS => ?_)
  · obtain ⟨rfl, hB⟩ := hB
    exact out0 htab hlocks hS hcell hv9 hcl (fun t _ hF => ⟨(), trivial, ⟨rfl, trivial⟩, hF⟩) (fun _ h => h) rfl rfl
  · exact hw.elim
set_option maxHeartbeats 4000000 in
set_option maxRecDepth 100000 in
theorem k_X1_suspectedPlaces (l : Launch) (D : va_G) (g : Nat → ClassId) (z0 sz : Nat) (a : Nat → Nat) : Met l yX1_suspectedPlaces (.code yX1_suspectedPlaces cX1_suspectedPlaces 3 (some .int) :: TG) (rmk 0 0 0 0) (va_Pc [.ref (a 8)] (PP D g z0 sz [((a 8), f_chip a)])) (va_Qi (fun (r : Int32) (u : Unit) => (r = 0) ∧ True) (fun (_ : Unit) (_ : State) => True) (va_A [] sz)) 0 0 (va_A [] sz) := by
  refine met0 (cc := cX1_suspectedPlaces) (n := 3) (by decide) (Nat.le_of_ble_eq_true rfl) ?_
  intro p e s m args below meth c hx hb hr hml hown ht hlocks hnm hP0 hD0 hK hZ hsz hz ls hl
  subst hsz
  have hA : ∀ q : Nat, s.heap.size ≤ q → va_A [] s.heap.size q := Anw
  have hAz : ∀ q, va_A [] s.heap.size q → z0 ≤ q := A0z hz
  have hS : va_S (va_A [] s.heap.size) s.heap s.heap [] := va_S.rf
  have hl : lv_has ls 3 [(0, .ref (a 8))] := hl
  refine lv_aload_n hx hb dX1_suspectedPlaces_0 rfl (lv_at hl 0 rfl) ?_
  refine va_get (D := D) (ci := 7) (v := .int (-1)) (C := RX1) (T := TX1) (N := 13) hx hb ht in_X1 hown hK.1 (ro0 hP0 hS) 0 rfl rfl 11 (by decide) (ht _ w_305) (fun _ h9 => h9) rfl dX1_suspectedPlaces_1 ?_
  refine lv_if_ge (tgt := 9) hx hb dX1_suspectedPlaces_4 (by decide) (fun c_1 => ?_) (fun c_1 => ?_)
  · exact absurd c_1 (by decide)
  · refine lv_iconst (v := 0) hx hb dX1_suspectedPlaces_7 (by decide) ?_
    refine W.widen (k := 0) (n := 0) (Nat.le_of_ble_eq_true rfl) (Nat.le_of_ble_eq_true rfl) ?_
    exact W.iret (v := 0) hx hb hr (fun t ht9 hW9 => ⟨⟨0, (), rfl, ⟨rfl, trivial⟩, trivial⟩, hS.F ht9⟩) hS.2.2 dX1_suspectedPlaces_8 hlocks
set_option maxHeartbeats 4000000 in
set_option maxRecDepth 100000 in
theorem k_X11_suspects (l : Launch) (D : va_G) (g : Nat → ClassId) (z0 sz : Nat) (a : Nat → Nat) : Met l yX11_suspects (.code yX11_suspects cX11_suspects 1 (some .int) :: TG) (rmk 1 0 0 22) (va_Pc [.ref (a 0)] (PP D g z0 sz [((a 0), f_x a), ((a 8), f_chip a)])) (va_Qi (fun (r : Int32) (u : Unit) => (r = 0) ∧ True) (fun (_ : Unit) (_ : State) => True) (va_A [] sz)) 0 0 (va_A [] sz) := by
  refine met0 (cc := cX11_suspects) (n := 1) (by decide) (Nat.le_of_ble_eq_true rfl) ?_
  intro p e s m args below meth c hx hb hr hml hown ht hlocks hnm hP0 hD0 hK hZ hsz hz ls hl
  subst hsz
  have hA : ∀ q : Nat, s.heap.size ≤ q → va_A [] s.heap.size q := Anw
  have hAz : ∀ q, va_A [] s.heap.size q → z0 ≤ q := A0z hz
  have hS : va_S (va_A [] s.heap.size) s.heap s.heap [] := va_S.rf
  have hl : lv_has ls 1 [(0, .ref (a 0))] := hl
  refine lv_aload_n hx hb dX11_suspects_0 rfl (lv_at hl 0 rfl) ?_
  refine va_get (D := D) (ci := 17) (v := .ref (a 8)) (C := RX11) (T := TX11) (N := 11) hx hb ht in_X11 hown hK.1 (ro0 hP0 hS) 0 rfl rfl 7 (by decide) (ht _ w_86) (fun _ h9 => h9) rfl dX11_suspects_1 ?_
  have hPc : va_P D vwCl [((a 8), f_chip a)] _ := (ro0 hP0 hS).sub (ws' := [((a 8), f_chip a)]) [1] rfl
  have hDc : va_D (fun q => z0 ≤ q) [((a 8), f_chip a)] := hD0.pick (ws' := [((a 8), f_chip a)]) [1] (by decide) rfl
  have hFc := AnA (ws := []) hS.1
  refine va_calli (va_runV (As := []) (rest := []) ⟨hx, hb, hml, hown, ht⟩ (k_X1_suspectedPlaces l D g z0 _ a) (cwV 0 ht (gV w_306 w_308 w_309 w_108 w_307) rfl rfl rfl (by decide +kernel) (le2 rfl rfl)) ⟨PP.blind, va_recv hK.1 (ro0 hP0 hS) (ci := 7) (q0 := 1) rfl rfl, PP.mk' hK hZ hz hAz hS hPc hDc⟩ rfl rfl hl.1 rfl (lv_room (Nat.le_of_ble_eq_true rfl)) dX11_suspects_4 (le2 rfl rfl)) hS (fun q _ h => hFc q h) hFc (fun r u t H locs ht1 hvm hw hB hz1 hk1 hS => ?_)
  obtain ⟨rfl, hw⟩ := hw
  refine W.widen (k := 0) (n := 0) (Nat.le_of_ble_eq_true rfl) (Nat.le_of_ble_eq_true rfl) ?_
  exact W.iret (v := 0) hx hb hr (fun t ht9 hW9 => ⟨⟨0, (), rfl, ⟨rfl, trivial⟩, trivial⟩, hS.F ht9⟩) hS.2.2 dX11_suspects_7 hlocks
set_option maxHeartbeats 4000000 in
set_option maxRecDepth 100000 in
theorem k_X11_tally (l : Launch) (hfl : l.stackTraces = false) (D : va_G) (g : Nat → ClassId) (z0 sz : Nat) (a : Nat → Nat) (p0 : Int32) : vx_Met l yX11_tally (.code yX11_tally cX11_tally 2 (some .int) :: TG) (rmk 8 1 6 123) (va_Pc [.ref (a 0), .int p0] (PP D g z0 sz [((a 0), f_x a), ((a 2), f_book a)])) (va_Qi (fun (r : Int32) (u : Unit) => False) (fun (_ : Unit) (_ : State) => True) (va_A [] sz)) (vx_X (fun _ : Unit => True) (fun E _ _ => (E = "java/lang/IndexOutOfBoundsException" ∧ True)) (va_A [] sz)) 1 6 (va_A [] sz) := by
  refine vxm0 (cc := cX11_tally) (n := 2) (by decide) (Nat.le_of_ble_eq_true rfl) ?_
  intro p e s m args below meth c hx hb hr hml htab hown ht hlocks hnm hP0 hD0 hK hZ hsz hz ls hl
  subst hsz
  have hA : ∀ q : Nat, s.heap.size ≤ q → va_A [] s.heap.size q := Anw
  have hAz : ∀ q, va_A [] s.heap.size q → z0 ≤ q := A0z hz
  have hS : va_S (va_A [] s.heap.size) s.heap s.heap [] := va_S.rf
  have hl : lv_has ls 2 [(0, .ref (a 0)), (1, .int p0)] := hl
  refine lv_aload_n hx hb dX11_tally_0 rfl (lv_at hl 0 rfl) ?_
  refine lv_iload_n hx hb dX11_tally_1 rfl (lv_at hl 1 rfl) ?_
  have hPc : va_P D vwCl [((a 0), f_x a), ((a 2), f_book a)] _ := (ro0 hP0 hS).sub (ws' := [((a 0), f_x a), ((a 2), f_book a)]) [0, 1] rfl
  have hDc : va_D (fun q => z0 ≤ q) [((a 0), f_x a), ((a 2), f_book a)] := hD0.pick (ws' := [((a 0), f_x a), ((a 2), f_book a)]) [0, 1] (by decide) rfl
  have hFc := AnA (ws := []) hS.1
  refine vx_callv (vx_runV (As := [.int p0]) (rest := []) ⟨hx, hb, hml, hown, ht⟩ (k_X11_needStuck l hfl D g z0 _ a p0) (cwV 1 ht (gV w_77 w_79 w_80 w_31 w_78) rfl rfl rfl (by decide +kernel) (le2 rfl rfl)) ⟨PP.blind, va_recv hK.1 (ro0 hP0 hS) (ci := 17) (q0 := 0) rfl rfl, PP.mk' hK hZ hz hAz hS hPc hDc⟩ rfl rfl hl.1 rfl (lv_room (Nat.le_of_ble_eq_true rfl)) dX11_tally_2 (le2 rfl rfl)) hS (fun q _ h => hFc q h) hFc (fun q _ h => hFc q h) (fun E ce q9 u t H locs ht1 hvm hw hB hz1 hk1 hS hcell hv9 hcl => ?_) (fun u t H locs ht1 hvm hw hB hz1 hk1 hS => ?_)
  · obtain ⟨rfl, hB⟩ := hB
    exact out0 htab hlocks hS hcell hv9 hcl (fun t _ hF => ⟨(), trivial, ⟨rfl, trivial⟩, hF⟩) (fun _ h => h) rfl rfl
  · exact hw.elim
set_option maxHeartbeats 4000000 in
set_option maxRecDepth 100000 in
theorem k_X11_testPoint (l : Launch) (hfl : l.stackTraces = false) (D : va_G) (g : Nat → ClassId) (z0 sz : Nat) (a : Nat → Nat) (p0 : Int32) : vx_Met l yX11_testPoint (.code yX11_testPoint cX11_testPoint 2 (some .int) :: TG) (rmk 7 1 6 102) (va_Pc [.ref (a 0), .int p0] (PP D g z0 sz [((a 0), f_x a), ((a 1), f_net a)])) (va_Qi (fun (r : Int32) (u : Unit) => False) (fun (_ : Unit) (_ : State) => True) (va_A [] sz)) (vx_X (fun _ : Unit => True) (fun E _ _ => (E = "java/lang/IndexOutOfBoundsException" ∧ True)) (va_A [] sz)) 1 6 (va_A [] sz) := by
  refine vxm0 (cc := cX11_testPoint) (n := 2) (by decide) (Nat.le_of_ble_eq_true rfl) ?_
  intro p e s m args below meth c hx hb hr hml htab hown ht hlocks hnm hP0 hD0 hK hZ hsz hz ls hl
  subst hsz
  have hA : ∀ q : Nat, s.heap.size ≤ q → va_A [] s.heap.size q := Anw
  have hAz : ∀ q, va_A [] s.heap.size q → z0 ≤ q := A0z hz
  have hS : va_S (va_A [] s.heap.size) s.heap s.heap [] := va_S.rf
  have hl : lv_has ls 2 [(0, .ref (a 0)), (1, .int p0)] := hl
  refine lv_aload_n hx hb dX11_testPoint_0 rfl (lv_at hl 0 rfl) ?_
  refine lv_iload_n hx hb dX11_testPoint_1 rfl (lv_at hl 1 rfl) ?_
  have hPc : va_P D vwCl [((a 0), f_x a), ((a 1), f_net a)] _ := (ro0 hP0 hS).sub (ws' := [((a 0), f_x a), ((a 1), f_net a)]) [0, 1] rfl
  have hDc : va_D (fun q => z0 ≤ q) [((a 0), f_x a), ((a 1), f_net a)] := hD0.pick (ws' := [((a 0), f_x a), ((a 1), f_net a)]) [0, 1] (by decide) rfl
  have hFc := AnA (ws := []) hS.1
  refine vx_callv (vx_runV (As := [.int p0]) (rest := []) ⟨hx, hb, hml, hown, ht⟩ (k_X11_needLine l hfl D g z0 _ a p0) (cwV 1 ht (gV w_82 w_84 w_85 w_31 w_83) rfl rfl rfl (by decide +kernel) (le2 rfl rfl)) ⟨PP.blind, va_recv hK.1 (ro0 hP0 hS) (ci := 17) (q0 := 0) rfl rfl, PP.mk' hK hZ hz hAz hS hPc hDc⟩ rfl rfl hl.1 rfl (lv_room (Nat.le_of_ble_eq_true rfl)) dX11_testPoint_2 (le2 rfl rfl)) hS (fun q _ h => hFc q h) hFc (fun q _ h => hFc q h) (fun E ce q9 u t H locs ht1 hvm hw hB hz1 hk1 hS hcell hv9 hcl => ?_) (fun u t H locs ht1 hvm hw hB hz1 hk1 hS => ?_)
  · obtain ⟨rfl, hB⟩ := hB
    exact out0 htab hlocks hS hcell hv9 hcl (fun t _ hF => ⟨(), trivial, ⟨rfl, trivial⟩, hF⟩) (fun _ h => h) rfl rfl
  · exact hw.elim
set_option maxHeartbeats 4000000 in
set_option maxRecDepth 100000 in
theorem k_X11_tie (l : Launch) (hfl : l.stackTraces = false) (D : va_G) (g : Nat → ClassId) (z0 sz : Nat) (a : Nat → Nat) (p0 : Int32) : vx_Met l yX11_tie (.code yX11_tie cX11_tie 3 (some .int) :: TG) (rmk 8 1 6 123) (va_Pc [.ref (a 0), .int p0] (PP D g z0 sz [((a 0), f_x a), ((a 2), f_book a)])) (va_Qi (fun (r : Int32) (u : Unit) => False) (fun (_ : Unit) (_ : State) => True) (va_A [] sz)) (vx_X (fun _ : Unit => True) (fun E _ _ => (E = "java/lang/IndexOutOfBoundsException" ∧ True)) (va_A [] sz)) 1 6 (va_A [] sz) := by
  refine vxm0 (cc := cX11_tie) (n := 3) (by decide) (Nat.le_of_ble_eq_true rfl) ?_
  intro p e s m args below meth c hx hb hr hml htab hown ht hlocks hnm hP0 hD0 hK hZ hsz hz ls hl
  subst hsz
  have hA : ∀ q : Nat, s.heap.size ≤ q → va_A [] s.heap.size q := Anw
  have hAz : ∀ q, va_A [] s.heap.size q → z0 ≤ q := A0z hz
  have hS : va_S (va_A [] s.heap.size) s.heap s.heap [] := va_S.rf
  have hl : lv_has ls 3 [(0, .ref (a 0)), (1, .int p0)] := hl
  refine lv_aload_n hx hb dX11_tie_0 rfl (lv_at hl 0 rfl) ?_
  refine lv_iload_n hx hb dX11_tie_1 rfl (lv_at hl 1 rfl) ?_
  have hPc : va_P D vwCl [((a 0), f_x a), ((a 2), f_book a)] _ := (ro0 hP0 hS).sub (ws' := [((a 0), f_x a), ((a 2), f_book a)]) [0, 1] rfl
  have hDc : va_D (fun q => z0 ≤ q) [((a 0), f_x a), ((a 2), f_book a)] := hD0.pick (ws' := [((a 0), f_x a), ((a 2), f_book a)]) [0, 1] (by decide) rfl
  have hFc := AnA (ws := []) hS.1
  refine vx_callv (vx_runV (As := [.int p0]) (rest := []) ⟨hx, hb, hml, hown, ht⟩ (k_X11_needStuck l hfl D g z0 _ a p0) (cwV 1 ht (gV w_77 w_79 w_80 w_31 w_78) rfl rfl rfl (by decide +kernel) (le2 rfl rfl)) ⟨PP.blind, va_recv hK.1 (ro0 hP0 hS) (ci := 17) (q0 := 0) rfl rfl, PP.mk' hK hZ hz hAz hS hPc hDc⟩ rfl rfl hl.1 rfl (lv_room (Nat.le_of_ble_eq_true rfl)) dX11_tie_2 (le2 rfl rfl)) hS (fun q _ h => hFc q h) hFc (fun q _ h => hFc q h) (fun E ce q9 u t H locs ht1 hvm hw hB hz1 hk1 hS hcell hv9 hcl => ?_) (fun u t H locs ht1 hvm hw hB hz1 hk1 hS => ?_)
  · obtain ⟨rfl, hB⟩ := hB
    exact out0 htab hlocks hS hcell hv9 hcl (fun t _ hF => ⟨(), trivial, ⟨rfl, trivial⟩, hF⟩) (fun _ h => h) rfl rfl
  · exact hw.elim
set_option maxHeartbeats 4000000 in
set_option maxRecDepth 100000 in
theorem k_X7_neededFromLast (l : Launch) (D : va_G) (g : Nat → ClassId) (z0 sz : Nat) (a : Nat → Nat) : Met l yX7_neededFromLast (.code yX7_neededFromLast cX7_neededFromLast 6 (some .long) :: TG) (rmk 0 0 0 0) (va_Pc [.ref (a 3), .ref (a 4), .ref (a 2)] (PP D g z0 sz [((a 3), f_rows a)])) (va_Ql (fun (r : Int64) (u : Unit) => (r = 0) ∧ True) (fun (_ : Unit) (_ : State) => True) (va_A [] sz)) 0 0 (va_A [] sz) := by
  refine met0 (cc := cX7_neededFromLast) (n := 6) (by decide) (Nat.le_of_ble_eq_true rfl) ?_
  intro p e s m args below meth c hx hb hr hml hown ht hlocks hnm hP0 hD0 hK hZ hsz hz ls hl
  subst hsz
  have hA : ∀ q : Nat, s.heap.size ≤ q → va_A [] s.heap.size q := Anw
  have hAz : ∀ q, va_A [] s.heap.size q → z0 ≤ q := A0z hz
  have hS : va_S (va_A [] s.heap.size) s.heap s.heap [] := va_S.rf
  have hl : lv_has ls 6 [(0, .ref (a 3)), (1, .ref (a 4)), (2, .ref (a 2))] := hl
  refine lv_lconst (v := 0) hx hb dX7_neededFromLast_0 (by decide) ?_
  refine lv_lstore_n (lv' := [(3, .long 0), (0, .ref (a 3)), (1, .ref (a 4)), (2, .ref (a 2))]) hx hb dX7_neededFromLast_1 rfl hl (by decide) rfl (fun ls hl => ?_)
  refine lv_aload_n hx hb dX7_neededFromLast_2 rfl (lv_at hl 1 rfl) ?_
  refine va_get (D := D) (ci := 13) (v := .int 0) (C := RX7) (T := TX7) (N := 6) hx hb ht in_X7 hown hK.1 (ro0 hP0 hS) 0 rfl rfl 5 (by decide) (ht _ w_178) (fun _ h9 => h9) rfl dX7_neededFromLast_3 ?_
  refine lv_iconst (v := 1) hx hb dX7_neededFromLast_6 (by decide) ?_
  refine lv_isub hx hb dX7_neededFromLast_7 ?_
  refine r_topi (v := (-1)) (by decide) ?_
  refine lv_istore (lv' := [(5, .int (-1)), (3, .long 0), (0, .ref (a 3)), (1, .ref (a 4)), (2, .ref (a 2))]) hx hb dX7_neededFromLast_8 hl (by decide) rfl (fun ls hl => ?_)
  refine lv_iload hx hb dX7_neededFromLast_10 (lv_at hl 0 rfl) ?_
  refine lv_if_lt (tgt := 41) hx hb dX7_neededFromLast_12 (by decide) (fun c_1 => ?_) (fun c_1 => ?_)
  · refine lv_lload_n hx hb dX7_neededFromLast_41 rfl (lv_at hl 1 rfl) ?_
    refine W.widen (k := 0) (n := 0) (Nat.le_of_ble_eq_true rfl) (Nat.le_of_ble_eq_true rfl) ?_
    exact W.lret (v := 0) hx hb hr (fun t ht9 hW9 => ⟨⟨0, (), rfl, ⟨rfl, trivial⟩, trivial⟩, hS.F ht9⟩) hS.2.2 dX7_neededFromLast_42 hlocks
  · exact absurd c_1 (by decide)
set_option maxHeartbeats 4000000 in
set_option maxRecDepth 100000 in
theorem k_X7_keep (l : Launch) (D : va_G) (g : Nat → ClassId) (z0 sz : Nat) (a : Nat → Nat) (p0 : Int64) : Met l yX7_keep (.code yX7_keep cX7_keep 5 none :: TG) (rmk 0 0 0 0) (va_Pc [.ref (a 3), .long p0] (PP D g z0 sz [((a 3), f_rows a)])) (va_Qv (fun (u : Unit) => True) (fun (u : Unit) (t : State) => va_P D vwCl [((a 3), .inr (13, [.ref (a 33), .ref (a 34), .ref (a 35), .ref (a 36), .ref (a 37), .int 0]))] t.heap ∧ va_D (va_A [((a 3), f_rows a)] sz) [((a 3), .inr (13, [.ref (a 33), .ref (a 34), .ref (a 35), .ref (a 36), .ref (a 37), .int 0]))]) (va_A [((a 3), f_rows a)] sz)) 0 0 (va_A [((a 3), f_rows a)] sz) := by
  refine met0 (cc := cX7_keep) (n := 5) (by decide) (Nat.le_of_ble_eq_true rfl) ?_
  intro p e s m args below meth c hx hb hr hml hown ht hlocks hnm hP0 hD0 hK hZ hsz hz ls hl
  subst hsz
  have hA : ∀ q : Nat, s.heap.size ≤ q → va_A [((a 3), f_rows a)] s.heap.size q := Anw
  have hAz : ∀ q, va_A [((a 3), f_rows a)] s.heap.size q → z0 ≤ q := Awz hz hD0
  have hS : va_S (va_A [((a 3), f_rows a)] s.heap.size) s.heap s.heap [] := va_S.rf
  have hD : va_D (va_A [((a 3), f_rows a)] s.heap.size) [((a 3), f_rows a)] := hD0.self
  have hP : va_P D vwCl [((a 3), f_rows a)] s.heap := hP0
  have hl : lv_has ls 5 [(0, .ref (a 3)), (1, .long p0)] := hl
  refine lv_iconst (v := 0) hx hb dX7_keep_0 (by decide) ?_
  refine lv_istore_n (lv' := [(3, .int 0), (0, .ref (a 3)), (1, .long p0)]) hx hb dX7_keep_1 rfl hl (by decide) rfl (fun ls hl => ?_)
  refine lv_iconst (v := 0) hx hb dX7_keep_2 (by decide) ?_
  refine lv_istore (lv' := [(4, .int 0), (3, .int 0), (0, .ref (a 3)), (1, .long p0)]) hx hb dX7_keep_3 hl (by decide) rfl (fun ls hl => ?_)
  refine lv_iload hx hb dX7_keep_5 (lv_at hl 0 rfl) ?_
  refine lv_aload_n hx hb dX7_keep_7 rfl (lv_at hl 2 rfl) ?_
  refine va_get (D := D) (ci := 13) (v := .int 0) (C := RX7) (T := TX7) (N := 6) hx hb ht in_X7 hown hK.1 hP 0 rfl rfl 5 (by decide) (ht _ w_178) (fun _ h9 => h9) rfl dX7_keep_8 ?_
  refine lv_icmp_ge (tgt := 41) hx hb dX7_keep_11 (by decide) (fun c_1 => ?_) (fun c_1 => ?_)
  · refine lv_aload_n hx hb dX7_keep_41 rfl (lv_at hl 2 rfl) ?_
    refine lv_iload_n hx hb dX7_keep_42 rfl (lv_at hl 1 rfl) ?_
    refine va_put (D := D) (ci := 13) (v := .int 0) (ty := .int) (C := RX7) (T := TX7) (N := 6) hx hb ht in_X7 tyX7 tyX7_ok nmX7 hown hK.1 hP hD hS 0 rfl rfl 5 (by decide) (ht _ w_178) (fun _ h9 => h9) rfl (by decide +kernel) rfl rfl (Nat.le_of_ble_eq_true rfl) dX7_keep_43 (fun H locs hP hD hS => ?_)
    have hP : va_P D vwCl [((a 3), .inr (13, [.ref (a 33), .ref (a 34), .ref (a 35), .ref (a 36), .ref (a 37), .int 0]))] H := hP
    have hD : va_D (va_A [((a 3), f_rows a)] s.heap.size) [((a 3), .inr (13, [.ref (a 33), .ref (a 34), .ref (a 35), .ref (a 36), .ref (a 37), .int 0]))] := hD
    have hP9 := hP.sub (ws' := [((a 3), .inr (13, [.ref (a 33), .ref (a 34), .ref (a 35), .ref (a 36), .ref (a 37), .int 0]))]) [0] rfl
    have hD9 := hD.sub (ws' := [((a 3), .inr (13, [.ref (a 33), .ref (a 34), .ref (a 35), .ref (a 36), .ref (a 37), .int 0]))]) [0] (by decide) rfl
    refine W.widen (k := 0) (n := 0) (Nat.le_of_ble_eq_true rfl) (Nat.le_of_ble_eq_true rfl) ?_
    exact W.vret hx hb hr (fun t ht9 hW9 => ⟨⟨(), rfl, trivial, ⟨(by rw [ht9]; exact hP9), hD9⟩⟩, hS.F ht9⟩) hS.2.2 dX7_keep_46 hlocks
  · exact absurd c_1 (by decide)
set_option maxHeartbeats 4000000 in
set_option maxRecDepth 100000 in
theorem k_X11_turnAbout (l : Launch) (D : va_G) (g : Nat → ClassId) (z0 sz : Nat) (a : Nat → Nat) : Met l yX11_turnAbout (.code yX11_turnAbout cX11_turnAbout 1 (some .int) :: TG) (rmk 4 0 0 90) (va_Pc [.ref (a 0)] (PP D g z0 sz [((a 0), f_x a), ((a 3), f_rows a), ((a 4), f_words a), ((a 38), .inl (g 1, 12, .inr (.inl (fun _ => 0)))), ((a 39), .inl (g 1, 12, .inr (.inl (fun _ => 0)))), ((a 1), f_net a), ((a 2), f_book a)])) (va_Qi (fun (r : Int32) (u : Unit) => (r = 0) ∧ True) (fun (u : Unit) (t : State) => va_P D vwCl [] t.heap ∧ va_D (va_A [((a 0), f_x a), ((a 3), f_rows a), ((a 4), f_words a), ((a 38), .inl (g 1, 12, .inr (.inl (fun _ => 0)))), ((a 39), .inl (g 1, 12, .inr (.inl (fun _ => 0)))), ((a 1), f_net a), ((a 2), f_book a)] sz) []) (va_A [((a 0), f_x a), ((a 3), f_rows a), ((a 4), f_words a), ((a 38), .inl (g 1, 12, .inr (.inl (fun _ => 0)))), ((a 39), .inl (g 1, 12, .inr (.inl (fun _ => 0)))), ((a 1), f_net a), ((a 2), f_book a)] sz)) 0 0 (va_A [((a 0), f_x a), ((a 3), f_rows a), ((a 4), f_words a), ((a 38), .inl (g 1, 12, .inr (.inl (fun _ => 0)))), ((a 39), .inl (g 1, 12, .inr (.inl (fun _ => 0)))), ((a 1), f_net a), ((a 2), f_book a)] sz) := by
  refine met0 (cc := cX11_turnAbout) (n := 1) (by decide) (Nat.le_of_ble_eq_true rfl) ?_
  intro p e s m args below meth c hx hb hr hml hown ht hlocks hnm hP0 hD0 hK hZ hsz hz ls hl
  subst hsz
  have hA : ∀ q : Nat, s.heap.size ≤ q → va_A [((a 0), f_x a), ((a 3), f_rows a), ((a 4), f_words a), ((a 38), .inl (g 1, 12, .inr (.inl (fun _ => 0)))), ((a 39), .inl (g 1, 12, .inr (.inl (fun _ => 0)))), ((a 1), f_net a), ((a 2), f_book a)] s.heap.size q := Anw
  have hAz : ∀ q, va_A [((a 0), f_x a), ((a 3), f_rows a), ((a 4), f_words a), ((a 38), .inl (g 1, 12, .inr (.inl (fun _ => 0)))), ((a 39), .inl (g 1, 12, .inr (.inl (fun _ => 0)))), ((a 1), f_net a), ((a 2), f_book a)] s.heap.size q → z0 ≤ q := Awz hz hD0
  have hS : va_S (va_A [((a 0), f_x a), ((a 3), f_rows a), ((a 4), f_words a), ((a 38), .inl (g 1, 12, .inr (.inl (fun _ => 0)))), ((a 39), .inl (g 1, 12, .inr (.inl (fun _ => 0)))), ((a 1), f_net a), ((a 2), f_book a)] s.heap.size) s.heap s.heap [] := va_S.rf
  have hD : va_D (va_A [((a 0), f_x a), ((a 3), f_rows a), ((a 4), f_words a), ((a 38), .inl (g 1, 12, .inr (.inl (fun _ => 0)))), ((a 39), .inl (g 1, 12, .inr (.inl (fun _ => 0)))), ((a 1), f_net a), ((a 2), f_book a)] s.heap.size) [((a 0), f_x a), ((a 3), f_rows a), ((a 4), f_words a), ((a 38), .inl (g 1, 12, .inr (.inl (fun _ => 0)))), ((a 39), .inl (g 1, 12, .inr (.inl (fun _ => 0)))), ((a 1), f_net a), ((a 2), f_book a)] := hD0.self
  have hP : va_P D vwCl [((a 0), f_x a), ((a 3), f_rows a), ((a 4), f_words a), ((a 38), .inl (g 1, 12, .inr (.inl (fun _ => 0)))), ((a 39), .inl (g 1, 12, .inr (.inl (fun _ => 0)))), ((a 1), f_net a), ((a 2), f_book a)] s.heap := hP0
  have hl : lv_has ls 1 [(0, .ref (a 0))] := hl
  refine lv_aload_n hx hb dX11_turnAbout_0 rfl (lv_at hl 0 rfl) ?_
  refine va_get (D := D) (ci := 17) (v := .ref (a 4)) (C := RX11) (T := TX11) (N := 11) hx hb ht in_X11 hown hK.1 hP 0 rfl rfl 3 (by decide) (ht _ w_0) (fun _ h9 => h9) rfl dX11_turnAbout_1 ?_
  refine lv_aload_n hx hb dX11_turnAbout_4 rfl (lv_at hl 0 rfl) ?_
  refine va_get (D := D) (ci := 17) (v := .ref (a 3)) (C := RX11) (T := TX11) (N := 11) hx hb ht in_X11 hown hK.1 hP 0 rfl rfl 2 (by decide) (ht _ w_1) (fun _ h9 => h9) rfl dX11_turnAbout_5 ?_
  have hPc : va_P D vwCl [((a 3), f_rows a), ((a 4), f_words a), ((a 38), .inl (g 1, 12, .inr (.inl (fun _ => 0)))), ((a 39), .inl (g 1, 12, .inr (.inl (fun _ => 0)))), ((a 1), f_net a), ((a 2), f_book a)] _ := hP.sub (ws' := [((a 3), f_rows a), ((a 4), f_words a), ((a 38), .inl (g 1, 12, .inr (.inl (fun _ => 0)))), ((a 39), .inl (g 1, 12, .inr (.inl (fun _ => 0)))), ((a 1), f_net a), ((a 2), f_book a)]) [1, 2, 3, 4, 5, 6] rfl
  have hDc : va_D (fun q => z0 ≤ q) [((a 3), f_rows a), ((a 4), f_words a), ((a 38), .inl (g 1, 12, .inr (.inl (fun _ => 0)))), ((a 39), .inl (g 1, 12, .inr (.inl (fun _ => 0)))), ((a 1), f_net a), ((a 2), f_book a)] := (hD.to hAz).pick (ws' := [((a 3), f_rows a), ((a 4), f_words a), ((a 38), .inl (g 1, 12, .inr (.inl (fun _ => 0)))), ((a 39), .inl (g 1, 12, .inr (.inl (fun _ => 0)))), ((a 1), f_net a), ((a 2), f_book a)]) [1, 2, 3, 4, 5, 6] (by decide) rfl
  have hFc := va_free (wc := [((a 3), f_rows a), ((a 4), f_words a), ((a 38), .inl (g 1, 12, .inr (.inl (fun _ => 0)))), ((a 39), .inl (g 1, 12, .inr (.inl (fun _ => 0)))), ((a 1), f_net a), ((a 2), f_book a)]) hD hS hA [1, 2, 3, 4, 5, 6] rfl
  refine va_callv (va_runV (As := [.ref (a 3)]) (rest := []) ⟨hx, hb, hml, hown, ht⟩ (k_X10_findAll l D g z0 _ a) (cwV 1 ht (gV w_173 w_175 w_176 w_14 w_174) rfl rfl rfl (by decide +kernel) (le2 rfl rfl)) ⟨PP.blind, va_recv hK.1 hP (ci := 16) (q0 := 2) rfl rfl, PP.mk' hK hZ hz hAz hS hPc hDc⟩ rfl rfl hl.1 rfl (lv_room (Nat.le_of_ble_eq_true rfl)) dX11_turnAbout_8 (le2 rfl rfl)) hS (fun q _ h => hFc q h) hFc (fun u t H locs ht1 hvm hw hB hz1 hk1 hS => ?_)
  obtain ⟨hP1, hD1⟩ := hB
  rw [ht1] at hP1
  obtain ⟨hP, hD⟩ := va_join (wr := [((a 0), f_x a)]) (w1 := [((a 3), f_rows a), ((a 38), .inl (g 1, 12, .inr (.inl (fun _ => 0)))), ((a 39), .inl (g 1, 12, .inr (.inl (fun _ => 0)))), ((a 4), f_words a), ((a 1), f_net a), ((a 2), f_book a)]) hP hD [1, 2, 3, 4, 5, 6] [0] rfl rfl (by decide) (by decide) hk1 hFc hP1 hD1
  have hP : va_P D vwCl [((a 0), f_x a), ((a 3), f_rows a), ((a 38), .inl (g 1, 12, .inr (.inl (fun _ => 0)))), ((a 39), .inl (g 1, 12, .inr (.inl (fun _ => 0)))), ((a 4), f_words a), ((a 1), f_net a), ((a 2), f_book a)] H := hP
  have hD : va_D (va_A [((a 0), f_x a), ((a 3), f_rows a), ((a 4), f_words a), ((a 38), .inl (g 1, 12, .inr (.inl (fun _ => 0)))), ((a 39), .inl (g 1, 12, .inr (.inl (fun _ => 0)))), ((a 1), f_net a), ((a 2), f_book a)] s.heap.size) [((a 0), f_x a), ((a 3), f_rows a), ((a 38), .inl (g 1, 12, .inr (.inl (fun _ => 0)))), ((a 39), .inl (g 1, 12, .inr (.inl (fun _ => 0)))), ((a 4), f_words a), ((a 1), f_net a), ((a 2), f_book a)] := hD
  refine lv_aload_n hx hb dX11_turnAbout_11 rfl (lv_at hl 0 rfl) ?_
  refine va_get (D := D) (ci := 17) (v := .ref (a 3)) (C := RX11) (T := TX11) (N := 11) hx hb ht in_X11 hown hK.1 hP 0 rfl rfl 2 (by decide) (ht _ w_1) (fun _ h9 => h9) rfl dX11_turnAbout_12 ?_
  refine lv_aload_n hx hb dX11_turnAbout_15 rfl (lv_at hl 0 rfl) ?_
  refine va_get (D := D) (ci := 17) (v := .ref (a 3)) (C := RX11) (T := TX11) (N := 11) hx hb ht in_X11 hown hK.1 hP 0 rfl rfl 2 (by decide) (ht _ w_1) (fun _ h9 => h9) rfl dX11_turnAbout_16 ?_
  refine lv_aload_n hx hb dX11_turnAbout_19 rfl (lv_at hl 0 rfl) ?_
  refine va_get (D := D) (ci := 17) (v := .ref (a 4)) (C := RX11) (T := TX11) (N := 11) hx hb ht in_X11 hown hK.1 hP 0 rfl rfl 3 (by decide) (ht _ w_0) (fun _ h9 => h9) rfl dX11_turnAbout_20 ?_
  refine lv_aload_n hx hb dX11_turnAbout_23 rfl (lv_at hl 0 rfl) ?_
  refine va_get (D := D) (ci := 17) (v := .ref (a 2)) (C := RX11) (T := TX11) (N := 11) hx hb ht in_X11 hown hK.1 hP 0 rfl rfl 1 (by decide) (ht _ w_32) (fun _ h9 => h9) rfl dX11_turnAbout_24 ?_
  have hPc : va_P D vwCl [((a 3), f_rows a)] _ := hP.sub (ws' := [((a 3), f_rows a)]) [1] rfl
  have hDc : va_D (fun q => z0 ≤ q) [((a 3), f_rows a)] := (hD.to hAz).pick (ws' := [((a 3), f_rows a)]) [1] (by decide) rfl
  have hFc := AnA (ws := [((a 0), f_x a), ((a 3), f_rows a), ((a 4), f_words a), ((a 38), .inl (g 1, 12, .inr (.inl (fun _ => 0)))), ((a 39), .inl (g 1, 12, .inr (.inl (fun _ => 0)))), ((a 1), f_net a), ((a 2), f_book a)]) hS.1
  refine va_calll (va_runV (As := [.ref (a 4), .ref (a 2)]) (rest := [.ref (a 3)]) ⟨hx, hb, hml, hown, ht⟩ (k_X7_neededFromLast l D g z0 _ a) (cwV 2 ht (gV w_310 w_312 w_313 w_183 w_311) rfl rfl rfl (by decide +kernel) (le2 rfl rfl)) ⟨PP.blind, va_recv hK.1 hP (ci := 13) (q0 := 1) rfl rfl, PP.mk' hK hZ hz hAz hS hPc hDc⟩ rfl rfl hl.1 rfl (lv_room (Nat.le_of_ble_eq_true rfl)) dX11_turnAbout_27 (le2 rfl rfl)) hS (fun q _ h => hFc q h) hFc (fun r u t H locs ht1 hvm hw hB hz1 hk1 hS => ?_)
  obtain ⟨rfl, hw⟩ := hw
  have hP := ro1 hP hk1
  have hPc : va_P D vwCl [((a 3), f_rows a)] _ := hP.sub (ws' := [((a 3), f_rows a)]) [1] rfl
  have hDc : va_D (fun q => z0 ≤ q) [((a 3), f_rows a)] := (hD.to hAz).pick (ws' := [((a 3), f_rows a)]) [1] (by decide) rfl
  have hFc := va_free (wc := [((a 3), f_rows a)]) hD hS hA [1] rfl
  refine va_callv (va_runV (As := [.long 0]) (rest := []) ⟨hx, hb, hml, hown, ht⟩ (k_X7_keep l D g z0 _ a 0) (cwV 1 ht (gV w_314 w_316 w_317 w_183 w_315) rfl rfl rfl (by decide +kernel) (le2 rfl rfl)) ⟨PP.blind, va_recv hK.1 hP (ci := 13) (q0 := 1) rfl rfl, PP.mk' hK hZ hz hAz hS hPc hDc⟩ rfl rfl hl.1 rfl (lv_room (Nat.le_of_ble_eq_true rfl)) dX11_turnAbout_30 (le2 rfl rfl)) hS (fun q _ h => hFc q h) hFc (fun u t H locs ht1 hvm hw hB hz1 hk1 hS => ?_)
  obtain ⟨hP1, hD1⟩ := hB
  rw [ht1] at hP1
  obtain ⟨hP, hD⟩ := va_join (wr := [((a 0), f_x a), ((a 38), .inl (g 1, 12, .inr (.inl (fun _ => 0)))), ((a 39), .inl (g 1, 12, .inr (.inl (fun _ => 0)))), ((a 4), f_words a), ((a 1), f_net a), ((a 2), f_book a)]) (w1 := [((a 3), f_rows a)]) hP hD [1] [0, 2, 3, 4, 5, 6] rfl rfl (by decide) (by decide) hk1 hFc hP1 hD1
  have hP : va_P D vwCl [((a 0), f_x a), ((a 38), .inl (g 1, 12, .inr (.inl (fun _ => 0)))), ((a 39), .inl (g 1, 12, .inr (.inl (fun _ => 0)))), ((a 4), f_words a), ((a 1), f_net a), ((a 2), f_book a), ((a 3), f_rows a)] H := hP
  have hD : va_D (va_A [((a 0), f_x a), ((a 3), f_rows a), ((a 4), f_words a), ((a 38), .inl (g 1, 12, .inr (.inl (fun _ => 0)))), ((a 39), .inl (g 1, 12, .inr (.inl (fun _ => 0)))), ((a 1), f_net a), ((a 2), f_book a)] s.heap.size) [((a 0), f_x a), ((a 38), .inl (g 1, 12, .inr (.inl (fun _ => 0)))), ((a 39), .inl (g 1, 12, .inr (.inl (fun _ => 0)))), ((a 4), f_words a), ((a 1), f_net a), ((a 2), f_book a), ((a 3), f_rows a)] := hD
  refine lv_aload_n hx hb dX11_turnAbout_33 rfl (lv_at hl 0 rfl) ?_
  refine va_get (D := D) (ci := 17) (v := .ref (a 3)) (C := RX11) (T := TX11) (N := 11) hx hb ht in_X11 hown hK.1 hP 0 rfl rfl 2 (by decide) (ht _ w_1) (fun _ h9 => h9) rfl dX11_turnAbout_34 ?_
  refine va_get (D := D) (ci := 13) (v := .int 0) (C := RX7) (T := TX7) (N := 6) hx hb ht in_X7 hown hK.1 hP 6 rfl rfl 5 (by decide) (ht _ w_26) (fun _ h9 => h9) rfl dX11_turnAbout_37 ?_
  have hP9 := hP.sub (ws' := []) [] rfl
  have hD9 := hD.sub (ws' := []) [] (by decide) rfl
  refine W.widen (k := 0) (n := 0) (Nat.le_of_ble_eq_true rfl) (Nat.le_of_ble_eq_true rfl) ?_
  exact W.iret (v := 0) hx hb hr (fun t ht9 hW9 => ⟨⟨0, (), rfl, ⟨rfl, trivial⟩, ⟨(by rw [ht9]; exact hP9), hD9⟩⟩, hS.F ht9⟩) hS.2.2 dX11_turnAbout_40 hlocks
set_option maxHeartbeats 4000000 in
set_option maxRecDepth 100000 in
theorem k_X11_value (l : Launch) (hfl : l.stackTraces = false) (D : va_G) (g : Nat → ClassId) (z0 sz : Nat) (a : Nat → Nat) (p0 : Int32) (p1 : Int32) : vx_Met l yX11_value (.code yX11_value cX11_value 3 (some .int) :: TG) (rmk 7 1 6 102) (va_Pc [.ref (a 0), .int p0, .int p1] (PP D g z0 sz [((a 0), f_x a), ((a 3), f_rows a)])) (va_Qi (fun (r : Int32) (u : Unit) => False) (fun (_ : Unit) (_ : State) => True) (va_A [] sz)) (vx_X (fun _ : Unit => True) (fun E _ _ => (E = "java/lang/IndexOutOfBoundsException" ∧ True)) (va_A [] sz)) 1 6 (va_A [] sz) := by
  refine vxm0 (cc := cX11_value) (n := 3) (by decide) (Nat.le_of_ble_eq_true rfl) ?_
  intro p e s m args below meth c hx hb hr hml htab hown ht hlocks hnm hP0 hD0 hK hZ hsz hz ls hl
  subst hsz
  have hA : ∀ q : Nat, s.heap.size ≤ q → va_A [] s.heap.size q := Anw
  have hAz : ∀ q, va_A [] s.heap.size q → z0 ≤ q := A0z hz
  have hS : va_S (va_A [] s.heap.size) s.heap s.heap [] := va_S.rf
  have hl : lv_has ls 3 [(0, .ref (a 0)), (1, .int p0), (2, .int p1)] := hl
  refine lv_aload_n hx hb dX11_value_0 rfl (lv_at hl 0 rfl) ?_
  refine lv_iload_n hx hb dX11_value_1 rfl (lv_at hl 1 rfl) ?_
  have hPc : va_P D vwCl [((a 0), f_x a), ((a 3), f_rows a)] _ := (ro0 hP0 hS).sub (ws' := [((a 0), f_x a), ((a 3), f_rows a)]) [0, 1] rfl
  have hDc : va_D (fun q => z0 ≤ q) [((a 0), f_x a), ((a 3), f_rows a)] := hD0.pick (ws' := [((a 0), f_x a), ((a 3), f_rows a)]) [0, 1] (by decide) rfl
  have hFc := AnA (ws := []) hS.1
  refine vx_callv (vx_runV (As := [.int p0]) (rest := []) ⟨hx, hb, hml, hown, ht⟩ (k_X11_needPattern l hfl D g z0 _ a p0) (cwV 1 ht (gV w_184 w_186 w_187 w_31 w_185) rfl rfl rfl (by decide +kernel) (le2 rfl rfl)) ⟨PP.blind, va_recv hK.1 (ro0 hP0 hS) (ci := 17) (q0 := 0) rfl rfl, PP.mk' hK hZ hz hAz hS hPc hDc⟩ rfl rfl hl.1 rfl (lv_room (Nat.le_of_ble_eq_true rfl)) dX11_value_2 (le2 rfl rfl)) hS (fun q _ h => hFc q h) hFc (fun q _ h => hFc q h) (fun E ce q9 u t H locs ht1 hvm hw hB hz1 hk1 hS hcell hv9 hcl => ?_) (fun u t H locs ht1 hvm hw hB hz1 hk1 hS => ?_)
  · obtain ⟨rfl, hB⟩ := hB
    exact out0 htab hlocks hS hcell hv9 hcl (fun t _ hF => ⟨(), trivial, ⟨rfl, trivial⟩, hF⟩) (fun _ h => h) rfl rfl
  · exact hw.elim
set_option maxHeartbeats 4000000 in
set_option maxRecDepth 100000 in
theorem k_X11_ways (l : Launch) (hfl : l.stackTraces = false) (D : va_G) (g : Nat → ClassId) (z0 sz : Nat) (a : Nat → Nat) (p0 : Int32) : vx_Met l yX11_ways (.code yX11_ways cX11_ways 2 (some .int) :: TG) (rmk 8 1 6 123) (va_Pc [.ref (a 0), .int p0] (PP D g z0 sz [((a 0), f_x a), ((a 2), f_book a)])) (va_Qi (fun (r : Int32) (u : Unit) => False) (fun (_ : Unit) (_ : State) => True) (va_A [] sz)) (vx_X (fun _ : Unit => True) (fun E _ _ => (E = "java/lang/IndexOutOfBoundsException" ∧ True)) (va_A [] sz)) 1 6 (va_A [] sz) := by
  refine vxm0 (cc := cX11_ways) (n := 2) (by decide) (Nat.le_of_ble_eq_true rfl) ?_
  intro p e s m args below meth c hx hb hr hml htab hown ht hlocks hnm hP0 hD0 hK hZ hsz hz ls hl
  subst hsz
  have hA : ∀ q : Nat, s.heap.size ≤ q → va_A [] s.heap.size q := Anw
  have hAz : ∀ q, va_A [] s.heap.size q → z0 ≤ q := A0z hz
  have hS : va_S (va_A [] s.heap.size) s.heap s.heap [] := va_S.rf
  have hl : lv_has ls 2 [(0, .ref (a 0)), (1, .int p0)] := hl
  refine lv_aload_n hx hb dX11_ways_0 rfl (lv_at hl 0 rfl) ?_
  refine lv_iload_n hx hb dX11_ways_1 rfl (lv_at hl 1 rfl) ?_
  have hPc : va_P D vwCl [((a 0), f_x a), ((a 2), f_book a)] _ := (ro0 hP0 hS).sub (ws' := [((a 0), f_x a), ((a 2), f_book a)]) [0, 1] rfl
  have hDc : va_D (fun q => z0 ≤ q) [((a 0), f_x a), ((a 2), f_book a)] := hD0.pick (ws' := [((a 0), f_x a), ((a 2), f_book a)]) [0, 1] (by decide) rfl
  have hFc := AnA (ws := []) hS.1
  refine vx_callv (vx_runV (As := [.int p0]) (rest := []) ⟨hx, hb, hml, hown, ht⟩ (k_X11_needStuck l hfl D g z0 _ a p0) (cwV 1 ht (gV w_77 w_79 w_80 w_31 w_78) rfl rfl rfl (by decide +kernel) (le2 rfl rfl)) ⟨PP.blind, va_recv hK.1 (ro0 hP0 hS) (ci := 17) (q0 := 0) rfl rfl, PP.mk' hK hZ hz hAz hS hPc hDc⟩ rfl rfl hl.1 rfl (lv_room (Nat.le_of_ble_eq_true rfl)) dX11_ways_2 (le2 rfl rfl)) hS (fun q _ h => hFc q h) hFc (fun q _ h => hFc q h) (fun E ce q9 u t H locs ht1 hvm hw hB hz1 hk1 hS hcell hv9 hcl => ?_) (fun u t H locs ht1 hvm hw hB hz1 hk1 hS => ?_)
  · obtain ⟨rfl, hB⟩ := hB
    exact out0 htab hlocks hS hcell hv9 hcl (fun t _ hF => ⟨(), trivial, ⟨rfl, trivial⟩, hF⟩) (fun _ h => h) rfl rfl
  · exact hw.elim
set_option maxHeartbeats 4000000 in
set_option maxRecDepth 100000 in
theorem k_X11_weight (l : Launch) (hfl : l.stackTraces = false) (D : va_G) (g : Nat → ClassId) (z0 sz : Nat) (a : Nat → Nat) (p0 : Int32) : vx_Met l yX11_weight (.code yX11_weight cX11_weight 2 (some .int) :: TG) (rmk 7 1 6 102) (va_Pc [.ref (a 0), .int p0] (PP D g z0 sz [((a 0), f_x a), ((a 1), f_net a)])) (va_Qi (fun (r : Int32) (u : Unit) => False) (fun (_ : Unit) (_ : State) => True) (va_A [] sz)) (vx_X (fun _ : Unit => True) (fun E _ _ => (E = "java/lang/IndexOutOfBoundsException" ∧ True)) (va_A [] sz)) 1 6 (va_A [] sz) := by
  refine vxm0 (cc := cX11_weight) (n := 2) (by decide) (Nat.le_of_ble_eq_true rfl) ?_
  intro p e s m args below meth c hx hb hr hml htab hown ht hlocks hnm hP0 hD0 hK hZ hsz hz ls hl
  subst hsz
  have hA : ∀ q : Nat, s.heap.size ≤ q → va_A [] s.heap.size q := Anw
  have hAz : ∀ q, va_A [] s.heap.size q → z0 ≤ q := A0z hz
  have hS : va_S (va_A [] s.heap.size) s.heap s.heap [] := va_S.rf
  have hl : lv_has ls 2 [(0, .ref (a 0)), (1, .int p0)] := hl
  refine lv_aload_n hx hb dX11_weight_0 rfl (lv_at hl 0 rfl) ?_
  refine lv_iload_n hx hb dX11_weight_1 rfl (lv_at hl 1 rfl) ?_
  have hPc : va_P D vwCl [((a 0), f_x a), ((a 1), f_net a)] _ := (ro0 hP0 hS).sub (ws' := [((a 0), f_x a), ((a 1), f_net a)]) [0, 1] rfl
  have hDc : va_D (fun q => z0 ≤ q) [((a 0), f_x a), ((a 1), f_net a)] := hD0.pick (ws' := [((a 0), f_x a), ((a 1), f_net a)]) [0, 1] (by decide) rfl
  have hFc := AnA (ws := []) hS.1
  refine vx_callv (vx_runV (As := [.int p0]) (rest := []) ⟨hx, hb, hml, hown, ht⟩ (k_X11_needLine l hfl D g z0 _ a p0) (cwV 1 ht (gV w_82 w_84 w_85 w_31 w_83) rfl rfl rfl (by decide +kernel) (le2 rfl rfl)) ⟨PP.blind, va_recv hK.1 (ro0 hP0 hS) (ci := 17) (q0 := 0) rfl rfl, PP.mk' hK hZ hz hAz hS hPc hDc⟩ rfl rfl hl.1 rfl (lv_room (Nat.le_of_ble_eq_true rfl)) dX11_weight_2 (le2 rfl rfl)) hS (fun q _ h => hFc q h) hFc (fun q _ h => hFc q h) (fun E ce q9 u t H locs ht1 hvm hw hB hz1 hk1 hS hcell hv9 hcl => ?_) (fun u t H locs ht1 hvm hw hB hz1 hk1 hS => ?_)
  · obtain ⟨rfl, hB⟩ := hB
    exact out0 htab hlocks hS hcell hv9 hcl (fun t _ hF => ⟨(), trivial, ⟨rfl, trivial⟩, hF⟩) (fun _ h => h) rfl rfl
  · exact hw.elim
set_option maxHeartbeats 4000000 in
set_option maxRecDepth 100000 in
theorem k_X11_wrong (l : Launch) (hfl : l.stackTraces = false) (D : va_G) (g : Nat → ClassId) (z0 sz : Nat) (a : Nat → Nat) (p0 : Int32) : vx_Met l yX11_wrong (.code yX11_wrong cX11_wrong 2 (some .int) :: TG) (rmk 8 1 6 123) (va_Pc [.ref (a 0), .int p0] (PP D g z0 sz [((a 0), f_x a), ((a 2), f_book a)])) (va_Qi (fun (r : Int32) (u : Unit) => False) (fun (_ : Unit) (_ : State) => True) (va_A [] sz)) (vx_X (fun _ : Unit => True) (fun E _ _ => (E = "java/lang/IndexOutOfBoundsException" ∧ True)) (va_A [] sz)) 1 6 (va_A [] sz) := by
  refine vxm0 (cc := cX11_wrong) (n := 2) (by decide) (Nat.le_of_ble_eq_true rfl) ?_
  intro p e s m args below meth c hx hb hr hml htab hown ht hlocks hnm hP0 hD0 hK hZ hsz hz ls hl
  subst hsz
  have hA : ∀ q : Nat, s.heap.size ≤ q → va_A [] s.heap.size q := Anw
  have hAz : ∀ q, va_A [] s.heap.size q → z0 ≤ q := A0z hz
  have hS : va_S (va_A [] s.heap.size) s.heap s.heap [] := va_S.rf
  have hl : lv_has ls 2 [(0, .ref (a 0)), (1, .int p0)] := hl
  refine lv_aload_n hx hb dX11_wrong_0 rfl (lv_at hl 0 rfl) ?_
  refine lv_iload_n hx hb dX11_wrong_1 rfl (lv_at hl 1 rfl) ?_
  have hPc : va_P D vwCl [((a 0), f_x a), ((a 2), f_book a)] _ := (ro0 hP0 hS).sub (ws' := [((a 0), f_x a), ((a 2), f_book a)]) [0, 1] rfl
  have hDc : va_D (fun q => z0 ≤ q) [((a 0), f_x a), ((a 2), f_book a)] := hD0.pick (ws' := [((a 0), f_x a), ((a 2), f_book a)]) [0, 1] (by decide) rfl
  have hFc := AnA (ws := []) hS.1
  refine vx_callv (vx_runV (As := [.int p0]) (rest := []) ⟨hx, hb, hml, hown, ht⟩ (k_X11_needStuck l hfl D g z0 _ a p0) (cwV 1 ht (gV w_77 w_79 w_80 w_31 w_78) rfl rfl rfl (by decide +kernel) (le2 rfl rfl)) ⟨PP.blind, va_recv hK.1 (ro0 hP0 hS) (ci := 17) (q0 := 0) rfl rfl, PP.mk' hK hZ hz hAz hS hPc hDc⟩ rfl rfl hl.1 rfl (lv_room (Nat.le_of_ble_eq_true rfl)) dX11_wrong_2 (le2 rfl rfl)) hS (fun q _ h => hFc q h) hFc (fun q _ h => hFc q h) (fun E ce q9 u t H locs ht1 hvm hw hB hz1 hk1 hS hcell hv9 hcl => ?_) (fun u t H locs ht1 hvm hw hB hz1 hk1 hS => ?_)
  · obtain ⟨rfl, hB⟩ := hB
    exact out0 htab hlocks hS hcell hv9 hcl (fun t _ hF => ⟨(), trivial, ⟨rfl, trivial⟩, hF⟩) (fun _ h => h) rfl rfl
  · exact hw.elim
