set_option maxHeartbeats 4000000 in
set_option maxRecDepth 100000 in
theorem k_X11_needLine (l : Launch) (hfl : l.stackTraces = false) (D : va_G) (g : Nat → ClassId) (z0 sz : Nat) (a : Nat → Nat) (p0 : Int32) : vx_Met l yX11_needLine (.code yX11_needLine cX11_needLine 2 none :: TG) (rmk 6 1 6 81) (va_Pc [.ref (a 0), .int p0] (PP D g z0 sz [((a 0), f_x a), ((a 1), f_net a)])) (va_Qv (fun (u : Unit) => False) (fun (_ : Unit) (_ : State) => True) (va_A [] sz)) (vx_X (fun _ : Unit => True) (fun E _ _ => (E = "java/lang/IndexOutOfBoundsException" ∧ True)) (va_A [] sz)) 1 6 (va_A [] sz) := by
  refine vxm0 (cc := cX11_needLine) (n := 2) (by decide) (Nat.le_of_ble_eq_true rfl) ?_
  intro p e s m args below meth c hx hb hr hml htab hown ht hlocks hnm hP0 hD0 hK hZ hsz hz ls hl
  subst hsz
  have hA : ∀ q : Nat, s.heap.size ≤ q → va_A [] s.heap.size q := Anw
  have hAz : ∀ q, va_A [] s.heap.size q → z0 ≤ q := A0z hz
  have hS : va_S (va_A [] s.heap.size) s.heap s.heap [] := va_S.rf
  have hl : lv_has ls 2 [(0, .ref (a 0)), (1, .int p0)] := hl
  refine lv_iload_n hx hb dX11_needLine_0 rfl (lv_at hl 1 rfl) ?_
  refine lv_if_lt (tgt := 15) hx hb dX11_needLine_1 (by decide) (fun c_1 => ?_) (fun c_1 => ?_)
  · exact thr0 hx hb hfl hown ht hK.2.2 hZ hAz hS hl hml htab hlocks (by decide +kernel) w_2 w_3 at_X11_102 dX11_needLine_15 dX11_needLine_18 dX11_needLine_19 dX11_needLine_22 rfl rfl rfl rfl (fun t _ hF => ⟨(), trivial, ⟨rfl, trivial⟩, hF⟩) (fun _ h => h) rfl rfl
  · refine lv_iload_n hx hb dX11_needLine_4 rfl (lv_at hl 1 rfl) ?_
    refine lv_aload_n hx hb dX11_needLine_5 rfl (lv_at hl 0 rfl) ?_
    refine va_get (D := D) (ci := 17) (v := .ref (a 1)) (C := RX11) (T := TX11) (N := 11) hx hb ht in_X11 hown hK.1 (ro0 hP0 hS) 0 rfl rfl 0 (by decide) (ht _ w_0) (fun _ h9 => h9) rfl dX11_needLine_6 ?_
    refine va_get (D := D) (ci := 12) (v := .int 0) (C := RX6) (T := TX6) (N := 18) hx hb ht in_X6 hown hK.1 (ro0 hP0 hS) 1 rfl rfl 12 (by decide) (ht _ w_1) (fun _ h9 => h9) rfl dX11_needLine_9 ?_
    refine lv_icmp_lt (tgt := 23) hx hb dX11_needLine_12 (by decide) (fun c_2 => ?_) (fun c_2 => ?_)
    · exact absurd c_2 c_1
    · exact thr0 hx hb hfl hown ht hK.2.2 hZ hAz hS hl hml htab hlocks (by decide +kernel) w_2 w_3 at_X11_102 dX11_needLine_15 dX11_needLine_18 dX11_needLine_19 dX11_needLine_22 rfl rfl rfl rfl (fun t _ hF => ⟨(), trivial, ⟨rfl, trivial⟩, hF⟩) (fun _ h => h) rfl rfl
set_option maxHeartbeats 4000000 in
set_option maxRecDepth 100000 in
theorem k_X11_needPattern (l : Launch) (hfl : l.stackTraces = false) (D : va_G) (g : Nat → ClassId) (z0 sz : Nat) (a : Nat → Nat) (p0 : Int32) : vx_Met l yX11_needPattern (.code yX11_needPattern cX11_needPattern 2 none :: TG) (rmk 6 1 6 81) (va_Pc [.ref (a 0), .int p0] (PP D g z0 sz [((a 0), f_x a), ((a 3), f_rows a)])) (va_Qv (fun (u : Unit) => False) (fun (_ : Unit) (_ : State) => True) (va_A [] sz)) (vx_X (fun _ : Unit => True) (fun E _ _ => (E = "java/lang/IndexOutOfBoundsException" ∧ True)) (va_A [] sz)) 1 6 (va_A [] sz) := by
  refine vxm0 (cc := cX11_needPattern) (n := 2) (by decide) (Nat.le_of_ble_eq_true rfl) ?_
  intro p e s m args below meth c hx hb hr hml htab hown ht hlocks hnm hP0 hD0 hK hZ hsz hz ls hl
  subst hsz
  have hA : ∀ q : Nat, s.heap.size ≤ q → va_A [] s.heap.size q := Anw
  have hAz : ∀ q, va_A [] s.heap.size q → z0 ≤ q := A0z hz
  have hS : va_S (va_A [] s.heap.size) s.heap s.heap [] := va_S.rf
  have hl : lv_has ls 2 [(0, .ref (a 0)), (1, .int p0)] := hl
  refine lv_iload_n hx hb dX11_needPattern_0 rfl (lv_at hl 1 rfl) ?_
  refine lv_if_lt (tgt := 15) hx hb dX11_needPattern_1 (by decide) (fun c_1 => ?_) (fun c_1 => ?_)
  · exact thr0 hx hb hfl hown ht hK.2.2 hZ hAz hS hl hml htab hlocks (by decide +kernel) w_2 w_3 at_X11_102 dX11_needPattern_15 dX11_needPattern_18 dX11_needPattern_19 dX11_needPattern_22 rfl rfl rfl rfl (fun t _ hF => ⟨(), trivial, ⟨rfl, trivial⟩, hF⟩) (fun _ h => h) rfl rfl
  · refine lv_iload_n hx hb dX11_needPattern_4 rfl (lv_at hl 1 rfl) ?_
    refine lv_aload_n hx hb dX11_needPattern_5 rfl (lv_at hl 0 rfl) ?_
    refine va_get (D := D) (ci := 17) (v := .ref (a 3)) (C := RX11) (T := TX11) (N := 11) hx hb ht in_X11 hown hK.1 (ro0 hP0 hS) 0 rfl rfl 2 (by decide) (ht _ w_4) (fun _ h9 => h9) rfl dX11_needPattern_6 ?_
    refine va_get (D := D) (ci := 13) (v := .int 0) (C := RX7) (T := TX7) (N := 6) hx hb ht in_X7 hown hK.1 (ro0 hP0 hS) 1 rfl rfl 5 (by decide) (ht _ w_5) (fun _ h9 => h9) rfl dX11_needPattern_9 ?_
    refine lv_icmp_lt (tgt := 23) hx hb dX11_needPattern_12 (by decide) (fun c_2 => ?_) (fun c_2 => ?_)
    · exact absurd c_2 c_1
    · exact thr0 hx hb hfl hown ht hK.2.2 hZ hAz hS hl hml htab hlocks (by decide +kernel) w_2 w_3 at_X11_102 dX11_needPattern_15 dX11_needPattern_18 dX11_needPattern_19 dX11_needPattern_22 rfl rfl rfl rfl (fun t _ hF => ⟨(), trivial, ⟨rfl, trivial⟩, hF⟩) (fun _ h => h) rfl rfl
set_option maxHeartbeats 4000000 in
set_option maxRecDepth 100000 in
theorem k_X11_value (l : Launch) (hfl : l.stackTraces = false) (D : va_G) (g : Nat → ClassId) (z0 sz : Nat) (a : Nat → Nat) (p0 : Int32) (p1 : Int32) : vx_Met l yX11_value (.code yX11_value cX11_value 3 (some .int) :: TG) (rmk 7 1 6 102) (va_Pc [.ref (a 0), .int p0, .int p1] (PP D g z0 sz [((a 0), f_x a), ((a 3), f_rows a)])) (va_Qi (fun (r : Int32) (u : Unit) => False) (fun (_ : Unit) (_ : State) => True) (va_A [] sz)) (vx_X (fun _ : Unit => True) (fun E _ _ => (E = "java/lang/IndexOutOfBoundsException" ∧ True)) (va_A [] sz)) 1 6 (va_A [] sz) := by
  refine vxm0 (cc := cX11_value) (n := 3) (by decide) (Nat.le_of_ble_eq_true rfl) ?_
  intro p e s m args below meth c hx hb hr hml htab hown ht hlocks hnm hP0 hD0 hK hZ hsz hz ls hl
  subst hsz
  have hA : ∀ q : Nat, s.heap.size ≤ q → va_A [] s.heap.size q := Anw
  have hAz : ∀ q, va_A [] s.heap.size q → z0 ≤ q := A0z hz
  have hS : va_S (va_A [] s.heap.size) s.heap s.heap [] := va_S.rf
  have hl : lv_has ls 3 [(0, .ref (a 0)), (1, .int p0), (2, .int p1)] := hl
  refine lv_aload_n hx hb dX11_value_0 rfl (lv_at hl 0 rfl) ?_
  refine lv_iload_n hx hb dX11_value_1 rfl (lv_at hl 1 rfl) ?_
  have hPc : va_P D vwCl [((a 0), f_x a), ((a 3), f_rows a)] _ := (ro0 hP0 hS).sub (ws' := [((a 0), f_x a), ((a 3), f_rows a)]) [0, 1] rfl
  have hDc : va_D (fun q => z0 ≤ q) [((a 0), f_x a), ((a 3), f_rows a)] := hD0.pick (ws' := [((a 0), f_x a), ((a 3), f_rows a)]) [0, 1] (by decide) rfl
  have hFc := AnA (ws := []) hS.1
  refine vx_callv (vx_runV (As := [.int p0]) (rest := []) ⟨hx, hb, hml, hown, ht⟩ (k_X11_needPattern l hfl D g z0 _ a p0) (cwV 1 ht (gV w_6 w_8 w_9 w_10 w_7) rfl rfl rfl (by decide +kernel) (le2 rfl rfl)) ⟨PP.blind, va_recv hK.1 (ro0 hP0 hS) (ci := 17) (q0 := 0) rfl rfl, PP.mk' hK hZ hz hAz hS hPc hDc⟩ rfl rfl hl.1 rfl (lv_room (Nat.le_of_ble_eq_true rfl)) dX11_value_2 (le2 rfl rfl)) hS (fun q _ h => hFc q h) hFc (fun q _ h => hFc q h) (fun E ce q9 u t H locs ht1 hvm hw hB hz1 hk1 hS hcell hv9 hcl => ?_) (fun u t H locs ht1 hvm hw hB hz1 hk1 hS => ?_)
  · obtain ⟨rfl, hB⟩ := hB
    exact out0 htab hlocks hS hcell hv9 hcl (fun t _ hF => ⟨(), trivial, ⟨rfl, trivial⟩, hF⟩) (fun _ h => h) rfl rfl
  · exact hw.elim
set_option maxHeartbeats 4000000 in
set_option maxRecDepth 100000 in
theorem k_X11_needFault (l : Launch) (hfl : l.stackTraces = false) (D : va_G) (g : Nat → ClassId) (z0 sz : Nat) (a : Nat → Nat) (p0 : Int32) : vx_Met l yX11_needFault (.code yX11_needFault cX11_needFault 2 none :: TG) (rmk 6 1 6 81) (va_Pc [.ref (a 0), .int p0] (PP D g z0 sz [((a 0), f_x a), ((a 2), f_book a)])) (va_Qv (fun (u : Unit) => False) (fun (_ : Unit) (_ : State) => True) (va_A [] sz)) (vx_X (fun _ : Unit => True) (fun E _ _ => (E = "java/lang/IndexOutOfBoundsException" ∧ True)) (va_A [] sz)) 1 6 (va_A [] sz) := by
  refine vxm0 (cc := cX11_needFault) (n := 2) (by decide) (Nat.le_of_ble_eq_true rfl) ?_
  intro p e s m args below meth c hx hb hr hml htab hown ht hlocks hnm hP0 hD0 hK hZ hsz hz ls hl
  subst hsz
  have hA : ∀ q : Nat, s.heap.size ≤ q → va_A [] s.heap.size q := Anw
  have hAz : ∀ q, va_A [] s.heap.size q → z0 ≤ q := A0z hz
  have hS : va_S (va_A [] s.heap.size) s.heap s.heap [] := va_S.rf
  have hl : lv_has ls 2 [(0, .ref (a 0)), (1, .int p0)] := hl
  refine lv_iload_n hx hb dX11_needFault_0 rfl (lv_at hl 1 rfl) ?_
  refine lv_if_lt (tgt := 15) hx hb dX11_needFault_1 (by decide) (fun c_1 => ?_) (fun c_1 => ?_)
  · exact thr0 hx hb hfl hown ht hK.2.2 hZ hAz hS hl hml htab hlocks (by decide +kernel) w_2 w_3 at_X11_102 dX11_needFault_15 dX11_needFault_18 dX11_needFault_19 dX11_needFault_22 rfl rfl rfl rfl (fun t _ hF => ⟨(), trivial, ⟨rfl, trivial⟩, hF⟩) (fun _ h => h) rfl rfl
  · refine lv_iload_n hx hb dX11_needFault_4 rfl (lv_at hl 1 rfl) ?_
    refine lv_aload_n hx hb dX11_needFault_5 rfl (lv_at hl 0 rfl) ?_
    refine va_get (D := D) (ci := 17) (v := .ref (a 2)) (C := RX11) (T := TX11) (N := 11) hx hb ht in_X11 hown hK.1 (ro0 hP0 hS) 0 rfl rfl 1 (by decide) (ht _ w_11) (fun _ h9 => h9) rfl dX11_needFault_6 ?_
    refine va_get (D := D) (ci := 9) (v := .int 0) (C := RX3) (T := TX3) (N := 14) hx hb ht in_X3 hown hK.1 (ro0 hP0 hS) 1 rfl rfl 10 (by decide) (ht _ w_12) (fun _ h9 => h9) rfl dX11_needFault_9 ?_
    refine lv_icmp_lt (tgt := 23) hx hb dX11_needFault_12 (by decide) (fun c_2 => ?_) (fun c_2 => ?_)
    · exact absurd c_2 c_1
    · exact thr0 hx hb hfl hown ht hK.2.2 hZ hAz hS hl hml htab hlocks (by decide +kernel) w_2 w_3 at_X11_102 dX11_needFault_15 dX11_needFault_18 dX11_needFault_19 dX11_needFault_22 rfl rfl rfl rfl (fun t _ hF => ⟨(), trivial, ⟨rfl, trivial⟩, hF⟩) (fun _ h => h) rfl rfl
set_option maxHeartbeats 4000000 in
set_option maxRecDepth 100000 in
theorem k_X11_lineOf (l : Launch) (hfl : l.stackTraces = false) (D : va_G) (g : Nat → ClassId) (z0 sz : Nat) (a : Nat → Nat) (p0 : Int32) : vx_Met l yX11_lineOf (.code yX11_lineOf cX11_lineOf 2 (some .int) :: TG) (rmk 7 1 6 102) (va_Pc [.ref (a 0), .int p0] (PP D g z0 sz [((a 0), f_x a), ((a 2), f_book a)])) (va_Qi (fun (r : Int32) (u : Unit) => False) (fun (_ : Unit) (_ : State) => True) (va_A [] sz)) (vx_X (fun _ : Unit => True) (fun E _ _ => (E = "java/lang/IndexOutOfBoundsException" ∧ True)) (va_A [] sz)) 1 6 (va_A [] sz) := by
  refine vxm0 (cc := cX11_lineOf) (n := 2) (by decide) (Nat.le_of_ble_eq_true rfl) ?_
  intro p e s m args below meth c hx hb hr hml htab hown ht hlocks hnm hP0 hD0 hK hZ hsz hz ls hl
  subst hsz
  have hA : ∀ q : Nat, s.heap.size ≤ q → va_A [] s.heap.size q := Anw
  have hAz : ∀ q, va_A [] s.heap.size q → z0 ≤ q := A0z hz
  have hS : va_S (va_A [] s.heap.size) s.heap s.heap [] := va_S.rf
  have hl : lv_has ls 2 [(0, .ref (a 0)), (1, .int p0)] := hl
  refine lv_aload_n hx hb dX11_lineOf_0 rfl (lv_at hl 0 rfl) ?_
  refine lv_iload_n hx hb dX11_lineOf_1 rfl (lv_at hl 1 rfl) ?_
  have hPc : va_P D vwCl [((a 0), f_x a), ((a 2), f_book a)] _ := (ro0 hP0 hS).sub (ws' := [((a 0), f_x a), ((a 2), f_book a)]) [0, 1] rfl
  have hDc : va_D (fun q => z0 ≤ q) [((a 0), f_x a), ((a 2), f_book a)] := hD0.pick (ws' := [((a 0), f_x a), ((a 2), f_book a)]) [0, 1] (by decide) rfl
  have hFc := AnA (ws := []) hS.1
  refine vx_callv (vx_runV (As := [.int p0]) (rest := []) ⟨hx, hb, hml, hown, ht⟩ (k_X11_needFault l hfl D g z0 _ a p0) (cwV 1 ht (gV w_13 w_15 w_16 w_10 w_14) rfl rfl rfl (by decide +kernel) (le2 rfl rfl)) ⟨PP.blind, va_recv hK.1 (ro0 hP0 hS) (ci := 17) (q0 := 0) rfl rfl, PP.mk' hK hZ hz hAz hS hPc hDc⟩ rfl rfl hl.1 rfl (lv_room (Nat.le_of_ble_eq_true rfl)) dX11_lineOf_2 (le2 rfl rfl)) hS (fun q _ h => hFc q h) hFc (fun q _ h => hFc q h) (fun E ce q9 u t H locs ht1 hvm hw hB hz1 hk1 hS hcell hv9 hcl => ?_) (fun u t H locs ht1 hvm hw hB hz1 hk1 hS => ?_)
  · obtain ⟨rfl, hB⟩ := hB
    exact out0 htab hlocks hS hcell hv9 hcl (fun t _ hF => ⟨(), trivial, ⟨rfl, trivial⟩, hF⟩) (fun _ h => h) rfl rfl
  · exact hw.elim
set_option maxHeartbeats 4000000 in
set_option maxRecDepth 100000 in
theorem k_X11_needRange (l : Launch) (hfl : l.stackTraces = false) (D : va_G) (g : Nat → ClassId) (z0 sz : Nat) (a : Nat → Nat) (p0 : Int32) (p1 : Int32) (p2 : Int32) : vx_Met l yX11_needRange (.code yX11_needRange cX11_needRange 3 none :: TG) (rmk 6 1 6 81) (va_Pc [.ref (a 0), .int p0, .int p1, .int p2] (PP D g z0 sz [])) (va_Qv (fun (u : Unit) => ((¬ (a 0) < p0) ∧ ((a 0) ≤ p1))) (fun (_ : Unit) (_ : State) => True) (va_A [] sz)) (vx_X (fun _ : Unit => True) (fun E _ _ => (E = "java/lang/IllegalArgumentException" ∧ (((a 0) < p0) ∨ ((¬ (a 0) < p0) ∧ (¬ (a 0) ≤ p1))))) (va_A [] sz)) 1 6 (va_A [] sz) := by
  refine vxm0 (cc := cX11_needRange) (n := 3) (by decide) (Nat.le_of_ble_eq_true rfl) ?_
  intro p e s m args below meth c hx hb hr hml htab hown ht hlocks hnm hP0 hD0 hK hZ hsz hz ls hl
  subst hsz
  have hA : ∀ q : Nat, s.heap.size ≤ q → va_A [] s.heap.size q := Anw
  have hAz : ∀ q, va_A [] s.heap.size q → z0 ≤ q := A0z hz
  have hS : va_S (va_A [] s.heap.size) s.heap s.heap [] := va_S.rf
  have hl : lv_has ls 3 [(0, .ref (a 0)), (1, .int p0), (2, .int p1), (3, .int p2)] := hl
  refine lv_iload_n hx hb dX11_needRange_0 rfl (lv_at hl 0 rfl) ?_
  refine lv_iload_n hx hb dX11_needRange_1 rfl (lv_at hl 1 rfl) ?_
  refine lv_icmp_lt (tgt := 10) hx hb dX11_needRange_2 (by decide) (fun c_1 => ?_) (fun c_1 => ?_)
  · exact thr0 hx hb hfl hown ht hK.2.2 hZ hAz hS hl hml htab hlocks (by decide +kernel) w_17 w_18 at_X11_116 dX11_needRange_10 dX11_needRange_13 dX11_needRange_14 dX11_needRange_17 rfl rfl rfl rfl (fun t _ hF => ⟨(), trivial, ⟨rfl, (Or.inl c_1)⟩, hF⟩) (fun _ h => h) rfl rfl
  · refine lv_iload_n hx hb dX11_needRange_5 rfl (lv_at hl 0 rfl) ?_
    refine lv_iload_n hx hb dX11_needRange_6 rfl (lv_at hl 2 rfl) ?_
    refine lv_icmp_le (tgt := 18) hx hb dX11_needRange_7 (by decide) (fun c_2 => ?_) (fun c_2 => ?_)
    · refine vx_ret (W.widen (k := 1) (n := 6) (Nat.le_of_ble_eq_true rfl) (Nat.le_of_ble_eq_true rfl) ?_)
      exact W.vret hx hb hr (fun t ht9 hW9 => ⟨⟨(), rfl, ⟨c_1, c_2⟩, trivial⟩, hS.F ht9⟩) hS.2.2 dX11_needRange_18 hlocks
    · exact thr0 hx hb hfl hown ht hK.2.2 hZ hAz hS hl hml htab hlocks (by decide +kernel) w_17 w_18 at_X11_116 dX11_needRange_10 dX11_needRange_13 dX11_needRange_14 dX11_needRange_17 rfl rfl rfl rfl (fun t _ hF => ⟨(), trivial, ⟨rfl, (Or.inr ⟨c_1, c_2⟩)⟩, hF⟩) (fun _ h => h) rfl rfl
set_option maxHeartbeats 4000000 in
set_option maxRecDepth 100000 in
theorem k_X11_setTime (l : Launch) (hfl : l.stackTraces = false) (D : va_G) (g : Nat → ClassId) (z0 sz : Nat) (a : Nat → Nat) (p0 : Int32) (p1 : Int32) : vx_Met l yX11_setTime (.code yX11_setTime cX11_setTime 4 (some .int) :: TG) (rmk 7 1 6 102) (va_Pc [.ref (a 0), .int p0, .int p1] (PP D g z0 sz [((a 0), f_x a), ((a 3), f_rows a)])) (va_Qi (fun (r : Int32) (u : Unit) => False) (fun (_ : Unit) (_ : State) => True) (va_A [] sz)) (vx_X (fun _ : Unit => True) (fun E _ _ => (E = "java/lang/IndexOutOfBoundsException" ∧ True)) (va_A [] sz)) 1 6 (va_A [] sz) := by
  refine vxm0 (cc := cX11_setTime) (n := 4) (by decide) (Nat.le_of_ble_eq_true rfl) ?_
  intro p e s m args below meth c hx hb hr hml htab hown ht hlocks hnm hP0 hD0 hK hZ hsz hz ls hl
  subst hsz
  have hA : ∀ q : Nat, s.heap.size ≤ q → va_A [] s.heap.size q := Anw
  have hAz : ∀ q, va_A [] s.heap.size q → z0 ≤ q := A0z hz
  have hS : va_S (va_A [] s.heap.size) s.heap s.heap [] := va_S.rf
  have hl : lv_has ls 4 [(0, .ref (a 0)), (1, .int p0), (2, .int p1)] := hl
  refine lv_aload_n hx hb dX11_setTime_0 rfl (lv_at hl 0 rfl) ?_
  refine lv_iload_n hx hb dX11_setTime_1 rfl (lv_at hl 1 rfl) ?_
  have hPc : va_P D vwCl [((a 0), f_x a), ((a 3), f_rows a)] _ := (ro0 hP0 hS).sub (ws' := [((a 0), f_x a), ((a 3), f_rows a)]) [0, 1] rfl
  have hDc : va_D (fun q => z0 ≤ q) [((a 0), f_x a), ((a 3), f_rows a)] := hD0.pick (ws' := [((a 0), f_x a), ((a 3), f_rows a)]) [0, 1] (by decide) rfl
  have hFc := AnA (ws := []) hS.1
  refine vx_callv (vx_runV (As := [.int p0]) (rest := []) ⟨hx, hb, hml, hown, ht⟩ (k_X11_needPattern l hfl D g z0 _ a p0) (cwV 1 ht (gV w_6 w_8 w_9 w_10 w_7) rfl rfl rfl (by decide +kernel) (le2 rfl rfl)) ⟨PP.blind, va_recv hK.1 (ro0 hP0 hS) (ci := 17) (q0 := 0) rfl rfl, PP.mk' hK hZ hz hAz hS hPc hDc⟩ rfl rfl hl.1 rfl (lv_room (Nat.le_of_ble_eq_true rfl)) dX11_setTime_2 (le2 rfl rfl)) hS (fun q _ h => hFc q h) hFc (fun q _ h => hFc q h) (fun E ce q9 u t H locs ht1 hvm hw hB hz1 hk1 hS hcell hv9 hcl => ?_) (fun u t H locs ht1 hvm hw hB hz1 hk1 hS => ?_)
  · obtain ⟨rfl, hB⟩ := hB
    exact out0 htab hlocks hS hcell hv9 hcl (fun t _ hF => ⟨(), trivial, ⟨rfl, trivial⟩, hF⟩) (fun _ h => h) rfl rfl
  · exact hw.elim
set_option maxHeartbeats 4000000 in
set_option maxRecDepth 100000 in
theorem k_X11_faults (l : Launch) (D : va_G) (g : Nat → ClassId) (z0 sz : Nat) (a : Nat → Nat) : Met l yX11_faults (.code yX11_faults cX11_faults 1 (some .int) :: TG) (rmk 0 0 0 0) (va_Pc [.ref (a 0)] (PP D g z0 sz [((a 0), f_x a), ((a 2), f_book a)])) (va_Qi (fun (r : Int32) (u : Unit) => (r = 0) ∧ True) (fun (_ : Unit) (_ : State) => True) (va_A [] sz)) 0 0 (va_A [] sz) := by
  refine met0 (cc := cX11_faults) (n := 1) (by decide) (Nat.le_of_ble_eq_true rfl) ?_
  intro p e s m args below meth c hx hb hr hml hown ht hlocks hnm hP0 hD0 hK hZ hsz hz ls hl
  subst hsz
  have hA : ∀ q : Nat, s.heap.size ≤ q → va_A [] s.heap.size q := Anw
  have hAz : ∀ q, va_A [] s.heap.size q → z0 ≤ q := A0z hz
  have hS : va_S (va_A [] s.heap.size) s.heap s.heap [] := va_S.rf
  have hl : lv_has ls 1 [(0, .ref (a 0))] := hl
  refine lv_aload_n hx hb dX11_faults_0 rfl (lv_at hl 0 rfl) ?_
  refine va_get (D := D) (ci := 17) (v := .ref (a 2)) (C := RX11) (T := TX11) (N := 11) hx hb ht in_X11 hown hK.1 (ro0 hP0 hS) 0 rfl rfl 1 (by decide) (ht _ w_11) (fun _ h9 => h9) rfl dX11_faults_1 ?_
  refine va_get (D := D) (ci := 9) (v := .int 0) (C := RX3) (T := TX3) (N := 14) hx hb ht in_X3 hown hK.1 (ro0 hP0 hS) 1 rfl rfl 10 (by decide) (ht _ w_12) (fun _ h9 => h9) rfl dX11_faults_4 ?_
  refine W.widen (k := 0) (n := 0) (Nat.le_of_ble_eq_true rfl) (Nat.le_of_ble_eq_true rfl) ?_
  exact W.iret (v := 0) hx hb hr (fun t ht9 hW9 => ⟨⟨0, (), rfl, ⟨rfl, trivial⟩, trivial⟩, hS.F ht9⟩) hS.2.2 dX11_faults_7 hlocks
