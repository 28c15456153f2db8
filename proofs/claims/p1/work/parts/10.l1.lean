theorem w_1272 : Cond.methodLink RX11 504 yX5_mark ∈ TG := tg (sg_8 _ (List.mem_of_getElem? (i := 126) (by decide +kernel))) (by decide +kernel)
theorem w_1273 : Cond.code yX5_mark cX5_mark 7 (some .int) ∈ TG := tg (sg_8 _ (List.mem_of_getElem? (i := 129) (by decide +kernel))) (by decide +kernel)
theorem w_1274 : Cond.instanceMethod yX5_mark ∈ TG := tg (sg_8 _ (List.mem_of_getElem? (i := 127) (by decide +kernel))) (by decide +kernel)
theorem w_1275 : Cond.selects RX5 yX5_mark yX5_mark ∈ TG := tg (sg_8 _ (List.mem_of_getElem? (i := 128) (by decide +kernel))) (by decide +kernel)
theorem w_1276 : Cond.methodLink RL 172 yX11_bad ∈ TG := tg (sg_8 _ (List.mem_of_getElem? (i := 122) (by decide +kernel))) (by decide +kernel)
theorem w_1277 : Cond.code yX11_bad cX11_bad 4 (some .int) ∈ TG := tg (sg_8 _ (List.mem_of_getElem? (i := 125) (by decide +kernel))) (by decide +kernel)
theorem w_1278 : Cond.instanceMethod yX11_bad ∈ TG := tg (sg_8 _ (List.mem_of_getElem? (i := 123) (by decide +kernel))) (by decide +kernel)
theorem w_1279 : Cond.selects RX11 yX11_bad yX11_bad ∈ TG := tg (sg_8 _ (List.mem_of_getElem? (i := 124) (by decide +kernel))) (by decide +kernel)
theorem dL_bad_0 : decode cL_bad 0 = .ok (.aload 4, 2) := by decide +kernel
theorem dL_bad_2 : decode cL_bad 2 = .ok (.iconst 0, 1) := by decide +kernel
theorem dL_bad_3 : decode cL_bad 3 = .ok (.aload_n 0, 1) := by decide +kernel
theorem dL_bad_4 : decode cL_bad 4 = .ok (.iload_n 1, 1) := by decide +kernel
theorem dL_bad_5 : decode cL_bad 5 = .ok (.iload_n 2, 1) := by decide +kernel
theorem dL_bad_6 : decode cL_bad 6 = .ok (.iload_n 3, 1) := by decide +kernel
theorem dL_bad_7 : decode cL_bad 7 = .ok (.invokevirtual 172, 3) := by decide +kernel
theorem dL_bad_10 : decode cL_bad 10 = .ok (.i2l, 1) := by decide +kernel
theorem dL_bad_11 : decode cL_bad 11 = .ok (.lastore, 1) := by decide +kernel
theorem dL_bad_12 : decode cL_bad 12 = .ok (.goto 7, 3) := by decide +kernel
theorem dL_bad_15 : decode cL_bad 15 = .ok (.astore 5, 2) := by decide +kernel
theorem dL_bad_17 : decode cL_bad 17 = .ok (.iconst 1, 1) := by decide +kernel
theorem dL_bad_18 : decode cL_bad 18 = .ok (.ireturn, 1) := by decide +kernel
theorem dL_bad_19 : decode cL_bad 19 = .ok (.iconst 0, 1) := by decide +kernel
theorem dL_bad_20 : decode cL_bad 20 = .ok (.ireturn, 1) := by decide +kernel
theorem dX11_bad_0 : decode cX11_bad 0 = .ok (.iload_n 1, 1) := by decide +kernel
theorem dX11_bad_1 : decode cX11_bad 1 = .ok (.ifCond .lt 19, 3) := by decide +kernel
theorem dX11_bad_4 : decode cX11_bad 4 = .ok (.iload_n 1, 1) := by decide +kernel
theorem dX11_bad_5 : decode cX11_bad 5 = .ok (.bipush 8, 2) := by decide +kernel
theorem dX11_bad_7 : decode cX11_bad 7 = .ok (.if_icmp .ge 13, 3) := by decide +kernel
theorem dX11_bad_10 : decode cX11_bad 10 = .ok (.iload_n 2, 1) := by decide +kernel
theorem dX11_bad_11 : decode cX11_bad 11 = .ok (.ifCond .lt 9, 3) := by decide +kernel
theorem dX11_bad_14 : decode cX11_bad 14 = .ok (.iload_n 2, 1) := by decide +kernel
theorem dX11_bad_15 : decode cX11_bad 15 = .ok (.bipush 8, 2) := by decide +kernel
theorem dX11_bad_17 : decode cX11_bad 17 = .ok (.if_icmp .lt 11, 3) := by decide +kernel
theorem dX11_bad_20 : decode cX11_bad 20 = .ok (.new 100, 3) := by decide +kernel
theorem dX11_bad_23 : decode cX11_bad 23 = .ok (.dup, 1) := by decide +kernel
theorem dX11_bad_24 : decode cX11_bad 24 = .ok (.invokespecial 102, 3) := by decide +kernel
theorem dX11_bad_27 : decode cX11_bad 27 = .ok (.athrow, 1) := by decide +kernel
theorem dX11_bad_28 : decode cX11_bad 28 = .ok (.aload_n 0, 1) := by decide +kernel
theorem dX11_bad_29 : decode cX11_bad 29 = .ok (.getfield 78, 3) := by decide +kernel
theorem dX11_bad_32 : decode cX11_bad 32 = .ok (.iload_n 1, 1) := by decide +kernel
theorem dX11_bad_33 : decode cX11_bad 33 = .ok (.iload_n 2, 1) := by decide +kernel
theorem dX11_bad_34 : decode cX11_bad 34 = .ok (.iload_n 3, 1) := by decide +kernel
theorem dX11_bad_35 : decode cX11_bad 35 = .ok (.invokevirtual 504, 3) := by decide +kernel
theorem dX11_bad_38 : decode cX11_bad 38 = .ok (.ireturn, 1) := by decide +kernel
theorem dX5_mark_0 : decode cX5_mark 0 = .ok (.iconst 1, 1) := by decide +kernel
theorem dX5_mark_1 : decode cX5_mark 1 = .ok (.iload_n 2, 1) := by decide +kernel
theorem dX5_mark_2 : decode cX5_mark 2 = .ok (.ishl, 1) := by decide +kernel
theorem dX5_mark_3 : decode cX5_mark 3 = .ok (.istore 4, 2) := by decide +kernel
theorem dX5_mark_5 : decode cX5_mark 5 = .ok (.aload_n 0, 1) := by decide +kernel
theorem dX5_mark_6 : decode cX5_mark 6 = .ok (.getfield 15, 3) := by decide +kernel
theorem dX5_mark_9 : decode cX5_mark 9 = .ok (.iload_n 1, 1) := by decide +kernel
theorem dX5_mark_10 : decode cX5_mark 10 = .ok (.iload_n 3, 1) := by decide +kernel
theorem dX5_mark_11 : decode cX5_mark 11 = .ok (.ifCond .eq 15, 3) := by decide +kernel
theorem dX5_mark_14 : decode cX5_mark 14 = .ok (.aload_n 0, 1) := by decide +kernel
theorem dX5_mark_15 : decode cX5_mark 15 = .ok (.getfield 15, 3) := by decide +kernel
theorem dX5_mark_18 : decode cX5_mark 18 = .ok (.iload_n 1, 1) := by decide +kernel
theorem dX5_mark_19 : decode cX5_mark 19 = .ok (.iaload, 1) := by decide +kernel
theorem dX5_mark_20 : decode cX5_mark 20 = .ok (.iload 4, 2) := by decide +kernel
theorem dX5_mark_22 : decode cX5_mark 22 = .ok (.ior, 1) := by decide +kernel
theorem dX5_mark_23 : decode cX5_mark 23 = .ok (.goto 14, 3) := by decide +kernel
theorem dX5_mark_26 : decode cX5_mark 26 = .ok (.aload_n 0, 1) := by decide +kernel
theorem dX5_mark_27 : decode cX5_mark 27 = .ok (.getfield 15, 3) := by decide +kernel
theorem dX5_mark_30 : decode cX5_mark 30 = .ok (.iload_n 1, 1) := by decide +kernel
theorem dX5_mark_31 : decode cX5_mark 31 = .ok (.iaload, 1) := by decide +kernel
theorem dX5_mark_32 : decode cX5_mark 32 = .ok (.iload 4, 2) := by decide +kernel
theorem dX5_mark_34 : decode cX5_mark 34 = .ok (.iconst (-1), 1) := by decide +kernel
theorem dX5_mark_35 : decode cX5_mark 35 = .ok (.ixor, 1) := by decide +kernel
theorem dX5_mark_36 : decode cX5_mark 36 = .ok (.iand, 1) := by decide +kernel
theorem dX5_mark_37 : decode cX5_mark 37 = .ok (.iastore, 1) := by decide +kernel
theorem dX5_mark_38 : decode cX5_mark 38 = .ok (.iconst 0, 1) := by decide +kernel
theorem dX5_mark_39 : decode cX5_mark 39 = .ok (.istore 5, 2) := by decide +kernel
theorem dX5_mark_41 : decode cX5_mark 41 = .ok (.iconst 0, 1) := by decide +kernel
theorem dX5_mark_42 : decode cX5_mark 42 = .ok (.istore 6, 2) := by decide +kernel
theorem dX5_mark_44 : decode cX5_mark 44 = .ok (.iload 6, 2) := by decide +kernel
theorem dX5_mark_46 : decode cX5_mark 46 = .ok (.bipush 8, 2) := by decide +kernel
theorem dX5_mark_48 : decode cX5_mark 48 = .ok (.if_icmp .ge 24, 3) := by decide +kernel
theorem dX5_mark_51 : decode cX5_mark 51 = .ok (.iload 5, 2) := by decide +kernel
theorem dX5_mark_53 : decode cX5_mark 53 = .ok (.aload_n 0, 1) := by decide +kernel
theorem dX5_mark_54 : decode cX5_mark 54 = .ok (.getfield 15, 3) := by decide +kernel
theorem dX5_mark_57 : decode cX5_mark 57 = .ok (.iload 6, 2) := by decide +kernel
theorem dX5_mark_59 : decode cX5_mark 59 = .ok (.iaload, 1) := by decide +kernel
theorem dX5_mark_60 : decode cX5_mark 60 = .ok (.invokestatic 84, 3) := by decide +kernel
theorem dX5_mark_63 : decode cX5_mark 63 = .ok (.iadd, 1) := by decide +kernel
theorem dX5_mark_64 : decode cX5_mark 64 = .ok (.istore 5, 2) := by decide +kernel
theorem dX5_mark_66 : decode cX5_mark 66 = .ok (.iinc 6 1, 3) := by decide +kernel
theorem dX5_mark_69 : decode cX5_mark 69 = .ok (.goto (-25), 3) := by decide +kernel
theorem dX5_mark_72 : decode cX5_mark 72 = .ok (.iload 5, 2) := by decide +kernel
theorem dX5_mark_74 : decode cX5_mark 74 = .ok (.ireturn, 1) := by decide +kernel
set_option maxHeartbeats 4000000 in
set_option maxRecDepth 100000 in
theorem k_X5_mark (l : Launch) (D : va_G) (g : Nat → ClassId) (z0 sz : Nat) (a : Nat → Nat) (p0 : Int32) (p1 : Int32) (p2 : Int32) (hy0 : ¬ p0 < 0) (hy1 : ¬ (8 : Int32) ≤ p0) (hy2 : ¬ p1 < 0) (hy3 : p1 < 8) : Met l yX5_mark (.code yX5_mark cX5_mark 7 (some .int) :: TG) (rmk 1 0 0 20) (va_Pc [.ref (a 9), .int p0, .int p1, .int p2] (PP D g z0 sz [((a 9), f_memory a), ((a 60), .inl (g 0, 8, .inl (fun _ => 0)))])) (va_Qi (fun (r : Int32) (u : Unit) => ((r = 0) ∧ (p2 = 0)) ∨ ((r = 1) ∧ (¬ p2 = 0))) (fun (u : Unit) (t : State) => va_P D vwCl [] t.heap ∧ va_D (va_A [((a 9), f_memory a), ((a 60), .inl (g 0, 8, .inl (fun _ => 0)))] sz) []) (va_A [((a 9), f_memory a), ((a 60), .inl (g 0, 8, .inl (fun _ => 0)))] sz)) 0 0 (va_A [((a 9), f_memory a), ((a 60), .inl (g 0, 8, .inl (fun _ => 0)))] sz) := by
  refine met0 (cc := cX5_mark) (n := 7) (by decide) (Nat.le_of_ble_eq_true rfl) ?_
  intro p e s m args below meth c hx hb hr hml hown ht hlocks hnm hP0 hD0 hK hZ hsz hz ls hl
  subst hsz
  have hA : ∀ q : Nat, s.heap.size ≤ q → va_A [((a 9), f_memory a), ((a 60), .inl (g 0, 8, .inl (fun _ => 0)))] s.heap.size q := Anw
  have hAz : ∀ q, va_A [((a 9), f_memory a), ((a 60), .inl (g 0, 8, .inl (fun _ => 0)))] s.heap.size q → z0 ≤ q := Awz hz hD0
  have hS : va_S (va_A [((a 9), f_memory a), ((a 60), .inl (g 0, 8, .inl (fun _ => 0)))] s.heap.size) s.heap s.heap [] := va_S.rf
  have hD : va_D (va_A [((a 9), f_memory a), ((a 60), .inl (g 0, 8, .inl (fun _ => 0)))] s.heap.size) [((a 9), f_memory a), ((a 60), .inl (g 0, 8, .inl (fun _ => 0)))] := hD0.self
  have hP : va_P D vwCl [((a 9), f_memory a), ((a 60), .inl (g 0, 8, .inl (fun _ => 0)))] s.heap := hP0
  have hl : lv_has ls 7 [(0, .ref (a 9)), (1, .int p0), (2, .int p1), (3, .int p2)] := hl
  refine lv_iconst (v := 1) hx hb dX5_mark_0 (by decide) ?_
  refine lv_iload_n hx hb dX5_mark_1 rfl (lv_at hl 2 rfl) ?_
  refine lv_ishl hx hb dX5_mark_2 ?_
  refine lv_istore (lv' := [(4, .int (1 <<< (p1 &&& 31))), (0, .ref (a 9)), (1, .int p0), (2, .int p1), (3, .int p2)]) hx hb dX5_mark_3 hl (by decide) rfl (fun ls hl => ?_)
  rcases lt8 (lo_nlt hy0) (up_nle hy1) with e_1 | e_1 | e_1 | e_1 | e_1 | e_1 | e_1 | e_1
  · subst e_1
    have hl : lv_has ls 7 [(4, .int (1 <<< (p1 &&& 31))), (0, .ref (a 9)), (1, .int 0), (2, .int p1), (3, .int p2)] := hl
    refine lv_aload_n hx hb dX5_mark_5 rfl (lv_at hl 1 rfl) ?_
    refine va_get (D := D) (ci := 11) (v := .ref (a 60)) (C := RX5) (T := TX5) (N := 9) hx hb ht in_X5 hown hK.1 hP 0 rfl rfl 1 (by decide) (ht _ w_281) (fun _ h9 => h9) rfl dX5_mark_6 ?_
    refine lv_iload_n hx hb dX5_mark_9 rfl (lv_at hl 2 rfl) ?_
    refine lv_iload_n hx hb dX5_mark_10 rfl (lv_at hl 4 rfl) ?_
    refine lv_if_eq (tgt := 26) hx hb dX5_mark_11 (by decide) (fun c_2 => ?_) (fun c_2 => ?_)
    · refine lv_aload_n hx hb dX5_mark_26 rfl (lv_at hl 1 rfl) ?_
      refine va_get (D := D) (ci := 11) (v := .ref (a 60)) (C := RX5) (T := TX5) (N := 9) hx hb ht in_X5 hown hK.1 hP 0 rfl rfl 1 (by decide) (ht _ w_281) (fun _ h9 => h9) rfl dX5_mark_27 ?_
      refine lv_iload_n hx hb dX5_mark_30 rfl (lv_at hl 2 rfl) ?_
      refine va_iald hx hb hK.1 hP 1 0 rfl rfl (by unfold vp_in; decide) dX5_mark_31 ?_
      refine r_topi (v := 0) rfl ?_
      refine lv_iload hx hb dX5_mark_32 (lv_at hl 0 rfl) ?_
      refine lv_iconst (v := (-1)) hx hb dX5_mark_34 (by decide) ?_
      refine lv_ixor hx hb dX5_mark_35 ?_
      refine lv_iand hx hb dX5_mark_36 ?_
      refine r_topi (v := 0) (z_and _) ?_
      refine va_iast hx hb hK.1 hP hD hS 1 0 rfl rfl (by unfold vp_in; decide) dX5_mark_37 (fun H locs hP hD hS => ?_)
      have hP : va_P D vwCl [((a 9), f_memory a), ((a 60), .inl (g 0, 8, .inl (upd (fun _ => 0) (0 : Int32).toNatClampNeg 0)))] H := hP
      have hD : va_D (va_A [((a 9), f_memory a), ((a 60), .inl (g 0, 8, .inl (fun _ => 0)))] s.heap.size) [((a 9), f_memory a), ((a 60), .inl (g 0, 8, .inl (upd (fun _ => 0) (0 : Int32).toNatClampNeg 0)))] := hD
      refine lv_iconst (v := 0) hx hb dX5_mark_38 (by decide) ?_
      refine lv_istore (lv' := [(5, .int 0), (4, .int (1 <<< (p1 &&& 31))), (0, .ref (a 9)), (1, .int 0), (2, .int p1), (3, .int p2)]) hx hb dX5_mark_39 hl (by decide) rfl (fun ls hl => ?_)
      refine lv_iconst (v := 0) hx hb dX5_mark_41 (by decide) ?_
      refine lv_istore (lv' := [(6, .int 0), (5, .int 0), (4, .int (1 <<< (p1 &&& 31))), (0, .ref (a 9)), (1, .int 0), (2, .int p1), (3, .int p2)]) hx hb dX5_mark_42 hl (by decide) rfl (fun ls hl => ?_)
      refine lv_iload hx hb dX5_mark_44 (lv_at hl 0 rfl) ?_
      refine lv_bipush (v := 8) hx hb dX5_mark_46 (by decide) ?_
      refine lv_icmp_ge (tgt := 72) hx hb dX5_mark_48 (by decide) (fun c_3 => ?_) (fun c_3 => ?_)
      · exact absurd c_3 (by decide)
      · refine lv_iload hx hb dX5_mark_51 (lv_at hl 1 rfl) ?_
        refine lv_aload_n hx hb dX5_mark_53 rfl (lv_at hl 3 rfl) ?_
        refine va_get (D := D) (ci := 11) (v := .ref (a 60)) (C := RX5) (T := TX5) (N := 9) hx hb ht in_X5 hown hK.1 hP 0 rfl rfl 1 (by decide) (ht _ w_281) (fun _ h9 => h9) rfl dX5_mark_54 ?_
        refine lv_iload hx hb dX5_mark_57 (lv_at hl 0 rfl) ?_
        refine va_iald hx hb hK.1 hP 1 0 rfl rfl (by unfold vp_in; decide) dX5_mark_59 ?_
        refine r_topi (v := 0) rfl ?_
        have hPc : va_P D vwCl [] _ := hP.sub (ws' := []) [] rfl
        have hDc : va_D (fun q => z0 ≤ q) [] := (hD.to hAz).pick (ws' := []) [] (by decide) rfl
        have hFc := AnA (ws := [((a 9), f_memory a), ((a 60), .inl (g 0, 8, .inl (fun _ => 0)))]) hS.1
        refine va_calli (va_runS (As := [.int 0]) (rest := [.int 0]) ⟨hx, hb, hml, hown, ht⟩ (k_J6_bitCount_0f7a4 l D g z0 _ a) (va_cwS 1 ht (gS w_277 w_279 w_280 w_278) rfl rfl rfl (by decide +kernel) (le2 rfl rfl)) ⟨PP.blind, PP.mk' hK hZ hz hAz hS hPc hDc⟩ rfl rfl hl.1 rfl (lv_room (Nat.le_of_ble_eq_true rfl)) dX5_mark_60 (le2 rfl rfl)) hS (fun q _ h => hFc q h) hFc (fun r u t H locs ht1 hvm hw hB hz1 hk1 hS => ?_)
        obtain ⟨rfl, hw⟩ := hw
        have hP := ro1 hP hk1
        refine lv_iadd hx hb dX5_mark_63 ?_
        refine r_topi (v := 0) (by decide) ?_
        refine lv_istore (lv' := [(5, .int 0), (6, .int 0), (4, .int (1 <<< (p1 &&& 31))), (0, .ref (a 9)), (1, .int 0), (2, .int p1), (3, .int p2)]) hx hb dX5_mark_64 hl (by decide) rfl (fun ls hl => ?_)
        refine lv_iinc (v := 1) (lv' := [(6, .int 1), (5, .int 0), (4, .int (1 <<< (p1 &&& 31))), (0, .ref (a 9)), (1, .int 0), (2, .int p1), (3, .int p2)]) hx hb dX5_mark_66 hl (k := 1) rfl (by decide) (by decide) rfl (fun ls hl => ?_)
        refine lv_goto (tgt := 44) hx hb dX5_mark_69 (by decide) ?_
        refine lv_iload hx hb dX5_mark_44 (lv_at hl 0 rfl) ?_
        refine lv_bipush (v := 8) hx hb dX5_mark_46 (by decide) ?_
        refine lv_icmp_ge (tgt := 72) hx hb dX5_mark_48 (by decide) (fun c_4 => ?_) (fun c_4 => ?_)
        · exact absurd c_4 (by decide)
        · refine lv_iload hx hb dX5_mark_51 (lv_at hl 1 rfl) ?_
          refine lv_aload_n hx hb dX5_mark_53 rfl (lv_at hl 3 rfl) ?_
          refine va_get (D := D) (ci := 11) (v := .ref (a 60)) (C := RX5) (T := TX5) (N := 9) hx hb ht in_X5 hown hK.1 hP 0 rfl rfl 1 (by decide) (ht _ w_281) (fun _ h9 => h9) rfl dX5_mark_54 ?_
          refine lv_iload hx hb dX5_mark_57 (lv_at hl 0 rfl) ?_
          refine va_iald hx hb hK.1 hP 1 0 rfl rfl (by unfold vp_in; decide) dX5_mark_59 ?_
          refine r_topi (v := 0) rfl ?_
          have hPc : va_P D vwCl [] _ := hP.sub (ws' := []) [] rfl
          have hDc : va_D (fun q => z0 ≤ q) [] := (hD.to hAz).pick (ws' := []) [] (by decide) rfl
          have hFc := AnA (ws := [((a 9), f_memory a), ((a 60), .inl (g 0, 8, .inl (fun _ => 0)))]) hS.1
          refine va_calli (va_runS (As := [.int 0]) (rest := [.int 0]) ⟨hx, hb, hml, hown, ht⟩ (k_J6_bitCount_0f7a4 l D g z0 _ a) (va_cwS 1 ht (gS w_277 w_279 w_280 w_278) rfl rfl rfl (by decide +kernel) (le2 rfl rfl)) ⟨PP.blind, PP.mk' hK hZ hz hAz hS hPc hDc⟩ rfl rfl hl.1 rfl (lv_room (Nat.le_of_ble_eq_true rfl)) dX5_mark_60 (le2 rfl rfl)) hS (fun q _ h => hFc q h) hFc (fun r u t H locs ht1 hvm hw hB hz1 hk1 hS => ?_)
          obtain ⟨rfl, hw⟩ := hw
          have hP := ro1 hP hk1
          refine lv_iadd hx hb dX5_mark_63 ?_
          refine r_topi (v := 0) (by decide) ?_
          refine lv_istore (lv' := [(5, .int 0), (6, .int 1), (4, .int (1 <<< (p1 &&& 31))), (0, .ref (a 9)), (1, .int 0), (2, .int p1), (3, .int p2)]) hx hb dX5_mark_64 hl (by decide) rfl (fun ls hl => ?_)
          refine lv_iinc (v := 2) (lv' := [(6, .int 2), (5, .int 0), (4, .int (1 <<< (p1 &&& 31))), (0, .ref (a 9)), (1, .int 0), (2, .int p1), (3, .int p2)]) hx hb dX5_mark_66 hl (k := 1) rfl (by decide) (by decide) rfl (fun ls hl => ?_)
          refine lv_goto (tgt := 44) hx hb dX5_mark_69 (by decide) ?_
          refine lv_iload hx hb dX5_mark_44 (lv_at hl 0 rfl) ?_
          refine lv_bipush (v := 8) hx hb dX5_mark_46 (by decide) ?_
          refine lv_icmp_ge (tgt := 72) hx hb dX5_mark_48 (by decide) (fun c_5 => ?_) (fun c_5 => ?_)
          · exact absurd c_5 (by decide)
          · refine lv_iload hx hb dX5_mark_51 (lv_at hl 1 rfl) ?_
            refine lv_aload_n hx hb dX5_mark_53 rfl (lv_at hl 3 rfl) ?_
            refine va_get (D := D) (ci := 11) (v := .ref (a 60)) (C := RX5) (T := TX5) (N := 9) hx hb ht in_X5 hown hK.1 hP 0 rfl rfl 1 (by decide) (ht _ w_281) (fun _ h9 => h9) rfl dX5_mark_54 ?_
            refine lv_iload hx hb dX5_mark_57 (lv_at hl 0 rfl) ?_
            refine va_iald hx hb hK.1 hP 1 0 rfl rfl (by unfold vp_in; decide) dX5_mark_59 ?_
            refine r_topi (v := 0) rfl ?_
            have hPc : va_P D vwCl [] _ := hP.sub (ws' := []) [] rfl
            have hDc : va_D (fun q => z0 ≤ q) [] := (hD.to hAz).pick (ws' := []) [] (by decide) rfl
            have hFc := AnA (ws := [((a 9), f_memory a), ((a 60), .inl (g 0, 8, .inl (fun _ => 0)))]) hS.1
            refine va_calli (va_runS (As := [.int 0]) (rest := [.int 0]) ⟨hx, hb, hml, hown, ht⟩ (k_J6_bitCount_0f7a4 l D g z0 _ a) (va_cwS 1 ht (gS w_277 w_279 w_280 w_278) rfl rfl rfl (by decide +kernel) (le2 rfl rfl)) ⟨PP.blind, PP.mk' hK hZ hz hAz hS hPc hDc⟩ rfl rfl hl.1 rfl (lv_room (Nat.le_of_ble_eq_true rfl)) dX5_mark_60 (le2 rfl rfl)) hS (fun q _ h => hFc q h) hFc (fun r u t H locs ht1 hvm hw hB hz1 hk1 hS => ?_)
            obtain ⟨rfl, hw⟩ := hw
            have hP := ro1 hP hk1
            refine lv_iadd hx hb dX5_mark_63 ?_
            refine r_topi (v := 0) (by decide) ?_
            refine lv_istore (lv' := [(5, .int 0), (6, .int 2), (4, .int (1 <<< (p1 &&& 31))), (0, .ref (a 9)), (1, .int 0), (2, .int p1), (3, .int p2)]) hx hb dX5_mark_64 hl (by decide) rfl (fun ls hl => ?_)
            refine lv_iinc (v := 3) (lv' := [(6, .int 3), (5, .int 0), (4, .int (1 <<< (p1 &&& 31))), (0, .ref (a 9)), (1, .int 0), (2, .int p1), (3, .int p2)]) hx hb dX5_mark_66 hl (k := 1) rfl (by decide) (by decide) rfl (fun ls hl => ?_)
            refine lv_goto (tgt := 44) hx hb dX5_mark_69 (by decide) ?_
            refine lv_iload hx hb dX5_mark_44 (lv_at hl 0 rfl) ?_
            refine lv_bipush (v := 8) hx hb dX5_mark_46 (by decide) ?_
            refine lv_icmp_ge (tgt := 72) hx hb dX5_mark_48 (by decide) (fun c_6 => ?_) (fun c_6 => ?_)
            · exact absurd c_6 (by decide)
            · refine lv_iload hx hb dX5_mark_51 (lv_at hl 1 rfl) ?_
              refine lv_aload_n hx hb dX5_mark_53 rfl (lv_at hl 3 rfl) ?_
              refine va_get (D := D) (ci := 11) (v := .ref (a 60)) (C := RX5) (T := TX5) (N := 9) hx hb ht in_X5 hown hK.1 hP 0 rfl rfl 1 (by decide) (ht _ w_281) (fun _ h9 => h9) rfl dX5_mark_54 ?_
              refine lv_iload hx hb dX5_mark_57 (lv_at hl 0 rfl) ?_
              refine va_iald hx hb hK.1 hP 1 0 rfl rfl (by unfold vp_in; decide) dX5_mark_59 ?_
              refine r_topi (v := 0) rfl ?_
              have hPc : va_P D vwCl [] _ := hP.sub (ws' := []) [] rfl
              have hDc : va_D (fun q => z0 ≤ q) [] := (hD.to hAz).pick (ws' := []) [] (by decide) rfl
              have hFc := AnA (ws := [((a 9), f_memory a), ((a 60), .inl (g 0, 8, .inl (fun _ => 0)))]) hS.1
              refine va_calli (va_runS (As := [.int 0]) (rest := [.int 0]) ⟨hx, hb, hml, hown, ht⟩ (k_J6_bitCount_0f7a4 l D g z0 _ a) (va_cwS 1 ht (gS w_277 w_279 w_280 w_278) rfl rfl rfl (by decide +kernel) (le2 rfl rfl)) ⟨PP.blind, PP.mk' hK hZ hz hAz hS hPc hDc⟩ rfl rfl hl.1 rfl (lv_room (Nat.le_of_ble_eq_true rfl)) dX5_mark_60 (le2 rfl rfl)) hS (fun q _ h => hFc q h) hFc (fun r u t H locs ht1 hvm hw hB hz1 hk1 hS => ?_)
              obtain ⟨rfl, hw⟩ := hw
              have hP := ro1 hP hk1
              refine lv_iadd hx hb dX5_mark_63 ?_
              refine r_topi (v := 0) (by decide) ?_
              refine lv_istore (lv' := [(5, .int 0), (6, .int 3), (4, .int (1 <<< (p1 &&& 31))), (0, .ref (a 9)), (1, .int 0), (2, .int p1), (3, .int p2)]) hx hb dX5_mark_64 hl (by decide) rfl (fun ls hl => ?_)
              refine lv_iinc (v := 4) (lv' := [(6, .int 4), (5, .int 0), (4, .int (1 <<< (p1 &&& 31))), (0, .ref (a 9)), (1, .int 0), (2, .int p1), (3, .int p2)]) hx hb dX5_mark_66 hl (k := 1) rfl (by decide) (by decide) rfl (fun ls hl => ?_)
              refine lv_goto (tgt := 44) hx hb dX5_mark_69 (by decide) ?_
              refine lv_iload hx hb dX5_mark_44 (lv_at hl 0 rfl) ?_
              refine lv_bipush (v := 8) hx hb dX5_mark_46 (by decide) ?_
              refine lv_icmp_ge (tgt := 72) hx hb dX5_mark_48 (by decide) (fun c_7 => ?_) (fun c_7 => ?_)
              · exact absurd c_7 (by decide)
              · refine lv_iload hx hb dX5_mark_51 (lv_at hl 1 rfl) ?_
                refine lv_aload_n hx hb dX5_mark_53 rfl (lv_at hl 3 rfl) ?_
                refine va_get (D := D) (ci := 11) (v := .ref (a 60)) (C := RX5) (T := TX5) (N := 9) hx hb ht in_X5 hown hK.1 hP 0 rfl rfl 1 (by decide) (ht _ w_281) (fun _ h9 => h9) rfl dX5_mark_54 ?_
                refine lv_iload hx hb dX5_mark_57 (lv_at hl 0 rfl) ?_
                refine va_iald hx hb hK.1 hP 1 0 rfl rfl (by unfold vp_in; decide) dX5_mark_59 ?_
                refine r_topi (v := 0) rfl ?_
                have hPc : va_P D vwCl [] _ := hP.sub (ws' := []) [] rfl
                have hDc : va_D (fun q => z0 ≤ q) [] := (hD.to hAz).pick (ws' := []) [] (by decide) rfl
                have hFc := AnA (ws := [((a 9), f_memory a), ((a 60), .inl (g 0, 8, .inl (fun _ => 0)))]) hS.1
                refine va_calli (va_runS (As := [.int 0]) (rest := [.int 0]) ⟨hx, hb, hml, hown, ht⟩ (k_J6_bitCount_0f7a4 l D g z0 _ a) (va_cwS 1 ht (gS w_277 w_279 w_280 w_278) rfl rfl rfl (by decide +kernel) (le2 rfl rfl)) ⟨PP.blind, PP.mk' hK hZ hz hAz hS hPc hDc⟩ rfl rfl hl.1 rfl (lv_room (Nat.le_of_ble_eq_true rfl)) dX5_mark_60 (le2 rfl rfl)) hS (fun q _ h => hFc q h) hFc (fun r u t H locs ht1 hvm hw hB hz1 hk1 hS => ?_)
                obtain ⟨rfl, hw⟩ := hw
                have hP := ro1 hP hk1
                refine lv_iadd hx hb dX5_mark_63 ?_
                refine r_topi (v := 0) (by decide) ?_
                refine lv_istore (lv' := [(5, .int 0), (6, .int 4), (4, .int (1 <<< (p1 &&& 31))), (0, .ref (a 9)), (1, .int 0), (2, .int p1), (3, .int p2)]) hx hb dX5_mark_64 hl (by decide) rfl (fun ls hl => ?_)
                refine lv_iinc (v := 5) (lv' := [(6, .int 5), (5, .int 0), (4, .int (1 <<< (p1 &&& 31))), (0, .ref (a 9)), (1, .int 0), (2, .int p1), (3, .int p2)]) hx hb dX5_mark_66 hl (k := 1) rfl (by decide) (by decide) rfl (fun ls hl => ?_)
                refine lv_goto (tgt := 44) hx hb dX5_mark_69 (by decide) ?_
                refine lv_iload hx hb dX5_mark_44 (lv_at hl 0 rfl) ?_
                refine lv_bipush (v := 8) hx hb dX5_mark_46 (by decide) ?_
                refine lv_icmp_ge (tgt := 72) hx hb dX5_mark_48 (by decide) (fun c_8 => ?_) (fun c_8 => ?_)
                · exact absurd c_8 (by decide)
                · refine lv_iload hx hb dX5_mark_51 (lv_at hl 1 rfl) ?_
                  refine lv_aload_n hx hb dX5_mark_53 rfl (lv_at hl 3 rfl) ?_
                  refine va_get (D := D) (ci := 11) (v := .ref (a 60)) (C := RX5) (T := TX5) (N := 9) hx hb ht in_X5 hown hK.1 hP 0 rfl rfl 1 (by decide) (ht _ w_281) (fun _ h9 => h9) rfl dX5_mark_54 ?_
                  refine lv_iload hx hb dX5_mark_57 (lv_at hl 0 rfl) ?_
                  refine va_iald hx hb hK.1 hP 1 0 rfl rfl (by unfold vp_in; decide) dX5_mark_59 ?_
                  refine r_topi (v := 0) rfl ?_
                  have hPc : va_P D vwCl [] _ := hP.sub (ws' := []) [] rfl
                  have hDc : va_D (fun q => z0 ≤ q) [] := (hD.to hAz).pick (ws' := []) [] (by decide) rfl
                  have hFc := AnA (ws := [((a 9), f_memory a), ((a 60), .inl (g 0, 8, .inl (fun _ => 0)))]) hS.1
                  refine va_calli (va_runS (As := [.int 0]) (rest := [.int 0]) ⟨hx, hb, hml, hown, ht⟩ (k_J6_bitCount_0f7a4 l D g z0 _ a) (va_cwS 1 ht (gS w_277 w_279 w_280 w_278) rfl rfl rfl (by decide +kernel) (le2 rfl rfl)) ⟨PP.blind, PP.mk' hK hZ hz hAz hS hPc hDc⟩ rfl rfl hl.1 rfl (lv_room (Nat.le_of_ble_eq_true rfl)) dX5_mark_60 (le2 rfl rfl)) hS (fun q _ h => hFc q h) hFc (fun r u t H locs ht1 hvm hw hB hz1 hk1 hS => ?_)
                  obtain ⟨rfl, hw⟩ := hw
                  have hP := ro1 hP hk1
                  refine lv_iadd hx hb dX5_mark_63 ?_
                  refine r_topi (v := 0) (by decide) ?_
                  refine lv_istore (lv' := [(5, .int 0), (6, .int 5), (4, .int (1 <<< (p1 &&& 31))), (0, .ref (a 9)), (1, .int 0), (2, .int p1), (3, .int p2)]) hx hb dX5_mark_64 hl (by decide) rfl (fun ls hl => ?_)
                  refine lv_iinc (v := 6) (lv' := [(6, .int 6), (5, .int 0), (4, .int (1 <<< (p1 &&& 31))), (0, .ref (a 9)), (1, .int 0), (2, .int p1), (3, .int p2)]) hx hb dX5_mark_66 hl (k := 1) rfl (by decide) (by decide) rfl (fun ls hl => ?_)
                  refine lv_goto (tgt := 44) hx hb dX5_mark_69 (by decide) ?_
                  refine lv_iload hx hb dX5_mark_44 (lv_at hl 0 rfl) ?_
                  refine lv_bipush (v := 8) hx hb dX5_mark_46 (by decide) ?_
                  refine lv_icmp_ge (tgt := 72) hx hb dX5_mark_48 (by decide) (fun c_9 => ?_) (fun c_9 => ?_)
                  · exact absurd c_9 (by decide)
                  · refine lv_iload hx hb dX5_mark_51 (lv_at hl 1 rfl) ?_
                    refine lv_aload_n hx hb dX5_mark_53 rfl (lv_at hl 3 rfl) ?_
                    refine va_get (D := D) (ci := 11) (v := .ref (a 60)) (C := RX5) (T := TX5) (N := 9) hx hb ht in_X5 hown hK.1 hP 0 rfl rfl 1 (by decide) (ht _ w_281) (fun _ h9 => h9) rfl dX5_mark_54 ?_
                    refine lv_iload hx hb dX5_mark_57 (lv_at hl 0 rfl) ?_
                    refine va_iald hx hb hK.1 hP 1 0 rfl rfl (by unfold vp_in; decide) dX5_mark_59 ?_
                    refine r_topi (v := 0) rfl ?_
                    have hPc : va_P D vwCl [] _ := hP.sub (ws' := []) [] rfl
                    have hDc : va_D (fun q => z0 ≤ q) [] := (hD.to hAz).pick (ws' := []) [] (by decide) rfl
                    have hFc := AnA (ws := [((a 9), f_memory a), ((a 60), .inl (g 0, 8, .inl (fun _ => 0)))]) hS.1
                    refine va_calli (va_runS (As := [.int 0]) (rest := [.int 0]) ⟨hx, hb, hml, hown, ht⟩ (k_J6_bitCount_0f7a4 l D g z0 _ a) (va_cwS 1 ht (gS w_277 w_279 w_280 w_278) rfl rfl rfl (by decide +kernel) (le2 rfl rfl)) ⟨PP.blind, PP.mk' hK hZ hz hAz hS hPc hDc⟩ rfl rfl hl.1 rfl (lv_room (Nat.le_of_ble_eq_true rfl)) dX5_mark_60 (le2 rfl rfl)) hS (fun q _ h => hFc q h) hFc (fun r u t H locs ht1 hvm hw hB hz1 hk1 hS => ?_)
                    obtain ⟨rfl, hw⟩ := hw
                    have hP := ro1 hP hk1
                    refine lv_iadd hx hb dX5_mark_63 ?_
                    refine r_topi (v := 0) (by decide) ?_
                    refine lv_istore (lv' := [(5, .int 0), (6, .int 6), (4, .int (1 <<< (p1 &&& 31))), (0, .ref (a 9)), (1, .int 0), (2, .int p1), (3, .int p2)]) hx hb dX5_mark_64 hl (by decide) rfl (fun ls hl => ?_)
                    refine lv_iinc (v := 7) (lv' := [(6, .int 7), (5, .int 0), (4, .int (1 <<< (p1 &&& 31))), (0, .ref (a 9)), (1, .int 0), (2, .int p1), (3, .int p2)]) hx hb dX5_mark_66 hl (k := 1) rfl (by decide) (by decide) rfl (fun ls hl => ?_)
                    refine lv_goto (tgt := 44) hx hb dX5_mark_69 (by decide) ?_
                    refine lv_iload hx hb dX5_mark_44 (lv_at hl 0 rfl) ?_
                    refine lv_bipush (v := 8) hx hb dX5_mark_46 (by decide) ?_
                    refine lv_icmp_ge (tgt := 72) hx hb dX5_mark_48 (by decide) (fun c_10 => ?_) (fun c_10 => ?_)
                    · exact absurd c_10 (by decide)
                    · refine lv_iload hx hb dX5_mark_51 (lv_at hl 1 rfl) ?_
                      refine lv_aload_n hx hb dX5_mark_53 rfl (lv_at hl 3 rfl) ?_
                      refine va_get (D := D) (ci := 11) (v := .ref (a 60)) (C := RX5) (T := TX5) (N := 9) hx hb ht in_X5 hown hK.1 hP 0 rfl rfl 1 (by decide) (ht _ w_281) (fun _ h9 => h9) rfl dX5_mark_54 ?_
                      refine lv_iload hx hb dX5_mark_57 (lv_at hl 0 rfl) ?_
                      refine va_iald hx hb hK.1 hP 1 0 rfl rfl (by unfold vp_in; decide) dX5_mark_59 ?_
                      refine r_topi (v := 0) rfl ?_
                      have hPc : va_P D vwCl [] _ := hP.sub (ws' := []) [] rfl
                      have hDc : va_D (fun q => z0 ≤ q) [] := (hD.to hAz).pick (ws' := []) [] (by decide) rfl
                      have hFc := AnA (ws := [((a 9), f_memory a), ((a 60), .inl (g 0, 8, .inl (fun _ => 0)))]) hS.1
                      refine va_calli (va_runS (As := [.int 0]) (rest := [.int 0]) ⟨hx, hb, hml, hown, ht⟩ (k_J6_bitCount_0f7a4 l D g z0 _ a) (va_cwS 1 ht (gS w_277 w_279 w_280 w_278) rfl rfl rfl (by decide +kernel) (le2 rfl rfl)) ⟨PP.blind, PP.mk' hK hZ hz hAz hS hPc hDc⟩ rfl rfl hl.1 rfl (lv_room (Nat.le_of_ble_eq_true rfl)) dX5_mark_60 (le2 rfl rfl)) hS (fun q _ h => hFc q h) hFc (fun r u t H locs ht1 hvm hw hB hz1 hk1 hS => ?_)
                      obtain ⟨rfl, hw⟩ := hw
                      have hP := ro1 hP hk1
                      refine lv_iadd hx hb dX5_mark_63 ?_
                      refine r_topi (v := 0) (by decide) ?_
                      refine lv_istore (lv' := [(5, .int 0), (6, .int 7), (4, .int (1 <<< (p1 &&& 31))), (0, .ref (a 9)), (1, .int 0), (2, .int p1), (3, .int p2)]) hx hb dX5_mark_64 hl (by decide) rfl (fun ls hl => ?_)
                      refine lv_iinc (v := 8) (lv' := [(6, .int 8), (5, .int 0), (4, .int (1 <<< (p1 &&& 31))), (0, .ref (a 9)), (1, .int 0), (2, .int p1), (3, .int p2)]) hx hb dX5_mark_66 hl (k := 1) rfl (by decide) (by decide) rfl (fun ls hl => ?_)
                      refine lv_goto (tgt := 44) hx hb dX5_mark_69 (by decide) ?_
                      refine lv_iload hx hb dX5_mark_44 (lv_at hl 0 rfl) ?_
                      refine lv_bipush (v := 8) hx hb dX5_mark_46 (by decide) ?_
                      refine lv_icmp_ge (tgt := 72) hx hb dX5_mark_48 (by decide) (fun c_11 => ?_) (fun c_11 => ?_)
                      · refine lv_iload hx hb dX5_mark_72 (lv_at hl 1 rfl) ?_
                        have hP9 := hP.sub (ws' := []) [] rfl
                        have hD9 := hD.sub (ws' := []) [] (by decide) rfl
                        refine W.widen (k := 0) (n := 0) (Nat.le_of_ble_eq_true rfl) (Nat.le_of_ble_eq_true rfl) ?_
                        exact W.iret (v := 0) hx hb hr (fun t ht9 hW9 => ⟨⟨0, (), rfl, (Or.inl ⟨rfl, c_2⟩), ⟨(by rw [ht9]; exact hP9), hD9⟩⟩, hS.F ht9⟩) hS.2.2 dX5_mark_74 hlocks
                      · exact absurd c_11 (by decide)
    · refine lv_aload_n hx hb dX5_mark_14 rfl (lv_at hl 1 rfl) ?_
      refine va_get (D := D) (ci := 11) (v := .ref (a 60)) (C := RX5) (T := TX5) (N := 9) hx hb ht in_X5 hown hK.1 hP 0 rfl rfl 1 (by decide) (ht _ w_281) (fun _ h9 => h9) rfl dX5_mark_15 ?_
      refine lv_iload_n hx hb dX5_mark_18 rfl (lv_at hl 2 rfl) ?_
      refine va_iald hx hb hK.1 hP 1 0 rfl rfl (by unfold vp_in; decide) dX5_mark_19 ?_
      refine r_topi (v := 0) rfl ?_
      refine lv_iload hx hb dX5_mark_20 (lv_at hl 0 rfl) ?_
      refine lv_ior hx hb dX5_mark_22 ?_
      refine r_topi (v := 1 <<< (p1 &&& 31)) (z_or _) ?_
      refine lv_goto (tgt := 37) hx hb dX5_mark_23 (by decide) ?_
      refine va_iast hx hb hK.1 hP hD hS 1 0 rfl rfl (by unfold vp_in; decide) dX5_mark_37 (fun H locs hP hD hS => ?_)
      have hP : va_P D vwCl [((a 9), f_memory a), ((a 60), .inl (g 0, 8, .inl (upd (fun _ => 0) (0 : Int32).toNatClampNeg (1 <<< (p1 &&& 31)))))] H := hP
      have hD : va_D (va_A [((a 9), f_memory a), ((a 60), .inl (g 0, 8, .inl (fun _ => 0)))] s.heap.size) [((a 9), f_memory a), ((a 60), .inl (g 0, 8, .inl (upd (fun _ => 0) (0 : Int32).toNatClampNeg (1 <<< (p1 &&& 31)))))] := hD
      refine lv_iconst (v := 0) hx hb dX5_mark_38 (by decide) ?_
      refine lv_istore (lv' := [(5, .int 0), (4, .int (1 <<< (p1 &&& 31))), (0, .ref (a 9)), (1, .int 0), (2, .int p1), (3, .int p2)]) hx hb dX5_mark_39 hl (by decide) rfl (fun ls hl => ?_)
      refine lv_iconst (v := 0) hx hb dX5_mark_41 (by decide) ?_
      refine lv_istore (lv' := [(6, .int 0), (5, .int 0), (4, .int (1 <<< (p1 &&& 31))), (0, .ref (a 9)), (1, .int 0), (2, .int p1), (3, .int p2)]) hx hb dX5_mark_42 hl (by decide) rfl (fun ls hl => ?_)
      refine lv_iload hx hb dX5_mark_44 (lv_at hl 0 rfl) ?_
      refine lv_bipush (v := 8) hx hb dX5_mark_46 (by decide) ?_
      refine lv_icmp_ge (tgt := 72) hx hb dX5_mark_48 (by decide) (fun c_12 => ?_) (fun c_12 => ?_)
      · exact absurd c_12 (by decide)
      · refine lv_iload hx hb dX5_mark_51 (lv_at hl 1 rfl) ?_
        refine lv_aload_n hx hb dX5_mark_53 rfl (lv_at hl 3 rfl) ?_
        refine va_get (D := D) (ci := 11) (v := .ref (a 60)) (C := RX5) (T := TX5) (N := 9) hx hb ht in_X5 hown hK.1 hP 0 rfl rfl 1 (by decide) (ht _ w_281) (fun _ h9 => h9) rfl dX5_mark_54 ?_
        refine lv_iload hx hb dX5_mark_57 (lv_at hl 0 rfl) ?_
        refine va_iald hx hb hK.1 hP 1 0 rfl rfl (by unfold vp_in; decide) dX5_mark_59 ?_
        refine r_topi (v := 1 <<< (p1 &&& 31)) rfl ?_
        have hPc : va_P D vwCl [] _ := hP.sub (ws' := []) [] rfl
        have hDc : va_D (fun q => z0 ≤ q) [] := (hD.to hAz).pick (ws' := []) [] (by decide) rfl
        have hFc := AnA (ws := [((a 9), f_memory a), ((a 60), .inl (g 0, 8, .inl (fun _ => 0)))]) hS.1
        refine va_calli (va_runS (As := [.int (1 <<< (p1 &&& 31))]) (rest := [.int 0]) ⟨hx, hb, hml, hown, ht⟩ (k_J6_bitCount_0f7a4_v1 l D g z0 _ a (1 <<< (p1 &&& 31))) (va_cwS 1 ht (gS w_277 w_279 w_280 w_278) rfl rfl rfl (by decide +kernel) (le2 rfl rfl)) ⟨PP.blind, PP.mk' hK hZ hz hAz hS hPc hDc⟩ rfl rfl hl.1 rfl (lv_room (Nat.le_of_ble_eq_true rfl)) dX5_mark_60 (le2 rfl rfl)) hS (fun q _ h => hFc q h) hFc (fun r u t H locs ht1 hvm hw hB hz1 hk1 hS => ?_)
        obtain ⟨rfl, hw⟩ := hw
        have hP := ro1 hP hk1
        refine r_topi (v := 1) (bit1 (lo_nlt hy2) (up_lt hy3)) ?_
        refine lv_iadd hx hb dX5_mark_63 ?_
        refine r_topi (v := 1) (by decide) ?_
        refine lv_istore (lv' := [(5, .int 1), (6, .int 0), (4, .int (1 <<< (p1 &&& 31))), (0, .ref (a 9)), (1, .int 0), (2, .int p1), (3, .int p2)]) hx hb dX5_mark_64 hl (by decide) rfl (fun ls hl => ?_)
        refine lv_iinc (v := 1) (lv' := [(6, .int 1), (5, .int 1), (4, .int (1 <<< (p1 &&& 31))), (0, .ref (a 9)), (1, .int 0), (2, .int p1), (3, .int p2)]) hx hb dX5_mark_66 hl (k := 1) rfl (by decide) (by decide) rfl (fun ls hl => ?_)
        refine lv_goto (tgt := 44) hx hb dX5_mark_69 (by decide) ?_
        refine lv_iload hx hb dX5_mark_44 (lv_at hl 0 rfl) ?_
        refine lv_bipush (v := 8) hx hb dX5_mark_46 (by decide) ?_
        refine lv_icmp_ge (tgt := 72) hx hb dX5_mark_48 (by decide) (fun c_13 => ?_) (fun c_13 => ?_)
        · exact absurd c_13 (by decide)
        · refine lv_iload hx hb dX5_mark_51 (lv_at hl 1 rfl) ?_
          refine lv_aload_n hx hb dX5_mark_53 rfl (lv_at hl 3 rfl) ?_
          refine va_get (D := D) (ci := 11) (v := .ref (a 60)) (C := RX5) (T := TX5) (N := 9) hx hb ht in_X5 hown hK.1 hP 0 rfl rfl 1 (by decide) (ht _ w_281) (fun _ h9 => h9) rfl dX5_mark_54 ?_
          refine lv_iload hx hb dX5_mark_57 (lv_at hl 0 rfl) ?_
          refine va_iald hx hb hK.1 hP 1 0 rfl rfl (by unfold vp_in; decide) dX5_mark_59 ?_
          refine r_topi (v := 0) rfl ?_
          have hPc : va_P D vwCl [] _ := hP.sub (ws' := []) [] rfl
          have hDc : va_D (fun q => z0 ≤ q) [] := (hD.to hAz).pick (ws' := []) [] (by decide) rfl
          have hFc := AnA (ws := [((a 9), f_memory a), ((a 60), .inl (g 0, 8, .inl (fun _ => 0)))]) hS.1
          refine va_calli (va_runS (As := [.int 0]) (rest := [.int 1]) ⟨hx, hb, hml, hown, ht⟩ (k_J6_bitCount_0f7a4 l D g z0 _ a) (va_cwS 1 ht (gS w_277 w_279 w_280 w_278) rfl rfl rfl (by decide +kernel) (le2 rfl rfl)) ⟨PP.blind, PP.mk' hK hZ hz hAz hS hPc hDc⟩ rfl rfl hl.1 rfl (lv_room (Nat.le_of_ble_eq_true rfl)) dX5_mark_60 (le2 rfl rfl)) hS (fun q _ h => hFc q h) hFc (fun r u t H locs ht1 hvm hw hB hz1 hk1 hS => ?_)
          obtain ⟨rfl, hw⟩ := hw
          have hP := ro1 hP hk1
          refine lv_iadd hx hb dX5_mark_63 ?_
          refine r_topi (v := 1) (by decide) ?_
          refine lv_istore (lv' := [(5, .int 1), (6, .int 1), (4, .int (1 <<< (p1 &&& 31))), (0, .ref (a 9)), (1, .int 0), (2, .int p1), (3, .int p2)]) hx hb dX5_mark_64 hl (by decide) rfl (fun ls hl => ?_)
          refine lv_iinc (v := 2) (lv' := [(6, .int 2), (5, .int 1), (4, .int (1 <<< (p1 &&& 31))), (0, .ref (a 9)), (1, .int 0), (2, .int p1), (3, .int p2)]) hx hb dX5_mark_66 hl (k := 1) rfl (by decide) (by decide) rfl (fun ls hl => ?_)
          refine lv_goto (tgt := 44) hx hb dX5_mark_69 (by decide) ?_
          refine lv_iload hx hb dX5_mark_44 (lv_at hl 0 rfl) ?_
          refine lv_bipush (v := 8) hx hb dX5_mark_46 (by decide) ?_
          refine lv_icmp_ge (tgt := 72) hx hb dX5_mark_48 (by decide) (fun c_14 => ?_) (fun c_14 => ?_)
          · exact absurd c_14 (by decide)
          · refine lv_iload hx hb dX5_mark_51 (lv_at hl 1 rfl) ?_
            refine lv_aload_n hx hb dX5_mark_53 rfl (lv_at hl 3 rfl) ?_
            refine va_get (D := D) (ci := 11) (v := .ref (a 60)) (C := RX5) (T := TX5) (N := 9) hx hb ht in_X5 hown hK.1 hP 0 rfl rfl 1 (by decide) (ht _ w_281) (fun _ h9 => h9) rfl dX5_mark_54 ?_
            refine lv_iload hx hb dX5_mark_57 (lv_at hl 0 rfl) ?_
            refine va_iald hx hb hK.1 hP 1 0 rfl rfl (by unfold vp_in; decide) dX5_mark_59 ?_
            refine r_topi (v := 0) rfl ?_
            have hPc : va_P D vwCl [] _ := hP.sub (ws' := []) [] rfl
            have hDc : va_D (fun q => z0 ≤ q) [] := (hD.to hAz).pick (ws' := []) [] (by decide) rfl
            have hFc := AnA (ws := [((a 9), f_memory a), ((a 60), .inl (g 0, 8, .inl (fun _ => 0)))]) hS.1
            refine va_calli (va_runS (As := [.int 0]) (rest := [.int 1]) ⟨hx, hb, hml, hown, ht⟩ (k_J6_bitCount_0f7a4 l D g z0 _ a) (va_cwS 1 ht (gS w_277 w_279 w_280 w_278) rfl rfl rfl (by decide +kernel) (le2 rfl rfl)) ⟨PP.blind, PP.mk' hK hZ hz hAz hS hPc hDc⟩ rfl rfl hl.1 rfl (lv_room (Nat.le_of_ble_eq_true rfl)) dX5_mark_60 (le2 rfl rfl)) hS (fun q _ h => hFc q h) hFc (fun r u t H locs ht1 hvm hw hB hz1 hk1 hS => ?_)
            obtain ⟨rfl, hw⟩ := hw
            have hP := ro1 hP hk1
            refine lv_iadd hx hb dX5_mark_63 ?_
            refine r_topi (v := 1) (by decide) ?_
            refine lv_istore (lv' := [(5, .int 1), (6, .int 2), (4, .int (1 <<< (p1 &&& 31))), (0, .ref (a 9)), (1, .int 0), (2, .int p1), (3, .int p2)]) hx hb dX5_mark_64 hl (by decide) rfl (fun ls hl => ?_)
            refine lv_iinc (v := 3) (lv' := [(6, .int 3), (5, .int 1), (4, .int (1 <<< (p1 &&& 31))), (0, .ref (a 9)), (1, .int 0), (2, .int p1), (3, .int p2)]) hx hb dX5_mark_66 hl (k := 1) rfl (by decide) (by decide) rfl (fun ls hl => ?_)
            refine lv_goto (tgt := 44) hx hb dX5_mark_69 (by decide) ?_
            refine lv_iload hx hb dX5_mark_44 (lv_at hl 0 rfl) ?_
            refine lv_bipush (v := 8) hx hb dX5_mark_46 (by decide) ?_
            refine lv_icmp_ge (tgt := 72) hx hb dX5_mark_48 (by decide) (fun c_15 => ?_) (fun c_15 => ?_)
            · exact absurd c_15 (by decide)
            · refine lv_iload hx hb dX5_mark_51 (lv_at hl 1 rfl) ?_
              refine lv_aload_n hx hb dX5_mark_53 rfl (lv_at hl 3 rfl) ?_
              refine va_get (D := D) (ci := 11) (v := .ref (a 60)) (C := RX5) (T := TX5) (N := 9) hx hb ht in_X5 hown hK.1 hP 0 rfl rfl 1 (by decide) (ht _ w_281) (fun _ h9 => h9) rfl dX5_mark_54 ?_
              refine lv_iload hx hb dX5_mark_57 (lv_at hl 0 rfl) ?_
              refine va_iald hx hb hK.1 hP 1 0 rfl rfl (by unfold vp_in; decide) dX5_mark_59 ?_
              refine r_topi (v := 0) rfl ?_
              have hPc : va_P D vwCl [] _ := hP.sub (ws' := []) [] rfl
              have hDc : va_D (fun q => z0 ≤ q) [] := (hD.to hAz).pick (ws' := []) [] (by decide) rfl
              have hFc := AnA (ws := [((a 9), f_memory a), ((a 60), .inl (g 0, 8, .inl (fun _ => 0)))]) hS.1
              refine va_calli (va_runS (As := [.int 0]) (rest := [.int 1]) ⟨hx, hb, hml, hown, ht⟩ (k_J6_bitCount_0f7a4 l D g z0 _ a) (va_cwS 1 ht (gS w_277 w_279 w_280 w_278) rfl rfl rfl (by decide +kernel) (le2 rfl rfl)) ⟨PP.blind, PP.mk' hK hZ hz hAz hS hPc hDc⟩ rfl rfl hl.1 rfl (lv_room (Nat.le_of_ble_eq_true rfl)) dX5_mark_60 (le2 rfl rfl)) hS (fun q _ h => hFc q h) hFc (fun r u t H locs ht1 hvm hw hB hz1 hk1 hS => ?_)
              obtain ⟨rfl, hw⟩ := hw
              have hP := ro1 hP hk1
              refine lv_iadd hx hb dX5_mark_63 ?_
              refine r_topi (v := 1) (by decide) ?_
              refine lv_istore (lv' := [(5, .int 1), (6, .int 3), (4, .int (1 <<< (p1 &&& 31))), (0, .ref (a 9)), (1, .int 0), (2, .int p1), (3, .int p2)]) hx hb dX5_mark_64 hl (by decide) rfl (fun ls hl => ?_)
              refine lv_iinc (v := 4) (lv' := [(6, .int 4), (5, .int 1), (4, .int (1 <<< (p1 &&& 31))), (0, .ref (a 9)), (1, .int 0), (2, .int p1), (3, .int p2)]) hx hb dX5_mark_66 hl (k := 1) rfl (by decide) (by decide) rfl (fun ls hl => ?_)
              refine lv_goto (tgt := 44) hx hb dX5_mark_69 (by decide) ?_
              refine lv_iload hx hb dX5_mark_44 (lv_at hl 0 rfl) ?_
              refine lv_bipush (v := 8) hx hb dX5_mark_46 (by decide) ?_
              refine lv_icmp_ge (tgt := 72) hx hb dX5_mark_48 (by decide) (fun c_16 => ?_) (fun c_16 => ?_)
              · exact absurd c_16 (by decide)
              · refine lv_iload hx hb dX5_mark_51 (lv_at hl 1 rfl) ?_
                refine lv_aload_n hx hb dX5_mark_53 rfl (lv_at hl 3 rfl) ?_
                refine va_get (D := D) (ci := 11) (v := .ref (a 60)) (C := RX5) (T := TX5) (N := 9) hx hb ht in_X5 hown hK.1 hP 0 rfl rfl 1 (by decide) (ht _ w_281) (fun _ h9 => h9) rfl dX5_mark_54 ?_
                refine lv_iload hx hb dX5_mark_57 (lv_at hl 0 rfl) ?_
                refine va_iald hx hb hK.1 hP 1 0 rfl rfl (by unfold vp_in; decide) dX5_mark_59 ?_
                refine r_topi (v := 0) rfl ?_
                have hPc : va_P D vwCl [] _ := hP.sub (ws' := []) [] rfl
                have hDc : va_D (fun q => z0 ≤ q) [] := (hD.to hAz).pick (ws' := []) [] (by decide) rfl
                have hFc := AnA (ws := [((a 9), f_memory a), ((a 60), .inl (g 0, 8, .inl (fun _ => 0)))]) hS.1
                refine va_calli (va_runS (As := [.int 0]) (rest := [.int 1]) ⟨hx, hb, hml, hown, ht⟩ (k_J6_bitCount_0f7a4 l D g z0 _ a) (va_cwS 1 ht (gS w_277 w_279 w_280 w_278) rfl rfl rfl (by decide +kernel) (le2 rfl rfl)) ⟨PP.blind, PP.mk' hK hZ hz hAz hS hPc hDc⟩ rfl rfl hl.1 rfl (lv_room (Nat.le_of_ble_eq_true rfl)) dX5_mark_60 (le2 rfl rfl)) hS (fun q _ h => hFc q h) hFc (fun r u t H locs ht1 hvm hw hB hz1 hk1 hS => ?_)
                obtain ⟨rfl, hw⟩ := hw
                have hP := ro1 hP hk1
                refine lv_iadd hx hb dX5_mark_63 ?_
                refine r_topi (v := 1) (by decide) ?_
                refine lv_istore (lv' := [(5, .int 1), (6, .int 4), (4, .int (1 <<< (p1 &&& 31))), (0, .ref (a 9)), (1, .int 0), (2, .int p1), (3, .int p2)]) hx hb dX5_mark_64 hl (by decide) rfl (fun ls hl => ?_)
                refine lv_iinc (v := 5) (lv' := [(6, .int 5), (5, .int 1), (4, .int (1 <<< (p1 &&& 31))), (0, .ref (a 9)), (1, .int 0), (2, .int p1), (3, .int p2)]) hx hb dX5_mark_66 hl (k := 1) rfl (by decide) (by decide) rfl (fun ls hl => ?_)
                refine lv_goto (tgt := 44) hx hb dX5_mark_69 (by decide) ?_
                refine lv_iload hx hb dX5_mark_44 (lv_at hl 0 rfl) ?_
                refine lv_bipush (v := 8) hx hb dX5_mark_46 (by decide) ?_
                refine lv_icmp_ge (tgt := 72) hx hb dX5_mark_48 (by decide) (fun c_17 => ?_) (fun c_17 => ?_)
                · exact absurd c_17 (by decide)
                · refine lv_iload hx hb dX5_mark_51 (lv_at hl 1 rfl) ?_
                  refine lv_aload_n hx hb dX5_mark_53 rfl (lv_at hl 3 rfl) ?_
                  refine va_get (D := D) (ci := 11) (v := .ref (a 60)) (C := RX5) (T := TX5) (N := 9) hx hb ht in_X5 hown hK.1 hP 0 rfl rfl 1 (by decide) (ht _ w_281) (fun _ h9 => h9) rfl dX5_mark_54 ?_
                  refine lv_iload hx hb dX5_mark_57 (lv_at hl 0 rfl) ?_
                  refine va_iald hx hb hK.1 hP 1 0 rfl rfl (by unfold vp_in; decide) dX5_mark_59 ?_
                  refine r_topi (v := 0) rfl ?_
                  have hPc : va_P D vwCl [] _ := hP.sub (ws' := []) [] rfl
                  have hDc : va_D (fun q => z0 ≤ q) [] := (hD.to hAz).pick (ws' := []) [] (by decide) rfl
                  have hFc := AnA (ws := [((a 9), f_memory a), ((a 60), .inl (g 0, 8, .inl (fun _ => 0)))]) hS.1
                  refine va_calli (va_runS (As := [.int 0]) (rest := [.int 1]) ⟨hx, hb, hml, hown, ht⟩ (k_J6_bitCount_0f7a4 l D g z0 _ a) (va_cwS 1 ht (gS w_277 w_279 w_280 w_278) rfl rfl rfl (by decide +kernel) (le2 rfl rfl)) ⟨PP.blind, PP.mk' hK hZ hz hAz hS hPc hDc⟩ rfl rfl hl.1 rfl (lv_room (Nat.le_of_ble_eq_true rfl)) dX5_mark_60 (le2 rfl rfl)) hS (fun q _ h => hFc q h) hFc (fun r u t H locs ht1 hvm hw hB hz1 hk1 hS => ?_)
                  obtain ⟨rfl, hw⟩ := hw
                  have hP := ro1 hP hk1
                  refine lv_iadd hx hb dX5_mark_63 ?_
                  refine r_topi (v := 1) (by decide) ?_
                  refine lv_istore (lv' := [(5, .int 1), (6, .int 5), (4, .int (1 <<< (p1 &&& 31))), (0, .ref (a 9)), (1, .int 0), (2, .int p1), (3, .int p2)]) hx hb dX5_mark_64 hl (by decide) rfl (fun ls hl => ?_)
                  refine lv_iinc (v := 6) (lv' := [(6, .int 6), (5, .int 1), (4, .int (1 <<< (p1 &&& 31))), (0, .ref (a 9)), (1, .int 0), (2, .int p1), (3, .int p2)]) hx hb dX5_mark_66 hl (k := 1) rfl (by decide) (by decide) rfl (fun ls hl => ?_)
                  refine lv_goto (tgt := 44) hx hb dX5_mark_69 (by decide) ?_
                  refine lv_iload hx hb dX5_mark_44 (lv_at hl 0 rfl) ?_
                  refine lv_bipush (v := 8) hx hb dX5_mark_46 (by decide) ?_
                  refine lv_icmp_ge (tgt := 72) hx hb dX5_mark_48 (by decide) (fun c_18 => ?_) (fun c_18 => ?_)
                  · exact absurd c_18 (by decide)
                  · refine lv_iload hx hb dX5_mark_51 (lv_at hl 1 rfl) ?_
                    refine lv_aload_n hx hb dX5_mark_53 rfl (lv_at hl 3 rfl) ?_
                    refine va_get (D := D) (ci := 11) (v := .ref (a 60)) (C := RX5) (T := TX5) (N := 9) hx hb ht in_X5 hown hK.1 hP 0 rfl rfl 1 (by decide) (ht _ w_281) (fun _ h9 => h9) rfl dX5_mark_54 ?_
                    refine lv_iload hx hb dX5_mark_57 (lv_at hl 0 rfl) ?_
                    refine va_iald hx hb hK.1 hP 1 0 rfl rfl (by unfold vp_in; decide) dX5_mark_59 ?_
                    refine r_topi (v := 0) rfl ?_
                    have hPc : va_P D vwCl [] _ := hP.sub (ws' := []) [] rfl
                    have hDc : va_D (fun q => z0 ≤ q) [] := (hD.to hAz).pick (ws' := []) [] (by decide) rfl
                    have hFc := AnA (ws := [((a 9), f_memory a), ((a 60), .inl (g 0, 8, .inl (fun _ => 0)))]) hS.1
                    refine va_calli (va_runS (As := [.int 0]) (rest := [.int 1]) ⟨hx, hb, hml, hown, ht⟩ (k_J6_bitCount_0f7a4 l D g z0 _ a) (va_cwS 1 ht (gS w_277 w_279 w_280 w_278) rfl rfl rfl (by decide +kernel) (le2 rfl rfl)) ⟨PP.blind, PP.mk' hK hZ hz hAz hS hPc hDc⟩ rfl rfl hl.1 rfl (lv_room (Nat.le_of_ble_eq_true rfl)) dX5_mark_60 (le2 rfl rfl)) hS (fun q _ h => hFc q h) hFc (fun r u t H locs ht1 hvm hw hB hz1 hk1 hS => ?_)
                    obtain ⟨rfl, hw⟩ := hw
                    have hP := ro1 hP hk1
                    refine lv_iadd hx hb dX5_mark_63 ?_
                    refine r_topi (v := 1) (by decide) ?_
                    refine lv_istore (lv' := [(5, .int 1), (6, .int 6), (4, .int (1 <<< (p1 &&& 31))), (0, .ref (a 9)), (1, .int 0), (2, .int p1), (3, .int p2)]) hx hb dX5_mark_64 hl (by decide) rfl (fun ls hl => ?_)
                    refine lv_iinc (v := 7) (lv' := [(6, .int 7), (5, .int 1), (4, .int (1 <<< (p1 &&& 31))), (0, .ref (a 9)), (1, .int 0), (2, .int p1), (3, .int p2)]) hx hb dX5_mark_66 hl (k := 1) rfl (by decide) (by decide) rfl (fun ls hl => ?_)
                    refine lv_goto (tgt := 44) hx hb dX5_mark_69 (by decide) ?_
                    refine lv_iload hx hb dX5_mark_44 (lv_at hl 0 rfl) ?_
                    refine lv_bipush (v := 8) hx hb dX5_mark_46 (by decide) ?_
                    refine lv_icmp_ge (tgt := 72) hx hb dX5_mark_48 (by decide) (fun c_19 => ?_) (fun c_19 => ?_)
                    · exact absurd c_19 (by decide)
                    · refine lv_iload hx hb dX5_mark_51 (lv_at hl 1 rfl) ?_
                      refine lv_aload_n hx hb dX5_mark_53 rfl (lv_at hl 3 rfl) ?_
                      refine va_get (D := D) (ci := 11) (v := .ref (a 60)) (C := RX5) (T := TX5) (N := 9) hx hb ht in_X5 hown hK.1 hP 0 rfl rfl 1 (by decide) (ht _ w_281) (fun _ h9 => h9) rfl dX5_mark_54 ?_
                      refine lv_iload hx hb dX5_mark_57 (lv_at hl 0 rfl) ?_
                      refine va_iald hx hb hK.1 hP 1 0 rfl rfl (by unfold vp_in; decide) dX5_mark_59 ?_
                      refine r_topi (v := 0) rfl ?_
                      have hPc : va_P D vwCl [] _ := hP.sub (ws' := []) [] rfl
                      have hDc : va_D (fun q => z0 ≤ q) [] := (hD.to hAz).pick (ws' := []) [] (by decide) rfl
                      have hFc := AnA (ws := [((a 9), f_memory a), ((a 60), .inl (g 0, 8, .inl (fun _ => 0)))]) hS.1
                      refine va_calli (va_runS (As := [.int 0]) (rest := [.int 1]) ⟨hx, hb, hml, hown, ht⟩ (k_J6_bitCount_0f7a4 l D g z0 _ a) (va_cwS 1 ht (gS w_277 w_279 w_280 w_278) rfl rfl rfl (by decide +kernel) (le2 rfl rfl)) ⟨PP.blind, PP.mk' hK hZ hz hAz hS hPc hDc⟩ rfl rfl hl.1 rfl (lv_room (Nat.le_of_ble_eq_true rfl)) dX5_mark_60 (le2 rfl rfl)) hS (fun q _ h => hFc q h) hFc (fun r u t H locs ht1 hvm hw hB hz1 hk1 hS => ?_)
                      obtain ⟨rfl, hw⟩ := hw
                      have hP := ro1 hP hk1
                      refine lv_iadd hx hb dX5_mark_63 ?_
                      refine r_topi (v := 1) (by decide) ?_
                      refine lv_istore (lv' := [(5, .int 1), (6, .int 7), (4, .int (1 <<< (p1 &&& 31))), (0, .ref (a 9)), (1, .int 0), (2, .int p1), (3, .int p2)]) hx hb dX5_mark_64 hl (by decide) rfl (fun ls hl => ?_)
                      refine lv_iinc (v := 8) (lv' := [(6, .int 8), (5, .int 1), (4, .int (1 <<< (p1 &&& 31))), (0, .ref (a 9)), (1, .int 0), (2, .int p1), (3, .int p2)]) hx hb dX5_mark_66 hl (k := 1) rfl (by decide) (by decide) rfl (fun ls hl => ?_)
                      refine lv_goto (tgt := 44) hx hb dX5_mark_69 (by decide) ?_
                      refine lv_iload hx hb dX5_mark_44 (lv_at hl 0 rfl) ?_
                      refine lv_bipush (v := 8) hx hb dX5_mark_46 (by decide) ?_
                      refine lv_icmp_ge (tgt := 72) hx hb dX5_mark_48 (by decide) (fun c_20 => ?_) (fun c_20 => ?_)
                      · refine lv_iload hx hb dX5_mark_72 (lv_at hl 1 rfl) ?_
                        have hP9 := hP.sub (ws' := []) [] rfl
                        have hD9 := hD.sub (ws' := []) [] (by decide) rfl
                        refine W.widen (k := 0) (n := 0) (Nat.le_of_ble_eq_true rfl) (Nat.le_of_ble_eq_true rfl) ?_
                        exact W.iret (v := 1) hx hb hr (fun t ht9 hW9 => ⟨⟨1, (), rfl, (Or.inr ⟨rfl, c_2⟩), ⟨(by rw [ht9]; exact hP9), hD9⟩⟩, hS.F ht9⟩) hS.2.2 dX5_mark_74 hlocks
                      · exact absurd c_20 (by decide)
  · subst e_1
    have hl : lv_has ls 7 [(4, .int (1 <<< (p1 &&& 31))), (0, .ref (a 9)), (1, .int 1), (2, .int p1), (3, .int p2)] := hl
    refine lv_aload_n hx hb dX5_mark_5 rfl (lv_at hl 1 rfl) ?_
    refine va_get (D := D) (ci := 11) (v := .ref (a 60)) (C := RX5) (T := TX5) (N := 9) hx hb ht in_X5 hown hK.1 hP 0 rfl rfl 1 (by decide) (ht _ w_281) (fun _ h9 => h9) rfl dX5_mark_6 ?_
    refine lv_iload_n hx hb dX5_mark_9 rfl (lv_at hl 2 rfl) ?_
    refine lv_iload_n hx hb dX5_mark_10 rfl (lv_at hl 4 rfl) ?_
    refine lv_if_eq (tgt := 26) hx hb dX5_mark_11 (by decide) (fun c_21 => ?_) (fun c_21 => ?_)
    · refine lv_aload_n hx hb dX5_mark_26 rfl (lv_at hl 1 rfl) ?_
      refine va_get (D := D) (ci := 11) (v := .ref (a 60)) (C := RX5) (T := TX5) (N := 9) hx hb ht in_X5 hown hK.1 hP 0 rfl rfl 1 (by decide) (ht _ w_281) (fun _ h9 => h9) rfl dX5_mark_27 ?_
      refine lv_iload_n hx hb dX5_mark_30 rfl (lv_at hl 2 rfl) ?_
      refine va_iald hx hb hK.1 hP 1 0 rfl rfl (by unfold vp_in; decide) dX5_mark_31 ?_
      refine r_topi (v := 0) rfl ?_
      refine lv_iload hx hb dX5_mark_32 (lv_at hl 0 rfl) ?_
      refine lv_iconst (v := (-1)) hx hb dX5_mark_34 (by decide) ?_
      refine lv_ixor hx hb dX5_mark_35 ?_
      refine lv_iand hx hb dX5_mark_36 ?_
      refine r_topi (v := 0) (z_and _) ?_
      refine va_iast hx hb hK.1 hP hD hS 1 0 rfl rfl (by unfold vp_in; decide) dX5_mark_37 (fun H locs hP hD hS => ?_)
      have hP : va_P D vwCl [((a 9), f_memory a), ((a 60), .inl (g 0, 8, .inl (upd (fun _ => 0) (1 : Int32).toNatClampNeg 0)))] H := hP
      have hD : va_D (va_A [((a 9), f_memory a), ((a 60), .inl (g 0, 8, .inl (fun _ => 0)))] s.heap.size) [((a 9), f_memory a), ((a 60), .inl (g 0, 8, .inl (upd (fun _ => 0) (1 : Int32).toNatClampNeg 0)))] := hD
      refine lv_iconst (v := 0) hx hb dX5_mark_38 (by decide) ?_
      refine lv_istore (lv' := [(5, .int 0), (4, .int (1 <<< (p1 &&& 31))), (0, .ref (a 9)), (1, .int 1), (2, .int p1), (3, .int p2)]) hx hb dX5_mark_39 hl (by decide) rfl (fun ls hl => ?_)
      refine lv_iconst (v := 0) hx hb dX5_mark_41 (by decide) ?_
      refine lv_istore (lv' := [(6, .int 0), (5, .int 0), (4, .int (1 <<< (p1 &&& 31))), (0, .ref (a 9)), (1, .int 1), (2, .int p1), (3, .int p2)]) hx hb dX5_mark_42 hl (by decide) rfl (fun ls hl => ?_)
      refine lv_iload hx hb dX5_mark_44 (lv_at hl 0 rfl) ?_
      refine lv_bipush (v := 8) hx hb dX5_mark_46 (by decide) ?_
      refine lv_icmp_ge (tgt := 72) hx hb dX5_mark_48 (by decide) (fun c_22 => ?_) (fun c_22 => ?_)
      · exact absurd c_22 (by decide)
      · refine lv_iload hx hb dX5_mark_51 (lv_at hl 1 rfl) ?_
        refine lv_aload_n hx hb dX5_mark_53 rfl (lv_at hl 3 rfl) ?_
        refine va_get (D := D) (ci := 11) (v := .ref (a 60)) (C := RX5) (T := TX5) (N := 9) hx hb ht in_X5 hown hK.1 hP 0 rfl rfl 1 (by decide) (ht _ w_281) (fun _ h9 => h9) rfl dX5_mark_54 ?_
        refine lv_iload hx hb dX5_mark_57 (lv_at hl 0 rfl) ?_
        refine va_iald hx hb hK.1 hP 1 0 rfl rfl (by unfold vp_in; decide) dX5_mark_59 ?_
        refine r_topi (v := 0) rfl ?_
        have hPc : va_P D vwCl [] _ := hP.sub (ws' := []) [] rfl
        have hDc : va_D (fun q => z0 ≤ q) [] := (hD.to hAz).pick (ws' := []) [] (by decide) rfl
        have hFc := AnA (ws := [((a 9), f_memory a), ((a 60), .inl (g 0, 8, .inl (fun _ => 0)))]) hS.1
        refine va_calli (va_runS (As := [.int 0]) (rest := [.int 0]) ⟨hx, hb, hml, hown, ht⟩ (k_J6_bitCount_0f7a4 l D g z0 _ a) (va_cwS 1 ht (gS w_277 w_279 w_280 w_278) rfl rfl rfl (by decide +kernel) (le2 rfl rfl)) ⟨PP.blind, PP.mk' hK hZ hz hAz hS hPc hDc⟩ rfl rfl hl.1 rfl (lv_room (Nat.le_of_ble_eq_true rfl)) dX5_mark_60 (le2 rfl rfl)) hS (fun q _ h => hFc q h) hFc (fun r u t H locs ht1 hvm hw hB hz1 hk1 hS => ?_)
        obtain ⟨rfl, hw⟩ := hw
        have hP := ro1 hP hk1
        refine lv_iadd hx hb dX5_mark_63 ?_
        refine r_topi (v := 0) (by decide) ?_
        refine lv_istore (lv' := [(5, .int 0), (6, .int 0), (4, .int (1 <<< (p1 &&& 31))), (0, .ref (a 9)), (1, .int 1), (2, .int p1), (3, .int p2)]) hx hb dX5_mark_64 hl (by decide) rfl (fun ls hl => ?_)
        refine lv_iinc (v := 1) (lv' := [(6, .int 1), (5, .int 0), (4, .int (1 <<< (p1 &&& 31))), (0, .ref (a 9)), (1, .int 1), (2, .int p1), (3, .int p2)]) hx hb dX5_mark_66 hl (k := 1) rfl (by decide) (by decide) rfl (fun ls hl => ?_)
        refine lv_goto (tgt := 44) hx hb dX5_mark_69 (by decide) ?_
        refine lv_iload hx hb dX5_mark_44 (lv_at hl 0 rfl) ?_
        refine lv_bipush (v := 8) hx hb dX5_mark_46 (by decide) ?_
        refine lv_icmp_ge (tgt := 72) hx hb dX5_mark_48 (by decide) (fun c_23 => ?_) (fun c_23 => ?_)
        · exact absurd c_23 (by decide)
        · refine lv_iload hx hb dX5_mark_51 (lv_at hl 1 rfl) ?_
          refine lv_aload_n hx hb dX5_mark_53 rfl (lv_at hl 3 rfl) ?_
          refine va_get (D := D) (ci := 11) (v := .ref (a 60)) (C := RX5) (T := TX5) (N := 9) hx hb ht in_X5 hown hK.1 hP 0 rfl rfl 1 (by decide) (ht _ w_281) (fun _ h9 => h9) rfl dX5_mark_54 ?_
          refine lv_iload hx hb dX5_mark_57 (lv_at hl 0 rfl) ?_
          refine va_iald hx hb hK.1 hP 1 0 rfl rfl (by unfold vp_in; decide) dX5_mark_59 ?_
          refine r_topi (v := 0) rfl ?_
          have hPc : va_P D vwCl [] _ := hP.sub (ws' := []) [] rfl
          have hDc : va_D (fun q => z0 ≤ q) [] := (hD.to hAz).pick (ws' := []) [] (by decide) rfl
          have hFc := AnA (ws := [((a 9), f_memory a), ((a 60), .inl (g 0, 8, .inl (fun _ => 0)))]) hS.1
          refine va_calli (va_runS (As := [.int 0]) (rest := [.int 0]) ⟨hx, hb, hml, hown, ht⟩ (k_J6_bitCount_0f7a4 l D g z0 _ a) (va_cwS 1 ht (gS w_277 w_279 w_280 w_278) rfl rfl rfl (by decide +kernel) (le2 rfl rfl)) ⟨PP.blind, PP.mk' hK hZ hz hAz hS hPc hDc⟩ rfl rfl hl.1 rfl (lv_room (Nat.le_of_ble_eq_true rfl)) dX5_mark_60 (le2 rfl rfl)) hS (fun q _ h => hFc q h) hFc (fun r u t H locs ht1 hvm hw hB hz1 hk1 hS => ?_)
          obtain ⟨rfl, hw⟩ := hw
          have hP := ro1 hP hk1
          refine lv_iadd hx hb dX5_mark_63 ?_
          refine r_topi (v := 0) (by decide) ?_
          refine lv_istore (lv' := [(5, .int 0), (6, .int 1), (4, .int (1 <<< (p1 &&& 31))), (0, .ref (a 9)), (1, .int 1), (2, .int p1), (3, .int p2)]) hx hb dX5_mark_64 hl (by decide) rfl (fun ls hl => ?_)
          refine lv_iinc (v := 2) (lv' := [(6, .int 2), (5, .int 0), (4, .int (1 <<< (p1 &&& 31))), (0, .ref (a 9)), (1, .int 1), (2, .int p1), (3, .int p2)]) hx hb dX5_mark_66 hl (k := 1) rfl (by decide) (by decide) rfl (fun ls hl => ?_)
          refine lv_goto (tgt := 44) hx hb dX5_mark_69 (by decide) ?_
          refine lv_iload hx hb dX5_mark_44 (lv_at hl 0 rfl) ?_
          refine lv_bipush (v := 8) hx hb dX5_mark_46 (by decide) ?_
          refine lv_icmp_ge (tgt := 72) hx hb dX5_mark_48 (by decide) (fun c_24 => ?_) (fun c_24 => ?_)
          · exact absurd c_24 (by decide)
          · refine lv_iload hx hb dX5_mark_51 (lv_at hl 1 rfl) ?_
            refine lv_aload_n hx hb dX5_mark_53 rfl (lv_at hl 3 rfl) ?_
            refine va_get (D := D) (ci := 11) (v := .ref (a 60)) (C := RX5) (T := TX5) (N := 9) hx hb ht in_X5 hown hK.1 hP 0 rfl rfl 1 (by decide) (ht _ w_281) (fun _ h9 => h9) rfl dX5_mark_54 ?_
            refine lv_iload hx hb dX5_mark_57 (lv_at hl 0 rfl) ?_
            refine va_iald hx hb hK.1 hP 1 0 rfl rfl (by unfold vp_in; decide) dX5_mark_59 ?_
            refine r_topi (v := 0) rfl ?_
            have hPc : va_P D vwCl [] _ := hP.sub (ws' := []) [] rfl
            have hDc : va_D (fun q => z0 ≤ q) [] := (hD.to hAz).pick (ws' := []) [] (by decide) rfl
            have hFc := AnA (ws := [((a 9), f_memory a), ((a 60), .inl (g 0, 8, .inl (fun _ => 0)))]) hS.1
            refine va_calli (va_runS (As := [.int 0]) (rest := [.int 0]) ⟨hx, hb, hml, hown, ht⟩ (k_J6_bitCount_0f7a4 l D g z0 _ a) (va_cwS 1 ht (gS w_277 w_279 w_280 w_278) rfl rfl rfl (by decide +kernel) (le2 rfl rfl)) ⟨PP.blind, PP.mk' hK hZ hz hAz hS hPc hDc⟩ rfl rfl hl.1 rfl (lv_room (Nat.le_of_ble_eq_true rfl)) dX5_mark_60 (le2 rfl rfl)) hS (fun q _ h => hFc q h) hFc (fun r u t H locs ht1 hvm hw hB hz1 hk1 hS => ?_)
            obtain ⟨rfl, hw⟩ := hw
            have hP := ro1 hP hk1
            refine lv_iadd hx hb dX5_mark_63 ?_
            refine r_topi (v := 0) (by decide) ?_
            refine lv_istore (lv' := [(5, .int 0), (6, .int 2), (4, .int (1 <<< (p1 &&& 31))), (0, .ref (a 9)), (1, .int 1), (2, .int p1), (3, .int p2)]) hx hb dX5_mark_64 hl (by decide) rfl (fun ls hl => ?_)
            refine lv_iinc (v := 3) (lv' := [(6, .int 3), (5, .int 0), (4, .int (1 <<< (p1 &&& 31))), (0, .ref (a 9)), (1, .int 1), (2, .int p1), (3, .int p2)]) hx hb dX5_mark_66 hl (k := 1) rfl (by decide) (by decide) rfl (fun ls hl => ?_)
            refine lv_goto (tgt := 44) hx hb dX5_mark_69 (by decide) ?_
            refine lv_iload hx hb dX5_mark_44 (lv_at hl 0 rfl) ?_
            refine lv_bipush (v := 8) hx hb dX5_mark_46 (by decide) ?_
            refine lv_icmp_ge (tgt := 72) hx hb dX5_mark_48 (by decide) (fun c_25 => ?_) (fun c_25 => ?_)
            · exact absurd c_25 (by decide)
            · refine lv_iload hx hb dX5_mark_51 (lv_at hl 1 rfl) ?_
              refine lv_aload_n hx hb dX5_mark_53 rfl (lv_at hl 3 rfl) ?_
              refine va_get (D := D) (ci := 11) (v := .ref (a 60)) (C := RX5) (T := TX5) (N := 9) hx hb ht in_X5 hown hK.1 hP 0 rfl rfl 1 (by decide) (ht _ w_281) (fun _ h9 => h9) rfl dX5_mark_54 ?_
              refine lv_iload hx hb dX5_mark_57 (lv_at hl 0 rfl) ?_
              refine va_iald hx hb hK.1 hP 1 0 rfl rfl (by unfold vp_in; decide) dX5_mark_59 ?_
              refine r_topi (v := 0) rfl ?_
              have hPc : va_P D vwCl [] _ := hP.sub (ws' := []) [] rfl
              have hDc : va_D (fun q => z0 ≤ q) [] := (hD.to hAz).pick (ws' := []) [] (by decide) rfl
              have hFc := AnA (ws := [((a 9), f_memory a), ((a 60), .inl (g 0, 8, .inl (fun _ => 0)))]) hS.1
              refine va_calli (va_runS (As := [.int 0]) (rest := [.int 0]) ⟨hx, hb, hml, hown, ht⟩ (k_J6_bitCount_0f7a4 l D g z0 _ a) (va_cwS 1 ht (gS w_277 w_279 w_280 w_278) rfl rfl rfl (by decide +kernel) (le2 rfl rfl)) ⟨PP.blind, PP.mk' hK hZ hz hAz hS hPc hDc⟩ rfl rfl hl.1 rfl (lv_room (Nat.le_of_ble_eq_true rfl)) dX5_mark_60 (le2 rfl rfl)) hS (fun q _ h => hFc q h) hFc (fun r u t H locs ht1 hvm hw hB hz1 hk1 hS => ?_)
              obtain ⟨rfl, hw⟩ := hw
              have hP := ro1 hP hk1
              refine lv_iadd hx hb dX5_mark_63 ?_
              refine r_topi (v := 0) (by decide) ?_
              refine lv_istore (lv' := [(5, .int 0), (6, .int 3), (4, .int (1 <<< (p1 &&& 31))), (0, .ref (a 9)), (1, .int 1), (2, .int p1), (3, .int p2)]) hx hb dX5_mark_64 hl (by decide) rfl (fun ls hl => ?_)
              refine lv_iinc (v := 4) (lv' := [(6, .int 4), (5, .int 0), (4, .int (1 <<< (p1 &&& 31))), (0, .ref (a 9)), (1, .int 1), (2, .int p1), (3, .int p2)]) hx hb dX5_mark_66 hl (k := 1) rfl (by decide) (by decide) rfl (fun ls hl => ?_)
              refine lv_goto (tgt := 44) hx hb dX5_mark_69 (by decide) ?_
              refine lv_iload hx hb dX5_mark_44 (lv_at hl 0 rfl) ?_
              refine lv_bipush (v := 8) hx hb dX5_mark_46 (by decide) ?_
              refine lv_icmp_ge (tgt := 72) hx hb dX5_mark_48 (by decide) (fun c_26 => ?_) (fun c_26 => ?_)
              · exact absurd c_26 (by decide)
              · refine lv_iload hx hb dX5_mark_51 (lv_at hl 1 rfl) ?_
                refine lv_aload_n hx hb dX5_mark_53 rfl (lv_at hl 3 rfl) ?_
                refine va_get (D := D) (ci := 11) (v := .ref (a 60)) (C := RX5) (T := TX5) (N := 9) hx hb ht in_X5 hown hK.1 hP 0 rfl rfl 1 (by decide) (ht _ w_281) (fun _ h9 => h9) rfl dX5_mark_54 ?_
                refine lv_iload hx hb dX5_mark_57 (lv_at hl 0 rfl) ?_
                refine va_iald hx hb hK.1 hP 1 0 rfl rfl (by unfold vp_in; decide) dX5_mark_59 ?_
                refine r_topi (v := 0) rfl ?_
                have hPc : va_P D vwCl [] _ := hP.sub (ws' := []) [] rfl
                have hDc : va_D (fun q => z0 ≤ q) [] := (hD.to hAz).pick (ws' := []) [] (by decide) rfl
                have hFc := AnA (ws := [((a 9), f_memory a), ((a 60), .inl (g 0, 8, .inl (fun _ => 0)))]) hS.1
                refine va_calli (va_runS (As := [.int 0]) (rest := [.int 0]) ⟨hx, hb, hml, hown, ht⟩ (k_J6_bitCount_0f7a4 l D g z0 _ a) (va_cwS 1 ht (gS w_277 w_279 w_280 w_278) rfl rfl rfl (by decide +kernel) (le2 rfl rfl)) ⟨PP.blind, PP.mk' hK hZ hz hAz hS hPc hDc⟩ rfl rfl hl.1 rfl (lv_room (Nat.le_of_ble_eq_true rfl)) dX5_mark_60 (le2 rfl rfl)) hS (fun q _ h => hFc q h) hFc (fun r u t H locs ht1 hvm hw hB hz1 hk1 hS => ?_)
                obtain ⟨rfl, hw⟩ := hw
                have hP := ro1 hP hk1
                refine lv_iadd hx hb dX5_mark_63 ?_
                refine r_topi (v := 0) (by decide) ?_
                refine lv_istore (lv' := [(5, .int 0), (6, .int 4), (4, .int (1 <<< (p1 &&& 31))), (0, .ref (a 9)), (1, .int 1), (2, .int p1), (3, .int p2)]) hx hb dX5_mark_64 hl (by decide) rfl (fun ls hl => ?_)
                refine lv_iinc (v := 5) (lv' := [(6, .int 5), (5, .int 0), (4, .int (1 <<< (p1 &&& 31))), (0, .ref (a 9)), (1, .int 1), (2, .int p1), (3, .int p2)]) hx hb dX5_mark_66 hl (k := 1) rfl (by decide) (by decide) rfl (fun ls hl => ?_)
                refine lv_goto (tgt := 44) hx hb dX5_mark_69 (by decide) ?_
                refine lv_iload hx hb dX5_mark_44 (lv_at hl 0 rfl) ?_
                refine lv_bipush (v := 8) hx hb dX5_mark_46 (by decide) ?_
                refine lv_icmp_ge (tgt := 72) hx hb dX5_mark_48 (by decide) (fun c_27 => ?_) (fun c_27 => ?_)
                · exact absurd c_27 (by decide)
                · refine lv_iload hx hb dX5_mark_51 (lv_at hl 1 rfl) ?_
                  refine lv_aload_n hx hb dX5_mark_53 rfl (lv_at hl 3 rfl) ?_
                  refine va_get (D := D) (ci := 11) (v := .ref (a 60)) (C := RX5) (T := TX5) (N := 9) hx hb ht in_X5 hown hK.1 hP 0 rfl rfl 1 (by decide) (ht _ w_281) (fun _ h9 => h9) rfl dX5_mark_54 ?_
                  refine lv_iload hx hb dX5_mark_57 (lv_at hl 0 rfl) ?_
                  refine va_iald hx hb hK.1 hP 1 0 rfl rfl (by unfold vp_in; decide) dX5_mark_59 ?_
                  refine r_topi (v := 0) rfl ?_
                  have hPc : va_P D vwCl [] _ := hP.sub (ws' := []) [] rfl
                  have hDc : va_D (fun q => z0 ≤ q) [] := (hD.to hAz).pick (ws' := []) [] (by decide) rfl
                  have hFc := AnA (ws := [((a 9), f_memory a), ((a 60), .inl (g 0, 8, .inl (fun _ => 0)))]) hS.1
                  refine va_calli (va_runS (As := [.int 0]) (rest := [.int 0]) ⟨hx, hb, hml, hown, ht⟩ (k_J6_bitCount_0f7a4 l D g z0 _ a) (va_cwS 1 ht (gS w_277 w_279 w_280 w_278) rfl rfl rfl (by decide +kernel) (le2 rfl rfl)) ⟨PP.blind, PP.mk' hK hZ hz hAz hS hPc hDc⟩ rfl rfl hl.1 rfl (lv_room (Nat.le_of_ble_eq_true rfl)) dX5_mark_60 (le2 rfl rfl)) hS (fun q _ h => hFc q h) hFc (fun r u t H locs ht1 hvm hw hB hz1 hk1 hS => ?_)
                  obtain ⟨rfl, hw⟩ := hw
                  have hP := ro1 hP hk1
                  refine lv_iadd hx hb dX5_mark_63 ?_
                  refine r_topi (v := 0) (by decide) ?_
                  refine lv_istore (lv' := [(5, .int 0), (6, .int 5), (4, .int (1 <<< (p1 &&& 31))), (0, .ref (a 9)), (1, .int 1), (2, .int p1), (3, .int p2)]) hx hb dX5_mark_64 hl (by decide) rfl (fun ls hl => ?_)
                  refine lv_iinc (v := 6) (lv' := [(6, .int 6), (5, .int 0), (4, .int (1 <<< (p1 &&& 31))), (0, .ref (a 9)), (1, .int 1), (2, .int p1), (3, .int p2)]) hx hb dX5_mark_66 hl (k := 1) rfl (by decide) (by decide) rfl (fun ls hl => ?_)
                  refine lv_goto (tgt := 44) hx hb dX5_mark_69 (by decide) ?_
                  refine lv_iload hx hb dX5_mark_44 (lv_at hl 0 rfl) ?_
                  refine lv_bipush (v := 8) hx hb dX5_mark_46 (by decide) ?_
                  refine lv_icmp_ge (tgt := 72) hx hb dX5_mark_48 (by decide) (fun c_28 => ?_) (fun c_28 => ?_)
                  · exact absurd c_28 (by decide)
                  · refine lv_iload hx hb dX5_mark_51 (lv_at hl 1 rfl) ?_
                    refine lv_aload_n hx hb dX5_mark_53 rfl (lv_at hl 3 rfl) ?_
                    refine va_get (D := D) (ci := 11) (v := .ref (a 60)) (C := RX5) (T := TX5) (N := 9) hx hb ht in_X5 hown hK.1 hP 0 rfl rfl 1 (by decide) (ht _ w_281) (fun _ h9 => h9) rfl dX5_mark_54 ?_
                    refine lv_iload hx hb dX5_mark_57 (lv_at hl 0 rfl) ?_
                    refine va_iald hx hb hK.1 hP 1 0 rfl rfl (by unfold vp_in; decide) dX5_mark_59 ?_
                    refine r_topi (v := 0) rfl ?_
                    have hPc : va_P D vwCl [] _ := hP.sub (ws' := []) [] rfl
                    have hDc : va_D (fun q => z0 ≤ q) [] := (hD.to hAz).pick (ws' := []) [] (by decide) rfl
                    have hFc := AnA (ws := [((a 9), f_memory a), ((a 60), .inl (g 0, 8, .inl (fun _ => 0)))]) hS.1
                    refine va_calli (va_runS (As := [.int 0]) (rest := [.int 0]) ⟨hx, hb, hml, hown, ht⟩ (k_J6_bitCount_0f7a4 l D g z0 _ a) (va_cwS 1 ht (gS w_277 w_279 w_280 w_278) rfl rfl rfl (by decide +kernel) (le2 rfl rfl)) ⟨PP.blind, PP.mk' hK hZ hz hAz hS hPc hDc⟩ rfl rfl hl.1 rfl (lv_room (Nat.le_of_ble_eq_true rfl)) dX5_mark_60 (le2 rfl rfl)) hS (fun q _ h => hFc q h) hFc (fun r u t H locs ht1 hvm hw hB hz1 hk1 hS => ?_)
                    obtain ⟨rfl, hw⟩ := hw
                    have hP := ro1 hP hk1
                    refine lv_iadd hx hb dX5_mark_63 ?_
                    refine r_topi (v := 0) (by decide) ?_
                    refine lv_istore (lv' := [(5, .int 0), (6, .int 6), (4, .int (1 <<< (p1 &&& 31))), (0, .ref (a 9)), (1, .int 1), (2, .int p1), (3, .int p2)]) hx hb dX5_mark_64 hl (by decide) rfl (fun ls hl => ?_)
                    refine lv_iinc (v := 7) (lv' := [(6, .int 7), (5, .int 0), (4, .int (1 <<< (p1 &&& 31))), (0, .ref (a 9)), (1, .int 1), (2, .int p1), (3, .int p2)]) hx hb dX5_mark_66 hl (k := 1) rfl (by decide) (by decide) rfl (fun ls hl => ?_)
                    refine lv_goto (tgt := 44) hx hb dX5_mark_69 (by decide) ?_
                    refine lv_iload hx hb dX5_mark_44 (lv_at hl 0 rfl) ?_
                    refine lv_bipush (v := 8) hx hb dX5_mark_46 (by decide) ?_
                    refine lv_icmp_ge (tgt := 72) hx hb dX5_mark_48 (by decide) (fun c_29 => ?_) (fun c_29 => ?_)
                    · exact absurd c_29 (by decide)
                    · refine lv_iload hx hb dX5_mark_51 (lv_at hl 1 rfl) ?_
                      refine lv_aload_n hx hb dX5_mark_53 rfl (lv_at hl 3 rfl) ?_
                      refine va_get (D := D) (ci := 11) (v := .ref (a 60)) (C := RX5) (T := TX5) (N := 9) hx hb ht in_X5 hown hK.1 hP 0 rfl rfl 1 (by decide) (ht _ w_281) (fun _ h9 => h9) rfl dX5_mark_54 ?_
                      refine lv_iload hx hb dX5_mark_57 (lv_at hl 0 rfl) ?_
                      refine va_iald hx hb hK.1 hP 1 0 rfl rfl (by unfold vp_in; decide) dX5_mark_59 ?_
                      refine r_topi (v := 0) rfl ?_
                      have hPc : va_P D vwCl [] _ := hP.sub (ws' := []) [] rfl
                      have hDc : va_D (fun q => z0 ≤ q) [] := (hD.to hAz).pick (ws' := []) [] (by decide) rfl
                      have hFc := AnA (ws := [((a 9), f_memory a), ((a 60), .inl (g 0, 8, .inl (fun _ => 0)))]) hS.1
                      refine va_calli (va_runS (As := [.int 0]) (rest := [.int 0]) ⟨hx, hb, hml, hown, ht⟩ (k_J6_bitCount_0f7a4 l D g z0 _ a) (va_cwS 1 ht (gS w_277 w_279 w_280 w_278) rfl rfl rfl (by decide +kernel) (le2 rfl rfl)) ⟨PP.blind, PP.mk' hK hZ hz hAz hS hPc hDc⟩ rfl rfl hl.1 rfl (lv_room (Nat.le_of_ble_eq_true rfl)) dX5_mark_60 (le2 rfl rfl)) hS (fun q _ h => hFc q h) hFc (fun r u t H locs ht1 hvm hw hB hz1 hk1 hS => ?_)
                      obtain ⟨rfl, hw⟩ := hw
                      have hP := ro1 hP hk1
                      refine lv_iadd hx hb dX5_mark_63 ?_
                      refine r_topi (v := 0) (by decide) ?_
                      refine lv_istore (lv' := [(5, .int 0), (6, .int 7), (4, .int (1 <<< (p1 &&& 31))), (0, .ref (a 9)), (1, .int 1), (2, .int p1), (3, .int p2)]) hx hb dX5_mark_64 hl (by decide) rfl (fun ls hl => ?_)
                      refine lv_iinc (v := 8) (lv' := [(6, .int 8), (5, .int 0), (4, .int (1 <<< (p1 &&& 31))), (0, .ref (a 9)), (1, .int 1), (2, .int p1), (3, .int p2)]) hx hb dX5_mark_66 hl (k := 1) rfl (by decide) (by decide) rfl (fun ls hl => ?_)
                      refine lv_goto (tgt := 44) hx hb dX5_mark_69 (by decide) ?_
                      refine lv_iload hx hb dX5_mark_44 (lv_at hl 0 rfl) ?_
                      refine lv_bipush (v := 8) hx hb dX5_mark_46 (by decide) ?_
                      refine lv_icmp_ge (tgt := 72) hx hb dX5_mark_48 (by decide) (fun c_30 => ?_) (fun c_30 => ?_)
                      · refine lv_iload hx hb dX5_mark_72 (lv_at hl 1 rfl) ?_
                        have hP9 := hP.sub (ws' := []) [] rfl
                        have hD9 := hD.sub (ws' := []) [] (by decide) rfl
                        refine W.widen (k := 0) (n := 0) (Nat.le_of_ble_eq_true rfl) (Nat.le_of_ble_eq_true rfl) ?_
                        exact W.iret (v := 0) hx hb hr (fun t ht9 hW9 => ⟨⟨0, (), rfl, (Or.inl ⟨rfl, c_21⟩), ⟨(by rw [ht9]; exact hP9), hD9⟩⟩, hS.F ht9⟩) hS.2.2 dX5_mark_74 hlocks
                      · exact absurd c_30 (by decide)
    · refine lv_aload_n hx hb dX5_mark_14 rfl (lv_at hl 1 rfl) ?_
      refine va_get (D := D) (ci := 11) (v := .ref (a 60)) (C := RX5) (T := TX5) (N := 9) hx hb ht in_X5 hown hK.1 hP 0 rfl rfl 1 (by decide) (ht _ w_281) (fun _ h9 => h9) rfl dX5_mark_15 ?_
      refine lv_iload_n hx hb dX5_mark_18 rfl (lv_at hl 2 rfl) ?_
      refine va_iald hx hb hK.1 hP 1 0 rfl rfl (by unfold vp_in; decide) dX5_mark_19 ?_
      refine r_topi (v := 0) rfl ?_
      refine lv_iload hx hb dX5_mark_20 (lv_at hl 0 rfl) ?_
      refine lv_ior hx hb dX5_mark_22 ?_
      refine r_topi (v := 1 <<< (p1 &&& 31)) (z_or _) ?_
      refine lv_goto (tgt := 37) hx hb dX5_mark_23 (by decide) ?_
      refine va_iast hx hb hK.1 hP hD hS 1 0 rfl rfl (by unfold vp_in; decide) dX5_mark_37 (fun H locs hP hD hS => ?_)
      have hP : va_P D vwCl [((a 9), f_memory a), ((a 60), .inl (g 0, 8, .inl (upd (fun _ => 0) (1 : Int32).toNatClampNeg (1 <<< (p1 &&& 31)))))] H := hP
      have hD : va_D (va_A [((a 9), f_memory a), ((a 60), .inl (g 0, 8, .inl (fun _ => 0)))] s.heap.size) [((a 9), f_memory a), ((a 60), .inl (g 0, 8, .inl (upd (fun _ => 0) (1 : Int32).toNatClampNeg (1 <<< (p1 &&& 31)))))] := hD
      refine lv_iconst (v := 0) hx hb dX5_mark_38 (by decide) ?_
      refine lv_istore (lv' := [(5, .int 0), (4, .int (1 <<< (p1 &&& 31))), (0, .ref (a 9)), (1, .int 1), (2, .int p1), (3, .int p2)]) hx hb dX5_mark_39 hl (by decide) rfl (fun ls hl => ?_)
      refine lv_iconst (v := 0) hx hb dX5_mark_41 (by decide) ?_
      refine lv_istore (lv' := [(6, .int 0), (5, .int 0), (4, .int (1 <<< (p1 &&& 31))), (0, .ref (a 9)), (1, .int 1), (2, .int p1), (3, .int p2)]) hx hb dX5_mark_42 hl (by decide) rfl (fun ls hl => ?_)
      refine lv_iload hx hb dX5_mark_44 (lv_at hl 0 rfl) ?_
      refine lv_bipush (v := 8) hx hb dX5_mark_46 (by decide) ?_
      refine lv_icmp_ge (tgt := 72) hx hb dX5_mark_48 (by decide) (fun c_31 => ?_) (fun c_31 => ?_)
      · exact absurd c_31 (by decide)
      · refine lv_iload hx hb dX5_mark_51 (lv_at hl 1 rfl) ?_
        refine lv_aload_n hx hb dX5_mark_53 rfl (lv_at hl 3 rfl) ?_
        refine va_get (D := D) (ci := 11) (v := .ref (a 60)) (C := RX5) (T := TX5) (N := 9) hx hb ht in_X5 hown hK.1 hP 0 rfl rfl 1 (by decide) (ht _ w_281) (fun _ h9 => h9) rfl dX5_mark_54 ?_
        refine lv_iload hx hb dX5_mark_57 (lv_at hl 0 rfl) ?_
        refine va_iald hx hb hK.1 hP 1 0 rfl rfl (by unfold vp_in; decide) dX5_mark_59 ?_
        refine r_topi (v := 0) rfl ?_
        have hPc : va_P D vwCl [] _ := hP.sub (ws' := []) [] rfl
        have hDc : va_D (fun q => z0 ≤ q) [] := (hD.to hAz).pick (ws' := []) [] (by decide) rfl
        have hFc := AnA (ws := [((a 9), f_memory a), ((a 60), .inl (g 0, 8, .inl (fun _ => 0)))]) hS.1
        refine va_calli (va_runS (As := [.int 0]) (rest := [.int 0]) ⟨hx, hb, hml, hown, ht⟩ (k_J6_bitCount_0f7a4 l D g z0 _ a) (va_cwS 1 ht (gS w_277 w_279 w_280 w_278) rfl rfl rfl (by decide +kernel) (le2 rfl rfl)) ⟨PP.blind, PP.mk' hK hZ hz hAz hS hPc hDc⟩ rfl rfl hl.1 rfl (lv_room (Nat.le_of_ble_eq_true rfl)) dX5_mark_60 (le2 rfl rfl)) hS (fun q _ h => hFc q h) hFc (fun r u t H locs ht1 hvm hw hB hz1 hk1 hS => ?_)
        obtain ⟨rfl, hw⟩ := hw
        have hP := ro1 hP hk1
        refine lv_iadd hx hb dX5_mark_63 ?_
        refine r_topi (v := 0) (by decide) ?_
        refine lv_istore (lv' := [(5, .int 0), (6, .int 0), (4, .int (1 <<< (p1 &&& 31))), (0, .ref (a 9)), (1, .int 1), (2, .int p1), (3, .int p2)]) hx hb dX5_mark_64 hl (by decide) rfl (fun ls hl => ?_)
        refine lv_iinc (v := 1) (lv' := [(6, .int 1), (5, .int 0), (4, .int (1 <<< (p1 &&& 31))), (0, .ref (a 9)), (1, .int 1), (2, .int p1), (3, .int p2)]) hx hb dX5_mark_66 hl (k := 1) rfl (by decide) (by decide) rfl (fun ls hl => ?_)
        refine lv_goto (tgt := 44) hx hb dX5_mark_69 (by decide) ?_
        refine lv_iload hx hb dX5_mark_44 (lv_at hl 0 rfl) ?_
        refine lv_bipush (v := 8) hx hb dX5_mark_46 (by decide) ?_
        refine lv_icmp_ge (tgt := 72) hx hb dX5_mark_48 (by decide) (fun c_32 => ?_) (fun c_32 => ?_)
        · exact absurd c_32 (by decide)
        · refine lv_iload hx hb dX5_mark_51 (lv_at hl 1 rfl) ?_
          refine lv_aload_n hx hb dX5_mark_53 rfl (lv_at hl 3 rfl) ?_
          refine va_get (D := D) (ci := 11) (v := .ref (a 60)) (C := RX5) (T := TX5) (N := 9) hx hb ht in_X5 hown hK.1 hP 0 rfl rfl 1 (by decide) (ht _ w_281) (fun _ h9 => h9) rfl dX5_mark_54 ?_
          refine lv_iload hx hb dX5_mark_57 (lv_at hl 0 rfl) ?_
          refine va_iald hx hb hK.1 hP 1 0 rfl rfl (by unfold vp_in; decide) dX5_mark_59 ?_
          refine r_topi (v := 1 <<< (p1 &&& 31)) rfl ?_
          have hPc : va_P D vwCl [] _ := hP.sub (ws' := []) [] rfl
          have hDc : va_D (fun q => z0 ≤ q) [] := (hD.to hAz).pick (ws' := []) [] (by decide) rfl
          have hFc := AnA (ws := [((a 9), f_memory a), ((a 60), .inl (g 0, 8, .inl (fun _ => 0)))]) hS.1
          refine va_calli (va_runS (As := [.int (1 <<< (p1 &&& 31))]) (rest := [.int 0]) ⟨hx, hb, hml, hown, ht⟩ (k_J6_bitCount_0f7a4_v1 l D g z0 _ a (1 <<< (p1 &&& 31))) (va_cwS 1 ht (gS w_277 w_279 w_280 w_278) rfl rfl rfl (by decide +kernel) (le2 rfl rfl)) ⟨PP.blind, PP.mk' hK hZ hz hAz hS hPc hDc⟩ rfl rfl hl.1 rfl (lv_room (Nat.le_of_ble_eq_true rfl)) dX5_mark_60 (le2 rfl rfl)) hS (fun q _ h => hFc q h) hFc (fun r u t H locs ht1 hvm hw hB hz1 hk1 hS => ?_)
          obtain ⟨rfl, hw⟩ := hw
          have hP := ro1 hP hk1
          refine r_topi (v := 1) (bit1 (lo_nlt hy2) (up_lt hy3)) ?_
          refine lv_iadd hx hb dX5_mark_63 ?_
          refine r_topi (v := 1) (by decide) ?_
          refine lv_istore (lv' := [(5, .int 1), (6, .int 1), (4, .int (1 <<< (p1 &&& 31))), (0, .ref (a 9)), (1, .int 1), (2, .int p1), (3, .int p2)]) hx hb dX5_mark_64 hl (by decide) rfl (fun ls hl => ?_)
          refine lv_iinc (v := 2) (lv' := [(6, .int 2), (5, .int 1), (4, .int (1 <<< (p1 &&& 31))), (0, .ref (a 9)), (1, .int 1), (2, .int p1), (3, .int p2)]) hx hb dX5_mark_66 hl (k := 1) rfl (by decide) (by decide) rfl (fun ls hl => ?_)
          refine lv_goto (tgt := 44) hx hb dX5_mark_69 (by decide) ?_
          refine lv_iload hx hb dX5_mark_44 (lv_at hl 0 rfl) ?_
          refine lv_bipush (v := 8) hx hb dX5_mark_46 (by decide) ?_
          refine lv_icmp_ge (tgt := 72) hx hb dX5_mark_48 (by decide) (fun c_33 => ?_) (fun c_33 => ?_)
          · exact absurd c_33 (by decide)
          · refine lv_iload hx hb dX5_mark_51 (lv_at hl 1 rfl) ?_
            refine lv_aload_n hx hb dX5_mark_53 rfl (lv_at hl 3 rfl) ?_
            refine va_get (D := D) (ci := 11) (v := .ref (a 60)) (C := RX5) (T := TX5) (N := 9) hx hb ht in_X5 hown hK.1 hP 0 rfl rfl 1 (by decide) (ht _ w_281) (fun _ h9 => h9) rfl dX5_mark_54 ?_
            refine lv_iload hx hb dX5_mark_57 (lv_at hl 0 rfl) ?_
            refine va_iald hx hb hK.1 hP 1 0 rfl rfl (by unfold vp_in; decide) dX5_mark_59 ?_
            refine r_topi (v := 0) rfl ?_
            have hPc : va_P D vwCl [] _ := hP.sub (ws' := []) [] rfl
            have hDc : va_D (fun q => z0 ≤ q) [] := (hD.to hAz).pick (ws' := []) [] (by decide) rfl
            have hFc := AnA (ws := [((a 9), f_memory a), ((a 60), .inl (g 0, 8, .inl (fun _ => 0)))]) hS.1
            refine va_calli (va_runS (As := [.int 0]) (rest := [.int 1]) ⟨hx, hb, hml, hown, ht⟩ (k_J6_bitCount_0f7a4 l D g z0 _ a) (va_cwS 1 ht (gS w_277 w_279 w_280 w_278) rfl rfl rfl (by decide +kernel) (le2 rfl rfl)) ⟨PP.blind, PP.mk' hK hZ hz hAz hS hPc hDc⟩ rfl rfl hl.1 rfl (lv_room (Nat.le_of_ble_eq_true rfl)) dX5_mark_60 (le2 rfl rfl)) hS (fun q _ h => hFc q h) hFc (fun r u t H locs ht1 hvm hw hB hz1 hk1 hS => ?_)
            obtain ⟨rfl, hw⟩ := hw
            have hP := ro1 hP hk1
            refine lv_iadd hx hb dX5_mark_63 ?_
            refine r_topi (v := 1) (by decide) ?_
            refine lv_istore (lv' := [(5, .int 1), (6, .int 2), (4, .int (1 <<< (p1 &&& 31))), (0, .ref (a 9)), (1, .int 1), (2, .int p1), (3, .int p2)]) hx hb dX5_mark_64 hl (by decide) rfl (fun ls hl => ?_)
            refine lv_iinc (v := 3) (lv' := [(6, .int 3), (5, .int 1), (4, .int (1 <<< (p1 &&& 31))), (0, .ref (a 9)), (1, .int 1), (2, .int p1), (3, .int p2)]) hx hb dX5_mark_66 hl (k := 1) rfl (by decide) (by decide) rfl (fun ls hl => ?_)
            refine lv_goto (tgt := 44) hx hb dX5_mark_69 (by decide) ?_
            refine lv_iload hx hb dX5_mark_44 (lv_at hl 0 rfl) ?_
            refine lv_bipush (v := 8) hx hb dX5_mark_46 (by decide) ?_
            refine lv_icmp_ge (tgt := 72) hx hb dX5_mark_48 (by decide) (fun c_34 => ?_) (fun c_34 => ?_)
            · exact absurd c_34 (by decide)
            · refine lv_iload hx hb dX5_mark_51 (lv_at hl 1 rfl) ?_
              refine lv_aload_n hx hb dX5_mark_53 rfl (lv_at hl 3 rfl) ?_
              refine va_get (D := D) (ci := 11) (v := .ref (a 60)) (C := RX5) (T := TX5) (N := 9) hx hb ht in_X5 hown hK.1 hP 0 rfl rfl 1 (by decide) (ht _ w_281) (fun _ h9 => h9) rfl dX5_mark_54 ?_
              refine lv_iload hx hb dX5_mark_57 (lv_at hl 0 rfl) ?_
              refine va_iald hx hb hK.1 hP 1 0 rfl rfl (by unfold vp_in; decide) dX5_mark_59 ?_
              refine r_topi (v := 0) rfl ?_
              have hPc : va_P D vwCl [] _ := hP.sub (ws' := []) [] rfl
              have hDc : va_D (fun q => z0 ≤ q) [] := (hD.to hAz).pick (ws' := []) [] (by decide) rfl
              have hFc := AnA (ws := [((a 9), f_memory a), ((a 60), .inl (g 0, 8, .inl (fun _ => 0)))]) hS.1
              refine va_calli (va_runS (As := [.int 0]) (rest := [.int 1]) ⟨hx, hb, hml, hown, ht⟩ (k_J6_bitCount_0f7a4 l D g z0 _ a) (va_cwS 1 ht (gS w_277 w_279 w_280 w_278) rfl rfl rfl (by decide +kernel) (le2 rfl rfl)) ⟨PP.blind, PP.mk' hK hZ hz hAz hS hPc hDc⟩ rfl rfl hl.1 rfl (lv_room (Nat.le_of_ble_eq_true rfl)) dX5_mark_60 (le2 rfl rfl)) hS (fun q _ h => hFc q h) hFc (fun r u t H locs ht1 hvm hw hB hz1 hk1 hS => ?_)
              obtain ⟨rfl, hw⟩ := hw
              have hP := ro1 hP hk1
              refine lv_iadd hx hb dX5_mark_63 ?_
              refine r_topi (v := 1) (by decide) ?_
              refine lv_istore (lv' := [(5, .int 1), (6, .int 3), (4, .int (1 <<< (p1 &&& 31))), (0, .ref (a 9)), (1, .int 1), (2, .int p1), (3, .int p2)]) hx hb dX5_mark_64 hl (by decide) rfl (fun ls hl => ?_)
              refine lv_iinc (v := 4) (lv' := [(6, .int 4), (5, .int 1), (4, .int (1 <<< (p1 &&& 31))), (0, .ref (a 9)), (1, .int 1), (2, .int p1), (3, .int p2)]) hx hb dX5_mark_66 hl (k := 1) rfl (by decide) (by decide) rfl (fun ls hl => ?_)
              refine lv_goto (tgt := 44) hx hb dX5_mark_69 (by decide) ?_
              refine lv_iload hx hb dX5_mark_44 (lv_at hl 0 rfl) ?_
              refine lv_bipush (v := 8) hx hb dX5_mark_46 (by decide) ?_
              refine lv_icmp_ge (tgt := 72) hx hb dX5_mark_48 (by decide) (fun c_35 => ?_) (fun c_35 => ?_)
              · exact absurd c_35 (by decide)
              · refine lv_iload hx hb dX5_mark_51 (lv_at hl 1 rfl) ?_
                refine lv_aload_n hx hb dX5_mark_53 rfl (lv_at hl 3 rfl) ?_
                refine va_get (D := D) (ci := 11) (v := .ref (a 60)) (C := RX5) (T := TX5) (N := 9) hx hb ht in_X5 hown hK.1 hP 0 rfl rfl 1 (by decide) (ht _ w_281) (fun _ h9 => h9) rfl dX5_mark_54 ?_
                refine lv_iload hx hb dX5_mark_57 (lv_at hl 0 rfl) ?_
                refine va_iald hx hb hK.1 hP 1 0 rfl rfl (by unfold vp_in; decide) dX5_mark_59 ?_
                refine r_topi (v := 0) rfl ?_
                have hPc : va_P D vwCl [] _ := hP.sub (ws' := []) [] rfl
                have hDc : va_D (fun q => z0 ≤ q) [] := (hD.to hAz).pick (ws' := []) [] (by decide) rfl
                have hFc := AnA (ws := [((a 9), f_memory a), ((a 60), .inl (g 0, 8, .inl (fun _ => 0)))]) hS.1
                refine va_calli (va_runS (As := [.int 0]) (rest := [.int 1]) ⟨hx, hb, hml, hown, ht⟩ (k_J6_bitCount_0f7a4 l D g z0 _ a) (va_cwS 1 ht (gS w_277 w_279 w_280 w_278) rfl rfl rfl (by decide +kernel) (le2 rfl rfl)) ⟨PP.blind, PP.mk' hK hZ hz hAz hS hPc hDc⟩ rfl rfl hl.1 rfl (lv_room (Nat.le_of_ble_eq_true rfl)) dX5_mark_60 (le2 rfl rfl)) hS (fun q _ h => hFc q h) hFc (fun r u t H locs ht1 hvm hw hB hz1 hk1 hS => ?_)
                obtain ⟨rfl, hw⟩ := hw
                have hP := ro1 hP hk1
                refine lv_iadd hx hb dX5_mark_63 ?_
                refine r_topi (v := 1) (by decide) ?_
                refine lv_istore (lv' := [(5, .int 1), (6, .int 4), (4, .int (1 <<< (p1 &&& 31))), (0, .ref (a 9)), (1, .int 1), (2, .int p1), (3, .int p2)]) hx hb dX5_mark_64 hl (by decide) rfl (fun ls hl => ?_)
                refine lv_iinc (v := 5) (lv' := [(6, .int 5), (5, .int 1), (4, .int (1 <<< (p1 &&& 31))), (0, .ref (a 9)), (1, .int 1), (2, .int p1), (3, .int p2)]) hx hb dX5_mark_66 hl (k := 1) rfl (by decide) (by decide) rfl (fun ls hl => ?_)
                refine lv_goto (tgt := 44) hx hb dX5_mark_69 (by decide) ?_
                refine lv_iload hx hb dX5_mark_44 (lv_at hl 0 rfl) ?_
                refine lv_bipush (v := 8) hx hb dX5_mark_46 (by decide) ?_
                refine lv_icmp_ge (tgt := 72) hx hb dX5_mark_48 (by decide) (fun c_36 => ?_) (fun c_36 => ?_)
                · exact absurd c_36 (by decide)
                · refine lv_iload hx hb dX5_mark_51 (lv_at hl 1 rfl) ?_
                  refine lv_aload_n hx hb dX5_mark_53 rfl (lv_at hl 3 rfl) ?_
                  refine va_get (D := D) (ci := 11) (v := .ref (a 60)) (C := RX5) (T := TX5) (N := 9) hx hb ht in_X5 hown hK.1 hP 0 rfl rfl 1 (by decide) (ht _ w_281) (fun _ h9 => h9) rfl dX5_mark_54 ?_
                  refine lv_iload hx hb dX5_mark_57 (lv_at hl 0 rfl) ?_
                  refine va_iald hx hb hK.1 hP 1 0 rfl rfl (by unfold vp_in; decide) dX5_mark_59 ?_
                  refine r_topi (v := 0) rfl ?_
                  have hPc : va_P D vwCl [] _ := hP.sub (ws' := []) [] rfl
                  have hDc : va_D (fun q => z0 ≤ q) [] := (hD.to hAz).pick (ws' := []) [] (by decide) rfl
                  have hFc := AnA (ws := [((a 9), f_memory a), ((a 60), .inl (g 0, 8, .inl (fun _ => 0)))]) hS.1
                  refine va_calli (va_runS (As := [.int 0]) (rest := [.int 1]) ⟨hx, hb, hml, hown, ht⟩ (k_J6_bitCount_0f7a4 l D g z0 _ a) (va_cwS 1 ht (gS w_277 w_279 w_280 w_278) rfl rfl rfl (by decide +kernel) (le2 rfl rfl)) ⟨PP.blind, PP.mk' hK hZ hz hAz hS hPc hDc⟩ rfl rfl hl.1 rfl (lv_room (Nat.le_of_ble_eq_true rfl)) dX5_mark_60 (le2 rfl rfl)) hS (fun q _ h => hFc q h) hFc (fun r u t H locs ht1 hvm hw hB hz1 hk1 hS => ?_)
                  obtain ⟨rfl, hw⟩ := hw
                  have hP := ro1 hP hk1
                  refine lv_iadd hx hb dX5_mark_63 ?_
                  refine r_topi (v := 1) (by decide) ?_
                  refine lv_istore (lv' := [(5, .int 1), (6, .int 5), (4, .int (1 <<< (p1 &&& 31))), (0, .ref (a 9)), (1, .int 1), (2, .int p1), (3, .int p2)]) hx hb dX5_mark_64 hl (by decide) rfl (fun ls hl => ?_)
                  refine lv_iinc (v := 6) (lv' := [(6, .int 6), (5, .int 1), (4, .int (1 <<< (p1 &&& 31))), (0, .ref (a 9)), (1, .int 1), (2, .int p1), (3, .int p2)]) hx hb dX5_mark_66 hl (k := 1) rfl (by decide) (by decide) rfl (fun ls hl => ?_)
                  refine lv_goto (tgt := 44) hx hb dX5_mark_69 (by decide) ?_
                  refine lv_iload hx hb dX5_mark_44 (lv_at hl 0 rfl) ?_
                  refine lv_bipush (v := 8) hx hb dX5_mark_46 (by decide) ?_
                  refine lv_icmp_ge (tgt := 72) hx hb dX5_mark_48 (by decide) (fun c_37 => ?_) (fun c_37 => ?_)
                  · exact absurd c_37 (by decide)
                  · refine lv_iload hx hb dX5_mark_51 (lv_at hl 1 rfl) ?_
                    refine lv_aload_n hx hb dX5_mark_53 rfl (lv_at hl 3 rfl) ?_
                    refine va_get (D := D) (ci := 11) (v := .ref (a 60)) (C := RX5) (T := TX5) (N := 9) hx hb ht in_X5 hown hK.1 hP 0 rfl rfl 1 (by decide) (ht _ w_281) (fun _ h9 => h9) rfl dX5_mark_54 ?_
                    refine lv_iload hx hb dX5_mark_57 (lv_at hl 0 rfl) ?_
                    refine va_iald hx hb hK.1 hP 1 0 rfl rfl (by unfold vp_in; decide) dX5_mark_59 ?_
                    refine r_topi (v := 0) rfl ?_
                    have hPc : va_P D vwCl [] _ := hP.sub (ws' := []) [] rfl
                    have hDc : va_D (fun q => z0 ≤ q) [] := (hD.to hAz).pick (ws' := []) [] (by decide) rfl
                    have hFc := AnA (ws := [((a 9), f_memory a), ((a 60), .inl (g 0, 8, .inl (fun _ => 0)))]) hS.1
                    refine va_calli (va_runS (As := [.int 0]) (rest := [.int 1]) ⟨hx, hb, hml, hown, ht⟩ (k_J6_bitCount_0f7a4 l D g z0 _ a) (va_cwS 1 ht (gS w_277 w_279 w_280 w_278) rfl rfl rfl (by decide +kernel) (le2 rfl rfl)) ⟨PP.blind, PP.mk' hK hZ hz hAz hS hPc hDc⟩ rfl rfl hl.1 rfl (lv_room (Nat.le_of_ble_eq_true rfl)) dX5_mark_60 (le2 rfl rfl)) hS (fun q _ h => hFc q h) hFc (fun r u t H locs ht1 hvm hw hB hz1 hk1 hS => ?_)
                    obtain ⟨rfl, hw⟩ := hw
                    have hP := ro1 hP hk1
                    refine lv_iadd hx hb dX5_mark_63 ?_
                    refine r_topi (v := 1) (by decide) ?_
                    refine lv_istore (lv' := [(5, .int 1), (6, .int 6), (4, .int (1 <<< (p1 &&& 31))), (0, .ref (a 9)), (1, .int 1), (2, .int p1), (3, .int p2)]) hx hb dX5_mark_64 hl (by decide) rfl (fun ls hl => ?_)
                    refine lv_iinc (v := 7) (lv' := [(6, .int 7), (5, .int 1), (4, .int (1 <<< (p1 &&& 31))), (0, .ref (a 9)), (1, .int 1), (2, .int p1), (3, .int p2)]) hx hb dX5_mark_66 hl (k := 1) rfl (by decide) (by decide) rfl (fun ls hl => ?_)
                    refine lv_goto (tgt := 44) hx hb dX5_mark_69 (by decide) ?_
                    refine lv_iload hx hb dX5_mark_44 (lv_at hl 0 rfl) ?_
                    refine lv_bipush (v := 8) hx hb dX5_mark_46 (by decide) ?_
                    refine lv_icmp_ge (tgt := 72) hx hb dX5_mark_48 (by decide) (fun c_38 => ?_) (fun c_38 => ?_)
                    · exact absurd c_38 (by decide)
                    · refine lv_iload hx hb dX5_mark_51 (lv_at hl 1 rfl) ?_
                      refine lv_aload_n hx hb dX5_mark_53 rfl (lv_at hl 3 rfl) ?_
                      refine va_get (D := D) (ci := 11) (v := .ref (a 60)) (C := RX5) (T := TX5) (N := 9) hx hb ht in_X5 hown hK.1 hP 0 rfl rfl 1 (by decide) (ht _ w_281) (fun _ h9 => h9) rfl dX5_mark_54 ?_
                      refine lv_iload hx hb dX5_mark_57 (lv_at hl 0 rfl) ?_
                      refine va_iald hx hb hK.1 hP 1 0 rfl rfl (by unfold vp_in; decide) dX5_mark_59 ?_
                      refine r_topi (v := 0) rfl ?_
                      have hPc : va_P D vwCl [] _ := hP.sub (ws' := []) [] rfl
                      have hDc : va_D (fun q => z0 ≤ q) [] := (hD.to hAz).pick (ws' := []) [] (by decide) rfl
                      have hFc := AnA (ws := [((a 9), f_memory a), ((a 60), .inl (g 0, 8, .inl (fun _ => 0)))]) hS.1
                      refine va_calli (va_runS (As := [.int 0]) (rest := [.int 1]) ⟨hx, hb, hml, hown, ht⟩ (k_J6_bitCount_0f7a4 l D g z0 _ a) (va_cwS 1 ht (gS w_277 w_279 w_280 w_278) rfl rfl rfl (by decide +kernel) (le2 rfl rfl)) ⟨PP.blind, PP.mk' hK hZ hz hAz hS hPc hDc⟩ rfl rfl hl.1 rfl (lv_room (Nat.le_of_ble_eq_true rfl)) dX5_mark_60 (le2 rfl rfl)) hS (fun q _ h => hFc q h) hFc (fun r u t H locs ht1 hvm hw hB hz1 hk1 hS => ?_)
                      obtain ⟨rfl, hw⟩ := hw
                      have hP := ro1 hP hk1
                      refine lv_iadd hx hb dX5_mark_63 ?_
                      refine r_topi (v := 1) (by decide) ?_
                      refine lv_istore (lv' := [(5, .int 1), (6, .int 7), (4, .int (1 <<< (p1 &&& 31))), (0, .ref (a 9)), (1, .int 1), (2, .int p1), (3, .int p2)]) hx hb dX5_mark_64 hl (by decide) rfl (fun ls hl => ?_)
                      refine lv_iinc (v := 8) (lv' := [(6, .int 8), (5, .int 1), (4, .int (1 <<< (p1 &&& 31))), (0, .ref (a 9)), (1, .int 1), (2, .int p1), (3, .int p2)]) hx hb dX5_mark_66 hl (k := 1) rfl (by decide) (by decide) rfl (fun ls hl => ?_)
                      refine lv_goto (tgt := 44) hx hb dX5_mark_69 (by decide) ?_
                      refine lv_iload hx hb dX5_mark_44 (lv_at hl 0 rfl) ?_
                      refine lv_bipush (v := 8) hx hb dX5_mark_46 (by decide) ?_
                      refine lv_icmp_ge (tgt := 72) hx hb dX5_mark_48 (by decide) (fun c_39 => ?_) (fun c_39 => ?_)
                      · refine lv_iload hx hb dX5_mark_72 (lv_at hl 1 rfl) ?_
                        have hP9 := hP.sub (ws' := []) [] rfl
                        have hD9 := hD.sub (ws' := []) [] (by decide) rfl
                        refine W.widen (k := 0) (n := 0) (Nat.le_of_ble_eq_true rfl) (Nat.le_of_ble_eq_true rfl) ?_
                        exact W.iret (v := 1) hx hb hr (fun t ht9 hW9 => ⟨⟨1, (), rfl, (Or.inr ⟨rfl, c_21⟩), ⟨(by rw [ht9]; exact hP9), hD9⟩⟩, hS.F ht9⟩) hS.2.2 dX5_mark_74 hlocks
                      · exact absurd c_39 (by decide)
  · subst e_1
    have hl : lv_has ls 7 [(4, .int (1 <<< (p1 &&& 31))), (0, .ref (a 9)), (1, .int 2), (2, .int p1), (3, .int p2)] := hl
    refine lv_aload_n hx hb dX5_mark_5 rfl (lv_at hl 1 rfl) ?_
    refine va_get (D := D) (ci := 11) (v := .ref (a 60)) (C := RX5) (T := TX5) (N := 9) hx hb ht in_X5 hown hK.1 hP 0 rfl rfl 1 (by decide) (ht _ w_281) (fun _ h9 => h9) rfl dX5_mark_6 ?_
    refine lv_iload_n hx hb dX5_mark_9 rfl (lv_at hl 2 rfl) ?_
    refine lv_iload_n hx hb dX5_mark_10 rfl (lv_at hl 4 rfl) ?_
    refine lv_if_eq (tgt := 26) hx hb dX5_mark_11 (by decide) (fun c_40 => ?_) (fun c_40 => ?_)
    · refine lv_aload_n hx hb dX5_mark_26 rfl (lv_at hl 1 rfl) ?_
      refine va_get (D := D) (ci := 11) (v := .ref (a 60)) (C := RX5) (T := TX5) (N := 9) hx hb ht in_X5 hown hK.1 hP 0 rfl rfl 1 (by decide) (ht _ w_281) (fun _ h9 => h9) rfl dX5_mark_27 ?_
      refine lv_iload_n hx hb dX5_mark_30 rfl (lv_at hl 2 rfl) ?_
      refine va_iald hx hb hK.1 hP 1 0 rfl rfl (by unfold vp_in; decide) dX5_mark_31 ?_
      refine r_topi (v := 0) rfl ?_
      refine lv_iload hx hb dX5_mark_32 (lv_at hl 0 rfl) ?_
      refine lv_iconst (v := (-1)) hx hb dX5_mark_34 (by decide) ?_
      refine lv_ixor hx hb dX5_mark_35 ?_
      refine lv_iand hx hb dX5_mark_36 ?_
      refine r_topi (v := 0) (z_and _) ?_
      refine va_iast hx hb hK.1 hP hD hS 1 0 rfl rfl (by unfold vp_in; decide) dX5_mark_37 (fun H locs hP hD hS => ?_)
      have hP : va_P D vwCl [((a 9), f_memory a), ((a 60), .inl (g 0, 8, .inl (upd (fun _ => 0) (2 : Int32).toNatClampNeg 0)))] H := hP
      have hD : va_D (va_A [((a 9), f_memory a), ((a 60), .inl (g 0, 8, .inl (fun _ => 0)))] s.heap.size) [((a 9), f_memory a), ((a 60), .inl (g 0, 8, .inl (upd (fun _ => 0) (2 : Int32).toNatClampNeg 0)))] := hD
      refine lv_iconst (v := 0) hx hb dX5_mark_38 (by decide) ?_
      refine lv_istore (lv' := [(5, .int 0), (4, .int (1 <<< (p1 &&& 31))), (0, .ref (a 9)), (1, .int 2), (2, .int p1), (3, .int p2)]) hx hb dX5_mark_39 hl (by decide) rfl (fun ls hl => ?_)
      refine lv_iconst (v := 0) hx hb dX5_mark_41 (by decide) ?_
      refine lv_istore (lv' := [(6, .int 0), (5, .int 0), (4, .int (1 <<< (p1 &&& 31))), (0, .ref (a 9)), (1, .int 2), (2, .int p1), (3, .int p2)]) hx hb dX5_mark_42 hl (by decide) rfl (fun ls hl => ?_)
      refine lv_iload hx hb dX5_mark_44 (lv_at hl 0 rfl) ?_
      refine lv_bipush (v := 8) hx hb dX5_mark_46 (by decide) ?_
      refine lv_icmp_ge (tgt := 72) hx hb dX5_mark_48 (by decide) (fun c_41 => ?_) (fun c_41 => ?_)
      · exact absurd c_41 (by decide)
      · refine lv_iload hx hb dX5_mark_51 (lv_at hl 1 rfl) ?_
        refine lv_aload_n hx hb dX5_mark_53 rfl (lv_at hl 3 rfl) ?_
        refine va_get (D := D) (ci := 11) (v := .ref (a 60)) (C := RX5) (T := TX5) (N := 9) hx hb ht in_X5 hown hK.1 hP 0 rfl rfl 1 (by decide) (ht _ w_281) (fun _ h9 => h9) rfl dX5_mark_54 ?_
        refine lv_iload hx hb dX5_mark_57 (lv_at hl 0 rfl) ?_
        refine va_iald hx hb hK.1 hP 1 0 rfl rfl (by unfold vp_in; decide) dX5_mark_59 ?_
        refine r_topi (v := 0) rfl ?_
        have hPc : va_P D vwCl [] _ := hP.sub (ws' := []) [] rfl
        have hDc : va_D (fun q => z0 ≤ q) [] := (hD.to hAz).pick (ws' := []) [] (by decide) rfl
        have hFc := AnA (ws := [((a 9), f_memory a), ((a 60), .inl (g 0, 8, .inl (fun _ => 0)))]) hS.1
        refine va_calli (va_runS (As := [.int 0]) (rest := [.int 0]) ⟨hx, hb, hml, hown, ht⟩ (k_J6_bitCount_0f7a4 l D g z0 _ a) (va_cwS 1 ht (gS w_277 w_279 w_280 w_278) rfl rfl rfl (by decide +kernel) (le2 rfl rfl)) ⟨PP.blind, PP.mk' hK hZ hz hAz hS hPc hDc⟩ rfl rfl hl.1 rfl (lv_room (Nat.le_of_ble_eq_true rfl)) dX5_mark_60 (le2 rfl rfl)) hS (fun q _ h => hFc q h) hFc (fun r u t H locs ht1 hvm hw hB hz1 hk1 hS => ?_)
        obtain ⟨rfl, hw⟩ := hw
        have hP := ro1 hP hk1
        refine lv_iadd hx hb dX5_mark_63 ?_
        refine r_topi (v := 0) (by decide) ?_
        refine lv_istore (lv' := [(5, .int 0), (6, .int 0), (4, .int (1 <<< (p1 &&& 31))), (0, .ref (a 9)), (1, .int 2), (2, .int p1), (3, .int p2)]) hx hb dX5_mark_64 hl (by decide) rfl (fun ls hl => ?_)
        refine lv_iinc (v := 1) (lv' := [(6, .int 1), (5, .int 0), (4, .int (1 <<< (p1 &&& 31))), (0, .ref (a 9)), (1, .int 2), (2, .int p1), (3, .int p2)]) hx hb dX5_mark_66 hl (k := 1) rfl (by decide) (by decide) rfl (fun ls hl => ?_)
        refine lv_goto (tgt := 44) hx hb dX5_mark_69 (by decide) ?_
        refine lv_iload hx hb dX5_mark_44 (lv_at hl 0 rfl) ?_
        refine lv_bipush (v := 8) hx hb dX5_mark_46 (by decide) ?_
        refine lv_icmp_ge (tgt := 72) hx hb dX5_mark_48 (by decide) (fun c_42 => ?_) (fun c_42 => ?_)
        · exact absurd c_42 (by decide)
        · refine lv_iload hx hb dX5_mark_51 (lv_at hl 1 rfl) ?_
          refine lv_aload_n hx hb dX5_mark_53 rfl (lv_at hl 3 rfl) ?_
          refine va_get (D := D) (ci := 11) (v := .ref (a 60)) (C := RX5) (T := TX5) (N := 9) hx hb ht in_X5 hown hK.1 hP 0 rfl rfl 1 (by decide) (ht _ w_281) (fun _ h9 => h9) rfl dX5_mark_54 ?_
          refine lv_iload hx hb dX5_mark_57 (lv_at hl 0 rfl) ?_
          refine va_iald hx hb hK.1 hP 1 0 rfl rfl (by unfold vp_in; decide) dX5_mark_59 ?_
          refine r_topi (v := 0) rfl ?_
          have hPc : va_P D vwCl [] _ := hP.sub (ws' := []) [] rfl
          have hDc : va_D (fun q => z0 ≤ q) [] := (hD.to hAz).pick (ws' := []) [] (by decide) rfl
          have hFc := AnA (ws := [((a 9), f_memory a), ((a 60), .inl (g 0, 8, .inl (fun _ => 0)))]) hS.1
          refine va_calli (va_runS (As := [.int 0]) (rest := [.int 0]) ⟨hx, hb, hml, hown, ht⟩ (k_J6_bitCount_0f7a4 l D g z0 _ a) (va_cwS 1 ht (gS w_277 w_279 w_280 w_278) rfl rfl rfl (by decide +kernel) (le2 rfl rfl)) ⟨PP.blind, PP.mk' hK hZ hz hAz hS hPc hDc⟩ rfl rfl hl.1 rfl (lv_room (Nat.le_of_ble_eq_true rfl)) dX5_mark_60 (le2 rfl rfl)) hS (fun q _ h => hFc q h) hFc (fun r u t H locs ht1 hvm hw hB hz1 hk1 hS => ?_)
          obtain ⟨rfl, hw⟩ := hw
          have hP := ro1 hP hk1
          refine lv_iadd hx hb dX5_mark_63 ?_
          refine r_topi (v := 0) (by decide) ?_
          refine lv_istore (lv' := [(5, .int 0), (6, .int 1), (4, .int (1 <<< (p1 &&& 31))), (0, .ref (a 9)), (1, .int 2), (2, .int p1), (3, .int p2)]) hx hb dX5_mark_64 hl (by decide) rfl (fun ls hl => ?_)
          refine lv_iinc (v := 2) (lv' := [(6, .int 2), (5, .int 0), (4, .int (1 <<< (p1 &&& 31))), (0, .ref (a 9)), (1, .int 2), (2, .int p1), (3, .int p2)]) hx hb dX5_mark_66 hl (k := 1) rfl (by decide) (by decide) rfl (fun ls hl => ?_)
          refine lv_goto (tgt := 44) hx hb dX5_mark_69 (by decide) ?_
          refine lv_iload hx hb dX5_mark_44 (lv_at hl 0 rfl) ?_
          refine lv_bipush (v := 8) hx hb dX5_mark_46 (by decide) ?_
          refine lv_icmp_ge (tgt := 72) hx hb dX5_mark_48 (by decide) (fun c_43 => ?_) (fun c_43 => ?_)
          · exact absurd c_43 (by decide)
          · refine lv_iload hx hb dX5_mark_51 (lv_at hl 1 rfl) ?_
            refine lv_aload_n hx hb dX5_mark_53 rfl (lv_at hl 3 rfl) ?_
            refine va_get (D := D) (ci := 11) (v := .ref (a 60)) (C := RX5) (T := TX5) (N := 9) hx hb ht in_X5 hown hK.1 hP 0 rfl rfl 1 (by decide) (ht _ w_281) (fun _ h9 => h9) rfl dX5_mark_54 ?_
            refine lv_iload hx hb dX5_mark_57 (lv_at hl 0 rfl) ?_
            refine va_iald hx hb hK.1 hP 1 0 rfl rfl (by unfold vp_in; decide) dX5_mark_59 ?_
            refine r_topi (v := 0) rfl ?_
            have hPc : va_P D vwCl [] _ := hP.sub (ws' := []) [] rfl
            have hDc : va_D (fun q => z0 ≤ q) [] := (hD.to hAz).pick (ws' := []) [] (by decide) rfl
            have hFc := AnA (ws := [((a 9), f_memory a), ((a 60), .inl (g 0, 8, .inl (fun _ => 0)))]) hS.1
            refine va_calli (va_runS (As := [.int 0]) (rest := [.int 0]) ⟨hx, hb, hml, hown, ht⟩ (k_J6_bitCount_0f7a4 l D g z0 _ a) (va_cwS 1 ht (gS w_277 w_279 w_280 w_278) rfl rfl rfl (by decide +kernel) (le2 rfl rfl)) ⟨PP.blind, PP.mk' hK hZ hz hAz hS hPc hDc⟩ rfl rfl hl.1 rfl (lv_room (Nat.le_of_ble_eq_true rfl)) dX5_mark_60 (le2 rfl rfl)) hS (fun q _ h => hFc q h) hFc (fun r u t H locs ht1 hvm hw hB hz1 hk1 hS => ?_)
            obtain ⟨rfl, hw⟩ := hw
            have hP := ro1 hP hk1
            refine lv_iadd hx hb dX5_mark_63 ?_
            refine r_topi (v := 0) (by decide) ?_
            refine lv_istore (lv' := [(5, .int 0), (6, .int 2), (4, .int (1 <<< (p1 &&& 31))), (0, .ref (a 9)), (1, .int 2), (2, .int p1), (3, .int p2)]) hx hb dX5_mark_64 hl (by decide) rfl (fun ls hl => ?_)
            refine lv_iinc (v := 3) (lv' := [(6, .int 3), (5, .int 0), (4, .int (1 <<< (p1 &&& 31))), (0, .ref (a 9)), (1, .int 2), (2, .int p1), (3, .int p2)]) hx hb dX5_mark_66 hl (k := 1) rfl (by decide) (by decide) rfl (fun ls hl => ?_)
            refine lv_goto (tgt := 44) hx hb dX5_mark_69 (by decide) ?_
            refine lv_iload hx hb dX5_mark_44 (lv_at hl 0 rfl) ?_
            refine lv_bipush (v := 8) hx hb dX5_mark_46 (by decide) ?_
            refine lv_icmp_ge (tgt := 72) hx hb dX5_mark_48 (by decide) (fun c_44 => ?_) (fun c_44 => ?_)
            · exact absurd c_44 (by decide)
            · refine lv_iload hx hb dX5_mark_51 (lv_at hl 1 rfl) ?_
              refine lv_aload_n hx hb dX5_mark_53 rfl (lv_at hl 3 rfl) ?_
              refine va_get (D := D) (ci := 11) (v := .ref (a 60)) (C := RX5) (T := TX5) (N := 9) hx hb ht in_X5 hown hK.1 hP 0 rfl rfl 1 (by decide) (ht _ w_281) (fun _ h9 => h9) rfl dX5_mark_54 ?_
              refine lv_iload hx hb dX5_mark_57 (lv_at hl 0 rfl) ?_
              refine va_iald hx hb hK.1 hP 1 0 rfl rfl (by unfold vp_in; decide) dX5_mark_59 ?_
              refine r_topi (v := 0) rfl ?_
              have hPc : va_P D vwCl [] _ := hP.sub (ws' := []) [] rfl
              have hDc : va_D (fun q => z0 ≤ q) [] := (hD.to hAz).pick (ws' := []) [] (by decide) rfl
              have hFc := AnA (ws := [((a 9), f_memory a), ((a 60), .inl (g 0, 8, .inl (fun _ => 0)))]) hS.1
              refine va_calli (va_runS (As := [.int 0]) (rest := [.int 0]) ⟨hx, hb, hml, hown, ht⟩ (k_J6_bitCount_0f7a4 l D g z0 _ a) (va_cwS 1 ht (gS w_277 w_279 w_280 w_278) rfl rfl rfl (by decide +kernel) (le2 rfl rfl)) ⟨PP.blind, PP.mk' hK hZ hz hAz hS hPc hDc⟩ rfl rfl hl.1 rfl (lv_room (Nat.le_of_ble_eq_true rfl)) dX5_mark_60 (le2 rfl rfl)) hS (fun q _ h => hFc q h) hFc (fun r u t H locs ht1 hvm hw hB hz1 hk1 hS => ?_)
              obtain ⟨rfl, hw⟩ := hw
              have hP := ro1 hP hk1
              refine lv_iadd hx hb dX5_mark_63 ?_
              refine r_topi (v := 0) (by decide) ?_
              refine lv_istore (lv' := [(5, .int 0), (6, .int 3), (4, .int (1 <<< (p1 &&& 31))), (0, .ref (a 9)), (1, .int 2), (2, .int p1), (3, .int p2)]) hx hb dX5_mark_64 hl (by decide) rfl (fun ls hl => ?_)
              refine lv_iinc (v := 4) (lv' := [(6, .int 4), (5, .int 0), (4, .int (1 <<< (p1 &&& 31))), (0, .ref (a 9)), (1, .int 2), (2, .int p1), (3, .int p2)]) hx hb dX5_mark_66 hl (k := 1) rfl (by decide) (by decide) rfl (fun ls hl => ?_)
              refine lv_goto (tgt := 44) hx hb dX5_mark_69 (by decide) ?_
              refine lv_iload hx hb dX5_mark_44 (lv_at hl 0 rfl) ?_
              refine lv_bipush (v := 8) hx hb dX5_mark_46 (by decide) ?_
              refine lv_icmp_ge (tgt := 72) hx hb dX5_mark_48 (by decide) (fun c_45 => ?_) (fun c_45 => ?_)
              · exact absurd c_45 (by decide)
              · refine lv_iload hx hb dX5_mark_51 (lv_at hl 1 rfl) ?_
                refine lv_aload_n hx hb dX5_mark_53 rfl (lv_at hl 3 rfl) ?_
                refine va_get (D := D) (ci := 11) (v := .ref (a 60)) (C := RX5) (T := TX5) (N := 9) hx hb ht in_X5 hown hK.1 hP 0 rfl rfl 1 (by decide) (ht _ w_281) (fun _ h9 => h9) rfl dX5_mark_54 ?_
                refine lv_iload hx hb dX5_mark_57 (lv_at hl 0 rfl) ?_
                refine va_iald hx hb hK.1 hP 1 0 rfl rfl (by unfold vp_in; decide) dX5_mark_59 ?_
                refine r_topi (v := 0) rfl ?_
                have hPc : va_P D vwCl [] _ := hP.sub (ws' := []) [] rfl
                have hDc : va_D (fun q => z0 ≤ q) [] := (hD.to hAz).pick (ws' := []) [] (by decide) rfl
                have hFc := AnA (ws := [((a 9), f_memory a), ((a 60), .inl (g 0, 8, .inl (fun _ => 0)))]) hS.1
                refine va_calli (va_runS (As := [.int 0]) (rest := [.int 0]) ⟨hx, hb, hml, hown, ht⟩ (k_J6_bitCount_0f7a4 l D g z0 _ a) (va_cwS 1 ht (gS w_277 w_279 w_280 w_278) rfl rfl rfl (by decide +kernel) (le2 rfl rfl)) ⟨PP.blind, PP.mk' hK hZ hz hAz hS hPc hDc⟩ rfl rfl hl.1 rfl (lv_room (Nat.le_of_ble_eq_true rfl)) dX5_mark_60 (le2 rfl rfl)) hS (fun q _ h => hFc q h) hFc (fun r u t H locs ht1 hvm hw hB hz1 hk1 hS => ?_)
                obtain ⟨rfl, hw⟩ := hw
                have hP := ro1 hP hk1
                refine lv_iadd hx hb dX5_mark_63 ?_
                refine r_topi (v := 0) (by decide) ?_
                refine lv_istore (lv' := [(5, .int 0), (6, .int 4), (4, .int (1 <<< (p1 &&& 31))), (0, .ref (a 9)), (1, .int 2), (2, .int p1), (3, .int p2)]) hx hb dX5_mark_64 hl (by decide) rfl (fun ls hl => ?_)
                refine lv_iinc (v := 5) (lv' := [(6, .int 5), (5, .int 0), (4, .int (1 <<< (p1 &&& 31))), (0, .ref (a 9)), (1, .int 2), (2, .int p1), (3, .int p2)]) hx hb dX5_mark_66 hl (k := 1) rfl (by decide) (by decide) rfl (fun ls hl => ?_)
                refine lv_goto (tgt := 44) hx hb dX5_mark_69 (by decide) ?_
                refine lv_iload hx hb dX5_mark_44 (lv_at hl 0 rfl) ?_
                refine lv_bipush (v := 8) hx hb dX5_mark_46 (by decide) ?_
                refine lv_icmp_ge (tgt := 72) hx hb dX5_mark_48 (by decide) (fun c_46 => ?_) (fun c_46 => ?_)
                · exact absurd c_46 (by decide)
                · refine lv_iload hx hb dX5_mark_51 (lv_at hl 1 rfl) ?_
                  refine lv_aload_n hx hb dX5_mark_53 rfl (lv_at hl 3 rfl) ?_
                  refine va_get (D := D) (ci := 11) (v := .ref (a 60)) (C := RX5) (T := TX5) (N := 9) hx hb ht in_X5 hown hK.1 hP 0 rfl rfl 1 (by decide) (ht _ w_281) (fun _ h9 => h9) rfl dX5_mark_54 ?_
                  refine lv_iload hx hb dX5_mark_57 (lv_at hl 0 rfl) ?_
                  refine va_iald hx hb hK.1 hP 1 0 rfl rfl (by unfold vp_in; decide) dX5_mark_59 ?_
                  refine r_topi (v := 0) rfl ?_
                  have hPc : va_P D vwCl [] _ := hP.sub (ws' := []) [] rfl
                  have hDc : va_D (fun q => z0 ≤ q) [] := (hD.to hAz).pick (ws' := []) [] (by decide) rfl
                  have hFc := AnA (ws := [((a 9), f_memory a), ((a 60), .inl (g 0, 8, .inl (fun _ => 0)))]) hS.1
                  refine va_calli (va_runS (As := [.int 0]) (rest := [.int 0]) ⟨hx, hb, hml, hown, ht⟩ (k_J6_bitCount_0f7a4 l D g z0 _ a) (va_cwS 1 ht (gS w_277 w_279 w_280 w_278) rfl rfl rfl (by decide +kernel) (le2 rfl rfl)) ⟨PP.blind, PP.mk' hK hZ hz hAz hS hPc hDc⟩ rfl rfl hl.1 rfl (lv_room (Nat.le_of_ble_eq_true rfl)) dX5_mark_60 (le2 rfl rfl)) hS (fun q _ h => hFc q h) hFc (fun r u t H locs ht1 hvm hw hB hz1 hk1 hS => ?_)
                  obtain ⟨rfl, hw⟩ := hw
                  have hP := ro1 hP hk1
                  refine lv_iadd hx hb dX5_mark_63 ?_
                  refine r_topi (v := 0) (by decide) ?_
                  refine lv_istore (lv' := [(5, .int 0), (6, .int 5), (4, .int (1 <<< (p1 &&& 31))), (0, .ref (a 9)), (1, .int 2), (2, .int p1), (3, .int p2)]) hx hb dX5_mark_64 hl (by decide) rfl (fun ls hl => ?_)
                  refine lv_iinc (v := 6) (lv' := [(6, .int 6), (5, .int 0), (4, .int (1 <<< (p1 &&& 31))), (0, .ref (a 9)), (1, .int 2), (2, .int p1), (3, .int p2)]) hx hb dX5_mark_66 hl (k := 1) rfl (by decide) (by decide) rfl (fun ls hl => ?_)
                  refine lv_goto (tgt := 44) hx hb dX5_mark_69 (by decide) ?_
                  refine lv_iload hx hb dX5_mark_44 (lv_at hl 0 rfl) ?_
                  refine lv_bipush (v := 8) hx hb dX5_mark_46 (by decide) ?_
                  refine lv_icmp_ge (tgt := 72) hx hb dX5_mark_48 (by decide) (fun c_47 => ?_) (fun c_47 => ?_)
                  · exact absurd c_47 (by decide)
                  · refine lv_iload hx hb dX5_mark_51 (lv_at hl 1 rfl) ?_
                    refine lv_aload_n hx hb dX5_mark_53 rfl (lv_at hl 3 rfl) ?_
                    refine va_get (D := D) (ci := 11) (v := .ref (a 60)) (C := RX5) (T := TX5) (N := 9) hx hb ht in_X5 hown hK.1 hP 0 rfl rfl 1 (by decide) (ht _ w_281) (fun _ h9 => h9) rfl dX5_mark_54 ?_
                    refine lv_iload hx hb dX5_mark_57 (lv_at hl 0 rfl) ?_
                    refine va_iald hx hb hK.1 hP 1 0 rfl rfl (by unfold vp_in; decide) dX5_mark_59 ?_
                    refine r_topi (v := 0) rfl ?_
                    have hPc : va_P D vwCl [] _ := hP.sub (ws' := []) [] rfl
                    have hDc : va_D (fun q => z0 ≤ q) [] := (hD.to hAz).pick (ws' := []) [] (by decide) rfl
                    have hFc := AnA (ws := [((a 9), f_memory a), ((a 60), .inl (g 0, 8, .inl (fun _ => 0)))]) hS.1
                    refine va_calli (va_runS (As := [.int 0]) (rest := [.int 0]) ⟨hx, hb, hml, hown, ht⟩ (k_J6_bitCount_0f7a4 l D g z0 _ a) (va_cwS 1 ht (gS w_277 w_279 w_280 w_278) rfl rfl rfl (by decide +kernel) (le2 rfl rfl)) ⟨PP.blind, PP.mk' hK hZ hz hAz hS hPc hDc⟩ rfl rfl hl.1 rfl (lv_room (Nat.le_of_ble_eq_true rfl)) dX5_mark_60 (le2 rfl rfl)) hS (fun q _ h => hFc q h) hFc (fun r u t H locs ht1 hvm hw hB hz1 hk1 hS => ?_)
                    obtain ⟨rfl, hw⟩ := hw
                    have hP := ro1 hP hk1
                    refine lv_iadd hx hb dX5_mark_63 ?_
                    refine r_topi (v := 0) (by decide) ?_
                    refine lv_istore (lv' := [(5, .int 0), (6, .int 6), (4, .int (1 <<< (p1 &&& 31))), (0, .ref (a 9)), (1, .int 2), (2, .int p1), (3, .int p2)]) hx hb dX5_mark_64 hl (by decide) rfl (fun ls hl => ?_)
                    refine lv_iinc (v := 7) (lv' := [(6, .int 7), (5, .int 0), (4, .int (1 <<< (p1 &&& 31))), (0, .ref (a 9)), (1, .int 2), (2, .int p1), (3, .int p2)]) hx hb dX5_mark_66 hl (k := 1) rfl (by decide) (by decide) rfl (fun ls hl => ?_)
                    refine lv_goto (tgt := 44) hx hb dX5_mark_69 (by decide) ?_
                    refine lv_iload hx hb dX5_mark_44 (lv_at hl 0 rfl) ?_
                    refine lv_bipush (v := 8) hx hb dX5_mark_46 (by decide) ?_
                    refine lv_icmp_ge (tgt := 72) hx hb dX5_mark_48 (by decide) (fun c_48 => ?_) (fun c_48 => ?_)
                    · exact absurd c_48 (by decide)
                    · refine lv_iload hx hb dX5_mark_51 (lv_at hl 1 rfl) ?_
                      refine lv_aload_n hx hb dX5_mark_53 rfl (lv_at hl 3 rfl) ?_
                      refine va_get (D := D) (ci := 11) (v := .ref (a 60)) (C := RX5) (T := TX5) (N := 9) hx hb ht in_X5 hown hK.1 hP 0 rfl rfl 1 (by decide) (ht _ w_281) (fun _ h9 => h9) rfl dX5_mark_54 ?_
                      refine lv_iload hx hb dX5_mark_57 (lv_at hl 0 rfl) ?_
                      refine va_iald hx hb hK.1 hP 1 0 rfl rfl (by unfold vp_in; decide) dX5_mark_59 ?_
                      refine r_topi (v := 0) rfl ?_
                      have hPc : va_P D vwCl [] _ := hP.sub (ws' := []) [] rfl
                      have hDc : va_D (fun q => z0 ≤ q) [] := (hD.to hAz).pick (ws' := []) [] (by decide) rfl
                      have hFc := AnA (ws := [((a 9), f_memory a), ((a 60), .inl (g 0, 8, .inl (fun _ => 0)))]) hS.1
                      refine va_calli (va_runS (As := [.int 0]) (rest := [.int 0]) ⟨hx, hb, hml, hown, ht⟩ (k_J6_bitCount_0f7a4 l D g z0 _ a) (va_cwS 1 ht (gS w_277 w_279 w_280 w_278) rfl rfl rfl (by decide +kernel) (le2 rfl rfl)) ⟨PP.blind, PP.mk' hK hZ hz hAz hS hPc hDc⟩ rfl rfl hl.1 rfl (lv_room (Nat.le_of_ble_eq_true rfl)) dX5_mark_60 (le2 rfl rfl)) hS (fun q _ h => hFc q h) hFc (fun r u t H locs ht1 hvm hw hB hz1 hk1 hS => ?_)
                      obtain ⟨rfl, hw⟩ := hw
                      have hP := ro1 hP hk1
                      refine lv_iadd hx hb dX5_mark_63 ?_
                      refine r_topi (v := 0) (by decide) ?_
                      refine lv_istore (lv' := [(5, .int 0), (6, .int 7), (4, .int (1 <<< (p1 &&& 31))), (0, .ref (a 9)), (1, .int 2), (2, .int p1), (3, .int p2)]) hx hb dX5_mark_64 hl (by decide) rfl (fun ls hl => ?_)
                      refine lv_iinc (v := 8) (lv' := [(6, .int 8), (5, .int 0), (4, .int (1 <<< (p1 &&& 31))), (0, .ref (a 9)), (1, .int 2), (2, .int p1), (3, .int p2)]) hx hb dX5_mark_66 hl (k := 1) rfl (by decide) (by decide) rfl (fun ls hl => ?_)
                      refine lv_goto (tgt := 44) hx hb dX5_mark_69 (by decide) ?_
                      refine lv_iload hx hb dX5_mark_44 (lv_at hl 0 rfl) ?_
                      refine lv_bipush (v := 8) hx hb dX5_mark_46 (by decide) ?_
                      refine lv_icmp_ge (tgt := 72) hx hb dX5_mark_48 (by decide) (fun c_49 => ?_) (fun c_49 => ?_)
                      · refine lv_iload hx hb dX5_mark_72 (lv_at hl 1 rfl) ?_
                        have hP9 := hP.sub (ws' := []) [] rfl
                        have hD9 := hD.sub (ws' := []) [] (by decide) rfl
                        refine W.widen (k := 0) (n := 0) (Nat.le_of_ble_eq_true rfl) (Nat.le_of_ble_eq_true rfl) ?_
                        exact W.iret (v := 0) hx hb hr (fun t ht9 hW9 => ⟨⟨0, (), rfl, (Or.inl ⟨rfl, c_40⟩), ⟨(by rw [ht9]; exact hP9), hD9⟩⟩, hS.F ht9⟩) hS.2.2 dX5_mark_74 hlocks
                      · exact absurd c_49 (by decide)
    · refine lv_aload_n hx hb dX5_mark_14 rfl (lv_at hl 1 rfl) ?_
      refine va_get (D := D) (ci := 11) (v := .ref (a 60)) (C := RX5) (T := TX5) (N := 9) hx hb ht in_X5 hown hK.1 hP 0 rfl rfl 1 (by decide) (ht _ w_281) (fun _ h9 => h9) rfl dX5_mark_15 ?_
      refine lv_iload_n hx hb dX5_mark_18 rfl (lv_at hl 2 rfl) ?_
      refine va_iald hx hb hK.1 hP 1 0 rfl rfl (by unfold vp_in; decide) dX5_mark_19 ?_
      refine r_topi (v := 0) rfl ?_
      refine lv_iload hx hb dX5_mark_20 (lv_at hl 0 rfl) ?_
      refine lv_ior hx hb dX5_mark_22 ?_
      refine r_topi (v := 1 <<< (p1 &&& 31)) (z_or _) ?_
      refine lv_goto (tgt := 37) hx hb dX5_mark_23 (by decide) ?_
      refine va_iast hx hb hK.1 hP hD hS 1 0 rfl rfl (by unfold vp_in; decide) dX5_mark_37 (fun H locs hP hD hS => ?_)
      have hP : va_P D vwCl [((a 9), f_memory a), ((a 60), .inl (g 0, 8, .inl (upd (fun _ => 0) (2 : Int32).toNatClampNeg (1 <<< (p1 &&& 31)))))] H := hP
      have hD : va_D (va_A [((a 9), f_memory a), ((a 60), .inl (g 0, 8, .inl (fun _ => 0)))] s.heap.size) [((a 9), f_memory a), ((a 60), .inl (g 0, 8, .inl (upd (fun _ => 0) (2 : Int32).toNatClampNeg (1 <<< (p1 &&& 31)))))] := hD
      refine lv_iconst (v := 0) hx hb dX5_mark_38 (by decide) ?_
      refine lv_istore (lv' := [(5, .int 0), (4, .int (1 <<< (p1 &&& 31))), (0, .ref (a 9)), (1, .int 2), (2, .int p1), (3, .int p2)]) hx hb dX5_mark_39 hl (by decide) rfl (fun ls hl => ?_)
      refine lv_iconst (v := 0) hx hb dX5_mark_41 (by decide) ?_
      refine lv_istore (lv' := [(6, .int 0), (5, .int 0), (4, .int (1 <<< (p1 &&& 31))), (0, .ref (a 9)), (1, .int 2), (2, .int p1), (3, .int p2)]) hx hb dX5_mark_42 hl (by decide) rfl (fun ls hl => ?_)
      refine lv_iload hx hb dX5_mark_44 (lv_at hl 0 rfl) ?_
      refine lv_bipush (v := 8) hx hb dX5_mark_46 (by decide) ?_
      refine lv_icmp_ge (tgt := 72) hx hb dX5_mark_48 (by decide) (fun c_50 => ?_) (fun c_50 => ?_)
      · exact absurd c_50 (by decide)
      · refine lv_iload hx hb dX5_mark_51 (lv_at hl 1 rfl) ?_
        refine lv_aload_n hx hb dX5_mark_53 rfl (lv_at hl 3 rfl) ?_
        refine va_get (D := D) (ci := 11) (v := .ref (a 60)) (C := RX5) (T := TX5) (N := 9) hx hb ht in_X5 hown hK.1 hP 0 rfl rfl 1 (by decide) (ht _ w_281) (fun _ h9 => h9) rfl dX5_mark_54 ?_
        refine lv_iload hx hb dX5_mark_57 (lv_at hl 0 rfl) ?_
        refine va_iald hx hb hK.1 hP 1 0 rfl rfl (by unfold vp_in; decide) dX5_mark_59 ?_
        refine r_topi (v := 0) rfl ?_
        have hPc : va_P D vwCl [] _ := hP.sub (ws' := []) [] rfl
        have hDc : va_D (fun q => z0 ≤ q) [] := (hD.to hAz).pick (ws' := []) [] (by decide) rfl
        have hFc := AnA (ws := [((a 9), f_memory a), ((a 60), .inl (g 0, 8, .inl (fun _ => 0)))]) hS.1
        refine va_calli (va_runS (As := [.int 0]) (rest := [.int 0]) ⟨hx, hb, hml, hown, ht⟩ (k_J6_bitCount_0f7a4 l D g z0 _ a) (va_cwS 1 ht (gS w_277 w_279 w_280 w_278) rfl rfl rfl (by decide +kernel) (le2 rfl rfl)) ⟨PP.blind, PP.mk' hK hZ hz hAz hS hPc hDc⟩ rfl rfl hl.1 rfl (lv_room (Nat.le_of_ble_eq_true rfl)) dX5_mark_60 (le2 rfl rfl)) hS (fun q _ h => hFc q h) hFc (fun r u t H locs ht1 hvm hw hB hz1 hk1 hS => ?_)
        obtain ⟨rfl, hw⟩ := hw
        have hP := ro1 hP hk1
        refine lv_iadd hx hb dX5_mark_63 ?_
        refine r_topi (v := 0) (by decide) ?_
        refine lv_istore (lv' := [(5, .int 0), (6, .int 0), (4, .int (1 <<< (p1 &&& 31))), (0, .ref (a 9)), (1, .int 2), (2, .int p1), (3, .int p2)]) hx hb dX5_mark_64 hl (by decide) rfl (fun ls hl => ?_)
        refine lv_iinc (v := 1) (lv' := [(6, .int 1), (5, .int 0), (4, .int (1 <<< (p1 &&& 31))), (0, .ref (a 9)), (1, .int 2), (2, .int p1), (3, .int p2)]) hx hb dX5_mark_66 hl (k := 1) rfl (by decide) (by decide) rfl (fun ls hl => ?_)
        refine lv_goto (tgt := 44) hx hb dX5_mark_69 (by decide) ?_
        refine lv_iload hx hb dX5_mark_44 (lv_at hl 0 rfl) ?_
        refine lv_bipush (v := 8) hx hb dX5_mark_46 (by decide) ?_
        refine lv_icmp_ge (tgt := 72) hx hb dX5_mark_48 (by decide) (fun c_51 => ?_) (fun c_51 => ?_)
        · exact absurd c_51 (by decide)
        · refine lv_iload hx hb dX5_mark_51 (lv_at hl 1 rfl) ?_
          refine lv_aload_n hx hb dX5_mark_53 rfl (lv_at hl 3 rfl) ?_
          refine va_get (D := D) (ci := 11) (v := .ref (a 60)) (C := RX5) (T := TX5) (N := 9) hx hb ht in_X5 hown hK.1 hP 0 rfl rfl 1 (by decide) (ht _ w_281) (fun _ h9 => h9) rfl dX5_mark_54 ?_
          refine lv_iload hx hb dX5_mark_57 (lv_at hl 0 rfl) ?_
          refine va_iald hx hb hK.1 hP 1 0 rfl rfl (by unfold vp_in; decide) dX5_mark_59 ?_
          refine r_topi (v := 0) rfl ?_
          have hPc : va_P D vwCl [] _ := hP.sub (ws' := []) [] rfl
          have hDc : va_D (fun q => z0 ≤ q) [] := (hD.to hAz).pick (ws' := []) [] (by decide) rfl
          have hFc := AnA (ws := [((a 9), f_memory a), ((a 60), .inl (g 0, 8, .inl (fun _ => 0)))]) hS.1
          refine va_calli (va_runS (As := [.int 0]) (rest := [.int 0]) ⟨hx, hb, hml, hown, ht⟩ (k_J6_bitCount_0f7a4 l D g z0 _ a) (va_cwS 1 ht (gS w_277 w_279 w_280 w_278) rfl rfl rfl (by decide +kernel) (le2 rfl rfl)) ⟨PP.blind, PP.mk' hK hZ hz hAz hS hPc hDc⟩ rfl rfl hl.1 rfl (lv_room (Nat.le_of_ble_eq_true rfl)) dX5_mark_60 (le2 rfl rfl)) hS (fun q _ h => hFc q h) hFc (fun r u t H locs ht1 hvm hw hB hz1 hk1 hS => ?_)
          obtain ⟨rfl, hw⟩ := hw
          have hP := ro1 hP hk1
          refine lv_iadd hx hb dX5_mark_63 ?_
          refine r_topi (v := 0) (by decide) ?_
          refine lv_istore (lv' := [(5, .int 0), (6, .int 1), (4, .int (1 <<< (p1 &&& 31))), (0, .ref (a 9)), (1, .int 2), (2, .int p1), (3, .int p2)]) hx hb dX5_mark_64 hl (by decide) rfl (fun ls hl => ?_)
          refine lv_iinc (v := 2) (lv' := [(6, .int 2), (5, .int 0), (4, .int (1 <<< (p1 &&& 31))), (0, .ref (a 9)), (1, .int 2), (2, .int p1), (3, .int p2)]) hx hb dX5_mark_66 hl (k := 1) rfl (by decide) (by decide) rfl (fun ls hl => ?_)
          refine lv_goto (tgt := 44) hx hb dX5_mark_69 (by decide) ?_
          refine lv_iload hx hb dX5_mark_44 (lv_at hl 0 rfl) ?_
          refine lv_bipush (v := 8) hx hb dX5_mark_46 (by decide) ?_
          refine lv_icmp_ge (tgt := 72) hx hb dX5_mark_48 (by decide) (fun c_52 => ?_) (fun c_52 => ?_)
          · exact absurd c_52 (by decide)
          · refine lv_iload hx hb dX5_mark_51 (lv_at hl 1 rfl) ?_
            refine lv_aload_n hx hb dX5_mark_53 rfl (lv_at hl 3 rfl) ?_
            refine va_get (D := D) (ci := 11) (v := .ref (a 60)) (C := RX5) (T := TX5) (N := 9) hx hb ht in_X5 hown hK.1 hP 0 rfl rfl 1 (by decide) (ht _ w_281) (fun _ h9 => h9) rfl dX5_mark_54 ?_
            refine lv_iload hx hb dX5_mark_57 (lv_at hl 0 rfl) ?_
            refine va_iald hx hb hK.1 hP 1 0 rfl rfl (by unfold vp_in; decide) dX5_mark_59 ?_
            refine r_topi (v := 1 <<< (p1 &&& 31)) rfl ?_
            have hPc : va_P D vwCl [] _ := hP.sub (ws' := []) [] rfl
            have hDc : va_D (fun q => z0 ≤ q) [] := (hD.to hAz).pick (ws' := []) [] (by decide) rfl
            have hFc := AnA (ws := [((a 9), f_memory a), ((a 60), .inl (g 0, 8, .inl (fun _ => 0)))]) hS.1
            refine va_calli (va_runS (As := [.int (1 <<< (p1 &&& 31))]) (rest := [.int 0]) ⟨hx, hb, hml, hown, ht⟩ (k_J6_bitCount_0f7a4_v1 l D g z0 _ a (1 <<< (p1 &&& 31))) (va_cwS 1 ht (gS w_277 w_279 w_280 w_278) rfl rfl rfl (by decide +kernel) (le2 rfl rfl)) ⟨PP.blind, PP.mk' hK hZ hz hAz hS hPc hDc⟩ rfl rfl hl.1 rfl (lv_room (Nat.le_of_ble_eq_true rfl)) dX5_mark_60 (le2 rfl rfl)) hS (fun q _ h => hFc q h) hFc (fun r u t H locs ht1 hvm hw hB hz1 hk1 hS => ?_)
            obtain ⟨rfl, hw⟩ := hw
            have hP := ro1 hP hk1
            refine r_topi (v := 1) (bit1 (lo_nlt hy2) (up_lt hy3)) ?_
            refine lv_iadd hx hb dX5_mark_63 ?_
            refine r_topi (v := 1) (by decide) ?_
            refine lv_istore (lv' := [(5, .int 1), (6, .int 2), (4, .int (1 <<< (p1 &&& 31))), (0, .ref (a 9)), (1, .int 2), (2, .int p1), (3, .int p2)]) hx hb dX5_mark_64 hl (by decide) rfl (fun ls hl => ?_)
            refine lv_iinc (v := 3) (lv' := [(6, .int 3), (5, .int 1), (4, .int (1 <<< (p1 &&& 31))), (0, .ref (a 9)), (1, .int 2), (2, .int p1), (3, .int p2)]) hx hb dX5_mark_66 hl (k := 1) rfl (by decide) (by decide) rfl (fun ls hl => ?_)
            refine lv_goto (tgt := 44) hx hb dX5_mark_69 (by decide) ?_
            refine lv_iload hx hb dX5_mark_44 (lv_at hl 0 rfl) ?_
            refine lv_bipush (v := 8) hx hb dX5_mark_46 (by decide) ?_
            refine lv_icmp_ge (tgt := 72) hx hb dX5_mark_48 (by decide) (fun c_53 => ?_) (fun c_53 => ?_)
            · exact absurd c_53 (by decide)
            · refine lv_iload hx hb dX5_mark_51 (lv_at hl 1 rfl) ?_
              refine lv_aload_n hx hb dX5_mark_53 rfl (lv_at hl 3 rfl) ?_
              refine va_get (D := D) (ci := 11) (v := .ref (a 60)) (C := RX5) (T := TX5) (N := 9) hx hb ht in_X5 hown hK.1 hP 0 rfl rfl 1 (by decide) (ht _ w_281) (fun _ h9 => h9) rfl dX5_mark_54 ?_
              refine lv_iload hx hb dX5_mark_57 (lv_at hl 0 rfl) ?_
              refine va_iald hx hb hK.1 hP 1 0 rfl rfl (by unfold vp_in; decide) dX5_mark_59 ?_
              refine r_topi (v := 0) rfl ?_
              have hPc : va_P D vwCl [] _ := hP.sub (ws' := []) [] rfl
              have hDc : va_D (fun q => z0 ≤ q) [] := (hD.to hAz).pick (ws' := []) [] (by decide) rfl
              have hFc := AnA (ws := [((a 9), f_memory a), ((a 60), .inl (g 0, 8, .inl (fun _ => 0)))]) hS.1
              refine va_calli (va_runS (As := [.int 0]) (rest := [.int 1]) ⟨hx, hb, hml, hown, ht⟩ (k_J6_bitCount_0f7a4 l D g z0 _ a) (va_cwS 1 ht (gS w_277 w_279 w_280 w_278) rfl rfl rfl (by decide +kernel) (le2 rfl rfl)) ⟨PP.blind, PP.mk' hK hZ hz hAz hS hPc hDc⟩ rfl rfl hl.1 rfl (lv_room (Nat.le_of_ble_eq_true rfl)) dX5_mark_60 (le2 rfl rfl)) hS (fun q _ h => hFc q h) hFc (fun r u t H locs ht1 hvm hw hB hz1 hk1 hS => ?_)
              obtain ⟨rfl, hw⟩ := hw
              have hP := ro1 hP hk1
              refine lv_iadd hx hb dX5_mark_63 ?_
              refine r_topi (v := 1) (by decide) ?_
              refine lv_istore (lv' := [(5, .int 1), (6, .int 3), (4, .int (1 <<< (p1 &&& 31))), (0, .ref (a 9)), (1, .int 2), (2, .int p1), (3, .int p2)]) hx hb dX5_mark_64 hl (by decide) rfl (fun ls hl => ?_)
              refine lv_iinc (v := 4) (lv' := [(6, .int 4), (5, .int 1), (4, .int (1 <<< (p1 &&& 31))), (0, .ref (a 9)), (1, .int 2), (2, .int p1), (3, .int p2)]) hx hb dX5_mark_66 hl (k := 1) rfl (by decide) (by decide) rfl (fun ls hl => ?_)
              refine lv_goto (tgt := 44) hx hb dX5_mark_69 (by decide) ?_
              refine lv_iload hx hb dX5_mark_44 (lv_at hl 0 rfl) ?_
              refine lv_bipush (v := 8) hx hb dX5_mark_46 (by decide) ?_
              refine lv_icmp_ge (tgt := 72) hx hb dX5_mark_48 (by decide) (fun c_54 => ?_) (fun c_54 => ?_)
              · exact absurd c_54 (by decide)
              · refine lv_iload hx hb dX5_mark_51 (lv_at hl 1 rfl) ?_
                refine lv_aload_n hx hb dX5_mark_53 rfl (lv_at hl 3 rfl) ?_
                refine va_get (D := D) (ci := 11) (v := .ref (a 60)) (C := RX5) (T := TX5) (N := 9) hx hb ht in_X5 hown hK.1 hP 0 rfl rfl 1 (by decide) (ht _ w_281) (fun _ h9 => h9) rfl dX5_mark_54 ?_
                refine lv_iload hx hb dX5_mark_57 (lv_at hl 0 rfl) ?_
                refine va_iald hx hb hK.1 hP 1 0 rfl rfl (by unfold vp_in; decide) dX5_mark_59 ?_
                refine r_topi (v := 0) rfl ?_
                have hPc : va_P D vwCl [] _ := hP.sub (ws' := []) [] rfl
                have hDc : va_D (fun q => z0 ≤ q) [] := (hD.to hAz).pick (ws' := []) [] (by decide) rfl
                have hFc := AnA (ws := [((a 9), f_memory a), ((a 60), .inl (g 0, 8, .inl (fun _ => 0)))]) hS.1
                refine va_calli (va_runS (As := [.int 0]) (rest := [.int 1]) ⟨hx, hb, hml, hown, ht⟩ (k_J6_bitCount_0f7a4 l D g z0 _ a) (va_cwS 1 ht (gS w_277 w_279 w_280 w_278) rfl rfl rfl (by decide +kernel) (le2 rfl rfl)) ⟨PP.blind, PP.mk' hK hZ hz hAz hS hPc hDc⟩ rfl rfl hl.1 rfl (lv_room (Nat.le_of_ble_eq_true rfl)) dX5_mark_60 (le2 rfl rfl)) hS (fun q _ h => hFc q h) hFc (fun r u t H locs ht1 hvm hw hB hz1 hk1 hS => ?_)
                obtain ⟨rfl, hw⟩ := hw
                have hP := ro1 hP hk1
                refine lv_iadd hx hb dX5_mark_63 ?_
                refine r_topi (v := 1) (by decide) ?_
                refine lv_istore (lv' := [(5, .int 1), (6, .int 4), (4, .int (1 <<< (p1 &&& 31))), (0, .ref (a 9)), (1, .int 2), (2, .int p1), (3, .int p2)]) hx hb dX5_mark_64 hl (by decide) rfl (fun ls hl => ?_)
                refine lv_iinc (v := 5) (lv' := [(6, .int 5), (5, .int 1), (4, .int (1 <<< (p1 &&& 31))), (0, .ref (a 9)), (1, .int 2), (2, .int p1), (3, .int p2)]) hx hb dX5_mark_66 hl (k := 1) rfl (by decide) (by decide) rfl (fun ls hl => ?_)
                refine lv_goto (tgt := 44) hx hb dX5_mark_69 (by decide) ?_
                refine lv_iload hx hb dX5_mark_44 (lv_at hl 0 rfl) ?_
                refine lv_bipush (v := 8) hx hb dX5_mark_46 (by decide) ?_
                refine lv_icmp_ge (tgt := 72) hx hb dX5_mark_48 (by decide) (fun c_55 => ?_) (fun c_55 => ?_)
                · exact absurd c_55 (by decide)
                · refine lv_iload hx hb dX5_mark_51 (lv_at hl 1 rfl) ?_
                  refine lv_aload_n hx hb dX5_mark_53 rfl (lv_at hl 3 rfl) ?_
                  refine va_get (D := D) (ci := 11) (v := .ref (a 60)) (C := RX5) (T := TX5) (N := 9) hx hb ht in_X5 hown hK.1 hP 0 rfl rfl 1 (by decide) (ht _ w_281) (fun _ h9 => h9) rfl dX5_mark_54 ?_
                  refine lv_iload hx hb dX5_mark_57 (lv_at hl 0 rfl) ?_
                  refine va_iald hx hb hK.1 hP 1 0 rfl rfl (by unfold vp_in; decide) dX5_mark_59 ?_
                  refine r_topi (v := 0) rfl ?_
                  have hPc : va_P D vwCl [] _ := hP.sub (ws' := []) [] rfl
                  have hDc : va_D (fun q => z0 ≤ q) [] := (hD.to hAz).pick (ws' := []) [] (by decide) rfl
                  have hFc := AnA (ws := [((a 9), f_memory a), ((a 60), .inl (g 0, 8, .inl (fun _ => 0)))]) hS.1
                  refine va_calli (va_runS (As := [.int 0]) (rest := [.int 1]) ⟨hx, hb, hml, hown, ht⟩ (k_J6_bitCount_0f7a4 l D g z0 _ a) (va_cwS 1 ht (gS w_277 w_279 w_280 w_278) rfl rfl rfl (by decide +kernel) (le2 rfl rfl)) ⟨PP.blind, PP.mk' hK hZ hz hAz hS hPc hDc⟩ rfl rfl hl.1 rfl (lv_room (Nat.le_of_ble_eq_true rfl)) dX5_mark_60 (le2 rfl rfl)) hS (fun q _ h => hFc q h) hFc (fun r u t H locs ht1 hvm hw hB hz1 hk1 hS => ?_)
                  obtain ⟨rfl, hw⟩ := hw
                  have hP := ro1 hP hk1
                  refine lv_iadd hx hb dX5_mark_63 ?_
                  refine r_topi (v := 1) (by decide) ?_
                  refine lv_istore (lv' := [(5, .int 1), (6, .int 5), (4, .int (1 <<< (p1 &&& 31))), (0, .ref (a 9)), (1, .int 2), (2, .int p1), (3, .int p2)]) hx hb dX5_mark_64 hl (by decide) rfl (fun ls hl => ?_)
                  refine lv_iinc (v := 6) (lv' := [(6, .int 6), (5, .int 1), (4, .int (1 <<< (p1 &&& 31))), (0, .ref (a 9)), (1, .int 2), (2, .int p1), (3, .int p2)]) hx hb dX5_mark_66 hl (k := 1) rfl (by decide) (by decide) rfl (fun ls hl => ?_)
                  refine lv_goto (tgt := 44) hx hb dX5_mark_69 (by decide) ?_
                  refine lv_iload hx hb dX5_mark_44 (lv_at hl 0 rfl) ?_
                  refine lv_bipush (v := 8) hx hb dX5_mark_46 (by decide) ?_
                  refine lv_icmp_ge (tgt := 72) hx hb dX5_mark_48 (by decide) (fun c_56 => ?_) (fun c_56 => ?_)
                  · exact absurd c_56 (by decide)
                  · refine lv_iload hx hb dX5_mark_51 (lv_at hl 1 rfl) ?_
                    refine lv_aload_n hx hb dX5_mark_53 rfl (lv_at hl 3 rfl) ?_
                    refine va_get (D := D) (ci := 11) (v := .ref (a 60)) (C := RX5) (T := TX5) (N := 9) hx hb ht in_X5 hown hK.1 hP 0 rfl rfl 1 (by decide) (ht _ w_281) (fun _ h9 => h9) rfl dX5_mark_54 ?_
                    refine lv_iload hx hb dX5_mark_57 (lv_at hl 0 rfl) ?_
                    refine va_iald hx hb hK.1 hP 1 0 rfl rfl (by unfold vp_in; decide) dX5_mark_59 ?_
                    refine r_topi (v := 0) rfl ?_
                    have hPc : va_P D vwCl [] _ := hP.sub (ws' := []) [] rfl
                    have hDc : va_D (fun q => z0 ≤ q) [] := (hD.to hAz).pick (ws' := []) [] (by decide) rfl
                    have hFc := AnA (ws := [((a 9), f_memory a), ((a 60), .inl (g 0, 8, .inl (fun _ => 0)))]) hS.1
                    refine va_calli (va_runS (As := [.int 0]) (rest := [.int 1]) ⟨hx, hb, hml, hown, ht⟩ (k_J6_bitCount_0f7a4 l D g z0 _ a) (va_cwS 1 ht (gS w_277 w_279 w_280 w_278) rfl rfl rfl (by decide +kernel) (le2 rfl rfl)) ⟨PP.blind, PP.mk' hK hZ hz hAz hS hPc hDc⟩ rfl rfl hl.1 rfl (lv_room (Nat.le_of_ble_eq_true rfl)) dX5_mark_60 (le2 rfl rfl)) hS (fun q _ h => hFc q h) hFc (fun r u t H locs ht1 hvm hw hB hz1 hk1 hS => ?_)
                    obtain ⟨rfl, hw⟩ := hw
                    have hP := ro1 hP hk1
                    refine lv_iadd hx hb dX5_mark_63 ?_
                    refine r_topi (v := 1) (by decide) ?_
                    refine lv_istore (lv' := [(5, .int 1), (6, .int 6), (4, .int (1 <<< (p1 &&& 31))), (0, .ref (a 9)), (1, .int 2), (2, .int p1), (3, .int p2)]) hx hb dX5_mark_64 hl (by decide) rfl (fun ls hl => ?_)
                    refine lv_iinc (v := 7) (lv' := [(6, .int 7), (5, .int 1), (4, .int (1 <<< (p1 &&& 31))), (0, .ref (a 9)), (1, .int 2), (2, .int p1), (3, .int p2)]) hx hb dX5_mark_66 hl (k := 1) rfl (by decide) (by decide) rfl (fun ls hl => ?_)
                    refine lv_goto (tgt := 44) hx hb dX5_mark_69 (by decide) ?_
                    refine lv_iload hx hb dX5_mark_44 (lv_at hl 0 rfl) ?_
                    refine lv_bipush (v := 8) hx hb dX5_mark_46 (by decide) ?_
                    refine lv_icmp_ge (tgt := 72) hx hb dX5_mark_48 (by decide) (fun c_57 => ?_) (fun c_57 => ?_)
                    · exact absurd c_57 (by decide)
                    · refine lv_iload hx hb dX5_mark_51 (lv_at hl 1 rfl) ?_
                      refine lv_aload_n hx hb dX5_mark_53 rfl (lv_at hl 3 rfl) ?_
                      refine va_get (D := D) (ci := 11) (v := .ref (a 60)) (C := RX5) (T := TX5) (N := 9) hx hb ht in_X5 hown hK.1 hP 0 rfl rfl 1 (by decide) (ht _ w_281) (fun _ h9 => h9) rfl dX5_mark_54 ?_
                      refine lv_iload hx hb dX5_mark_57 (lv_at hl 0 rfl) ?_
                      refine va_iald hx hb hK.1 hP 1 0 rfl rfl (by unfold vp_in; decide) dX5_mark_59 ?_
                      refine r_topi (v := 0) rfl ?_
                      have hPc : va_P D vwCl [] _ := hP.sub (ws' := []) [] rfl
                      have hDc : va_D (fun q => z0 ≤ q) [] := (hD.to hAz).pick (ws' := []) [] (by decide) rfl
                      have hFc := AnA (ws := [((a 9), f_memory a), ((a 60), .inl (g 0, 8, .inl (fun _ => 0)))]) hS.1
                      refine va_calli (va_runS (As := [.int 0]) (rest := [.int 1]) ⟨hx, hb, hml, hown, ht⟩ (k_J6_bitCount_0f7a4 l D g z0 _ a) (va_cwS 1 ht (gS w_277 w_279 w_280 w_278) rfl rfl rfl (by decide +kernel) (le2 rfl rfl)) ⟨PP.blind, PP.mk' hK hZ hz hAz hS hPc hDc⟩ rfl rfl hl.1 rfl (lv_room (Nat.le_of_ble_eq_true rfl)) dX5_mark_60 (le2 rfl rfl)) hS (fun q _ h => hFc q h) hFc (fun r u t H locs ht1 hvm hw hB hz1 hk1 hS => ?_)
                      obtain ⟨rfl, hw⟩ := hw
                      have hP := ro1 hP hk1
                      refine lv_iadd hx hb dX5_mark_63 ?_
                      refine r_topi (v := 1) (by decide) ?_
                      refine lv_istore (lv' := [(5, .int 1), (6, .int 7), (4, .int (1 <<< (p1 &&& 31))), (0, .ref (a 9)), (1, .int 2), (2, .int p1), (3, .int p2)]) hx hb dX5_mark_64 hl (by decide) rfl (fun ls hl => ?_)
                      refine lv_iinc (v := 8) (lv' := [(6, .int 8), (5, .int 1), (4, .int (1 <<< (p1 &&& 31))), (0, .ref (a 9)), (1, .int 2), (2, .int p1), (3, .int p2)]) hx hb dX5_mark_66 hl (k := 1) rfl (by decide) (by decide) rfl (fun ls hl => ?_)
                      refine lv_goto (tgt := 44) hx hb dX5_mark_69 (by decide) ?_
                      refine lv_iload hx hb dX5_mark_44 (lv_at hl 0 rfl) ?_
                      refine lv_bipush (v := 8) hx hb dX5_mark_46 (by decide) ?_
                      refine lv_icmp_ge (tgt := 72) hx hb dX5_mark_48 (by decide) (fun c_58 => ?_) (fun c_58 => ?_)
                      · refine lv_iload hx hb dX5_mark_72 (lv_at hl 1 rfl) ?_
                        have hP9 := hP.sub (ws' := []) [] rfl
                        have hD9 := hD.sub (ws' := []) [] (by decide) rfl
                        refine W.widen (k := 0) (n := 0) (Nat.le_of_ble_eq_true rfl) (Nat.le_of_ble_eq_true rfl) ?_
                        exact W.iret (v := 1) hx hb hr (fun t ht9 hW9 => ⟨⟨1, (), rfl, (Or.inr ⟨rfl, c_40⟩), ⟨(by rw [ht9]; exact hP9), hD9⟩⟩, hS.F ht9⟩) hS.2.2 dX5_mark_74 hlocks
                      · exact absurd c_58 (by decide)
  · subst e_1
    have hl : lv_has ls 7 [(4, .int (1 <<< (p1 &&& 31))), (0, .ref (a 9)), (1, .int 3), (2, .int p1), (3, .int p2)] := hl
    refine lv_aload_n hx hb dX5_mark_5 rfl (lv_at hl 1 rfl) ?_
    refine va_get (D := D) (ci := 11) (v := .ref (a 60)) (C := RX5) (T := TX5) (N := 9) hx hb ht in_X5 hown hK.1 hP 0 rfl rfl 1 (by decide) (ht _ w_281) (fun _ h9 => h9) rfl dX5_mark_6 ?_
    refine lv_iload_n hx hb dX5_mark_9 rfl (lv_at hl 2 rfl) ?_
    refine lv_iload_n hx hb dX5_mark_10 rfl (lv_at hl 4 rfl) ?_
    refine lv_if_eq (tgt := 26) hx hb dX5_mark_11 (by decide) (fun c_59 => ?_) (fun c_59 => ?_)
    · refine lv_aload_n hx hb dX5_mark_26 rfl (lv_at hl 1 rfl) ?_
      refine va_get (D := D) (ci := 11) (v := .ref (a 60)) (C := RX5) (T := TX5) (N := 9) hx hb ht in_X5 hown hK.1 hP 0 rfl rfl 1 (by decide) (ht _ w_281) (fun _ h9 => h9) rfl dX5_mark_27 ?_
      refine lv_iload_n hx hb dX5_mark_30 rfl (lv_at hl 2 rfl) ?_
      refine va_iald hx hb hK.1 hP 1 0 rfl rfl (by unfold vp_in; decide) dX5_mark_31 ?_
      refine r_topi (v := 0) rfl ?_
      refine lv_iload hx hb dX5_mark_32 (lv_at hl 0 rfl) ?_
      refine lv_iconst (v := (-1)) hx hb dX5_mark_34 (by decide) ?_
      refine lv_ixor hx hb dX5_mark_35 ?_
      refine lv_iand hx hb dX5_mark_36 ?_
      refine r_topi (v := 0) (z_and _) ?_
      refine va_iast hx hb hK.1 hP hD hS 1 0 rfl rfl (by unfold vp_in; decide) dX5_mark_37 (fun H locs hP hD hS => ?_)
      have hP : va_P D vwCl [((a 9), f_memory a), ((a 60), .inl (g 0, 8, .inl (upd (fun _ => 0) (3 : Int32).toNatClampNeg 0)))] H := hP
      have hD : va_D (va_A [((a 9), f_memory a), ((a 60), .inl (g 0, 8, .inl (fun _ => 0)))] s.heap.size) [((a 9), f_memory a), ((a 60), .inl (g 0, 8, .inl (upd (fun _ => 0) (3 : Int32).toNatClampNeg 0)))] := hD
      refine lv_iconst (v := 0) hx hb dX5_mark_38 (by decide) ?_
      refine lv_istore (lv' := [(5, .int 0), (4, .int (1 <<< (p1 &&& 31))), (0, .ref (a 9)), (1, .int 3), (2, .int p1), (3, .int p2)]) hx hb dX5_mark_39 hl (by decide) rfl (fun ls hl => ?_)
      refine lv_iconst (v := 0) hx hb dX5_mark_41 (by decide) ?_
      refine lv_istore (lv' := [(6, .int 0), (5, .int 0), (4, .int (1 <<< (p1 &&& 31))), (0, .ref (a 9)), (1, .int 3), (2, .int p1), (3, .int p2)]) hx hb dX5_mark_42 hl (by decide) rfl (fun ls hl => ?_)
      refine lv_iload hx hb dX5_mark_44 (lv_at hl 0 rfl) ?_
      refine lv_bipush (v := 8) hx hb dX5_mark_46 (by decide) ?_
      refine lv_icmp_ge (tgt := 72) hx hb dX5_mark_48 (by decide) (fun c_60 => ?_) (fun c_60 => ?_)
      · exact absurd c_60 (by decide)
      · refine lv_iload hx hb dX5_mark_51 (lv_at hl 1 rfl) ?_
        refine lv_aload_n hx hb dX5_mark_53 rfl (lv_at hl 3 rfl) ?_
        refine va_get (D := D) (ci := 11) (v := .ref (a 60)) (C := RX5) (T := TX5) (N := 9) hx hb ht in_X5 hown hK.1 hP 0 rfl rfl 1 (by decide) (ht _ w_281) (fun _ h9 => h9) rfl dX5_mark_54 ?_
        refine lv_iload hx hb dX5_mark_57 (lv_at hl 0 rfl) ?_
        refine va_iald hx hb hK.1 hP 1 0 rfl rfl (by unfold vp_in; decide) dX5_mark_59 ?_
        refine r_topi (v := 0) rfl ?_
        have hPc : va_P D vwCl [] _ := hP.sub (ws' := []) [] rfl
        have hDc : va_D (fun q => z0 ≤ q) [] := (hD.to hAz).pick (ws' := []) [] (by decide) rfl
        have hFc := AnA (ws := [((a 9), f_memory a), ((a 60), .inl (g 0, 8, .inl (fun _ => 0)))]) hS.1
        refine va_calli (va_runS (As := [.int 0]) (rest := [.int 0]) ⟨hx, hb, hml, hown, ht⟩ (k_J6_bitCount_0f7a4 l D g z0 _ a) (va_cwS 1 ht (gS w_277 w_279 w_280 w_278) rfl rfl rfl (by decide +kernel) (le2 rfl rfl)) ⟨PP.blind, PP.mk' hK hZ hz hAz hS hPc hDc⟩ rfl rfl hl.1 rfl (lv_room (Nat.le_of_ble_eq_true rfl)) dX5_mark_60 (le2 rfl rfl)) hS (fun q _ h => hFc q h) hFc (fun r u t H locs ht1 hvm hw hB hz1 hk1 hS => ?_)
        obtain ⟨rfl, hw⟩ := hw
        have hP := ro1 hP hk1
        refine lv_iadd hx hb dX5_mark_63 ?_
        refine r_topi (v := 0) (by decide) ?_
        refine lv_istore (lv' := [(5, .int 0), (6, .int 0), (4, .int (1 <<< (p1 &&& 31))), (0, .ref (a 9)), (1, .int 3), (2, .int p1), (3, .int p2)]) hx hb dX5_mark_64 hl (by decide) rfl (fun ls hl => ?_)
        refine lv_iinc (v := 1) (lv' := [(6, .int 1), (5, .int 0), (4, .int (1 <<< (p1 &&& 31))), (0, .ref (a 9)), (1, .int 3), (2, .int p1), (3, .int p2)]) hx hb dX5_mark_66 hl (k := 1) rfl (by decide) (by decide) rfl (fun ls hl => ?_)
        refine lv_goto (tgt := 44) hx hb dX5_mark_69 (by decide) ?_
        refine lv_iload hx hb dX5_mark_44 (lv_at hl 0 rfl) ?_
        refine lv_bipush (v := 8) hx hb dX5_mark_46 (by decide) ?_
        refine lv_icmp_ge (tgt := 72) hx hb dX5_mark_48 (by decide) (fun c_61 => ?_) (fun c_61 => ?_)
        · exact absurd c_61 (by decide)
        · refine lv_iload hx hb dX5_mark_51 (lv_at hl 1 rfl) ?_
          refine lv_aload_n hx hb dX5_mark_53 rfl (lv_at hl 3 rfl) ?_
          refine va_get (D := D) (ci := 11) (v := .ref (a 60)) (C := RX5) (T := TX5) (N := 9) hx hb ht in_X5 hown hK.1 hP 0 rfl rfl 1 (by decide) (ht _ w_281) (fun _ h9 => h9) rfl dX5_mark_54 ?_
          refine lv_iload hx hb dX5_mark_57 (lv_at hl 0 rfl) ?_
          refine va_iald hx hb hK.1 hP 1 0 rfl rfl (by unfold vp_in; decide) dX5_mark_59 ?_
          refine r_topi (v := 0) rfl ?_
          have hPc : va_P D vwCl [] _ := hP.sub (ws' := []) [] rfl
          have hDc : va_D (fun q => z0 ≤ q) [] := (hD.to hAz).pick (ws' := []) [] (by decide) rfl
          have hFc := AnA (ws := [((a 9), f_memory a), ((a 60), .inl (g 0, 8, .inl (fun _ => 0)))]) hS.1
          refine va_calli (va_runS (As := [.int 0]) (rest := [.int 0]) ⟨hx, hb, hml, hown, ht⟩ (k_J6_bitCount_0f7a4 l D g z0 _ a) (va_cwS 1 ht (gS w_277 w_279 w_280 w_278) rfl rfl rfl (by decide +kernel) (le2 rfl rfl)) ⟨PP.blind, PP.mk' hK hZ hz hAz hS hPc hDc⟩ rfl rfl hl.1 rfl (lv_room (Nat.le_of_ble_eq_true rfl)) dX5_mark_60 (le2 rfl rfl)) hS (fun q _ h => hFc q h) hFc (fun r u t H locs ht1 hvm hw hB hz1 hk1 hS => ?_)
          obtain ⟨rfl, hw⟩ := hw
          have hP := ro1 hP hk1
          refine lv_iadd hx hb dX5_mark_63 ?_
          refine r_topi (v := 0) (by decide) ?_
          refine lv_istore (lv' := [(5, .int 0), (6, .int 1), (4, .int (1 <<< (p1 &&& 31))), (0, .ref (a 9)), (1, .int 3), (2, .int p1), (3, .int p2)]) hx hb dX5_mark_64 hl (by decide) rfl (fun ls hl => ?_)
          refine lv_iinc (v := 2) (lv' := [(6, .int 2), (5, .int 0), (4, .int (1 <<< (p1 &&& 31))), (0, .ref (a 9)), (1, .int 3), (2, .int p1), (3, .int p2)]) hx hb dX5_mark_66 hl (k := 1) rfl (by decide) (by decide) rfl (fun ls hl => ?_)
          refine lv_goto (tgt := 44) hx hb dX5_mark_69 (by decide) ?_
          refine lv_iload hx hb dX5_mark_44 (lv_at hl 0 rfl) ?_
          refine lv_bipush (v := 8) hx hb dX5_mark_46 (by decide) ?_
          refine lv_icmp_ge (tgt := 72) hx hb dX5_mark_48 (by decide) (fun c_62 => ?_) (fun c_62 => ?_)
          · exact absurd c_62 (by decide)
          · refine lv_iload hx hb dX5_mark_51 (lv_at hl 1 rfl) ?_
            refine lv_aload_n hx hb dX5_mark_53 rfl (lv_at hl 3 rfl) ?_
            refine va_get (D := D) (ci := 11) (v := .ref (a 60)) (C := RX5) (T := TX5) (N := 9) hx hb ht in_X5 hown hK.1 hP 0 rfl rfl 1 (by decide) (ht _ w_281) (fun _ h9 => h9) rfl dX5_mark_54 ?_
            refine lv_iload hx hb dX5_mark_57 (lv_at hl 0 rfl) ?_
            refine va_iald hx hb hK.1 hP 1 0 rfl rfl (by unfold vp_in; decide) dX5_mark_59 ?_
            refine r_topi (v := 0) rfl ?_
            have hPc : va_P D vwCl [] _ := hP.sub (ws' := []) [] rfl
            have hDc : va_D (fun q => z0 ≤ q) [] := (hD.to hAz).pick (ws' := []) [] (by decide) rfl
            have hFc := AnA (ws := [((a 9), f_memory a), ((a 60), .inl (g 0, 8, .inl (fun _ => 0)))]) hS.1
            refine va_calli (va_runS (As := [.int 0]) (rest := [.int 0]) ⟨hx, hb, hml, hown, ht⟩ (k_J6_bitCount_0f7a4 l D g z0 _ a) (va_cwS 1 ht (gS w_277 w_279 w_280 w_278) rfl rfl rfl (by decide +kernel) (le2 rfl rfl)) ⟨PP.blind, PP.mk' hK hZ hz hAz hS hPc hDc⟩ rfl rfl hl.1 rfl (lv_room (Nat.le_of_ble_eq_true rfl)) dX5_mark_60 (le2 rfl rfl)) hS (fun q _ h => hFc q h) hFc (fun r u t H locs ht1 hvm hw hB hz1 hk1 hS => ?_)
            obtain ⟨rfl, hw⟩ := hw
            have hP := ro1 hP hk1
            refine lv_iadd hx hb dX5_mark_63 ?_
            refine r_topi (v := 0) (by decide) ?_
            refine lv_istore (lv' := [(5, .int 0), (6, .int 2), (4, .int (1 <<< (p1 &&& 31))), (0, .ref (a 9)), (1, .int 3), (2, .int p1), (3, .int p2)]) hx hb dX5_mark_64 hl (by decide) rfl (fun ls hl => ?_)
            refine lv_iinc (v := 3) (lv' := [(6, .int 3), (5, .int 0), (4, .int (1 <<< (p1 &&& 31))), (0, .ref (a 9)), (1, .int 3), (2, .int p1), (3, .int p2)]) hx hb dX5_mark_66 hl (k := 1) rfl (by decide) (by decide) rfl (fun ls hl => ?_)
            refine lv_goto (tgt := 44) hx hb dX5_mark_69 (by decide) ?_
            refine lv_iload hx hb dX5_mark_44 (lv_at hl 0 rfl) ?_
            refine lv_bipush (v := 8) hx hb dX5_mark_46 (by decide) ?_
            refine lv_icmp_ge (tgt := 72) hx hb dX5_mark_48 (by decide) (fun c_63 => ?_) (fun c_63 => ?_)
            · exact absurd c_63 (by decide)
            · refine lv_iload hx hb dX5_mark_51 (lv_at hl 1 rfl) ?_
              refine lv_aload_n hx hb dX5_mark_53 rfl (lv_at hl 3 rfl) ?_
              refine va_get (D := D) (ci := 11) (v := .ref (a 60)) (C := RX5) (T := TX5) (N := 9) hx hb ht in_X5 hown hK.1 hP 0 rfl rfl 1 (by decide) (ht _ w_281) (fun _ h9 => h9) rfl dX5_mark_54 ?_
              refine lv_iload hx hb dX5_mark_57 (lv_at hl 0 rfl) ?_
              refine va_iald hx hb hK.1 hP 1 0 rfl rfl (by unfold vp_in; decide) dX5_mark_59 ?_
              refine r_topi (v := 0) rfl ?_
              have hPc : va_P D vwCl [] _ := hP.sub (ws' := []) [] rfl
              have hDc : va_D (fun q => z0 ≤ q) [] := (hD.to hAz).pick (ws' := []) [] (by decide) rfl
              have hFc := AnA (ws := [((a 9), f_memory a), ((a 60), .inl (g 0, 8, .inl (fun _ => 0)))]) hS.1
              refine va_calli (va_runS (As := [.int 0]) (rest := [.int 0]) ⟨hx, hb, hml, hown, ht⟩ (k_J6_bitCount_0f7a4 l D g z0 _ a) (va_cwS 1 ht (gS w_277 w_279 w_280 w_278) rfl rfl rfl (by decide +kernel) (le2 rfl rfl)) ⟨PP.blind, PP.mk' hK hZ hz hAz hS hPc hDc⟩ rfl rfl hl.1 rfl (lv_room (Nat.le_of_ble_eq_true rfl)) dX5_mark_60 (le2 rfl rfl)) hS (fun q _ h => hFc q h) hFc (fun r u t H locs ht1 hvm hw hB hz1 hk1 hS => ?_)
              obtain ⟨rfl, hw⟩ := hw
              have hP := ro1 hP hk1
              refine lv_iadd hx hb dX5_mark_63 ?_
              refine r_topi (v := 0) (by decide) ?_
              refine lv_istore (lv' := [(5, .int 0), (6, .int 3), (4, .int (1 <<< (p1 &&& 31))), (0, .ref (a 9)), (1, .int 3), (2, .int p1), (3, .int p2)]) hx hb dX5_mark_64 hl (by decide) rfl (fun ls hl => ?_)
              refine lv_iinc (v := 4) (lv' := [(6, .int 4), (5, .int 0), (4, .int (1 <<< (p1 &&& 31))), (0, .ref (a 9)), (1, .int 3), (2, .int p1), (3, .int p2)]) hx hb dX5_mark_66 hl (k := 1) rfl (by decide) (by decide) rfl (fun ls hl => ?_)
              refine lv_goto (tgt := 44) hx hb dX5_mark_69 (by decide) ?_
              refine lv_iload hx hb dX5_mark_44 (lv_at hl 0 rfl) ?_
              refine lv_bipush (v := 8) hx hb dX5_mark_46 (by decide) ?_
              refine lv_icmp_ge (tgt := 72) hx hb dX5_mark_48 (by decide) (fun c_64 => ?_) (fun c_64 => ?_)
              · exact absurd c_64 (by decide)
              · refine lv_iload hx hb dX5_mark_51 (lv_at hl 1 rfl) ?_
                refine lv_aload_n hx hb dX5_mark_53 rfl (lv_at hl 3 rfl) ?_
                refine va_get (D := D) (ci := 11) (v := .ref (a 60)) (C := RX5) (T := TX5) (N := 9) hx hb ht in_X5 hown hK.1 hP 0 rfl rfl 1 (by decide) (ht _ w_281) (fun _ h9 => h9) rfl dX5_mark_54 ?_
                refine lv_iload hx hb dX5_mark_57 (lv_at hl 0 rfl) ?_
                refine va_iald hx hb hK.1 hP 1 0 rfl rfl (by unfold vp_in; decide) dX5_mark_59 ?_
                refine r_topi (v := 0) rfl ?_
                have hPc : va_P D vwCl [] _ := hP.sub (ws' := []) [] rfl
                have hDc : va_D (fun q => z0 ≤ q) [] := (hD.to hAz).pick (ws' := []) [] (by decide) rfl
                have hFc := AnA (ws := [((a 9), f_memory a), ((a 60), .inl (g 0, 8, .inl (fun _ => 0)))]) hS.1
                refine va_calli (va_runS (As := [.int 0]) (rest := [.int 0]) ⟨hx, hb, hml, hown, ht⟩ (k_J6_bitCount_0f7a4 l D g z0 _ a) (va_cwS 1 ht (gS w_277 w_279 w_280 w_278) rfl rfl rfl (by decide +kernel) (le2 rfl rfl)) ⟨PP.blind, PP.mk' hK hZ hz hAz hS hPc hDc⟩ rfl rfl hl.1 rfl (lv_room (Nat.le_of_ble_eq_true rfl)) dX5_mark_60 (le2 rfl rfl)) hS (fun q _ h => hFc q h) hFc (fun r u t H locs ht1 hvm hw hB hz1 hk1 hS => ?_)
                obtain ⟨rfl, hw⟩ := hw
                have hP := ro1 hP hk1
                refine lv_iadd hx hb dX5_mark_63 ?_
                refine r_topi (v := 0) (by decide) ?_
                refine lv_istore (lv' := [(5, .int 0), (6, .int 4), (4, .int (1 <<< (p1 &&& 31))), (0, .ref (a 9)), (1, .int 3), (2, .int p1), (3, .int p2)]) hx hb dX5_mark_64 hl (by decide) rfl (fun ls hl => ?_)
                refine lv_iinc (v := 5) (lv' := [(6, .int 5), (5, .int 0), (4, .int (1 <<< (p1 &&& 31))), (0, .ref (a 9)), (1, .int 3), (2, .int p1), (3, .int p2)]) hx hb dX5_mark_66 hl (k := 1) rfl (by decide) (by decide) rfl (fun ls hl => ?_)
                refine lv_goto (tgt := 44) hx hb dX5_mark_69 (by decide) ?_
                refine lv_iload hx hb dX5_mark_44 (lv_at hl 0 rfl) ?_
                refine lv_bipush (v := 8) hx hb dX5_mark_46 (by decide) ?_
                refine lv_icmp_ge (tgt := 72) hx hb dX5_mark_48 (by decide) (fun c_65 => ?_) (fun c_65 => ?_)
                · exact absurd c_65 (by decide)
                · refine lv_iload hx hb dX5_mark_51 (lv_at hl 1 rfl) ?_
                  refine lv_aload_n hx hb dX5_mark_53 rfl (lv_at hl 3 rfl) ?_
                  refine va_get (D := D) (ci := 11) (v := .ref (a 60)) (C := RX5) (T := TX5) (N := 9) hx hb ht in_X5 hown hK.1 hP 0 rfl rfl 1 (by decide) (ht _ w_281) (fun _ h9 => h9) rfl dX5_mark_54 ?_
                  refine lv_iload hx hb dX5_mark_57 (lv_at hl 0 rfl) ?_
                  refine va_iald hx hb hK.1 hP 1 0 rfl rfl (by unfold vp_in; decide) dX5_mark_59 ?_
                  refine r_topi (v := 0) rfl ?_
                  have hPc : va_P D vwCl [] _ := hP.sub (ws' := []) [] rfl
                  have hDc : va_D (fun q => z0 ≤ q) [] := (hD.to hAz).pick (ws' := []) [] (by decide) rfl
                  have hFc := AnA (ws := [((a 9), f_memory a), ((a 60), .inl (g 0, 8, .inl (fun _ => 0)))]) hS.1
                  refine va_calli (va_runS (As := [.int 0]) (rest := [.int 0]) ⟨hx, hb, hml, hown, ht⟩ (k_J6_bitCount_0f7a4 l D g z0 _ a) (va_cwS 1 ht (gS w_277 w_279 w_280 w_278) rfl rfl rfl (by decide +kernel) (le2 rfl rfl)) ⟨PP.blind, PP.mk' hK hZ hz hAz hS hPc hDc⟩ rfl rfl hl.1 rfl (lv_room (Nat.le_of_ble_eq_true rfl)) dX5_mark_60 (le2 rfl rfl)) hS (fun q _ h => hFc q h) hFc (fun r u t H locs ht1 hvm hw hB hz1 hk1 hS => ?_)
                  obtain ⟨rfl, hw⟩ := hw
                  have hP := ro1 hP hk1
                  refine lv_iadd hx hb dX5_mark_63 ?_
                  refine r_topi (v := 0) (by decide) ?_
                  refine lv_istore (lv' := [(5, .int 0), (6, .int 5), (4, .int (1 <<< (p1 &&& 31))), (0, .ref (a 9)), (1, .int 3), (2, .int p1), (3, .int p2)]) hx hb dX5_mark_64 hl (by decide) rfl (fun ls hl => ?_)
                  refine lv_iinc (v := 6) (lv' := [(6, .int 6), (5, .int 0), (4, .int (1 <<< (p1 &&& 31))), (0, .ref (a 9)), (1, .int 3), (2, .int p1), (3, .int p2)]) hx hb dX5_mark_66 hl (k := 1) rfl (by decide) (by decide) rfl (fun ls hl => ?_)
                  refine lv_goto (tgt := 44) hx hb dX5_mark_69 (by decide) ?_
                  refine lv_iload hx hb dX5_mark_44 (lv_at hl 0 rfl) ?_
                  refine lv_bipush (v := 8) hx hb dX5_mark_46 (by decide) ?_
                  refine lv_icmp_ge (tgt := 72) hx hb dX5_mark_48 (by decide) (fun c_66 => ?_) (fun c_66 => ?_)
                  · exact absurd c_66 (by decide)
                  · refine lv_iload hx hb dX5_mark_51 (lv_at hl 1 rfl) ?_
                    refine lv_aload_n hx hb dX5_mark_53 rfl (lv_at hl 3 rfl) ?_
                    refine va_get (D := D) (ci := 11) (v := .ref (a 60)) (C := RX5) (T := TX5) (N := 9) hx hb ht in_X5 hown hK.1 hP 0 rfl rfl 1 (by decide) (ht _ w_281) (fun _ h9 => h9) rfl dX5_mark_54 ?_
                    refine lv_iload hx hb dX5_mark_57 (lv_at hl 0 rfl) ?_
                    refine va_iald hx hb hK.1 hP 1 0 rfl rfl (by unfold vp_in; decide) dX5_mark_59 ?_
                    refine r_topi (v := 0) rfl ?_
                    have hPc : va_P D vwCl [] _ := hP.sub (ws' := []) [] rfl
                    have hDc : va_D (fun q => z0 ≤ q) [] := (hD.to hAz).pick (ws' := []) [] (by decide) rfl
                    have hFc := AnA (ws := [((a 9), f_memory a), ((a 60), .inl (g 0, 8, .inl (fun _ => 0)))]) hS.1
                    refine va_calli (va_runS (As := [.int 0]) (rest := [.int 0]) ⟨hx, hb, hml, hown, ht⟩ (k_J6_bitCount_0f7a4 l D g z0 _ a) (va_cwS 1 ht (gS w_277 w_279 w_280 w_278) rfl rfl rfl (by decide +kernel) (le2 rfl rfl)) ⟨PP.blind, PP.mk' hK hZ hz hAz hS hPc hDc⟩ rfl rfl hl.1 rfl (lv_room (Nat.le_of_ble_eq_true rfl)) dX5_mark_60 (le2 rfl rfl)) hS (fun q _ h => hFc q h) hFc (fun r u t H locs ht1 hvm hw hB hz1 hk1 hS => ?_)
                    obtain ⟨rfl, hw⟩ := hw
                    have hP := ro1 hP hk1
                    refine lv_iadd hx hb dX5_mark_63 ?_
                    refine r_topi (v := 0) (by decide) ?_
                    refine lv_istore (lv' := [(5, .int 0), (6, .int 6), (4, .int (1 <<< (p1 &&& 31))), (0, .ref (a 9)), (1, .int 3), (2, .int p1), (3, .int p2)]) hx hb dX5_mark_64 hl (by decide) rfl (fun ls hl => ?_)
                    refine lv_iinc (v := 7) (lv' := [(6, .int 7), (5, .int 0), (4, .int (1 <<< (p1 &&& 31))), (0, .ref (a 9)), (1, .int 3), (2, .int p1), (3, .int p2)]) hx hb dX5_mark_66 hl (k := 1) rfl (by decide) (by decide) rfl (fun ls hl => ?_)
                    refine lv_goto (tgt := 44) hx hb dX5_mark_69 (by decide) ?_
                    refine lv_iload hx hb dX5_mark_44 (lv_at hl 0 rfl) ?_
                    refine lv_bipush (v := 8) hx hb dX5_mark_46 (by decide) ?_
                    refine lv_icmp_ge (tgt := 72) hx hb dX5_mark_48 (by decide) (fun c_67 => ?_) (fun c_67 => ?_)
                    · exact absurd c_67 (by decide)
                    · refine lv_iload hx hb dX5_mark_51 (lv_at hl 1 rfl) ?_
                      refine lv_aload_n hx hb dX5_mark_53 rfl (lv_at hl 3 rfl) ?_
                      refine va_get (D := D) (ci := 11) (v := .ref (a 60)) (C := RX5) (T := TX5) (N := 9) hx hb ht in_X5 hown hK.1 hP 0 rfl rfl 1 (by decide) (ht _ w_281) (fun _ h9 => h9) rfl dX5_mark_54 ?_
                      refine lv_iload hx hb dX5_mark_57 (lv_at hl 0 rfl) ?_
                      refine va_iald hx hb hK.1 hP 1 0 rfl rfl (by unfold vp_in; decide) dX5_mark_59 ?_
                      refine r_topi (v := 0) rfl ?_
                      have hPc : va_P D vwCl [] _ := hP.sub (ws' := []) [] rfl
                      have hDc : va_D (fun q => z0 ≤ q) [] := (hD.to hAz).pick (ws' := []) [] (by decide) rfl
                      have hFc := AnA (ws := [((a 9), f_memory a), ((a 60), .inl (g 0, 8, .inl (fun _ => 0)))]) hS.1
                      refine va_calli (va_runS (As := [.int 0]) (rest := [.int 0]) ⟨hx, hb, hml, hown, ht⟩ (k_J6_bitCount_0f7a4 l D g z0 _ a) (va_cwS 1 ht (gS w_277 w_279 w_280 w_278) rfl rfl rfl (by decide +kernel) (le2 rfl rfl)) ⟨PP.blind, PP.mk' hK hZ hz hAz hS hPc hDc⟩ rfl rfl hl.1 rfl (lv_room (Nat.le_of_ble_eq_true rfl)) dX5_mark_60 (le2 rfl rfl)) hS (fun q _ h => hFc q h) hFc (fun r u t H locs ht1 hvm hw hB hz1 hk1 hS => ?_)
                      obtain ⟨rfl, hw⟩ := hw
                      have hP := ro1 hP hk1
                      refine lv_iadd hx hb dX5_mark_63 ?_
                      refine r_topi (v := 0) (by decide) ?_
                      refine lv_istore (lv' := [(5, .int 0), (6, .int 7), (4, .int (1 <<< (p1 &&& 31))), (0, .ref (a 9)), (1, .int 3), (2, .int p1), (3, .int p2)]) hx hb dX5_mark_64 hl (by decide) rfl (fun ls hl => ?_)
                      refine lv_iinc (v := 8) (lv' := [(6, .int 8), (5, .int 0), (4, .int (1 <<< (p1 &&& 31))), (0, .ref (a 9)), (1, .int 3), (2, .int p1), (3, .int p2)]) hx hb dX5_mark_66 hl (k := 1) rfl (by decide) (by decide) rfl (fun ls hl => ?_)
                      refine lv_goto (tgt := 44) hx hb dX5_mark_69 (by decide) ?_
                      refine lv_iload hx hb dX5_mark_44 (lv_at hl 0 rfl) ?_
                      refine lv_bipush (v := 8) hx hb dX5_mark_46 (by decide) ?_
                      refine lv_icmp_ge (tgt := 72) hx hb dX5_mark_48 (by decide) (fun c_68 => ?_) (fun c_68 => ?_)
                      · refine lv_iload hx hb dX5_mark_72 (lv_at hl 1 rfl) ?_
                        have hP9 := hP.sub (ws' := []) [] rfl
                        have hD9 := hD.sub (ws' := []) [] (by decide) rfl
                        refine W.widen (k := 0) (n := 0) (Nat.le_of_ble_eq_true rfl) (Nat.le_of_ble_eq_true rfl) ?_
                        exact W.iret (v := 0) hx hb hr (fun t ht9 hW9 => ⟨⟨0, (), rfl, (Or.inl ⟨rfl, c_59⟩), ⟨(by rw [ht9]; exact hP9), hD9⟩⟩, hS.F ht9⟩) hS.2.2 dX5_mark_74 hlocks
                      · exact absurd c_68 (by decide)
    · refine lv_aload_n hx hb dX5_mark_14 rfl (lv_at hl 1 rfl) ?_
      refine va_get (D := D) (ci := 11) (v := .ref (a 60)) (C := RX5) (T := TX5) (N := 9) hx hb ht in_X5 hown hK.1 hP 0 rfl rfl 1 (by decide) (ht _ w_281) (fun _ h9 => h9) rfl dX5_mark_15 ?_
      refine lv_iload_n hx hb dX5_mark_18 rfl (lv_at hl 2 rfl) ?_
      refine va_iald hx hb hK.1 hP 1 0 rfl rfl (by unfold vp_in; decide) dX5_mark_19 ?_
      refine r_topi (v := 0) rfl ?_
      refine lv_iload hx hb dX5_mark_20 (lv_at hl 0 rfl) ?_
      refine lv_ior hx hb dX5_mark_22 ?_
      refine r_topi (v := 1 <<< (p1 &&& 31)) (z_or _) ?_
      refine lv_goto (tgt := 37) hx hb dX5_mark_23 (by decide) ?_
      refine va_iast hx hb hK.1 hP hD hS 1 0 rfl rfl (by unfold vp_in; decide) dX5_mark_37 (fun H locs hP hD hS => ?_)
      have hP : va_P D vwCl [((a 9), f_memory a), ((a 60), .inl (g 0, 8, .inl (upd (fun _ => 0) (3 : Int32).toNatClampNeg (1 <<< (p1 &&& 31)))))] H := hP
      have hD : va_D (va_A [((a 9), f_memory a), ((a 60), .inl (g 0, 8, .inl (fun _ => 0)))] s.heap.size) [((a 9), f_memory a), ((a 60), .inl (g 0, 8, .inl (upd (fun _ => 0) (3 : Int32).toNatClampNeg (1 <<< (p1 &&& 31)))))] := hD
      refine lv_iconst (v := 0) hx hb dX5_mark_38 (by decide) ?_
      refine lv_istore (lv' := [(5, .int 0), (4, .int (1 <<< (p1 &&& 31))), (0, .ref (a 9)), (1, .int 3), (2, .int p1), (3, .int p2)]) hx hb dX5_mark_39 hl (by decide) rfl (fun ls hl => ?_)
      refine lv_iconst (v := 0) hx hb dX5_mark_41 (by decide) ?_
      refine lv_istore (lv' := [(6, .int 0), (5, .int 0), (4, .int (1 <<< (p1 &&& 31))), (0, .ref (a 9)), (1, .int 3), (2, .int p1), (3, .int p2)]) hx hb dX5_mark_42 hl (by decide) rfl (fun ls hl => ?_)
      refine lv_iload hx hb dX5_mark_44 (lv_at hl 0 rfl) ?_
      refine lv_bipush (v := 8) hx hb dX5_mark_46 (by decide) ?_
      refine lv_icmp_ge (tgt := 72) hx hb dX5_mark_48 (by decide) (fun c_69 => ?_) (fun c_69 => ?_)
      · exact absurd c_69 (by decide)
      · refine lv_iload hx hb dX5_mark_51 (lv_at hl 1 rfl) ?_
        refine lv_aload_n hx hb dX5_mark_53 rfl (lv_at hl 3 rfl) ?_
        refine va_get (D := D) (ci := 11) (v := .ref (a 60)) (C := RX5) (T := TX5) (N := 9) hx hb ht in_X5 hown hK.1 hP 0 rfl rfl 1 (by decide) (ht _ w_281) (fun _ h9 => h9) rfl dX5_mark_54 ?_
        refine lv_iload hx hb dX5_mark_57 (lv_at hl 0 rfl) ?_
        refine va_iald hx hb hK.1 hP 1 0 rfl rfl (by unfold vp_in; decide) dX5_mark_59 ?_
        refine r_topi (v := 0) rfl ?_
        have hPc : va_P D vwCl [] _ := hP.sub (ws' := []) [] rfl
        have hDc : va_D (fun q => z0 ≤ q) [] := (hD.to hAz).pick (ws' := []) [] (by decide) rfl
        have hFc := AnA (ws := [((a 9), f_memory a), ((a 60), .inl (g 0, 8, .inl (fun _ => 0)))]) hS.1
        refine va_calli (va_runS (As := [.int 0]) (rest := [.int 0]) ⟨hx, hb, hml, hown, ht⟩ (k_J6_bitCount_0f7a4 l D g z0 _ a) (va_cwS 1 ht (gS w_277 w_279 w_280 w_278) rfl rfl rfl (by decide +kernel) (le2 rfl rfl)) ⟨PP.blind, PP.mk' hK hZ hz hAz hS hPc hDc⟩ rfl rfl hl.1 rfl (lv_room (Nat.le_of_ble_eq_true rfl)) dX5_mark_60 (le2 rfl rfl)) hS (fun q _ h => hFc q h) hFc (fun r u t H locs ht1 hvm hw hB hz1 hk1 hS => ?_)
        obtain ⟨rfl, hw⟩ := hw
        have hP := ro1 hP hk1
        refine lv_iadd hx hb dX5_mark_63 ?_
        refine r_topi (v := 0) (by decide) ?_
        refine lv_istore (lv' := [(5, .int 0), (6, .int 0), (4, .int (1 <<< (p1 &&& 31))), (0, .ref (a 9)), (1, .int 3), (2, .int p1), (3, .int p2)]) hx hb dX5_mark_64 hl (by decide) rfl (fun ls hl => ?_)
        refine lv_iinc (v := 1) (lv' := [(6, .int 1), (5, .int 0), (4, .int (1 <<< (p1 &&& 31))), (0, .ref (a 9)), (1, .int 3), (2, .int p1), (3, .int p2)]) hx hb dX5_mark_66 hl (k := 1) rfl (by decide) (by decide) rfl (fun ls hl => ?_)
        refine lv_goto (tgt := 44) hx hb dX5_mark_69 (by decide) ?_
        refine lv_iload hx hb dX5_mark_44 (lv_at hl 0 rfl) ?_
        refine lv_bipush (v := 8) hx hb dX5_mark_46 (by decide) ?_
        refine lv_icmp_ge (tgt := 72) hx hb dX5_mark_48 (by decide) (fun c_70 => ?_) (fun c_70 => ?_)
        · exact absurd c_70 (by decide)
        · refine lv_iload hx hb dX5_mark_51 (lv_at hl 1 rfl) ?_
          refine lv_aload_n hx hb dX5_mark_53 rfl (lv_at hl 3 rfl) ?_
          refine va_get (D := D) (ci := 11) (v := .ref (a 60)) (C := RX5) (T := TX5) (N := 9) hx hb ht in_X5 hown hK.1 hP 0 rfl rfl 1 (by decide) (ht _ w_281) (fun _ h9 => h9) rfl dX5_mark_54 ?_
          refine lv_iload hx hb dX5_mark_57 (lv_at hl 0 rfl) ?_
          refine va_iald hx hb hK.1 hP 1 0 rfl rfl (by unfold vp_in; decide) dX5_mark_59 ?_
          refine r_topi (v := 0) rfl ?_
          have hPc : va_P D vwCl [] _ := hP.sub (ws' := []) [] rfl
          have hDc : va_D (fun q => z0 ≤ q) [] := (hD.to hAz).pick (ws' := []) [] (by decide) rfl
          have hFc := AnA (ws := [((a 9), f_memory a), ((a 60), .inl (g 0, 8, .inl (fun _ => 0)))]) hS.1
          refine va_calli (va_runS (As := [.int 0]) (rest := [.int 0]) ⟨hx, hb, hml, hown, ht⟩ (k_J6_bitCount_0f7a4 l D g z0 _ a) (va_cwS 1 ht (gS w_277 w_279 w_280 w_278) rfl rfl rfl (by decide +kernel) (le2 rfl rfl)) ⟨PP.blind, PP.mk' hK hZ hz hAz hS hPc hDc⟩ rfl rfl hl.1 rfl (lv_room (Nat.le_of_ble_eq_true rfl)) dX5_mark_60 (le2 rfl rfl)) hS (fun q _ h => hFc q h) hFc (fun r u t H locs ht1 hvm hw hB hz1 hk1 hS => ?_)
          obtain ⟨rfl, hw⟩ := hw
          have hP := ro1 hP hk1
          refine lv_iadd hx hb dX5_mark_63 ?_
          refine r_topi (v := 0) (by decide) ?_
          refine lv_istore (lv' := [(5, .int 0), (6, .int 1), (4, .int (1 <<< (p1 &&& 31))), (0, .ref (a 9)), (1, .int 3), (2, .int p1), (3, .int p2)]) hx hb dX5_mark_64 hl (by decide) rfl (fun ls hl => ?_)
          refine lv_iinc (v := 2) (lv' := [(6, .int 2), (5, .int 0), (4, .int (1 <<< (p1 &&& 31))), (0, .ref (a 9)), (1, .int 3), (2, .int p1), (3, .int p2)]) hx hb dX5_mark_66 hl (k := 1) rfl (by decide) (by decide) rfl (fun ls hl => ?_)
          refine lv_goto (tgt := 44) hx hb dX5_mark_69 (by decide) ?_
          refine lv_iload hx hb dX5_mark_44 (lv_at hl 0 rfl) ?_
          refine lv_bipush (v := 8) hx hb dX5_mark_46 (by decide) ?_
          refine lv_icmp_ge (tgt := 72) hx hb dX5_mark_48 (by decide) (fun c_71 => ?_) (fun c_71 => ?_)
          · exact absurd c_71 (by decide)
          · refine lv_iload hx hb dX5_mark_51 (lv_at hl 1 rfl) ?_
            refine lv_aload_n hx hb dX5_mark_53 rfl (lv_at hl 3 rfl) ?_
            refine va_get (D := D) (ci := 11) (v := .ref (a 60)) (C := RX5) (T := TX5) (N := 9) hx hb ht in_X5 hown hK.1 hP 0 rfl rfl 1 (by decide) (ht _ w_281) (fun _ h9 => h9) rfl dX5_mark_54 ?_
            refine lv_iload hx hb dX5_mark_57 (lv_at hl 0 rfl) ?_
            refine va_iald hx hb hK.1 hP 1 0 rfl rfl (by unfold vp_in; decide) dX5_mark_59 ?_
            refine r_topi (v := 0) rfl ?_
            have hPc : va_P D vwCl [] _ := hP.sub (ws' := []) [] rfl
            have hDc : va_D (fun q => z0 ≤ q) [] := (hD.to hAz).pick (ws' := []) [] (by decide) rfl
            have hFc := AnA (ws := [((a 9), f_memory a), ((a 60), .inl (g 0, 8, .inl (fun _ => 0)))]) hS.1
            refine va_calli (va_runS (As := [.int 0]) (rest := [.int 0]) ⟨hx, hb, hml, hown, ht⟩ (k_J6_bitCount_0f7a4 l D g z0 _ a) (va_cwS 1 ht (gS w_277 w_279 w_280 w_278) rfl rfl rfl (by decide +kernel) (le2 rfl rfl)) ⟨PP.blind, PP.mk' hK hZ hz hAz hS hPc hDc⟩ rfl rfl hl.1 rfl (lv_room (Nat.le_of_ble_eq_true rfl)) dX5_mark_60 (le2 rfl rfl)) hS (fun q _ h => hFc q h) hFc (fun r u t H locs ht1 hvm hw hB hz1 hk1 hS => ?_)
            obtain ⟨rfl, hw⟩ := hw
            have hP := ro1 hP hk1
            refine lv_iadd hx hb dX5_mark_63 ?_
            refine r_topi (v := 0) (by decide) ?_
            refine lv_istore (lv' := [(5, .int 0), (6, .int 2), (4, .int (1 <<< (p1 &&& 31))), (0, .ref (a 9)), (1, .int 3), (2, .int p1), (3, .int p2)]) hx hb dX5_mark_64 hl (by decide) rfl (fun ls hl => ?_)
            refine lv_iinc (v := 3) (lv' := [(6, .int 3), (5, .int 0), (4, .int (1 <<< (p1 &&& 31))), (0, .ref (a 9)), (1, .int 3), (2, .int p1), (3, .int p2)]) hx hb dX5_mark_66 hl (k := 1) rfl (by decide) (by decide) rfl (fun ls hl => ?_)
            refine lv_goto (tgt := 44) hx hb dX5_mark_69 (by decide) ?_
            refine lv_iload hx hb dX5_mark_44 (lv_at hl 0 rfl) ?_
            refine lv_bipush (v := 8) hx hb dX5_mark_46 (by decide) ?_
            refine lv_icmp_ge (tgt := 72) hx hb dX5_mark_48 (by decide) (fun c_72 => ?_) (fun c_72 => ?_)
            · exact absurd c_72 (by decide)
            · refine lv_iload hx hb dX5_mark_51 (lv_at hl 1 rfl) ?_
              refine lv_aload_n hx hb dX5_mark_53 rfl (lv_at hl 3 rfl) ?_
              refine va_get (D := D) (ci := 11) (v := .ref (a 60)) (C := RX5) (T := TX5) (N := 9) hx hb ht in_X5 hown hK.1 hP 0 rfl rfl 1 (by decide) (ht _ w_281) (fun _ h9 => h9) rfl dX5_mark_54 ?_
              refine lv_iload hx hb dX5_mark_57 (lv_at hl 0 rfl) ?_
              refine va_iald hx hb hK.1 hP 1 0 rfl rfl (by unfold vp_in; decide) dX5_mark_59 ?_
              refine r_topi (v := 1 <<< (p1 &&& 31)) rfl ?_
              have hPc : va_P D vwCl [] _ := hP.sub (ws' := []) [] rfl
              have hDc : va_D (fun q => z0 ≤ q) [] := (hD.to hAz).pick (ws' := []) [] (by decide) rfl
              have hFc := AnA (ws := [((a 9), f_memory a), ((a 60), .inl (g 0, 8, .inl (fun _ => 0)))]) hS.1
              refine va_calli (va_runS (As := [.int (1 <<< (p1 &&& 31))]) (rest := [.int 0]) ⟨hx, hb, hml, hown, ht⟩ (k_J6_bitCount_0f7a4_v1 l D g z0 _ a (1 <<< (p1 &&& 31))) (va_cwS 1 ht (gS w_277 w_279 w_280 w_278) rfl rfl rfl (by decide +kernel) (le2 rfl rfl)) ⟨PP.blind, PP.mk' hK hZ hz hAz hS hPc hDc⟩ rfl rfl hl.1 rfl (lv_room (Nat.le_of_ble_eq_true rfl)) dX5_mark_60 (le2 rfl rfl)) hS (fun q _ h => hFc q h) hFc (fun r u t H locs ht1 hvm hw hB hz1 hk1 hS => ?_)
              obtain ⟨rfl, hw⟩ := hw
              have hP := ro1 hP hk1
              refine r_topi (v := 1) (bit1 (lo_nlt hy2) (up_lt hy3)) ?_
              refine lv_iadd hx hb dX5_mark_63 ?_
              refine r_topi (v := 1) (by decide) ?_
              refine lv_istore (lv' := [(5, .int 1), (6, .int 3), (4, .int (1 <<< (p1 &&& 31))), (0, .ref (a 9)), (1, .int 3), (2, .int p1), (3, .int p2)]) hx hb dX5_mark_64 hl (by decide) rfl (fun ls hl => ?_)
              refine lv_iinc (v := 4) (lv' := [(6, .int 4), (5, .int 1), (4, .int (1 <<< (p1 &&& 31))), (0, .ref (a 9)), (1, .int 3), (2, .int p1), (3, .int p2)]) hx hb dX5_mark_66 hl (k := 1) rfl (by decide) (by decide) rfl (fun ls hl => ?_)
              refine lv_goto (tgt := 44) hx hb dX5_mark_69 (by decide) ?_
              refine lv_iload hx hb dX5_mark_44 (lv_at hl 0 rfl) ?_
              refine lv_bipush (v := 8) hx hb dX5_mark_46 (by decide) ?_
              refine lv_icmp_ge (tgt := 72) hx hb dX5_mark_48 (by decide) (fun c_73 => ?_) (fun c_73 => ?_)
              · exact absurd c_73 (by decide)
              · refine lv_iload hx hb dX5_mark_51 (lv_at hl 1 rfl) ?_
                refine lv_aload_n hx hb dX5_mark_53 rfl (lv_at hl 3 rfl) ?_
                refine va_get (D := D) (ci := 11) (v := .ref (a 60)) (C := RX5) (T := TX5) (N := 9) hx hb ht in_X5 hown hK.1 hP 0 rfl rfl 1 (by decide) (ht _ w_281) (fun _ h9 => h9) rfl dX5_mark_54 ?_
                refine lv_iload hx hb dX5_mark_57 (lv_at hl 0 rfl) ?_
                refine va_iald hx hb hK.1 hP 1 0 rfl rfl (by unfold vp_in; decide) dX5_mark_59 ?_
                refine r_topi (v := 0) rfl ?_
                have hPc : va_P D vwCl [] _ := hP.sub (ws' := []) [] rfl
                have hDc : va_D (fun q => z0 ≤ q) [] := (hD.to hAz).pick (ws' := []) [] (by decide) rfl
                have hFc := AnA (ws := [((a 9), f_memory a), ((a 60), .inl (g 0, 8, .inl (fun _ => 0)))]) hS.1
                refine va_calli (va_runS (As := [.int 0]) (rest := [.int 1]) ⟨hx, hb, hml, hown, ht⟩ (k_J6_bitCount_0f7a4 l D g z0 _ a) (va_cwS 1 ht (gS w_277 w_279 w_280 w_278) rfl rfl rfl (by decide +kernel) (le2 rfl rfl)) ⟨PP.blind, PP.mk' hK hZ hz hAz hS hPc hDc⟩ rfl rfl hl.1 rfl (lv_room (Nat.le_of_ble_eq_true rfl)) dX5_mark_60 (le2 rfl rfl)) hS (fun q _ h => hFc q h) hFc (fun r u t H locs ht1 hvm hw hB hz1 hk1 hS => ?_)
                obtain ⟨rfl, hw⟩ := hw
                have hP := ro1 hP hk1
                refine lv_iadd hx hb dX5_mark_63 ?_
                refine r_topi (v := 1) (by decide) ?_
                refine lv_istore (lv' := [(5, .int 1), (6, .int 4), (4, .int (1 <<< (p1 &&& 31))), (0, .ref (a 9)), (1, .int 3), (2, .int p1), (3, .int p2)]) hx hb dX5_mark_64 hl (by decide) rfl (fun ls hl => ?_)
                refine lv_iinc (v := 5) (lv' := [(6, .int 5), (5, .int 1), (4, .int (1 <<< (p1 &&& 31))), (0, .ref (a 9)), (1, .int 3), (2, .int p1), (3, .int p2)]) hx hb dX5_mark_66 hl (k := 1) rfl (by decide) (by decide) rfl (fun ls hl => ?_)
                refine lv_goto (tgt := 44) hx hb dX5_mark_69 (by decide) ?_
                refine lv_iload hx hb dX5_mark_44 (lv_at hl 0 rfl) ?_
                refine lv_bipush (v := 8) hx hb dX5_mark_46 (by decide) ?_
                refine lv_icmp_ge (tgt := 72) hx hb dX5_mark_48 (by decide) (fun c_74 => ?_) (fun c_74 => ?_)
                · exact absurd c_74 (by decide)
                · refine lv_iload hx hb dX5_mark_51 (lv_at hl 1 rfl) ?_
                  refine lv_aload_n hx hb dX5_mark_53 rfl (lv_at hl 3 rfl) ?_
                  refine va_get (D := D) (ci := 11) (v := .ref (a 60)) (C := RX5) (T := TX5) (N := 9) hx hb ht in_X5 hown hK.1 hP 0 rfl rfl 1 (by decide) (ht _ w_281) (fun _ h9 => h9) rfl dX5_mark_54 ?_
                  refine lv_iload hx hb dX5_mark_57 (lv_at hl 0 rfl) ?_
                  refine va_iald hx hb hK.1 hP 1 0 rfl rfl (by unfold vp_in; decide) dX5_mark_59 ?_
                  refine r_topi (v := 0) rfl ?_
                  have hPc : va_P D vwCl [] _ := hP.sub (ws' := []) [] rfl
                  have hDc : va_D (fun q => z0 ≤ q) [] := (hD.to hAz).pick (ws' := []) [] (by decide) rfl
                  have hFc := AnA (ws := [((a 9), f_memory a), ((a 60), .inl (g 0, 8, .inl (fun _ => 0)))]) hS.1
                  refine va_calli (va_runS (As := [.int 0]) (rest := [.int 1]) ⟨hx, hb, hml, hown, ht⟩ (k_J6_bitCount_0f7a4 l D g z0 _ a) (va_cwS 1 ht (gS w_277 w_279 w_280 w_278) rfl rfl rfl (by decide +kernel) (le2 rfl rfl)) ⟨PP.blind, PP.mk' hK hZ hz hAz hS hPc hDc⟩ rfl rfl hl.1 rfl (lv_room (Nat.le_of_ble_eq_true rfl)) dX5_mark_60 (le2 rfl rfl)) hS (fun q _ h => hFc q h) hFc (fun r u t H locs ht1 hvm hw hB hz1 hk1 hS => ?_)
                  obtain ⟨rfl, hw⟩ := hw
                  have hP := ro1 hP hk1
                  refine lv_iadd hx hb dX5_mark_63 ?_
                  refine r_topi (v := 1) (by decide) ?_
                  refine lv_istore (lv' := [(5, .int 1), (6, .int 5), (4, .int (1 <<< (p1 &&& 31))), (0, .ref (a 9)), (1, .int 3), (2, .int p1), (3, .int p2)]) hx hb dX5_mark_64 hl (by decide) rfl (fun ls hl => ?_)
                  refine lv_iinc (v := 6) (lv' := [(6, .int 6), (5, .int 1), (4, .int (1 <<< (p1 &&& 31))), (0, .ref (a 9)), (1, .int 3), (2, .int p1), (3, .int p2)]) hx hb dX5_mark_66 hl (k := 1) rfl (by decide) (by decide) rfl (fun ls hl => ?_)
                  refine lv_goto (tgt := 44) hx hb dX5_mark_69 (by decide) ?_
                  refine lv_iload hx hb dX5_mark_44 (lv_at hl 0 rfl) ?_
                  refine lv_bipush (v := 8) hx hb dX5_mark_46 (by decide) ?_
                  refine lv_icmp_ge (tgt := 72) hx hb dX5_mark_48 (by decide) (fun c_75 => ?_) (fun c_75 => ?_)
                  · exact absurd c_75 (by decide)
                  · refine lv_iload hx hb dX5_mark_51 (lv_at hl 1 rfl) ?_
                    refine lv_aload_n hx hb dX5_mark_53 rfl (lv_at hl 3 rfl) ?_
                    refine va_get (D := D) (ci := 11) (v := .ref (a 60)) (C := RX5) (T := TX5) (N := 9) hx hb ht in_X5 hown hK.1 hP 0 rfl rfl 1 (by decide) (ht _ w_281) (fun _ h9 => h9) rfl dX5_mark_54 ?_
                    refine lv_iload hx hb dX5_mark_57 (lv_at hl 0 rfl) ?_
                    refine va_iald hx hb hK.1 hP 1 0 rfl rfl (by unfold vp_in; decide) dX5_mark_59 ?_
                    refine r_topi (v := 0) rfl ?_
                    have hPc : va_P D vwCl [] _ := hP.sub (ws' := []) [] rfl
                    have hDc : va_D (fun q => z0 ≤ q) [] := (hD.to hAz).pick (ws' := []) [] (by decide) rfl
                    have hFc := AnA (ws := [((a 9), f_memory a), ((a 60), .inl (g 0, 8, .inl (fun _ => 0)))]) hS.1
                    refine va_calli (va_runS (As := [.int 0]) (rest := [.int 1]) ⟨hx, hb, hml, hown, ht⟩ (k_J6_bitCount_0f7a4 l D g z0 _ a) (va_cwS 1 ht (gS w_277 w_279 w_280 w_278) rfl rfl rfl (by decide +kernel) (le2 rfl rfl)) ⟨PP.blind, PP.mk' hK hZ hz hAz hS hPc hDc⟩ rfl rfl hl.1 rfl (lv_room (Nat.le_of_ble_eq_true rfl)) dX5_mark_60 (le2 rfl rfl)) hS (fun q _ h => hFc q h) hFc (fun r u t H locs ht1 hvm hw hB hz1 hk1 hS => ?_)
                    obtain ⟨rfl, hw⟩ := hw
                    have hP := ro1 hP hk1
                    refine lv_iadd hx hb dX5_mark_63 ?_
                    refine r_topi (v := 1) (by decide) ?_
                    refine lv_istore (lv' := [(5, .int 1), (6, .int 6), (4, .int (1 <<< (p1 &&& 31))), (0, .ref (a 9)), (1, .int 3), (2, .int p1), (3, .int p2)]) hx hb dX5_mark_64 hl (by decide) rfl (fun ls hl => ?_)
                    refine lv_iinc (v := 7) (lv' := [(6, .int 7), (5, .int 1), (4, .int (1 <<< (p1 &&& 31))), (0, .ref (a 9)), (1, .int 3), (2, .int p1), (3, .int p2)]) hx hb dX5_mark_66 hl (k := 1) rfl (by decide) (by decide) rfl (fun ls hl => ?_)
                    refine lv_goto (tgt := 44) hx hb dX5_mark_69 (by decide) ?_
                    refine lv_iload hx hb dX5_mark_44 (lv_at hl 0 rfl) ?_
                    refine lv_bipush (v := 8) hx hb dX5_mark_46 (by decide) ?_
                    refine lv_icmp_ge (tgt := 72) hx hb dX5_mark_48 (by decide) (fun c_76 => ?_) (fun c_76 => ?_)
                    · exact absurd c_76 (by decide)
                    · refine lv_iload hx hb dX5_mark_51 (lv_at hl 1 rfl) ?_
                      refine lv_aload_n hx hb dX5_mark_53 rfl (lv_at hl 3 rfl) ?_
                      refine va_get (D := D) (ci := 11) (v := .ref (a 60)) (C := RX5) (T := TX5) (N := 9) hx hb ht in_X5 hown hK.1 hP 0 rfl rfl 1 (by decide) (ht _ w_281) (fun _ h9 => h9) rfl dX5_mark_54 ?_
                      refine lv_iload hx hb dX5_mark_57 (lv_at hl 0 rfl) ?_
                      refine va_iald hx hb hK.1 hP 1 0 rfl rfl (by unfold vp_in; decide) dX5_mark_59 ?_
                      refine r_topi (v := 0) rfl ?_
                      have hPc : va_P D vwCl [] _ := hP.sub (ws' := []) [] rfl
                      have hDc : va_D (fun q => z0 ≤ q) [] := (hD.to hAz).pick (ws' := []) [] (by decide) rfl
                      have hFc := AnA (ws := [((a 9), f_memory a), ((a 60), .inl (g 0, 8, .inl (fun _ => 0)))]) hS.1
                      refine va_calli (va_runS (As := [.int 0]) (rest := [.int 1]) ⟨hx, hb, hml, hown, ht⟩ (k_J6_bitCount_0f7a4 l D g z0 _ a) (va_cwS 1 ht (gS w_277 w_279 w_280 w_278) rfl rfl rfl (by decide +kernel) (le2 rfl rfl)) ⟨PP.blind, PP.mk' hK hZ hz hAz hS hPc hDc⟩ rfl rfl hl.1 rfl (lv_room (Nat.le_of_ble_eq_true rfl)) dX5_mark_60 (le2 rfl rfl)) hS (fun q _ h => hFc q h) hFc (fun r u t H locs ht1 hvm hw hB hz1 hk1 hS => ?_)
                      obtain ⟨rfl, hw⟩ := hw
                      have hP := ro1 hP hk1
                      refine lv_iadd hx hb dX5_mark_63 ?_
                      refine r_topi (v := 1) (by decide) ?_
                      refine lv_istore (lv' := [(5, .int 1), (6, .int 7), (4, .int (1 <<< (p1 &&& 31))), (0, .ref (a 9)), (1, .int 3), (2, .int p1), (3, .int p2)]) hx hb dX5_mark_64 hl (by decide) rfl (fun ls hl => ?_)
                      refine lv_iinc (v := 8) (lv' := [(6, .int 8), (5, .int 1), (4, .int (1 <<< (p1 &&& 31))), (0, .ref (a 9)), (1, .int 3), (2, .int p1), (3, .int p2)]) hx hb dX5_mark_66 hl (k := 1) rfl (by decide) (by decide) rfl (fun ls hl => ?_)
                      refine lv_goto (tgt := 44) hx hb dX5_mark_69 (by decide) ?_
                      refine lv_iload hx hb dX5_mark_44 (lv_at hl 0 rfl) ?_
                      refine lv_bipush (v := 8) hx hb dX5_mark_46 (by decide) ?_
                      refine lv_icmp_ge (tgt := 72) hx hb dX5_mark_48 (by decide) (fun c_77 => ?_) (fun c_77 => ?_)
                      · refine lv_iload hx hb dX5_mark_72 (lv_at hl 1 rfl) ?_
                        have hP9 := hP.sub (ws' := []) [] rfl
                        have hD9 := hD.sub (ws' := []) [] (by decide) rfl
                        refine W.widen (k := 0) (n := 0) (Nat.le_of_ble_eq_true rfl) (Nat.le_of_ble_eq_true rfl) ?_
                        exact W.iret (v := 1) hx hb hr (fun t ht9 hW9 => ⟨⟨1, (), rfl, (Or.inr ⟨rfl, c_59⟩), ⟨(by rw [ht9]; exact hP9), hD9⟩⟩, hS.F ht9⟩) hS.2.2 dX5_mark_74 hlocks
                      · exact absurd c_77 (by decide)
  · subst e_1
    have hl : lv_has ls 7 [(4, .int (1 <<< (p1 &&& 31))), (0, .ref (a 9)), (1, .int 4), (2, .int p1), (3, .int p2)] := hl
    refine lv_aload_n hx hb dX5_mark_5 rfl (lv_at hl 1 rfl) ?_
    refine va_get (D := D) (ci := 11) (v := .ref (a 60)) (C := RX5) (T := TX5) (N := 9) hx hb ht in_X5 hown hK.1 hP 0 rfl rfl 1 (by decide) (ht _ w_281) (fun _ h9 => h9) rfl dX5_mark_6 ?_
    refine lv_iload_n hx hb dX5_mark_9 rfl (lv_at hl 2 rfl) ?_
    refine lv_iload_n hx hb dX5_mark_10 rfl (lv_at hl 4 rfl) ?_
    refine lv_if_eq (tgt := 26) hx hb dX5_mark_11 (by decide) (fun c_78 => ?_) (fun c_78 => ?_)
    · refine lv_aload_n hx hb dX5_mark_26 rfl (lv_at hl 1 rfl) ?_
      refine va_get (D := D) (ci := 11) (v := .ref (a 60)) (C := RX5) (T := TX5) (N := 9) hx hb ht in_X5 hown hK.1 hP 0 rfl rfl 1 (by decide) (ht _ w_281) (fun _ h9 => h9) rfl dX5_mark_27 ?_
      refine lv_iload_n hx hb dX5_mark_30 rfl (lv_at hl 2 rfl) ?_
      refine va_iald hx hb hK.1 hP 1 0 rfl rfl (by unfold vp_in; decide) dX5_mark_31 ?_
      refine r_topi (v := 0) rfl ?_
      refine lv_iload hx hb dX5_mark_32 (lv_at hl 0 rfl) ?_
      refine lv_iconst (v := (-1)) hx hb dX5_mark_34 (by decide) ?_
      refine lv_ixor hx hb dX5_mark_35 ?_
      refine lv_iand hx hb dX5_mark_36 ?_
      refine r_topi (v := 0) (z_and _) ?_
      refine va_iast hx hb hK.1 hP hD hS 1 0 rfl rfl (by unfold vp_in; decide) dX5_mark_37 (fun H locs hP hD hS => ?_)
      have hP : va_P D vwCl [((a 9), f_memory a), ((a 60), .inl (g 0, 8, .inl (upd (fun _ => 0) (4 : Int32).toNatClampNeg 0)))] H := hP
      have hD : va_D (va_A [((a 9), f_memory a), ((a 60), .inl (g 0, 8, .inl (fun _ => 0)))] s.heap.size) [((a 9), f_memory a), ((a 60), .inl (g 0, 8, .inl (upd (fun _ => 0) (4 : Int32).toNatClampNeg 0)))] := hD
      refine lv_iconst (v := 0) hx hb dX5_mark_38 (by decide) ?_
      refine lv_istore (lv' := [(5, .int 0), (4, .int (1 <<< (p1 &&& 31))), (0, .ref (a 9)), (1, .int 4), (2, .int p1), (3, .int p2)]) hx hb dX5_mark_39 hl (by decide) rfl (fun ls hl => ?_)
      refine lv_iconst (v := 0) hx hb dX5_mark_41 (by decide) ?_
      refine lv_istore (lv' := [(6, .int 0), (5, .int 0), (4, .int (1 <<< (p1 &&& 31))), (0, .ref (a 9)), (1, .int 4), (2, .int p1), (3, .int p2)]) hx hb dX5_mark_42 hl (by decide) rfl (fun ls hl => ?_)
      refine lv_iload hx hb dX5_mark_44 (lv_at hl 0 rfl) ?_
      refine lv_bipush (v := 8) hx hb dX5_mark_46 (by decide) ?_
      refine lv_icmp_ge (tgt := 72) hx hb dX5_mark_48 (by decide) (fun c_79 => ?_) (fun c_79 => ?_)
      · exact absurd c_79 (by decide)
      · refine lv_iload hx hb dX5_mark_51 (lv_at hl 1 rfl) ?_
        refine lv_aload_n hx hb dX5_mark_53 rfl (lv_at hl 3 rfl) ?_
        refine va_get (D := D) (ci := 11) (v := .ref (a 60)) (C := RX5) (T := TX5) (N := 9) hx hb ht in_X5 hown hK.1 hP 0 rfl rfl 1 (by decide) (ht _ w_281) (fun _ h9 => h9) rfl dX5_mark_54 ?_
        refine lv_iload hx hb dX5_mark_57 (lv_at hl 0 rfl) ?_
        refine va_iald hx hb hK.1 hP 1 0 rfl rfl (by unfold vp_in; decide) dX5_mark_59 ?_
        refine r_topi (v := 0) rfl ?_
        have hPc : va_P D vwCl [] _ := hP.sub (ws' := []) [] rfl
        have hDc : va_D (fun q => z0 ≤ q) [] := (hD.to hAz).pick (ws' := []) [] (by decide) rfl
        have hFc := AnA (ws := [((a 9), f_memory a), ((a 60), .inl (g 0, 8, .inl (fun _ => 0)))]) hS.1
        refine va_calli (va_runS (As := [.int 0]) (rest := [.int 0]) ⟨hx, hb, hml, hown, ht⟩ (k_J6_bitCount_0f7a4 l D g z0 _ a) (va_cwS 1 ht (gS w_277 w_279 w_280 w_278) rfl rfl rfl (by decide +kernel) (le2 rfl rfl)) ⟨PP.blind, PP.mk' hK hZ hz hAz hS hPc hDc⟩ rfl rfl hl.1 rfl (lv_room (Nat.le_of_ble_eq_true rfl)) dX5_mark_60 (le2 rfl rfl)) hS (fun q _ h => hFc q h) hFc (fun r u t H locs ht1 hvm hw hB hz1 hk1 hS => ?_)
        obtain ⟨rfl, hw⟩ := hw
        have hP := ro1 hP hk1
        refine lv_iadd hx hb dX5_mark_63 ?_
        refine r_topi (v := 0) (by decide) ?_
        refine lv_istore (lv' := [(5, .int 0), (6, .int 0), (4, .int (1 <<< (p1 &&& 31))), (0, .ref (a 9)), (1, .int 4), (2, .int p1), (3, .int p2)]) hx hb dX5_mark_64 hl (by decide) rfl (fun ls hl => ?_)
        refine lv_iinc (v := 1) (lv' := [(6, .int 1), (5, .int 0), (4, .int (1 <<< (p1 &&& 31))), (0, .ref (a 9)), (1, .int 4), (2, .int p1), (3, .int p2)]) hx hb dX5_mark_66 hl (k := 1) rfl (by decide) (by decide) rfl (fun ls hl => ?_)
        refine lv_goto (tgt := 44) hx hb dX5_mark_69 (by decide) ?_
        refine lv_iload hx hb dX5_mark_44 (lv_at hl 0 rfl) ?_
        refine lv_bipush (v := 8) hx hb dX5_mark_46 (by decide) ?_
        refine lv_icmp_ge (tgt := 72) hx hb dX5_mark_48 (by decide) (fun c_80 => ?_) (fun c_80 => ?_)
        · exact absurd c_80 (by decide)
        · refine lv_iload hx hb dX5_mark_51 (lv_at hl 1 rfl) ?_
          refine lv_aload_n hx hb dX5_mark_53 rfl (lv_at hl 3 rfl) ?_
          refine va_get (D := D) (ci := 11) (v := .ref (a 60)) (C := RX5) (T := TX5) (N := 9) hx hb ht in_X5 hown hK.1 hP 0 rfl rfl 1 (by decide) (ht _ w_281) (fun _ h9 => h9) rfl dX5_mark_54 ?_
          refine lv_iload hx hb dX5_mark_57 (lv_at hl 0 rfl) ?_
          refine va_iald hx hb hK.1 hP 1 0 rfl rfl (by unfold vp_in; decide) dX5_mark_59 ?_
          refine r_topi (v := 0) rfl ?_
          have hPc : va_P D vwCl [] _ := hP.sub (ws' := []) [] rfl
          have hDc : va_D (fun q => z0 ≤ q) [] := (hD.to hAz).pick (ws' := []) [] (by decide) rfl
          have hFc := AnA (ws := [((a 9), f_memory a), ((a 60), .inl (g 0, 8, .inl (fun _ => 0)))]) hS.1
          refine va_calli (va_runS (As := [.int 0]) (rest := [.int 0]) ⟨hx, hb, hml, hown, ht⟩ (k_J6_bitCount_0f7a4 l D g z0 _ a) (va_cwS 1 ht (gS w_277 w_279 w_280 w_278) rfl rfl rfl (by decide +kernel) (le2 rfl rfl)) ⟨PP.blind, PP.mk' hK hZ hz hAz hS hPc hDc⟩ rfl rfl hl.1 rfl (lv_room (Nat.le_of_ble_eq_true rfl)) dX5_mark_60 (le2 rfl rfl)) hS (fun q _ h => hFc q h) hFc (fun r u t H locs ht1 hvm hw hB hz1 hk1 hS => ?_)
          obtain ⟨rfl, hw⟩ := hw
          have hP := ro1 hP hk1
          refine lv_iadd hx hb dX5_mark_63 ?_
          refine r_topi (v := 0) (by decide) ?_
          refine lv_istore (lv' := [(5, .int 0), (6, .int 1), (4, .int (1 <<< (p1 &&& 31))), (0, .ref (a 9)), (1, .int 4), (2, .int p1), (3, .int p2)]) hx hb dX5_mark_64 hl (by decide) rfl (fun ls hl => ?_)
          refine lv_iinc (v := 2) (lv' := [(6, .int 2), (5, .int 0), (4, .int (1 <<< (p1 &&& 31))), (0, .ref (a 9)), (1, .int 4), (2, .int p1), (3, .int p2)]) hx hb dX5_mark_66 hl (k := 1) rfl (by decide) (by decide) rfl (fun ls hl => ?_)
          refine lv_goto (tgt := 44) hx hb dX5_mark_69 (by decide) ?_
          refine lv_iload hx hb dX5_mark_44 (lv_at hl 0 rfl) ?_
          refine lv_bipush (v := 8) hx hb dX5_mark_46 (by decide) ?_
          refine lv_icmp_ge (tgt := 72) hx hb dX5_mark_48 (by decide) (fun c_81 => ?_) (fun c_81 => ?_)
          · exact absurd c_81 (by decide)
          · refine lv_iload hx hb dX5_mark_51 (lv_at hl 1 rfl) ?_
            refine lv_aload_n hx hb dX5_mark_53 rfl (lv_at hl 3 rfl) ?_
            refine va_get (D := D) (ci := 11) (v := .ref (a 60)) (C := RX5) (T := TX5) (N := 9) hx hb ht in_X5 hown hK.1 hP 0 rfl rfl 1 (by decide) (ht _ w_281) (fun _ h9 => h9) rfl dX5_mark_54 ?_
            refine lv_iload hx hb dX5_mark_57 (lv_at hl 0 rfl) ?_
            refine va_iald hx hb hK.1 hP 1 0 rfl rfl (by unfold vp_in; decide) dX5_mark_59 ?_
            refine r_topi (v := 0) rfl ?_
            have hPc : va_P D vwCl [] _ := hP.sub (ws' := []) [] rfl
            have hDc : va_D (fun q => z0 ≤ q) [] := (hD.to hAz).pick (ws' := []) [] (by decide) rfl
            have hFc := AnA (ws := [((a 9), f_memory a), ((a 60), .inl (g 0, 8, .inl (fun _ => 0)))]) hS.1
            refine va_calli (va_runS (As := [.int 0]) (rest := [.int 0]) ⟨hx, hb, hml, hown, ht⟩ (k_J6_bitCount_0f7a4 l D g z0 _ a) (va_cwS 1 ht (gS w_277 w_279 w_280 w_278) rfl rfl rfl (by decide +kernel) (le2 rfl rfl)) ⟨PP.blind, PP.mk' hK hZ hz hAz hS hPc hDc⟩ rfl rfl hl.1 rfl (lv_room (Nat.le_of_ble_eq_true rfl)) dX5_mark_60 (le2 rfl rfl)) hS (fun q _ h => hFc q h) hFc (fun r u t H locs ht1 hvm hw hB hz1 hk1 hS => ?_)
            obtain ⟨rfl, hw⟩ := hw
            have hP := ro1 hP hk1
            refine lv_iadd hx hb dX5_mark_63 ?_
            refine r_topi (v := 0) (by decide) ?_
            refine lv_istore (lv' := [(5, .int 0), (6, .int 2), (4, .int (1 <<< (p1 &&& 31))), (0, .ref (a 9)), (1, .int 4), (2, .int p1), (3, .int p2)]) hx hb dX5_mark_64 hl (by decide) rfl (fun ls hl => ?_)
            refine lv_iinc (v := 3) (lv' := [(6, .int 3), (5, .int 0), (4, .int (1 <<< (p1 &&& 31))), (0, .ref (a 9)), (1, .int 4), (2, .int p1), (3, .int p2)]) hx hb dX5_mark_66 hl (k := 1) rfl (by decide) (by decide) rfl (fun ls hl => ?_)
            refine lv_goto (tgt := 44) hx hb dX5_mark_69 (by decide) ?_
            refine lv_iload hx hb dX5_mark_44 (lv_at hl 0 rfl) ?_
            refine lv_bipush (v := 8) hx hb dX5_mark_46 (by decide) ?_
            refine lv_icmp_ge (tgt := 72) hx hb dX5_mark_48 (by decide) (fun c_82 => ?_) (fun c_82 => ?_)
            · exact absurd c_82 (by decide)
            · refine lv_iload hx hb dX5_mark_51 (lv_at hl 1 rfl) ?_
              refine lv_aload_n hx hb dX5_mark_53 rfl (lv_at hl 3 rfl) ?_
              refine va_get (D := D) (ci := 11) (v := .ref (a 60)) (C := RX5) (T := TX5) (N := 9) hx hb ht in_X5 hown hK.1 hP 0 rfl rfl 1 (by decide) (ht _ w_281) (fun _ h9 => h9) rfl dX5_mark_54 ?_
              refine lv_iload hx hb dX5_mark_57 (lv_at hl 0 rfl) ?_
              refine va_iald hx hb hK.1 hP 1 0 rfl rfl (by unfold vp_in; decide) dX5_mark_59 ?_
              refine r_topi (v := 0) rfl ?_
              have hPc : va_P D vwCl [] _ := hP.sub (ws' := []) [] rfl
              have hDc : va_D (fun q => z0 ≤ q) [] := (hD.to hAz).pick (ws' := []) [] (by decide) rfl
              have hFc := AnA (ws := [((a 9), f_memory a), ((a 60), .inl (g 0, 8, .inl (fun _ => 0)))]) hS.1
              refine va_calli (va_runS (As := [.int 0]) (rest := [.int 0]) ⟨hx, hb, hml, hown, ht⟩ (k_J6_bitCount_0f7a4 l D g z0 _ a) (va_cwS 1 ht (gS w_277 w_279 w_280 w_278) rfl rfl rfl (by decide +kernel) (le2 rfl rfl)) ⟨PP.blind, PP.mk' hK hZ hz hAz hS hPc hDc⟩ rfl rfl hl.1 rfl (lv_room (Nat.le_of_ble_eq_true rfl)) dX5_mark_60 (le2 rfl rfl)) hS (fun q _ h => hFc q h) hFc (fun r u t H locs ht1 hvm hw hB hz1 hk1 hS => ?_)
              obtain ⟨rfl, hw⟩ := hw
              have hP := ro1 hP hk1
              refine lv_iadd hx hb dX5_mark_63 ?_
              refine r_topi (v := 0) (by decide) ?_
              refine lv_istore (lv' := [(5, .int 0), (6, .int 3), (4, .int (1 <<< (p1 &&& 31))), (0, .ref (a 9)), (1, .int 4), (2, .int p1), (3, .int p2)]) hx hb dX5_mark_64 hl (by decide) rfl (fun ls hl => ?_)
              refine lv_iinc (v := 4) (lv' := [(6, .int 4), (5, .int 0), (4, .int (1 <<< (p1 &&& 31))), (0, .ref (a 9)), (1, .int 4), (2, .int p1), (3, .int p2)]) hx hb dX5_mark_66 hl (k := 1) rfl (by decide) (by decide) rfl (fun ls hl => ?_)
              refine lv_goto (tgt := 44) hx hb dX5_mark_69 (by decide) ?_
              refine lv_iload hx hb dX5_mark_44 (lv_at hl 0 rfl) ?_
              refine lv_bipush (v := 8) hx hb dX5_mark_46 (by decide) ?_
              refine lv_icmp_ge (tgt := 72) hx hb dX5_mark_48 (by decide) (fun c_83 => ?_) (fun c_83 => ?_)
              · exact absurd c_83 (by decide)
              · refine lv_iload hx hb dX5_mark_51 (lv_at hl 1 rfl) ?_
                refine lv_aload_n hx hb dX5_mark_53 rfl (lv_at hl 3 rfl) ?_
                refine va_get (D := D) (ci := 11) (v := .ref (a 60)) (C := RX5) (T := TX5) (N := 9) hx hb ht in_X5 hown hK.1 hP 0 rfl rfl 1 (by decide) (ht _ w_281) (fun _ h9 => h9) rfl dX5_mark_54 ?_
                refine lv_iload hx hb dX5_mark_57 (lv_at hl 0 rfl) ?_
                refine va_iald hx hb hK.1 hP 1 0 rfl rfl (by unfold vp_in; decide) dX5_mark_59 ?_
                refine r_topi (v := 0) rfl ?_
                have hPc : va_P D vwCl [] _ := hP.sub (ws' := []) [] rfl
                have hDc : va_D (fun q => z0 ≤ q) [] := (hD.to hAz).pick (ws' := []) [] (by decide) rfl
                have hFc := AnA (ws := [((a 9), f_memory a), ((a 60), .inl (g 0, 8, .inl (fun _ => 0)))]) hS.1
                refine va_calli (va_runS (As := [.int 0]) (rest := [.int 0]) ⟨hx, hb, hml, hown, ht⟩ (k_J6_bitCount_0f7a4 l D g z0 _ a) (va_cwS 1 ht (gS w_277 w_279 w_280 w_278) rfl rfl rfl (by decide +kernel) (le2 rfl rfl)) ⟨PP.blind, PP.mk' hK hZ hz hAz hS hPc hDc⟩ rfl rfl hl.1 rfl (lv_room (Nat.le_of_ble_eq_true rfl)) dX5_mark_60 (le2 rfl rfl)) hS (fun q _ h => hFc q h) hFc (fun r u t H locs ht1 hvm hw hB hz1 hk1 hS => ?_)
                obtain ⟨rfl, hw⟩ := hw
                have hP := ro1 hP hk1
                refine lv_iadd hx hb dX5_mark_63 ?_
                refine r_topi (v := 0) (by decide) ?_
                refine lv_istore (lv' := [(5, .int 0), (6, .int 4), (4, .int (1 <<< (p1 &&& 31))), (0, .ref (a 9)), (1, .int 4), (2, .int p1), (3, .int p2)]) hx hb dX5_mark_64 hl (by decide) rfl (fun ls hl => ?_)
                refine lv_iinc (v := 5) (lv' := [(6, .int 5), (5, .int 0), (4, .int (1 <<< (p1 &&& 31))), (0, .ref (a 9)), (1, .int 4), (2, .int p1), (3, .int p2)]) hx hb dX5_mark_66 hl (k := 1) rfl (by decide) (by decide) rfl (fun ls hl => ?_)
                refine lv_goto (tgt := 44) hx hb dX5_mark_69 (by decide) ?_
                refine lv_iload hx hb dX5_mark_44 (lv_at hl 0 rfl) ?_
                refine lv_bipush (v := 8) hx hb dX5_mark_46 (by decide) ?_
                refine lv_icmp_ge (tgt := 72) hx hb dX5_mark_48 (by decide) (fun c_84 => ?_) (fun c_84 => ?_)
                · exact absurd c_84 (by decide)
                · refine lv_iload hx hb dX5_mark_51 (lv_at hl 1 rfl) ?_
                  refine lv_aload_n hx hb dX5_mark_53 rfl (lv_at hl 3 rfl) ?_
                  refine va_get (D := D) (ci := 11) (v := .ref (a 60)) (C := RX5) (T := TX5) (N := 9) hx hb ht in_X5 hown hK.1 hP 0 rfl rfl 1 (by decide) (ht _ w_281) (fun _ h9 => h9) rfl dX5_mark_54 ?_
                  refine lv_iload hx hb dX5_mark_57 (lv_at hl 0 rfl) ?_
                  refine va_iald hx hb hK.1 hP 1 0 rfl rfl (by unfold vp_in; decide) dX5_mark_59 ?_
                  refine r_topi (v := 0) rfl ?_
                  have hPc : va_P D vwCl [] _ := hP.sub (ws' := []) [] rfl
                  have hDc : va_D (fun q => z0 ≤ q) [] := (hD.to hAz).pick (ws' := []) [] (by decide) rfl
                  have hFc := AnA (ws := [((a 9), f_memory a), ((a 60), .inl (g 0, 8, .inl (fun _ => 0)))]) hS.1
                  refine va_calli (va_runS (As := [.int 0]) (rest := [.int 0]) ⟨hx, hb, hml, hown, ht⟩ (k_J6_bitCount_0f7a4 l D g z0 _ a) (va_cwS 1 ht (gS w_277 w_279 w_280 w_278) rfl rfl rfl (by decide +kernel) (le2 rfl rfl)) ⟨PP.blind, PP.mk' hK hZ hz hAz hS hPc hDc⟩ rfl rfl hl.1 rfl (lv_room (Nat.le_of_ble_eq_true rfl)) dX5_mark_60 (le2 rfl rfl)) hS (fun q _ h => hFc q h) hFc (fun r u t H locs ht1 hvm hw hB hz1 hk1 hS => ?_)
                  obtain ⟨rfl, hw⟩ := hw
                  have hP := ro1 hP hk1
                  refine lv_iadd hx hb dX5_mark_63 ?_
                  refine r_topi (v := 0) (by decide) ?_
                  refine lv_istore (lv' := [(5, .int 0), (6, .int 5), (4, .int (1 <<< (p1 &&& 31))), (0, .ref (a 9)), (1, .int 4), (2, .int p1), (3, .int p2)]) hx hb dX5_mark_64 hl (by decide) rfl (fun ls hl => ?_)
                  refine lv_iinc (v := 6) (lv' := [(6, .int 6), (5, .int 0), (4, .int (1 <<< (p1 &&& 31))), (0, .ref (a 9)), (1, .int 4), (2, .int p1), (3, .int p2)]) hx hb dX5_mark_66 hl (k := 1) rfl (by decide) (by decide) rfl (fun ls hl => ?_)
                  refine lv_goto (tgt := 44) hx hb dX5_mark_69 (by decide) ?_
                  refine lv_iload hx hb dX5_mark_44 (lv_at hl 0 rfl) ?_
                  refine lv_bipush (v := 8) hx hb dX5_mark_46 (by decide) ?_
                  refine lv_icmp_ge (tgt := 72) hx hb dX5_mark_48 (by decide) (fun c_85 => ?_) (fun c_85 => ?_)
                  · exact absurd c_85 (by decide)
                  · refine lv_iload hx hb dX5_mark_51 (lv_at hl 1 rfl) ?_
                    refine lv_aload_n hx hb dX5_mark_53 rfl (lv_at hl 3 rfl) ?_
                    refine va_get (D := D) (ci := 11) (v := .ref (a 60)) (C := RX5) (T := TX5) (N := 9) hx hb ht in_X5 hown hK.1 hP 0 rfl rfl 1 (by decide) (ht _ w_281) (fun _ h9 => h9) rfl dX5_mark_54 ?_
                    refine lv_iload hx hb dX5_mark_57 (lv_at hl 0 rfl) ?_
                    refine va_iald hx hb hK.1 hP 1 0 rfl rfl (by unfold vp_in; decide) dX5_mark_59 ?_
                    refine r_topi (v := 0) rfl ?_
                    have hPc : va_P D vwCl [] _ := hP.sub (ws' := []) [] rfl
                    have hDc : va_D (fun q => z0 ≤ q) [] := (hD.to hAz).pick (ws' := []) [] (by decide) rfl
                    have hFc := AnA (ws := [((a 9), f_memory a), ((a 60), .inl (g 0, 8, .inl (fun _ => 0)))]) hS.1
                    refine va_calli (va_runS (As := [.int 0]) (rest := [.int 0]) ⟨hx, hb, hml, hown, ht⟩ (k_J6_bitCount_0f7a4 l D g z0 _ a) (va_cwS 1 ht (gS w_277 w_279 w_280 w_278) rfl rfl rfl (by decide +kernel) (le2 rfl rfl)) ⟨PP.blind, PP.mk' hK hZ hz hAz hS hPc hDc⟩ rfl rfl hl.1 rfl (lv_room (Nat.le_of_ble_eq_true rfl)) dX5_mark_60 (le2 rfl rfl)) hS (fun q _ h => hFc q h) hFc (fun r u t H locs ht1 hvm hw hB hz1 hk1 hS => ?_)
                    obtain ⟨rfl, hw⟩ := hw
                    have hP := ro1 hP hk1
                    refine lv_iadd hx hb dX5_mark_63 ?_
                    refine r_topi (v := 0) (by decide) ?_
                    refine lv_istore (lv' := [(5, .int 0), (6, .int 6), (4, .int (1 <<< (p1 &&& 31))), (0, .ref (a 9)), (1, .int 4), (2, .int p1), (3, .int p2)]) hx hb dX5_mark_64 hl (by decide) rfl (fun ls hl => ?_)
                    refine lv_iinc (v := 7) (lv' := [(6, .int 7), (5, .int 0), (4, .int (1 <<< (p1 &&& 31))), (0, .ref (a 9)), (1, .int 4), (2, .int p1), (3, .int p2)]) hx hb dX5_mark_66 hl (k := 1) rfl (by decide) (by decide) rfl (fun ls hl => ?_)
                    refine lv_goto (tgt := 44) hx hb dX5_mark_69 (by decide) ?_
                    refine lv_iload hx hb dX5_mark_44 (lv_at hl 0 rfl) ?_
                    refine lv_bipush (v := 8) hx hb dX5_mark_46 (by decide) ?_
                    refine lv_icmp_ge (tgt := 72) hx hb dX5_mark_48 (by decide) (fun c_86 => ?_) (fun c_86 => ?_)
                    · exact absurd c_86 (by decide)
                    · refine lv_iload hx hb dX5_mark_51 (lv_at hl 1 rfl) ?_
                      refine lv_aload_n hx hb dX5_mark_53 rfl (lv_at hl 3 rfl) ?_
                      refine va_get (D := D) (ci := 11) (v := .ref (a 60)) (C := RX5) (T := TX5) (N := 9) hx hb ht in_X5 hown hK.1 hP 0 rfl rfl 1 (by decide) (ht _ w_281) (fun _ h9 => h9) rfl dX5_mark_54 ?_
                      refine lv_iload hx hb dX5_mark_57 (lv_at hl 0 rfl) ?_
                      refine va_iald hx hb hK.1 hP 1 0 rfl rfl (by unfold vp_in; decide) dX5_mark_59 ?_
                      refine r_topi (v := 0) rfl ?_
                      have hPc : va_P D vwCl [] _ := hP.sub (ws' := []) [] rfl
                      have hDc : va_D (fun q => z0 ≤ q) [] := (hD.to hAz).pick (ws' := []) [] (by decide) rfl
                      have hFc := AnA (ws := [((a 9), f_memory a), ((a 60), .inl (g 0, 8, .inl (fun _ => 0)))]) hS.1
                      refine va_calli (va_runS (As := [.int 0]) (rest := [.int 0]) ⟨hx, hb, hml, hown, ht⟩ (k_J6_bitCount_0f7a4 l D g z0 _ a) (va_cwS 1 ht (gS w_277 w_279 w_280 w_278) rfl rfl rfl (by decide +kernel) (le2 rfl rfl)) ⟨PP.blind, PP.mk' hK hZ hz hAz hS hPc hDc⟩ rfl rfl hl.1 rfl (lv_room (Nat.le_of_ble_eq_true rfl)) dX5_mark_60 (le2 rfl rfl)) hS (fun q _ h => hFc q h) hFc (fun r u t H locs ht1 hvm hw hB hz1 hk1 hS => ?_)
                      obtain ⟨rfl, hw⟩ := hw
                      have hP := ro1 hP hk1
                      refine lv_iadd hx hb dX5_mark_63 ?_
                      refine r_topi (v := 0) (by decide) ?_
                      refine lv_istore (lv' := [(5, .int 0), (6, .int 7), (4, .int (1 <<< (p1 &&& 31))), (0, .ref (a 9)), (1, .int 4), (2, .int p1), (3, .int p2)]) hx hb dX5_mark_64 hl (by decide) rfl (fun ls hl => ?_)
                      refine lv_iinc (v := 8) (lv' := [(6, .int 8), (5, .int 0), (4, .int (1 <<< (p1 &&& 31))), (0, .ref (a 9)), (1, .int 4), (2, .int p1), (3, .int p2)]) hx hb dX5_mark_66 hl (k := 1) rfl (by decide) (by decide) rfl (fun ls hl => ?_)
                      refine lv_goto (tgt := 44) hx hb dX5_mark_69 (by decide) ?_
                      refine lv_iload hx hb dX5_mark_44 (lv_at hl 0 rfl) ?_
                      refine lv_bipush (v := 8) hx hb dX5_mark_46 (by decide) ?_
                      refine lv_icmp_ge (tgt := 72) hx hb dX5_mark_48 (by decide) (fun c_87 => ?_) (fun c_87 => ?_)
                      · refine lv_iload hx hb dX5_mark_72 (lv_at hl 1 rfl) ?_
                        have hP9 := hP.sub (ws' := []) [] rfl
                        have hD9 := hD.sub (ws' := []) [] (by decide) rfl
                        refine W.widen (k := 0) (n := 0) (Nat.le_of_ble_eq_true rfl) (Nat.le_of_ble_eq_true rfl) ?_
                        exact W.iret (v := 0) hx hb hr (fun t ht9 hW9 => ⟨⟨0, (), rfl, (Or.inl ⟨rfl, c_78⟩), ⟨(by rw [ht9]; exact hP9), hD9⟩⟩, hS.F ht9⟩) hS.2.2 dX5_mark_74 hlocks
                      · exact absurd c_87 (by decide)
    · refine lv_aload_n hx hb dX5_mark_14 rfl (lv_at hl 1 rfl) ?_
      refine va_get (D := D) (ci := 11) (v := .ref (a 60)) (C := RX5) (T := TX5) (N := 9) hx hb ht in_X5 hown hK.1 hP 0 rfl rfl 1 (by decide) (ht _ w_281) (fun _ h9 => h9) rfl dX5_mark_15 ?_
      refine lv_iload_n hx hb dX5_mark_18 rfl (lv_at hl 2 rfl) ?_
      refine va_iald hx hb hK.1 hP 1 0 rfl rfl (by unfold vp_in; decide) dX5_mark_19 ?_
      refine r_topi (v := 0) rfl ?_
      refine lv_iload hx hb dX5_mark_20 (lv_at hl 0 rfl) ?_
      refine lv_ior hx hb dX5_mark_22 ?_
      refine r_topi (v := 1 <<< (p1 &&& 31)) (z_or _) ?_
      refine lv_goto (tgt := 37) hx hb dX5_mark_23 (by decide) ?_
      refine va_iast hx hb hK.1 hP hD hS 1 0 rfl rfl (by unfold vp_in; decide) dX5_mark_37 (fun H locs hP hD hS => ?_)
      have hP : va_P D vwCl [((a 9), f_memory a), ((a 60), .inl (g 0, 8, .inl (upd (fun _ => 0) (4 : Int32).toNatClampNeg (1 <<< (p1 &&& 31)))))] H := hP
      have hD : va_D (va_A [((a 9), f_memory a), ((a 60), .inl (g 0, 8, .inl (fun _ => 0)))] s.heap.size) [((a 9), f_memory a), ((a 60), .inl (g 0, 8, .inl (upd (fun _ => 0) (4 : Int32).toNatClampNeg (1 <<< (p1 &&& 31)))))] := hD
      refine lv_iconst (v := 0) hx hb dX5_mark_38 (by decide) ?_
      refine lv_istore (lv' := [(5, .int 0), (4, .int (1 <<< (p1 &&& 31))), (0, .ref (a 9)), (1, .int 4), (2, .int p1), (3, .int p2)]) hx hb dX5_mark_39 hl (by decide) rfl (fun ls hl => ?_)
      refine lv_iconst (v := 0) hx hb dX5_mark_41 (by decide) ?_
      refine lv_istore (lv' := [(6, .int 0), (5, .int 0), (4, .int (1 <<< (p1 &&& 31))), (0, .ref (a 9)), (1, .int 4), (2, .int p1), (3, .int p2)]) hx hb dX5_mark_42 hl (by decide) rfl (fun ls hl => ?_)
      refine lv_iload hx hb dX5_mark_44 (lv_at hl 0 rfl) ?_
      refine lv_bipush (v := 8) hx hb dX5_mark_46 (by decide) ?_
      refine lv_icmp_ge (tgt := 72) hx hb dX5_mark_48 (by decide) (fun c_88 => ?_) (fun c_88 => ?_)
      · exact absurd c_88 (by decide)
      · refine lv_iload hx hb dX5_mark_51 (lv_at hl 1 rfl) ?_
        refine lv_aload_n hx hb dX5_mark_53 rfl (lv_at hl 3 rfl) ?_
        refine va_get (D := D) (ci := 11) (v := .ref (a 60)) (C := RX5) (T := TX5) (N := 9) hx hb ht in_X5 hown hK.1 hP 0 rfl rfl 1 (by decide) (ht _ w_281) (fun _ h9 => h9) rfl dX5_mark_54 ?_
        refine lv_iload hx hb dX5_mark_57 (lv_at hl 0 rfl) ?_
        refine va_iald hx hb hK.1 hP 1 0 rfl rfl (by unfold vp_in; decide) dX5_mark_59 ?_
        refine r_topi (v := 0) rfl ?_
        have hPc : va_P D vwCl [] _ := hP.sub (ws' := []) [] rfl
        have hDc : va_D (fun q => z0 ≤ q) [] := (hD.to hAz).pick (ws' := []) [] (by decide) rfl
        have hFc := AnA (ws := [((a 9), f_memory a), ((a 60), .inl (g 0, 8, .inl (fun _ => 0)))]) hS.1
        refine va_calli (va_runS (As := [.int 0]) (rest := [.int 0]) ⟨hx, hb, hml, hown, ht⟩ (k_J6_bitCount_0f7a4 l D g z0 _ a) (va_cwS 1 ht (gS w_277 w_279 w_280 w_278) rfl rfl rfl (by decide +kernel) (le2 rfl rfl)) ⟨PP.blind, PP.mk' hK hZ hz hAz hS hPc hDc⟩ rfl rfl hl.1 rfl (lv_room (Nat.le_of_ble_eq_true rfl)) dX5_mark_60 (le2 rfl rfl)) hS (fun q _ h => hFc q h) hFc (fun r u t H locs ht1 hvm hw hB hz1 hk1 hS => ?_)
        obtain ⟨rfl, hw⟩ := hw
        have hP := ro1 hP hk1
        refine lv_iadd hx hb dX5_mark_63 ?_
        refine r_topi (v := 0) (by decide) ?_
        refine lv_istore (lv' := [(5, .int 0), (6, .int 0), (4, .int (1 <<< (p1 &&& 31))), (0, .ref (a 9)), (1, .int 4), (2, .int p1), (3, .int p2)]) hx hb dX5_mark_64 hl (by decide) rfl (fun ls hl => ?_)
        refine lv_iinc (v := 1) (lv' := [(6, .int 1), (5, .int 0), (4, .int (1 <<< (p1 &&& 31))), (0, .ref (a 9)), (1, .int 4), (2, .int p1), (3, .int p2)]) hx hb dX5_mark_66 hl (k := 1) rfl (by decide) (by decide) rfl (fun ls hl => ?_)
        refine lv_goto (tgt := 44) hx hb dX5_mark_69 (by decide) ?_
        refine lv_iload hx hb dX5_mark_44 (lv_at hl 0 rfl) ?_
        refine lv_bipush (v := 8) hx hb dX5_mark_46 (by decide) ?_
        refine lv_icmp_ge (tgt := 72) hx hb dX5_mark_48 (by decide) (fun c_89 => ?_) (fun c_89 => ?_)
        · exact absurd c_89 (by decide)
        · refine lv_iload hx hb dX5_mark_51 (lv_at hl 1 rfl) ?_
          refine lv_aload_n hx hb dX5_mark_53 rfl (lv_at hl 3 rfl) ?_
          refine va_get (D := D) (ci := 11) (v := .ref (a 60)) (C := RX5) (T := TX5) (N := 9) hx hb ht in_X5 hown hK.1 hP 0 rfl rfl 1 (by decide) (ht _ w_281) (fun _ h9 => h9) rfl dX5_mark_54 ?_
          refine lv_iload hx hb dX5_mark_57 (lv_at hl 0 rfl) ?_
          refine va_iald hx hb hK.1 hP 1 0 rfl rfl (by unfold vp_in; decide) dX5_mark_59 ?_
          refine r_topi (v := 0) rfl ?_
          have hPc : va_P D vwCl [] _ := hP.sub (ws' := []) [] rfl
          have hDc : va_D (fun q => z0 ≤ q) [] := (hD.to hAz).pick (ws' := []) [] (by decide) rfl
          have hFc := AnA (ws := [((a 9), f_memory a), ((a 60), .inl (g 0, 8, .inl (fun _ => 0)))]) hS.1
          refine va_calli (va_runS (As := [.int 0]) (rest := [.int 0]) ⟨hx, hb, hml, hown, ht⟩ (k_J6_bitCount_0f7a4 l D g z0 _ a) (va_cwS 1 ht (gS w_277 w_279 w_280 w_278) rfl rfl rfl (by decide +kernel) (le2 rfl rfl)) ⟨PP.blind, PP.mk' hK hZ hz hAz hS hPc hDc⟩ rfl rfl hl.1 rfl (lv_room (Nat.le_of_ble_eq_true rfl)) dX5_mark_60 (le2 rfl rfl)) hS (fun q _ h => hFc q h) hFc (fun r u t H locs ht1 hvm hw hB hz1 hk1 hS => ?_)
          obtain ⟨rfl, hw⟩ := hw
          have hP := ro1 hP hk1
          refine lv_iadd hx hb dX5_mark_63 ?_
          refine r_topi (v := 0) (by decide) ?_
          refine lv_istore (lv' := [(5, .int 0), (6, .int 1), (4, .int (1 <<< (p1 &&& 31))), (0, .ref (a 9)), (1, .int 4), (2, .int p1), (3, .int p2)]) hx hb dX5_mark_64 hl (by decide) rfl (fun ls hl => ?_)
          refine lv_iinc (v := 2) (lv' := [(6, .int 2), (5, .int 0), (4, .int (1 <<< (p1 &&& 31))), (0, .ref (a 9)), (1, .int 4), (2, .int p1), (3, .int p2)]) hx hb dX5_mark_66 hl (k := 1) rfl (by decide) (by decide) rfl (fun ls hl => ?_)
          refine lv_goto (tgt := 44) hx hb dX5_mark_69 (by decide) ?_
          refine lv_iload hx hb dX5_mark_44 (lv_at hl 0 rfl) ?_
          refine lv_bipush (v := 8) hx hb dX5_mark_46 (by decide) ?_
          refine lv_icmp_ge (tgt := 72) hx hb dX5_mark_48 (by decide) (fun c_90 => ?_) (fun c_90 => ?_)
          · exact absurd c_90 (by decide)
          · refine lv_iload hx hb dX5_mark_51 (lv_at hl 1 rfl) ?_
            refine lv_aload_n hx hb dX5_mark_53 rfl (lv_at hl 3 rfl) ?_
            refine va_get (D := D) (ci := 11) (v := .ref (a 60)) (C := RX5) (T := TX5) (N := 9) hx hb ht in_X5 hown hK.1 hP 0 rfl rfl 1 (by decide) (ht _ w_281) (fun _ h9 => h9) rfl dX5_mark_54 ?_
            refine lv_iload hx hb dX5_mark_57 (lv_at hl 0 rfl) ?_
            refine va_iald hx hb hK.1 hP 1 0 rfl rfl (by unfold vp_in; decide) dX5_mark_59 ?_
            refine r_topi (v := 0) rfl ?_
            have hPc : va_P D vwCl [] _ := hP.sub (ws' := []) [] rfl
            have hDc : va_D (fun q => z0 ≤ q) [] := (hD.to hAz).pick (ws' := []) [] (by decide) rfl
            have hFc := AnA (ws := [((a 9), f_memory a), ((a 60), .inl (g 0, 8, .inl (fun _ => 0)))]) hS.1
            refine va_calli (va_runS (As := [.int 0]) (rest := [.int 0]) ⟨hx, hb, hml, hown, ht⟩ (k_J6_bitCount_0f7a4 l D g z0 _ a) (va_cwS 1 ht (gS w_277 w_279 w_280 w_278) rfl rfl rfl (by decide +kernel) (le2 rfl rfl)) ⟨PP.blind, PP.mk' hK hZ hz hAz hS hPc hDc⟩ rfl rfl hl.1 rfl (lv_room (Nat.le_of_ble_eq_true rfl)) dX5_mark_60 (le2 rfl rfl)) hS (fun q _ h => hFc q h) hFc (fun r u t H locs ht1 hvm hw hB hz1 hk1 hS => ?_)
            obtain ⟨rfl, hw⟩ := hw
            have hP := ro1 hP hk1
            refine lv_iadd hx hb dX5_mark_63 ?_
            refine r_topi (v := 0) (by decide) ?_
            refine lv_istore (lv' := [(5, .int 0), (6, .int 2), (4, .int (1 <<< (p1 &&& 31))), (0, .ref (a 9)), (1, .int 4), (2, .int p1), (3, .int p2)]) hx hb dX5_mark_64 hl (by decide) rfl (fun ls hl => ?_)
            refine lv_iinc (v := 3) (lv' := [(6, .int 3), (5, .int 0), (4, .int (1 <<< (p1 &&& 31))), (0, .ref (a 9)), (1, .int 4), (2, .int p1), (3, .int p2)]) hx hb dX5_mark_66 hl (k := 1) rfl (by decide) (by decide) rfl (fun ls hl => ?_)
            refine lv_goto (tgt := 44) hx hb dX5_mark_69 (by decide) ?_
            refine lv_iload hx hb dX5_mark_44 (lv_at hl 0 rfl) ?_
            refine lv_bipush (v := 8) hx hb dX5_mark_46 (by decide) ?_
            refine lv_icmp_ge (tgt := 72) hx hb dX5_mark_48 (by decide) (fun c_91 => ?_) (fun c_91 => ?_)
            · exact absurd c_91 (by decide)
            · refine lv_iload hx hb dX5_mark_51 (lv_at hl 1 rfl) ?_
              refine lv_aload_n hx hb dX5_mark_53 rfl (lv_at hl 3 rfl) ?_
              refine va_get (D := D) (ci := 11) (v := .ref (a 60)) (C := RX5) (T := TX5) (N := 9) hx hb ht in_X5 hown hK.1 hP 0 rfl rfl 1 (by decide) (ht _ w_281) (fun _ h9 => h9) rfl dX5_mark_54 ?_
              refine lv_iload hx hb dX5_mark_57 (lv_at hl 0 rfl) ?_
              refine va_iald hx hb hK.1 hP 1 0 rfl rfl (by unfold vp_in; decide) dX5_mark_59 ?_
              refine r_topi (v := 0) rfl ?_
              have hPc : va_P D vwCl [] _ := hP.sub (ws' := []) [] rfl
              have hDc : va_D (fun q => z0 ≤ q) [] := (hD.to hAz).pick (ws' := []) [] (by decide) rfl
              have hFc := AnA (ws := [((a 9), f_memory a), ((a 60), .inl (g 0, 8, .inl (fun _ => 0)))]) hS.1
              refine va_calli (va_runS (As := [.int 0]) (rest := [.int 0]) ⟨hx, hb, hml, hown, ht⟩ (k_J6_bitCount_0f7a4 l D g z0 _ a) (va_cwS 1 ht (gS w_277 w_279 w_280 w_278) rfl rfl rfl (by decide +kernel) (le2 rfl rfl)) ⟨PP.blind, PP.mk' hK hZ hz hAz hS hPc hDc⟩ rfl rfl hl.1 rfl (lv_room (Nat.le_of_ble_eq_true rfl)) dX5_mark_60 (le2 rfl rfl)) hS (fun q _ h => hFc q h) hFc (fun r u t H locs ht1 hvm hw hB hz1 hk1 hS => ?_)
              obtain ⟨rfl, hw⟩ := hw
              have hP := ro1 hP hk1
              refine lv_iadd hx hb dX5_mark_63 ?_
              refine r_topi (v := 0) (by decide) ?_
              refine lv_istore (lv' := [(5, .int 0), (6, .int 3), (4, .int (1 <<< (p1 &&& 31))), (0, .ref (a 9)), (1, .int 4), (2, .int p1), (3, .int p2)]) hx hb dX5_mark_64 hl (by decide) rfl (fun ls hl => ?_)
              refine lv_iinc (v := 4) (lv' := [(6, .int 4), (5, .int 0), (4, .int (1 <<< (p1 &&& 31))), (0, .ref (a 9)), (1, .int 4), (2, .int p1), (3, .int p2)]) hx hb dX5_mark_66 hl (k := 1) rfl (by decide) (by decide) rfl (fun ls hl => ?_)
              refine lv_goto (tgt := 44) hx hb dX5_mark_69 (by decide) ?_
              refine lv_iload hx hb dX5_mark_44 (lv_at hl 0 rfl) ?_
              refine lv_bipush (v := 8) hx hb dX5_mark_46 (by decide) ?_
              refine lv_icmp_ge (tgt := 72) hx hb dX5_mark_48 (by decide) (fun c_92 => ?_) (fun c_92 => ?_)
              · exact absurd c_92 (by decide)
              · refine lv_iload hx hb dX5_mark_51 (lv_at hl 1 rfl) ?_
                refine lv_aload_n hx hb dX5_mark_53 rfl (lv_at hl 3 rfl) ?_
                refine va_get (D := D) (ci := 11) (v := .ref (a 60)) (C := RX5) (T := TX5) (N := 9) hx hb ht in_X5 hown hK.1 hP 0 rfl rfl 1 (by decide) (ht _ w_281) (fun _ h9 => h9) rfl dX5_mark_54 ?_
                refine lv_iload hx hb dX5_mark_57 (lv_at hl 0 rfl) ?_
                refine va_iald hx hb hK.1 hP 1 0 rfl rfl (by unfold vp_in; decide) dX5_mark_59 ?_
                refine r_topi (v := 1 <<< (p1 &&& 31)) rfl ?_
                have hPc : va_P D vwCl [] _ := hP.sub (ws' := []) [] rfl
                have hDc : va_D (fun q => z0 ≤ q) [] := (hD.to hAz).pick (ws' := []) [] (by decide) rfl
                have hFc := AnA (ws := [((a 9), f_memory a), ((a 60), .inl (g 0, 8, .inl (fun _ => 0)))]) hS.1
                refine va_calli (va_runS (As := [.int (1 <<< (p1 &&& 31))]) (rest := [.int 0]) ⟨hx, hb, hml, hown, ht⟩ (k_J6_bitCount_0f7a4_v1 l D g z0 _ a (1 <<< (p1 &&& 31))) (va_cwS 1 ht (gS w_277 w_279 w_280 w_278) rfl rfl rfl (by decide +kernel) (le2 rfl rfl)) ⟨PP.blind, PP.mk' hK hZ hz hAz hS hPc hDc⟩ rfl rfl hl.1 rfl (lv_room (Nat.le_of_ble_eq_true rfl)) dX5_mark_60 (le2 rfl rfl)) hS (fun q _ h => hFc q h) hFc (fun r u t H locs ht1 hvm hw hB hz1 hk1 hS => ?_)
                obtain ⟨rfl, hw⟩ := hw
                have hP := ro1 hP hk1
                refine r_topi (v := 1) (bit1 (lo_nlt hy2) (up_lt hy3)) ?_
                refine lv_iadd hx hb dX5_mark_63 ?_
                refine r_topi (v := 1) (by decide) ?_
                refine lv_istore (lv' := [(5, .int 1), (6, .int 4), (4, .int (1 <<< (p1 &&& 31))), (0, .ref (a 9)), (1, .int 4), (2, .int p1), (3, .int p2)]) hx hb dX5_mark_64 hl (by decide) rfl (fun ls hl => ?_)
                refine lv_iinc (v := 5) (lv' := [(6, .int 5), (5, .int 1), (4, .int (1 <<< (p1 &&& 31))), (0, .ref (a 9)), (1, .int 4), (2, .int p1), (3, .int p2)]) hx hb dX5_mark_66 hl (k := 1) rfl (by decide) (by decide) rfl (fun ls hl => ?_)
                refine lv_goto (tgt := 44) hx hb dX5_mark_69 (by decide) ?_
                refine lv_iload hx hb dX5_mark_44 (lv_at hl 0 rfl) ?_
                refine lv_bipush (v := 8) hx hb dX5_mark_46 (by decide) ?_
                refine lv_icmp_ge (tgt := 72) hx hb dX5_mark_48 (by decide) (fun c_93 => ?_) (fun c_93 => ?_)
                · exact absurd c_93 (by decide)
                · refine lv_iload hx hb dX5_mark_51 (lv_at hl 1 rfl) ?_
                  refine lv_aload_n hx hb dX5_mark_53 rfl (lv_at hl 3 rfl) ?_
                  refine va_get (D := D) (ci := 11) (v := .ref (a 60)) (C := RX5) (T := TX5) (N := 9) hx hb ht in_X5 hown hK.1 hP 0 rfl rfl 1 (by decide) (ht _ w_281) (fun _ h9 => h9) rfl dX5_mark_54 ?_
                  refine lv_iload hx hb dX5_mark_57 (lv_at hl 0 rfl) ?_
                  refine va_iald hx hb hK.1 hP 1 0 rfl rfl (by unfold vp_in; decide) dX5_mark_59 ?_
                  refine r_topi (v := 0) rfl ?_
                  have hPc : va_P D vwCl [] _ := hP.sub (ws' := []) [] rfl
                  have hDc : va_D (fun q => z0 ≤ q) [] := (hD.to hAz).pick (ws' := []) [] (by decide) rfl
                  have hFc := AnA (ws := [((a 9), f_memory a), ((a 60), .inl (g 0, 8, .inl (fun _ => 0)))]) hS.1
                  refine va_calli (va_runS (As := [.int 0]) (rest := [.int 1]) ⟨hx, hb, hml, hown, ht⟩ (k_J6_bitCount_0f7a4 l D g z0 _ a) (va_cwS 1 ht (gS w_277 w_279 w_280 w_278) rfl rfl rfl (by decide +kernel) (le2 rfl rfl)) ⟨PP.blind, PP.mk' hK hZ hz hAz hS hPc hDc⟩ rfl rfl hl.1 rfl (lv_room (Nat.le_of_ble_eq_true rfl)) dX5_mark_60 (le2 rfl rfl)) hS (fun q _ h => hFc q h) hFc (fun r u t H locs ht1 hvm hw hB hz1 hk1 hS => ?_)
                  obtain ⟨rfl, hw⟩ := hw
                  have hP := ro1 hP hk1
                  refine lv_iadd hx hb dX5_mark_63 ?_
                  refine r_topi (v := 1) (by decide) ?_
                  refine lv_istore (lv' := [(5, .int 1), (6, .int 5), (4, .int (1 <<< (p1 &&& 31))), (0, .ref (a 9)), (1, .int 4), (2, .int p1), (3, .int p2)]) hx hb dX5_mark_64 hl (by decide) rfl (fun ls hl => ?_)
                  refine lv_iinc (v := 6) (lv' := [(6, .int 6), (5, .int 1), (4, .int (1 <<< (p1 &&& 31))), (0, .ref (a 9)), (1, .int 4), (2, .int p1), (3, .int p2)]) hx hb dX5_mark_66 hl (k := 1) rfl (by decide) (by decide) rfl (fun ls hl => ?_)
                  refine lv_goto (tgt := 44) hx hb dX5_mark_69 (by decide) ?_
                  refine lv_iload hx hb dX5_mark_44 (lv_at hl 0 rfl) ?_
                  refine lv_bipush (v := 8) hx hb dX5_mark_46 (by decide) ?_
                  refine lv_icmp_ge (tgt := 72) hx hb dX5_mark_48 (by decide) (fun c_94 => ?_) (fun c_94 => ?_)
                  · exact absurd c_94 (by decide)
                  · refine lv_iload hx hb dX5_mark_51 (lv_at hl 1 rfl) ?_
                    refine lv_aload_n hx hb dX5_mark_53 rfl (lv_at hl 3 rfl) ?_
                    refine va_get (D := D) (ci := 11) (v := .ref (a 60)) (C := RX5) (T := TX5) (N := 9) hx hb ht in_X5 hown hK.1 hP 0 rfl rfl 1 (by decide) (ht _ w_281) (fun _ h9 => h9) rfl dX5_mark_54 ?_
                    refine lv_iload hx hb dX5_mark_57 (lv_at hl 0 rfl) ?_
                    refine va_iald hx hb hK.1 hP 1 0 rfl rfl (by unfold vp_in; decide) dX5_mark_59 ?_
                    refine r_topi (v := 0) rfl ?_
                    have hPc : va_P D vwCl [] _ := hP.sub (ws' := []) [] rfl
                    have hDc : va_D (fun q => z0 ≤ q) [] := (hD.to hAz).pick (ws' := []) [] (by decide) rfl
                    have hFc := AnA (ws := [((a 9), f_memory a), ((a 60), .inl (g 0, 8, .inl (fun _ => 0)))]) hS.1
                    refine va_calli (va_runS (As := [.int 0]) (rest := [.int 1]) ⟨hx, hb, hml, hown, ht⟩ (k_J6_bitCount_0f7a4 l D g z0 _ a) (va_cwS 1 ht (gS w_277 w_279 w_280 w_278) rfl rfl rfl (by decide +kernel) (le2 rfl rfl)) ⟨PP.blind, PP.mk' hK hZ hz hAz hS hPc hDc⟩ rfl rfl hl.1 rfl (lv_room (Nat.le_of_ble_eq_true rfl)) dX5_mark_60 (le2 rfl rfl)) hS (fun q _ h => hFc q h) hFc (fun r u t H locs ht1 hvm hw hB hz1 hk1 hS => ?_)
                    obtain ⟨rfl, hw⟩ := hw
                    have hP := ro1 hP hk1
                    refine lv_iadd hx hb dX5_mark_63 ?_
                    refine r_topi (v := 1) (by decide) ?_
                    refine lv_istore (lv' := [(5, .int 1), (6, .int 6), (4, .int (1 <<< (p1 &&& 31))), (0, .ref (a 9)), (1, .int 4), (2, .int p1), (3, .int p2)]) hx hb dX5_mark_64 hl (by decide) rfl (fun ls hl => ?_)
                    refine lv_iinc (v := 7) (lv' := [(6, .int 7), (5, .int 1), (4, .int (1 <<< (p1 &&& 31))), (0, .ref (a 9)), (1, .int 4), (2, .int p1), (3, .int p2)]) hx hb dX5_mark_66 hl (k := 1) rfl (by decide) (by decide) rfl (fun ls hl => ?_)
                    refine lv_goto (tgt := 44) hx hb dX5_mark_69 (by decide) ?_
                    refine lv_iload hx hb dX5_mark_44 (lv_at hl 0 rfl) ?_
                    refine lv_bipush (v := 8) hx hb dX5_mark_46 (by decide) ?_
                    refine lv_icmp_ge (tgt := 72) hx hb dX5_mark_48 (by decide) (fun c_95 => ?_) (fun c_95 => ?_)
                    · exact absurd c_95 (by decide)
                    · refine lv_iload hx hb dX5_mark_51 (lv_at hl 1 rfl) ?_
                      refine lv_aload_n hx hb dX5_mark_53 rfl (lv_at hl 3 rfl) ?_
                      refine va_get (D := D) (ci := 11) (v := .ref (a 60)) (C := RX5) (T := TX5) (N := 9) hx hb ht in_X5 hown hK.1 hP 0 rfl rfl 1 (by decide) (ht _ w_281) (fun _ h9 => h9) rfl dX5_mark_54 ?_
                      refine lv_iload hx hb dX5_mark_57 (lv_at hl 0 rfl) ?_
                      refine va_iald hx hb hK.1 hP 1 0 rfl rfl (by unfold vp_in; decide) dX5_mark_59 ?_
                      refine r_topi (v := 0) rfl ?_
                      have hPc : va_P D vwCl [] _ := hP.sub (ws' := []) [] rfl
                      have hDc : va_D (fun q => z0 ≤ q) [] := (hD.to hAz).pick (ws' := []) [] (by decide) rfl
                      have hFc := AnA (ws := [((a 9), f_memory a), ((a 60), .inl (g 0, 8, .inl (fun _ => 0)))]) hS.1
                      refine va_calli (va_runS (As := [.int 0]) (rest := [.int 1]) ⟨hx, hb, hml, hown, ht⟩ (k_J6_bitCount_0f7a4 l D g z0 _ a) (va_cwS 1 ht (gS w_277 w_279 w_280 w_278) rfl rfl rfl (by decide +kernel) (le2 rfl rfl)) ⟨PP.blind, PP.mk' hK hZ hz hAz hS hPc hDc⟩ rfl rfl hl.1 rfl (lv_room (Nat.le_of_ble_eq_true rfl)) dX5_mark_60 (le2 rfl rfl)) hS (fun q _ h => hFc q h) hFc (fun r u t H locs ht1 hvm hw hB hz1 hk1 hS => ?_)
                      obtain ⟨rfl, hw⟩ := hw
                      have hP := ro1 hP hk1
                      refine lv_iadd hx hb dX5_mark_63 ?_
                      refine r_topi (v := 1) (by decide) ?_
                      refine lv_istore (lv' := [(5, .int 1), (6, .int 7), (4, .int (1 <<< (p1 &&& 31))), (0, .ref (a 9)), (1, .int 4), (2, .int p1), (3, .int p2)]) hx hb dX5_mark_64 hl (by decide) rfl (fun ls hl => ?_)
                      refine lv_iinc (v := 8) (lv' := [(6, .int 8), (5, .int 1), (4, .int (1 <<< (p1 &&& 31))), (0, .ref (a 9)), (1, .int 4), (2, .int p1), (3, .int p2)]) hx hb dX5_mark_66 hl (k := 1) rfl (by decide) (by decide) rfl (fun ls hl => ?_)
                      refine lv_goto (tgt := 44) hx hb dX5_mark_69 (by decide) ?_
                      refine lv_iload hx hb dX5_mark_44 (lv_at hl 0 rfl) ?_
                      refine lv_bipush (v := 8) hx hb dX5_mark_46 (by decide) ?_
                      refine lv_icmp_ge (tgt := 72) hx hb dX5_mark_48 (by decide) (fun c_96 => ?_) (fun c_96 => ?_)
                      · refine lv_iload hx hb dX5_mark_72 (lv_at hl 1 rfl) ?_
                        have hP9 := hP.sub (ws' := []) [] rfl
                        have hD9 := hD.sub (ws' := []) [] (by decide) rfl
                        refine W.widen (k := 0) (n := 0) (Nat.le_of_ble_eq_true rfl) (Nat.le_of_ble_eq_true rfl) ?_
                        exact W.iret (v := 1) hx hb hr (fun t ht9 hW9 => ⟨⟨1, (), rfl, (Or.inr ⟨rfl, c_78⟩), ⟨(by rw [ht9]; exact hP9), hD9⟩⟩, hS.F ht9⟩) hS.2.2 dX5_mark_74 hlocks
                      · exact absurd c_96 (by decide)
  · subst e_1
    have hl : lv_has ls 7 [(4, .int (1 <<< (p1 &&& 31))), (0, .ref (a 9)), (1, .int 5), (2, .int p1), (3, .int p2)] := hl
    refine lv_aload_n hx hb dX5_mark_5 rfl (lv_at hl 1 rfl) ?_
    refine va_get (D := D) (ci := 11) (v := .ref (a 60)) (C := RX5) (T := TX5) (N := 9) hx hb ht in_X5 hown hK.1 hP 0 rfl rfl 1 (by decide) (ht _ w_281) (fun _ h9 => h9) rfl dX5_mark_6 ?_
    refine lv_iload_n hx hb dX5_mark_9 rfl (lv_at hl 2 rfl) ?_
    refine lv_iload_n hx hb dX5_mark_10 rfl (lv_at hl 4 rfl) ?_
    refine lv_if_eq (tgt := 26) hx hb dX5_mark_11 (by decide) (fun c_97 => ?_) (fun c_97 => ?_)
    · refine lv_aload_n hx hb dX5_mark_26 rfl (lv_at hl 1 rfl) ?_
      refine va_get (D := D) (ci := 11) (v := .ref (a 60)) (C := RX5) (T := TX5) (N := 9) hx hb ht in_X5 hown hK.1 hP 0 rfl rfl 1 (by decide) (ht _ w_281) (fun _ h9 => h9) rfl dX5_mark_27 ?_
      refine lv_iload_n hx hb dX5_mark_30 rfl (lv_at hl 2 rfl) ?_
      refine va_iald hx hb hK.1 hP 1 0 rfl rfl (by unfold vp_in; decide) dX5_mark_31 ?_
      refine r_topi (v := 0) rfl ?_
      refine lv_iload hx hb dX5_mark_32 (lv_at hl 0 rfl) ?_
      refine lv_iconst (v := (-1)) hx hb dX5_mark_34 (by decide) ?_
      refine lv_ixor hx hb dX5_mark_35 ?_
      refine lv_iand hx hb dX5_mark_36 ?_
      refine r_topi (v := 0) (z_and _) ?_
      refine va_iast hx hb hK.1 hP hD hS 1 0 rfl rfl (by unfold vp_in; decide) dX5_mark_37 (fun H locs hP hD hS => ?_)
      have hP : va_P D vwCl [((a 9), f_memory a), ((a 60), .inl (g 0, 8, .inl (upd (fun _ => 0) (5 : Int32).toNatClampNeg 0)))] H := hP
      have hD : va_D (va_A [((a 9), f_memory a), ((a 60), .inl (g 0, 8, .inl (fun _ => 0)))] s.heap.size) [((a 9), f_memory a), ((a 60), .inl (g 0, 8, .inl (upd (fun _ => 0) (5 : Int32).toNatClampNeg 0)))] := hD
      refine lv_iconst (v := 0) hx hb dX5_mark_38 (by decide) ?_
      refine lv_istore (lv' := [(5, .int 0), (4, .int (1 <<< (p1 &&& 31))), (0, .ref (a 9)), (1, .int 5), (2, .int p1), (3, .int p2)]) hx hb dX5_mark_39 hl (by decide) rfl (fun ls hl => ?_)
      refine lv_iconst (v := 0) hx hb dX5_mark_41 (by decide) ?_
      refine lv_istore (lv' := [(6, .int 0), (5, .int 0), (4, .int (1 <<< (p1 &&& 31))), (0, .ref (a 9)), (1, .int 5), (2, .int p1), (3, .int p2)]) hx hb dX5_mark_42 hl (by decide) rfl (fun ls hl => ?_)
      refine lv_iload hx hb dX5_mark_44 (lv_at hl 0 rfl) ?_
      refine lv_bipush (v := 8) hx hb dX5_mark_46 (by decide) ?_
      refine lv_icmp_ge (tgt := 72) hx hb dX5_mark_48 (by decide) (fun c_98 => ?_) (fun c_98 => ?_)
      · exact absurd c_98 (by decide)
      · refine lv_iload hx hb dX5_mark_51 (lv_at hl 1 rfl) ?_
        refine lv_aload_n hx hb dX5_mark_53 rfl (lv_at hl 3 rfl) ?_
        refine va_get (D := D) (ci := 11) (v := .ref (a 60)) (C := RX5) (T := TX5) (N := 9) hx hb ht in_X5 hown hK.1 hP 0 rfl rfl 1 (by decide) (ht _ w_281) (fun _ h9 => h9) rfl dX5_mark_54 ?_
        refine lv_iload hx hb dX5_mark_57 (lv_at hl 0 rfl) ?_
        refine va_iald hx hb hK.1 hP 1 0 rfl rfl (by unfold vp_in; decide) dX5_mark_59 ?_
        refine r_topi (v := 0) rfl ?_
        have hPc : va_P D vwCl [] _ := hP.sub (ws' := []) [] rfl
        have hDc : va_D (fun q => z0 ≤ q) [] := (hD.to hAz).pick (ws' := []) [] (by decide) rfl
        have hFc := AnA (ws := [((a 9), f_memory a), ((a 60), .inl (g 0, 8, .inl (fun _ => 0)))]) hS.1
        refine va_calli (va_runS (As := [.int 0]) (rest := [.int 0]) ⟨hx, hb, hml, hown, ht⟩ (k_J6_bitCount_0f7a4 l D g z0 _ a) (va_cwS 1 ht (gS w_277 w_279 w_280 w_278) rfl rfl rfl (by decide +kernel) (le2 rfl rfl)) ⟨PP.blind, PP.mk' hK hZ hz hAz hS hPc hDc⟩ rfl rfl hl.1 rfl (lv_room (Nat.le_of_ble_eq_true rfl)) dX5_mark_60 (le2 rfl rfl)) hS (fun q _ h => hFc q h) hFc (fun r u t H locs ht1 hvm hw hB hz1 hk1 hS => ?_)
        obtain ⟨rfl, hw⟩ := hw
        have hP := ro1 hP hk1
        refine lv_iadd hx hb dX5_mark_63 ?_
        refine r_topi (v := 0) (by decide) ?_
        refine lv_istore (lv' := [(5, .int 0), (6, .int 0), (4, .int (1 <<< (p1 &&& 31))), (0, .ref (a 9)), (1, .int 5), (2, .int p1), (3, .int p2)]) hx hb dX5_mark_64 hl (by decide) rfl (fun ls hl => ?_)
        refine lv_iinc (v := 1) (lv' := [(6, .int 1), (5, .int 0), (4, .int (1 <<< (p1 &&& 31))), (0, .ref (a 9)), (1, .int 5), (2, .int p1), (3, .int p2)]) hx hb dX5_mark_66 hl (k := 1) rfl (by decide) (by decide) rfl (fun ls hl => ?_)
        refine lv_goto (tgt := 44) hx hb dX5_mark_69 (by decide) ?_
        refine lv_iload hx hb dX5_mark_44 (lv_at hl 0 rfl) ?_
        refine lv_bipush (v := 8) hx hb dX5_mark_46 (by decide) ?_
        refine lv_icmp_ge (tgt := 72) hx hb dX5_mark_48 (by decide) (fun c_99 => ?_) (fun c_99 => ?_)
        · exact absurd c_99 (by decide)
        · refine lv_iload hx hb dX5_mark_51 (lv_at hl 1 rfl) ?_
          refine lv_aload_n hx hb dX5_mark_53 rfl (lv_at hl 3 rfl) ?_
          refine va_get (D := D) (ci := 11) (v := .ref (a 60)) (C := RX5) (T := TX5) (N := 9) hx hb ht in_X5 hown hK.1 hP 0 rfl rfl 1 (by decide) (ht _ w_281) (fun _ h9 => h9) rfl dX5_mark_54 ?_
          refine lv_iload hx hb dX5_mark_57 (lv_at hl 0 rfl) ?_
          refine va_iald hx hb hK.1 hP 1 0 rfl rfl (by unfold vp_in; decide) dX5_mark_59 ?_
          refine r_topi (v := 0) rfl ?_
          have hPc : va_P D vwCl [] _ := hP.sub (ws' := []) [] rfl
          have hDc : va_D (fun q => z0 ≤ q) [] := (hD.to hAz).pick (ws' := []) [] (by decide) rfl
          have hFc := AnA (ws := [((a 9), f_memory a), ((a 60), .inl (g 0, 8, .inl (fun _ => 0)))]) hS.1
          refine va_calli (va_runS (As := [.int 0]) (rest := [.int 0]) ⟨hx, hb, hml, hown, ht⟩ (k_J6_bitCount_0f7a4 l D g z0 _ a) (va_cwS 1 ht (gS w_277 w_279 w_280 w_278) rfl rfl rfl (by decide +kernel) (le2 rfl rfl)) ⟨PP.blind, PP.mk' hK hZ hz hAz hS hPc hDc⟩ rfl rfl hl.1 rfl (lv_room (Nat.le_of_ble_eq_true rfl)) dX5_mark_60 (le2 rfl rfl)) hS (fun q _ h => hFc q h) hFc (fun r u t H locs ht1 hvm hw hB hz1 hk1 hS => ?_)
          obtain ⟨rfl, hw⟩ := hw
          have hP := ro1 hP hk1
          refine lv_iadd hx hb dX5_mark_63 ?_
          refine r_topi (v := 0) (by decide) ?_
          refine lv_istore (lv' := [(5, .int 0), (6, .int 1), (4, .int (1 <<< (p1 &&& 31))), (0, .ref (a 9)), (1, .int 5), (2, .int p1), (3, .int p2)]) hx hb dX5_mark_64 hl (by decide) rfl (fun ls hl => ?_)
          refine lv_iinc (v := 2) (lv' := [(6, .int 2), (5, .int 0), (4, .int (1 <<< (p1 &&& 31))), (0, .ref (a 9)), (1, .int 5), (2, .int p1), (3, .int p2)]) hx hb dX5_mark_66 hl (k := 1) rfl (by decide) (by decide) rfl (fun ls hl => ?_)
          refine lv_goto (tgt := 44) hx hb dX5_mark_69 (by decide) ?_
          refine lv_iload hx hb dX5_mark_44 (lv_at hl 0 rfl) ?_
          refine lv_bipush (v := 8) hx hb dX5_mark_46 (by decide) ?_
          refine lv_icmp_ge (tgt := 72) hx hb dX5_mark_48 (by decide) (fun c_100 => ?_) (fun c_100 => ?_)
          · exact absurd c_100 (by decide)
          · refine lv_iload hx hb dX5_mark_51 (lv_at hl 1 rfl) ?_
            refine lv_aload_n hx hb dX5_mark_53 rfl (lv_at hl 3 rfl) ?_
            refine va_get (D := D) (ci := 11) (v := .ref (a 60)) (C := RX5) (T := TX5) (N := 9) hx hb ht in_X5 hown hK.1 hP 0 rfl rfl 1 (by decide) (ht _ w_281) (fun _ h9 => h9) rfl dX5_mark_54 ?_
            refine lv_iload hx hb dX5_mark_57 (lv_at hl 0 rfl) ?_
            refine va_iald hx hb hK.1 hP 1 0 rfl rfl (by unfold vp_in; decide) dX5_mark_59 ?_
            refine r_topi (v := 0) rfl ?_
            have hPc : va_P D vwCl [] _ := hP.sub (ws' := []) [] rfl
            have hDc : va_D (fun q => z0 ≤ q) [] := (hD.to hAz).pick (ws' := []) [] (by decide) rfl
            have hFc := AnA (ws := [((a 9), f_memory a), ((a 60), .inl (g 0, 8, .inl (fun _ => 0)))]) hS.1
            refine va_calli (va_runS (As := [.int 0]) (rest := [.int 0]) ⟨hx, hb, hml, hown, ht⟩ (k_J6_bitCount_0f7a4 l D g z0 _ a) (va_cwS 1 ht (gS w_277 w_279 w_280 w_278) rfl rfl rfl (by decide +kernel) (le2 rfl rfl)) ⟨PP.blind, PP.mk' hK hZ hz hAz hS hPc hDc⟩ rfl rfl hl.1 rfl (lv_room (Nat.le_of_ble_eq_true rfl)) dX5_mark_60 (le2 rfl rfl)) hS (fun q _ h => hFc q h) hFc (fun r u t H locs ht1 hvm hw hB hz1 hk1 hS => ?_)
            obtain ⟨rfl, hw⟩ := hw
            have hP := ro1 hP hk1
            refine lv_iadd hx hb dX5_mark_63 ?_
            refine r_topi (v := 0) (by decide) ?_
            refine lv_istore (lv' := [(5, .int 0), (6, .int 2), (4, .int (1 <<< (p1 &&& 31))), (0, .ref (a 9)), (1, .int 5), (2, .int p1), (3, .int p2)]) hx hb dX5_mark_64 hl (by decide) rfl (fun ls hl => ?_)
            refine lv_iinc (v := 3) (lv' := [(6, .int 3), (5, .int 0), (4, .int (1 <<< (p1 &&& 31))), (0, .ref (a 9)), (1, .int 5), (2, .int p1), (3, .int p2)]) hx hb dX5_mark_66 hl (k := 1) rfl (by decide) (by decide) rfl (fun ls hl => ?_)
            refine lv_goto (tgt := 44) hx hb dX5_mark_69 (by decide) ?_
            refine lv_iload hx hb dX5_mark_44 (lv_at hl 0 rfl) ?_
            refine lv_bipush (v := 8) hx hb dX5_mark_46 (by decide) ?_
            refine lv_icmp_ge (tgt := 72) hx hb dX5_mark_48 (by decide) (fun c_101 => ?_) (fun c_101 => ?_)
            · exact absurd c_101 (by decide)
            · refine lv_iload hx hb dX5_mark_51 (lv_at hl 1 rfl) ?_
              refine lv_aload_n hx hb dX5_mark_53 rfl (lv_at hl 3 rfl) ?_
              refine va_get (D := D) (ci := 11) (v := .ref (a 60)) (C := RX5) (T := TX5) (N := 9) hx hb ht in_X5 hown hK.1 hP 0 rfl rfl 1 (by decide) (ht _ w_281) (fun _ h9 => h9) rfl dX5_mark_54 ?_
              refine lv_iload hx hb dX5_mark_57 (lv_at hl 0 rfl) ?_
              refine va_iald hx hb hK.1 hP 1 0 rfl rfl (by unfold vp_in; decide) dX5_mark_59 ?_
              refine r_topi (v := 0) rfl ?_
              have hPc : va_P D vwCl [] _ := hP.sub (ws' := []) [] rfl
              have hDc : va_D (fun q => z0 ≤ q) [] := (hD.to hAz).pick (ws' := []) [] (by decide) rfl
              have hFc := AnA (ws := [((a 9), f_memory a), ((a 60), .inl (g 0, 8, .inl (fun _ => 0)))]) hS.1
              refine va_calli (va_runS (As := [.int 0]) (rest := [.int 0]) ⟨hx, hb, hml, hown, ht⟩ (k_J6_bitCount_0f7a4 l D g z0 _ a) (va_cwS 1 ht (gS w_277 w_279 w_280 w_278) rfl rfl rfl (by decide +kernel) (le2 rfl rfl)) ⟨PP.blind, PP.mk' hK hZ hz hAz hS hPc hDc⟩ rfl rfl hl.1 rfl (lv_room (Nat.le_of_ble_eq_true rfl)) dX5_mark_60 (le2 rfl rfl)) hS (fun q _ h => hFc q h) hFc (fun r u t H locs ht1 hvm hw hB hz1 hk1 hS => ?_)
              obtain ⟨rfl, hw⟩ := hw
              have hP := ro1 hP hk1
              refine lv_iadd hx hb dX5_mark_63 ?_
              refine r_topi (v := 0) (by decide) ?_
              refine lv_istore (lv' := [(5, .int 0), (6, .int 3), (4, .int (1 <<< (p1 &&& 31))), (0, .ref (a 9)), (1, .int 5), (2, .int p1), (3, .int p2)]) hx hb dX5_mark_64 hl (by decide) rfl (fun ls hl => ?_)
              refine lv_iinc (v := 4) (lv' := [(6, .int 4), (5, .int 0), (4, .int (1 <<< (p1 &&& 31))), (0, .ref (a 9)), (1, .int 5), (2, .int p1), (3, .int p2)]) hx hb dX5_mark_66 hl (k := 1) rfl (by decide) (by decide) rfl (fun ls hl => ?_)
              refine lv_goto (tgt := 44) hx hb dX5_mark_69 (by decide) ?_
              refine lv_iload hx hb dX5_mark_44 (lv_at hl 0 rfl) ?_
              refine lv_bipush (v := 8) hx hb dX5_mark_46 (by decide) ?_
              refine lv_icmp_ge (tgt := 72) hx hb dX5_mark_48 (by decide) (fun c_102 => ?_) (fun c_102 => ?_)
              · exact absurd c_102 (by decide)
              · refine lv_iload hx hb dX5_mark_51 (lv_at hl 1 rfl) ?_
                refine lv_aload_n hx hb dX5_mark_53 rfl (lv_at hl 3 rfl) ?_
                refine va_get (D := D) (ci := 11) (v := .ref (a 60)) (C := RX5) (T := TX5) (N := 9) hx hb ht in_X5 hown hK.1 hP 0 rfl rfl 1 (by decide) (ht _ w_281) (fun _ h9 => h9) rfl dX5_mark_54 ?_
                refine lv_iload hx hb dX5_mark_57 (lv_at hl 0 rfl) ?_
                refine va_iald hx hb hK.1 hP 1 0 rfl rfl (by unfold vp_in; decide) dX5_mark_59 ?_
                refine r_topi (v := 0) rfl ?_
                have hPc : va_P D vwCl [] _ := hP.sub (ws' := []) [] rfl
                have hDc : va_D (fun q => z0 ≤ q) [] := (hD.to hAz).pick (ws' := []) [] (by decide) rfl
                have hFc := AnA (ws := [((a 9), f_memory a), ((a 60), .inl (g 0, 8, .inl (fun _ => 0)))]) hS.1
                refine va_calli (va_runS (As := [.int 0]) (rest := [.int 0]) ⟨hx, hb, hml, hown, ht⟩ (k_J6_bitCount_0f7a4 l D g z0 _ a) (va_cwS 1 ht (gS w_277 w_279 w_280 w_278) rfl rfl rfl (by decide +kernel) (le2 rfl rfl)) ⟨PP.blind, PP.mk' hK hZ hz hAz hS hPc hDc⟩ rfl rfl hl.1 rfl (lv_room (Nat.le_of_ble_eq_true rfl)) dX5_mark_60 (le2 rfl rfl)) hS (fun q _ h => hFc q h) hFc (fun r u t H locs ht1 hvm hw hB hz1 hk1 hS => ?_)
                obtain ⟨rfl, hw⟩ := hw
                have hP := ro1 hP hk1
                refine lv_iadd hx hb dX5_mark_63 ?_
                refine r_topi (v := 0) (by decide) ?_
                refine lv_istore (lv' := [(5, .int 0), (6, .int 4), (4, .int (1 <<< (p1 &&& 31))), (0, .ref (a 9)), (1, .int 5), (2, .int p1), (3, .int p2)]) hx hb dX5_mark_64 hl (by decide) rfl (fun ls hl => ?_)
                refine lv_iinc (v := 5) (lv' := [(6, .int 5), (5, .int 0), (4, .int (1 <<< (p1 &&& 31))), (0, .ref (a 9)), (1, .int 5), (2, .int p1), (3, .int p2)]) hx hb dX5_mark_66 hl (k := 1) rfl (by decide) (by decide) rfl (fun ls hl => ?_)
                refine lv_goto (tgt := 44) hx hb dX5_mark_69 (by decide) ?_
                refine lv_iload hx hb dX5_mark_44 (lv_at hl 0 rfl) ?_
                refine lv_bipush (v := 8) hx hb dX5_mark_46 (by decide) ?_
                refine lv_icmp_ge (tgt := 72) hx hb dX5_mark_48 (by decide) (fun c_103 => ?_) (fun c_103 => ?_)
                · exact absurd c_103 (by decide)
                · refine lv_iload hx hb dX5_mark_51 (lv_at hl 1 rfl) ?_
                  refine lv_aload_n hx hb dX5_mark_53 rfl (lv_at hl 3 rfl) ?_
                  refine va_get (D := D) (ci := 11) (v := .ref (a 60)) (C := RX5) (T := TX5) (N := 9) hx hb ht in_X5 hown hK.1 hP 0 rfl rfl 1 (by decide) (ht _ w_281) (fun _ h9 => h9) rfl dX5_mark_54 ?_
                  refine lv_iload hx hb dX5_mark_57 (lv_at hl 0 rfl) ?_
                  refine va_iald hx hb hK.1 hP 1 0 rfl rfl (by unfold vp_in; decide) dX5_mark_59 ?_
                  refine r_topi (v := 0) rfl ?_
                  have hPc : va_P D vwCl [] _ := hP.sub (ws' := []) [] rfl
                  have hDc : va_D (fun q => z0 ≤ q) [] := (hD.to hAz).pick (ws' := []) [] (by decide) rfl
                  have hFc := AnA (ws := [((a 9), f_memory a), ((a 60), .inl (g 0, 8, .inl (fun _ => 0)))]) hS.1
                  refine va_calli (va_runS (As := [.int 0]) (rest := [.int 0]) ⟨hx, hb, hml, hown, ht⟩ (k_J6_bitCount_0f7a4 l D g z0 _ a) (va_cwS 1 ht (gS w_277 w_279 w_280 w_278) rfl rfl rfl (by decide +kernel) (le2 rfl rfl)) ⟨PP.blind, PP.mk' hK hZ hz hAz hS hPc hDc⟩ rfl rfl hl.1 rfl (lv_room (Nat.le_of_ble_eq_true rfl)) dX5_mark_60 (le2 rfl rfl)) hS (fun q _ h => hFc q h) hFc (fun r u t H locs ht1 hvm hw hB hz1 hk1 hS => ?_)
                  obtain ⟨rfl, hw⟩ := hw
                  have hP := ro1 hP hk1
                  refine lv_iadd hx hb dX5_mark_63 ?_
                  refine r_topi (v := 0) (by decide) ?_
                  refine lv_istore (lv' := [(5, .int 0), (6, .int 5), (4, .int (1 <<< (p1 &&& 31))), (0, .ref (a 9)), (1, .int 5), (2, .int p1), (3, .int p2)]) hx hb dX5_mark_64 hl (by decide) rfl (fun ls hl => ?_)
                  refine lv_iinc (v := 6) (lv' := [(6, .int 6), (5, .int 0), (4, .int (1 <<< (p1 &&& 31))), (0, .ref (a 9)), (1, .int 5), (2, .int p1), (3, .int p2)]) hx hb dX5_mark_66 hl (k := 1) rfl (by decide) (by decide) rfl (fun ls hl => ?_)
                  refine lv_goto (tgt := 44) hx hb dX5_mark_69 (by decide) ?_
                  refine lv_iload hx hb dX5_mark_44 (lv_at hl 0 rfl) ?_
                  refine lv_bipush (v := 8) hx hb dX5_mark_46 (by decide) ?_
                  refine lv_icmp_ge (tgt := 72) hx hb dX5_mark_48 (by decide) (fun c_104 => ?_) (fun c_104 => ?_)
                  · exact absurd c_104 (by decide)
                  · refine lv_iload hx hb dX5_mark_51 (lv_at hl 1 rfl) ?_
                    refine lv_aload_n hx hb dX5_mark_53 rfl (lv_at hl 3 rfl) ?_
                    refine va_get (D := D) (ci := 11) (v := .ref (a 60)) (C := RX5) (T := TX5) (N := 9) hx hb ht in_X5 hown hK.1 hP 0 rfl rfl 1 (by decide) (ht _ w_281) (fun _ h9 => h9) rfl dX5_mark_54 ?_
                    refine lv_iload hx hb dX5_mark_57 (lv_at hl 0 rfl) ?_
                    refine va_iald hx hb hK.1 hP 1 0 rfl rfl (by unfold vp_in; decide) dX5_mark_59 ?_
                    refine r_topi (v := 0) rfl ?_
                    have hPc : va_P D vwCl [] _ := hP.sub (ws' := []) [] rfl
                    have hDc : va_D (fun q => z0 ≤ q) [] := (hD.to hAz).pick (ws' := []) [] (by decide) rfl
                    have hFc := AnA (ws := [((a 9), f_memory a), ((a 60), .inl (g 0, 8, .inl (fun _ => 0)))]) hS.1
                    refine va_calli (va_runS (As := [.int 0]) (rest := [.int 0]) ⟨hx, hb, hml, hown, ht⟩ (k_J6_bitCount_0f7a4 l D g z0 _ a) (va_cwS 1 ht (gS w_277 w_279 w_280 w_278) rfl rfl rfl (by decide +kernel) (le2 rfl rfl)) ⟨PP.blind, PP.mk' hK hZ hz hAz hS hPc hDc⟩ rfl rfl hl.1 rfl (lv_room (Nat.le_of_ble_eq_true rfl)) dX5_mark_60 (le2 rfl rfl)) hS (fun q _ h => hFc q h) hFc (fun r u t H locs ht1 hvm hw hB hz1 hk1 hS => ?_)
                    obtain ⟨rfl, hw⟩ := hw
                    have hP := ro1 hP hk1
                    refine lv_iadd hx hb dX5_mark_63 ?_
                    refine r_topi (v := 0) (by decide) ?_
                    refine lv_istore (lv' := [(5, .int 0), (6, .int 6), (4, .int (1 <<< (p1 &&& 31))), (0, .ref (a 9)), (1, .int 5), (2, .int p1), (3, .int p2)]) hx hb dX5_mark_64 hl (by decide) rfl (fun ls hl => ?_)
                    refine lv_iinc (v := 7) (lv' := [(6, .int 7), (5, .int 0), (4, .int (1 <<< (p1 &&& 31))), (0, .ref (a 9)), (1, .int 5), (2, .int p1), (3, .int p2)]) hx hb dX5_mark_66 hl (k := 1) rfl (by decide) (by decide) rfl (fun ls hl => ?_)
                    refine lv_goto (tgt := 44) hx hb dX5_mark_69 (by decide) ?_
                    refine lv_iload hx hb dX5_mark_44 (lv_at hl 0 rfl) ?_
                    refine lv_bipush (v := 8) hx hb dX5_mark_46 (by decide) ?_
                    refine lv_icmp_ge (tgt := 72) hx hb dX5_mark_48 (by decide) (fun c_105 => ?_) (fun c_105 => ?_)
                    · exact absurd c_105 (by decide)
                    · refine lv_iload hx hb dX5_mark_51 (lv_at hl 1 rfl) ?_
                      refine lv_aload_n hx hb dX5_mark_53 rfl (lv_at hl 3 rfl) ?_
                      refine va_get (D := D) (ci := 11) (v := .ref (a 60)) (C := RX5) (T := TX5) (N := 9) hx hb ht in_X5 hown hK.1 hP 0 rfl rfl 1 (by decide) (ht _ w_281) (fun _ h9 => h9) rfl dX5_mark_54 ?_
                      refine lv_iload hx hb dX5_mark_57 (lv_at hl 0 rfl) ?_
                      refine va_iald hx hb hK.1 hP 1 0 rfl rfl (by unfold vp_in; decide) dX5_mark_59 ?_
                      refine r_topi (v := 0) rfl ?_
                      have hPc : va_P D vwCl [] _ := hP.sub (ws' := []) [] rfl
                      have hDc : va_D (fun q => z0 ≤ q) [] := (hD.to hAz).pick (ws' := []) [] (by decide) rfl
                      have hFc := AnA (ws := [((a 9), f_memory a), ((a 60), .inl (g 0, 8, .inl (fun _ => 0)))]) hS.1
                      refine va_calli (va_runS (As := [.int 0]) (rest := [.int 0]) ⟨hx, hb, hml, hown, ht⟩ (k_J6_bitCount_0f7a4 l D g z0 _ a) (va_cwS 1 ht (gS w_277 w_279 w_280 w_278) rfl rfl rfl (by decide +kernel) (le2 rfl rfl)) ⟨PP.blind, PP.mk' hK hZ hz hAz hS hPc hDc⟩ rfl rfl hl.1 rfl (lv_room (Nat.le_of_ble_eq_true rfl)) dX5_mark_60 (le2 rfl rfl)) hS (fun q _ h => hFc q h) hFc (fun r u t H locs ht1 hvm hw hB hz1 hk1 hS => ?_)
                      obtain ⟨rfl, hw⟩ := hw
                      have hP := ro1 hP hk1
                      refine lv_iadd hx hb dX5_mark_63 ?_
                      refine r_topi (v := 0) (by decide) ?_
                      refine lv_istore (lv' := [(5, .int 0), (6, .int 7), (4, .int (1 <<< (p1 &&& 31))), (0, .ref (a 9)), (1, .int 5), (2, .int p1), (3, .int p2)]) hx hb dX5_mark_64 hl (by decide) rfl (fun ls hl => ?_)
                      refine lv_iinc (v := 8) (lv' := [(6, .int 8), (5, .int 0), (4, .int (1 <<< (p1 &&& 31))), (0, .ref (a 9)), (1, .int 5), (2, .int p1), (3, .int p2)]) hx hb dX5_mark_66 hl (k := 1) rfl (by decide) (by decide) rfl (fun ls hl => ?_)
                      refine lv_goto (tgt := 44) hx hb dX5_mark_69 (by decide) ?_
                      refine lv_iload hx hb dX5_mark_44 (lv_at hl 0 rfl) ?_
                      refine lv_bipush (v := 8) hx hb dX5_mark_46 (by decide) ?_
                      refine lv_icmp_ge (tgt := 72) hx hb dX5_mark_48 (by decide) (fun c_106 => ?_) (fun c_106 => ?_)
                      · refine lv_iload hx hb dX5_mark_72 (lv_at hl 1 rfl) ?_
                        have hP9 := hP.sub (ws' := []) [] rfl
                        have hD9 := hD.sub (ws' := []) [] (by decide) rfl
                        refine W.widen (k := 0) (n := 0) (Nat.le_of_ble_eq_true rfl) (Nat.le_of_ble_eq_true rfl) ?_
                        exact W.iret (v := 0) hx hb hr (fun t ht9 hW9 => ⟨⟨0, (), rfl, (Or.inl ⟨rfl, c_97⟩), ⟨(by rw [ht9]; exact hP9), hD9⟩⟩, hS.F ht9⟩) hS.2.2 dX5_mark_74 hlocks
                      · exact absurd c_106 (by decide)
    · refine lv_aload_n hx hb dX5_mark_14 rfl (lv_at hl 1 rfl) ?_
      refine va_get (D := D) (ci := 11) (v := .ref (a 60)) (C := RX5) (T := TX5) (N := 9) hx hb ht in_X5 hown hK.1 hP 0 rfl rfl 1 (by decide) (ht _ w_281) (fun _ h9 => h9) rfl dX5_mark_15 ?_
      refine lv_iload_n hx hb dX5_mark_18 rfl (lv_at hl 2 rfl) ?_
      refine va_iald hx hb hK.1 hP 1 0 rfl rfl (by unfold vp_in; decide) dX5_mark_19 ?_
      refine r_topi (v := 0) rfl ?_
      refine lv_iload hx hb dX5_mark_20 (lv_at hl 0 rfl) ?_
      refine lv_ior hx hb dX5_mark_22 ?_
      refine r_topi (v := 1 <<< (p1 &&& 31)) (z_or _) ?_
      refine lv_goto (tgt := 37) hx hb dX5_mark_23 (by decide) ?_
      refine va_iast hx hb hK.1 hP hD hS 1 0 rfl rfl (by unfold vp_in; decide) dX5_mark_37 (fun H locs hP hD hS => ?_)
      have hP : va_P D vwCl [((a 9), f_memory a), ((a 60), .inl (g 0, 8, .inl (upd (fun _ => 0) (5 : Int32).toNatClampNeg (1 <<< (p1 &&& 31)))))] H := hP
      have hD : va_D (va_A [((a 9), f_memory a), ((a 60), .inl (g 0, 8, .inl (fun _ => 0)))] s.heap.size) [((a 9), f_memory a), ((a 60), .inl (g 0, 8, .inl (upd (fun _ => 0) (5 : Int32).toNatClampNeg (1 <<< (p1 &&& 31)))))] := hD
      refine lv_iconst (v := 0) hx hb dX5_mark_38 (by decide) ?_
      refine lv_istore (lv' := [(5, .int 0), (4, .int (1 <<< (p1 &&& 31))), (0, .ref (a 9)), (1, .int 5), (2, .int p1), (3, .int p2)]) hx hb dX5_mark_39 hl (by decide) rfl (fun ls hl => ?_)
      refine lv_iconst (v := 0) hx hb dX5_mark_41 (by decide) ?_
      refine lv_istore (lv' := [(6, .int 0), (5, .int 0), (4, .int (1 <<< (p1 &&& 31))), (0, .ref (a 9)), (1, .int 5), (2, .int p1), (3, .int p2)]) hx hb dX5_mark_42 hl (by decide) rfl (fun ls hl => ?_)
      refine lv_iload hx hb dX5_mark_44 (lv_at hl 0 rfl) ?_
      refine lv_bipush (v := 8) hx hb dX5_mark_46 (by decide) ?_
      refine lv_icmp_ge (tgt := 72) hx hb dX5_mark_48 (by decide) (fun c_107 => ?_) (fun c_107 => ?_)
      · exact absurd c_107 (by decide)
      · refine lv_iload hx hb dX5_mark_51 (lv_at hl 1 rfl) ?_
        refine lv_aload_n hx hb dX5_mark_53 rfl (lv_at hl 3 rfl) ?_
        refine va_get (D := D) (ci := 11) (v := .ref (a 60)) (C := RX5) (T := TX5) (N := 9) hx hb ht in_X5 hown hK.1 hP 0 rfl rfl 1 (by decide) (ht _ w_281) (fun _ h9 => h9) rfl dX5_mark_54 ?_
        refine lv_iload hx hb dX5_mark_57 (lv_at hl 0 rfl) ?_
        refine va_iald hx hb hK.1 hP 1 0 rfl rfl (by unfold vp_in; decide) dX5_mark_59 ?_
        refine r_topi (v := 0) rfl ?_
        have hPc : va_P D vwCl [] _ := hP.sub (ws' := []) [] rfl
        have hDc : va_D (fun q => z0 ≤ q) [] := (hD.to hAz).pick (ws' := []) [] (by decide) rfl
        have hFc := AnA (ws := [((a 9), f_memory a), ((a 60), .inl (g 0, 8, .inl (fun _ => 0)))]) hS.1
        refine va_calli (va_runS (As := [.int 0]) (rest := [.int 0]) ⟨hx, hb, hml, hown, ht⟩ (k_J6_bitCount_0f7a4 l D g z0 _ a) (va_cwS 1 ht (gS w_277 w_279 w_280 w_278) rfl rfl rfl (by decide +kernel) (le2 rfl rfl)) ⟨PP.blind, PP.mk' hK hZ hz hAz hS hPc hDc⟩ rfl rfl hl.1 rfl (lv_room (Nat.le_of_ble_eq_true rfl)) dX5_mark_60 (le2 rfl rfl)) hS (fun q _ h => hFc q h) hFc (fun r u t H locs ht1 hvm hw hB hz1 hk1 hS => ?_)
        obtain ⟨rfl, hw⟩ := hw
        have hP := ro1 hP hk1
        refine lv_iadd hx hb dX5_mark_63 ?_
        refine r_topi (v := 0) (by decide) ?_
        refine lv_istore (lv' := [(5, .int 0), (6, .int 0), (4, .int (1 <<< (p1 &&& 31))), (0, .ref (a 9)), (1, .int 5), (2, .int p1), (3, .int p2)]) hx hb dX5_mark_64 hl (by decide) rfl (fun ls hl => ?_)
        refine lv_iinc (v := 1) (lv' := [(6, .int 1), (5, .int 0), (4, .int (1 <<< (p1 &&& 31))), (0, .ref (a 9)), (1, .int 5), (2, .int p1), (3, .int p2)]) hx hb dX5_mark_66 hl (k := 1) rfl (by decide) (by decide) rfl (fun ls hl => ?_)
        refine lv_goto (tgt := 44) hx hb dX5_mark_69 (by decide) ?_
        refine lv_iload hx hb dX5_mark_44 (lv_at hl 0 rfl) ?_
        refine lv_bipush (v := 8) hx hb dX5_mark_46 (by decide) ?_
        refine lv_icmp_ge (tgt := 72) hx hb dX5_mark_48 (by decide) (fun c_108 => ?_) (fun c_108 => ?_)
        · exact absurd c_108 (by decide)
        · refine lv_iload hx hb dX5_mark_51 (lv_at hl 1 rfl) ?_
          refine lv_aload_n hx hb dX5_mark_53 rfl (lv_at hl 3 rfl) ?_
          refine va_get (D := D) (ci := 11) (v := .ref (a 60)) (C := RX5) (T := TX5) (N := 9) hx hb ht in_X5 hown hK.1 hP 0 rfl rfl 1 (by decide) (ht _ w_281) (fun _ h9 => h9) rfl dX5_mark_54 ?_
          refine lv_iload hx hb dX5_mark_57 (lv_at hl 0 rfl) ?_
          refine va_iald hx hb hK.1 hP 1 0 rfl rfl (by unfold vp_in; decide) dX5_mark_59 ?_
          refine r_topi (v := 0) rfl ?_
          have hPc : va_P D vwCl [] _ := hP.sub (ws' := []) [] rfl
          have hDc : va_D (fun q => z0 ≤ q) [] := (hD.to hAz).pick (ws' := []) [] (by decide) rfl
          have hFc := AnA (ws := [((a 9), f_memory a), ((a 60), .inl (g 0, 8, .inl (fun _ => 0)))]) hS.1
          refine va_calli (va_runS (As := [.int 0]) (rest := [.int 0]) ⟨hx, hb, hml, hown, ht⟩ (k_J6_bitCount_0f7a4 l D g z0 _ a) (va_cwS 1 ht (gS w_277 w_279 w_280 w_278) rfl rfl rfl (by decide +kernel) (le2 rfl rfl)) ⟨PP.blind, PP.mk' hK hZ hz hAz hS hPc hDc⟩ rfl rfl hl.1 rfl (lv_room (Nat.le_of_ble_eq_true rfl)) dX5_mark_60 (le2 rfl rfl)) hS (fun q _ h => hFc q h) hFc (fun r u t H locs ht1 hvm hw hB hz1 hk1 hS => ?_)
          obtain ⟨rfl, hw⟩ := hw
          have hP := ro1 hP hk1
          refine lv_iadd hx hb dX5_mark_63 ?_
          refine r_topi (v := 0) (by decide) ?_
          refine lv_istore (lv' := [(5, .int 0), (6, .int 1), (4, .int (1 <<< (p1 &&& 31))), (0, .ref (a 9)), (1, .int 5), (2, .int p1), (3, .int p2)]) hx hb dX5_mark_64 hl (by decide) rfl (fun ls hl => ?_)
          refine lv_iinc (v := 2) (lv' := [(6, .int 2), (5, .int 0), (4, .int (1 <<< (p1 &&& 31))), (0, .ref (a 9)), (1, .int 5), (2, .int p1), (3, .int p2)]) hx hb dX5_mark_66 hl (k := 1) rfl (by decide) (by decide) rfl (fun ls hl => ?_)
          refine lv_goto (tgt := 44) hx hb dX5_mark_69 (by decide) ?_
          refine lv_iload hx hb dX5_mark_44 (lv_at hl 0 rfl) ?_
          refine lv_bipush (v := 8) hx hb dX5_mark_46 (by decide) ?_
          refine lv_icmp_ge (tgt := 72) hx hb dX5_mark_48 (by decide) (fun c_109 => ?_) (fun c_109 => ?_)
          · exact absurd c_109 (by decide)
          · refine lv_iload hx hb dX5_mark_51 (lv_at hl 1 rfl) ?_
            refine lv_aload_n hx hb dX5_mark_53 rfl (lv_at hl 3 rfl) ?_
            refine va_get (D := D) (ci := 11) (v := .ref (a 60)) (C := RX5) (T := TX5) (N := 9) hx hb ht in_X5 hown hK.1 hP 0 rfl rfl 1 (by decide) (ht _ w_281) (fun _ h9 => h9) rfl dX5_mark_54 ?_
            refine lv_iload hx hb dX5_mark_57 (lv_at hl 0 rfl) ?_
            refine va_iald hx hb hK.1 hP 1 0 rfl rfl (by unfold vp_in; decide) dX5_mark_59 ?_
            refine r_topi (v := 0) rfl ?_
            have hPc : va_P D vwCl [] _ := hP.sub (ws' := []) [] rfl
            have hDc : va_D (fun q => z0 ≤ q) [] := (hD.to hAz).pick (ws' := []) [] (by decide) rfl
            have hFc := AnA (ws := [((a 9), f_memory a), ((a 60), .inl (g 0, 8, .inl (fun _ => 0)))]) hS.1
            refine va_calli (va_runS (As := [.int 0]) (rest := [.int 0]) ⟨hx, hb, hml, hown, ht⟩ (k_J6_bitCount_0f7a4 l D g z0 _ a) (va_cwS 1 ht (gS w_277 w_279 w_280 w_278) rfl rfl rfl (by decide +kernel) (le2 rfl rfl)) ⟨PP.blind, PP.mk' hK hZ hz hAz hS hPc hDc⟩ rfl rfl hl.1 rfl (lv_room (Nat.le_of_ble_eq_true rfl)) dX5_mark_60 (le2 rfl rfl)) hS (fun q _ h => hFc q h) hFc (fun r u t H locs ht1 hvm hw hB hz1 hk1 hS => ?_)
            obtain ⟨rfl, hw⟩ := hw
            have hP := ro1 hP hk1
            refine lv_iadd hx hb dX5_mark_63 ?_
            refine r_topi (v := 0) (by decide) ?_
            refine lv_istore (lv' := [(5, .int 0), (6, .int 2), (4, .int (1 <<< (p1 &&& 31))), (0, .ref (a 9)), (1, .int 5), (2, .int p1), (3, .int p2)]) hx hb dX5_mark_64 hl (by decide) rfl (fun ls hl => ?_)
            refine lv_iinc (v := 3) (lv' := [(6, .int 3), (5, .int 0), (4, .int (1 <<< (p1 &&& 31))), (0, .ref (a 9)), (1, .int 5), (2, .int p1), (3, .int p2)]) hx hb dX5_mark_66 hl (k := 1) rfl (by decide) (by decide) rfl (fun ls hl => ?_)
            refine lv_goto (tgt := 44) hx hb dX5_mark_69 (by decide) ?_
            refine lv_iload hx hb dX5_mark_44 (lv_at hl 0 rfl) ?_
            refine lv_bipush (v := 8) hx hb dX5_mark_46 (by decide) ?_
            refine lv_icmp_ge (tgt := 72) hx hb dX5_mark_48 (by decide) (fun c_110 => ?_) (fun c_110 => ?_)
            · exact absurd c_110 (by decide)
            · refine lv_iload hx hb dX5_mark_51 (lv_at hl 1 rfl) ?_
              refine lv_aload_n hx hb dX5_mark_53 rfl (lv_at hl 3 rfl) ?_
              refine va_get (D := D) (ci := 11) (v := .ref (a 60)) (C := RX5) (T := TX5) (N := 9) hx hb ht in_X5 hown hK.1 hP 0 rfl rfl 1 (by decide) (ht _ w_281) (fun _ h9 => h9) rfl dX5_mark_54 ?_
              refine lv_iload hx hb dX5_mark_57 (lv_at hl 0 rfl) ?_
              refine va_iald hx hb hK.1 hP 1 0 rfl rfl (by unfold vp_in; decide) dX5_mark_59 ?_
              refine r_topi (v := 0) rfl ?_
              have hPc : va_P D vwCl [] _ := hP.sub (ws' := []) [] rfl
              have hDc : va_D (fun q => z0 ≤ q) [] := (hD.to hAz).pick (ws' := []) [] (by decide) rfl
              have hFc := AnA (ws := [((a 9), f_memory a), ((a 60), .inl (g 0, 8, .inl (fun _ => 0)))]) hS.1
              refine va_calli (va_runS (As := [.int 0]) (rest := [.int 0]) ⟨hx, hb, hml, hown, ht⟩ (k_J6_bitCount_0f7a4 l D g z0 _ a) (va_cwS 1 ht (gS w_277 w_279 w_280 w_278) rfl rfl rfl (by decide +kernel) (le2 rfl rfl)) ⟨PP.blind, PP.mk' hK hZ hz hAz hS hPc hDc⟩ rfl rfl hl.1 rfl (lv_room (Nat.le_of_ble_eq_true rfl)) dX5_mark_60 (le2 rfl rfl)) hS (fun q _ h => hFc q h) hFc (fun r u t H locs ht1 hvm hw hB hz1 hk1 hS => ?_)
              obtain ⟨rfl, hw⟩ := hw
              have hP := ro1 hP hk1
              refine lv_iadd hx hb dX5_mark_63 ?_
              refine r_topi (v := 0) (by decide) ?_
              refine lv_istore (lv' := [(5, .int 0), (6, .int 3), (4, .int (1 <<< (p1 &&& 31))), (0, .ref (a 9)), (1, .int 5), (2, .int p1), (3, .int p2)]) hx hb dX5_mark_64 hl (by decide) rfl (fun ls hl => ?_)
              refine lv_iinc (v := 4) (lv' := [(6, .int 4), (5, .int 0), (4, .int (1 <<< (p1 &&& 31))), (0, .ref (a 9)), (1, .int 5), (2, .int p1), (3, .int p2)]) hx hb dX5_mark_66 hl (k := 1) rfl (by decide) (by decide) rfl (fun ls hl => ?_)
              refine lv_goto (tgt := 44) hx hb dX5_mark_69 (by decide) ?_
              refine lv_iload hx hb dX5_mark_44 (lv_at hl 0 rfl) ?_
              refine lv_bipush (v := 8) hx hb dX5_mark_46 (by decide) ?_
              refine lv_icmp_ge (tgt := 72) hx hb dX5_mark_48 (by decide) (fun c_111 => ?_) (fun c_111 => ?_)
              · exact absurd c_111 (by decide)
              · refine lv_iload hx hb dX5_mark_51 (lv_at hl 1 rfl) ?_
                refine lv_aload_n hx hb dX5_mark_53 rfl (lv_at hl 3 rfl) ?_
                refine va_get (D := D) (ci := 11) (v := .ref (a 60)) (C := RX5) (T := TX5) (N := 9) hx hb ht in_X5 hown hK.1 hP 0 rfl rfl 1 (by decide) (ht _ w_281) (fun _ h9 => h9) rfl dX5_mark_54 ?_
                refine lv_iload hx hb dX5_mark_57 (lv_at hl 0 rfl) ?_
                refine va_iald hx hb hK.1 hP 1 0 rfl rfl (by unfold vp_in; decide) dX5_mark_59 ?_
                refine r_topi (v := 0) rfl ?_
                have hPc : va_P D vwCl [] _ := hP.sub (ws' := []) [] rfl
                have hDc : va_D (fun q => z0 ≤ q) [] := (hD.to hAz).pick (ws' := []) [] (by decide) rfl
                have hFc := AnA (ws := [((a 9), f_memory a), ((a 60), .inl (g 0, 8, .inl (fun _ => 0)))]) hS.1
                refine va_calli (va_runS (As := [.int 0]) (rest := [.int 0]) ⟨hx, hb, hml, hown, ht⟩ (k_J6_bitCount_0f7a4 l D g z0 _ a) (va_cwS 1 ht (gS w_277 w_279 w_280 w_278) rfl rfl rfl (by decide +kernel) (le2 rfl rfl)) ⟨PP.blind, PP.mk' hK hZ hz hAz hS hPc hDc⟩ rfl rfl hl.1 rfl (lv_room (Nat.le_of_ble_eq_true rfl)) dX5_mark_60 (le2 rfl rfl)) hS (fun q _ h => hFc q h) hFc (fun r u t H locs ht1 hvm hw hB hz1 hk1 hS => ?_)
                obtain ⟨rfl, hw⟩ := hw
                have hP := ro1 hP hk1
                refine lv_iadd hx hb dX5_mark_63 ?_
                refine r_topi (v := 0) (by decide) ?_
                refine lv_istore (lv' := [(5, .int 0), (6, .int 4), (4, .int (1 <<< (p1 &&& 31))), (0, .ref (a 9)), (1, .int 5), (2, .int p1), (3, .int p2)]) hx hb dX5_mark_64 hl (by decide) rfl (fun ls hl => ?_)
                refine lv_iinc (v := 5) (lv' := [(6, .int 5), (5, .int 0), (4, .int (1 <<< (p1 &&& 31))), (0, .ref (a 9)), (1, .int 5), (2, .int p1), (3, .int p2)]) hx hb dX5_mark_66 hl (k := 1) rfl (by decide) (by decide) rfl (fun ls hl => ?_)
                refine lv_goto (tgt := 44) hx hb dX5_mark_69 (by decide) ?_
                refine lv_iload hx hb dX5_mark_44 (lv_at hl 0 rfl) ?_
                refine lv_bipush (v := 8) hx hb dX5_mark_46 (by decide) ?_
                refine lv_icmp_ge (tgt := 72) hx hb dX5_mark_48 (by decide) (fun c_112 => ?_) (fun c_112 => ?_)
                · exact absurd c_112 (by decide)
                · refine lv_iload hx hb dX5_mark_51 (lv_at hl 1 rfl) ?_
                  refine lv_aload_n hx hb dX5_mark_53 rfl (lv_at hl 3 rfl) ?_
                  refine va_get (D := D) (ci := 11) (v := .ref (a 60)) (C := RX5) (T := TX5) (N := 9) hx hb ht in_X5 hown hK.1 hP 0 rfl rfl 1 (by decide) (ht _ w_281) (fun _ h9 => h9) rfl dX5_mark_54 ?_
                  refine lv_iload hx hb dX5_mark_57 (lv_at hl 0 rfl) ?_
                  refine va_iald hx hb hK.1 hP 1 0 rfl rfl (by unfold vp_in; decide) dX5_mark_59 ?_
                  refine r_topi (v := 1 <<< (p1 &&& 31)) rfl ?_
                  have hPc : va_P D vwCl [] _ := hP.sub (ws' := []) [] rfl
                  have hDc : va_D (fun q => z0 ≤ q) [] := (hD.to hAz).pick (ws' := []) [] (by decide) rfl
                  have hFc := AnA (ws := [((a 9), f_memory a), ((a 60), .inl (g 0, 8, .inl (fun _ => 0)))]) hS.1
                  refine va_calli (va_runS (As := [.int (1 <<< (p1 &&& 31))]) (rest := [.int 0]) ⟨hx, hb, hml, hown, ht⟩ (k_J6_bitCount_0f7a4_v1 l D g z0 _ a (1 <<< (p1 &&& 31))) (va_cwS 1 ht (gS w_277 w_279 w_280 w_278) rfl rfl rfl (by decide +kernel) (le2 rfl rfl)) ⟨PP.blind, PP.mk' hK hZ hz hAz hS hPc hDc⟩ rfl rfl hl.1 rfl (lv_room (Nat.le_of_ble_eq_true rfl)) dX5_mark_60 (le2 rfl rfl)) hS (fun q _ h => hFc q h) hFc (fun r u t H locs ht1 hvm hw hB hz1 hk1 hS => ?_)
                  obtain ⟨rfl, hw⟩ := hw
                  have hP := ro1 hP hk1
                  refine r_topi (v := 1) (bit1 (lo_nlt hy2) (up_lt hy3)) ?_
                  refine lv_iadd hx hb dX5_mark_63 ?_
                  refine r_topi (v := 1) (by decide) ?_
                  refine lv_istore (lv' := [(5, .int 1), (6, .int 5), (4, .int (1 <<< (p1 &&& 31))), (0, .ref (a 9)), (1, .int 5), (2, .int p1), (3, .int p2)]) hx hb dX5_mark_64 hl (by decide) rfl (fun ls hl => ?_)
                  refine lv_iinc (v := 6) (lv' := [(6, .int 6), (5, .int 1), (4, .int (1 <<< (p1 &&& 31))), (0, .ref (a 9)), (1, .int 5), (2, .int p1), (3, .int p2)]) hx hb dX5_mark_66 hl (k := 1) rfl (by decide) (by decide) rfl (fun ls hl => ?_)
                  refine lv_goto (tgt := 44) hx hb dX5_mark_69 (by decide) ?_
                  refine lv_iload hx hb dX5_mark_44 (lv_at hl 0 rfl) ?_
                  refine lv_bipush (v := 8) hx hb dX5_mark_46 (by decide) ?_
                  refine lv_icmp_ge (tgt := 72) hx hb dX5_mark_48 (by decide) (fun c_113 => ?_) (fun c_113 => ?_)
                  · exact absurd c_113 (by decide)
                  · refine lv_iload hx hb dX5_mark_51 (lv_at hl 1 rfl) ?_
                    refine lv_aload_n hx hb dX5_mark_53 rfl (lv_at hl 3 rfl) ?_
                    refine va_get (D := D) (ci := 11) (v := .ref (a 60)) (C := RX5) (T := TX5) (N := 9) hx hb ht in_X5 hown hK.1 hP 0 rfl rfl 1 (by decide) (ht _ w_281) (fun _ h9 => h9) rfl dX5_mark_54 ?_
                    refine lv_iload hx hb dX5_mark_57 (lv_at hl 0 rfl) ?_
                    refine va_iald hx hb hK.1 hP 1 0 rfl rfl (by unfold vp_in; decide) dX5_mark_59 ?_
                    refine r_topi (v := 0) rfl ?_
                    have hPc : va_P D vwCl [] _ := hP.sub (ws' := []) [] rfl
                    have hDc : va_D (fun q => z0 ≤ q) [] := (hD.to hAz).pick (ws' := []) [] (by decide) rfl
                    have hFc := AnA (ws := [((a 9), f_memory a), ((a 60), .inl (g 0, 8, .inl (fun _ => 0)))]) hS.1
                    refine va_calli (va_runS (As := [.int 0]) (rest := [.int 1]) ⟨hx, hb, hml, hown, ht⟩ (k_J6_bitCount_0f7a4 l D g z0 _ a) (va_cwS 1 ht (gS w_277 w_279 w_280 w_278) rfl rfl rfl (by decide +kernel) (le2 rfl rfl)) ⟨PP.blind, PP.mk' hK hZ hz hAz hS hPc hDc⟩ rfl rfl hl.1 rfl (lv_room (Nat.le_of_ble_eq_true rfl)) dX5_mark_60 (le2 rfl rfl)) hS (fun q _ h => hFc q h) hFc (fun r u t H locs ht1 hvm hw hB hz1 hk1 hS => ?_)
                    obtain ⟨rfl, hw⟩ := hw
                    have hP := ro1 hP hk1
                    refine lv_iadd hx hb dX5_mark_63 ?_
                    refine r_topi (v := 1) (by decide) ?_
                    refine lv_istore (lv' := [(5, .int 1), (6, .int 6), (4, .int (1 <<< (p1 &&& 31))), (0, .ref (a 9)), (1, .int 5), (2, .int p1), (3, .int p2)]) hx hb dX5_mark_64 hl (by decide) rfl (fun ls hl => ?_)
                    refine lv_iinc (v := 7) (lv' := [(6, .int 7), (5, .int 1), (4, .int (1 <<< (p1 &&& 31))), (0, .ref (a 9)), (1, .int 5), (2, .int p1), (3, .int p2)]) hx hb dX5_mark_66 hl (k := 1) rfl (by decide) (by decide) rfl (fun ls hl => ?_)
                    refine lv_goto (tgt := 44) hx hb dX5_mark_69 (by decide) ?_
                    refine lv_iload hx hb dX5_mark_44 (lv_at hl 0 rfl) ?_
                    refine lv_bipush (v := 8) hx hb dX5_mark_46 (by decide) ?_
                    refine lv_icmp_ge (tgt := 72) hx hb dX5_mark_48 (by decide) (fun c_114 => ?_) (fun c_114 => ?_)
                    · exact absurd c_114 (by decide)
                    · refine lv_iload hx hb dX5_mark_51 (lv_at hl 1 rfl) ?_
                      refine lv_aload_n hx hb dX5_mark_53 rfl (lv_at hl 3 rfl) ?_
                      refine va_get (D := D) (ci := 11) (v := .ref (a 60)) (C := RX5) (T := TX5) (N := 9) hx hb ht in_X5 hown hK.1 hP 0 rfl rfl 1 (by decide) (ht _ w_281) (fun _ h9 => h9) rfl dX5_mark_54 ?_
                      refine lv_iload hx hb dX5_mark_57 (lv_at hl 0 rfl) ?_
                      refine va_iald hx hb hK.1 hP 1 0 rfl rfl (by unfold vp_in; decide) dX5_mark_59 ?_
                      refine r_topi (v := 0) rfl ?_
                      have hPc : va_P D vwCl [] _ := hP.sub (ws' := []) [] rfl
                      have hDc : va_D (fun q => z0 ≤ q) [] := (hD.to hAz).pick (ws' := []) [] (by decide) rfl
                      have hFc := AnA (ws := [((a 9), f_memory a), ((a 60), .inl (g 0, 8, .inl (fun _ => 0)))]) hS.1
                      refine va_calli (va_runS (As := [.int 0]) (rest := [.int 1]) ⟨hx, hb, hml, hown, ht⟩ (k_J6_bitCount_0f7a4 l D g z0 _ a) (va_cwS 1 ht (gS w_277 w_279 w_280 w_278) rfl rfl rfl (by decide +kernel) (le2 rfl rfl)) ⟨PP.blind, PP.mk' hK hZ hz hAz hS hPc hDc⟩ rfl rfl hl.1 rfl (lv_room (Nat.le_of_ble_eq_true rfl)) dX5_mark_60 (le2 rfl rfl)) hS (fun q _ h => hFc q h) hFc (fun r u t H locs ht1 hvm hw hB hz1 hk1 hS => ?_)
                      obtain ⟨rfl, hw⟩ := hw
                      have hP := ro1 hP hk1
                      refine lv_iadd hx hb dX5_mark_63 ?_
                      refine r_topi (v := 1) (by decide) ?_
                      refine lv_istore (lv' := [(5, .int 1), (6, .int 7), (4, .int (1 <<< (p1 &&& 31))), (0, .ref (a 9)), (1, .int 5), (2, .int p1), (3, .int p2)]) hx hb dX5_mark_64 hl (by decide) rfl (fun ls hl => ?_)
                      refine lv_iinc (v := 8) (lv' := [(6, .int 8), (5, .int 1), (4, .int (1 <<< (p1 &&& 31))), (0, .ref (a 9)), (1, .int 5), (2, .int p1), (3, .int p2)]) hx hb dX5_mark_66 hl (k := 1) rfl (by decide) (by decide) rfl (fun ls hl => ?_)
                      refine lv_goto (tgt := 44) hx hb dX5_mark_69 (by decide) ?_
                      refine lv_iload hx hb dX5_mark_44 (lv_at hl 0 rfl) ?_
                      refine lv_bipush (v := 8) hx hb dX5_mark_46 (by decide) ?_
                      refine lv_icmp_ge (tgt := 72) hx hb dX5_mark_48 (by decide) (fun c_115 => ?_) (fun c_115 => ?_)
                      · refine lv_iload hx hb dX5_mark_72 (lv_at hl 1 rfl) ?_
                        have hP9 := hP.sub (ws' := []) [] rfl
                        have hD9 := hD.sub (ws' := []) [] (by decide) rfl
                        refine W.widen (k := 0) (n := 0) (Nat.le_of_ble_eq_true rfl) (Nat.le_of_ble_eq_true rfl) ?_
                        exact W.iret (v := 1) hx hb hr (fun t ht9 hW9 => ⟨⟨1, (), rfl, (Or.inr ⟨rfl, c_97⟩), ⟨(by rw [ht9]; exact hP9), hD9⟩⟩, hS.F ht9⟩) hS.2.2 dX5_mark_74 hlocks
                      · exact absurd c_115 (by decide)
  · subst e_1
    have hl : lv_has ls 7 [(4, .int (1 <<< (p1 &&& 31))), (0, .ref (a 9)), (1, .int 6), (2, .int p1), (3, .int p2)] := hl
    refine lv_aload_n hx hb dX5_mark_5 rfl (lv_at hl 1 rfl) ?_
    refine va_get (D := D) (ci := 11) (v := .ref (a 60)) (C := RX5) (T := TX5) (N := 9) hx hb ht in_X5 hown hK.1 hP 0 rfl rfl 1 (by decide) (ht _ w_281) (fun _ h9 => h9) rfl dX5_mark_6 ?_
    refine lv_iload_n hx hb dX5_mark_9 rfl (lv_at hl 2 rfl) ?_
    refine lv_iload_n hx hb dX5_mark_10 rfl (lv_at hl 4 rfl) ?_
    refine lv_if_eq (tgt := 26) hx hb dX5_mark_11 (by decide) (fun c_116 => ?_) (fun c_116 => ?_)
    · refine lv_aload_n hx hb dX5_mark_26 rfl (lv_at hl 1 rfl) ?_
      refine va_get (D := D) (ci := 11) (v := .ref (a 60)) (C := RX5) (T := TX5) (N := 9) hx hb ht in_X5 hown hK.1 hP 0 rfl rfl 1 (by decide) (ht _ w_281) (fun _ h9 => h9) rfl dX5_mark_27 ?_
      refine lv_iload_n hx hb dX5_mark_30 rfl (lv_at hl 2 rfl) ?_
      refine va_iald hx hb hK.1 hP 1 0 rfl rfl (by unfold vp_in; decide) dX5_mark_31 ?_
      refine r_topi (v := 0) rfl ?_
      refine lv_iload hx hb dX5_mark_32 (lv_at hl 0 rfl) ?_
      refine lv_iconst (v := (-1)) hx hb dX5_mark_34 (by decide) ?_
      refine lv_ixor hx hb dX5_mark_35 ?_
      refine lv_iand hx hb dX5_mark_36 ?_
      refine r_topi (v := 0) (z_and _) ?_
      refine va_iast hx hb hK.1 hP hD hS 1 0 rfl rfl (by unfold vp_in; decide) dX5_mark_37 (fun H locs hP hD hS => ?_)
      have hP : va_P D vwCl [((a 9), f_memory a), ((a 60), .inl (g 0, 8, .inl (upd (fun _ => 0) (6 : Int32).toNatClampNeg 0)))] H := hP
      have hD : va_D (va_A [((a 9), f_memory a), ((a 60), .inl (g 0, 8, .inl (fun _ => 0)))] s.heap.size) [((a 9), f_memory a), ((a 60), .inl (g 0, 8, .inl (upd (fun _ => 0) (6 : Int32).toNatClampNeg 0)))] := hD
      refine lv_iconst (v := 0) hx hb dX5_mark_38 (by decide) ?_
      refine lv_istore (lv' := [(5, .int 0), (4, .int (1 <<< (p1 &&& 31))), (0, .ref (a 9)), (1, .int 6), (2, .int p1), (3, .int p2)]) hx hb dX5_mark_39 hl (by decide) rfl (fun ls hl => ?_)
      refine lv_iconst (v := 0) hx hb dX5_mark_41 (by decide) ?_
      refine lv_istore (lv' := [(6, .int 0), (5, .int 0), (4, .int (1 <<< (p1 &&& 31))), (0, .ref (a 9)), (1, .int 6), (2, .int p1), (3, .int p2)]) hx hb dX5_mark_42 hl (by decide) rfl (fun ls hl => ?_)
      refine lv_iload hx hb dX5_mark_44 (lv_at hl 0 rfl) ?_
      refine lv_bipush (v := 8) hx hb dX5_mark_46 (by decide) ?_
      refine lv_icmp_ge (tgt := 72) hx hb dX5_mark_48 (by decide) (fun c_117 => ?_) (fun c_117 => ?_)
      · exact absurd c_117 (by decide)
      · refine lv_iload hx hb dX5_mark_51 (lv_at hl 1 rfl) ?_
        refine lv_aload_n hx hb dX5_mark_53 rfl (lv_at hl 3 rfl) ?_
        refine va_get (D := D) (ci := 11) (v := .ref (a 60)) (C := RX5) (T := TX5) (N := 9) hx hb ht in_X5 hown hK.1 hP 0 rfl rfl 1 (by decide) (ht _ w_281) (fun _ h9 => h9) rfl dX5_mark_54 ?_
        refine lv_iload hx hb dX5_mark_57 (lv_at hl 0 rfl) ?_
        refine va_iald hx hb hK.1 hP 1 0 rfl rfl (by unfold vp_in; decide) dX5_mark_59 ?_
        refine r_topi (v := 0) rfl ?_
        have hPc : va_P D vwCl [] _ := hP.sub (ws' := []) [] rfl
        have hDc : va_D (fun q => z0 ≤ q) [] := (hD.to hAz).pick (ws' := []) [] (by decide) rfl
        have hFc := AnA (ws := [((a 9), f_memory a), ((a 60), .inl (g 0, 8, .inl (fun _ => 0)))]) hS.1
        refine va_calli (va_runS (As := [.int 0]) (rest := [.int 0]) ⟨hx, hb, hml, hown, ht⟩ (k_J6_bitCount_0f7a4 l D g z0 _ a) (va_cwS 1 ht (gS w_277 w_279 w_280 w_278) rfl rfl rfl (by decide +kernel) (le2 rfl rfl)) ⟨PP.blind, PP.mk' hK hZ hz hAz hS hPc hDc⟩ rfl rfl hl.1 rfl (lv_room (Nat.le_of_ble_eq_true rfl)) dX5_mark_60 (le2 rfl rfl)) hS (fun q _ h => hFc q h) hFc (fun r u t H locs ht1 hvm hw hB hz1 hk1 hS => ?_)
        obtain ⟨rfl, hw⟩ := hw
        have hP := ro1 hP hk1
        refine lv_iadd hx hb dX5_mark_63 ?_
        refine r_topi (v := 0) (by decide) ?_
        refine lv_istore (lv' := [(5, .int 0), (6, .int 0), (4, .int (1 <<< (p1 &&& 31))), (0, .ref (a 9)), (1, .int 6), (2, .int p1), (3, .int p2)]) hx hb dX5_mark_64 hl (by decide) rfl (fun ls hl => ?_)
        refine lv_iinc (v := 1) (lv' := [(6, .int 1), (5, .int 0), (4, .int (1 <<< (p1 &&& 31))), (0, .ref (a 9)), (1, .int 6), (2, .int p1), (3, .int p2)]) hx hb dX5_mark_66 hl (k := 1) rfl (by decide) (by decide) rfl (fun ls hl => ?_)
        refine lv_goto (tgt := 44) hx hb dX5_mark_69 (by decide) ?_
        refine lv_iload hx hb dX5_mark_44 (lv_at hl 0 rfl) ?_
        refine lv_bipush (v := 8) hx hb dX5_mark_46 (by decide) ?_
        refine lv_icmp_ge (tgt := 72) hx hb dX5_mark_48 (by decide) (fun c_118 => ?_) (fun c_118 => ?_)
        · exact absurd c_118 (by decide)
        · refine lv_iload hx hb dX5_mark_51 (lv_at hl 1 rfl) ?_
          refine lv_aload_n hx hb dX5_mark_53 rfl (lv_at hl 3 rfl) ?_
          refine va_get (D := D) (ci := 11) (v := .ref (a 60)) (C := RX5) (T := TX5) (N := 9) hx hb ht in_X5 hown hK.1 hP 0 rfl rfl 1 (by decide) (ht _ w_281) (fun _ h9 => h9) rfl dX5_mark_54 ?_
          refine lv_iload hx hb dX5_mark_57 (lv_at hl 0 rfl) ?_
          refine va_iald hx hb hK.1 hP 1 0 rfl rfl (by unfold vp_in; decide) dX5_mark_59 ?_
          refine r_topi (v := 0) rfl ?_
          have hPc : va_P D vwCl [] _ := hP.sub (ws' := []) [] rfl
          have hDc : va_D (fun q => z0 ≤ q) [] := (hD.to hAz).pick (ws' := []) [] (by decide) rfl
          have hFc := AnA (ws := [((a 9), f_memory a), ((a 60), .inl (g 0, 8, .inl (fun _ => 0)))]) hS.1
          refine va_calli (va_runS (As := [.int 0]) (rest := [.int 0]) ⟨hx, hb, hml, hown, ht⟩ (k_J6_bitCount_0f7a4 l D g z0 _ a) (va_cwS 1 ht (gS w_277 w_279 w_280 w_278) rfl rfl rfl (by decide +kernel) (le2 rfl rfl)) ⟨PP.blind, PP.mk' hK hZ hz hAz hS hPc hDc⟩ rfl rfl hl.1 rfl (lv_room (Nat.le_of_ble_eq_true rfl)) dX5_mark_60 (le2 rfl rfl)) hS (fun q _ h => hFc q h) hFc (fun r u t H locs ht1 hvm hw hB hz1 hk1 hS => ?_)
          obtain ⟨rfl, hw⟩ := hw
          have hP := ro1 hP hk1
          refine lv_iadd hx hb dX5_mark_63 ?_
          refine r_topi (v := 0) (by decide) ?_
          refine lv_istore (lv' := [(5, .int 0), (6, .int 1), (4, .int (1 <<< (p1 &&& 31))), (0, .ref (a 9)), (1, .int 6), (2, .int p1), (3, .int p2)]) hx hb dX5_mark_64 hl (by decide) rfl (fun ls hl => ?_)
          refine lv_iinc (v := 2) (lv' := [(6, .int 2), (5, .int 0), (4, .int (1 <<< (p1 &&& 31))), (0, .ref (a 9)), (1, .int 6), (2, .int p1), (3, .int p2)]) hx hb dX5_mark_66 hl (k := 1) rfl (by decide) (by decide) rfl (fun ls hl => ?_)
          refine lv_goto (tgt := 44) hx hb dX5_mark_69 (by decide) ?_
          refine lv_iload hx hb dX5_mark_44 (lv_at hl 0 rfl) ?_
          refine lv_bipush (v := 8) hx hb dX5_mark_46 (by decide) ?_
          refine lv_icmp_ge (tgt := 72) hx hb dX5_mark_48 (by decide) (fun c_119 => ?_) (fun c_119 => ?_)
          · exact absurd c_119 (by decide)
          · refine lv_iload hx hb dX5_mark_51 (lv_at hl 1 rfl) ?_
            refine lv_aload_n hx hb dX5_mark_53 rfl (lv_at hl 3 rfl) ?_
            refine va_get (D := D) (ci := 11) (v := .ref (a 60)) (C := RX5) (T := TX5) (N := 9) hx hb ht in_X5 hown hK.1 hP 0 rfl rfl 1 (by decide) (ht _ w_281) (fun _ h9 => h9) rfl dX5_mark_54 ?_
            refine lv_iload hx hb dX5_mark_57 (lv_at hl 0 rfl) ?_
            refine va_iald hx hb hK.1 hP 1 0 rfl rfl (by unfold vp_in; decide) dX5_mark_59 ?_
            refine r_topi (v := 0) rfl ?_
            have hPc : va_P D vwCl [] _ := hP.sub (ws' := []) [] rfl
            have hDc : va_D (fun q => z0 ≤ q) [] := (hD.to hAz).pick (ws' := []) [] (by decide) rfl
            have hFc := AnA (ws := [((a 9), f_memory a), ((a 60), .inl (g 0, 8, .inl (fun _ => 0)))]) hS.1
            refine va_calli (va_runS (As := [.int 0]) (rest := [.int 0]) ⟨hx, hb, hml, hown, ht⟩ (k_J6_bitCount_0f7a4 l D g z0 _ a) (va_cwS 1 ht (gS w_277 w_279 w_280 w_278) rfl rfl rfl (by decide +kernel) (le2 rfl rfl)) ⟨PP.blind, PP.mk' hK hZ hz hAz hS hPc hDc⟩ rfl rfl hl.1 rfl (lv_room (Nat.le_of_ble_eq_true rfl)) dX5_mark_60 (le2 rfl rfl)) hS (fun q _ h => hFc q h) hFc (fun r u t H locs ht1 hvm hw hB hz1 hk1 hS => ?_)
            obtain ⟨rfl, hw⟩ := hw
            have hP := ro1 hP hk1
            refine lv_iadd hx hb dX5_mark_63 ?_
            refine r_topi (v := 0) (by decide) ?_
            refine lv_istore (lv' := [(5, .int 0), (6, .int 2), (4, .int (1 <<< (p1 &&& 31))), (0, .ref (a 9)), (1, .int 6), (2, .int p1), (3, .int p2)]) hx hb dX5_mark_64 hl (by decide) rfl (fun ls hl => ?_)
            refine lv_iinc (v := 3) (lv' := [(6, .int 3), (5, .int 0), (4, .int (1 <<< (p1 &&& 31))), (0, .ref (a 9)), (1, .int 6), (2, .int p1), (3, .int p2)]) hx hb dX5_mark_66 hl (k := 1) rfl (by decide) (by decide) rfl (fun ls hl => ?_)
            refine lv_goto (tgt := 44) hx hb dX5_mark_69 (by decide) ?_
            refine lv_iload hx hb dX5_mark_44 (lv_at hl 0 rfl) ?_
            refine lv_bipush (v := 8) hx hb dX5_mark_46 (by decide) ?_
            refine lv_icmp_ge (tgt := 72) hx hb dX5_mark_48 (by decide) (fun c_120 => ?_) (fun c_120 => ?_)
            · exact absurd c_120 (by decide)
            · refine lv_iload hx hb dX5_mark_51 (lv_at hl 1 rfl) ?_
              refine lv_aload_n hx hb dX5_mark_53 rfl (lv_at hl 3 rfl) ?_
              refine va_get (D := D) (ci := 11) (v := .ref (a 60)) (C := RX5) (T := TX5) (N := 9) hx hb ht in_X5 hown hK.1 hP 0 rfl rfl 1 (by decide) (ht _ w_281) (fun _ h9 => h9) rfl dX5_mark_54 ?_
              refine lv_iload hx hb dX5_mark_57 (lv_at hl 0 rfl) ?_
              refine va_iald hx hb hK.1 hP 1 0 rfl rfl (by unfold vp_in; decide) dX5_mark_59 ?_
              refine r_topi (v := 0) rfl ?_
              have hPc : va_P D vwCl [] _ := hP.sub (ws' := []) [] rfl
              have hDc : va_D (fun q => z0 ≤ q) [] := (hD.to hAz).pick (ws' := []) [] (by decide) rfl
              have hFc := AnA (ws := [((a 9), f_memory a), ((a 60), .inl (g 0, 8, .inl (fun _ => 0)))]) hS.1
              refine va_calli (va_runS (As := [.int 0]) (rest := [.int 0]) ⟨hx, hb, hml, hown, ht⟩ (k_J6_bitCount_0f7a4 l D g z0 _ a) (va_cwS 1 ht (gS w_277 w_279 w_280 w_278) rfl rfl rfl (by decide +kernel) (le2 rfl rfl)) ⟨PP.blind, PP.mk' hK hZ hz hAz hS hPc hDc⟩ rfl rfl hl.1 rfl (lv_room (Nat.le_of_ble_eq_true rfl)) dX5_mark_60 (le2 rfl rfl)) hS (fun q _ h => hFc q h) hFc (fun r u t H locs ht1 hvm hw hB hz1 hk1 hS => ?_)
              obtain ⟨rfl, hw⟩ := hw
              have hP := ro1 hP hk1
              refine lv_iadd hx hb dX5_mark_63 ?_
              refine r_topi (v := 0) (by decide) ?_
              refine lv_istore (lv' := [(5, .int 0), (6, .int 3), (4, .int (1 <<< (p1 &&& 31))), (0, .ref (a 9)), (1, .int 6), (2, .int p1), (3, .int p2)]) hx hb dX5_mark_64 hl (by decide) rfl (fun ls hl => ?_)
              refine lv_iinc (v := 4) (lv' := [(6, .int 4), (5, .int 0), (4, .int (1 <<< (p1 &&& 31))), (0, .ref (a 9)), (1, .int 6), (2, .int p1), (3, .int p2)]) hx hb dX5_mark_66 hl (k := 1) rfl (by decide) (by decide) rfl (fun ls hl => ?_)
              refine lv_goto (tgt := 44) hx hb dX5_mark_69 (by decide) ?_
              refine lv_iload hx hb dX5_mark_44 (lv_at hl 0 rfl) ?_
              refine lv_bipush (v := 8) hx hb dX5_mark_46 (by decide) ?_
              refine lv_icmp_ge (tgt := 72) hx hb dX5_mark_48 (by decide) (fun c_121 => ?_) (fun c_121 => ?_)
              · exact absurd c_121 (by decide)
              · refine lv_iload hx hb dX5_mark_51 (lv_at hl 1 rfl) ?_
                refine lv_aload_n hx hb dX5_mark_53 rfl (lv_at hl 3 rfl) ?_
                refine va_get (D := D) (ci := 11) (v := .ref (a 60)) (C := RX5) (T := TX5) (N := 9) hx hb ht in_X5 hown hK.1 hP 0 rfl rfl 1 (by decide) (ht _ w_281) (fun _ h9 => h9) rfl dX5_mark_54 ?_
                refine lv_iload hx hb dX5_mark_57 (lv_at hl 0 rfl) ?_
                refine va_iald hx hb hK.1 hP 1 0 rfl rfl (by unfold vp_in; decide) dX5_mark_59 ?_
                refine r_topi (v := 0) rfl ?_
                have hPc : va_P D vwCl [] _ := hP.sub (ws' := []) [] rfl
                have hDc : va_D (fun q => z0 ≤ q) [] := (hD.to hAz).pick (ws' := []) [] (by decide) rfl
                have hFc := AnA (ws := [((a 9), f_memory a), ((a 60), .inl (g 0, 8, .inl (fun _ => 0)))]) hS.1
                refine va_calli (va_runS (As := [.int 0]) (rest := [.int 0]) ⟨hx, hb, hml, hown, ht⟩ (k_J6_bitCount_0f7a4 l D g z0 _ a) (va_cwS 1 ht (gS w_277 w_279 w_280 w_278) rfl rfl rfl (by decide +kernel) (le2 rfl rfl)) ⟨PP.blind, PP.mk' hK hZ hz hAz hS hPc hDc⟩ rfl rfl hl.1 rfl (lv_room (Nat.le_of_ble_eq_true rfl)) dX5_mark_60 (le2 rfl rfl)) hS (fun q _ h => hFc q h) hFc (fun r u t H locs ht1 hvm hw hB hz1 hk1 hS => ?_)
                obtain ⟨rfl, hw⟩ := hw
                have hP := ro1 hP hk1
                refine lv_iadd hx hb dX5_mark_63 ?_
                refine r_topi (v := 0) (by decide) ?_
                refine lv_istore (lv' := [(5, .int 0), (6, .int 4), (4, .int (1 <<< (p1 &&& 31))), (0, .ref (a 9)), (1, .int 6), (2, .int p1), (3, .int p2)]) hx hb dX5_mark_64 hl (by decide) rfl (fun ls hl => ?_)
                refine lv_iinc (v := 5) (lv' := [(6, .int 5), (5, .int 0), (4, .int (1 <<< (p1 &&& 31))), (0, .ref (a 9)), (1, .int 6), (2, .int p1), (3, .int p2)]) hx hb dX5_mark_66 hl (k := 1) rfl (by decide) (by decide) rfl (fun ls hl => ?_)
                refine lv_goto (tgt := 44) hx hb dX5_mark_69 (by decide) ?_
                refine lv_iload hx hb dX5_mark_44 (lv_at hl 0 rfl) ?_
                refine lv_bipush (v := 8) hx hb dX5_mark_46 (by decide) ?_
                refine lv_icmp_ge (tgt := 72) hx hb dX5_mark_48 (by decide) (fun c_122 => ?_) (fun c_122 => ?_)
                · exact absurd c_122 (by decide)
                · refine lv_iload hx hb dX5_mark_51 (lv_at hl 1 rfl) ?_
                  refine lv_aload_n hx hb dX5_mark_53 rfl (lv_at hl 3 rfl) ?_
                  refine va_get (D := D) (ci := 11) (v := .ref (a 60)) (C := RX5) (T := TX5) (N := 9) hx hb ht in_X5 hown hK.1 hP 0 rfl rfl 1 (by decide) (ht _ w_281) (fun _ h9 => h9) rfl dX5_mark_54 ?_
                  refine lv_iload hx hb dX5_mark_57 (lv_at hl 0 rfl) ?_
                  refine va_iald hx hb hK.1 hP 1 0 rfl rfl (by unfold vp_in; decide) dX5_mark_59 ?_
                  refine r_topi (v := 0) rfl ?_
                  have hPc : va_P D vwCl [] _ := hP.sub (ws' := []) [] rfl
                  have hDc : va_D (fun q => z0 ≤ q) [] := (hD.to hAz).pick (ws' := []) [] (by decide) rfl
                  have hFc := AnA (ws := [((a 9), f_memory a), ((a 60), .inl (g 0, 8, .inl (fun _ => 0)))]) hS.1
                  refine va_calli (va_runS (As := [.int 0]) (rest := [.int 0]) ⟨hx, hb, hml, hown, ht⟩ (k_J6_bitCount_0f7a4 l D g z0 _ a) (va_cwS 1 ht (gS w_277 w_279 w_280 w_278) rfl rfl rfl (by decide +kernel) (le2 rfl rfl)) ⟨PP.blind, PP.mk' hK hZ hz hAz hS hPc hDc⟩ rfl rfl hl.1 rfl (lv_room (Nat.le_of_ble_eq_true rfl)) dX5_mark_60 (le2 rfl rfl)) hS (fun q _ h => hFc q h) hFc (fun r u t H locs ht1 hvm hw hB hz1 hk1 hS => ?_)
                  obtain ⟨rfl, hw⟩ := hw
                  have hP := ro1 hP hk1
                  refine lv_iadd hx hb dX5_mark_63 ?_
                  refine r_topi (v := 0) (by decide) ?_
                  refine lv_istore (lv' := [(5, .int 0), (6, .int 5), (4, .int (1 <<< (p1 &&& 31))), (0, .ref (a 9)), (1, .int 6), (2, .int p1), (3, .int p2)]) hx hb dX5_mark_64 hl (by decide) rfl (fun ls hl => ?_)
                  refine lv_iinc (v := 6) (lv' := [(6, .int 6), (5, .int 0), (4, .int (1 <<< (p1 &&& 31))), (0, .ref (a 9)), (1, .int 6), (2, .int p1), (3, .int p2)]) hx hb dX5_mark_66 hl (k := 1) rfl (by decide) (by decide) rfl (fun ls hl => ?_)
                  refine lv_goto (tgt := 44) hx hb dX5_mark_69 (by decide) ?_
                  refine lv_iload hx hb dX5_mark_44 (lv_at hl 0 rfl) ?_
                  refine lv_bipush (v := 8) hx hb dX5_mark_46 (by decide) ?_
                  refine lv_icmp_ge (tgt := 72) hx hb dX5_mark_48 (by decide) (fun c_123 => ?_) (fun c_123 => ?_)
                  · exact absurd c_123 (by decide)
                  · refine lv_iload hx hb dX5_mark_51 (lv_at hl 1 rfl) ?_
                    refine lv_aload_n hx hb dX5_mark_53 rfl (lv_at hl 3 rfl) ?_
                    refine va_get (D := D) (ci := 11) (v := .ref (a 60)) (C := RX5) (T := TX5) (N := 9) hx hb ht in_X5 hown hK.1 hP 0 rfl rfl 1 (by decide) (ht _ w_281) (fun _ h9 => h9) rfl dX5_mark_54 ?_
                    refine lv_iload hx hb dX5_mark_57 (lv_at hl 0 rfl) ?_
                    refine va_iald hx hb hK.1 hP 1 0 rfl rfl (by unfold vp_in; decide) dX5_mark_59 ?_
                    refine r_topi (v := 0) rfl ?_
                    have hPc : va_P D vwCl [] _ := hP.sub (ws' := []) [] rfl
                    have hDc : va_D (fun q => z0 ≤ q) [] := (hD.to hAz).pick (ws' := []) [] (by decide) rfl
                    have hFc := AnA (ws := [((a 9), f_memory a), ((a 60), .inl (g 0, 8, .inl (fun _ => 0)))]) hS.1
                    refine va_calli (va_runS (As := [.int 0]) (rest := [.int 0]) ⟨hx, hb, hml, hown, ht⟩ (k_J6_bitCount_0f7a4 l D g z0 _ a) (va_cwS 1 ht (gS w_277 w_279 w_280 w_278) rfl rfl rfl (by decide +kernel) (le2 rfl rfl)) ⟨PP.blind, PP.mk' hK hZ hz hAz hS hPc hDc⟩ rfl rfl hl.1 rfl (lv_room (Nat.le_of_ble_eq_true rfl)) dX5_mark_60 (le2 rfl rfl)) hS (fun q _ h => hFc q h) hFc (fun r u t H locs ht1 hvm hw hB hz1 hk1 hS => ?_)
                    obtain ⟨rfl, hw⟩ := hw
                    have hP := ro1 hP hk1
                    refine lv_iadd hx hb dX5_mark_63 ?_
                    refine r_topi (v := 0) (by decide) ?_
                    refine lv_istore (lv' := [(5, .int 0), (6, .int 6), (4, .int (1 <<< (p1 &&& 31))), (0, .ref (a 9)), (1, .int 6), (2, .int p1), (3, .int p2)]) hx hb dX5_mark_64 hl (by decide) rfl (fun ls hl => ?_)
                    refine lv_iinc (v := 7) (lv' := [(6, .int 7), (5, .int 0), (4, .int (1 <<< (p1 &&& 31))), (0, .ref (a 9)), (1, .int 6), (2, .int p1), (3, .int p2)]) hx hb dX5_mark_66 hl (k := 1) rfl (by decide) (by decide) rfl (fun ls hl => ?_)
                    refine lv_goto (tgt := 44) hx hb dX5_mark_69 (by decide) ?_
                    refine lv_iload hx hb dX5_mark_44 (lv_at hl 0 rfl) ?_
                    refine lv_bipush (v := 8) hx hb dX5_mark_46 (by decide) ?_
                    refine lv_icmp_ge (tgt := 72) hx hb dX5_mark_48 (by decide) (fun c_124 => ?_) (fun c_124 => ?_)
                    · exact absurd c_124 (by decide)
                    · refine lv_iload hx hb dX5_mark_51 (lv_at hl 1 rfl) ?_
                      refine lv_aload_n hx hb dX5_mark_53 rfl (lv_at hl 3 rfl) ?_
                      refine va_get (D := D) (ci := 11) (v := .ref (a 60)) (C := RX5) (T := TX5) (N := 9) hx hb ht in_X5 hown hK.1 hP 0 rfl rfl 1 (by decide) (ht _ w_281) (fun _ h9 => h9) rfl dX5_mark_54 ?_
                      refine lv_iload hx hb dX5_mark_57 (lv_at hl 0 rfl) ?_
                      refine va_iald hx hb hK.1 hP 1 0 rfl rfl (by unfold vp_in; decide) dX5_mark_59 ?_
                      refine r_topi (v := 0) rfl ?_
                      have hPc : va_P D vwCl [] _ := hP.sub (ws' := []) [] rfl
                      have hDc : va_D (fun q => z0 ≤ q) [] := (hD.to hAz).pick (ws' := []) [] (by decide) rfl
                      have hFc := AnA (ws := [((a 9), f_memory a), ((a 60), .inl (g 0, 8, .inl (fun _ => 0)))]) hS.1
                      refine va_calli (va_runS (As := [.int 0]) (rest := [.int 0]) ⟨hx, hb, hml, hown, ht⟩ (k_J6_bitCount_0f7a4 l D g z0 _ a) (va_cwS 1 ht (gS w_277 w_279 w_280 w_278) rfl rfl rfl (by decide +kernel) (le2 rfl rfl)) ⟨PP.blind, PP.mk' hK hZ hz hAz hS hPc hDc⟩ rfl rfl hl.1 rfl (lv_room (Nat.le_of_ble_eq_true rfl)) dX5_mark_60 (le2 rfl rfl)) hS (fun q _ h => hFc q h) hFc (fun r u t H locs ht1 hvm hw hB hz1 hk1 hS => ?_)
                      obtain ⟨rfl, hw⟩ := hw
                      have hP := ro1 hP hk1
                      refine lv_iadd hx hb dX5_mark_63 ?_
                      refine r_topi (v := 0) (by decide) ?_
                      refine lv_istore (lv' := [(5, .int 0), (6, .int 7), (4, .int (1 <<< (p1 &&& 31))), (0, .ref (a 9)), (1, .int 6), (2, .int p1), (3, .int p2)]) hx hb dX5_mark_64 hl (by decide) rfl (fun ls hl => ?_)
                      refine lv_iinc (v := 8) (lv' := [(6, .int 8), (5, .int 0), (4, .int (1 <<< (p1 &&& 31))), (0, .ref (a 9)), (1, .int 6), (2, .int p1), (3, .int p2)]) hx hb dX5_mark_66 hl (k := 1) rfl (by decide) (by decide) rfl (fun ls hl => ?_)
                      refine lv_goto (tgt := 44) hx hb dX5_mark_69 (by decide) ?_
                      refine lv_iload hx hb dX5_mark_44 (lv_at hl 0 rfl) ?_
                      refine lv_bipush (v := 8) hx hb dX5_mark_46 (by decide) ?_
                      refine lv_icmp_ge (tgt := 72) hx hb dX5_mark_48 (by decide) (fun c_125 => ?_) (fun c_125 => ?_)
                      · refine lv_iload hx hb dX5_mark_72 (lv_at hl 1 rfl) ?_
                        have hP9 := hP.sub (ws' := []) [] rfl
                        have hD9 := hD.sub (ws' := []) [] (by decide) rfl
                        refine W.widen (k := 0) (n := 0) (Nat.le_of_ble_eq_true rfl) (Nat.le_of_ble_eq_true rfl) ?_
                        exact W.iret (v := 0) hx hb hr (fun t ht9 hW9 => ⟨⟨0, (), rfl, (Or.inl ⟨rfl, c_116⟩), ⟨(by rw [ht9]; exact hP9), hD9⟩⟩, hS.F ht9⟩) hS.2.2 dX5_mark_74 hlocks
                      · exact absurd c_125 (by decide)
    · refine lv_aload_n hx hb dX5_mark_14 rfl (lv_at hl 1 rfl) ?_
      refine va_get (D := D) (ci := 11) (v := .ref (a 60)) (C := RX5) (T := TX5) (N := 9) hx hb ht in_X5 hown hK.1 hP 0 rfl rfl 1 (by decide) (ht _ w_281) (fun _ h9 => h9) rfl dX5_mark_15 ?_
      refine lv_iload_n hx hb dX5_mark_18 rfl (lv_at hl 2 rfl) ?_
      refine va_iald hx hb hK.1 hP 1 0 rfl rfl (by unfold vp_in; decide) dX5_mark_19 ?_
      refine r_topi (v := 0) rfl ?_
      refine lv_iload hx hb dX5_mark_20 (lv_at hl 0 rfl) ?_
      refine lv_ior hx hb dX5_mark_22 ?_
      refine r_topi (v := 1 <<< (p1 &&& 31)) (z_or _) ?_
      refine lv_goto (tgt := 37) hx hb dX5_mark_23 (by decide) ?_
      refine va_iast hx hb hK.1 hP hD hS 1 0 rfl rfl (by unfold vp_in; decide) dX5_mark_37 (fun H locs hP hD hS => ?_)
      have hP : va_P D vwCl [((a 9), f_memory a), ((a 60), .inl (g 0, 8, .inl (upd (fun _ => 0) (6 : Int32).toNatClampNeg (1 <<< (p1 &&& 31)))))] H := hP
      have hD : va_D (va_A [((a 9), f_memory a), ((a 60), .inl (g 0, 8, .inl (fun _ => 0)))] s.heap.size) [((a 9), f_memory a), ((a 60), .inl (g 0, 8, .inl (upd (fun _ => 0) (6 : Int32).toNatClampNeg (1 <<< (p1 &&& 31)))))] := hD
      refine lv_iconst (v := 0) hx hb dX5_mark_38 (by decide) ?_
      refine lv_istore (lv' := [(5, .int 0), (4, .int (1 <<< (p1 &&& 31))), (0, .ref (a 9)), (1, .int 6), (2, .int p1), (3, .int p2)]) hx hb dX5_mark_39 hl (by decide) rfl (fun ls hl => ?_)
      refine lv_iconst (v := 0) hx hb dX5_mark_41 (by decide) ?_
      refine lv_istore (lv' := [(6, .int 0), (5, .int 0), (4, .int (1 <<< (p1 &&& 31))), (0, .ref (a 9)), (1, .int 6), (2, .int p1), (3, .int p2)]) hx hb dX5_mark_42 hl (by decide) rfl (fun ls hl => ?_)
      refine lv_iload hx hb dX5_mark_44 (lv_at hl 0 rfl) ?_
      refine lv_bipush (v := 8) hx hb dX5_mark_46 (by decide) ?_
      refine lv_icmp_ge (tgt := 72) hx hb dX5_mark_48 (by decide) (fun c_126 => ?_) (fun c_126 => ?_)
      · exact absurd c_126 (by decide)
      · refine lv_iload hx hb dX5_mark_51 (lv_at hl 1 rfl) ?_
        refine lv_aload_n hx hb dX5_mark_53 rfl (lv_at hl 3 rfl) ?_
        refine va_get (D := D) (ci := 11) (v := .ref (a 60)) (C := RX5) (T := TX5) (N := 9) hx hb ht in_X5 hown hK.1 hP 0 rfl rfl 1 (by decide) (ht _ w_281) (fun _ h9 => h9) rfl dX5_mark_54 ?_
        refine lv_iload hx hb dX5_mark_57 (lv_at hl 0 rfl) ?_
        refine va_iald hx hb hK.1 hP 1 0 rfl rfl (by unfold vp_in; decide) dX5_mark_59 ?_
        refine r_topi (v := 0) rfl ?_
        have hPc : va_P D vwCl [] _ := hP.sub (ws' := []) [] rfl
        have hDc : va_D (fun q => z0 ≤ q) [] := (hD.to hAz).pick (ws' := []) [] (by decide) rfl
        have hFc := AnA (ws := [((a 9), f_memory a), ((a 60), .inl (g 0, 8, .inl (fun _ => 0)))]) hS.1
        refine va_calli (va_runS (As := [.int 0]) (rest := [.int 0]) ⟨hx, hb, hml, hown, ht⟩ (k_J6_bitCount_0f7a4 l D g z0 _ a) (va_cwS 1 ht (gS w_277 w_279 w_280 w_278) rfl rfl rfl (by decide +kernel) (le2 rfl rfl)) ⟨PP.blind, PP.mk' hK hZ hz hAz hS hPc hDc⟩ rfl rfl hl.1 rfl (lv_room (Nat.le_of_ble_eq_true rfl)) dX5_mark_60 (le2 rfl rfl)) hS (fun q _ h => hFc q h) hFc (fun r u t H locs ht1 hvm hw hB hz1 hk1 hS => ?_)
        obtain ⟨rfl, hw⟩ := hw
        have hP := ro1 hP hk1
        refine lv_iadd hx hb dX5_mark_63 ?_
        refine r_topi (v := 0) (by decide) ?_
        refine lv_istore (lv' := [(5, .int 0), (6, .int 0), (4, .int (1 <<< (p1 &&& 31))), (0, .ref (a 9)), (1, .int 6), (2, .int p1), (3, .int p2)]) hx hb dX5_mark_64 hl (by decide) rfl (fun ls hl => ?_)
        refine lv_iinc (v := 1) (lv' := [(6, .int 1), (5, .int 0), (4, .int (1 <<< (p1 &&& 31))), (0, .ref (a 9)), (1, .int 6), (2, .int p1), (3, .int p2)]) hx hb dX5_mark_66 hl (k := 1) rfl (by decide) (by decide) rfl (fun ls hl => ?_)
        refine lv_goto (tgt := 44) hx hb dX5_mark_69 (by decide) ?_
        refine lv_iload hx hb dX5_mark_44 (lv_at hl 0 rfl) ?_
        refine lv_bipush (v := 8) hx hb dX5_mark_46 (by decide) ?_
        refine lv_icmp_ge (tgt := 72) hx hb dX5_mark_48 (by decide) (fun c_127 => ?_) (fun c_127 => ?_)
        · exact absurd c_127 (by decide)
        · refine lv_iload hx hb dX5_mark_51 (lv_at hl 1 rfl) ?_
          refine lv_aload_n hx hb dX5_mark_53 rfl (lv_at hl 3 rfl) ?_
          refine va_get (D := D) (ci := 11) (v := .ref (a 60)) (C := RX5) (T := TX5) (N := 9) hx hb ht in_X5 hown hK.1 hP 0 rfl rfl 1 (by decide) (ht _ w_281) (fun _ h9 => h9) rfl dX5_mark_54 ?_
          refine lv_iload hx hb dX5_mark_57 (lv_at hl 0 rfl) ?_
          refine va_iald hx hb hK.1 hP 1 0 rfl rfl (by unfold vp_in; decide) dX5_mark_59 ?_
          refine r_topi (v := 0) rfl ?_
          have hPc : va_P D vwCl [] _ := hP.sub (ws' := []) [] rfl
          have hDc : va_D (fun q => z0 ≤ q) [] := (hD.to hAz).pick (ws' := []) [] (by decide) rfl
          have hFc := AnA (ws := [((a 9), f_memory a), ((a 60), .inl (g 0, 8, .inl (fun _ => 0)))]) hS.1
          refine va_calli (va_runS (As := [.int 0]) (rest := [.int 0]) ⟨hx, hb, hml, hown, ht⟩ (k_J6_bitCount_0f7a4 l D g z0 _ a) (va_cwS 1 ht (gS w_277 w_279 w_280 w_278) rfl rfl rfl (by decide +kernel) (le2 rfl rfl)) ⟨PP.blind, PP.mk' hK hZ hz hAz hS hPc hDc⟩ rfl rfl hl.1 rfl (lv_room (Nat.le_of_ble_eq_true rfl)) dX5_mark_60 (le2 rfl rfl)) hS (fun q _ h => hFc q h) hFc (fun r u t H locs ht1 hvm hw hB hz1 hk1 hS => ?_)
          obtain ⟨rfl, hw⟩ := hw
          have hP := ro1 hP hk1
          refine lv_iadd hx hb dX5_mark_63 ?_
          refine r_topi (v := 0) (by decide) ?_
          refine lv_istore (lv' := [(5, .int 0), (6, .int 1), (4, .int (1 <<< (p1 &&& 31))), (0, .ref (a 9)), (1, .int 6), (2, .int p1), (3, .int p2)]) hx hb dX5_mark_64 hl (by decide) rfl (fun ls hl => ?_)
          refine lv_iinc (v := 2) (lv' := [(6, .int 2), (5, .int 0), (4, .int (1 <<< (p1 &&& 31))), (0, .ref (a 9)), (1, .int 6), (2, .int p1), (3, .int p2)]) hx hb dX5_mark_66 hl (k := 1) rfl (by decide) (by decide) rfl (fun ls hl => ?_)
          refine lv_goto (tgt := 44) hx hb dX5_mark_69 (by decide) ?_
          refine lv_iload hx hb dX5_mark_44 (lv_at hl 0 rfl) ?_
          refine lv_bipush (v := 8) hx hb dX5_mark_46 (by decide) ?_
          refine lv_icmp_ge (tgt := 72) hx hb dX5_mark_48 (by decide) (fun c_128 => ?_) (fun c_128 => ?_)
          · exact absurd c_128 (by decide)
          · refine lv_iload hx hb dX5_mark_51 (lv_at hl 1 rfl) ?_
            refine lv_aload_n hx hb dX5_mark_53 rfl (lv_at hl 3 rfl) ?_
            refine va_get (D := D) (ci := 11) (v := .ref (a 60)) (C := RX5) (T := TX5) (N := 9) hx hb ht in_X5 hown hK.1 hP 0 rfl rfl 1 (by decide) (ht _ w_281) (fun _ h9 => h9) rfl dX5_mark_54 ?_
            refine lv_iload hx hb dX5_mark_57 (lv_at hl 0 rfl) ?_
            refine va_iald hx hb hK.1 hP 1 0 rfl rfl (by unfold vp_in; decide) dX5_mark_59 ?_
            refine r_topi (v := 0) rfl ?_
            have hPc : va_P D vwCl [] _ := hP.sub (ws' := []) [] rfl
            have hDc : va_D (fun q => z0 ≤ q) [] := (hD.to hAz).pick (ws' := []) [] (by decide) rfl
            have hFc := AnA (ws := [((a 9), f_memory a), ((a 60), .inl (g 0, 8, .inl (fun _ => 0)))]) hS.1
            refine va_calli (va_runS (As := [.int 0]) (rest := [.int 0]) ⟨hx, hb, hml, hown, ht⟩ (k_J6_bitCount_0f7a4 l D g z0 _ a) (va_cwS 1 ht (gS w_277 w_279 w_280 w_278) rfl rfl rfl (by decide +kernel) (le2 rfl rfl)) ⟨PP.blind, PP.mk' hK hZ hz hAz hS hPc hDc⟩ rfl rfl hl.1 rfl (lv_room (Nat.le_of_ble_eq_true rfl)) dX5_mark_60 (le2 rfl rfl)) hS (fun q _ h => hFc q h) hFc (fun r u t H locs ht1 hvm hw hB hz1 hk1 hS => ?_)
            obtain ⟨rfl, hw⟩ := hw
            have hP := ro1 hP hk1
            refine lv_iadd hx hb dX5_mark_63 ?_
            refine r_topi (v := 0) (by decide) ?_
            refine lv_istore (lv' := [(5, .int 0), (6, .int 2), (4, .int (1 <<< (p1 &&& 31))), (0, .ref (a 9)), (1, .int 6), (2, .int p1), (3, .int p2)]) hx hb dX5_mark_64 hl (by decide) rfl (fun ls hl => ?_)
            refine lv_iinc (v := 3) (lv' := [(6, .int 3), (5, .int 0), (4, .int (1 <<< (p1 &&& 31))), (0, .ref (a 9)), (1, .int 6), (2, .int p1), (3, .int p2)]) hx hb dX5_mark_66 hl (k := 1) rfl (by decide) (by decide) rfl (fun ls hl => ?_)
            refine lv_goto (tgt := 44) hx hb dX5_mark_69 (by decide) ?_
            refine lv_iload hx hb dX5_mark_44 (lv_at hl 0 rfl) ?_
            refine lv_bipush (v := 8) hx hb dX5_mark_46 (by decide) ?_
            refine lv_icmp_ge (tgt := 72) hx hb dX5_mark_48 (by decide) (fun c_129 => ?_) (fun c_129 => ?_)
            · exact absurd c_129 (by decide)
            · refine lv_iload hx hb dX5_mark_51 (lv_at hl 1 rfl) ?_
              refine lv_aload_n hx hb dX5_mark_53 rfl (lv_at hl 3 rfl) ?_
              refine va_get (D := D) (ci := 11) (v := .ref (a 60)) (C := RX5) (T := TX5) (N := 9) hx hb ht in_X5 hown hK.1 hP 0 rfl rfl 1 (by decide) (ht _ w_281) (fun _ h9 => h9) rfl dX5_mark_54 ?_
              refine lv_iload hx hb dX5_mark_57 (lv_at hl 0 rfl) ?_
              refine va_iald hx hb hK.1 hP 1 0 rfl rfl (by unfold vp_in; decide) dX5_mark_59 ?_
              refine r_topi (v := 0) rfl ?_
              have hPc : va_P D vwCl [] _ := hP.sub (ws' := []) [] rfl
              have hDc : va_D (fun q => z0 ≤ q) [] := (hD.to hAz).pick (ws' := []) [] (by decide) rfl
              have hFc := AnA (ws := [((a 9), f_memory a), ((a 60), .inl (g 0, 8, .inl (fun _ => 0)))]) hS.1
              refine va_calli (va_runS (As := [.int 0]) (rest := [.int 0]) ⟨hx, hb, hml, hown, ht⟩ (k_J6_bitCount_0f7a4 l D g z0 _ a) (va_cwS 1 ht (gS w_277 w_279 w_280 w_278) rfl rfl rfl (by decide +kernel) (le2 rfl rfl)) ⟨PP.blind, PP.mk' hK hZ hz hAz hS hPc hDc⟩ rfl rfl hl.1 rfl (lv_room (Nat.le_of_ble_eq_true rfl)) dX5_mark_60 (le2 rfl rfl)) hS (fun q _ h => hFc q h) hFc (fun r u t H locs ht1 hvm hw hB hz1 hk1 hS => ?_)
              obtain ⟨rfl, hw⟩ := hw
              have hP := ro1 hP hk1
              refine lv_iadd hx hb dX5_mark_63 ?_
              refine r_topi (v := 0) (by decide) ?_
              refine lv_istore (lv' := [(5, .int 0), (6, .int 3), (4, .int (1 <<< (p1 &&& 31))), (0, .ref (a 9)), (1, .int 6), (2, .int p1), (3, .int p2)]) hx hb dX5_mark_64 hl (by decide) rfl (fun ls hl => ?_)
              refine lv_iinc (v := 4) (lv' := [(6, .int 4), (5, .int 0), (4, .int (1 <<< (p1 &&& 31))), (0, .ref (a 9)), (1, .int 6), (2, .int p1), (3, .int p2)]) hx hb dX5_mark_66 hl (k := 1) rfl (by decide) (by decide) rfl (fun ls hl => ?_)
              refine lv_goto (tgt := 44) hx hb dX5_mark_69 (by decide) ?_
              refine lv_iload hx hb dX5_mark_44 (lv_at hl 0 rfl) ?_
              refine lv_bipush (v := 8) hx hb dX5_mark_46 (by decide) ?_
              refine lv_icmp_ge (tgt := 72) hx hb dX5_mark_48 (by decide) (fun c_130 => ?_) (fun c_130 => ?_)
              · exact absurd c_130 (by decide)
              · refine lv_iload hx hb dX5_mark_51 (lv_at hl 1 rfl) ?_
                refine lv_aload_n hx hb dX5_mark_53 rfl (lv_at hl 3 rfl) ?_
                refine va_get (D := D) (ci := 11) (v := .ref (a 60)) (C := RX5) (T := TX5) (N := 9) hx hb ht in_X5 hown hK.1 hP 0 rfl rfl 1 (by decide) (ht _ w_281) (fun _ h9 => h9) rfl dX5_mark_54 ?_
                refine lv_iload hx hb dX5_mark_57 (lv_at hl 0 rfl) ?_
                refine va_iald hx hb hK.1 hP 1 0 rfl rfl (by unfold vp_in; decide) dX5_mark_59 ?_
                refine r_topi (v := 0) rfl ?_
                have hPc : va_P D vwCl [] _ := hP.sub (ws' := []) [] rfl
                have hDc : va_D (fun q => z0 ≤ q) [] := (hD.to hAz).pick (ws' := []) [] (by decide) rfl
                have hFc := AnA (ws := [((a 9), f_memory a), ((a 60), .inl (g 0, 8, .inl (fun _ => 0)))]) hS.1
                refine va_calli (va_runS (As := [.int 0]) (rest := [.int 0]) ⟨hx, hb, hml, hown, ht⟩ (k_J6_bitCount_0f7a4 l D g z0 _ a) (va_cwS 1 ht (gS w_277 w_279 w_280 w_278) rfl rfl rfl (by decide +kernel) (le2 rfl rfl)) ⟨PP.blind, PP.mk' hK hZ hz hAz hS hPc hDc⟩ rfl rfl hl.1 rfl (lv_room (Nat.le_of_ble_eq_true rfl)) dX5_mark_60 (le2 rfl rfl)) hS (fun q _ h => hFc q h) hFc (fun r u t H locs ht1 hvm hw hB hz1 hk1 hS => ?_)
                obtain ⟨rfl, hw⟩ := hw
                have hP := ro1 hP hk1
                refine lv_iadd hx hb dX5_mark_63 ?_
                refine r_topi (v := 0) (by decide) ?_
                refine lv_istore (lv' := [(5, .int 0), (6, .int 4), (4, .int (1 <<< (p1 &&& 31))), (0, .ref (a 9)), (1, .int 6), (2, .int p1), (3, .int p2)]) hx hb dX5_mark_64 hl (by decide) rfl (fun ls hl => ?_)
                refine lv_iinc (v := 5) (lv' := [(6, .int 5), (5, .int 0), (4, .int (1 <<< (p1 &&& 31))), (0, .ref (a 9)), (1, .int 6), (2, .int p1), (3, .int p2)]) hx hb dX5_mark_66 hl (k := 1) rfl (by decide) (by decide) rfl (fun ls hl => ?_)
                refine lv_goto (tgt := 44) hx hb dX5_mark_69 (by decide) ?_
                refine lv_iload hx hb dX5_mark_44 (lv_at hl 0 rfl) ?_
                refine lv_bipush (v := 8) hx hb dX5_mark_46 (by decide) ?_
                refine lv_icmp_ge (tgt := 72) hx hb dX5_mark_48 (by decide) (fun c_131 => ?_) (fun c_131 => ?_)
                · exact absurd c_131 (by decide)
                · refine lv_iload hx hb dX5_mark_51 (lv_at hl 1 rfl) ?_
                  refine lv_aload_n hx hb dX5_mark_53 rfl (lv_at hl 3 rfl) ?_
                  refine va_get (D := D) (ci := 11) (v := .ref (a 60)) (C := RX5) (T := TX5) (N := 9) hx hb ht in_X5 hown hK.1 hP 0 rfl rfl 1 (by decide) (ht _ w_281) (fun _ h9 => h9) rfl dX5_mark_54 ?_
                  refine lv_iload hx hb dX5_mark_57 (lv_at hl 0 rfl) ?_
                  refine va_iald hx hb hK.1 hP 1 0 rfl rfl (by unfold vp_in; decide) dX5_mark_59 ?_
                  refine r_topi (v := 0) rfl ?_
                  have hPc : va_P D vwCl [] _ := hP.sub (ws' := []) [] rfl
                  have hDc : va_D (fun q => z0 ≤ q) [] := (hD.to hAz).pick (ws' := []) [] (by decide) rfl
                  have hFc := AnA (ws := [((a 9), f_memory a), ((a 60), .inl (g 0, 8, .inl (fun _ => 0)))]) hS.1
                  refine va_calli (va_runS (As := [.int 0]) (rest := [.int 0]) ⟨hx, hb, hml, hown, ht⟩ (k_J6_bitCount_0f7a4 l D g z0 _ a) (va_cwS 1 ht (gS w_277 w_279 w_280 w_278) rfl rfl rfl (by decide +kernel) (le2 rfl rfl)) ⟨PP.blind, PP.mk' hK hZ hz hAz hS hPc hDc⟩ rfl rfl hl.1 rfl (lv_room (Nat.le_of_ble_eq_true rfl)) dX5_mark_60 (le2 rfl rfl)) hS (fun q _ h => hFc q h) hFc (fun r u t H locs ht1 hvm hw hB hz1 hk1 hS => ?_)
                  obtain ⟨rfl, hw⟩ := hw
                  have hP := ro1 hP hk1
                  refine lv_iadd hx hb dX5_mark_63 ?_
                  refine r_topi (v := 0) (by decide) ?_
                  refine lv_istore (lv' := [(5, .int 0), (6, .int 5), (4, .int (1 <<< (p1 &&& 31))), (0, .ref (a 9)), (1, .int 6), (2, .int p1), (3, .int p2)]) hx hb dX5_mark_64 hl (by decide) rfl (fun ls hl => ?_)
                  refine lv_iinc (v := 6) (lv' := [(6, .int 6), (5, .int 0), (4, .int (1 <<< (p1 &&& 31))), (0, .ref (a 9)), (1, .int 6), (2, .int p1), (3, .int p2)]) hx hb dX5_mark_66 hl (k := 1) rfl (by decide) (by decide) rfl (fun ls hl => ?_)
                  refine lv_goto (tgt := 44) hx hb dX5_mark_69 (by decide) ?_
                  refine lv_iload hx hb dX5_mark_44 (lv_at hl 0 rfl) ?_
                  refine lv_bipush (v := 8) hx hb dX5_mark_46 (by decide) ?_
                  refine lv_icmp_ge (tgt := 72) hx hb dX5_mark_48 (by decide) (fun c_132 => ?_) (fun c_132 => ?_)
                  · exact absurd c_132 (by decide)
                  · refine lv_iload hx hb dX5_mark_51 (lv_at hl 1 rfl) ?_
                    refine lv_aload_n hx hb dX5_mark_53 rfl (lv_at hl 3 rfl) ?_
                    refine va_get (D := D) (ci := 11) (v := .ref (a 60)) (C := RX5) (T := TX5) (N := 9) hx hb ht in_X5 hown hK.1 hP 0 rfl rfl 1 (by decide) (ht _ w_281) (fun _ h9 => h9) rfl dX5_mark_54 ?_
                    refine lv_iload hx hb dX5_mark_57 (lv_at hl 0 rfl) ?_
                    refine va_iald hx hb hK.1 hP 1 0 rfl rfl (by unfold vp_in; decide) dX5_mark_59 ?_
                    refine r_topi (v := 1 <<< (p1 &&& 31)) rfl ?_
                    have hPc : va_P D vwCl [] _ := hP.sub (ws' := []) [] rfl
                    have hDc : va_D (fun q => z0 ≤ q) [] := (hD.to hAz).pick (ws' := []) [] (by decide) rfl
                    have hFc := AnA (ws := [((a 9), f_memory a), ((a 60), .inl (g 0, 8, .inl (fun _ => 0)))]) hS.1
                    refine va_calli (va_runS (As := [.int (1 <<< (p1 &&& 31))]) (rest := [.int 0]) ⟨hx, hb, hml, hown, ht⟩ (k_J6_bitCount_0f7a4_v1 l D g z0 _ a (1 <<< (p1 &&& 31))) (va_cwS 1 ht (gS w_277 w_279 w_280 w_278) rfl rfl rfl (by decide +kernel) (le2 rfl rfl)) ⟨PP.blind, PP.mk' hK hZ hz hAz hS hPc hDc⟩ rfl rfl hl.1 rfl (lv_room (Nat.le_of_ble_eq_true rfl)) dX5_mark_60 (le2 rfl rfl)) hS (fun q _ h => hFc q h) hFc (fun r u t H locs ht1 hvm hw hB hz1 hk1 hS => ?_)
                    obtain ⟨rfl, hw⟩ := hw
                    have hP := ro1 hP hk1
                    refine r_topi (v := 1) (bit1 (lo_nlt hy2) (up_lt hy3)) ?_
                    refine lv_iadd hx hb dX5_mark_63 ?_
                    refine r_topi (v := 1) (by decide) ?_
                    refine lv_istore (lv' := [(5, .int 1), (6, .int 6), (4, .int (1 <<< (p1 &&& 31))), (0, .ref (a 9)), (1, .int 6), (2, .int p1), (3, .int p2)]) hx hb dX5_mark_64 hl (by decide) rfl (fun ls hl => ?_)
                    refine lv_iinc (v := 7) (lv' := [(6, .int 7), (5, .int 1), (4, .int (1 <<< (p1 &&& 31))), (0, .ref (a 9)), (1, .int 6), (2, .int p1), (3, .int p2)]) hx hb dX5_mark_66 hl (k := 1) rfl (by decide) (by decide) rfl (fun ls hl => ?_)
                    refine lv_goto (tgt := 44) hx hb dX5_mark_69 (by decide) ?_
                    refine lv_iload hx hb dX5_mark_44 (lv_at hl 0 rfl) ?_
                    refine lv_bipush (v := 8) hx hb dX5_mark_46 (by decide) ?_
                    refine lv_icmp_ge (tgt := 72) hx hb dX5_mark_48 (by decide) (fun c_133 => ?_) (fun c_133 => ?_)
                    · exact absurd c_133 (by decide)
                    · refine lv_iload hx hb dX5_mark_51 (lv_at hl 1 rfl) ?_
                      refine lv_aload_n hx hb dX5_mark_53 rfl (lv_at hl 3 rfl) ?_
                      refine va_get (D := D) (ci := 11) (v := .ref (a 60)) (C := RX5) (T := TX5) (N := 9) hx hb ht in_X5 hown hK.1 hP 0 rfl rfl 1 (by decide) (ht _ w_281) (fun _ h9 => h9) rfl dX5_mark_54 ?_
                      refine lv_iload hx hb dX5_mark_57 (lv_at hl 0 rfl) ?_
                      refine va_iald hx hb hK.1 hP 1 0 rfl rfl (by unfold vp_in; decide) dX5_mark_59 ?_
                      refine r_topi (v := 0) rfl ?_
                      have hPc : va_P D vwCl [] _ := hP.sub (ws' := []) [] rfl
                      have hDc : va_D (fun q => z0 ≤ q) [] := (hD.to hAz).pick (ws' := []) [] (by decide) rfl
                      have hFc := AnA (ws := [((a 9), f_memory a), ((a 60), .inl (g 0, 8, .inl (fun _ => 0)))]) hS.1
                      refine va_calli (va_runS (As := [.int 0]) (rest := [.int 1]) ⟨hx, hb, hml, hown, ht⟩ (k_J6_bitCount_0f7a4 l D g z0 _ a) (va_cwS 1 ht (gS w_277 w_279 w_280 w_278) rfl rfl rfl (by decide +kernel) (le2 rfl rfl)) ⟨PP.blind, PP.mk' hK hZ hz hAz hS hPc hDc⟩ rfl rfl hl.1 rfl (lv_room (Nat.le_of_ble_eq_true rfl)) dX5_mark_60 (le2 rfl rfl)) hS (fun q _ h => hFc q h) hFc (fun r u t H locs ht1 hvm hw hB hz1 hk1 hS => ?_)
                      obtain ⟨rfl, hw⟩ := hw
                      have hP := ro1 hP hk1
                      refine lv_iadd hx hb dX5_mark_63 ?_
                      refine r_topi (v := 1) (by decide) ?_
                      refine lv_istore (lv' := [(5, .int 1), (6, .int 7), (4, .int (1 <<< (p1 &&& 31))), (0, .ref (a 9)), (1, .int 6), (2, .int p1), (3, .int p2)]) hx hb dX5_mark_64 hl (by decide) rfl (fun ls hl => ?_)
                      refine lv_iinc (v := 8) (lv' := [(6, .int 8), (5, .int 1), (4, .int (1 <<< (p1 &&& 31))), (0, .ref (a 9)), (1, .int 6), (2, .int p1), (3, .int p2)]) hx hb dX5_mark_66 hl (k := 1) rfl (by decide) (by decide) rfl (fun ls hl => ?_)
                      refine lv_goto (tgt := 44) hx hb dX5_mark_69 (by decide) ?_
                      refine lv_iload hx hb dX5_mark_44 (lv_at hl 0 rfl) ?_
                      refine lv_bipush (v := 8) hx hb dX5_mark_46 (by decide) ?_
                      refine lv_icmp_ge (tgt := 72) hx hb dX5_mark_48 (by decide) (fun c_134 => ?_) (fun c_134 => ?_)
                      · refine lv_iload hx hb dX5_mark_72 (lv_at hl 1 rfl) ?_
                        have hP9 := hP.sub (ws' := []) [] rfl
                        have hD9 := hD.sub (ws' := []) [] (by decide) rfl
                        refine W.widen (k := 0) (n := 0) (Nat.le_of_ble_eq_true rfl) (Nat.le_of_ble_eq_true rfl) ?_
                        exact W.iret (v := 1) hx hb hr (fun t ht9 hW9 => ⟨⟨1, (), rfl, (Or.inr ⟨rfl, c_116⟩), ⟨(by rw [ht9]; exact hP9), hD9⟩⟩, hS.F ht9⟩) hS.2.2 dX5_mark_74 hlocks
                      · exact absurd c_134 (by decide)
  · subst e_1
    have hl : lv_has ls 7 [(4, .int (1 <<< (p1 &&& 31))), (0, .ref (a 9)), (1, .int 7), (2, .int p1), (3, .int p2)] := hl
    refine lv_aload_n hx hb dX5_mark_5 rfl (lv_at hl 1 rfl) ?_
    refine va_get (D := D) (ci := 11) (v := .ref (a 60)) (C := RX5) (T := TX5) (N := 9) hx hb ht in_X5 hown hK.1 hP 0 rfl rfl 1 (by decide) (ht _ w_281) (fun _ h9 => h9) rfl dX5_mark_6 ?_
    refine lv_iload_n hx hb dX5_mark_9 rfl (lv_at hl 2 rfl) ?_
    refine lv_iload_n hx hb dX5_mark_10 rfl (lv_at hl 4 rfl) ?_
    refine lv_if_eq (tgt := 26) hx hb dX5_mark_11 (by decide) (fun c_135 => ?_) (fun c_135 => ?_)
    · refine lv_aload_n hx hb dX5_mark_26 rfl (lv_at hl 1 rfl) ?_
      refine va_get (D := D) (ci := 11) (v := .ref (a 60)) (C := RX5) (T := TX5) (N := 9) hx hb ht in_X5 hown hK.1 hP 0 rfl rfl 1 (by decide) (ht _ w_281) (fun _ h9 => h9) rfl dX5_mark_27 ?_
      refine lv_iload_n hx hb dX5_mark_30 rfl (lv_at hl 2 rfl) ?_
      refine va_iald hx hb hK.1 hP 1 0 rfl rfl (by unfold vp_in; decide) dX5_mark_31 ?_
      refine r_topi (v := 0) rfl ?_
      refine lv_iload hx hb dX5_mark_32 (lv_at hl 0 rfl) ?_
      refine lv_iconst (v := (-1)) hx hb dX5_mark_34 (by decide) ?_
      refine lv_ixor hx hb dX5_mark_35 ?_
      refine lv_iand hx hb dX5_mark_36 ?_
      refine r_topi (v := 0) (z_and _) ?_
      refine va_iast hx hb hK.1 hP hD hS 1 0 rfl rfl (by unfold vp_in; decide) dX5_mark_37 (fun H locs hP hD hS => ?_)
      have hP : va_P D vwCl [((a 9), f_memory a), ((a 60), .inl (g 0, 8, .inl (upd (fun _ => 0) (7 : Int32).toNatClampNeg 0)))] H := hP
      have hD : va_D (va_A [((a 9), f_memory a), ((a 60), .inl (g 0, 8, .inl (fun _ => 0)))] s.heap.size) [((a 9), f_memory a), ((a 60), .inl (g 0, 8, .inl (upd (fun _ => 0) (7 : Int32).toNatClampNeg 0)))] := hD
      refine lv_iconst (v := 0) hx hb dX5_mark_38 (by decide) ?_
      refine lv_istore (lv' := [(5, .int 0), (4, .int (1 <<< (p1 &&& 31))), (0, .ref (a 9)), (1, .int 7), (2, .int p1), (3, .int p2)]) hx hb dX5_mark_39 hl (by decide) rfl (fun ls hl => ?_)
      refine lv_iconst (v := 0) hx hb dX5_mark_41 (by decide) ?_
      refine lv_istore (lv' := [(6, .int 0), (5, .int 0), (4, .int (1 <<< (p1 &&& 31))), (0, .ref (a 9)), (1, .int 7), (2, .int p1), (3, .int p2)]) hx hb dX5_mark_42 hl (by decide) rfl (fun ls hl => ?_)
      refine lv_iload hx hb dX5_mark_44 (lv_at hl 0 rfl) ?_
      refine lv_bipush (v := 8) hx hb dX5_mark_46 (by decide) ?_
      refine lv_icmp_ge (tgt := 72) hx hb dX5_mark_48 (by decide) (fun c_136 => ?_) (fun c_136 => ?_)
      · exact absurd c_136 (by decide)
      · refine lv_iload hx hb dX5_mark_51 (lv_at hl 1 rfl) ?_
        refine lv_aload_n hx hb dX5_mark_53 rfl (lv_at hl 3 rfl) ?_
        refine va_get (D := D) (ci := 11) (v := .ref (a 60)) (C := RX5) (T := TX5) (N := 9) hx hb ht in_X5 hown hK.1 hP 0 rfl rfl 1 (by decide) (ht _ w_281) (fun _ h9 => h9) rfl dX5_mark_54 ?_
        refine lv_iload hx hb dX5_mark_57 (lv_at hl 0 rfl) ?_
        refine va_iald hx hb hK.1 hP 1 0 rfl rfl (by unfold vp_in; decide) dX5_mark_59 ?_
        refine r_topi (v := 0) rfl ?_
        have hPc : va_P D vwCl [] _ := hP.sub (ws' := []) [] rfl
        have hDc : va_D (fun q => z0 ≤ q) [] := (hD.to hAz).pick (ws' := []) [] (by decide) rfl
        have hFc := AnA (ws := [((a 9), f_memory a), ((a 60), .inl (g 0, 8, .inl (fun _ => 0)))]) hS.1
        refine va_calli (va_runS (As := [.int 0]) (rest := [.int 0]) ⟨hx, hb, hml, hown, ht⟩ (k_J6_bitCount_0f7a4 l D g z0 _ a) (va_cwS 1 ht (gS w_277 w_279 w_280 w_278) rfl rfl rfl (by decide +kernel) (le2 rfl rfl)) ⟨PP.blind, PP.mk' hK hZ hz hAz hS hPc hDc⟩ rfl rfl hl.1 rfl (lv_room (Nat.le_of_ble_eq_true rfl)) dX5_mark_60 (le2 rfl rfl)) hS (fun q _ h => hFc q h) hFc (fun r u t H locs ht1 hvm hw hB hz1 hk1 hS => ?_)
        obtain ⟨rfl, hw⟩ := hw
        have hP := ro1 hP hk1
        refine lv_iadd hx hb dX5_mark_63 ?_
        refine r_topi (v := 0) (by decide) ?_
        refine lv_istore (lv' := [(5, .int 0), (6, .int 0), (4, .int (1 <<< (p1 &&& 31))), (0, .ref (a 9)), (1, .int 7), (2, .int p1), (3, .int p2)]) hx hb dX5_mark_64 hl (by decide) rfl (fun ls hl => ?_)
        refine lv_iinc (v := 1) (lv' := [(6, .int 1), (5, .int 0), (4, .int (1 <<< (p1 &&& 31))), (0, .ref (a 9)), (1, .int 7), (2, .int p1), (3, .int p2)]) hx hb dX5_mark_66 hl (k := 1) rfl (by decide) (by decide) rfl (fun ls hl => ?_)
        refine lv_goto (tgt := 44) hx hb dX5_mark_69 (by decide) ?_
        refine lv_iload hx hb dX5_mark_44 (lv_at hl 0 rfl) ?_
        refine lv_bipush (v := 8) hx hb dX5_mark_46 (by decide) ?_
        refine lv_icmp_ge (tgt := 72) hx hb dX5_mark_48 (by decide) (fun c_137 => ?_) (fun c_137 => ?_)
        · exact absurd c_137 (by decide)
        · refine lv_iload hx hb dX5_mark_51 (lv_at hl 1 rfl) ?_
          refine lv_aload_n hx hb dX5_mark_53 rfl (lv_at hl 3 rfl) ?_
          refine va_get (D := D) (ci := 11) (v := .ref (a 60)) (C := RX5) (T := TX5) (N := 9) hx hb ht in_X5 hown hK.1 hP 0 rfl rfl 1 (by decide) (ht _ w_281) (fun _ h9 => h9) rfl dX5_mark_54 ?_
          refine lv_iload hx hb dX5_mark_57 (lv_at hl 0 rfl) ?_
          refine va_iald hx hb hK.1 hP 1 0 rfl rfl (by unfold vp_in; decide) dX5_mark_59 ?_
          refine r_topi (v := 0) rfl ?_
          have hPc : va_P D vwCl [] _ := hP.sub (ws' := []) [] rfl
          have hDc : va_D (fun q => z0 ≤ q) [] := (hD.to hAz).pick (ws' := []) [] (by decide) rfl
          have hFc := AnA (ws := [((a 9), f_memory a), ((a 60), .inl (g 0, 8, .inl (fun _ => 0)))]) hS.1
          refine va_calli (va_runS (As := [.int 0]) (rest := [.int 0]) ⟨hx, hb, hml, hown, ht⟩ (k_J6_bitCount_0f7a4 l D g z0 _ a) (va_cwS 1 ht (gS w_277 w_279 w_280 w_278) rfl rfl rfl (by decide +kernel) (le2 rfl rfl)) ⟨PP.blind, PP.mk' hK hZ hz hAz hS hPc hDc⟩ rfl rfl hl.1 rfl (lv_room (Nat.le_of_ble_eq_true rfl)) dX5_mark_60 (le2 rfl rfl)) hS (fun q _ h => hFc q h) hFc (fun r u t H locs ht1 hvm hw hB hz1 hk1 hS => ?_)
          obtain ⟨rfl, hw⟩ := hw
          have hP := ro1 hP hk1
          refine lv_iadd hx hb dX5_mark_63 ?_
          refine r_topi (v := 0) (by decide) ?_
          refine lv_istore (lv' := [(5, .int 0), (6, .int 1), (4, .int (1 <<< (p1 &&& 31))), (0, .ref (a 9)), (1, .int 7), (2, .int p1), (3, .int p2)]) hx hb dX5_mark_64 hl (by decide) rfl (fun ls hl => ?_)
          refine lv_iinc (v := 2) (lv' := [(6, .int 2), (5, .int 0), (4, .int (1 <<< (p1 &&& 31))), (0, .ref (a 9)), (1, .int 7), (2, .int p1), (3, .int p2)]) hx hb dX5_mark_66 hl (k := 1) rfl (by decide) (by decide) rfl (fun ls hl => ?_)
          refine lv_goto (tgt := 44) hx hb dX5_mark_69 (by decide) ?_
          refine lv_iload hx hb dX5_mark_44 (lv_at hl 0 rfl) ?_
          refine lv_bipush (v := 8) hx hb dX5_mark_46 (by decide) ?_
          refine lv_icmp_ge (tgt := 72) hx hb dX5_mark_48 (by decide) (fun c_138 => ?_) (fun c_138 => ?_)
          · exact absurd c_138 (by decide)
          · refine lv_iload hx hb dX5_mark_51 (lv_at hl 1 rfl) ?_
            refine lv_aload_n hx hb dX5_mark_53 rfl (lv_at hl 3 rfl) ?_
            refine va_get (D := D) (ci := 11) (v := .ref (a 60)) (C := RX5) (T := TX5) (N := 9) hx hb ht in_X5 hown hK.1 hP 0 rfl rfl 1 (by decide) (ht _ w_281) (fun _ h9 => h9) rfl dX5_mark_54 ?_
            refine lv_iload hx hb dX5_mark_57 (lv_at hl 0 rfl) ?_
            refine va_iald hx hb hK.1 hP 1 0 rfl rfl (by unfold vp_in; decide) dX5_mark_59 ?_
            refine r_topi (v := 0) rfl ?_
            have hPc : va_P D vwCl [] _ := hP.sub (ws' := []) [] rfl
            have hDc : va_D (fun q => z0 ≤ q) [] := (hD.to hAz).pick (ws' := []) [] (by decide) rfl
            have hFc := AnA (ws := [((a 9), f_memory a), ((a 60), .inl (g 0, 8, .inl (fun _ => 0)))]) hS.1
            refine va_calli (va_runS (As := [.int 0]) (rest := [.int 0]) ⟨hx, hb, hml, hown, ht⟩ (k_J6_bitCount_0f7a4 l D g z0 _ a) (va_cwS 1 ht (gS w_277 w_279 w_280 w_278) rfl rfl rfl (by decide +kernel) (le2 rfl rfl)) ⟨PP.blind, PP.mk' hK hZ hz hAz hS hPc hDc⟩ rfl rfl hl.1 rfl (lv_room (Nat.le_of_ble_eq_true rfl)) dX5_mark_60 (le2 rfl rfl)) hS (fun q _ h => hFc q h) hFc (fun r u t H locs ht1 hvm hw hB hz1 hk1 hS => ?_)
            obtain ⟨rfl, hw⟩ := hw
            have hP := ro1 hP hk1
            refine lv_iadd hx hb dX5_mark_63 ?_
            refine r_topi (v := 0) (by decide) ?_
            refine lv_istore (lv' := [(5, .int 0), (6, .int 2), (4, .int (1 <<< (p1 &&& 31))), (0, .ref (a 9)), (1, .int 7), (2, .int p1), (3, .int p2)]) hx hb dX5_mark_64 hl (by decide) rfl (fun ls hl => ?_)
            refine lv_iinc (v := 3) (lv' := [(6, .int 3), (5, .int 0), (4, .int (1 <<< (p1 &&& 31))), (0, .ref (a 9)), (1, .int 7), (2, .int p1), (3, .int p2)]) hx hb dX5_mark_66 hl (k := 1) rfl (by decide) (by decide) rfl (fun ls hl => ?_)
            refine lv_goto (tgt := 44) hx hb dX5_mark_69 (by decide) ?_
            refine lv_iload hx hb dX5_mark_44 (lv_at hl 0 rfl) ?_
            refine lv_bipush (v := 8) hx hb dX5_mark_46 (by decide) ?_
            refine lv_icmp_ge (tgt := 72) hx hb dX5_mark_48 (by decide) (fun c_139 => ?_) (fun c_139 => ?_)
            · exact absurd c_139 (by decide)
            · refine lv_iload hx hb dX5_mark_51 (lv_at hl 1 rfl) ?_
              refine lv_aload_n hx hb dX5_mark_53 rfl (lv_at hl 3 rfl) ?_
              refine va_get (D := D) (ci := 11) (v := .ref (a 60)) (C := RX5) (T := TX5) (N := 9) hx hb ht in_X5 hown hK.1 hP 0 rfl rfl 1 (by decide) (ht _ w_281) (fun _ h9 => h9) rfl dX5_mark_54 ?_
              refine lv_iload hx hb dX5_mark_57 (lv_at hl 0 rfl) ?_
              refine va_iald hx hb hK.1 hP 1 0 rfl rfl (by unfold vp_in; decide) dX5_mark_59 ?_
              refine r_topi (v := 0) rfl ?_
              have hPc : va_P D vwCl [] _ := hP.sub (ws' := []) [] rfl
              have hDc : va_D (fun q => z0 ≤ q) [] := (hD.to hAz).pick (ws' := []) [] (by decide) rfl
              have hFc := AnA (ws := [((a 9), f_memory a), ((a 60), .inl (g 0, 8, .inl (fun _ => 0)))]) hS.1
              refine va_calli (va_runS (As := [.int 0]) (rest := [.int 0]) ⟨hx, hb, hml, hown, ht⟩ (k_J6_bitCount_0f7a4 l D g z0 _ a) (va_cwS 1 ht (gS w_277 w_279 w_280 w_278) rfl rfl rfl (by decide +kernel) (le2 rfl rfl)) ⟨PP.blind, PP.mk' hK hZ hz hAz hS hPc hDc⟩ rfl rfl hl.1 rfl (lv_room (Nat.le_of_ble_eq_true rfl)) dX5_mark_60 (le2 rfl rfl)) hS (fun q _ h => hFc q h) hFc (fun r u t H locs ht1 hvm hw hB hz1 hk1 hS => ?_)
              obtain ⟨rfl, hw⟩ := hw
              have hP := ro1 hP hk1
              refine lv_iadd hx hb dX5_mark_63 ?_
              refine r_topi (v := 0) (by decide) ?_
              refine lv_istore (lv' := [(5, .int 0), (6, .int 3), (4, .int (1 <<< (p1 &&& 31))), (0, .ref (a 9)), (1, .int 7), (2, .int p1), (3, .int p2)]) hx hb dX5_mark_64 hl (by decide) rfl (fun ls hl => ?_)
              refine lv_iinc (v := 4) (lv' := [(6, .int 4), (5, .int 0), (4, .int (1 <<< (p1 &&& 31))), (0, .ref (a 9)), (1, .int 7), (2, .int p1), (3, .int p2)]) hx hb dX5_mark_66 hl (k := 1) rfl (by decide) (by decide) rfl (fun ls hl => ?_)
              refine lv_goto (tgt := 44) hx hb dX5_mark_69 (by decide) ?_
              refine lv_iload hx hb dX5_mark_44 (lv_at hl 0 rfl) ?_
              refine lv_bipush (v := 8) hx hb dX5_mark_46 (by decide) ?_
              refine lv_icmp_ge (tgt := 72) hx hb dX5_mark_48 (by decide) (fun c_140 => ?_) (fun c_140 => ?_)
              · exact absurd c_140 (by decide)
              · refine lv_iload hx hb dX5_mark_51 (lv_at hl 1 rfl) ?_
                refine lv_aload_n hx hb dX5_mark_53 rfl (lv_at hl 3 rfl) ?_
                refine va_get (D := D) (ci := 11) (v := .ref (a 60)) (C := RX5) (T := TX5) (N := 9) hx hb ht in_X5 hown hK.1 hP 0 rfl rfl 1 (by decide) (ht _ w_281) (fun _ h9 => h9) rfl dX5_mark_54 ?_
                refine lv_iload hx hb dX5_mark_57 (lv_at hl 0 rfl) ?_
                refine va_iald hx hb hK.1 hP 1 0 rfl rfl (by unfold vp_in; decide) dX5_mark_59 ?_
                refine r_topi (v := 0) rfl ?_
                have hPc : va_P D vwCl [] _ := hP.sub (ws' := []) [] rfl
                have hDc : va_D (fun q => z0 ≤ q) [] := (hD.to hAz).pick (ws' := []) [] (by decide) rfl
                have hFc := AnA (ws := [((a 9), f_memory a), ((a 60), .inl (g 0, 8, .inl (fun _ => 0)))]) hS.1
                refine va_calli (va_runS (As := [.int 0]) (rest := [.int 0]) ⟨hx, hb, hml, hown, ht⟩ (k_J6_bitCount_0f7a4 l D g z0 _ a) (va_cwS 1 ht (gS w_277 w_279 w_280 w_278) rfl rfl rfl (by decide +kernel) (le2 rfl rfl)) ⟨PP.blind, PP.mk' hK hZ hz hAz hS hPc hDc⟩ rfl rfl hl.1 rfl (lv_room (Nat.le_of_ble_eq_true rfl)) dX5_mark_60 (le2 rfl rfl)) hS (fun q _ h => hFc q h) hFc (fun r u t H locs ht1 hvm hw hB hz1 hk1 hS => ?_)
                obtain ⟨rfl, hw⟩ := hw
                have hP := ro1 hP hk1
                refine lv_iadd hx hb dX5_mark_63 ?_
                refine r_topi (v := 0) (by decide) ?_
                refine lv_istore (lv' := [(5, .int 0), (6, .int 4), (4, .int (1 <<< (p1 &&& 31))), (0, .ref (a 9)), (1, .int 7), (2, .int p1), (3, .int p2)]) hx hb dX5_mark_64 hl (by decide) rfl (fun ls hl => ?_)
                refine lv_iinc (v := 5) (lv' := [(6, .int 5), (5, .int 0), (4, .int (1 <<< (p1 &&& 31))), (0, .ref (a 9)), (1, .int 7), (2, .int p1), (3, .int p2)]) hx hb dX5_mark_66 hl (k := 1) rfl (by decide) (by decide) rfl (fun ls hl => ?_)
                refine lv_goto (tgt := 44) hx hb dX5_mark_69 (by decide) ?_
                refine lv_iload hx hb dX5_mark_44 (lv_at hl 0 rfl) ?_
                refine lv_bipush (v := 8) hx hb dX5_mark_46 (by decide) ?_
                refine lv_icmp_ge (tgt := 72) hx hb dX5_mark_48 (by decide) (fun c_141 => ?_) (fun c_141 => ?_)
                · exact absurd c_141 (by decide)
                · refine lv_iload hx hb dX5_mark_51 (lv_at hl 1 rfl) ?_
                  refine lv_aload_n hx hb dX5_mark_53 rfl (lv_at hl 3 rfl) ?_
                  refine va_get (D := D) (ci := 11) (v := .ref (a 60)) (C := RX5) (T := TX5) (N := 9) hx hb ht in_X5 hown hK.1 hP 0 rfl rfl 1 (by decide) (ht _ w_281) (fun _ h9 => h9) rfl dX5_mark_54 ?_
                  refine lv_iload hx hb dX5_mark_57 (lv_at hl 0 rfl) ?_
                  refine va_iald hx hb hK.1 hP 1 0 rfl rfl (by unfold vp_in; decide) dX5_mark_59 ?_
                  refine r_topi (v := 0) rfl ?_
                  have hPc : va_P D vwCl [] _ := hP.sub (ws' := []) [] rfl
                  have hDc : va_D (fun q => z0 ≤ q) [] := (hD.to hAz).pick (ws' := []) [] (by decide) rfl
                  have hFc := AnA (ws := [((a 9), f_memory a), ((a 60), .inl (g 0, 8, .inl (fun _ => 0)))]) hS.1
                  refine va_calli (va_runS (As := [.int 0]) (rest := [.int 0]) ⟨hx, hb, hml, hown, ht⟩ (k_J6_bitCount_0f7a4 l D g z0 _ a) (va_cwS 1 ht (gS w_277 w_279 w_280 w_278) rfl rfl rfl (by decide +kernel) (le2 rfl rfl)) ⟨PP.blind, PP.mk' hK hZ hz hAz hS hPc hDc⟩ rfl rfl hl.1 rfl (lv_room (Nat.le_of_ble_eq_true rfl)) dX5_mark_60 (le2 rfl rfl)) hS (fun q _ h => hFc q h) hFc (fun r u t H locs ht1 hvm hw hB hz1 hk1 hS => ?_)
                  obtain ⟨rfl, hw⟩ := hw
                  have hP := ro1 hP hk1
                  refine lv_iadd hx hb dX5_mark_63 ?_
                  refine r_topi (v := 0) (by decide) ?_
                  refine lv_istore (lv' := [(5, .int 0), (6, .int 5), (4, .int (1 <<< (p1 &&& 31))), (0, .ref (a 9)), (1, .int 7), (2, .int p1), (3, .int p2)]) hx hb dX5_mark_64 hl (by decide) rfl (fun ls hl => ?_)
                  refine lv_iinc (v := 6) (lv' := [(6, .int 6), (5, .int 0), (4, .int (1 <<< (p1 &&& 31))), (0, .ref (a 9)), (1, .int 7), (2, .int p1), (3, .int p2)]) hx hb dX5_mark_66 hl (k := 1) rfl (by decide) (by decide) rfl (fun ls hl => ?_)
                  refine lv_goto (tgt := 44) hx hb dX5_mark_69 (by decide) ?_
                  refine lv_iload hx hb dX5_mark_44 (lv_at hl 0 rfl) ?_
                  refine lv_bipush (v := 8) hx hb dX5_mark_46 (by decide) ?_
                  refine lv_icmp_ge (tgt := 72) hx hb dX5_mark_48 (by decide) (fun c_142 => ?_) (fun c_142 => ?_)
                  · exact absurd c_142 (by decide)
                  · refine lv_iload hx hb dX5_mark_51 (lv_at hl 1 rfl) ?_
                    refine lv_aload_n hx hb dX5_mark_53 rfl (lv_at hl 3 rfl) ?_
                    refine va_get (D := D) (ci := 11) (v := .ref (a 60)) (C := RX5) (T := TX5) (N := 9) hx hb ht in_X5 hown hK.1 hP 0 rfl rfl 1 (by decide) (ht _ w_281) (fun _ h9 => h9) rfl dX5_mark_54 ?_
                    refine lv_iload hx hb dX5_mark_57 (lv_at hl 0 rfl) ?_
                    refine va_iald hx hb hK.1 hP 1 0 rfl rfl (by unfold vp_in; decide) dX5_mark_59 ?_
                    refine r_topi (v := 0) rfl ?_
                    have hPc : va_P D vwCl [] _ := hP.sub (ws' := []) [] rfl
                    have hDc : va_D (fun q => z0 ≤ q) [] := (hD.to hAz).pick (ws' := []) [] (by decide) rfl
                    have hFc := AnA (ws := [((a 9), f_memory a), ((a 60), .inl (g 0, 8, .inl (fun _ => 0)))]) hS.1
                    refine va_calli (va_runS (As := [.int 0]) (rest := [.int 0]) ⟨hx, hb, hml, hown, ht⟩ (k_J6_bitCount_0f7a4 l D g z0 _ a) (va_cwS 1 ht (gS w_277 w_279 w_280 w_278) rfl rfl rfl (by decide +kernel) (le2 rfl rfl)) ⟨PP.blind, PP.mk' hK hZ hz hAz hS hPc hDc⟩ rfl rfl hl.1 rfl (lv_room (Nat.le_of_ble_eq_true rfl)) dX5_mark_60 (le2 rfl rfl)) hS (fun q _ h => hFc q h) hFc (fun r u t H locs ht1 hvm hw hB hz1 hk1 hS => ?_)
                    obtain ⟨rfl, hw⟩ := hw
                    have hP := ro1 hP hk1
                    refine lv_iadd hx hb dX5_mark_63 ?_
                    refine r_topi (v := 0) (by decide) ?_
                    refine lv_istore (lv' := [(5, .int 0), (6, .int 6), (4, .int (1 <<< (p1 &&& 31))), (0, .ref (a 9)), (1, .int 7), (2, .int p1), (3, .int p2)]) hx hb dX5_mark_64 hl (by decide) rfl (fun ls hl => ?_)
                    refine lv_iinc (v := 7) (lv' := [(6, .int 7), (5, .int 0), (4, .int (1 <<< (p1 &&& 31))), (0, .ref (a 9)), (1, .int 7), (2, .int p1), (3, .int p2)]) hx hb dX5_mark_66 hl (k := 1) rfl (by decide) (by decide) rfl (fun ls hl => ?_)
                    refine lv_goto (tgt := 44) hx hb dX5_mark_69 (by decide) ?_
                    refine lv_iload hx hb dX5_mark_44 (lv_at hl 0 rfl) ?_
                    refine lv_bipush (v := 8) hx hb dX5_mark_46 (by decide) ?_
                    refine lv_icmp_ge (tgt := 72) hx hb dX5_mark_48 (by decide) (fun c_143 => ?_) (fun c_143 => ?_)
                    · exact absurd c_143 (by decide)
                    · refine lv_iload hx hb dX5_mark_51 (lv_at hl 1 rfl) ?_
                      refine lv_aload_n hx hb dX5_mark_53 rfl (lv_at hl 3 rfl) ?_
                      refine va_get (D := D) (ci := 11) (v := .ref (a 60)) (C := RX5) (T := TX5) (N := 9) hx hb ht in_X5 hown hK.1 hP 0 rfl rfl 1 (by decide) (ht _ w_281) (fun _ h9 => h9) rfl dX5_mark_54 ?_
                      refine lv_iload hx hb dX5_mark_57 (lv_at hl 0 rfl) ?_
                      refine va_iald hx hb hK.1 hP 1 0 rfl rfl (by unfold vp_in; decide) dX5_mark_59 ?_
                      refine r_topi (v := 0) rfl ?_
                      have hPc : va_P D vwCl [] _ := hP.sub (ws' := []) [] rfl
                      have hDc : va_D (fun q => z0 ≤ q) [] := (hD.to hAz).pick (ws' := []) [] (by decide) rfl
                      have hFc := AnA (ws := [((a 9), f_memory a), ((a 60), .inl (g 0, 8, .inl (fun _ => 0)))]) hS.1
                      refine va_calli (va_runS (As := [.int 0]) (rest := [.int 0]) ⟨hx, hb, hml, hown, ht⟩ (k_J6_bitCount_0f7a4 l D g z0 _ a) (va_cwS 1 ht (gS w_277 w_279 w_280 w_278) rfl rfl rfl (by decide +kernel) (le2 rfl rfl)) ⟨PP.blind, PP.mk' hK hZ hz hAz hS hPc hDc⟩ rfl rfl hl.1 rfl (lv_room (Nat.le_of_ble_eq_true rfl)) dX5_mark_60 (le2 rfl rfl)) hS (fun q _ h => hFc q h) hFc (fun r u t H locs ht1 hvm hw hB hz1 hk1 hS => ?_)
                      obtain ⟨rfl, hw⟩ := hw
                      have hP := ro1 hP hk1
                      refine lv_iadd hx hb dX5_mark_63 ?_
                      refine r_topi (v := 0) (by decide) ?_
                      refine lv_istore (lv' := [(5, .int 0), (6, .int 7), (4, .int (1 <<< (p1 &&& 31))), (0, .ref (a 9)), (1, .int 7), (2, .int p1), (3, .int p2)]) hx hb dX5_mark_64 hl (by decide) rfl (fun ls hl => ?_)
                      refine lv_iinc (v := 8) (lv' := [(6, .int 8), (5, .int 0), (4, .int (1 <<< (p1 &&& 31))), (0, .ref (a 9)), (1, .int 7), (2, .int p1), (3, .int p2)]) hx hb dX5_mark_66 hl (k := 1) rfl (by decide) (by decide) rfl (fun ls hl => ?_)
                      refine lv_goto (tgt := 44) hx hb dX5_mark_69 (by decide) ?_
                      refine lv_iload hx hb dX5_mark_44 (lv_at hl 0 rfl) ?_
                      refine lv_bipush (v := 8) hx hb dX5_mark_46 (by decide) ?_
                      refine lv_icmp_ge (tgt := 72) hx hb dX5_mark_48 (by decide) (fun c_144 => ?_) (fun c_144 => ?_)
                      · refine lv_iload hx hb dX5_mark_72 (lv_at hl 1 rfl) ?_
                        have hP9 := hP.sub (ws' := []) [] rfl
                        have hD9 := hD.sub (ws' := []) [] (by decide) rfl
                        refine W.widen (k := 0) (n := 0) (Nat.le_of_ble_eq_true rfl) (Nat.le_of_ble_eq_true rfl) ?_
                        exact W.iret (v := 0) hx hb hr (fun t ht9 hW9 => ⟨⟨0, (), rfl, (Or.inl ⟨rfl, c_135⟩), ⟨(by rw [ht9]; exact hP9), hD9⟩⟩, hS.F ht9⟩) hS.2.2 dX5_mark_74 hlocks
                      · exact absurd c_144 (by decide)
    · refine lv_aload_n hx hb dX5_mark_14 rfl (lv_at hl 1 rfl) ?_
      refine va_get (D := D) (ci := 11) (v := .ref (a 60)) (C := RX5) (T := TX5) (N := 9) hx hb ht in_X5 hown hK.1 hP 0 rfl rfl 1 (by decide) (ht _ w_281) (fun _ h9 => h9) rfl dX5_mark_15 ?_
      refine lv_iload_n hx hb dX5_mark_18 rfl (lv_at hl 2 rfl) ?_
      refine va_iald hx hb hK.1 hP 1 0 rfl rfl (by unfold vp_in; decide) dX5_mark_19 ?_
      refine r_topi (v := 0) rfl ?_
      refine lv_iload hx hb dX5_mark_20 (lv_at hl 0 rfl) ?_
      refine lv_ior hx hb dX5_mark_22 ?_
      refine r_topi (v := 1 <<< (p1 &&& 31)) (z_or _) ?_
      refine lv_goto (tgt := 37) hx hb dX5_mark_23 (by decide) ?_
      refine va_iast hx hb hK.1 hP hD hS 1 0 rfl rfl (by unfold vp_in; decide) dX5_mark_37 (fun H locs hP hD hS => ?_)
      have hP : va_P D vwCl [((a 9), f_memory a), ((a 60), .inl (g 0, 8, .inl (upd (fun _ => 0) (7 : Int32).toNatClampNeg (1 <<< (p1 &&& 31)))))] H := hP
      have hD : va_D (va_A [((a 9), f_memory a), ((a 60), .inl (g 0, 8, .inl (fun _ => 0)))] s.heap.size) [((a 9), f_memory a), ((a 60), .inl (g 0, 8, .inl (upd (fun _ => 0) (7 : Int32).toNatClampNeg (1 <<< (p1 &&& 31)))))] := hD
      refine lv_iconst (v := 0) hx hb dX5_mark_38 (by decide) ?_
      refine lv_istore (lv' := [(5, .int 0), (4, .int (1 <<< (p1 &&& 31))), (0, .ref (a 9)), (1, .int 7), (2, .int p1), (3, .int p2)]) hx hb dX5_mark_39 hl (by decide) rfl (fun ls hl => ?_)
      refine lv_iconst (v := 0) hx hb dX5_mark_41 (by decide) ?_
      refine lv_istore (lv' := [(6, .int 0), (5, .int 0), (4, .int (1 <<< (p1 &&& 31))), (0, .ref (a 9)), (1, .int 7), (2, .int p1), (3, .int p2)]) hx hb dX5_mark_42 hl (by decide) rfl (fun ls hl => ?_)
      refine lv_iload hx hb dX5_mark_44 (lv_at hl 0 rfl) ?_
      refine lv_bipush (v := 8) hx hb dX5_mark_46 (by decide) ?_
      refine lv_icmp_ge (tgt := 72) hx hb dX5_mark_48 (by decide) (fun c_145 => ?_) (fun c_145 => ?_)
      · exact absurd c_145 (by decide)
      · refine lv_iload hx hb dX5_mark_51 (lv_at hl 1 rfl) ?_
        refine lv_aload_n hx hb dX5_mark_53 rfl (lv_at hl 3 rfl) ?_
        refine va_get (D := D) (ci := 11) (v := .ref (a 60)) (C := RX5) (T := TX5) (N := 9) hx hb ht in_X5 hown hK.1 hP 0 rfl rfl 1 (by decide) (ht _ w_281) (fun _ h9 => h9) rfl dX5_mark_54 ?_
        refine lv_iload hx hb dX5_mark_57 (lv_at hl 0 rfl) ?_
        refine va_iald hx hb hK.1 hP 1 0 rfl rfl (by unfold vp_in; decide) dX5_mark_59 ?_
        refine r_topi (v := 0) rfl ?_
        have hPc : va_P D vwCl [] _ := hP.sub (ws' := []) [] rfl
        have hDc : va_D (fun q => z0 ≤ q) [] := (hD.to hAz).pick (ws' := []) [] (by decide) rfl
        have hFc := AnA (ws := [((a 9), f_memory a), ((a 60), .inl (g 0, 8, .inl (fun _ => 0)))]) hS.1
        refine va_calli (va_runS (As := [.int 0]) (rest := [.int 0]) ⟨hx, hb, hml, hown, ht⟩ (k_J6_bitCount_0f7a4 l D g z0 _ a) (va_cwS 1 ht (gS w_277 w_279 w_280 w_278) rfl rfl rfl (by decide +kernel) (le2 rfl rfl)) ⟨PP.blind, PP.mk' hK hZ hz hAz hS hPc hDc⟩ rfl rfl hl.1 rfl (lv_room (Nat.le_of_ble_eq_true rfl)) dX5_mark_60 (le2 rfl rfl)) hS (fun q _ h => hFc q h) hFc (fun r u t H locs ht1 hvm hw hB hz1 hk1 hS => ?_)
        obtain ⟨rfl, hw⟩ := hw
        have hP := ro1 hP hk1
        refine lv_iadd hx hb dX5_mark_63 ?_
        refine r_topi (v := 0) (by decide) ?_
        refine lv_istore (lv' := [(5, .int 0), (6, .int 0), (4, .int (1 <<< (p1 &&& 31))), (0, .ref (a 9)), (1, .int 7), (2, .int p1), (3, .int p2)]) hx hb dX5_mark_64 hl (by decide) rfl (fun ls hl => ?_)
        refine lv_iinc (v := 1) (lv' := [(6, .int 1), (5, .int 0), (4, .int (1 <<< (p1 &&& 31))), (0, .ref (a 9)), (1, .int 7), (2, .int p1), (3, .int p2)]) hx hb dX5_mark_66 hl (k := 1) rfl (by decide) (by decide) rfl (fun ls hl => ?_)
        refine lv_goto (tgt := 44) hx hb dX5_mark_69 (by decide) ?_
        refine lv_iload hx hb dX5_mark_44 (lv_at hl 0 rfl) ?_
        refine lv_bipush (v := 8) hx hb dX5_mark_46 (by decide) ?_
        refine lv_icmp_ge (tgt := 72) hx hb dX5_mark_48 (by decide) (fun c_146 => ?_) (fun c_146 => ?_)
        · exact absurd c_146 (by decide)
        · refine lv_iload hx hb dX5_mark_51 (lv_at hl 1 rfl) ?_
          refine lv_aload_n hx hb dX5_mark_53 rfl (lv_at hl 3 rfl) ?_
          refine va_get (D := D) (ci := 11) (v := .ref (a 60)) (C := RX5) (T := TX5) (N := 9) hx hb ht in_X5 hown hK.1 hP 0 rfl rfl 1 (by decide) (ht _ w_281) (fun _ h9 => h9) rfl dX5_mark_54 ?_
          refine lv_iload hx hb dX5_mark_57 (lv_at hl 0 rfl) ?_
          refine va_iald hx hb hK.1 hP 1 0 rfl rfl (by unfold vp_in; decide) dX5_mark_59 ?_
          refine r_topi (v := 0) rfl ?_
          have hPc : va_P D vwCl [] _ := hP.sub (ws' := []) [] rfl
          have hDc : va_D (fun q => z0 ≤ q) [] := (hD.to hAz).pick (ws' := []) [] (by decide) rfl
          have hFc := AnA (ws := [((a 9), f_memory a), ((a 60), .inl (g 0, 8, .inl (fun _ => 0)))]) hS.1
          refine va_calli (va_runS (As := [.int 0]) (rest := [.int 0]) ⟨hx, hb, hml, hown, ht⟩ (k_J6_bitCount_0f7a4 l D g z0 _ a) (va_cwS 1 ht (gS w_277 w_279 w_280 w_278) rfl rfl rfl (by decide +kernel) (le2 rfl rfl)) ⟨PP.blind, PP.mk' hK hZ hz hAz hS hPc hDc⟩ rfl rfl hl.1 rfl (lv_room (Nat.le_of_ble_eq_true rfl)) dX5_mark_60 (le2 rfl rfl)) hS (fun q _ h => hFc q h) hFc (fun r u t H locs ht1 hvm hw hB hz1 hk1 hS => ?_)
          obtain ⟨rfl, hw⟩ := hw
          have hP := ro1 hP hk1
          refine lv_iadd hx hb dX5_mark_63 ?_
          refine r_topi (v := 0) (by decide) ?_
          refine lv_istore (lv' := [(5, .int 0), (6, .int 1), (4, .int (1 <<< (p1 &&& 31))), (0, .ref (a 9)), (1, .int 7), (2, .int p1), (3, .int p2)]) hx hb dX5_mark_64 hl (by decide) rfl (fun ls hl => ?_)
          refine lv_iinc (v := 2) (lv' := [(6, .int 2), (5, .int 0), (4, .int (1 <<< (p1 &&& 31))), (0, .ref (a 9)), (1, .int 7), (2, .int p1), (3, .int p2)]) hx hb dX5_mark_66 hl (k := 1) rfl (by decide) (by decide) rfl (fun ls hl => ?_)
          refine lv_goto (tgt := 44) hx hb dX5_mark_69 (by decide) ?_
          refine lv_iload hx hb dX5_mark_44 (lv_at hl 0 rfl) ?_
          refine lv_bipush (v := 8) hx hb dX5_mark_46 (by decide) ?_
          refine lv_icmp_ge (tgt := 72) hx hb dX5_mark_48 (by decide) (fun c_147 => ?_) (fun c_147 => ?_)
          · exact absurd c_147 (by decide)
          · refine lv_iload hx hb dX5_mark_51 (lv_at hl 1 rfl) ?_
            refine lv_aload_n hx hb dX5_mark_53 rfl (lv_at hl 3 rfl) ?_
            refine va_get (D := D) (ci := 11) (v := .ref (a 60)) (C := RX5) (T := TX5) (N := 9) hx hb ht in_X5 hown hK.1 hP 0 rfl rfl 1 (by decide) (ht _ w_281) (fun _ h9 => h9) rfl dX5_mark_54 ?_
            refine lv_iload hx hb dX5_mark_57 (lv_at hl 0 rfl) ?_
            refine va_iald hx hb hK.1 hP 1 0 rfl rfl (by unfold vp_in; decide) dX5_mark_59 ?_
            refine r_topi (v := 0) rfl ?_
            have hPc : va_P D vwCl [] _ := hP.sub (ws' := []) [] rfl
            have hDc : va_D (fun q => z0 ≤ q) [] := (hD.to hAz).pick (ws' := []) [] (by decide) rfl
            have hFc := AnA (ws := [((a 9), f_memory a), ((a 60), .inl (g 0, 8, .inl (fun _ => 0)))]) hS.1
            refine va_calli (va_runS (As := [.int 0]) (rest := [.int 0]) ⟨hx, hb, hml, hown, ht⟩ (k_J6_bitCount_0f7a4 l D g z0 _ a) (va_cwS 1 ht (gS w_277 w_279 w_280 w_278) rfl rfl rfl (by decide +kernel) (le2 rfl rfl)) ⟨PP.blind, PP.mk' hK hZ hz hAz hS hPc hDc⟩ rfl rfl hl.1 rfl (lv_room (Nat.le_of_ble_eq_true rfl)) dX5_mark_60 (le2 rfl rfl)) hS (fun q _ h => hFc q h) hFc (fun r u t H locs ht1 hvm hw hB hz1 hk1 hS => ?_)
            obtain ⟨rfl, hw⟩ := hw
            have hP := ro1 hP hk1
            refine lv_iadd hx hb dX5_mark_63 ?_
            refine r_topi (v := 0) (by decide) ?_
            refine lv_istore (lv' := [(5, .int 0), (6, .int 2), (4, .int (1 <<< (p1 &&& 31))), (0, .ref (a 9)), (1, .int 7), (2, .int p1), (3, .int p2)]) hx hb dX5_mark_64 hl (by decide) rfl (fun ls hl => ?_)
            refine lv_iinc (v := 3) (lv' := [(6, .int 3), (5, .int 0), (4, .int (1 <<< (p1 &&& 31))), (0, .ref (a 9)), (1, .int 7), (2, .int p1), (3, .int p2)]) hx hb dX5_mark_66 hl (k := 1) rfl (by decide) (by decide) rfl (fun ls hl => ?_)
            refine lv_goto (tgt := 44) hx hb dX5_mark_69 (by decide) ?_
            refine lv_iload hx hb dX5_mark_44 (lv_at hl 0 rfl) ?_
            refine lv_bipush (v := 8) hx hb dX5_mark_46 (by decide) ?_
            refine lv_icmp_ge (tgt := 72) hx hb dX5_mark_48 (by decide) (fun c_148 => ?_) (fun c_148 => ?_)
            · exact absurd c_148 (by decide)
            · refine lv_iload hx hb dX5_mark_51 (lv_at hl 1 rfl) ?_
              refine lv_aload_n hx hb dX5_mark_53 rfl (lv_at hl 3 rfl) ?_
              refine va_get (D := D) (ci := 11) (v := .ref (a 60)) (C := RX5) (T := TX5) (N := 9) hx hb ht in_X5 hown hK.1 hP 0 rfl rfl 1 (by decide) (ht _ w_281) (fun _ h9 => h9) rfl dX5_mark_54 ?_
              refine lv_iload hx hb dX5_mark_57 (lv_at hl 0 rfl) ?_
              refine va_iald hx hb hK.1 hP 1 0 rfl rfl (by unfold vp_in; decide) dX5_mark_59 ?_
              refine r_topi (v := 0) rfl ?_
              have hPc : va_P D vwCl [] _ := hP.sub (ws' := []) [] rfl
              have hDc : va_D (fun q => z0 ≤ q) [] := (hD.to hAz).pick (ws' := []) [] (by decide) rfl
              have hFc := AnA (ws := [((a 9), f_memory a), ((a 60), .inl (g 0, 8, .inl (fun _ => 0)))]) hS.1
              refine va_calli (va_runS (As := [.int 0]) (rest := [.int 0]) ⟨hx, hb, hml, hown, ht⟩ (k_J6_bitCount_0f7a4 l D g z0 _ a) (va_cwS 1 ht (gS w_277 w_279 w_280 w_278) rfl rfl rfl (by decide +kernel) (le2 rfl rfl)) ⟨PP.blind, PP.mk' hK hZ hz hAz hS hPc hDc⟩ rfl rfl hl.1 rfl (lv_room (Nat.le_of_ble_eq_true rfl)) dX5_mark_60 (le2 rfl rfl)) hS (fun q _ h => hFc q h) hFc (fun r u t H locs ht1 hvm hw hB hz1 hk1 hS => ?_)
              obtain ⟨rfl, hw⟩ := hw
              have hP := ro1 hP hk1
              refine lv_iadd hx hb dX5_mark_63 ?_
              refine r_topi (v := 0) (by decide) ?_
              refine lv_istore (lv' := [(5, .int 0), (6, .int 3), (4, .int (1 <<< (p1 &&& 31))), (0, .ref (a 9)), (1, .int 7), (2, .int p1), (3, .int p2)]) hx hb dX5_mark_64 hl (by decide) rfl (fun ls hl => ?_)
              refine lv_iinc (v := 4) (lv' := [(6, .int 4), (5, .int 0), (4, .int (1 <<< (p1 &&& 31))), (0, .ref (a 9)), (1, .int 7), (2, .int p1), (3, .int p2)]) hx hb dX5_mark_66 hl (k := 1) rfl (by decide) (by decide) rfl (fun ls hl => ?_)
              refine lv_goto (tgt := 44) hx hb dX5_mark_69 (by decide) ?_
              refine lv_iload hx hb dX5_mark_44 (lv_at hl 0 rfl) ?_
              refine lv_bipush (v := 8) hx hb dX5_mark_46 (by decide) ?_
              refine lv_icmp_ge (tgt := 72) hx hb dX5_mark_48 (by decide) (fun c_149 => ?_) (fun c_149 => ?_)
              · exact absurd c_149 (by decide)
              · refine lv_iload hx hb dX5_mark_51 (lv_at hl 1 rfl) ?_
                refine lv_aload_n hx hb dX5_mark_53 rfl (lv_at hl 3 rfl) ?_
                refine va_get (D := D) (ci := 11) (v := .ref (a 60)) (C := RX5) (T := TX5) (N := 9) hx hb ht in_X5 hown hK.1 hP 0 rfl rfl 1 (by decide) (ht _ w_281) (fun _ h9 => h9) rfl dX5_mark_54 ?_
                refine lv_iload hx hb dX5_mark_57 (lv_at hl 0 rfl) ?_
                refine va_iald hx hb hK.1 hP 1 0 rfl rfl (by unfold vp_in; decide) dX5_mark_59 ?_
                refine r_topi (v := 0) rfl ?_
                have hPc : va_P D vwCl [] _ := hP.sub (ws' := []) [] rfl
                have hDc : va_D (fun q => z0 ≤ q) [] := (hD.to hAz).pick (ws' := []) [] (by decide) rfl
                have hFc := AnA (ws := [((a 9), f_memory a), ((a 60), .inl (g 0, 8, .inl (fun _ => 0)))]) hS.1
                refine va_calli (va_runS (As := [.int 0]) (rest := [.int 0]) ⟨hx, hb, hml, hown, ht⟩ (k_J6_bitCount_0f7a4 l D g z0 _ a) (va_cwS 1 ht (gS w_277 w_279 w_280 w_278) rfl rfl rfl (by decide +kernel) (le2 rfl rfl)) ⟨PP.blind, PP.mk' hK hZ hz hAz hS hPc hDc⟩ rfl rfl hl.1 rfl (lv_room (Nat.le_of_ble_eq_true rfl)) dX5_mark_60 (le2 rfl rfl)) hS (fun q _ h => hFc q h) hFc (fun r u t H locs ht1 hvm hw hB hz1 hk1 hS => ?_)
                obtain ⟨rfl, hw⟩ := hw
                have hP := ro1 hP hk1
                refine lv_iadd hx hb dX5_mark_63 ?_
                refine r_topi (v := 0) (by decide) ?_
                refine lv_istore (lv' := [(5, .int 0), (6, .int 4), (4, .int (1 <<< (p1 &&& 31))), (0, .ref (a 9)), (1, .int 7), (2, .int p1), (3, .int p2)]) hx hb dX5_mark_64 hl (by decide) rfl (fun ls hl => ?_)
                refine lv_iinc (v := 5) (lv' := [(6, .int 5), (5, .int 0), (4, .int (1 <<< (p1 &&& 31))), (0, .ref (a 9)), (1, .int 7), (2, .int p1), (3, .int p2)]) hx hb dX5_mark_66 hl (k := 1) rfl (by decide) (by decide) rfl (fun ls hl => ?_)
                refine lv_goto (tgt := 44) hx hb dX5_mark_69 (by decide) ?_
                refine lv_iload hx hb dX5_mark_44 (lv_at hl 0 rfl) ?_
                refine lv_bipush (v := 8) hx hb dX5_mark_46 (by decide) ?_
                refine lv_icmp_ge (tgt := 72) hx hb dX5_mark_48 (by decide) (fun c_150 => ?_) (fun c_150 => ?_)
                · exact absurd c_150 (by decide)
                · refine lv_iload hx hb dX5_mark_51 (lv_at hl 1 rfl) ?_
                  refine lv_aload_n hx hb dX5_mark_53 rfl (lv_at hl 3 rfl) ?_
                  refine va_get (D := D) (ci := 11) (v := .ref (a 60)) (C := RX5) (T := TX5) (N := 9) hx hb ht in_X5 hown hK.1 hP 0 rfl rfl 1 (by decide) (ht _ w_281) (fun _ h9 => h9) rfl dX5_mark_54 ?_
                  refine lv_iload hx hb dX5_mark_57 (lv_at hl 0 rfl) ?_
                  refine va_iald hx hb hK.1 hP 1 0 rfl rfl (by unfold vp_in; decide) dX5_mark_59 ?_
                  refine r_topi (v := 0) rfl ?_
                  have hPc : va_P D vwCl [] _ := hP.sub (ws' := []) [] rfl
                  have hDc : va_D (fun q => z0 ≤ q) [] := (hD.to hAz).pick (ws' := []) [] (by decide) rfl
                  have hFc := AnA (ws := [((a 9), f_memory a), ((a 60), .inl (g 0, 8, .inl (fun _ => 0)))]) hS.1
                  refine va_calli (va_runS (As := [.int 0]) (rest := [.int 0]) ⟨hx, hb, hml, hown, ht⟩ (k_J6_bitCount_0f7a4 l D g z0 _ a) (va_cwS 1 ht (gS w_277 w_279 w_280 w_278) rfl rfl rfl (by decide +kernel) (le2 rfl rfl)) ⟨PP.blind, PP.mk' hK hZ hz hAz hS hPc hDc⟩ rfl rfl hl.1 rfl (lv_room (Nat.le_of_ble_eq_true rfl)) dX5_mark_60 (le2 rfl rfl)) hS (fun q _ h => hFc q h) hFc (fun r u t H locs ht1 hvm hw hB hz1 hk1 hS => ?_)
                  obtain ⟨rfl, hw⟩ := hw
                  have hP := ro1 hP hk1
                  refine lv_iadd hx hb dX5_mark_63 ?_
                  refine r_topi (v := 0) (by decide) ?_
                  refine lv_istore (lv' := [(5, .int 0), (6, .int 5), (4, .int (1 <<< (p1 &&& 31))), (0, .ref (a 9)), (1, .int 7), (2, .int p1), (3, .int p2)]) hx hb dX5_mark_64 hl (by decide) rfl (fun ls hl => ?_)
                  refine lv_iinc (v := 6) (lv' := [(6, .int 6), (5, .int 0), (4, .int (1 <<< (p1 &&& 31))), (0, .ref (a 9)), (1, .int 7), (2, .int p1), (3, .int p2)]) hx hb dX5_mark_66 hl (k := 1) rfl (by decide) (by decide) rfl (fun ls hl => ?_)
                  refine lv_goto (tgt := 44) hx hb dX5_mark_69 (by decide) ?_
                  refine lv_iload hx hb dX5_mark_44 (lv_at hl 0 rfl) ?_
                  refine lv_bipush (v := 8) hx hb dX5_mark_46 (by decide) ?_
                  refine lv_icmp_ge (tgt := 72) hx hb dX5_mark_48 (by decide) (fun c_151 => ?_) (fun c_151 => ?_)
                  · exact absurd c_151 (by decide)
                  · refine lv_iload hx hb dX5_mark_51 (lv_at hl 1 rfl) ?_
                    refine lv_aload_n hx hb dX5_mark_53 rfl (lv_at hl 3 rfl) ?_
                    refine va_get (D := D) (ci := 11) (v := .ref (a 60)) (C := RX5) (T := TX5) (N := 9) hx hb ht in_X5 hown hK.1 hP 0 rfl rfl 1 (by decide) (ht _ w_281) (fun _ h9 => h9) rfl dX5_mark_54 ?_
                    refine lv_iload hx hb dX5_mark_57 (lv_at hl 0 rfl) ?_
                    refine va_iald hx hb hK.1 hP 1 0 rfl rfl (by unfold vp_in; decide) dX5_mark_59 ?_
                    refine r_topi (v := 0) rfl ?_
                    have hPc : va_P D vwCl [] _ := hP.sub (ws' := []) [] rfl
                    have hDc : va_D (fun q => z0 ≤ q) [] := (hD.to hAz).pick (ws' := []) [] (by decide) rfl
                    have hFc := AnA (ws := [((a 9), f_memory a), ((a 60), .inl (g 0, 8, .inl (fun _ => 0)))]) hS.1
                    refine va_calli (va_runS (As := [.int 0]) (rest := [.int 0]) ⟨hx, hb, hml, hown, ht⟩ (k_J6_bitCount_0f7a4 l D g z0 _ a) (va_cwS 1 ht (gS w_277 w_279 w_280 w_278) rfl rfl rfl (by decide +kernel) (le2 rfl rfl)) ⟨PP.blind, PP.mk' hK hZ hz hAz hS hPc hDc⟩ rfl rfl hl.1 rfl (lv_room (Nat.le_of_ble_eq_true rfl)) dX5_mark_60 (le2 rfl rfl)) hS (fun q _ h => hFc q h) hFc (fun r u t H locs ht1 hvm hw hB hz1 hk1 hS => ?_)
                    obtain ⟨rfl, hw⟩ := hw
                    have hP := ro1 hP hk1
                    refine lv_iadd hx hb dX5_mark_63 ?_
                    refine r_topi (v := 0) (by decide) ?_
                    refine lv_istore (lv' := [(5, .int 0), (6, .int 6), (4, .int (1 <<< (p1 &&& 31))), (0, .ref (a 9)), (1, .int 7), (2, .int p1), (3, .int p2)]) hx hb dX5_mark_64 hl (by decide) rfl (fun ls hl => ?_)
                    refine lv_iinc (v := 7) (lv' := [(6, .int 7), (5, .int 0), (4, .int (1 <<< (p1 &&& 31))), (0, .ref (a 9)), (1, .int 7), (2, .int p1), (3, .int p2)]) hx hb dX5_mark_66 hl (k := 1) rfl (by decide) (by decide) rfl (fun ls hl => ?_)
                    refine lv_goto (tgt := 44) hx hb dX5_mark_69 (by decide) ?_
                    refine lv_iload hx hb dX5_mark_44 (lv_at hl 0 rfl) ?_
                    refine lv_bipush (v := 8) hx hb dX5_mark_46 (by decide) ?_
                    refine lv_icmp_ge (tgt := 72) hx hb dX5_mark_48 (by decide) (fun c_152 => ?_) (fun c_152 => ?_)
                    · exact absurd c_152 (by decide)
                    · refine lv_iload hx hb dX5_mark_51 (lv_at hl 1 rfl) ?_
                      refine lv_aload_n hx hb dX5_mark_53 rfl (lv_at hl 3 rfl) ?_
                      refine va_get (D := D) (ci := 11) (v := .ref (a 60)) (C := RX5) (T := TX5) (N := 9) hx hb ht in_X5 hown hK.1 hP 0 rfl rfl 1 (by decide) (ht _ w_281) (fun _ h9 => h9) rfl dX5_mark_54 ?_
                      refine lv_iload hx hb dX5_mark_57 (lv_at hl 0 rfl) ?_
                      refine va_iald hx hb hK.1 hP 1 0 rfl rfl (by unfold vp_in; decide) dX5_mark_59 ?_
                      refine r_topi (v := 1 <<< (p1 &&& 31)) rfl ?_
                      have hPc : va_P D vwCl [] _ := hP.sub (ws' := []) [] rfl
                      have hDc : va_D (fun q => z0 ≤ q) [] := (hD.to hAz).pick (ws' := []) [] (by decide) rfl
                      have hFc := AnA (ws := [((a 9), f_memory a), ((a 60), .inl (g 0, 8, .inl (fun _ => 0)))]) hS.1
                      refine va_calli (va_runS (As := [.int (1 <<< (p1 &&& 31))]) (rest := [.int 0]) ⟨hx, hb, hml, hown, ht⟩ (k_J6_bitCount_0f7a4_v1 l D g z0 _ a (1 <<< (p1 &&& 31))) (va_cwS 1 ht (gS w_277 w_279 w_280 w_278) rfl rfl rfl (by decide +kernel) (le2 rfl rfl)) ⟨PP.blind, PP.mk' hK hZ hz hAz hS hPc hDc⟩ rfl rfl hl.1 rfl (lv_room (Nat.le_of_ble_eq_true rfl)) dX5_mark_60 (le2 rfl rfl)) hS (fun q _ h => hFc q h) hFc (fun r u t H locs ht1 hvm hw hB hz1 hk1 hS => ?_)
                      obtain ⟨rfl, hw⟩ := hw
                      have hP := ro1 hP hk1
                      refine r_topi (v := 1) (bit1 (lo_nlt hy2) (up_lt hy3)) ?_
                      refine lv_iadd hx hb dX5_mark_63 ?_
                      refine r_topi (v := 1) (by decide) ?_
                      refine lv_istore (lv' := [(5, .int 1), (6, .int 7), (4, .int (1 <<< (p1 &&& 31))), (0, .ref (a 9)), (1, .int 7), (2, .int p1), (3, .int p2)]) hx hb dX5_mark_64 hl (by decide) rfl (fun ls hl => ?_)
                      refine lv_iinc (v := 8) (lv' := [(6, .int 8), (5, .int 1), (4, .int (1 <<< (p1 &&& 31))), (0, .ref (a 9)), (1, .int 7), (2, .int p1), (3, .int p2)]) hx hb dX5_mark_66 hl (k := 1) rfl (by decide) (by decide) rfl (fun ls hl => ?_)
                      refine lv_goto (tgt := 44) hx hb dX5_mark_69 (by decide) ?_
                      refine lv_iload hx hb dX5_mark_44 (lv_at hl 0 rfl) ?_
                      refine lv_bipush (v := 8) hx hb dX5_mark_46 (by decide) ?_
                      refine lv_icmp_ge (tgt := 72) hx hb dX5_mark_48 (by decide) (fun c_153 => ?_) (fun c_153 => ?_)
                      · refine lv_iload hx hb dX5_mark_72 (lv_at hl 1 rfl) ?_
                        have hP9 := hP.sub (ws' := []) [] rfl
                        have hD9 := hD.sub (ws' := []) [] (by decide) rfl
                        refine W.widen (k := 0) (n := 0) (Nat.le_of_ble_eq_true rfl) (Nat.le_of_ble_eq_true rfl) ?_
                        exact W.iret (v := 1) hx hb hr (fun t ht9 hW9 => ⟨⟨1, (), rfl, (Or.inr ⟨rfl, c_135⟩), ⟨(by rw [ht9]; exact hP9), hD9⟩⟩, hS.F ht9⟩) hS.2.2 dX5_mark_74 hlocks
                      · exact absurd c_153 (by decide)
set_option maxHeartbeats 4000000 in
set_option maxRecDepth 100000 in
theorem k_X11_bad (l : Launch) (hfl : l.stackTraces = false) (D : va_G) (g : Nat → ClassId) (z0 sz : Nat) (a : Nat → Nat) (p0 : Int32) (p1 : Int32) (p2 : Int32) : vx_Met l yX11_bad (.code yX11_bad cX11_bad 4 (some .int) :: TG) (rmk 6 1 6 81) (va_Pc [.ref (a 0), .int p0, .int p1, .int p2] (PP D g z0 sz [((a 0), f_x a), ((a 9), f_memory a), ((a 60), .inl (g 0, 8, .inl (fun _ => 0)))])) (va_Qi (fun (r : Int32) (u : Unit) => ((r = 0) ∧ ((¬ p0 < 0) ∧ (¬ (8 : Int32) ≤ p0) ∧ (¬ p1 < 0) ∧ (p1 < 8) ∧ (p2 = 0))) ∨ ((r = 1) ∧ ((¬ p0 < 0) ∧ (¬ (8 : Int32) ≤ p0) ∧ (¬ p1 < 0) ∧ (p1 < 8) ∧ (¬ p2 = 0)))) (fun (u : Unit) (t : State) => va_P D vwCl [] t.heap ∧ va_D (va_A [((a 0), f_x a), ((a 9), f_memory a), ((a 60), .inl (g 0, 8, .inl (fun _ => 0)))] sz) []) (va_A [((a 0), f_x a), ((a 9), f_memory a), ((a 60), .inl (g 0, 8, .inl (fun _ => 0)))] sz)) (vx_X (fun _ : Unit => True) (fun E _ _ => (E = "java/lang/IndexOutOfBoundsException" ∧ ((p0 < 0) ∨ ((¬ p0 < 0) ∧ ((8 : Int32) ≤ p0)) ∨ ((¬ p0 < 0) ∧ (¬ (8 : Int32) ≤ p0) ∧ (p1 < 0)) ∨ ((¬ p0 < 0) ∧ (¬ (8 : Int32) ≤ p0) ∧ (¬ p1 < 0) ∧ (¬ p1 < 8))))) (va_A [((a 0), f_x a), ((a 9), f_memory a), ((a 60), .inl (g 0, 8, .inl (fun _ => 0)))] sz)) 1 6 (va_A [((a 0), f_x a), ((a 9), f_memory a), ((a 60), .inl (g 0, 8, .inl (fun _ => 0)))] sz) := by
  refine vxm0 (cc := cX11_bad) (n := 4) (by decide) (Nat.le_of_ble_eq_true rfl) ?_
  intro p e s m args below meth c hx hb hr hml htab hown ht hlocks hnm hP0 hD0 hK hZ hsz hz ls hl
  subst hsz
  have hA : ∀ q : Nat, s.heap.size ≤ q → va_A [((a 0), f_x a), ((a 9), f_memory a), ((a 60), .inl (g 0, 8, .inl (fun _ => 0)))] s.heap.size q := Anw
  have hAz : ∀ q, va_A [((a 0), f_x a), ((a 9), f_memory a), ((a 60), .inl (g 0, 8, .inl (fun _ => 0)))] s.heap.size q → z0 ≤ q := Awz hz hD0
  have hS : va_S (va_A [((a 0), f_x a), ((a 9), f_memory a), ((a 60), .inl (g 0, 8, .inl (fun _ => 0)))] s.heap.size) s.heap s.heap [] := va_S.rf
  have hD : va_D (va_A [((a 0), f_x a), ((a 9), f_memory a), ((a 60), .inl (g 0, 8, .inl (fun _ => 0)))] s.heap.size) [((a 0), f_x a), ((a 9), f_memory a), ((a 60), .inl (g 0, 8, .inl (fun _ => 0)))] := hD0.self
  have hP : va_P D vwCl [((a 0), f_x a), ((a 9), f_memory a), ((a 60), .inl (g 0, 8, .inl (fun _ => 0)))] s.heap := hP0
  have hl : lv_has ls 4 [(0, .ref (a 0)), (1, .int p0), (2, .int p1), (3, .int p2)] := hl
  refine lv_iload_n hx hb dX11_bad_0 rfl (lv_at hl 1 rfl) ?_
  refine lv_if_lt (tgt := 20) hx hb dX11_bad_1 (by decide) (fun c_1 => ?_) (fun c_1 => ?_)
  · exact thr0 hx hb hfl hown ht hK.2.2 hZ hAz hS hl hml htab hlocks (by decide +kernel) w_35 w_36 at_X11_102 dX11_bad_20 dX11_bad_23 dX11_bad_24 dX11_bad_27 rfl rfl rfl rfl (fun t _ hF => ⟨(), trivial, ⟨rfl, (Or.inl c_1)⟩, hF⟩) (fun _ h => h) rfl rfl
  · refine lv_iload_n hx hb dX11_bad_4 rfl (lv_at hl 1 rfl) ?_
    refine lv_bipush (v := 8) hx hb dX11_bad_5 (by decide) ?_
    refine lv_icmp_ge (tgt := 20) hx hb dX11_bad_7 (by decide) (fun c_2 => ?_) (fun c_2 => ?_)
    · exact thr0 hx hb hfl hown ht hK.2.2 hZ hAz hS hl hml htab hlocks (by decide +kernel) w_35 w_36 at_X11_102 dX11_bad_20 dX11_bad_23 dX11_bad_24 dX11_bad_27 rfl rfl rfl rfl (fun t _ hF => ⟨(), trivial, ⟨rfl, (Or.inr (Or.inl ⟨c_1, c_2⟩))⟩, hF⟩) (fun _ h => h) rfl rfl
    · refine lv_iload_n hx hb dX11_bad_10 rfl (lv_at hl 2 rfl) ?_
      refine lv_if_lt (tgt := 20) hx hb dX11_bad_11 (by decide) (fun c_3 => ?_) (fun c_3 => ?_)
      · exact thr0 hx hb hfl hown ht hK.2.2 hZ hAz hS hl hml htab hlocks (by decide +kernel) w_35 w_36 at_X11_102 dX11_bad_20 dX11_bad_23 dX11_bad_24 dX11_bad_27 rfl rfl rfl rfl (fun t _ hF => ⟨(), trivial, ⟨rfl, (Or.inr (Or.inr (Or.inl ⟨c_1, c_2, c_3⟩)))⟩, hF⟩) (fun _ h => h) rfl rfl
      · refine lv_iload_n hx hb dX11_bad_14 rfl (lv_at hl 2 rfl) ?_
        refine lv_bipush (v := 8) hx hb dX11_bad_15 (by decide) ?_
        refine lv_icmp_lt (tgt := 28) hx hb dX11_bad_17 (by decide) (fun c_4 => ?_) (fun c_4 => ?_)
        · refine lv_aload_n hx hb dX11_bad_28 rfl (lv_at hl 0 rfl) ?_
          refine va_get (D := D) (ci := 17) (v := .ref (a 9)) (C := RX11) (T := TX11) (N := 11) hx hb ht in_X11 hown hK.1 hP 0 rfl rfl 8 (by decide) (ht _ w_166) (fun _ h9 => h9) rfl dX11_bad_29 ?_
          refine lv_iload_n hx hb dX11_bad_32 rfl (lv_at hl 1 rfl) ?_
          refine lv_iload_n hx hb dX11_bad_33 rfl (lv_at hl 2 rfl) ?_
          refine lv_iload_n hx hb dX11_bad_34 rfl (lv_at hl 3 rfl) ?_
          have hPc : va_P D vwCl [((a 9), f_memory a), ((a 60), .inl (g 0, 8, .inl (fun _ => 0)))] _ := hP.sub (ws' := [((a 9), f_memory a), ((a 60), .inl (g 0, 8, .inl (fun _ => 0)))]) [1, 2] rfl
          have hDc : va_D (fun q => z0 ≤ q) [((a 9), f_memory a), ((a 60), .inl (g 0, 8, .inl (fun _ => 0)))] := (hD.to hAz).pick (ws' := [((a 9), f_memory a), ((a 60), .inl (g 0, 8, .inl (fun _ => 0)))]) [1, 2] (by decide) rfl
          have hFc := va_free (wc := [((a 9), f_memory a), ((a 60), .inl (g 0, 8, .inl (fun _ => 0)))]) hD hS hA [1, 2] rfl
          refine va_calli (va_runV (As := [.int p0, .int p1, .int p2]) (rest := []) ⟨hx, hb, hml, hown, ht⟩ (k_X5_mark l D g z0 _ a p0 p1 p2 c_1 c_2 c_3 c_4) (cwV 3 ht (gV w_1272 w_1274 w_1275 w_220 w_1273) rfl rfl rfl (by decide +kernel) (le2 rfl rfl)) ⟨PP.blind, va_recv hK.1 hP (ci := 11) (q0 := 1) rfl rfl, PP.mk' hK hZ hz hAz hS hPc hDc⟩ rfl rfl hl.1 rfl (lv_room (Nat.le_of_ble_eq_true rfl)) dX11_bad_35 (le2 rfl rfl)) hS (fun q _ h => hFc q h) hFc (fun r u t H locs ht1 hvm hw hB hz1 hk1 hS => ?_)
          rcases hw with hw | hw
          · obtain ⟨rfl, hw⟩ := hw
            have c_5 := hw
            obtain ⟨hP1, hD1⟩ := hB
            rw [ht1] at hP1
            obtain ⟨hP, hD⟩ := va_join (wr := [((a 0), f_x a)]) (w1 := []) hP hD [1, 2] [0] rfl rfl (by decide) (by decide) hk1 hFc hP1 hD1
            have hP : va_P D vwCl [((a 0), f_x a)] H := hP
            have hD : va_D (va_A [((a 0), f_x a), ((a 9), f_memory a), ((a 60), .inl (g 0, 8, .inl (fun _ => 0)))] s.heap.size) [((a 0), f_x a)] := hD
            have hP9 := hP.sub (ws' := []) [] rfl
            have hD9 := hD.sub (ws' := []) [] (by decide) rfl
            refine vx_ret (W.widen (k := 1) (n := 6) (Nat.le_of_ble_eq_true rfl) (Nat.le_of_ble_eq_true rfl) ?_)
            exact W.iret (v := 0) hx hb hr (fun t ht9 hW9 => ⟨⟨0, (), rfl, (Or.inl ⟨rfl, ⟨c_1, c_2, c_3, c_4, c_5⟩⟩), ⟨(by rw [ht9]; exact hP9), hD9⟩⟩, hS.F ht9⟩) hS.2.2 dX11_bad_38 hlocks
          · obtain ⟨rfl, hw⟩ := hw
            have c_6 := hw
            obtain ⟨hP1, hD1⟩ := hB
            rw [ht1] at hP1
            obtain ⟨hP, hD⟩ := va_join (wr := [((a 0), f_x a)]) (w1 := []) hP hD [1, 2] [0] rfl rfl (by decide) (by decide) hk1 hFc hP1 hD1
            have hP : va_P D vwCl [((a 0), f_x a)] H := hP
            have hD : va_D (va_A [((a 0), f_x a), ((a 9), f_memory a), ((a 60), .inl (g 0, 8, .inl (fun _ => 0)))] s.heap.size) [((a 0), f_x a)] := hD
            have hP9 := hP.sub (ws' := []) [] rfl
            have hD9 := hD.sub (ws' := []) [] (by decide) rfl
            refine vx_ret (W.widen (k := 1) (n := 6) (Nat.le_of_ble_eq_true rfl) (Nat.le_of_ble_eq_true rfl) ?_)
            exact W.iret (v := 1) hx hb hr (fun t ht9 hW9 => ⟨⟨1, (), rfl, (Or.inr ⟨rfl, ⟨c_1, c_2, c_3, c_4, c_6⟩⟩), ⟨(by rw [ht9]; exact hP9), hD9⟩⟩, hS.F ht9⟩) hS.2.2 dX11_bad_38 hlocks
        · exact thr0 hx hb hfl hown ht hK.2.2 hZ hAz hS hl hml htab hlocks (by decide +kernel) w_35 w_36 at_X11_102 dX11_bad_20 dX11_bad_23 dX11_bad_24 dX11_bad_27 rfl rfl rfl rfl (fun t _ hF => ⟨(), trivial, ⟨rfl, (Or.inr (Or.inr (Or.inr ⟨c_1, c_2, c_3, c_4⟩)))⟩, hF⟩) (fun _ h => h) rfl rfl
set_option maxHeartbeats 4000000 in
set_option maxRecDepth 100000 in
theorem k_L_bad (l : Launch) (hfl : l.stackTraces = false) (D : va_G) (g : Nat → ClassId) (z0 sz : Nat) (a : Nat → Nat) (p0 : Int32) (p1 : Int32) (p2 : Int32) (h0 : Nat) : Met l yL_bad (.codeWith yL_bad cL_bad 6 (some .int) [(0, 12, 15, 26)] :: TG) (rmk 7 1 6 104) (va_Pc [.ref (a 0), .int p0, .int p1, .int p2, .ref h0] (PP D g z0 sz [(h0, .inl (g 1, 1, .inr (.inl (fun _ => 0)))), ((a 0), f_x a), ((a 9), f_memory a), ((a 60), .inl (g 0, 8, .inl (fun _ => 0)))])) (va_Qi (fun (r : Int32) (u : Int64) => ((r = 1) ∧ (u = 0) ∧ ((p0 < 0) ∨ ((¬ p0 < 0) ∧ ((8 : Int32) ≤ p0)) ∨ ((¬ p0 < 0) ∧ (¬ (8 : Int32) ≤ p0) ∧ (p1 < 0)) ∨ ((¬ p0 < 0) ∧ (¬ (8 : Int32) ≤ p0) ∧ (¬ p1 < 0) ∧ (¬ p1 < 8)))) ∨ ((r = 0) ∧ (u = 0) ∧ ((¬ p0 < 0) ∧ (¬ (8 : Int32) ≤ p0) ∧ (¬ p1 < 0) ∧ (p1 < 8) ∧ (p2 = 0))) ∨ ((r = 0) ∧ (u = 1) ∧ ((¬ p0 < 0) ∧ (¬ (8 : Int32) ≤ p0) ∧ (¬ p1 < 0) ∧ (p1 < 8) ∧ (¬ p2 = 0)))) (fun (u : Int64) (t : State) => va_P D vwCl [(h0, .inl (g 1, 1, .inr (.inl (fun _ => u))))] t.heap ∧ va_D (va_A [(h0, .inl (g 1, 1, .inr (.inl (fun _ => 0)))), ((a 0), f_x a), ((a 9), f_memory a), ((a 60), .inl (g 0, 8, .inl (fun _ => 0)))] sz) [(h0, .inl (g 1, 1, .inr (.inl (fun _ => u))))]) (va_A [(h0, .inl (g 1, 1, .inr (.inl (fun _ => 0)))), ((a 0), f_x a), ((a 9), f_memory a), ((a 60), .inl (g 0, 8, .inl (fun _ => 0)))] sz)) 1 6 (va_A [(h0, .inl (g 1, 1, .inr (.inl (fun _ => 0)))), ((a 0), f_x a), ((a 9), f_memory a), ((a 60), .inl (g 0, 8, .inl (fun _ => 0)))] sz) := by
  refine metW0 (cc := cL_bad) (n := 6) (hh := [(0, 12, 15, 26)]) (by decide) (Nat.le_of_ble_eq_true rfl) ?_
  intro p e s m args below meth c hx hb hr hml htab hown ht hlocks hnm hP0 hD0 hK hZ hsz hz ls hl
  subst hsz
  have hA : ∀ q : Nat, s.heap.size ≤ q → va_A [(h0, .inl (g 1, 1, .inr (.inl (fun _ => 0)))), ((a 0), f_x a), ((a 9), f_memory a), ((a 60), .inl (g 0, 8, .inl (fun _ => 0)))] s.heap.size q := Anw
  have hAz : ∀ q, va_A [(h0, .inl (g 1, 1, .inr (.inl (fun _ => 0)))), ((a 0), f_x a), ((a 9), f_memory a), ((a 60), .inl (g 0, 8, .inl (fun _ => 0)))] s.heap.size q → z0 ≤ q := Awz hz hD0
  have hS : va_S (va_A [(h0, .inl (g 1, 1, .inr (.inl (fun _ => 0)))), ((a 0), f_x a), ((a 9), f_memory a), ((a 60), .inl (g 0, 8, .inl (fun _ => 0)))] s.heap.size) s.heap s.heap [] := va_S.rf
  have hD : va_D (va_A [(h0, .inl (g 1, 1, .inr (.inl (fun _ => 0)))), ((a 0), f_x a), ((a 9), f_memory a), ((a 60), .inl (g 0, 8, .inl (fun _ => 0)))] s.heap.size) [(h0, .inl (g 1, 1, .inr (.inl (fun _ => 0)))), ((a 0), f_x a), ((a 9), f_memory a), ((a 60), .inl (g 0, 8, .inl (fun _ => 0)))] := hD0.self
  have hP : va_P D vwCl [(h0, .inl (g 1, 1, .inr (.inl (fun _ => 0)))), ((a 0), f_x a), ((a 9), f_memory a), ((a 60), .inl (g 0, 8, .inl (fun _ => 0)))] s.heap := hP0
  have hl : lv_has ls 6 [(0, .ref (a 0)), (1, .int p0), (2, .int p1), (3, .int p2), (4, .ref h0)] := hl
  refine lv_aload hx hb dL_bad_0 (lv_at hl 4 rfl) ?_
  refine lv_iconst (v := 0) hx hb dL_bad_2 (by decide) ?_
  refine lv_aload_n hx hb dL_bad_3 rfl (lv_at hl 0 rfl) ?_
  refine lv_iload_n hx hb dL_bad_4 rfl (lv_at hl 1 rfl) ?_
  refine lv_iload_n hx hb dL_bad_5 rfl (lv_at hl 2 rfl) ?_
  refine lv_iload_n hx hb dL_bad_6 rfl (lv_at hl 3 rfl) ?_
  have hPc : va_P D vwCl [((a 0), f_x a), ((a 9), f_memory a), ((a 60), .inl (g 0, 8, .inl (fun _ => 0)))] _ := hP.sub (ws' := [((a 0), f_x a), ((a 9), f_memory a), ((a 60), .inl (g 0, 8, .inl (fun _ => 0)))]) [1, 2, 3] rfl
  have hDc : va_D (fun q => z0 ≤ q) [((a 0), f_x a), ((a 9), f_memory a), ((a 60), .inl (g 0, 8, .inl (fun _ => 0)))] := (hD.to hAz).pick (ws' := [((a 0), f_x a), ((a 9), f_memory a), ((a 60), .inl (g 0, 8, .inl (fun _ => 0)))]) [1, 2, 3] (by decide) rfl
  have hFc := va_free (wc := [((a 0), f_x a), ((a 9), f_memory a), ((a 60), .inl (g 0, 8, .inl (fun _ => 0)))]) hD hS hA [1, 2, 3] rfl
  refine vx_calli (vx_runV (As := [.int p0, .int p1, .int p2]) (rest := [.int 0, .ref h0]) ⟨hx, hb, hml, hown, ht⟩ (k_X11_bad l hfl D g z0 _ a p0 p1 p2) (cwV 3 ht (gV w_1276 w_1278 w_1279 w_31 w_1277) rfl rfl rfl (by decide +kernel) (le2 rfl rfl)) ⟨PP.blind, va_recv hK.1 hP (ci := 17) (q0 := 1) rfl rfl, PP.mk' hK hZ hz hAz hS hPc hDc⟩ rfl rfl hl.1 rfl (lv_room (Nat.le_of_ble_eq_true rfl)) dL_bad_7 (le2 rfl rfl)) hS (fun q _ h => hFc q h) hFc (fun q _ h => hFc q h) (fun E ce q9 u t H locs ht1 hvm hw hB hz1 hk1 hS hcell hv9 hcl => ?_) (fun r u t H locs ht1 hvm hw hB hz1 hk1 hS => ?_)
  · obtain ⟨hP, hD⟩ := va_join (wr := [(h0, .inl (g 1, 1, .inr (.inl (fun _ => 0))))]) (w1 := []) hP hD [1, 2, 3] [0] rfl rfl (by decide) (by decide) hk1 hFc nil_P nil_D
    have hP : va_P D vwCl [(h0, .inl (g 1, 1, .inr (.inl (fun _ => 0))))] H := hP
    have hD : va_D (va_A [(h0, .inl (g 1, 1, .inr (.inl (fun _ => 0)))), ((a 0), f_x a), ((a 9), f_memory a), ((a 60), .inl (g 0, 8, .inl (fun _ => 0)))] s.heap.size) [(h0, .inl (g 1, 1, .inr (.inl (fun _ => 0))))] := hD
    obtain ⟨rfl, hB⟩ := hB
    rcases hB with hB | hB | hB | hB
    · have c_1 := hB
      refine vx_catch hown [] ⟨0, 12, 15, 26⟩ [] (htab.trans rfl) (fun _ h9 => absurd h9 List.not_mem_nil) (by decide) (by decide) (ht _ w_534) (hK.2.2.use w_535) hcell hv9 hcl ?_
      refine W.eq (g2 := F0 m 15 ls [.ref q9]) rfl ?_
      refine lv_astore (lv' := [(5, .ref q9), (0, .ref (a 0)), (1, .int p0), (2, .int p1), (3, .int p2), (4, .ref h0)]) hx hb dL_bad_15 hl (by decide) rfl (fun ls hl => ?_)
      refine lv_iconst (v := 1) hx hb dL_bad_17 (by decide) ?_
      have hP9 := hP.sub (ws' := [(h0, .inl (g 1, 1, .inr (.inl (fun _ => 0))))]) [0] rfl
      have hD9 := hD.sub (ws' := [(h0, .inl (g 1, 1, .inr (.inl (fun _ => 0))))]) [0] (by decide) rfl
      refine W.widen (k := 1) (n := 6) (Nat.le_of_ble_eq_true rfl) (Nat.le_of_ble_eq_true rfl) ?_
      exact W.iret (v := 1) hx hb hr (fun t ht9 hW9 => ⟨⟨1, 0, rfl, (Or.inl ⟨rfl, rfl, (Or.inl c_1)⟩), ⟨(by rw [ht9]; exact hP9), hD9⟩⟩, hS.F ht9⟩) hS.2.2 dL_bad_18 hlocks
    · obtain ⟨c_2, c_3⟩ := hB
      refine vx_catch hown [] ⟨0, 12, 15, 26⟩ [] (htab.trans rfl) (fun _ h9 => absurd h9 List.not_mem_nil) (by decide) (by decide) (ht _ w_534) (hK.2.2.use w_535) hcell hv9 hcl ?_
      refine W.eq (g2 := F0 m 15 ls [.ref q9]) rfl ?_
      refine lv_astore (lv' := [(5, .ref q9), (0, .ref (a 0)), (1, .int p0), (2, .int p1), (3, .int p2), (4, .ref h0)]) hx hb dL_bad_15 hl (by decide) rfl (fun ls hl => ?_)
      refine lv_iconst (v := 1) hx hb dL_bad_17 (by decide) ?_
      have hP9 := hP.sub (ws' := [(h0, .inl (g 1, 1, .inr (.inl (fun _ => 0))))]) [0] rfl
      have hD9 := hD.sub (ws' := [(h0, .inl (g 1, 1, .inr (.inl (fun _ => 0))))]) [0] (by decide) rfl
      refine W.widen (k := 1) (n := 6) (Nat.le_of_ble_eq_true rfl) (Nat.le_of_ble_eq_true rfl) ?_
      exact W.iret (v := 1) hx hb hr (fun t ht9 hW9 => ⟨⟨1, 0, rfl, (Or.inl ⟨rfl, rfl, (Or.inr (Or.inl ⟨c_2, c_3⟩))⟩), ⟨(by rw [ht9]; exact hP9), hD9⟩⟩, hS.F ht9⟩) hS.2.2 dL_bad_18 hlocks
    · obtain ⟨c_4, c_5, c_6⟩ := hB
      refine vx_catch hown [] ⟨0, 12, 15, 26⟩ [] (htab.trans rfl) (fun _ h9 => absurd h9 List.not_mem_nil) (by decide) (by decide) (ht _ w_534) (hK.2.2.use w_535) hcell hv9 hcl ?_
      refine W.eq (g2 := F0 m 15 ls [.ref q9]) rfl ?_
      refine lv_astore (lv' := [(5, .ref q9), (0, .ref (a 0)), (1, .int p0), (2, .int p1), (3, .int p2), (4, .ref h0)]) hx hb dL_bad_15 hl (by decide) rfl (fun ls hl => ?_)
      refine lv_iconst (v := 1) hx hb dL_bad_17 (by decide) ?_
      have hP9 := hP.sub (ws' := [(h0, .inl (g 1, 1, .inr (.inl (fun _ => 0))))]) [0] rfl
      have hD9 := hD.sub (ws' := [(h0, .inl (g 1, 1, .inr (.inl (fun _ => 0))))]) [0] (by decide) rfl
      refine W.widen (k := 1) (n := 6) (Nat.le_of_ble_eq_true rfl) (Nat.le_of_ble_eq_true rfl) ?_
      exact W.iret (v := 1) hx hb hr (fun t ht9 hW9 => ⟨⟨1, 0, rfl, (Or.inl ⟨rfl, rfl, (Or.inr (Or.inr (Or.inl ⟨c_4, c_5, c_6⟩)))⟩), ⟨(by rw [ht9]; exact hP9), hD9⟩⟩, hS.F ht9⟩) hS.2.2 dL_bad_18 hlocks
    · obtain ⟨c_7, c_8, c_9, c_10⟩ := hB
      refine vx_catch hown [] ⟨0, 12, 15, 26⟩ [] (htab.trans rfl) (fun _ h9 => absurd h9 List.not_mem_nil) (by decide) (by decide) (ht _ w_534) (hK.2.2.use w_535) hcell hv9 hcl ?_
      refine W.eq (g2 := F0 m 15 ls [.ref q9]) rfl ?_
      refine lv_astore (lv' := [(5, .ref q9), (0, .ref (a 0)), (1, .int p0), (2, .int p1), (3, .int p2), (4, .ref h0)]) hx hb dL_bad_15 hl (by decide) rfl (fun ls hl => ?_)
      refine lv_iconst (v := 1) hx hb dL_bad_17 (by decide) ?_
      have hP9 := hP.sub (ws' := [(h0, .inl (g 1, 1, .inr (.inl (fun _ => 0))))]) [0] rfl
      have hD9 := hD.sub (ws' := [(h0, .inl (g 1, 1, .inr (.inl (fun _ => 0))))]) [0] (by decide) rfl
      refine W.widen (k := 1) (n := 6) (Nat.le_of_ble_eq_true rfl) (Nat.le_of_ble_eq_true rfl) ?_
      exact W.iret (v := 1) hx hb hr (fun t ht9 hW9 => ⟨⟨1, 0, rfl, (Or.inl ⟨rfl, rfl, (Or.inr (Or.inr (Or.inr ⟨c_7, c_8, c_9, c_10⟩)))⟩), ⟨(by rw [ht9]; exact hP9), hD9⟩⟩, hS.F ht9⟩) hS.2.2 dL_bad_18 hlocks
  · rcases hw with hw | hw
    · obtain ⟨rfl, hw⟩ := hw
      obtain ⟨c_11, c_12, c_13, c_14, c_15⟩ := hw
      obtain ⟨hP1, hD1⟩ := hB
      rw [ht1] at hP1
      obtain ⟨hP, hD⟩ := va_join (wr := [(h0, .inl (g 1, 1, .inr (.inl (fun _ => 0))))]) (w1 := []) hP hD [1, 2, 3] [0] rfl rfl (by decide) (by decide) hk1 hFc hP1 hD1
      have hP : va_P D vwCl [(h0, .inl (g 1, 1, .inr (.inl (fun _ => 0))))] H := hP
      have hD : va_D (va_A [(h0, .inl (g 1, 1, .inr (.inl (fun _ => 0)))), ((a 0), f_x a), ((a 9), f_memory a), ((a 60), .inl (g 0, 8, .inl (fun _ => 0)))] s.heap.size) [(h0, .inl (g 1, 1, .inr (.inl (fun _ => 0))))] := hD
      refine lv_i2l (v := 0) hx hb dL_bad_10 (by decide) ?_
      refine va_last hx hb hK.1 hP hD hS 0 1 rfl rfl (by unfold vp_in; decide) dL_bad_11 (fun H locs hP hD hS => ?_)
      have hP : va_P D vwCl [(h0, .inl (g 1, 1, .inr (.inl (vp_updL (fun _ => 0) (0 : Int32).toNatClampNeg 0))))] H := hP
      have hD : va_D (va_A [(h0, .inl (g 1, 1, .inr (.inl (fun _ => 0)))), ((a 0), f_x a), ((a 9), f_memory a), ((a 60), .inl (g 0, 8, .inl (fun _ => 0)))] s.heap.size) [(h0, .inl (g 1, 1, .inr (.inl (vp_updL (fun _ => 0) (0 : Int32).toNatClampNeg 0))))] := hD
      have hP := one_up (v := 0) hP 0 rfl rfl
      have hD := va_D.set (p := 0) (e := .inl (g 1, 1, .inr (.inl (fun _ => 0)))) hD rfl
      have hP : va_P D vwCl [(h0, .inl (g 1, 1, .inr (.inl (fun _ => 0))))] H := hP
      have hD : va_D (va_A [(h0, .inl (g 1, 1, .inr (.inl (fun _ => 0)))), ((a 0), f_x a), ((a 9), f_memory a), ((a 60), .inl (g 0, 8, .inl (fun _ => 0)))] s.heap.size) [(h0, .inl (g 1, 1, .inr (.inl (fun _ => 0))))] := hD
      refine lv_goto (tgt := 19) hx hb dL_bad_12 (by decide) ?_
      refine lv_iconst (v := 0) hx hb dL_bad_19 (by decide) ?_
      have hP9 := hP.sub (ws' := [(h0, .inl (g 1, 1, .inr (.inl (fun _ => 0))))]) [0] rfl
      have hD9 := hD.sub (ws' := [(h0, .inl (g 1, 1, .inr (.inl (fun _ => 0))))]) [0] (by decide) rfl
      refine W.widen (k := 1) (n := 6) (Nat.le_of_ble_eq_true rfl) (Nat.le_of_ble_eq_true rfl) ?_
      exact W.iret (v := 0) hx hb hr (fun t ht9 hW9 => ⟨⟨0, 0, rfl, (Or.inr (Or.inl ⟨rfl, rfl, ⟨c_11, c_12, c_13, c_14, c_15⟩⟩)), ⟨(by rw [ht9]; exact hP9), hD9⟩⟩, hS.F ht9⟩) hS.2.2 dL_bad_20 hlocks
    · obtain ⟨rfl, hw⟩ := hw
      obtain ⟨c_16, c_17, c_18, c_19, c_20⟩ := hw
      obtain ⟨hP1, hD1⟩ := hB
      rw [ht1] at hP1
      obtain ⟨hP, hD⟩ := va_join (wr := [(h0, .inl (g 1, 1, .inr (.inl (fun _ => 0))))]) (w1 := []) hP hD [1, 2, 3] [0] rfl rfl (by decide) (by decide) hk1 hFc hP1 hD1
      have hP : va_P D vwCl [(h0, .inl (g 1, 1, .inr (.inl (fun _ => 0))))] H := hP
      have hD : va_D (va_A [(h0, .inl (g 1, 1, .inr (.inl (fun _ => 0)))), ((a 0), f_x a), ((a 9), f_memory a), ((a 60), .inl (g 0, 8, .inl (fun _ => 0)))] s.heap.size) [(h0, .inl (g 1, 1, .inr (.inl (fun _ => 0))))] := hD
      refine lv_i2l (v := 1) hx hb dL_bad_10 (by decide) ?_
      refine va_last hx hb hK.1 hP hD hS 0 1 rfl rfl (by unfold vp_in; decide) dL_bad_11 (fun H locs hP hD hS => ?_)
      have hP : va_P D vwCl [(h0, .inl (g 1, 1, .inr (.inl (vp_updL (fun _ => 0) (0 : Int32).toNatClampNeg 1))))] H := hP
      have hD : va_D (va_A [(h0, .inl (g 1, 1, .inr (.inl (fun _ => 0)))), ((a 0), f_x a), ((a 9), f_memory a), ((a 60), .inl (g 0, 8, .inl (fun _ => 0)))] s.heap.size) [(h0, .inl (g 1, 1, .inr (.inl (vp_updL (fun _ => 0) (0 : Int32).toNatClampNeg 1))))] := hD
      have hP := one_up (v := 1) hP 0 rfl rfl
      have hD := va_D.set (p := 0) (e := .inl (g 1, 1, .inr (.inl (fun _ => 1)))) hD rfl
      have hP : va_P D vwCl [(h0, .inl (g 1, 1, .inr (.inl (fun _ => 1))))] H := hP
      have hD : va_D (va_A [(h0, .inl (g 1, 1, .inr (.inl (fun _ => 0)))), ((a 0), f_x a), ((a 9), f_memory a), ((a 60), .inl (g 0, 8, .inl (fun _ => 0)))] s.heap.size) [(h0, .inl (g 1, 1, .inr (.inl (fun _ => 1))))] := hD
      refine lv_goto (tgt := 19) hx hb dL_bad_12 (by decide) ?_
      refine lv_iconst (v := 0) hx hb dL_bad_19 (by decide) ?_
      have hP9 := hP.sub (ws' := [(h0, .inl (g 1, 1, .inr (.inl (fun _ => 1))))]) [0] rfl
      have hD9 := hD.sub (ws' := [(h0, .inl (g 1, 1, .inr (.inl (fun _ => 1))))]) [0] (by decide) rfl
      refine W.widen (k := 1) (n := 6) (Nat.le_of_ble_eq_true rfl) (Nat.le_of_ble_eq_true rfl) ?_
      exact W.iret (v := 0) hx hb hr (fun t ht9 hW9 => ⟨⟨0, 1, rfl, (Or.inr (Or.inr ⟨rfl, rfl, ⟨c_16, c_17, c_18, c_19, c_20⟩⟩)), ⟨(by rw [ht9]; exact hP9), hD9⟩⟩, hS.F ht9⟩) hS.2.2 dL_bad_20 hlocks
