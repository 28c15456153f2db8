theorem dL_law_28 : decode cL_law 28 = .ok (.iload 5, 2) := by decide +kernel
theorem dL_law_30 : decode cL_law 30 = .ok (.aload_n 0, 1) := by decide +kernel
theorem dL_law_31 : decode cL_law 31 = .ok (.arraylength, 1) := by decide +kernel
theorem dL_law_32 : decode cL_law 32 = .ok (.bipush 6, 2) := by decide +kernel
theorem dL_law_34 : decode cL_law 34 = .ok (.isub, 1) := by decide +kernel
theorem dL_law_35 : decode cL_law 35 = .ok (.if_icmp .gt 4235, 3) := by decide +kernel
theorem dL_law_38 : decode cL_law 38 = .ok (.aload_n 0, 1) := by decide +kernel
theorem dL_law_39 : decode cL_law 39 = .ok (.iload 5, 2) := by decide +kernel
theorem dL_law_41 : decode cL_law 41 = .ok (.iaload, 1) := by decide +kernel
theorem dL_law_42 : decode cL_law 42 = .ok (.bipush 127, 2) := by decide +kernel
theorem dL_law_44 : decode cL_law 44 = .ok (.iand, 1) := by decide +kernel
theorem dL_law_45 : decode cL_law 45 = .ok (.tableswitch 4219 0 69 #[295, 339, 383, 465, 533, 596, 640, 696, 764, 832, 912, 925, 981, 1037, 1093, 1106, 1188, 1272, 1361, 1416, 1496, 1552, 1615, 1671, 1739, 1752, 1765, 1835, 1891, 1904, 1988, 2056, 2112, 2168, 2181, 2249, 2305, 2361, 2405, 2461, 2474, 2529, 2585, 2641, 2685, 2741, 2809, 2877, 2890, 2903, 2971, 3027, 3083, 3141, 3154, 3167, 3280, 3338, 3434, 3502, 3572, 3647, 3715, 3785, 3843, 3913, 3993, 4061, 4141, 4206], 295) := by decide +kernel
theorem dL_law_4264 : decode cL_law 4264 = .ok (.iinc 5 6, 3) := by decide +kernel
theorem dL_law_4267 : decode cL_law 4267 = .ok (.goto (-4239), 3) := by decide +kernel
theorem dL_law_4270 : decode cL_law 4270 = .ok (.iconst 1, 1) := by decide +kernel
set_option maxHeartbeats 4000000 in
set_option maxRecDepth 100000 in
theorem lw_main {p : Program} {l : Launch} {e : Env} {s : State} {m : MethodId} {below : List Frame} {meth : Method} {c : Code} {H : Heap} {locs : List Loc} {ls : Array Slot} {Q : State → Prop} {D : va_G} {g : Nat → ClassId} {z0 b : Nat} {xs : Nat → Int32} {L : Nat} {a : Nat → Nat} {o1 o2 : Nat} (hfl : l.stackTraces = false) (hx : p.tables.exec = Jvm.exec) (hb : c.code = cL_law) (hml : c.maxLocals = 9) (hown : s.vm.findClass RL = some m.cls) (ht : ∀ w ∈ TG, w.before #[Value.ref b] s = true) (hL : L ≤ 6) (hX : va_X b L xs s s.heap) (hbl : b < s.heap.size) (hK : KK D g s) (hZ : ZZ g z0 s) (hz : z0 ≤ s.heap.size) (hAz : ∀ q, va_A [] s.heap.size q → z0 ≤ q) (hP : va_P D vwCl (lwW a g o1 o2) H) (hD : va_D (va_A [] s.heap.size) (lwW a g o1 o2)) (hS : va_S (va_A [] s.heap.size) s.heap H locs) (hl : lv_has ls 9 [(0, .ref b), (1, .ref (a 0)), (2, .ref (a 200)), (3, .ref o1), (4, .ref o2), (5, .int 0)])
    (kk : ∀ (H : Heap) (locs : List Loc) (ls : Array Slot), va_S (va_A [] s.heap.size) s.heap H locs → W p l e room_1 s m #[Value.ref b] below meth c H locs 500 10000 Q (F0 m 4271 ls [.int 1])) :
    W p l e room_1 s m #[Value.ref b] below meth c H locs 200 8000 Q (F0 m 28 ls []) := by
  have hbA : ¬ va_A [] s.heap.size b := by
    intro h
    rcases h with ⟨k9, e9, h9⟩ | h9
    · simp at h9
    · exact absurd h9 (Nat.not_le.mpr hbl)
  refine lv_iload hx hb dL_law_28 (lv_at hl 5 rfl) ?_
  refine lv_aload_n hx hb dL_law_30 rfl (lv_at hl 0 rfl) ?_
  refine va_slen hx hb hX hbl hbA hS dL_law_31 ?_
  refine lv_bipush (v := 6) hx hb dL_law_32 (by decide) ?_
  refine lv_isub hx hb dL_law_34 ?_
  by_cases hL6 : L < 6
  · have hgt : Int32.ofNat L - 6 < 0 := by
      rcases (show L = 0 ∨ L = 1 ∨ L = 2 ∨ L = 3 ∨ L = 4 ∨ L = 5 by omega) with rfl | rfl | rfl | rfl | rfl | rfl <;> decide
    refine lv_icmp_gt (tgt := 4270) hx hb dL_law_35 (by decide) (fun _ => ?_) (fun c_1 => absurd hgt c_1)
    refine lv_iconst (v := 1) hx hb dL_law_4270 (by decide) ?_
    exact W.widen (k := 500) (n := 10000) (Nat.le_of_ble_eq_true rfl) (Nat.le_of_ble_eq_true rfl) (kk _ _ _ hS)
  · obtain rfl : L = 6 := by omega
    refine lv_icmp_gt (tgt := 4270) hx hb dL_law_35 (by decide) (fun c_1 => absurd c_1 (by decide)) (fun _ => ?_)
    have fin : ∀ (H : Heap) (locs : List Loc) (ls : Array Slot), va_S (va_A [] s.heap.size) s.heap H locs → lv_has ls 9 [(5, .int 0), (0, .ref b)] → W p l e room_1 s m #[Value.ref b] below meth c H locs 500 10000 Q (F0 m 4264 ls []) := by
      intro H locs ls hS hl
      refine lv_iinc (v := 6) (lv' := [(5, .int 6), (0, .ref b)]) hx hb dL_law_4264 hl (k := 0) rfl (by decide) (by decide) rfl (fun ls hl => ?_)
      refine lv_goto (tgt := 28) hx hb dL_law_4267 (by decide) ?_
      refine lv_iload hx hb dL_law_28 (lv_at hl 0 rfl) ?_
      refine lv_aload_n hx hb dL_law_30 rfl (lv_at hl 1 rfl) ?_
      refine va_slen hx hb hX hbl hbA hS dL_law_31 ?_
      refine lv_bipush (v := 6) hx hb dL_law_32 (by decide) ?_
      refine lv_isub hx hb dL_law_34 ?_
      refine lv_icmp_gt (tgt := 4270) hx hb dL_law_35 (by decide) (fun _ => ?_) (fun c_1 => absurd c_1 (by decide))
      refine lv_iconst (v := 1) hx hb dL_law_4270 (by decide) ?_
      exact kk _ _ _ hS
    refine lv_aload_n hx hb dL_law_38 rfl (lv_at hl 0 rfl) ?_
    refine lv_iload hx hb dL_law_39 (lv_at hl 5 rfl) ?_
    refine va_sld hx hb hX hbl hbA hS (by unfold vp_in; decide) dL_law_41 ?_
    refine lv_bipush (v := 127) hx hb dL_law_42 (by decide) ?_
    refine lv_iand hx hb dL_law_44 ?_
    obtain ⟨j, hj, ej⟩ := pk_andE (xs (0 : Int32).toNatClampNeg) (m := 127) 7 (by decide)
    refine r_topi (v := nI j) ej ?_
    by_cases h70 : j < 70
    · match j, h70 with
      | 0, _ =>
        refine lv_tableIn (off := 295) (tgt := 340) hx hb dL_law_45 (by decide) (by decide) (by decide) (by decide) ?_
        exact lw_case_0 hfl hx hb hml hown ht hX hbl hbA hK hZ hz hAz hP hD hS hl fin
      | 1, _ =>
        refine lv_tableIn (off := 339) (tgt := 384) hx hb dL_law_45 (by decide) (by decide) (by decide) (by decide) ?_
        exact lw_case_1 hfl hx hb hml hown ht hX hbl hbA hK hZ hz hAz hP hD hS hl fin
      | 2, _ =>
        refine lv_tableIn (off := 383) (tgt := 428) hx hb dL_law_45 (by decide) (by decide) (by decide) (by decide) ?_
        exact lw_case_2 hfl hx hb hml hown ht hX hbl hbA hK hZ hz hAz hP hD hS hl fin
      | 3, _ =>
        refine lv_tableIn (off := 465) (tgt := 510) hx hb dL_law_45 (by decide) (by decide) (by decide) (by decide) ?_
        exact lw_case_3 hfl hx hb hml hown ht hX hbl hbA hK hZ hz hAz hP hD hS hl fin
      | 4, _ =>
        refine lv_tableIn (off := 533) (tgt := 578) hx hb dL_law_45 (by decide) (by decide) (by decide) (by decide) ?_
        exact lw_case_4 hfl hx hb hml hown ht hX hbl hbA hK hZ hz hAz hP hD hS hl fin
      | 5, _ =>
        refine lv_tableIn (off := 596) (tgt := 641) hx hb dL_law_45 (by decide) (by decide) (by decide) (by decide) ?_
        exact lw_case_5 hfl hx hb hml hown ht hX hbl hbA hK hZ hz hAz hP hD hS hl fin
      | 6, _ =>
        refine lv_tableIn (off := 640) (tgt := 685) hx hb dL_law_45 (by decide) (by decide) (by decide) (by decide) ?_
        exact lw_case_6 hfl hx hb hml hown ht hX hbl hbA hK hZ hz hAz hP hD hS hl fin
      | 7, _ =>
        refine lv_tableIn (off := 696) (tgt := 741) hx hb dL_law_45 (by decide) (by decide) (by decide) (by decide) ?_
        exact lw_case_7 hfl hx hb hml hown ht hX hbl hbA hK hZ hz hAz hP hD hS hl fin
      | 8, _ =>
        refine lv_tableIn (off := 764) (tgt := 809) hx hb dL_law_45 (by decide) (by decide) (by decide) (by decide) ?_
        exact lw_case_8 hfl hx hb hml hown ht hX hbl hbA hK hZ hz hAz hP hD hS hl fin
      | 9, _ =>
        refine lv_tableIn (off := 832) (tgt := 877) hx hb dL_law_45 (by decide) (by decide) (by decide) (by decide) ?_
        exact lw_case_9 hfl hx hb hml hown ht hX hbl hbA hK hZ hz hAz hP hD hS hl fin
      | 10, _ =>
        refine lv_tableIn (off := 912) (tgt := 957) hx hb dL_law_45 (by decide) (by decide) (by decide) (by decide) ?_
        exact lw_case_10 hfl hx hb hml hown ht hX hbl hbA hK hZ hz hAz hP hD hS hl fin
      | 11, _ =>
        refine lv_tableIn (off := 925) (tgt := 970) hx hb dL_law_45 (by decide) (by decide) (by decide) (by decide) ?_
        exact lw_case_11 hfl hx hb hml hown ht hX hbl hbA hK hZ hz hAz hP hD hS hl fin
      | 12, _ =>
        refine lv_tableIn (off := 981) (tgt := 1026) hx hb dL_law_45 (by decide) (by decide) (by decide) (by decide) ?_
        exact lw_case_12 hfl hx hb hml hown ht hX hbl hbA hK hZ hz hAz hP hD hS hl fin
      | 13, _ =>
        refine lv_tableIn (off := 1037) (tgt := 1082) hx hb dL_law_45 (by decide) (by decide) (by decide) (by decide) ?_
        exact lw_case_13 hfl hx hb hml hown ht hX hbl hbA hK hZ hz hAz hP hD hS hl fin
      | 14, _ =>
        refine lv_tableIn (off := 1093) (tgt := 1138) hx hb dL_law_45 (by decide) (by decide) (by decide) (by decide) ?_
        exact lw_case_14 hfl hx hb hml hown ht hX hbl hbA hK hZ hz hAz hP hD hS hl fin
      | 15, _ =>
        refine lv_tableIn (off := 1106) (tgt := 1151) hx hb dL_law_45 (by decide) (by decide) (by decide) (by decide) ?_
        exact lw_case_15 hfl hx hb hml hown ht hX hbl hbA hK hZ hz hAz hP hD hS hl fin
      | 16, _ =>
        refine lv_tableIn (off := 1188) (tgt := 1233) hx hb dL_law_45 (by decide) (by decide) (by decide) (by decide) ?_
        exact lw_case_16 hfl hx hb hml hown ht hX hbl hbA hK hZ hz hAz hP hD hS hl fin
      | 17, _ =>
        refine lv_tableIn (off := 1272) (tgt := 1317) hx hb dL_law_45 (by decide) (by decide) (by decide) (by decide) ?_
        exact lw_case_17 hfl hx hb hml hown ht hX hbl hbA hK hZ hz hAz hP hD hS hl fin
      | 18, _ =>
        refine lv_tableIn (off := 1361) (tgt := 1406) hx hb dL_law_45 (by decide) (by decide) (by decide) (by decide) ?_
        exact lw_case_18 hfl hx hb hml hown ht hX hbl hbA hK hZ hz hAz hP hD hS hl fin
      | 19, _ =>
        refine lv_tableIn (off := 1416) (tgt := 1461) hx hb dL_law_45 (by decide) (by decide) (by decide) (by decide) ?_
        exact lw_case_19 hfl hx hb hml hown ht hX hbl hbA hK hZ hz hAz hP hD hS hl fin
      | 20, _ =>
        refine lv_tableIn (off := 1496) (tgt := 1541) hx hb dL_law_45 (by decide) (by decide) (by decide) (by decide) ?_
        exact lw_case_20 hfl hx hb hml hown ht hX hbl hbA hK hZ hz hAz hP hD hS hl fin
      | 21, _ =>
        refine lv_tableIn (off := 1552) (tgt := 1597) hx hb dL_law_45 (by decide) (by decide) (by decide) (by decide) ?_
        exact lw_case_21 hfl hx hb hml hown ht hX hbl hbA hK hZ hz hAz hP hD hS hl fin
      | 22, _ =>
        refine lv_tableIn (off := 1615) (tgt := 1660) hx hb dL_law_45 (by decide) (by decide) (by decide) (by decide) ?_
        exact lw_case_22 hfl hx hb hml hown ht hX hbl hbA hK hZ hz hAz hP hD hS hl fin
      | 23, _ =>
        refine lv_tableIn (off := 1671) (tgt := 1716) hx hb dL_law_45 (by decide) (by decide) (by decide) (by decide) ?_
        exact lw_case_23 hfl hx hb hml hown ht hX hbl hbA hK hZ hz hAz hP hD hS hl fin
      | 24, _ =>
        refine lv_tableIn (off := 1739) (tgt := 1784) hx hb dL_law_45 (by decide) (by decide) (by decide) (by decide) ?_
        exact lw_case_24 hfl hx hb hml hown ht hX hbl hbA hK hZ hz hAz hP hD hS hl fin
      | 25, _ =>
        refine lv_tableIn (off := 1752) (tgt := 1797) hx hb dL_law_45 (by decide) (by decide) (by decide) (by decide) ?_
        exact lw_case_25 hfl hx hb hml hown ht hX hbl hbA hK hZ hz hAz hP hD hS hl fin
      | 26, _ =>
        refine lv_tableIn (off := 1765) (tgt := 1810) hx hb dL_law_45 (by decide) (by decide) (by decide) (by decide) ?_
        exact lw_case_26 hfl hx hb hml hown ht hX hbl hbA hK hZ hz hAz hP hD hS hl fin
      | 27, _ =>
        refine lv_tableIn (off := 1835) (tgt := 1880) hx hb dL_law_45 (by decide) (by decide) (by decide) (by decide) ?_
        exact lw_case_27 hfl hx hb hml hown ht hX hbl hbA hK hZ hz hAz hP hD hS hl fin
      | 28, _ =>
        refine lv_tableIn (off := 1891) (tgt := 1936) hx hb dL_law_45 (by decide) (by decide) (by decide) (by decide) ?_
        exact lw_case_28 hfl hx hb hml hown ht hX hbl hbA hK hZ hz hAz hP hD hS hl fin
      | 29, _ =>
        refine lv_tableIn (off := 1904) (tgt := 1949) hx hb dL_law_45 (by decide) (by decide) (by decide) (by decide) ?_
        exact lw_case_29 hfl hx hb hml hown ht hX hbl hbA hK hZ hz hAz hP hD hS hl fin
      | 30, _ =>
        refine lv_tableIn (off := 1988) (tgt := 2033) hx hb dL_law_45 (by decide) (by decide) (by decide) (by decide) ?_
        exact lw_case_30 hfl hx hb hml hown ht hX hbl hbA hK hZ hz hAz hP hD hS hl fin
      | 31, _ =>
        refine lv_tableIn (off := 2056) (tgt := 2101) hx hb dL_law_45 (by decide) (by decide) (by decide) (by decide) ?_
        exact lw_case_31 hfl hx hb hml hown ht hX hbl hbA hK hZ hz hAz hP hD hS hl fin
      | 32, _ =>
        refine lv_tableIn (off := 2112) (tgt := 2157) hx hb dL_law_45 (by decide) (by decide) (by decide) (by decide) ?_
        exact lw_case_32 hfl hx hb hml hown ht hX hbl hbA hK hZ hz hAz hP hD hS hl fin
      | 33, _ =>
        refine lv_tableIn (off := 2168) (tgt := 2213) hx hb dL_law_45 (by decide) (by decide) (by decide) (by decide) ?_
        exact lw_case_33 hfl hx hb hml hown ht hX hbl hbA hK hZ hz hAz hP hD hS hl fin
      | 34, _ =>
        refine lv_tableIn (off := 2181) (tgt := 2226) hx hb dL_law_45 (by decide) (by decide) (by decide) (by decide) ?_
        exact lw_case_34 hfl hx hb hml hown ht hX hbl hbA hK hZ hz hAz hP hD hS hl fin
      | 35, _ =>
        refine lv_tableIn (off := 2249) (tgt := 2294) hx hb dL_law_45 (by decide) (by decide) (by decide) (by decide) ?_
        exact lw_case_35 hfl hx hb hml hown ht hX hbl hbA hK hZ hz hAz hP hD hS hl fin
      | 36, _ =>
        refine lv_tableIn (off := 2305) (tgt := 2350) hx hb dL_law_45 (by decide) (by decide) (by decide) (by decide) ?_
        exact lw_case_36 hfl hx hb hml hown ht hX hbl hbA hK hZ hz hAz hP hD hS hl fin
      | 37, _ =>
        refine lv_tableIn (off := 2361) (tgt := 2406) hx hb dL_law_45 (by decide) (by decide) (by decide) (by decide) ?_
        exact lw_case_37 hfl hx hb hml hown ht hX hbl hbA hK hZ hz hAz hP hD hS hl fin
      | 38, _ =>
        refine lv_tableIn (off := 2405) (tgt := 2450) hx hb dL_law_45 (by decide) (by decide) (by decide) (by decide) ?_
        exact lw_case_38 hfl hx hb hml hown ht hX hbl hbA hK hZ hz hAz hP hD hS hl fin
      | 39, _ =>
        refine lv_tableIn (off := 2461) (tgt := 2506) hx hb dL_law_45 (by decide) (by decide) (by decide) (by decide) ?_
        exact lw_case_39 hfl hx hb hml hown ht hX hbl hbA hK hZ hz hAz hP hD hS hl fin
      | 40, _ =>
        refine lv_tableIn (off := 2474) (tgt := 2519) hx hb dL_law_45 (by decide) (by decide) (by decide) (by decide) ?_
        exact lw_case_40 hfl hx hb hml hown ht hX hbl hbA hK hZ hz hAz hP hD hS hl fin
      | 41, _ =>
        refine lv_tableIn (off := 2529) (tgt := 2574) hx hb dL_law_45 (by decide) (by decide) (by decide) (by decide) ?_
        exact lw_case_41 hfl hx hb hml hown ht hX hbl hbA hK hZ hz hAz hP hD hS hl fin
      | 42, _ =>
        refine lv_tableIn (off := 2585) (tgt := 2630) hx hb dL_law_45 (by decide) (by decide) (by decide) (by decide) ?_
        exact lw_case_42 hfl hx hb hml hown ht hX hbl hbA hK hZ hz hAz hP hD hS hl fin
      | 43, _ =>
        refine lv_tableIn (off := 2641) (tgt := 2686) hx hb dL_law_45 (by decide) (by decide) (by decide) (by decide) ?_
        exact lw_case_43 hfl hx hb hml hown ht hX hbl hbA hK hZ hz hAz hP hD hS hl fin
      | 44, _ =>
        refine lv_tableIn (off := 2685) (tgt := 2730) hx hb dL_law_45 (by decide) (by decide) (by decide) (by decide) ?_
        exact lw_case_44 hfl hx hb hml hown ht hX hbl hbA hK hZ hz hAz hP hD hS hl fin
      | 45, _ =>
        refine lv_tableIn (off := 2741) (tgt := 2786) hx hb dL_law_45 (by decide) (by decide) (by decide) (by decide) ?_
        exact lw_case_45 hfl hx hb hml hown ht hX hbl hbA hK hZ hz hAz hP hD hS hl fin
      | 46, _ =>
        refine lv_tableIn (off := 2809) (tgt := 2854) hx hb dL_law_45 (by decide) (by decide) (by decide) (by decide) ?_
        exact lw_case_46 hfl hx hb hml hown ht hX hbl hbA hK hZ hz hAz hP hD hS hl fin
      | 47, _ =>
        refine lv_tableIn (off := 2877) (tgt := 2922) hx hb dL_law_45 (by decide) (by decide) (by decide) (by decide) ?_
        exact lw_case_47 hfl hx hb hml hown ht hX hbl hbA hK hZ hz hAz hP hD hS hl fin
      | 48, _ =>
        refine lv_tableIn (off := 2890) (tgt := 2935) hx hb dL_law_45 (by decide) (by decide) (by decide) (by decide) ?_
        exact lw_case_48 hfl hx hb hml hown ht hX hbl hbA hK hZ hz hAz hP hD hS hl fin
      | 49, _ =>
        refine lv_tableIn (off := 2903) (tgt := 2948) hx hb dL_law_45 (by decide) (by decide) (by decide) (by decide) ?_
        exact lw_case_49 hfl hx hb hml hown ht hX hbl hbA hK hZ hz hAz hP hD hS hl fin
      | 50, _ =>
        refine lv_tableIn (off := 2971) (tgt := 3016) hx hb dL_law_45 (by decide) (by decide) (by decide) (by decide) ?_
        exact lw_case_50 hfl hx hb hml hown ht hX hbl hbA hK hZ hz hAz hP hD hS hl fin
      | 51, _ =>
        refine lv_tableIn (off := 3027) (tgt := 3072) hx hb dL_law_45 (by decide) (by decide) (by decide) (by decide) ?_
        exact lw_case_51 hfl hx hb hml hown ht hX hbl hbA hK hZ hz hAz hP hD hS hl fin
      | 52, _ =>
        refine lv_tableIn (off := 3083) (tgt := 3128) hx hb dL_law_45 (by decide) (by decide) (by decide) (by decide) ?_
        exact lw_case_52 hfl hx hb hml hown ht hX hbl hbA hK hZ hz hAz hP hD hS hl fin
      | 53, _ =>
        refine lv_tableIn (off := 3141) (tgt := 3186) hx hb dL_law_45 (by decide) (by decide) (by decide) (by decide) ?_
        exact lw_case_53 hfl hx hb hml hown ht hX hbl hbA hK hZ hz hAz hP hD hS hl fin
      | 54, _ =>
        refine lv_tableIn (off := 3154) (tgt := 3199) hx hb dL_law_45 (by decide) (by decide) (by decide) (by decide) ?_
        exact lw_case_54 hfl hx hb hml hown ht hX hbl hbA hK hZ hz hAz hP hD hS hl fin
      | 55, _ =>
        refine lv_tableIn (off := 3167) (tgt := 3212) hx hb dL_law_45 (by decide) (by decide) (by decide) (by decide) ?_
        exact lw_case_55 hfl hx hb hml hown ht hX hbl hbA hK hZ hz hAz hP hD hS hl fin
      | 56, _ =>
        refine lv_tableIn (off := 3280) (tgt := 3325) hx hb dL_law_45 (by decide) (by decide) (by decide) (by decide) ?_
        exact lw_case_56 hfl hx hb hml hown ht hX hbl hbA hK hZ hz hAz hP hD hS hl fin
      | 57, _ =>
        refine lv_tableIn (off := 3338) (tgt := 3383) hx hb dL_law_45 (by decide) (by decide) (by decide) (by decide) ?_
        exact lw_case_57 hfl hx hb hml hown ht hX hbl hbA hK hZ hz hAz hP hD hS hl fin
      | 58, _ =>
        refine lv_tableIn (off := 3434) (tgt := 3479) hx hb dL_law_45 (by decide) (by decide) (by decide) (by decide) ?_
        exact lw_case_58 hfl hx hb hml hown ht hX hbl hbA hK hZ hz hAz hP hD hS hl fin
      | 59, _ =>
        refine lv_tableIn (off := 3502) (tgt := 3547) hx hb dL_law_45 (by decide) (by decide) (by decide) (by decide) ?_
        exact lw_case_59 hfl hx hb hml hown ht hX hbl hbA hK hZ hz hAz hP hD hS hl fin
      | 60, _ =>
        refine lv_tableIn (off := 3572) (tgt := 3617) hx hb dL_law_45 (by decide) (by decide) (by decide) (by decide) ?_
        exact lw_case_60 hfl hx hb hml hown ht hX hbl hbA hK hZ hz hAz hP hD hS hl fin
      | 61, _ =>
        refine lv_tableIn (off := 3647) (tgt := 3692) hx hb dL_law_45 (by decide) (by decide) (by decide) (by decide) ?_
        exact lw_case_61 hfl hx hb hml hown ht hX hbl hbA hK hZ hz hAz hP hD hS hl fin
      | 62, _ =>
        refine lv_tableIn (off := 3715) (tgt := 3760) hx hb dL_law_45 (by decide) (by decide) (by decide) (by decide) ?_
        exact lw_case_62 hfl hx hb hml hown ht hX hbl hbA hK hZ hz hAz hP hD hS hl fin
      | 63, _ =>
        refine lv_tableIn (off := 3785) (tgt := 3830) hx hb dL_law_45 (by decide) (by decide) (by decide) (by decide) ?_
        exact lw_case_63 hfl hx hb hml hown ht hX hbl hbA hK hZ hz hAz hP hD hS hl fin
      | 64, _ =>
        refine lv_tableIn (off := 3843) (tgt := 3888) hx hb dL_law_45 (by decide) (by decide) (by decide) (by decide) ?_
        exact lw_case_64 hfl hx hb hml hown ht hX hbl hbA hK hZ hz hAz hP hD hS hl fin
      | 65, _ =>
        refine lv_tableIn (off := 3913) (tgt := 3958) hx hb dL_law_45 (by decide) (by decide) (by decide) (by decide) ?_
        exact lw_case_65 hfl hx hb hml hown ht hX hbl hbA hK hZ hz hAz hP hD hS hl fin
      | 66, _ =>
        refine lv_tableIn (off := 3993) (tgt := 4038) hx hb dL_law_45 (by decide) (by decide) (by decide) (by decide) ?_
        exact lw_case_66 hfl hx hb hml hown ht hX hbl hbA hK hZ hz hAz hP hD hS hl fin
      | 67, _ =>
        refine lv_tableIn (off := 4061) (tgt := 4106) hx hb dL_law_45 (by decide) (by decide) (by decide) (by decide) ?_
        exact lw_case_67 hfl hx hb hml hown ht hX hbl hbA hK hZ hz hAz hP hD hS hl fin
      | 68, _ =>
        refine lv_tableIn (off := 4141) (tgt := 4186) hx hb dL_law_45 (by decide) (by decide) (by decide) (by decide) ?_
        exact lw_case_68 hfl hx hb hml hown ht hX hbl hbA hK hZ hz hAz hP hD hS hl fin
      | 69, _ =>
        refine lv_tableIn (off := 4206) (tgt := 4251) hx hb dL_law_45 (by decide) (by decide) (by decide) (by decide) ?_
        exact lw_case_69 hfl hx hb hml hown ht hX hbl hbA hK hZ hz hAz hP hD hS hl fin
      | n + 70, h => exact absurd h (by omega)
    · refine lv_tableOut (tgt := 4264) hx hb dL_law_45 (Or.inr (by rw [nI_toInt (by omega)]; omega)) (by decide) ?_
      exact W.widen (k := 500) (n := 10000) (Nat.le_of_ble_eq_true rfl) (Nat.le_of_ble_eq_true rfl) (fin _ _ _ hS (lv_sub hl [5, 0] rfl))

