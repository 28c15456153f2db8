theorem w_1280 : Cond.fieldLink RX15 70 "StuckatBenchModel" "areBad" "[[Z" ∈ TG := tg (sg_9 _ (List.mem_of_getElem? (i := 134) (by decide +kernel))) (by decide +kernel)
theorem w_1281 : Cond.methodLink RX15 489 yX15_columnsFor ∈ TG := tg (sg_14 _ (List.mem_of_getElem? (i := 128) (by decide +kernel))) (by decide +kernel)
theorem w_1282 : Cond.code yX15_columnsFor cX15_columnsFor 5 (some .int) ∈ TG := tg (sg_14 _ (List.mem_of_getElem? (i := 131) (by decide +kernel))) (by decide +kernel)
theorem w_1283 : Cond.instanceMethod yX15_columnsFor ∈ TG := tg (sg_14 _ (List.mem_of_getElem? (i := 130) (by decide +kernel))) (by decide +kernel)
theorem w_1284 : Cond.selects RX15 yX15_columnsFor yX15_columnsFor ∈ TG := tg (List.mem_append_left _ (List.mem_map.mpr ⟨(yX15_columnsFor, 29), List.mem_of_getElem? (i := 127) (by decide +kernel), rfl⟩)) (by decide +kernel)
theorem w_1285 : Cond.methodLink RL 418 yL_repair ∈ TG := tg (sg_8 _ (List.mem_of_getElem? (i := 131) (by decide +kernel))) (by decide +kernel)
theorem w_1286 : Cond.codeWith yL_repair cL_repair 5 (some .int) [(0, 10, 13, 24), (0, 10, 17, 86)] ∈ TG := tg (sg_8 _ (List.mem_of_getElem? (i := 133) (by decide +kernel))) (by decide +kernel)
theorem w_1287 : Cond.static yL_repair ∈ TG := tg (sg_8 _ (List.mem_of_getElem? (i := 132) (by decide +kernel))) (by decide +kernel)
theorem w_1288 : Cond.methodLink RL 420 yX15_repair ∈ TG := tg (sg_14 _ (List.mem_of_getElem? (i := 124) (by decide +kernel))) (by decide +kernel)
theorem w_1289 : Cond.code yX15_repair cX15_repair 8 (some .int) ∈ TG := tg (sg_14 _ (List.mem_of_getElem? (i := 127) (by decide +kernel))) (by decide +kernel)
theorem w_1290 : Cond.instanceMethod yX15_repair ∈ TG := tg (sg_14 _ (List.mem_of_getElem? (i := 125) (by decide +kernel))) (by decide +kernel)
theorem w_1291 : Cond.selects RX15 yX15_repair yX15_repair ∈ TG := tg (sg_14 _ (List.mem_of_getElem? (i := 126) (by decide +kernel))) (by decide +kernel)
theorem dX15_columnsFor_0 : decode cX15_columnsFor 0 = .ok (.iconst 0, 1) := by decide +kernel
theorem dX15_columnsFor_1 : decode cX15_columnsFor 1 = .ok (.istore_n 2, 1) := by decide +kernel
theorem dX15_columnsFor_2 : decode cX15_columnsFor 2 = .ok (.iconst 0, 1) := by decide +kernel
theorem dX15_columnsFor_3 : decode cX15_columnsFor 3 = .ok (.istore_n 3, 1) := by decide +kernel
theorem dX15_columnsFor_4 : decode cX15_columnsFor 4 = .ok (.iload_n 3, 1) := by decide +kernel
theorem dX15_columnsFor_5 : decode cX15_columnsFor 5 = .ok (.bipush 8, 2) := by decide +kernel
theorem dX15_columnsFor_7 : decode cX15_columnsFor 7 = .ok (.if_icmp .ge 56, 3) := by decide +kernel
theorem dX15_columnsFor_10 : decode cX15_columnsFor 10 = .ok (.iconst 0, 1) := by decide +kernel
theorem dX15_columnsFor_11 : decode cX15_columnsFor 11 = .ok (.istore 4, 2) := by decide +kernel
theorem dX15_columnsFor_13 : decode cX15_columnsFor 13 = .ok (.iload 4, 2) := by decide +kernel
theorem dX15_columnsFor_15 : decode cX15_columnsFor 15 = .ok (.bipush 8, 2) := by decide +kernel
theorem dX15_columnsFor_17 : decode cX15_columnsFor 17 = .ok (.if_icmp .ge 40, 3) := by decide +kernel
theorem dX15_columnsFor_20 : decode cX15_columnsFor 20 = .ok (.iload_n 2, 1) := by decide +kernel
theorem dX15_columnsFor_21 : decode cX15_columnsFor 21 = .ok (.aload_n 0, 1) := by decide +kernel
theorem dX15_columnsFor_22 : decode cX15_columnsFor 22 = .ok (.getfield 70, 3) := by decide +kernel
theorem dX15_columnsFor_25 : decode cX15_columnsFor 25 = .ok (.iload_n 3, 1) := by decide +kernel
theorem dX15_columnsFor_26 : decode cX15_columnsFor 26 = .ok (.aaload, 1) := by decide +kernel
theorem dX15_columnsFor_27 : decode cX15_columnsFor 27 = .ok (.iload 4, 2) := by decide +kernel
theorem dX15_columnsFor_29 : decode cX15_columnsFor 29 = .ok (.baload, 1) := by decide +kernel
theorem dX15_columnsFor_30 : decode cX15_columnsFor 30 = .ok (.ifCond .eq 18, 3) := by decide +kernel
theorem dX15_columnsFor_33 : decode cX15_columnsFor 33 = .ok (.iload_n 1, 1) := by decide +kernel
theorem dX15_columnsFor_34 : decode cX15_columnsFor 34 = .ok (.iload_n 3, 1) := by decide +kernel
theorem dX15_columnsFor_35 : decode cX15_columnsFor 35 = .ok (.ishr, 1) := by decide +kernel
theorem dX15_columnsFor_36 : decode cX15_columnsFor 36 = .ok (.iconst 1, 1) := by decide +kernel
theorem dX15_columnsFor_37 : decode cX15_columnsFor 37 = .ok (.iand, 1) := by decide +kernel
theorem dX15_columnsFor_38 : decode cX15_columnsFor 38 = .ok (.ifCond .ne 10, 3) := by decide +kernel
theorem dX15_columnsFor_41 : decode cX15_columnsFor 41 = .ok (.iconst 1, 1) := by decide +kernel
theorem dX15_columnsFor_42 : decode cX15_columnsFor 42 = .ok (.iload 4, 2) := by decide +kernel
theorem dX15_columnsFor_44 : decode cX15_columnsFor 44 = .ok (.ishl, 1) := by decide +kernel
theorem dX15_columnsFor_45 : decode cX15_columnsFor 45 = .ok (.goto 4, 3) := by decide +kernel
theorem dX15_columnsFor_48 : decode cX15_columnsFor 48 = .ok (.iconst 0, 1) := by decide +kernel
theorem dX15_columnsFor_49 : decode cX15_columnsFor 49 = .ok (.ior, 1) := by decide +kernel
theorem dX15_columnsFor_50 : decode cX15_columnsFor 50 = .ok (.istore_n 2, 1) := by decide +kernel
theorem dX15_columnsFor_51 : decode cX15_columnsFor 51 = .ok (.iinc 4 1, 3) := by decide +kernel
theorem dX15_columnsFor_54 : decode cX15_columnsFor 54 = .ok (.goto (-41), 3) := by decide +kernel
theorem dX15_columnsFor_57 : decode cX15_columnsFor 57 = .ok (.iinc 3 1, 3) := by decide +kernel
theorem dX15_columnsFor_60 : decode cX15_columnsFor 60 = .ok (.goto (-56), 3) := by decide +kernel
theorem dX15_columnsFor_63 : decode cX15_columnsFor 63 = .ok (.iload_n 2, 1) := by decide +kernel
theorem dX15_columnsFor_64 : decode cX15_columnsFor 64 = .ok (.ireturn, 1) := by decide +kernel
theorem dX15_repair_0 : decode cX15_repair 0 = .ok (.iconst (-1), 1) := by decide +kernel
theorem dX15_repair_1 : decode cX15_repair 1 = .ok (.istore_n 3, 1) := by decide +kernel
theorem dX15_repair_2 : decode cX15_repair 2 = .ok (.iconst 0, 1) := by decide +kernel
theorem dX15_repair_3 : decode cX15_repair 3 = .ok (.istore 4, 2) := by decide +kernel
theorem dX15_repair_5 : decode cX15_repair 5 = .ok (.iconst 0, 1) := by decide +kernel
theorem dX15_repair_6 : decode cX15_repair 6 = .ok (.istore 5, 2) := by decide +kernel
theorem dX15_repair_8 : decode cX15_repair 8 = .ok (.iload 5, 2) := by decide +kernel
theorem dX15_repair_10 : decode cX15_repair 10 = .ok (.sipush 256, 3) := by decide +kernel
theorem dX15_repair_13 : decode cX15_repair 13 = .ok (.if_icmp .ge 67, 3) := by decide +kernel
theorem dX15_repair_16 : decode cX15_repair 16 = .ok (.aload_n 0, 1) := by decide +kernel
theorem dX15_repair_17 : decode cX15_repair 17 = .ok (.iload 5, 2) := by decide +kernel
theorem dX15_repair_19 : decode cX15_repair 19 = .ok (.invokevirtual 489, 3) := by decide +kernel
theorem dX15_repair_22 : decode cX15_repair 22 = .ok (.invokestatic 379, 3) := by decide +kernel
theorem dX15_repair_25 : decode cX15_repair 25 = .ok (.istore 6, 2) := by decide +kernel
theorem dX15_repair_27 : decode cX15_repair 27 = .ok (.iload 5, 2) := by decide +kernel
theorem dX15_repair_29 : decode cX15_repair 29 = .ok (.invokestatic 379, 3) := by decide +kernel
theorem dX15_repair_32 : decode cX15_repair 32 = .ok (.iload 6, 2) := by decide +kernel
theorem dX15_repair_34 : decode cX15_repair 34 = .ok (.iadd, 1) := by decide +kernel
theorem dX15_repair_35 : decode cX15_repair 35 = .ok (.istore 7, 2) := by decide +kernel
theorem dX15_repair_37 : decode cX15_repair 37 = .ok (.iload 5, 2) := by decide +kernel
theorem dX15_repair_39 : decode cX15_repair 39 = .ok (.invokestatic 379, 3) := by decide +kernel
theorem dX15_repair_42 : decode cX15_repair 42 = .ok (.iload_n 1, 1) := by decide +kernel
theorem dX15_repair_43 : decode cX15_repair 43 = .ok (.if_icmp .gt 31, 3) := by decide +kernel
theorem dX15_repair_46 : decode cX15_repair 46 = .ok (.iload 6, 2) := by decide +kernel
theorem dX15_repair_48 : decode cX15_repair 48 = .ok (.iload_n 2, 1) := by decide +kernel
theorem dX15_repair_49 : decode cX15_repair 49 = .ok (.if_icmp .gt 25, 3) := by decide +kernel
theorem dX15_repair_52 : decode cX15_repair 52 = .ok (.iload_n 3, 1) := by decide +kernel
theorem dX15_repair_53 : decode cX15_repair 53 = .ok (.iconst (-1), 1) := by decide +kernel
theorem dX15_repair_54 : decode cX15_repair 54 = .ok (.if_icmp .eq 13, 3) := by decide +kernel
theorem dX15_repair_57 : decode cX15_repair 57 = .ok (.iload 7, 2) := by decide +kernel
theorem dX15_repair_59 : decode cX15_repair 59 = .ok (.iload 4, 2) := by decide +kernel
theorem dX15_repair_61 : decode cX15_repair 61 = .ok (.if_icmp .lt 6, 3) := by decide +kernel
theorem dX15_repair_64 : decode cX15_repair 64 = .ok (.goto 10, 3) := by decide +kernel
theorem dX15_repair_67 : decode cX15_repair 67 = .ok (.iload 5, 2) := by decide +kernel
theorem dX15_repair_69 : decode cX15_repair 69 = .ok (.istore_n 3, 1) := by decide +kernel
theorem dX15_repair_70 : decode cX15_repair 70 = .ok (.iload 7, 2) := by decide +kernel
theorem dX15_repair_72 : decode cX15_repair 72 = .ok (.istore 4, 2) := by decide +kernel
theorem dX15_repair_74 : decode cX15_repair 74 = .ok (.iinc 5 1, 3) := by decide +kernel
theorem dX15_repair_77 : decode cX15_repair 77 = .ok (.goto (-69), 3) := by decide +kernel
theorem dX15_repair_80 : decode cX15_repair 80 = .ok (.aload_n 0, 1) := by decide +kernel
theorem dX15_repair_81 : decode cX15_repair 81 = .ok (.iload_n 1, 1) := by decide +kernel
theorem dX15_repair_82 : decode cX15_repair 82 = .ok (.iconst 0, 1) := by decide +kernel
theorem dX15_repair_83 : decode cX15_repair 83 = .ok (.bipush 8, 2) := by decide +kernel
theorem dX15_repair_85 : decode cX15_repair 85 = .ok (.invokestatic 98, 3) := by decide +kernel
theorem dX15_repair_88 : decode cX15_repair 88 = .ok (.ifCond .eq 13, 3) := by decide +kernel
theorem dX15_repair_91 : decode cX15_repair 91 = .ok (.iload_n 2, 1) := by decide +kernel
theorem dX15_repair_92 : decode cX15_repair 92 = .ok (.iconst 0, 1) := by decide +kernel
theorem dX15_repair_93 : decode cX15_repair 93 = .ok (.bipush 8, 2) := by decide +kernel
theorem dX15_repair_95 : decode cX15_repair 95 = .ok (.invokestatic 98, 3) := by decide +kernel
theorem dX15_repair_98 : decode cX15_repair 98 = .ok (.ifCond .ne 7, 3) := by decide +kernel
theorem dX15_repair_101 : decode cX15_repair 101 = .ok (.iconst 1, 1) := by decide +kernel
theorem dX15_repair_102 : decode cX15_repair 102 = .ok (.goto 13, 3) := by decide +kernel
theorem dX15_repair_105 : decode cX15_repair 105 = .ok (.iload_n 3, 1) := by decide +kernel
theorem dX15_repair_106 : decode cX15_repair 106 = .ok (.iconst (-1), 1) := by decide +kernel
theorem dX15_repair_107 : decode cX15_repair 107 = .ok (.if_icmp .ne 7, 3) := by decide +kernel
theorem dX15_repair_110 : decode cX15_repair 110 = .ok (.iconst 2, 1) := by decide +kernel
theorem dX15_repair_111 : decode cX15_repair 111 = .ok (.goto 4, 3) := by decide +kernel
theorem dX15_repair_114 : decode cX15_repair 114 = .ok (.iconst 0, 1) := by decide +kernel
theorem dX15_repair_115 : decode cX15_repair 115 = .ok (.invokevirtual 106, 3) := by decide +kernel
theorem dX15_repair_118 : decode cX15_repair 118 = .ok (.ifCond .eq 7, 3) := by decide +kernel
theorem dX15_repair_121 : decode cX15_repair 121 = .ok (.iconst 0, 1) := by decide +kernel
theorem dX15_repair_122 : decode cX15_repair 122 = .ok (.goto 4, 3) := by decide +kernel
theorem dX15_repair_125 : decode cX15_repair 125 = .ok (.iload_n 3, 1) := by decide +kernel
theorem dX15_repair_126 : decode cX15_repair 126 = .ok (.ireturn, 1) := by decide +kernel
theorem dL_law_3479 : decode cL_law 3479 = .ok (.aload_n 1, 1) := by decide +kernel
theorem dL_law_3480 : decode cL_law 3480 = .ok (.aload_n 0, 1) := by decide +kernel
theorem dL_law_3481 : decode cL_law 3481 = .ok (.iload 5, 2) := by decide +kernel
theorem dL_law_3483 : decode cL_law 3483 = .ok (.iconst 1, 1) := by decide +kernel
theorem dL_law_3484 : decode cL_law 3484 = .ok (.iadd, 1) := by decide +kernel
theorem dL_law_3485 : decode cL_law 3485 = .ok (.iaload, 1) := by decide +kernel
theorem dL_law_3486 : decode cL_law 3486 = .ok (.aload_n 0, 1) := by decide +kernel
theorem dL_law_3487 : decode cL_law 3487 = .ok (.iload 5, 2) := by decide +kernel
theorem dL_law_3489 : decode cL_law 3489 = .ok (.iconst 2, 1) := by decide +kernel
theorem dL_law_3490 : decode cL_law 3490 = .ok (.iadd, 1) := by decide +kernel
theorem dL_law_3491 : decode cL_law 3491 = .ok (.iaload, 1) := by decide +kernel
theorem dL_law_3492 : decode cL_law 3492 = .ok (.aload_n 3, 1) := by decide +kernel
theorem dL_law_3493 : decode cL_law 3493 = .ok (.invokestatic 418, 3) := by decide +kernel
theorem dL_law_3496 : decode cL_law 3496 = .ok (.istore 6, 2) := by decide +kernel
theorem dL_law_3498 : decode cL_law 3498 = .ok (.aload_n 2, 1) := by decide +kernel
theorem dL_law_3499 : decode cL_law 3499 = .ok (.aload_n 0, 1) := by decide +kernel
theorem dL_law_3500 : decode cL_law 3500 = .ok (.iload 5, 2) := by decide +kernel
theorem dL_law_3502 : decode cL_law 3502 = .ok (.iconst 1, 1) := by decide +kernel
theorem dL_law_3503 : decode cL_law 3503 = .ok (.iadd, 1) := by decide +kernel
theorem dL_law_3504 : decode cL_law 3504 = .ok (.iaload, 1) := by decide +kernel
theorem dL_law_3505 : decode cL_law 3505 = .ok (.aload_n 0, 1) := by decide +kernel
theorem dL_law_3506 : decode cL_law 3506 = .ok (.iload 5, 2) := by decide +kernel
theorem dL_law_3508 : decode cL_law 3508 = .ok (.iconst 2, 1) := by decide +kernel
theorem dL_law_3509 : decode cL_law 3509 = .ok (.iadd, 1) := by decide +kernel
theorem dL_law_3510 : decode cL_law 3510 = .ok (.iaload, 1) := by decide +kernel
theorem dL_law_3511 : decode cL_law 3511 = .ok (.invokevirtual 420, 3) := by decide +kernel
theorem dL_law_3514 : decode cL_law 3514 = .ok (.istore 7, 2) := by decide +kernel
theorem dL_law_3516 : decode cL_law 3516 = .ok (.aload_n 2, 1) := by decide +kernel
theorem dL_law_3517 : decode cL_law 3517 = .ok (.invokevirtual 221, 3) := by decide +kernel
theorem dL_law_3520 : decode cL_law 3520 = .ok (.iload 6, 2) := by decide +kernel
theorem dL_law_3522 : decode cL_law 3522 = .ok (.if_icmp .eq 5, 3) := by decide +kernel
theorem dL_law_3527 : decode cL_law 3527 = .ok (.iload 6, 2) := by decide +kernel
theorem dL_law_3529 : decode cL_law 3529 = .ok (.ifCond .ne 15, 3) := by decide +kernel
theorem dL_law_3532 : decode cL_law 3532 = .ok (.aload_n 3, 1) := by decide +kernel
theorem dL_law_3533 : decode cL_law 3533 = .ok (.iconst 0, 1) := by decide +kernel
theorem dL_law_3534 : decode cL_law 3534 = .ok (.laload, 1) := by decide +kernel
theorem dL_law_3535 : decode cL_law 3535 = .ok (.iload 7, 2) := by decide +kernel
theorem dL_law_3537 : decode cL_law 3537 = .ok (.i2l, 1) := by decide +kernel
theorem dL_law_3538 : decode cL_law 3538 = .ok (.lcmp, 1) := by decide +kernel
theorem dL_law_3539 : decode cL_law 3539 = .ok (.ifCond .eq 5, 3) := by decide +kernel
theorem dL_law_3544 : decode cL_law 3544 = .ok (.goto 720, 3) := by decide +kernel
set_option maxHeartbeats 4000000 in
set_option maxRecDepth 100000 in
theorem k_X15_columnsFor (l : Launch) (D : va_G) (g : Nat → ClassId) (z0 sz : Nat) (a : Nat → Nat) : Met l yX15_columnsFor (.code yX15_columnsFor cX15_columnsFor 5 (some .int) :: TG) (rmk 0 0 0 0) (va_Pc [.ref (a 200), .int 0] (PP D g z0 sz [((a 200), f_m a g), ((a 213), .inl (g 6, 8, .inr (.inr (.inr (.inr (fun i => if i < 8 then some (a (216 + i)) else none)))))), ((a 223), .inl (g 3, 8, .inl (fun _ => 0))), ((a 222), .inl (g 3, 8, .inl (fun _ => 0))), ((a 221), .inl (g 3, 8, .inl (fun _ => 0))), ((a 220), .inl (g 3, 8, .inl (fun _ => 0))), ((a 219), .inl (g 3, 8, .inl (fun _ => 0))), ((a 218), .inl (g 3, 8, .inl (fun _ => 0))), ((a 217), .inl (g 3, 8, .inl (fun _ => 0))), ((a 216), .inl (g 3, 8, .inl (fun _ => 0)))])) (va_Qi (fun (r : Int32) (u : Unit) => (r = 0) ∧ True) (fun (_ : Unit) (_ : State) => True) (va_A [] sz)) 0 0 (va_A [] sz) := by
  refine met0 (cc := cX15_columnsFor) (n := 5) (by decide) (Nat.le_of_ble_eq_true rfl) ?_
  intro p e s m args below meth c hx hb hr hml hown ht hlocks hnm hP0 hD0 hK hZ hsz hz ls hl
  subst hsz
  have hA : ∀ q : Nat, s.heap.size ≤ q → va_A [] s.heap.size q := Anw
  have hAz : ∀ q, va_A [] s.heap.size q → z0 ≤ q := A0z hz
  have hS : va_S (va_A [] s.heap.size) s.heap s.heap [] := va_S.rf
  have hl : lv_has ls 5 [(0, .ref (a 200)), (1, .int 0)] := hl
  refine lv_iconst (v := 0) hx hb dX15_columnsFor_0 (by decide) ?_
  refine lv_istore_n (lv' := [(2, .int 0), (0, .ref (a 200)), (1, .int 0)]) hx hb dX15_columnsFor_1 rfl hl (by decide) rfl (fun ls hl => ?_)
  refine lv_iconst (v := 0) hx hb dX15_columnsFor_2 (by decide) ?_
  refine lv_istore_n (lv' := [(3, .int 0), (2, .int 0), (0, .ref (a 200)), (1, .int 0)]) hx hb dX15_columnsFor_3 rfl hl (by decide) rfl (fun ls hl => ?_)
  refine lv_iload_n hx hb dX15_columnsFor_4 rfl (lv_at hl 0 rfl) ?_
  refine lv_bipush (v := 8) hx hb dX15_columnsFor_5 (by decide) ?_
  refine lv_icmp_ge (tgt := 63) hx hb dX15_columnsFor_7 (by decide) (fun c_1 => ?_) (fun c_1 => ?_)
  · exact absurd c_1 (by decide)
  · refine lv_iconst (v := 0) hx hb dX15_columnsFor_10 (by decide) ?_
    refine lv_istore (lv' := [(4, .int 0), (3, .int 0), (2, .int 0), (0, .ref (a 200)), (1, .int 0)]) hx hb dX15_columnsFor_11 hl (by decide) rfl (fun ls hl => ?_)
    have loop : ∀ (k i : Nat), 8 = i + k → ∀ (H : Heap) (locs : List Loc), va_S (va_A [] s.heap.size) s.heap H locs → ∀ (ls : Array Slot), lv_has ls 5 [(4, .int (nI i)), (2, .int 0), (3, .int 0), (0, .ref (a 200)), (1, .int 0)] → W p l e (rmk 0 0 0 0) s m args below meth c H locs 0 0 (MQ below (va_Qi (fun (r : Int32) (u : Unit) => (r = 0) ∧ True) (fun (_ : Unit) (_ : State) => True) (va_A [] s.heap.size)) args s 0 0 (va_A [] s.heap.size)) (F0 m 13 ls []) := by
      intro k
      induction k with
      | zero =>
        intro i hi H locs hS ls hl
        have hi0 : i = 8 := by omega
        refine lv_iload hx hb dX15_columnsFor_13 (lv_at hl 0 rfl) ?_
        refine lv_bipush (v := 8) hx hb dX15_columnsFor_15 (by decide) ?_
        refine lv_icmp_ge (tgt := 57) hx hb dX15_columnsFor_17 (by decide) (fun c_2 => ?_) (fun c_2 => absurd (by rw [hi0]; decide) c_2)
        refine lv_iinc (v := 1) (lv' := [(3, .int 1), (4, .int (nI i)), (2, .int 0), (0, .ref (a 200)), (1, .int 0)]) hx hb dX15_columnsFor_57 hl (k := 2) rfl (by decide) (by decide) rfl (fun ls hl => ?_)
        refine lv_goto (tgt := 4) hx hb dX15_columnsFor_60 (by decide) ?_
        refine lv_iload_n hx hb dX15_columnsFor_4 rfl (lv_at hl 0 rfl) ?_
        refine lv_bipush (v := 8) hx hb dX15_columnsFor_5 (by decide) ?_
        refine lv_icmp_ge (tgt := 63) hx hb dX15_columnsFor_7 (by decide) (fun c_3 => ?_) (fun c_3 => ?_)
        · exact absurd c_3 (by decide)
        · refine lv_iconst (v := 0) hx hb dX15_columnsFor_10 (by decide) ?_
          refine lv_istore (lv' := [(4, .int 0), (3, .int 1), (2, .int 0), (0, .ref (a 200)), (1, .int 0)]) hx hb dX15_columnsFor_11 hl (by decide) rfl (fun ls hl => ?_)
          have loop : ∀ (k i : Nat), 8 = i + k → ∀ (H : Heap) (locs : List Loc), va_S (va_A [] s.heap.size) s.heap H locs → ∀ (ls : Array Slot), lv_has ls 5 [(4, .int (nI i)), (2, .int 0), (3, .int 1), (0, .ref (a 200)), (1, .int 0)] → W p l e (rmk 0 0 0 0) s m args below meth c H locs 0 0 (MQ below (va_Qi (fun (r : Int32) (u : Unit) => (r = 0) ∧ True) (fun (_ : Unit) (_ : State) => True) (va_A [] s.heap.size)) args s 0 0 (va_A [] s.heap.size)) (F0 m 13 ls []) := by
            intro k
            induction k with
            | zero =>
              intro i hi H locs hS ls hl
              have hi0 : i = 8 := by omega
              refine lv_iload hx hb dX15_columnsFor_13 (lv_at hl 0 rfl) ?_
              refine lv_bipush (v := 8) hx hb dX15_columnsFor_15 (by decide) ?_
              refine lv_icmp_ge (tgt := 57) hx hb dX15_columnsFor_17 (by decide) (fun c_4 => ?_) (fun c_4 => absurd (by rw [hi0]; decide) c_4)
              refine lv_iinc (v := 2) (lv' := [(3, .int 2), (4, .int (nI i)), (2, .int 0), (0, .ref (a 200)), (1, .int 0)]) hx hb dX15_columnsFor_57 hl (k := 2) rfl (by decide) (by decide) rfl (fun ls hl => ?_)
              refine lv_goto (tgt := 4) hx hb dX15_columnsFor_60 (by decide) ?_
              refine lv_iload_n hx hb dX15_columnsFor_4 rfl (lv_at hl 0 rfl) ?_
              refine lv_bipush (v := 8) hx hb dX15_columnsFor_5 (by decide) ?_
              refine lv_icmp_ge (tgt := 63) hx hb dX15_columnsFor_7 (by decide) (fun c_5 => ?_) (fun c_5 => ?_)
              · exact absurd c_5 (by decide)
              · refine lv_iconst (v := 0) hx hb dX15_columnsFor_10 (by decide) ?_
                refine lv_istore (lv' := [(4, .int 0), (3, .int 2), (2, .int 0), (0, .ref (a 200)), (1, .int 0)]) hx hb dX15_columnsFor_11 hl (by decide) rfl (fun ls hl => ?_)
                have loop : ∀ (k i : Nat), 8 = i + k → ∀ (H : Heap) (locs : List Loc), va_S (va_A [] s.heap.size) s.heap H locs → ∀ (ls : Array Slot), lv_has ls 5 [(4, .int (nI i)), (2, .int 0), (3, .int 2), (0, .ref (a 200)), (1, .int 0)] → W p l e (rmk 0 0 0 0) s m args below meth c H locs 0 0 (MQ below (va_Qi (fun (r : Int32) (u : Unit) => (r = 0) ∧ True) (fun (_ : Unit) (_ : State) => True) (va_A [] s.heap.size)) args s 0 0 (va_A [] s.heap.size)) (F0 m 13 ls []) := by
                  intro k
                  induction k with
                  | zero =>
                    intro i hi H locs hS ls hl
                    have hi0 : i = 8 := by omega
                    refine lv_iload hx hb dX15_columnsFor_13 (lv_at hl 0 rfl) ?_
                    refine lv_bipush (v := 8) hx hb dX15_columnsFor_15 (by decide) ?_
                    refine lv_icmp_ge (tgt := 57) hx hb dX15_columnsFor_17 (by decide) (fun c_6 => ?_) (fun c_6 => absurd (by rw [hi0]; decide) c_6)
                    refine lv_iinc (v := 3) (lv' := [(3, .int 3), (4, .int (nI i)), (2, .int 0), (0, .ref (a 200)), (1, .int 0)]) hx hb dX15_columnsFor_57 hl (k := 2) rfl (by decide) (by decide) rfl (fun ls hl => ?_)
                    refine lv_goto (tgt := 4) hx hb dX15_columnsFor_60 (by decide) ?_
                    refine lv_iload_n hx hb dX15_columnsFor_4 rfl (lv_at hl 0 rfl) ?_
                    refine lv_bipush (v := 8) hx hb dX15_columnsFor_5 (by decide) ?_
                    refine lv_icmp_ge (tgt := 63) hx hb dX15_columnsFor_7 (by decide) (fun c_7 => ?_) (fun c_7 => ?_)
                    · exact absurd c_7 (by decide)
                    · refine lv_iconst (v := 0) hx hb dX15_columnsFor_10 (by decide) ?_
                      refine lv_istore (lv' := [(4, .int 0), (3, .int 3), (2, .int 0), (0, .ref (a 200)), (1, .int 0)]) hx hb dX15_columnsFor_11 hl (by decide) rfl (fun ls hl => ?_)
                      have loop : ∀ (k i : Nat), 8 = i + k → ∀ (H : Heap) (locs : List Loc), va_S (va_A [] s.heap.size) s.heap H locs → ∀ (ls : Array Slot), lv_has ls 5 [(4, .int (nI i)), (2, .int 0), (3, .int 3), (0, .ref (a 200)), (1, .int 0)] → W p l e (rmk 0 0 0 0) s m args below meth c H locs 0 0 (MQ below (va_Qi (fun (r : Int32) (u : Unit) => (r = 0) ∧ True) (fun (_ : Unit) (_ : State) => True) (va_A [] s.heap.size)) args s 0 0 (va_A [] s.heap.size)) (F0 m 13 ls []) := by
                        intro k
                        induction k with
                        | zero =>
                          intro i hi H locs hS ls hl
                          have hi0 : i = 8 := by omega
                          refine lv_iload hx hb dX15_columnsFor_13 (lv_at hl 0 rfl) ?_
                          refine lv_bipush (v := 8) hx hb dX15_columnsFor_15 (by decide) ?_
                          refine lv_icmp_ge (tgt := 57) hx hb dX15_columnsFor_17 (by decide) (fun c_8 => ?_) (fun c_8 => absurd (by rw [hi0]; decide) c_8)
                          refine lv_iinc (v := 4) (lv' := [(3, .int 4), (4, .int (nI i)), (2, .int 0), (0, .ref (a 200)), (1, .int 0)]) hx hb dX15_columnsFor_57 hl (k := 2) rfl (by decide) (by decide) rfl (fun ls hl => ?_)
                          refine lv_goto (tgt := 4) hx hb dX15_columnsFor_60 (by decide) ?_
                          refine lv_iload_n hx hb dX15_columnsFor_4 rfl (lv_at hl 0 rfl) ?_
                          refine lv_bipush (v := 8) hx hb dX15_columnsFor_5 (by decide) ?_
                          refine lv_icmp_ge (tgt := 63) hx hb dX15_columnsFor_7 (by decide) (fun c_9 => ?_) (fun c_9 => ?_)
                          · exact absurd c_9 (by decide)
                          · refine lv_iconst (v := 0) hx hb dX15_columnsFor_10 (by decide) ?_
                            refine lv_istore (lv' := [(4, .int 0), (3, .int 4), (2, .int 0), (0, .ref (a 200)), (1, .int 0)]) hx hb dX15_columnsFor_11 hl (by decide) rfl (fun ls hl => ?_)
                            have loop : ∀ (k i : Nat), 8 = i + k → ∀ (H : Heap) (locs : List Loc), va_S (va_A [] s.heap.size) s.heap H locs → ∀ (ls : Array Slot), lv_has ls 5 [(4, .int (nI i)), (2, .int 0), (3, .int 4), (0, .ref (a 200)), (1, .int 0)] → W p l e (rmk 0 0 0 0) s m args below meth c H locs 0 0 (MQ below (va_Qi (fun (r : Int32) (u : Unit) => (r = 0) ∧ True) (fun (_ : Unit) (_ : State) => True) (va_A [] s.heap.size)) args s 0 0 (va_A [] s.heap.size)) (F0 m 13 ls []) := by
                              intro k
                              induction k with
                              | zero =>
                                intro i hi H locs hS ls hl
                                have hi0 : i = 8 := by omega
                                refine lv_iload hx hb dX15_columnsFor_13 (lv_at hl 0 rfl) ?_
                                refine lv_bipush (v := 8) hx hb dX15_columnsFor_15 (by decide) ?_
                                refine lv_icmp_ge (tgt := 57) hx hb dX15_columnsFor_17 (by decide) (fun c_10 => ?_) (fun c_10 => absurd (by rw [hi0]; decide) c_10)
                                refine lv_iinc (v := 5) (lv' := [(3, .int 5), (4, .int (nI i)), (2, .int 0), (0, .ref (a 200)), (1, .int 0)]) hx hb dX15_columnsFor_57 hl (k := 2) rfl (by decide) (by decide) rfl (fun ls hl => ?_)
                                refine lv_goto (tgt := 4) hx hb dX15_columnsFor_60 (by decide) ?_
                                refine lv_iload_n hx hb dX15_columnsFor_4 rfl (lv_at hl 0 rfl) ?_
                                refine lv_bipush (v := 8) hx hb dX15_columnsFor_5 (by decide) ?_
                                refine lv_icmp_ge (tgt := 63) hx hb dX15_columnsFor_7 (by decide) (fun c_11 => ?_) (fun c_11 => ?_)
                                · exact absurd c_11 (by decide)
                                · refine lv_iconst (v := 0) hx hb dX15_columnsFor_10 (by decide) ?_
                                  refine lv_istore (lv' := [(4, .int 0), (3, .int 5), (2, .int 0), (0, .ref (a 200)), (1, .int 0)]) hx hb dX15_columnsFor_11 hl (by decide) rfl (fun ls hl => ?_)
                                  have loop : ∀ (k i : Nat), 8 = i + k → ∀ (H : Heap) (locs : List Loc), va_S (va_A [] s.heap.size) s.heap H locs → ∀ (ls : Array Slot), lv_has ls 5 [(4, .int (nI i)), (2, .int 0), (3, .int 5), (0, .ref (a 200)), (1, .int 0)] → W p l e (rmk 0 0 0 0) s m args below meth c H locs 0 0 (MQ below (va_Qi (fun (r : Int32) (u : Unit) => (r = 0) ∧ True) (fun (_ : Unit) (_ : State) => True) (va_A [] s.heap.size)) args s 0 0 (va_A [] s.heap.size)) (F0 m 13 ls []) := by
                                    intro k
                                    induction k with
                                    | zero =>
                                      intro i hi H locs hS ls hl
                                      have hi0 : i = 8 := by omega
                                      refine lv_iload hx hb dX15_columnsFor_13 (lv_at hl 0 rfl) ?_
                                      refine lv_bipush (v := 8) hx hb dX15_columnsFor_15 (by decide) ?_
                                      refine lv_icmp_ge (tgt := 57) hx hb dX15_columnsFor_17 (by decide) (fun c_12 => ?_) (fun c_12 => absurd (by rw [hi0]; decide) c_12)
                                      refine lv_iinc (v := 6) (lv' := [(3, .int 6), (4, .int (nI i)), (2, .int 0), (0, .ref (a 200)), (1, .int 0)]) hx hb dX15_columnsFor_57 hl (k := 2) rfl (by decide) (by decide) rfl (fun ls hl => ?_)
                                      refine lv_goto (tgt := 4) hx hb dX15_columnsFor_60 (by decide) ?_
                                      refine lv_iload_n hx hb dX15_columnsFor_4 rfl (lv_at hl 0 rfl) ?_
                                      refine lv_bipush (v := 8) hx hb dX15_columnsFor_5 (by decide) ?_
                                      refine lv_icmp_ge (tgt := 63) hx hb dX15_columnsFor_7 (by decide) (fun c_13 => ?_) (fun c_13 => ?_)
                                      · exact absurd c_13 (by decide)
                                      · refine lv_iconst (v := 0) hx hb dX15_columnsFor_10 (by decide) ?_
                                        refine lv_istore (lv' := [(4, .int 0), (3, .int 6), (2, .int 0), (0, .ref (a 200)), (1, .int 0)]) hx hb dX15_columnsFor_11 hl (by decide) rfl (fun ls hl => ?_)
                                        have loop : ∀ (k i : Nat), 8 = i + k → ∀ (H : Heap) (locs : List Loc), va_S (va_A [] s.heap.size) s.heap H locs → ∀ (ls : Array Slot), lv_has ls 5 [(4, .int (nI i)), (2, .int 0), (3, .int 6), (0, .ref (a 200)), (1, .int 0)] → W p l e (rmk 0 0 0 0) s m args below meth c H locs 0 0 (MQ below (va_Qi (fun (r : Int32) (u : Unit) => (r = 0) ∧ True) (fun (_ : Unit) (_ : State) => True) (va_A [] s.heap.size)) args s 0 0 (va_A [] s.heap.size)) (F0 m 13 ls []) := by
                                          intro k
                                          induction k with
                                          | zero =>
                                            intro i hi H locs hS ls hl
                                            have hi0 : i = 8 := by omega
                                            refine lv_iload hx hb dX15_columnsFor_13 (lv_at hl 0 rfl) ?_
                                            refine lv_bipush (v := 8) hx hb dX15_columnsFor_15 (by decide) ?_
                                            refine lv_icmp_ge (tgt := 57) hx hb dX15_columnsFor_17 (by decide) (fun c_14 => ?_) (fun c_14 => absurd (by rw [hi0]; decide) c_14)
                                            refine lv_iinc (v := 7) (lv' := [(3, .int 7), (4, .int (nI i)), (2, .int 0), (0, .ref (a 200)), (1, .int 0)]) hx hb dX15_columnsFor_57 hl (k := 2) rfl (by decide) (by decide) rfl (fun ls hl => ?_)
                                            refine lv_goto (tgt := 4) hx hb dX15_columnsFor_60 (by decide) ?_
                                            refine lv_iload_n hx hb dX15_columnsFor_4 rfl (lv_at hl 0 rfl) ?_
                                            refine lv_bipush (v := 8) hx hb dX15_columnsFor_5 (by decide) ?_
                                            refine lv_icmp_ge (tgt := 63) hx hb dX15_columnsFor_7 (by decide) (fun c_15 => ?_) (fun c_15 => ?_)
                                            · exact absurd c_15 (by decide)
                                            · refine lv_iconst (v := 0) hx hb dX15_columnsFor_10 (by decide) ?_
                                              refine lv_istore (lv' := [(4, .int 0), (3, .int 7), (2, .int 0), (0, .ref (a 200)), (1, .int 0)]) hx hb dX15_columnsFor_11 hl (by decide) rfl (fun ls hl => ?_)
                                              have loop : ∀ (k i : Nat), 8 = i + k → ∀ (H : Heap) (locs : List Loc), va_S (va_A [] s.heap.size) s.heap H locs → ∀ (ls : Array Slot), lv_has ls 5 [(4, .int (nI i)), (2, .int 0), (3, .int 7), (0, .ref (a 200)), (1, .int 0)] → W p l e (rmk 0 0 0 0) s m args below meth c H locs 0 0 (MQ below (va_Qi (fun (r : Int32) (u : Unit) => (r = 0) ∧ True) (fun (_ : Unit) (_ : State) => True) (va_A [] s.heap.size)) args s 0 0 (va_A [] s.heap.size)) (F0 m 13 ls []) := by
                                                intro k
                                                induction k with
                                                | zero =>
                                                  intro i hi H locs hS ls hl
                                                  have hi0 : i = 8 := by omega
                                                  refine lv_iload hx hb dX15_columnsFor_13 (lv_at hl 0 rfl) ?_
                                                  refine lv_bipush (v := 8) hx hb dX15_columnsFor_15 (by decide) ?_
                                                  refine lv_icmp_ge (tgt := 57) hx hb dX15_columnsFor_17 (by decide) (fun c_16 => ?_) (fun c_16 => absurd (by rw [hi0]; decide) c_16)
                                                  refine lv_iinc (v := 8) (lv' := [(3, .int 8), (4, .int (nI i)), (2, .int 0), (0, .ref (a 200)), (1, .int 0)]) hx hb dX15_columnsFor_57 hl (k := 2) rfl (by decide) (by decide) rfl (fun ls hl => ?_)
                                                  refine lv_goto (tgt := 4) hx hb dX15_columnsFor_60 (by decide) ?_
                                                  refine lv_iload_n hx hb dX15_columnsFor_4 rfl (lv_at hl 0 rfl) ?_
                                                  refine lv_bipush (v := 8) hx hb dX15_columnsFor_5 (by decide) ?_
                                                  refine lv_icmp_ge (tgt := 63) hx hb dX15_columnsFor_7 (by decide) (fun c_17 => ?_) (fun c_17 => ?_)
                                                  · refine lv_iload_n hx hb dX15_columnsFor_63 rfl (lv_at hl 2 rfl) ?_
                                                    refine W.widen (k := 0) (n := 0) (Nat.le_of_ble_eq_true rfl) (Nat.le_of_ble_eq_true rfl) ?_
                                                    exact W.iret (v := 0) hx hb hr (fun t ht9 hW9 => ⟨⟨0, (), rfl, ⟨rfl, trivial⟩, trivial⟩, hS.F ht9⟩) hS.2.2 dX15_columnsFor_64 hlocks
                                                  · exact absurd c_17 (by decide)
                                                | succ k ih =>
                                                  intro i hi H locs hS ls hl
                                                  have hlt : i < 8 := by omega
                                                  refine lv_iload hx hb dX15_columnsFor_13 (lv_at hl 0 rfl) ?_
                                                  refine lv_bipush (v := 8) hx hb dX15_columnsFor_15 (by decide) ?_
                                                  refine lv_icmp_ge (tgt := 57) hx hb dX15_columnsFor_17 (by decide) (fun c_18 => absurd c_18 (nI_ge hlt (by decide))) (fun c_18 => ?_)
                                                  refine lv_iload_n hx hb dX15_columnsFor_20 rfl (lv_at hl 1 rfl) ?_
                                                  refine lv_aload_n hx hb dX15_columnsFor_21 rfl (lv_at hl 3 rfl) ?_
                                                  refine va_get (D := D) (ci := 21) (v := .ref (a 213)) (C := RX15) (T := TX15) (N := 29) hx hb ht in_X15 hown hK.1 (ro0 hP0 hS) 0 rfl rfl 21 (by decide) (ht _ w_1280) (fun _ h9 => h9) rfl dX15_columnsFor_22 ?_
                                                  refine lv_iload_n hx hb dX15_columnsFor_25 rfl (lv_at hl 2 rfl) ?_
                                                  refine r_aalda (x := (a 223)) hx hb hK.1 (ro0 hP0 hS) 1 6 rfl rfl (by unfold vp_in; decide) (aa_at (r := (fun i => a (216 + i))) (k := 7) (by decide) (by decide)) dX15_columnsFor_26 ?_
                                                  refine lv_iload hx hb dX15_columnsFor_27 (lv_at hl 0 rfl) ?_
                                                  refine va_zald hx hb hK.1 (ro0 hP0 hS) 2 3 rfl rfl (vp_in_nI (Nat.lt_of_lt_of_le hlt (by decide)) (by decide)) dX15_columnsFor_29 ?_
                                                  refine r_topi (v := 0) rfl ?_
                                                  refine lv_if_eq (tgt := 48) hx hb dX15_columnsFor_30 (by decide) (fun c_19 => ?_) (fun c_19 => ?_)
                                                  · refine lv_iconst (v := 0) hx hb dX15_columnsFor_48 (by decide) ?_
                                                    refine lv_ior hx hb dX15_columnsFor_49 ?_
                                                    refine r_topi (v := 0) (by decide) ?_
                                                    refine lv_istore_n (lv' := [(2, .int 0), (4, .int (nI i)), (3, .int 7), (0, .ref (a 200)), (1, .int 0)]) hx hb dX15_columnsFor_50 rfl hl (by decide) rfl (fun ls hl => ?_)
                                                    refine lv_iinc (v := nI (i + 1)) (lv' := [(4, .int (nI (i + 1))), (2, .int 0), (3, .int 7), (0, .ref (a 200)), (1, .int 0)]) hx hb dX15_columnsFor_51 hl (k := 1) rfl (nI_1 i) (by decide) rfl (fun ls hl => ?_)
                                                    refine lv_goto (tgt := 13) hx hb dX15_columnsFor_54 (by decide) ?_
                                                    exact ih (i + 1) (by omega) H locs hS ls (lv_sub hl [0, 1, 2, 3, 4] rfl)
                                                  · exact absurd c_19 (by decide)
                                              exact loop (8 - 0) 0 (by omega) _ _ hS ls (lv_sub hl [0, 2, 1, 3, 4] rfl)
                                          | succ k ih =>
                                            intro i hi H locs hS ls hl
                                            have hlt : i < 8 := by omega
                                            refine lv_iload hx hb dX15_columnsFor_13 (lv_at hl 0 rfl) ?_
                                            refine lv_bipush (v := 8) hx hb dX15_columnsFor_15 (by decide) ?_
                                            refine lv_icmp_ge (tgt := 57) hx hb dX15_columnsFor_17 (by decide) (fun c_20 => absurd c_20 (nI_ge hlt (by decide))) (fun c_20 => ?_)
                                            refine lv_iload_n hx hb dX15_columnsFor_20 rfl (lv_at hl 1 rfl) ?_
                                            refine lv_aload_n hx hb dX15_columnsFor_21 rfl (lv_at hl 3 rfl) ?_
                                            refine va_get (D := D) (ci := 21) (v := .ref (a 213)) (C := RX15) (T := TX15) (N := 29) hx hb ht in_X15 hown hK.1 (ro0 hP0 hS) 0 rfl rfl 21 (by decide) (ht _ w_1280) (fun _ h9 => h9) rfl dX15_columnsFor_22 ?_
                                            refine lv_iload_n hx hb dX15_columnsFor_25 rfl (lv_at hl 2 rfl) ?_
                                            refine r_aalda (x := (a 222)) hx hb hK.1 (ro0 hP0 hS) 1 6 rfl rfl (by unfold vp_in; decide) (aa_at (r := (fun i => a (216 + i))) (k := 6) (by decide) (by decide)) dX15_columnsFor_26 ?_
                                            refine lv_iload hx hb dX15_columnsFor_27 (lv_at hl 0 rfl) ?_
                                            refine va_zald hx hb hK.1 (ro0 hP0 hS) 3 3 rfl rfl (vp_in_nI (Nat.lt_of_lt_of_le hlt (by decide)) (by decide)) dX15_columnsFor_29 ?_
                                            refine r_topi (v := 0) rfl ?_
                                            refine lv_if_eq (tgt := 48) hx hb dX15_columnsFor_30 (by decide) (fun c_21 => ?_) (fun c_21 => ?_)
                                            · refine lv_iconst (v := 0) hx hb dX15_columnsFor_48 (by decide) ?_
                                              refine lv_ior hx hb dX15_columnsFor_49 ?_
                                              refine r_topi (v := 0) (by decide) ?_
                                              refine lv_istore_n (lv' := [(2, .int 0), (4, .int (nI i)), (3, .int 6), (0, .ref (a 200)), (1, .int 0)]) hx hb dX15_columnsFor_50 rfl hl (by decide) rfl (fun ls hl => ?_)
                                              refine lv_iinc (v := nI (i + 1)) (lv' := [(4, .int (nI (i + 1))), (2, .int 0), (3, .int 6), (0, .ref (a 200)), (1, .int 0)]) hx hb dX15_columnsFor_51 hl (k := 1) rfl (nI_1 i) (by decide) rfl (fun ls hl => ?_)
                                              refine lv_goto (tgt := 13) hx hb dX15_columnsFor_54 (by decide) ?_
                                              exact ih (i + 1) (by omega) H locs hS ls (lv_sub hl [0, 1, 2, 3, 4] rfl)
                                            · exact absurd c_21 (by decide)
                                        exact loop (8 - 0) 0 (by omega) _ _ hS ls (lv_sub hl [0, 2, 1, 3, 4] rfl)
                                    | succ k ih =>
                                      intro i hi H locs hS ls hl
                                      have hlt : i < 8 := by omega
                                      refine lv_iload hx hb dX15_columnsFor_13 (lv_at hl 0 rfl) ?_
                                      refine lv_bipush (v := 8) hx hb dX15_columnsFor_15 (by decide) ?_
                                      refine lv_icmp_ge (tgt := 57) hx hb dX15_columnsFor_17 (by decide) (fun c_22 => absurd c_22 (nI_ge hlt (by decide))) (fun c_22 => ?_)
                                      refine lv_iload_n hx hb dX15_columnsFor_20 rfl (lv_at hl 1 rfl) ?_
                                      refine lv_aload_n hx hb dX15_columnsFor_21 rfl (lv_at hl 3 rfl) ?_
                                      refine va_get (D := D) (ci := 21) (v := .ref (a 213)) (C := RX15) (T := TX15) (N := 29) hx hb ht in_X15 hown hK.1 (ro0 hP0 hS) 0 rfl rfl 21 (by decide) (ht _ w_1280) (fun _ h9 => h9) rfl dX15_columnsFor_22 ?_
                                      refine lv_iload_n hx hb dX15_columnsFor_25 rfl (lv_at hl 2 rfl) ?_
                                      refine r_aalda (x := (a 221)) hx hb hK.1 (ro0 hP0 hS) 1 6 rfl rfl (by unfold vp_in; decide) (aa_at (r := (fun i => a (216 + i))) (k := 5) (by decide) (by decide)) dX15_columnsFor_26 ?_
                                      refine lv_iload hx hb dX15_columnsFor_27 (lv_at hl 0 rfl) ?_
                                      refine va_zald hx hb hK.1 (ro0 hP0 hS) 4 3 rfl rfl (vp_in_nI (Nat.lt_of_lt_of_le hlt (by decide)) (by decide)) dX15_columnsFor_29 ?_
                                      refine r_topi (v := 0) rfl ?_
                                      refine lv_if_eq (tgt := 48) hx hb dX15_columnsFor_30 (by decide) (fun c_23 => ?_) (fun c_23 => ?_)
                                      · refine lv_iconst (v := 0) hx hb dX15_columnsFor_48 (by decide) ?_
                                        refine lv_ior hx hb dX15_columnsFor_49 ?_
                                        refine r_topi (v := 0) (by decide) ?_
                                        refine lv_istore_n (lv' := [(2, .int 0), (4, .int (nI i)), (3, .int 5), (0, .ref (a 200)), (1, .int 0)]) hx hb dX15_columnsFor_50 rfl hl (by decide) rfl (fun ls hl => ?_)
                                        refine lv_iinc (v := nI (i + 1)) (lv' := [(4, .int (nI (i + 1))), (2, .int 0), (3, .int 5), (0, .ref (a 200)), (1, .int 0)]) hx hb dX15_columnsFor_51 hl (k := 1) rfl (nI_1 i) (by decide) rfl (fun ls hl => ?_)
                                        refine lv_goto (tgt := 13) hx hb dX15_columnsFor_54 (by decide) ?_
                                        exact ih (i + 1) (by omega) H locs hS ls (lv_sub hl [0, 1, 2, 3, 4] rfl)
                                      · exact absurd c_23 (by decide)
                                  exact loop (8 - 0) 0 (by omega) _ _ hS ls (lv_sub hl [0, 2, 1, 3, 4] rfl)
                              | succ k ih =>
                                intro i hi H locs hS ls hl
                                have hlt : i < 8 := by omega
                                refine lv_iload hx hb dX15_columnsFor_13 (lv_at hl 0 rfl) ?_
                                refine lv_bipush (v := 8) hx hb dX15_columnsFor_15 (by decide) ?_
                                refine lv_icmp_ge (tgt := 57) hx hb dX15_columnsFor_17 (by decide) (fun c_24 => absurd c_24 (nI_ge hlt (by decide))) (fun c_24 => ?_)
                                refine lv_iload_n hx hb dX15_columnsFor_20 rfl (lv_at hl 1 rfl) ?_
                                refine lv_aload_n hx hb dX15_columnsFor_21 rfl (lv_at hl 3 rfl) ?_
                                refine va_get (D := D) (ci := 21) (v := .ref (a 213)) (C := RX15) (T := TX15) (N := 29) hx hb ht in_X15 hown hK.1 (ro0 hP0 hS) 0 rfl rfl 21 (by decide) (ht _ w_1280) (fun _ h9 => h9) rfl dX15_columnsFor_22 ?_
                                refine lv_iload_n hx hb dX15_columnsFor_25 rfl (lv_at hl 2 rfl) ?_
                                refine r_aalda (x := (a 220)) hx hb hK.1 (ro0 hP0 hS) 1 6 rfl rfl (by unfold vp_in; decide) (aa_at (r := (fun i => a (216 + i))) (k := 4) (by decide) (by decide)) dX15_columnsFor_26 ?_
                                refine lv_iload hx hb dX15_columnsFor_27 (lv_at hl 0 rfl) ?_
                                refine va_zald hx hb hK.1 (ro0 hP0 hS) 5 3 rfl rfl (vp_in_nI (Nat.lt_of_lt_of_le hlt (by decide)) (by decide)) dX15_columnsFor_29 ?_
                                refine r_topi (v := 0) rfl ?_
                                refine lv_if_eq (tgt := 48) hx hb dX15_columnsFor_30 (by decide) (fun c_25 => ?_) (fun c_25 => ?_)
                                · refine lv_iconst (v := 0) hx hb dX15_columnsFor_48 (by decide) ?_
                                  refine lv_ior hx hb dX15_columnsFor_49 ?_
                                  refine r_topi (v := 0) (by decide) ?_
                                  refine lv_istore_n (lv' := [(2, .int 0), (4, .int (nI i)), (3, .int 4), (0, .ref (a 200)), (1, .int 0)]) hx hb dX15_columnsFor_50 rfl hl (by decide) rfl (fun ls hl => ?_)
                                  refine lv_iinc (v := nI (i + 1)) (lv' := [(4, .int (nI (i + 1))), (2, .int 0), (3, .int 4), (0, .ref (a 200)), (1, .int 0)]) hx hb dX15_columnsFor_51 hl (k := 1) rfl (nI_1 i) (by decide) rfl (fun ls hl => ?_)
                                  refine lv_goto (tgt := 13) hx hb dX15_columnsFor_54 (by decide) ?_
                                  exact ih (i + 1) (by omega) H locs hS ls (lv_sub hl [0, 1, 2, 3, 4] rfl)
                                · exact absurd c_25 (by decide)
                            exact loop (8 - 0) 0 (by omega) _ _ hS ls (lv_sub hl [0, 2, 1, 3, 4] rfl)
                        | succ k ih =>
                          intro i hi H locs hS ls hl
                          have hlt : i < 8 := by omega
                          refine lv_iload hx hb dX15_columnsFor_13 (lv_at hl 0 rfl) ?_
                          refine lv_bipush (v := 8) hx hb dX15_columnsFor_15 (by decide) ?_
                          refine lv_icmp_ge (tgt := 57) hx hb dX15_columnsFor_17 (by decide) (fun c_26 => absurd c_26 (nI_ge hlt (by decide))) (fun c_26 => ?_)
                          refine lv_iload_n hx hb dX15_columnsFor_20 rfl (lv_at hl 1 rfl) ?_
                          refine lv_aload_n hx hb dX15_columnsFor_21 rfl (lv_at hl 3 rfl) ?_
                          refine va_get (D := D) (ci := 21) (v := .ref (a 213)) (C := RX15) (T := TX15) (N := 29) hx hb ht in_X15 hown hK.1 (ro0 hP0 hS) 0 rfl rfl 21 (by decide) (ht _ w_1280) (fun _ h9 => h9) rfl dX15_columnsFor_22 ?_
                          refine lv_iload_n hx hb dX15_columnsFor_25 rfl (lv_at hl 2 rfl) ?_
                          refine r_aalda (x := (a 219)) hx hb hK.1 (ro0 hP0 hS) 1 6 rfl rfl (by unfold vp_in; decide) (aa_at (r := (fun i => a (216 + i))) (k := 3) (by decide) (by decide)) dX15_columnsFor_26 ?_
                          refine lv_iload hx hb dX15_columnsFor_27 (lv_at hl 0 rfl) ?_
                          refine va_zald hx hb hK.1 (ro0 hP0 hS) 6 3 rfl rfl (vp_in_nI (Nat.lt_of_lt_of_le hlt (by decide)) (by decide)) dX15_columnsFor_29 ?_
                          refine r_topi (v := 0) rfl ?_
                          refine lv_if_eq (tgt := 48) hx hb dX15_columnsFor_30 (by decide) (fun c_27 => ?_) (fun c_27 => ?_)
                          · refine lv_iconst (v := 0) hx hb dX15_columnsFor_48 (by decide) ?_
                            refine lv_ior hx hb dX15_columnsFor_49 ?_
                            refine r_topi (v := 0) (by decide) ?_
                            refine lv_istore_n (lv' := [(2, .int 0), (4, .int (nI i)), (3, .int 3), (0, .ref (a 200)), (1, .int 0)]) hx hb dX15_columnsFor_50 rfl hl (by decide) rfl (fun ls hl => ?_)
                            refine lv_iinc (v := nI (i + 1)) (lv' := [(4, .int (nI (i + 1))), (2, .int 0), (3, .int 3), (0, .ref (a 200)), (1, .int 0)]) hx hb dX15_columnsFor_51 hl (k := 1) rfl (nI_1 i) (by decide) rfl (fun ls hl => ?_)
                            refine lv_goto (tgt := 13) hx hb dX15_columnsFor_54 (by decide) ?_
                            exact ih (i + 1) (by omega) H locs hS ls (lv_sub hl [0, 1, 2, 3, 4] rfl)
                          · exact absurd c_27 (by decide)
                      exact loop (8 - 0) 0 (by omega) _ _ hS ls (lv_sub hl [0, 2, 1, 3, 4] rfl)
                  | succ k ih =>
                    intro i hi H locs hS ls hl
                    have hlt : i < 8 := by omega
                    refine lv_iload hx hb dX15_columnsFor_13 (lv_at hl 0 rfl) ?_
                    refine lv_bipush (v := 8) hx hb dX15_columnsFor_15 (by decide) ?_
                    refine lv_icmp_ge (tgt := 57) hx hb dX15_columnsFor_17 (by decide) (fun c_28 => absurd c_28 (nI_ge hlt (by decide))) (fun c_28 => ?_)
                    refine lv_iload_n hx hb dX15_columnsFor_20 rfl (lv_at hl 1 rfl) ?_
                    refine lv_aload_n hx hb dX15_columnsFor_21 rfl (lv_at hl 3 rfl) ?_
                    refine va_get (D := D) (ci := 21) (v := .ref (a 213)) (C := RX15) (T := TX15) (N := 29) hx hb ht in_X15 hown hK.1 (ro0 hP0 hS) 0 rfl rfl 21 (by decide) (ht _ w_1280) (fun _ h9 => h9) rfl dX15_columnsFor_22 ?_
                    refine lv_iload_n hx hb dX15_columnsFor_25 rfl (lv_at hl 2 rfl) ?_
                    refine r_aalda (x := (a 218)) hx hb hK.1 (ro0 hP0 hS) 1 6 rfl rfl (by unfold vp_in; decide) (aa_at (r := (fun i => a (216 + i))) (k := 2) (by decide) (by decide)) dX15_columnsFor_26 ?_
                    refine lv_iload hx hb dX15_columnsFor_27 (lv_at hl 0 rfl) ?_
                    refine va_zald hx hb hK.1 (ro0 hP0 hS) 7 3 rfl rfl (vp_in_nI (Nat.lt_of_lt_of_le hlt (by decide)) (by decide)) dX15_columnsFor_29 ?_
                    refine r_topi (v := 0) rfl ?_
                    refine lv_if_eq (tgt := 48) hx hb dX15_columnsFor_30 (by decide) (fun c_29 => ?_) (fun c_29 => ?_)
                    · refine lv_iconst (v := 0) hx hb dX15_columnsFor_48 (by decide) ?_
                      refine lv_ior hx hb dX15_columnsFor_49 ?_
                      refine r_topi (v := 0) (by decide) ?_
                      refine lv_istore_n (lv' := [(2, .int 0), (4, .int (nI i)), (3, .int 2), (0, .ref (a 200)), (1, .int 0)]) hx hb dX15_columnsFor_50 rfl hl (by decide) rfl (fun ls hl => ?_)
                      refine lv_iinc (v := nI (i + 1)) (lv' := [(4, .int (nI (i + 1))), (2, .int 0), (3, .int 2), (0, .ref (a 200)), (1, .int 0)]) hx hb dX15_columnsFor_51 hl (k := 1) rfl (nI_1 i) (by decide) rfl (fun ls hl => ?_)
                      refine lv_goto (tgt := 13) hx hb dX15_columnsFor_54 (by decide) ?_
                      exact ih (i + 1) (by omega) H locs hS ls (lv_sub hl [0, 1, 2, 3, 4] rfl)
                    · exact absurd c_29 (by decide)
                exact loop (8 - 0) 0 (by omega) _ _ hS ls (lv_sub hl [0, 2, 1, 3, 4] rfl)
            | succ k ih =>
              intro i hi H locs hS ls hl
              have hlt : i < 8 := by omega
              refine lv_iload hx hb dX15_columnsFor_13 (lv_at hl 0 rfl) ?_
              refine lv_bipush (v := 8) hx hb dX15_columnsFor_15 (by decide) ?_
              refine lv_icmp_ge (tgt := 57) hx hb dX15_columnsFor_17 (by decide) (fun c_30 => absurd c_30 (nI_ge hlt (by decide))) (fun c_30 => ?_)
              refine lv_iload_n hx hb dX15_columnsFor_20 rfl (lv_at hl 1 rfl) ?_
              refine lv_aload_n hx hb dX15_columnsFor_21 rfl (lv_at hl 3 rfl) ?_
              refine va_get (D := D) (ci := 21) (v := .ref (a 213)) (C := RX15) (T := TX15) (N := 29) hx hb ht in_X15 hown hK.1 (ro0 hP0 hS) 0 rfl rfl 21 (by decide) (ht _ w_1280) (fun _ h9 => h9) rfl dX15_columnsFor_22 ?_
              refine lv_iload_n hx hb dX15_columnsFor_25 rfl (lv_at hl 2 rfl) ?_
              refine r_aalda (x := (a 217)) hx hb hK.1 (ro0 hP0 hS) 1 6 rfl rfl (by unfold vp_in; decide) (aa_at (r := (fun i => a (216 + i))) (k := 1) (by decide) (by decide)) dX15_columnsFor_26 ?_
              refine lv_iload hx hb dX15_columnsFor_27 (lv_at hl 0 rfl) ?_
              refine va_zald hx hb hK.1 (ro0 hP0 hS) 8 3 rfl rfl (vp_in_nI (Nat.lt_of_lt_of_le hlt (by decide)) (by decide)) dX15_columnsFor_29 ?_
              refine r_topi (v := 0) rfl ?_
              refine lv_if_eq (tgt := 48) hx hb dX15_columnsFor_30 (by decide) (fun c_31 => ?_) (fun c_31 => ?_)
              · refine lv_iconst (v := 0) hx hb dX15_columnsFor_48 (by decide) ?_
                refine lv_ior hx hb dX15_columnsFor_49 ?_
                refine r_topi (v := 0) (by decide) ?_
                refine lv_istore_n (lv' := [(2, .int 0), (4, .int (nI i)), (3, .int 1), (0, .ref (a 200)), (1, .int 0)]) hx hb dX15_columnsFor_50 rfl hl (by decide) rfl (fun ls hl => ?_)
                refine lv_iinc (v := nI (i + 1)) (lv' := [(4, .int (nI (i + 1))), (2, .int 0), (3, .int 1), (0, .ref (a 200)), (1, .int 0)]) hx hb dX15_columnsFor_51 hl (k := 1) rfl (nI_1 i) (by decide) rfl (fun ls hl => ?_)
                refine lv_goto (tgt := 13) hx hb dX15_columnsFor_54 (by decide) ?_
                exact ih (i + 1) (by omega) H locs hS ls (lv_sub hl [0, 1, 2, 3, 4] rfl)
              · exact absurd c_31 (by decide)
          exact loop (8 - 0) 0 (by omega) _ _ hS ls (lv_sub hl [0, 2, 1, 3, 4] rfl)
      | succ k ih =>
        intro i hi H locs hS ls hl
        have hlt : i < 8 := by omega
        refine lv_iload hx hb dX15_columnsFor_13 (lv_at hl 0 rfl) ?_
        refine lv_bipush (v := 8) hx hb dX15_columnsFor_15 (by decide) ?_
        refine lv_icmp_ge (tgt := 57) hx hb dX15_columnsFor_17 (by decide) (fun c_32 => absurd c_32 (nI_ge hlt (by decide))) (fun c_32 => ?_)
        refine lv_iload_n hx hb dX15_columnsFor_20 rfl (lv_at hl 1 rfl) ?_
        refine lv_aload_n hx hb dX15_columnsFor_21 rfl (lv_at hl 3 rfl) ?_
        refine va_get (D := D) (ci := 21) (v := .ref (a 213)) (C := RX15) (T := TX15) (N := 29) hx hb ht in_X15 hown hK.1 (ro0 hP0 hS) 0 rfl rfl 21 (by decide) (ht _ w_1280) (fun _ h9 => h9) rfl dX15_columnsFor_22 ?_
        refine lv_iload_n hx hb dX15_columnsFor_25 rfl (lv_at hl 2 rfl) ?_
        refine r_aalda (x := (a 216)) hx hb hK.1 (ro0 hP0 hS) 1 6 rfl rfl (by unfold vp_in; decide) (aa_at (r := (fun i => a (216 + i))) (k := 0) (by decide) (by decide)) dX15_columnsFor_26 ?_
        refine lv_iload hx hb dX15_columnsFor_27 (lv_at hl 0 rfl) ?_
        refine va_zald hx hb hK.1 (ro0 hP0 hS) 9 3 rfl rfl (vp_in_nI (Nat.lt_of_lt_of_le hlt (by decide)) (by decide)) dX15_columnsFor_29 ?_
        refine r_topi (v := 0) rfl ?_
        refine lv_if_eq (tgt := 48) hx hb dX15_columnsFor_30 (by decide) (fun c_33 => ?_) (fun c_33 => ?_)
        · refine lv_iconst (v := 0) hx hb dX15_columnsFor_48 (by decide) ?_
          refine lv_ior hx hb dX15_columnsFor_49 ?_
          refine r_topi (v := 0) (by decide) ?_
          refine lv_istore_n (lv' := [(2, .int 0), (4, .int (nI i)), (3, .int 0), (0, .ref (a 200)), (1, .int 0)]) hx hb dX15_columnsFor_50 rfl hl (by decide) rfl (fun ls hl => ?_)
          refine lv_iinc (v := nI (i + 1)) (lv' := [(4, .int (nI (i + 1))), (2, .int 0), (3, .int 0), (0, .ref (a 200)), (1, .int 0)]) hx hb dX15_columnsFor_51 hl (k := 1) rfl (nI_1 i) (by decide) rfl (fun ls hl => ?_)
          refine lv_goto (tgt := 13) hx hb dX15_columnsFor_54 (by decide) ?_
          exact ih (i + 1) (by omega) H locs hS ls (lv_sub hl [0, 1, 2, 3, 4] rfl)
        · exact absurd c_33 (by decide)
    exact loop (8 - 0) 0 (by omega) _ _ hS ls (lv_sub hl [0, 2, 1, 3, 4] rfl)
set_option maxHeartbeats 4000000 in
set_option maxRecDepth 100000 in
theorem k_X15_isBetween_v13 (l : Launch) (D : va_G) (g : Nat → ClassId) (z0 sz : Nat) (a : Nat → Nat) (p0 : Int32) : Met l yX15_isBetween (.code yX15_isBetween cX15_isBetween 3 (some .boolean) :: TG) (rmk 0 0 0 0) (va_Pc [.int p0, .int 0, .int 8] (PP D g z0 sz [])) (va_Qi (fun (r : Int32) (u : Unit) => ((r = 0) ∧ ((p0 < 0) ∨ ((¬ p0 < 0) ∧ ((8 : Int32) < p0)))) ∨ ((r = 1) ∧ ((¬ p0 < 0) ∧ (¬ (8 : Int32) < p0)))) (fun (_ : Unit) (_ : State) => True) (va_A [] sz)) 0 0 (va_A [] sz) := by
  refine met0 (cc := cX15_isBetween) (n := 3) (by decide) (Nat.le_of_ble_eq_true rfl) ?_
  intro p e s m args below meth c hx hb hr hml hown ht hlocks hnm hP0 hD0 hK hZ hsz hz ls hl
  subst hsz
  have hA : ∀ q : Nat, s.heap.size ≤ q → va_A [] s.heap.size q := Anw
  have hAz : ∀ q, va_A [] s.heap.size q → z0 ≤ q := A0z hz
  have hS : va_S (va_A [] s.heap.size) s.heap s.heap [] := va_S.rf
  have hl : lv_has ls 3 [(0, .int p0), (1, .int 0), (2, .int 8)] := hl
  refine lv_iload_n hx hb dX15_isBetween_0 rfl (lv_at hl 1 rfl) ?_
  refine lv_iload_n hx hb dX15_isBetween_1 rfl (lv_at hl 0 rfl) ?_
  refine lv_icmp_gt (tgt := 14) hx hb dX15_isBetween_2 (by decide) (fun c_1 => ?_) (fun c_1 => ?_)
  · refine lv_iconst (v := 0) hx hb dX15_isBetween_14 (by decide) ?_
    refine W.widen (k := 0) (n := 0) (Nat.le_of_ble_eq_true rfl) (Nat.le_of_ble_eq_true rfl) ?_
    exact W.zret (v := 0) hx hb hr rfl (fun t ht9 hW9 => ⟨⟨0, (), rfl, (Or.inl ⟨rfl, (Or.inl c_1)⟩), trivial⟩, hS.F ht9⟩) hS.2.2 dX15_isBetween_15 hlocks
  · refine lv_iload_n hx hb dX15_isBetween_5 rfl (lv_at hl 0 rfl) ?_
    refine lv_iload_n hx hb dX15_isBetween_6 rfl (lv_at hl 2 rfl) ?_
    refine lv_icmp_gt (tgt := 14) hx hb dX15_isBetween_7 (by decide) (fun c_2 => ?_) (fun c_2 => ?_)
    · refine lv_iconst (v := 0) hx hb dX15_isBetween_14 (by decide) ?_
      refine W.widen (k := 0) (n := 0) (Nat.le_of_ble_eq_true rfl) (Nat.le_of_ble_eq_true rfl) ?_
      exact W.zret (v := 0) hx hb hr rfl (fun t ht9 hW9 => ⟨⟨0, (), rfl, (Or.inl ⟨rfl, (Or.inr ⟨c_1, c_2⟩)⟩), trivial⟩, hS.F ht9⟩) hS.2.2 dX15_isBetween_15 hlocks
    · refine lv_iconst (v := 1) hx hb dX15_isBetween_10 (by decide) ?_
      refine lv_goto (tgt := 15) hx hb dX15_isBetween_11 (by decide) ?_
      refine W.widen (k := 0) (n := 0) (Nat.le_of_ble_eq_true rfl) (Nat.le_of_ble_eq_true rfl) ?_
      exact W.zret (v := 1) hx hb hr rfl (fun t ht9 hW9 => ⟨⟨1, (), rfl, (Or.inr ⟨rfl, ⟨c_1, c_2⟩⟩), trivial⟩, hS.F ht9⟩) hS.2.2 dX15_isBetween_15 hlocks
set_option maxHeartbeats 4000000 in
set_option maxRecDepth 100000 in
theorem k_X15_columnsFor_v1 (l : Launch) (D : va_G) (g : Nat → ClassId) (z0 sz : Nat) (a : Nat → Nat) (p0 : Int32) : Met l yX15_columnsFor (.code yX15_columnsFor cX15_columnsFor 5 (some .int) :: TG) (rmk 0 0 0 0) (va_Pc [.ref (a 200), .int p0] (PP D g z0 sz [((a 200), f_m a g), ((a 213), .inl (g 6, 8, .inr (.inr (.inr (.inr (fun i => if i < 8 then some (a (216 + i)) else none)))))), ((a 223), .inl (g 3, 8, .inl (fun _ => 0))), ((a 222), .inl (g 3, 8, .inl (fun _ => 0))), ((a 221), .inl (g 3, 8, .inl (fun _ => 0))), ((a 220), .inl (g 3, 8, .inl (fun _ => 0))), ((a 219), .inl (g 3, 8, .inl (fun _ => 0))), ((a 218), .inl (g 3, 8, .inl (fun _ => 0))), ((a 217), .inl (g 3, 8, .inl (fun _ => 0))), ((a 216), .inl (g 3, 8, .inl (fun _ => 0)))])) (va_Qi (fun (r : Int32) (u : Unit) => (r = 0) ∧ True) (fun (_ : Unit) (_ : State) => True) (va_A [] sz)) 0 0 (va_A [] sz) := by
  refine met0 (cc := cX15_columnsFor) (n := 5) (by decide) (Nat.le_of_ble_eq_true rfl) ?_
  intro p e s m args below meth c hx hb hr hml hown ht hlocks hnm hP0 hD0 hK hZ hsz hz ls hl
  subst hsz
  have hA : ∀ q : Nat, s.heap.size ≤ q → va_A [] s.heap.size q := Anw
  have hAz : ∀ q, va_A [] s.heap.size q → z0 ≤ q := A0z hz
  have hS : va_S (va_A [] s.heap.size) s.heap s.heap [] := va_S.rf
  have hl : lv_has ls 5 [(0, .ref (a 200)), (1, .int p0)] := hl
  refine lv_iconst (v := 0) hx hb dX15_columnsFor_0 (by decide) ?_
  refine lv_istore_n (lv' := [(2, .int 0), (0, .ref (a 200)), (1, .int p0)]) hx hb dX15_columnsFor_1 rfl hl (by decide) rfl (fun ls hl => ?_)
  refine lv_iconst (v := 0) hx hb dX15_columnsFor_2 (by decide) ?_
  refine lv_istore_n (lv' := [(3, .int 0), (2, .int 0), (0, .ref (a 200)), (1, .int p0)]) hx hb dX15_columnsFor_3 rfl hl (by decide) rfl (fun ls hl => ?_)
  refine lv_iload_n hx hb dX15_columnsFor_4 rfl (lv_at hl 0 rfl) ?_
  refine lv_bipush (v := 8) hx hb dX15_columnsFor_5 (by decide) ?_
  refine lv_icmp_ge (tgt := 63) hx hb dX15_columnsFor_7 (by decide) (fun c_1 => ?_) (fun c_1 => ?_)
  · exact absurd c_1 (by decide)
  · refine lv_iconst (v := 0) hx hb dX15_columnsFor_10 (by decide) ?_
    refine lv_istore (lv' := [(4, .int 0), (3, .int 0), (2, .int 0), (0, .ref (a 200)), (1, .int p0)]) hx hb dX15_columnsFor_11 hl (by decide) rfl (fun ls hl => ?_)
    have loop : ∀ (k i : Nat), 8 = i + k → ∀ (H : Heap) (locs : List Loc), va_S (va_A [] s.heap.size) s.heap H locs → ∀ (ls : Array Slot), lv_has ls 5 [(4, .int (nI i)), (2, .int 0), (3, .int 0), (0, .ref (a 200)), (1, .int p0)] → W p l e (rmk 0 0 0 0) s m args below meth c H locs 0 0 (MQ below (va_Qi (fun (r : Int32) (u : Unit) => (r = 0) ∧ True) (fun (_ : Unit) (_ : State) => True) (va_A [] s.heap.size)) args s 0 0 (va_A [] s.heap.size)) (F0 m 13 ls []) := by
      intro k
      induction k with
      | zero =>
        intro i hi H locs hS ls hl
        have hi0 : i = 8 := by omega
        refine lv_iload hx hb dX15_columnsFor_13 (lv_at hl 0 rfl) ?_
        refine lv_bipush (v := 8) hx hb dX15_columnsFor_15 (by decide) ?_
        refine lv_icmp_ge (tgt := 57) hx hb dX15_columnsFor_17 (by decide) (fun c_2 => ?_) (fun c_2 => absurd (by rw [hi0]; decide) c_2)
        refine lv_iinc (v := 1) (lv' := [(3, .int 1), (4, .int (nI i)), (2, .int 0), (0, .ref (a 200)), (1, .int p0)]) hx hb dX15_columnsFor_57 hl (k := 2) rfl (by decide) (by decide) rfl (fun ls hl => ?_)
        refine lv_goto (tgt := 4) hx hb dX15_columnsFor_60 (by decide) ?_
        refine lv_iload_n hx hb dX15_columnsFor_4 rfl (lv_at hl 0 rfl) ?_
        refine lv_bipush (v := 8) hx hb dX15_columnsFor_5 (by decide) ?_
        refine lv_icmp_ge (tgt := 63) hx hb dX15_columnsFor_7 (by decide) (fun c_3 => ?_) (fun c_3 => ?_)
        · exact absurd c_3 (by decide)
        · refine lv_iconst (v := 0) hx hb dX15_columnsFor_10 (by decide) ?_
          refine lv_istore (lv' := [(4, .int 0), (3, .int 1), (2, .int 0), (0, .ref (a 200)), (1, .int p0)]) hx hb dX15_columnsFor_11 hl (by decide) rfl (fun ls hl => ?_)
          have loop : ∀ (k i : Nat), 8 = i + k → ∀ (H : Heap) (locs : List Loc), va_S (va_A [] s.heap.size) s.heap H locs → ∀ (ls : Array Slot), lv_has ls 5 [(4, .int (nI i)), (2, .int 0), (3, .int 1), (0, .ref (a 200)), (1, .int p0)] → W p l e (rmk 0 0 0 0) s m args below meth c H locs 0 0 (MQ below (va_Qi (fun (r : Int32) (u : Unit) => (r = 0) ∧ True) (fun (_ : Unit) (_ : State) => True) (va_A [] s.heap.size)) args s 0 0 (va_A [] s.heap.size)) (F0 m 13 ls []) := by
            intro k
            induction k with
            | zero =>
              intro i hi H locs hS ls hl
              have hi0 : i = 8 := by omega
              refine lv_iload hx hb dX15_columnsFor_13 (lv_at hl 0 rfl) ?_
              refine lv_bipush (v := 8) hx hb dX15_columnsFor_15 (by decide) ?_
              refine lv_icmp_ge (tgt := 57) hx hb dX15_columnsFor_17 (by decide) (fun c_4 => ?_) (fun c_4 => absurd (by rw [hi0]; decide) c_4)
              refine lv_iinc (v := 2) (lv' := [(3, .int 2), (4, .int (nI i)), (2, .int 0), (0, .ref (a 200)), (1, .int p0)]) hx hb dX15_columnsFor_57 hl (k := 2) rfl (by decide) (by decide) rfl (fun ls hl => ?_)
              refine lv_goto (tgt := 4) hx hb dX15_columnsFor_60 (by decide) ?_
              refine lv_iload_n hx hb dX15_columnsFor_4 rfl (lv_at hl 0 rfl) ?_
              refine lv_bipush (v := 8) hx hb dX15_columnsFor_5 (by decide) ?_
              refine lv_icmp_ge (tgt := 63) hx hb dX15_columnsFor_7 (by decide) (fun c_5 => ?_) (fun c_5 => ?_)
              · exact absurd c_5 (by decide)
              · refine lv_iconst (v := 0) hx hb dX15_columnsFor_10 (by decide) ?_
                refine lv_istore (lv' := [(4, .int 0), (3, .int 2), (2, .int 0), (0, .ref (a 200)), (1, .int p0)]) hx hb dX15_columnsFor_11 hl (by decide) rfl (fun ls hl => ?_)
                have loop : ∀ (k i : Nat), 8 = i + k → ∀ (H : Heap) (locs : List Loc), va_S (va_A [] s.heap.size) s.heap H locs → ∀ (ls : Array Slot), lv_has ls 5 [(4, .int (nI i)), (2, .int 0), (3, .int 2), (0, .ref (a 200)), (1, .int p0)] → W p l e (rmk 0 0 0 0) s m args below meth c H locs 0 0 (MQ below (va_Qi (fun (r : Int32) (u : Unit) => (r = 0) ∧ True) (fun (_ : Unit) (_ : State) => True) (va_A [] s.heap.size)) args s 0 0 (va_A [] s.heap.size)) (F0 m 13 ls []) := by
                  intro k
                  induction k with
                  | zero =>
                    intro i hi H locs hS ls hl
                    have hi0 : i = 8 := by omega
                    refine lv_iload hx hb dX15_columnsFor_13 (lv_at hl 0 rfl) ?_
                    refine lv_bipush (v := 8) hx hb dX15_columnsFor_15 (by decide) ?_
                    refine lv_icmp_ge (tgt := 57) hx hb dX15_columnsFor_17 (by decide) (fun c_6 => ?_) (fun c_6 => absurd (by rw [hi0]; decide) c_6)
                    refine lv_iinc (v := 3) (lv' := [(3, .int 3), (4, .int (nI i)), (2, .int 0), (0, .ref (a 200)), (1, .int p0)]) hx hb dX15_columnsFor_57 hl (k := 2) rfl (by decide) (by decide) rfl (fun ls hl => ?_)
                    refine lv_goto (tgt := 4) hx hb dX15_columnsFor_60 (by decide) ?_
                    refine lv_iload_n hx hb dX15_columnsFor_4 rfl (lv_at hl 0 rfl) ?_
                    refine lv_bipush (v := 8) hx hb dX15_columnsFor_5 (by decide) ?_
                    refine lv_icmp_ge (tgt := 63) hx hb dX15_columnsFor_7 (by decide) (fun c_7 => ?_) (fun c_7 => ?_)
                    · exact absurd c_7 (by decide)
                    · refine lv_iconst (v := 0) hx hb dX15_columnsFor_10 (by decide) ?_
                      refine lv_istore (lv' := [(4, .int 0), (3, .int 3), (2, .int 0), (0, .ref (a 200)), (1, .int p0)]) hx hb dX15_columnsFor_11 hl (by decide) rfl (fun ls hl => ?_)
                      have loop : ∀ (k i : Nat), 8 = i + k → ∀ (H : Heap) (locs : List Loc), va_S (va_A [] s.heap.size) s.heap H locs → ∀ (ls : Array Slot), lv_has ls 5 [(4, .int (nI i)), (2, .int 0), (3, .int 3), (0, .ref (a 200)), (1, .int p0)] → W p l e (rmk 0 0 0 0) s m args below meth c H locs 0 0 (MQ below (va_Qi (fun (r : Int32) (u : Unit) => (r = 0) ∧ True) (fun (_ : Unit) (_ : State) => True) (va_A [] s.heap.size)) args s 0 0 (va_A [] s.heap.size)) (F0 m 13 ls []) := by
                        intro k
                        induction k with
                        | zero =>
                          intro i hi H locs hS ls hl
                          have hi0 : i = 8 := by omega
                          refine lv_iload hx hb dX15_columnsFor_13 (lv_at hl 0 rfl) ?_
                          refine lv_bipush (v := 8) hx hb dX15_columnsFor_15 (by decide) ?_
                          refine lv_icmp_ge (tgt := 57) hx hb dX15_columnsFor_17 (by decide) (fun c_8 => ?_) (fun c_8 => absurd (by rw [hi0]; decide) c_8)
                          refine lv_iinc (v := 4) (lv' := [(3, .int 4), (4, .int (nI i)), (2, .int 0), (0, .ref (a 200)), (1, .int p0)]) hx hb dX15_columnsFor_57 hl (k := 2) rfl (by decide) (by decide) rfl (fun ls hl => ?_)
                          refine lv_goto (tgt := 4) hx hb dX15_columnsFor_60 (by decide) ?_
                          refine lv_iload_n hx hb dX15_columnsFor_4 rfl (lv_at hl 0 rfl) ?_
                          refine lv_bipush (v := 8) hx hb dX15_columnsFor_5 (by decide) ?_
                          refine lv_icmp_ge (tgt := 63) hx hb dX15_columnsFor_7 (by decide) (fun c_9 => ?_) (fun c_9 => ?_)
                          · exact absurd c_9 (by decide)
                          · refine lv_iconst (v := 0) hx hb dX15_columnsFor_10 (by decide) ?_
                            refine lv_istore (lv' := [(4, .int 0), (3, .int 4), (2, .int 0), (0, .ref (a 200)), (1, .int p0)]) hx hb dX15_columnsFor_11 hl (by decide) rfl (fun ls hl => ?_)
                            have loop : ∀ (k i : Nat), 8 = i + k → ∀ (H : Heap) (locs : List Loc), va_S (va_A [] s.heap.size) s.heap H locs → ∀ (ls : Array Slot), lv_has ls 5 [(4, .int (nI i)), (2, .int 0), (3, .int 4), (0, .ref (a 200)), (1, .int p0)] → W p l e (rmk 0 0 0 0) s m args below meth c H locs 0 0 (MQ below (va_Qi (fun (r : Int32) (u : Unit) => (r = 0) ∧ True) (fun (_ : Unit) (_ : State) => True) (va_A [] s.heap.size)) args s 0 0 (va_A [] s.heap.size)) (F0 m 13 ls []) := by
                              intro k
                              induction k with
                              | zero =>
                                intro i hi H locs hS ls hl
                                have hi0 : i = 8 := by omega
                                refine lv_iload hx hb dX15_columnsFor_13 (lv_at hl 0 rfl) ?_
                                refine lv_bipush (v := 8) hx hb dX15_columnsFor_15 (by decide) ?_
                                refine lv_icmp_ge (tgt := 57) hx hb dX15_columnsFor_17 (by decide) (fun c_10 => ?_) (fun c_10 => absurd (by rw [hi0]; decide) c_10)
                                refine lv_iinc (v := 5) (lv' := [(3, .int 5), (4, .int (nI i)), (2, .int 0), (0, .ref (a 200)), (1, .int p0)]) hx hb dX15_columnsFor_57 hl (k := 2) rfl (by decide) (by decide) rfl (fun ls hl => ?_)
                                refine lv_goto (tgt := 4) hx hb dX15_columnsFor_60 (by decide) ?_
                                refine lv_iload_n hx hb dX15_columnsFor_4 rfl (lv_at hl 0 rfl) ?_
                                refine lv_bipush (v := 8) hx hb dX15_columnsFor_5 (by decide) ?_
                                refine lv_icmp_ge (tgt := 63) hx hb dX15_columnsFor_7 (by decide) (fun c_11 => ?_) (fun c_11 => ?_)
                                · exact absurd c_11 (by decide)
                                · refine lv_iconst (v := 0) hx hb dX15_columnsFor_10 (by decide) ?_
                                  refine lv_istore (lv' := [(4, .int 0), (3, .int 5), (2, .int 0), (0, .ref (a 200)), (1, .int p0)]) hx hb dX15_columnsFor_11 hl (by decide) rfl (fun ls hl => ?_)
                                  have loop : ∀ (k i : Nat), 8 = i + k → ∀ (H : Heap) (locs : List Loc), va_S (va_A [] s.heap.size) s.heap H locs → ∀ (ls : Array Slot), lv_has ls 5 [(4, .int (nI i)), (2, .int 0), (3, .int 5), (0, .ref (a 200)), (1, .int p0)] → W p l e (rmk 0 0 0 0) s m args below meth c H locs 0 0 (MQ below (va_Qi (fun (r : Int32) (u : Unit) => (r = 0) ∧ True) (fun (_ : Unit) (_ : State) => True) (va_A [] s.heap.size)) args s 0 0 (va_A [] s.heap.size)) (F0 m 13 ls []) := by
                                    intro k
                                    induction k with
                                    | zero =>
                                      intro i hi H locs hS ls hl
                                      have hi0 : i = 8 := by omega
                                      refine lv_iload hx hb dX15_columnsFor_13 (lv_at hl 0 rfl) ?_
                                      refine lv_bipush (v := 8) hx hb dX15_columnsFor_15 (by decide) ?_
                                      refine lv_icmp_ge (tgt := 57) hx hb dX15_columnsFor_17 (by decide) (fun c_12 => ?_) (fun c_12 => absurd (by rw [hi0]; decide) c_12)
                                      refine lv_iinc (v := 6) (lv' := [(3, .int 6), (4, .int (nI i)), (2, .int 0), (0, .ref (a 200)), (1, .int p0)]) hx hb dX15_columnsFor_57 hl (k := 2) rfl (by decide) (by decide) rfl (fun ls hl => ?_)
                                      refine lv_goto (tgt := 4) hx hb dX15_columnsFor_60 (by decide) ?_
                                      refine lv_iload_n hx hb dX15_columnsFor_4 rfl (lv_at hl 0 rfl) ?_
                                      refine lv_bipush (v := 8) hx hb dX15_columnsFor_5 (by decide) ?_
                                      refine lv_icmp_ge (tgt := 63) hx hb dX15_columnsFor_7 (by decide) (fun c_13 => ?_) (fun c_13 => ?_)
                                      · exact absurd c_13 (by decide)
                                      · refine lv_iconst (v := 0) hx hb dX15_columnsFor_10 (by decide) ?_
                                        refine lv_istore (lv' := [(4, .int 0), (3, .int 6), (2, .int 0), (0, .ref (a 200)), (1, .int p0)]) hx hb dX15_columnsFor_11 hl (by decide) rfl (fun ls hl => ?_)
                                        have loop : ∀ (k i : Nat), 8 = i + k → ∀ (H : Heap) (locs : List Loc), va_S (va_A [] s.heap.size) s.heap H locs → ∀ (ls : Array Slot), lv_has ls 5 [(4, .int (nI i)), (2, .int 0), (3, .int 6), (0, .ref (a 200)), (1, .int p0)] → W p l e (rmk 0 0 0 0) s m args below meth c H locs 0 0 (MQ below (va_Qi (fun (r : Int32) (u : Unit) => (r = 0) ∧ True) (fun (_ : Unit) (_ : State) => True) (va_A [] s.heap.size)) args s 0 0 (va_A [] s.heap.size)) (F0 m 13 ls []) := by
                                          intro k
                                          induction k with
                                          | zero =>
                                            intro i hi H locs hS ls hl
                                            have hi0 : i = 8 := by omega
                                            refine lv_iload hx hb dX15_columnsFor_13 (lv_at hl 0 rfl) ?_
                                            refine lv_bipush (v := 8) hx hb dX15_columnsFor_15 (by decide) ?_
                                            refine lv_icmp_ge (tgt := 57) hx hb dX15_columnsFor_17 (by decide) (fun c_14 => ?_) (fun c_14 => absurd (by rw [hi0]; decide) c_14)
                                            refine lv_iinc (v := 7) (lv' := [(3, .int 7), (4, .int (nI i)), (2, .int 0), (0, .ref (a 200)), (1, .int p0)]) hx hb dX15_columnsFor_57 hl (k := 2) rfl (by decide) (by decide) rfl (fun ls hl => ?_)
                                            refine lv_goto (tgt := 4) hx hb dX15_columnsFor_60 (by decide) ?_
                                            refine lv_iload_n hx hb dX15_columnsFor_4 rfl (lv_at hl 0 rfl) ?_
                                            refine lv_bipush (v := 8) hx hb dX15_columnsFor_5 (by decide) ?_
                                            refine lv_icmp_ge (tgt := 63) hx hb dX15_columnsFor_7 (by decide) (fun c_15 => ?_) (fun c_15 => ?_)
                                            · exact absurd c_15 (by decide)
                                            · refine lv_iconst (v := 0) hx hb dX15_columnsFor_10 (by decide) ?_
                                              refine lv_istore (lv' := [(4, .int 0), (3, .int 7), (2, .int 0), (0, .ref (a 200)), (1, .int p0)]) hx hb dX15_columnsFor_11 hl (by decide) rfl (fun ls hl => ?_)
                                              have loop : ∀ (k i : Nat), 8 = i + k → ∀ (H : Heap) (locs : List Loc), va_S (va_A [] s.heap.size) s.heap H locs → ∀ (ls : Array Slot), lv_has ls 5 [(4, .int (nI i)), (2, .int 0), (3, .int 7), (0, .ref (a 200)), (1, .int p0)] → W p l e (rmk 0 0 0 0) s m args below meth c H locs 0 0 (MQ below (va_Qi (fun (r : Int32) (u : Unit) => (r = 0) ∧ True) (fun (_ : Unit) (_ : State) => True) (va_A [] s.heap.size)) args s 0 0 (va_A [] s.heap.size)) (F0 m 13 ls []) := by
                                                intro k
                                                induction k with
                                                | zero =>
                                                  intro i hi H locs hS ls hl
                                                  have hi0 : i = 8 := by omega
                                                  refine lv_iload hx hb dX15_columnsFor_13 (lv_at hl 0 rfl) ?_
                                                  refine lv_bipush (v := 8) hx hb dX15_columnsFor_15 (by decide) ?_
                                                  refine lv_icmp_ge (tgt := 57) hx hb dX15_columnsFor_17 (by decide) (fun c_16 => ?_) (fun c_16 => absurd (by rw [hi0]; decide) c_16)
                                                  refine lv_iinc (v := 8) (lv' := [(3, .int 8), (4, .int (nI i)), (2, .int 0), (0, .ref (a 200)), (1, .int p0)]) hx hb dX15_columnsFor_57 hl (k := 2) rfl (by decide) (by decide) rfl (fun ls hl => ?_)
                                                  refine lv_goto (tgt := 4) hx hb dX15_columnsFor_60 (by decide) ?_
                                                  refine lv_iload_n hx hb dX15_columnsFor_4 rfl (lv_at hl 0 rfl) ?_
                                                  refine lv_bipush (v := 8) hx hb dX15_columnsFor_5 (by decide) ?_
                                                  refine lv_icmp_ge (tgt := 63) hx hb dX15_columnsFor_7 (by decide) (fun c_17 => ?_) (fun c_17 => ?_)
                                                  · refine lv_iload_n hx hb dX15_columnsFor_63 rfl (lv_at hl 2 rfl) ?_
                                                    refine W.widen (k := 0) (n := 0) (Nat.le_of_ble_eq_true rfl) (Nat.le_of_ble_eq_true rfl) ?_
                                                    exact W.iret (v := 0) hx hb hr (fun t ht9 hW9 => ⟨⟨0, (), rfl, ⟨rfl, trivial⟩, trivial⟩, hS.F ht9⟩) hS.2.2 dX15_columnsFor_64 hlocks
                                                  · exact absurd c_17 (by decide)
                                                | succ k ih =>
                                                  intro i hi H locs hS ls hl
                                                  have hlt : i < 8 := by omega
                                                  refine lv_iload hx hb dX15_columnsFor_13 (lv_at hl 0 rfl) ?_
                                                  refine lv_bipush (v := 8) hx hb dX15_columnsFor_15 (by decide) ?_
                                                  refine lv_icmp_ge (tgt := 57) hx hb dX15_columnsFor_17 (by decide) (fun c_18 => absurd c_18 (nI_ge hlt (by decide))) (fun c_18 => ?_)
                                                  refine lv_iload_n hx hb dX15_columnsFor_20 rfl (lv_at hl 1 rfl) ?_
                                                  refine lv_aload_n hx hb dX15_columnsFor_21 rfl (lv_at hl 3 rfl) ?_
                                                  refine va_get (D := D) (ci := 21) (v := .ref (a 213)) (C := RX15) (T := TX15) (N := 29) hx hb ht in_X15 hown hK.1 (ro0 hP0 hS) 0 rfl rfl 21 (by decide) (ht _ w_1280) (fun _ h9 => h9) rfl dX15_columnsFor_22 ?_
                                                  refine lv_iload_n hx hb dX15_columnsFor_25 rfl (lv_at hl 2 rfl) ?_
                                                  refine r_aalda (x := (a 223)) hx hb hK.1 (ro0 hP0 hS) 1 6 rfl rfl (by unfold vp_in; decide) (aa_at (r := (fun i => a (216 + i))) (k := 7) (by decide) (by decide)) dX15_columnsFor_26 ?_
                                                  refine lv_iload hx hb dX15_columnsFor_27 (lv_at hl 0 rfl) ?_
                                                  refine va_zald hx hb hK.1 (ro0 hP0 hS) 2 3 rfl rfl (vp_in_nI (Nat.lt_of_lt_of_le hlt (by decide)) (by decide)) dX15_columnsFor_29 ?_
                                                  refine r_topi (v := 0) rfl ?_
                                                  refine lv_if_eq (tgt := 48) hx hb dX15_columnsFor_30 (by decide) (fun c_19 => ?_) (fun c_19 => ?_)
                                                  · refine lv_iconst (v := 0) hx hb dX15_columnsFor_48 (by decide) ?_
                                                    refine lv_ior hx hb dX15_columnsFor_49 ?_
                                                    refine r_topi (v := 0) (by decide) ?_
                                                    refine lv_istore_n (lv' := [(2, .int 0), (4, .int (nI i)), (3, .int 7), (0, .ref (a 200)), (1, .int p0)]) hx hb dX15_columnsFor_50 rfl hl (by decide) rfl (fun ls hl => ?_)
                                                    refine lv_iinc (v := nI (i + 1)) (lv' := [(4, .int (nI (i + 1))), (2, .int 0), (3, .int 7), (0, .ref (a 200)), (1, .int p0)]) hx hb dX15_columnsFor_51 hl (k := 1) rfl (nI_1 i) (by decide) rfl (fun ls hl => ?_)
                                                    refine lv_goto (tgt := 13) hx hb dX15_columnsFor_54 (by decide) ?_
                                                    exact ih (i + 1) (by omega) H locs hS ls (lv_sub hl [0, 1, 2, 3, 4] rfl)
                                                  · exact absurd c_19 (by decide)
                                              exact loop (8 - 0) 0 (by omega) _ _ hS ls (lv_sub hl [0, 2, 1, 3, 4] rfl)
                                          | succ k ih =>
                                            intro i hi H locs hS ls hl
                                            have hlt : i < 8 := by omega
                                            refine lv_iload hx hb dX15_columnsFor_13 (lv_at hl 0 rfl) ?_
                                            refine lv_bipush (v := 8) hx hb dX15_columnsFor_15 (by decide) ?_
                                            refine lv_icmp_ge (tgt := 57) hx hb dX15_columnsFor_17 (by decide) (fun c_20 => absurd c_20 (nI_ge hlt (by decide))) (fun c_20 => ?_)
                                            refine lv_iload_n hx hb dX15_columnsFor_20 rfl (lv_at hl 1 rfl) ?_
                                            refine lv_aload_n hx hb dX15_columnsFor_21 rfl (lv_at hl 3 rfl) ?_
                                            refine va_get (D := D) (ci := 21) (v := .ref (a 213)) (C := RX15) (T := TX15) (N := 29) hx hb ht in_X15 hown hK.1 (ro0 hP0 hS) 0 rfl rfl 21 (by decide) (ht _ w_1280) (fun _ h9 => h9) rfl dX15_columnsFor_22 ?_
                                            refine lv_iload_n hx hb dX15_columnsFor_25 rfl (lv_at hl 2 rfl) ?_
                                            refine r_aalda (x := (a 222)) hx hb hK.1 (ro0 hP0 hS) 1 6 rfl rfl (by unfold vp_in; decide) (aa_at (r := (fun i => a (216 + i))) (k := 6) (by decide) (by decide)) dX15_columnsFor_26 ?_
                                            refine lv_iload hx hb dX15_columnsFor_27 (lv_at hl 0 rfl) ?_
                                            refine va_zald hx hb hK.1 (ro0 hP0 hS) 3 3 rfl rfl (vp_in_nI (Nat.lt_of_lt_of_le hlt (by decide)) (by decide)) dX15_columnsFor_29 ?_
                                            refine r_topi (v := 0) rfl ?_
                                            refine lv_if_eq (tgt := 48) hx hb dX15_columnsFor_30 (by decide) (fun c_21 => ?_) (fun c_21 => ?_)
                                            · refine lv_iconst (v := 0) hx hb dX15_columnsFor_48 (by decide) ?_
                                              refine lv_ior hx hb dX15_columnsFor_49 ?_
                                              refine r_topi (v := 0) (by decide) ?_
                                              refine lv_istore_n (lv' := [(2, .int 0), (4, .int (nI i)), (3, .int 6), (0, .ref (a 200)), (1, .int p0)]) hx hb dX15_columnsFor_50 rfl hl (by decide) rfl (fun ls hl => ?_)
                                              refine lv_iinc (v := nI (i + 1)) (lv' := [(4, .int (nI (i + 1))), (2, .int 0), (3, .int 6), (0, .ref (a 200)), (1, .int p0)]) hx hb dX15_columnsFor_51 hl (k := 1) rfl (nI_1 i) (by decide) rfl (fun ls hl => ?_)
                                              refine lv_goto (tgt := 13) hx hb dX15_columnsFor_54 (by decide) ?_
                                              exact ih (i + 1) (by omega) H locs hS ls (lv_sub hl [0, 1, 2, 3, 4] rfl)
                                            · exact absurd c_21 (by decide)
                                        exact loop (8 - 0) 0 (by omega) _ _ hS ls (lv_sub hl [0, 2, 1, 3, 4] rfl)
                                    | succ k ih =>
                                      intro i hi H locs hS ls hl
                                      have hlt : i < 8 := by omega
                                      refine lv_iload hx hb dX15_columnsFor_13 (lv_at hl 0 rfl) ?_
                                      refine lv_bipush (v := 8) hx hb dX15_columnsFor_15 (by decide) ?_
                                      refine lv_icmp_ge (tgt := 57) hx hb dX15_columnsFor_17 (by decide) (fun c_22 => absurd c_22 (nI_ge hlt (by decide))) (fun c_22 => ?_)
                                      refine lv_iload_n hx hb dX15_columnsFor_20 rfl (lv_at hl 1 rfl) ?_
                                      refine lv_aload_n hx hb dX15_columnsFor_21 rfl (lv_at hl 3 rfl) ?_
                                      refine va_get (D := D) (ci := 21) (v := .ref (a 213)) (C := RX15) (T := TX15) (N := 29) hx hb ht in_X15 hown hK.1 (ro0 hP0 hS) 0 rfl rfl 21 (by decide) (ht _ w_1280) (fun _ h9 => h9) rfl dX15_columnsFor_22 ?_
                                      refine lv_iload_n hx hb dX15_columnsFor_25 rfl (lv_at hl 2 rfl) ?_
                                      refine r_aalda (x := (a 221)) hx hb hK.1 (ro0 hP0 hS) 1 6 rfl rfl (by unfold vp_in; decide) (aa_at (r := (fun i => a (216 + i))) (k := 5) (by decide) (by decide)) dX15_columnsFor_26 ?_
                                      refine lv_iload hx hb dX15_columnsFor_27 (lv_at hl 0 rfl) ?_
                                      refine va_zald hx hb hK.1 (ro0 hP0 hS) 4 3 rfl rfl (vp_in_nI (Nat.lt_of_lt_of_le hlt (by decide)) (by decide)) dX15_columnsFor_29 ?_
                                      refine r_topi (v := 0) rfl ?_
                                      refine lv_if_eq (tgt := 48) hx hb dX15_columnsFor_30 (by decide) (fun c_23 => ?_) (fun c_23 => ?_)
                                      · refine lv_iconst (v := 0) hx hb dX15_columnsFor_48 (by decide) ?_
                                        refine lv_ior hx hb dX15_columnsFor_49 ?_
                                        refine r_topi (v := 0) (by decide) ?_
                                        refine lv_istore_n (lv' := [(2, .int 0), (4, .int (nI i)), (3, .int 5), (0, .ref (a 200)), (1, .int p0)]) hx hb dX15_columnsFor_50 rfl hl (by decide) rfl (fun ls hl => ?_)
                                        refine lv_iinc (v := nI (i + 1)) (lv' := [(4, .int (nI (i + 1))), (2, .int 0), (3, .int 5), (0, .ref (a 200)), (1, .int p0)]) hx hb dX15_columnsFor_51 hl (k := 1) rfl (nI_1 i) (by decide) rfl (fun ls hl => ?_)
                                        refine lv_goto (tgt := 13) hx hb dX15_columnsFor_54 (by decide) ?_
                                        exact ih (i + 1) (by omega) H locs hS ls (lv_sub hl [0, 1, 2, 3, 4] rfl)
                                      · exact absurd c_23 (by decide)
                                  exact loop (8 - 0) 0 (by omega) _ _ hS ls (lv_sub hl [0, 2, 1, 3, 4] rfl)
                              | succ k ih =>
                                intro i hi H locs hS ls hl
                                have hlt : i < 8 := by omega
                                refine lv_iload hx hb dX15_columnsFor_13 (lv_at hl 0 rfl) ?_
                                refine lv_bipush (v := 8) hx hb dX15_columnsFor_15 (by decide) ?_
                                refine lv_icmp_ge (tgt := 57) hx hb dX15_columnsFor_17 (by decide) (fun c_24 => absurd c_24 (nI_ge hlt (by decide))) (fun c_24 => ?_)
                                refine lv_iload_n hx hb dX15_columnsFor_20 rfl (lv_at hl 1 rfl) ?_
                                refine lv_aload_n hx hb dX15_columnsFor_21 rfl (lv_at hl 3 rfl) ?_
                                refine va_get (D := D) (ci := 21) (v := .ref (a 213)) (C := RX15) (T := TX15) (N := 29) hx hb ht in_X15 hown hK.1 (ro0 hP0 hS) 0 rfl rfl 21 (by decide) (ht _ w_1280) (fun _ h9 => h9) rfl dX15_columnsFor_22 ?_
                                refine lv_iload_n hx hb dX15_columnsFor_25 rfl (lv_at hl 2 rfl) ?_
                                refine r_aalda (x := (a 220)) hx hb hK.1 (ro0 hP0 hS) 1 6 rfl rfl (by unfold vp_in; decide) (aa_at (r := (fun i => a (216 + i))) (k := 4) (by decide) (by decide)) dX15_columnsFor_26 ?_
                                refine lv_iload hx hb dX15_columnsFor_27 (lv_at hl 0 rfl) ?_
                                refine va_zald hx hb hK.1 (ro0 hP0 hS) 5 3 rfl rfl (vp_in_nI (Nat.lt_of_lt_of_le hlt (by decide)) (by decide)) dX15_columnsFor_29 ?_
                                refine r_topi (v := 0) rfl ?_
                                refine lv_if_eq (tgt := 48) hx hb dX15_columnsFor_30 (by decide) (fun c_25 => ?_) (fun c_25 => ?_)
                                · refine lv_iconst (v := 0) hx hb dX15_columnsFor_48 (by decide) ?_
                                  refine lv_ior hx hb dX15_columnsFor_49 ?_
                                  refine r_topi (v := 0) (by decide) ?_
                                  refine lv_istore_n (lv' := [(2, .int 0), (4, .int (nI i)), (3, .int 4), (0, .ref (a 200)), (1, .int p0)]) hx hb dX15_columnsFor_50 rfl hl (by decide) rfl (fun ls hl => ?_)
                                  refine lv_iinc (v := nI (i + 1)) (lv' := [(4, .int (nI (i + 1))), (2, .int 0), (3, .int 4), (0, .ref (a 200)), (1, .int p0)]) hx hb dX15_columnsFor_51 hl (k := 1) rfl (nI_1 i) (by decide) rfl (fun ls hl => ?_)
                                  refine lv_goto (tgt := 13) hx hb dX15_columnsFor_54 (by decide) ?_
                                  exact ih (i + 1) (by omega) H locs hS ls (lv_sub hl [0, 1, 2, 3, 4] rfl)
                                · exact absurd c_25 (by decide)
                            exact loop (8 - 0) 0 (by omega) _ _ hS ls (lv_sub hl [0, 2, 1, 3, 4] rfl)
                        | succ k ih =>
                          intro i hi H locs hS ls hl
                          have hlt : i < 8 := by omega
                          refine lv_iload hx hb dX15_columnsFor_13 (lv_at hl 0 rfl) ?_
                          refine lv_bipush (v := 8) hx hb dX15_columnsFor_15 (by decide) ?_
                          refine lv_icmp_ge (tgt := 57) hx hb dX15_columnsFor_17 (by decide) (fun c_26 => absurd c_26 (nI_ge hlt (by decide))) (fun c_26 => ?_)
                          refine lv_iload_n hx hb dX15_columnsFor_20 rfl (lv_at hl 1 rfl) ?_
                          refine lv_aload_n hx hb dX15_columnsFor_21 rfl (lv_at hl 3 rfl) ?_
                          refine va_get (D := D) (ci := 21) (v := .ref (a 213)) (C := RX15) (T := TX15) (N := 29) hx hb ht in_X15 hown hK.1 (ro0 hP0 hS) 0 rfl rfl 21 (by decide) (ht _ w_1280) (fun _ h9 => h9) rfl dX15_columnsFor_22 ?_
                          refine lv_iload_n hx hb dX15_columnsFor_25 rfl (lv_at hl 2 rfl) ?_
                          refine r_aalda (x := (a 219)) hx hb hK.1 (ro0 hP0 hS) 1 6 rfl rfl (by unfold vp_in; decide) (aa_at (r := (fun i => a (216 + i))) (k := 3) (by decide) (by decide)) dX15_columnsFor_26 ?_
                          refine lv_iload hx hb dX15_columnsFor_27 (lv_at hl 0 rfl) ?_
                          refine va_zald hx hb hK.1 (ro0 hP0 hS) 6 3 rfl rfl (vp_in_nI (Nat.lt_of_lt_of_le hlt (by decide)) (by decide)) dX15_columnsFor_29 ?_
                          refine r_topi (v := 0) rfl ?_
                          refine lv_if_eq (tgt := 48) hx hb dX15_columnsFor_30 (by decide) (fun c_27 => ?_) (fun c_27 => ?_)
                          · refine lv_iconst (v := 0) hx hb dX15_columnsFor_48 (by decide) ?_
                            refine lv_ior hx hb dX15_columnsFor_49 ?_
                            refine r_topi (v := 0) (by decide) ?_
                            refine lv_istore_n (lv' := [(2, .int 0), (4, .int (nI i)), (3, .int 3), (0, .ref (a 200)), (1, .int p0)]) hx hb dX15_columnsFor_50 rfl hl (by decide) rfl (fun ls hl => ?_)
                            refine lv_iinc (v := nI (i + 1)) (lv' := [(4, .int (nI (i + 1))), (2, .int 0), (3, .int 3), (0, .ref (a 200)), (1, .int p0)]) hx hb dX15_columnsFor_51 hl (k := 1) rfl (nI_1 i) (by decide) rfl (fun ls hl => ?_)
                            refine lv_goto (tgt := 13) hx hb dX15_columnsFor_54 (by decide) ?_
                            exact ih (i + 1) (by omega) H locs hS ls (lv_sub hl [0, 1, 2, 3, 4] rfl)
                          · exact absurd c_27 (by decide)
                      exact loop (8 - 0) 0 (by omega) _ _ hS ls (lv_sub hl [0, 2, 1, 3, 4] rfl)
                  | succ k ih =>
                    intro i hi H locs hS ls hl
                    have hlt : i < 8 := by omega
                    refine lv_iload hx hb dX15_columnsFor_13 (lv_at hl 0 rfl) ?_
                    refine lv_bipush (v := 8) hx hb dX15_columnsFor_15 (by decide) ?_
                    refine lv_icmp_ge (tgt := 57) hx hb dX15_columnsFor_17 (by decide) (fun c_28 => absurd c_28 (nI_ge hlt (by decide))) (fun c_28 => ?_)
                    refine lv_iload_n hx hb dX15_columnsFor_20 rfl (lv_at hl 1 rfl) ?_
                    refine lv_aload_n hx hb dX15_columnsFor_21 rfl (lv_at hl 3 rfl) ?_
                    refine va_get (D := D) (ci := 21) (v := .ref (a 213)) (C := RX15) (T := TX15) (N := 29) hx hb ht in_X15 hown hK.1 (ro0 hP0 hS) 0 rfl rfl 21 (by decide) (ht _ w_1280) (fun _ h9 => h9) rfl dX15_columnsFor_22 ?_
                    refine lv_iload_n hx hb dX15_columnsFor_25 rfl (lv_at hl 2 rfl) ?_
                    refine r_aalda (x := (a 218)) hx hb hK.1 (ro0 hP0 hS) 1 6 rfl rfl (by unfold vp_in; decide) (aa_at (r := (fun i => a (216 + i))) (k := 2) (by decide) (by decide)) dX15_columnsFor_26 ?_
                    refine lv_iload hx hb dX15_columnsFor_27 (lv_at hl 0 rfl) ?_
                    refine va_zald hx hb hK.1 (ro0 hP0 hS) 7 3 rfl rfl (vp_in_nI (Nat.lt_of_lt_of_le hlt (by decide)) (by decide)) dX15_columnsFor_29 ?_
                    refine r_topi (v := 0) rfl ?_
                    refine lv_if_eq (tgt := 48) hx hb dX15_columnsFor_30 (by decide) (fun c_29 => ?_) (fun c_29 => ?_)
                    · refine lv_iconst (v := 0) hx hb dX15_columnsFor_48 (by decide) ?_
                      refine lv_ior hx hb dX15_columnsFor_49 ?_
                      refine r_topi (v := 0) (by decide) ?_
                      refine lv_istore_n (lv' := [(2, .int 0), (4, .int (nI i)), (3, .int 2), (0, .ref (a 200)), (1, .int p0)]) hx hb dX15_columnsFor_50 rfl hl (by decide) rfl (fun ls hl => ?_)
                      refine lv_iinc (v := nI (i + 1)) (lv' := [(4, .int (nI (i + 1))), (2, .int 0), (3, .int 2), (0, .ref (a 200)), (1, .int p0)]) hx hb dX15_columnsFor_51 hl (k := 1) rfl (nI_1 i) (by decide) rfl (fun ls hl => ?_)
                      refine lv_goto (tgt := 13) hx hb dX15_columnsFor_54 (by decide) ?_
                      exact ih (i + 1) (by omega) H locs hS ls (lv_sub hl [0, 1, 2, 3, 4] rfl)
                    · exact absurd c_29 (by decide)
                exact loop (8 - 0) 0 (by omega) _ _ hS ls (lv_sub hl [0, 2, 1, 3, 4] rfl)
            | succ k ih =>
              intro i hi H locs hS ls hl
              have hlt : i < 8 := by omega
              refine lv_iload hx hb dX15_columnsFor_13 (lv_at hl 0 rfl) ?_
              refine lv_bipush (v := 8) hx hb dX15_columnsFor_15 (by decide) ?_
              refine lv_icmp_ge (tgt := 57) hx hb dX15_columnsFor_17 (by decide) (fun c_30 => absurd c_30 (nI_ge hlt (by decide))) (fun c_30 => ?_)
              refine lv_iload_n hx hb dX15_columnsFor_20 rfl (lv_at hl 1 rfl) ?_
              refine lv_aload_n hx hb dX15_columnsFor_21 rfl (lv_at hl 3 rfl) ?_
              refine va_get (D := D) (ci := 21) (v := .ref (a 213)) (C := RX15) (T := TX15) (N := 29) hx hb ht in_X15 hown hK.1 (ro0 hP0 hS) 0 rfl rfl 21 (by decide) (ht _ w_1280) (fun _ h9 => h9) rfl dX15_columnsFor_22 ?_
              refine lv_iload_n hx hb dX15_columnsFor_25 rfl (lv_at hl 2 rfl) ?_
              refine r_aalda (x := (a 217)) hx hb hK.1 (ro0 hP0 hS) 1 6 rfl rfl (by unfold vp_in; decide) (aa_at (r := (fun i => a (216 + i))) (k := 1) (by decide) (by decide)) dX15_columnsFor_26 ?_
              refine lv_iload hx hb dX15_columnsFor_27 (lv_at hl 0 rfl) ?_
              refine va_zald hx hb hK.1 (ro0 hP0 hS) 8 3 rfl rfl (vp_in_nI (Nat.lt_of_lt_of_le hlt (by decide)) (by decide)) dX15_columnsFor_29 ?_
              refine r_topi (v := 0) rfl ?_
              refine lv_if_eq (tgt := 48) hx hb dX15_columnsFor_30 (by decide) (fun c_31 => ?_) (fun c_31 => ?_)
              · refine lv_iconst (v := 0) hx hb dX15_columnsFor_48 (by decide) ?_
                refine lv_ior hx hb dX15_columnsFor_49 ?_
                refine r_topi (v := 0) (by decide) ?_
                refine lv_istore_n (lv' := [(2, .int 0), (4, .int (nI i)), (3, .int 1), (0, .ref (a 200)), (1, .int p0)]) hx hb dX15_columnsFor_50 rfl hl (by decide) rfl (fun ls hl => ?_)
                refine lv_iinc (v := nI (i + 1)) (lv' := [(4, .int (nI (i + 1))), (2, .int 0), (3, .int 1), (0, .ref (a 200)), (1, .int p0)]) hx hb dX15_columnsFor_51 hl (k := 1) rfl (nI_1 i) (by decide) rfl (fun ls hl => ?_)
                refine lv_goto (tgt := 13) hx hb dX15_columnsFor_54 (by decide) ?_
                exact ih (i + 1) (by omega) H locs hS ls (lv_sub hl [0, 1, 2, 3, 4] rfl)
              · exact absurd c_31 (by decide)
          exact loop (8 - 0) 0 (by omega) _ _ hS ls (lv_sub hl [0, 2, 1, 3, 4] rfl)
      | succ k ih =>
        intro i hi H locs hS ls hl
        have hlt : i < 8 := by omega
        refine lv_iload hx hb dX15_columnsFor_13 (lv_at hl 0 rfl) ?_
        refine lv_bipush (v := 8) hx hb dX15_columnsFor_15 (by decide) ?_
        refine lv_icmp_ge (tgt := 57) hx hb dX15_columnsFor_17 (by decide) (fun c_32 => absurd c_32 (nI_ge hlt (by decide))) (fun c_32 => ?_)
        refine lv_iload_n hx hb dX15_columnsFor_20 rfl (lv_at hl 1 rfl) ?_
        refine lv_aload_n hx hb dX15_columnsFor_21 rfl (lv_at hl 3 rfl) ?_
        refine va_get (D := D) (ci := 21) (v := .ref (a 213)) (C := RX15) (T := TX15) (N := 29) hx hb ht in_X15 hown hK.1 (ro0 hP0 hS) 0 rfl rfl 21 (by decide) (ht _ w_1280) (fun _ h9 => h9) rfl dX15_columnsFor_22 ?_
        refine lv_iload_n hx hb dX15_columnsFor_25 rfl (lv_at hl 2 rfl) ?_
        refine r_aalda (x := (a 216)) hx hb hK.1 (ro0 hP0 hS) 1 6 rfl rfl (by unfold vp_in; decide) (aa_at (r := (fun i => a (216 + i))) (k := 0) (by decide) (by decide)) dX15_columnsFor_26 ?_
        refine lv_iload hx hb dX15_columnsFor_27 (lv_at hl 0 rfl) ?_
        refine va_zald hx hb hK.1 (ro0 hP0 hS) 9 3 rfl rfl (vp_in_nI (Nat.lt_of_lt_of_le hlt (by decide)) (by decide)) dX15_columnsFor_29 ?_
        refine r_topi (v := 0) rfl ?_
        refine lv_if_eq (tgt := 48) hx hb dX15_columnsFor_30 (by decide) (fun c_33 => ?_) (fun c_33 => ?_)
        · refine lv_iconst (v := 0) hx hb dX15_columnsFor_48 (by decide) ?_
          refine lv_ior hx hb dX15_columnsFor_49 ?_
          refine r_topi (v := 0) (by decide) ?_
          refine lv_istore_n (lv' := [(2, .int 0), (4, .int (nI i)), (3, .int 0), (0, .ref (a 200)), (1, .int p0)]) hx hb dX15_columnsFor_50 rfl hl (by decide) rfl (fun ls hl => ?_)
          refine lv_iinc (v := nI (i + 1)) (lv' := [(4, .int (nI (i + 1))), (2, .int 0), (3, .int 0), (0, .ref (a 200)), (1, .int p0)]) hx hb dX15_columnsFor_51 hl (k := 1) rfl (nI_1 i) (by decide) rfl (fun ls hl => ?_)
          refine lv_goto (tgt := 13) hx hb dX15_columnsFor_54 (by decide) ?_
          exact ih (i + 1) (by omega) H locs hS ls (lv_sub hl [0, 1, 2, 3, 4] rfl)
        · exact absurd c_33 (by decide)
    exact loop (8 - 0) 0 (by omega) _ _ hS ls (lv_sub hl [0, 2, 1, 3, 4] rfl)
set_option maxHeartbeats 4000000 in
set_option maxRecDepth 100000 in
theorem k_X15_repair (l : Launch) (D : va_G) (g : Nat → ClassId) (z0 sz : Nat) (a : Nat → Nat) (p0 : Int32) (p1 : Int32) : Met l yX15_repair (.code yX15_repair cX15_repair 8 (some .int) :: TG) (rmk 1 0 0 24) (va_Pc [.ref (a 200), .int p0, .int p1] (PP D g z0 sz [((a 200), f_m a g), ((a 213), .inl (g 6, 8, .inr (.inr (.inr (.inr (fun i => if i < 8 then some (a (216 + i)) else none)))))), ((a 223), .inl (g 3, 8, .inl (fun _ => 0))), ((a 222), .inl (g 3, 8, .inl (fun _ => 0))), ((a 221), .inl (g 3, 8, .inl (fun _ => 0))), ((a 220), .inl (g 3, 8, .inl (fun _ => 0))), ((a 219), .inl (g 3, 8, .inl (fun _ => 0))), ((a 218), .inl (g 3, 8, .inl (fun _ => 0))), ((a 217), .inl (g 3, 8, .inl (fun _ => 0))), ((a 216), .inl (g 3, 8, .inl (fun _ => 0)))])) (va_Qi (fun (r : Int32) (u : Int32) => ((r = 0) ∧ (u = 1) ∧ ((p0 < 0) ∨ ((¬ p0 < 0) ∧ (p1 < 0) ∧ ((8 : Int32) < p0)) ∨ ((¬ p0 < 0) ∧ (p1 < 0) ∧ (¬ (8 : Int32) < p0)) ∨ ((¬ p0 < 0) ∧ (¬ p1 < 0) ∧ ((8 : Int32) < p0)) ∨ ((¬ p0 < 0) ∧ (¬ p1 < 0) ∧ (¬ (8 : Int32) < p0) ∧ ((8 : Int32) < p1)))) ∨ ((r = 0) ∧ (u = 0) ∧ ((¬ p0 < 0) ∧ (¬ p1 < 0) ∧ (¬ (8 : Int32) < p0) ∧ (¬ (8 : Int32) < p1)))) (fun (u : Int32) (t : State) => va_P D vwCl [((a 200), .inr (21, [.int u, .ref (a 201), .ref (a 202), .ref (a 203), .ref (a 204), .ref (a 205), .ref (a 206), .int 0, .int 0, .int 0, .int 0, .ref (a 208), .ref (a 209), .ref (a 210), .ref (a 211), .ref (a 212), .int 4, .int 12, .int (-1), .int 0, .ref (g 200), .ref (a 213), .int 0, .int 97, .ref (a 214), .ref (a 215), .ref (a 207), .null, .int 0]))] t.heap ∧ va_D (va_A [((a 200), f_m a g), ((a 213), .inl (g 6, 8, .inr (.inr (.inr (.inr (fun i => if i < 8 then some (a (216 + i)) else none)))))), ((a 223), .inl (g 3, 8, .inl (fun _ => 0))), ((a 222), .inl (g 3, 8, .inl (fun _ => 0))), ((a 221), .inl (g 3, 8, .inl (fun _ => 0))), ((a 220), .inl (g 3, 8, .inl (fun _ => 0))), ((a 219), .inl (g 3, 8, .inl (fun _ => 0))), ((a 218), .inl (g 3, 8, .inl (fun _ => 0))), ((a 217), .inl (g 3, 8, .inl (fun _ => 0))), ((a 216), .inl (g 3, 8, .inl (fun _ => 0)))] sz) [((a 200), .inr (21, [.int u, .ref (a 201), .ref (a 202), .ref (a 203), .ref (a 204), .ref (a 205), .ref (a 206), .int 0, .int 0, .int 0, .int 0, .ref (a 208), .ref (a 209), .ref (a 210), .ref (a 211), .ref (a 212), .int 4, .int 12, .int (-1), .int 0, .ref (g 200), .ref (a 213), .int 0, .int 97, .ref (a 214), .ref (a 215), .ref (a 207), .null, .int 0]))]) (va_A [((a 200), f_m a g), ((a 213), .inl (g 6, 8, .inr (.inr (.inr (.inr (fun i => if i < 8 then some (a (216 + i)) else none)))))), ((a 223), .inl (g 3, 8, .inl (fun _ => 0))), ((a 222), .inl (g 3, 8, .inl (fun _ => 0))), ((a 221), .inl (g 3, 8, .inl (fun _ => 0))), ((a 220), .inl (g 3, 8, .inl (fun _ => 0))), ((a 219), .inl (g 3, 8, .inl (fun _ => 0))), ((a 218), .inl (g 3, 8, .inl (fun _ => 0))), ((a 217), .inl (g 3, 8, .inl (fun _ => 0))), ((a 216), .inl (g 3, 8, .inl (fun _ => 0)))] sz)) 0 0 (va_A [((a 200), f_m a g), ((a 213), .inl (g 6, 8, .inr (.inr (.inr (.inr (fun i => if i < 8 then some (a (216 + i)) else none)))))), ((a 223), .inl (g 3, 8, .inl (fun _ => 0))), ((a 222), .inl (g 3, 8, .inl (fun _ => 0))), ((a 221), .inl (g 3, 8, .inl (fun _ => 0))), ((a 220), .inl (g 3, 8, .inl (fun _ => 0))), ((a 219), .inl (g 3, 8, .inl (fun _ => 0))), ((a 218), .inl (g 3, 8, .inl (fun _ => 0))), ((a 217), .inl (g 3, 8, .inl (fun _ => 0))), ((a 216), .inl (g 3, 8, .inl (fun _ => 0)))] sz) := by
  refine met0 (cc := cX15_repair) (n := 8) (by decide) (Nat.le_of_ble_eq_true rfl) ?_
  intro p e s m args below meth c hx hb hr hml hown ht hlocks hnm hP0 hD0 hK hZ hsz hz ls hl
  subst hsz
  have hA : ∀ q : Nat, s.heap.size ≤ q → va_A [((a 200), f_m a g), ((a 213), .inl (g 6, 8, .inr (.inr (.inr (.inr (fun i => if i < 8 then some (a (216 + i)) else none)))))), ((a 223), .inl (g 3, 8, .inl (fun _ => 0))), ((a 222), .inl (g 3, 8, .inl (fun _ => 0))), ((a 221), .inl (g 3, 8, .inl (fun _ => 0))), ((a 220), .inl (g 3, 8, .inl (fun _ => 0))), ((a 219), .inl (g 3, 8, .inl (fun _ => 0))), ((a 218), .inl (g 3, 8, .inl (fun _ => 0))), ((a 217), .inl (g 3, 8, .inl (fun _ => 0))), ((a 216), .inl (g 3, 8, .inl (fun _ => 0)))] s.heap.size q := Anw
  have hAz : ∀ q, va_A [((a 200), f_m a g), ((a 213), .inl (g 6, 8, .inr (.inr (.inr (.inr (fun i => if i < 8 then some (a (216 + i)) else none)))))), ((a 223), .inl (g 3, 8, .inl (fun _ => 0))), ((a 222), .inl (g 3, 8, .inl (fun _ => 0))), ((a 221), .inl (g 3, 8, .inl (fun _ => 0))), ((a 220), .inl (g 3, 8, .inl (fun _ => 0))), ((a 219), .inl (g 3, 8, .inl (fun _ => 0))), ((a 218), .inl (g 3, 8, .inl (fun _ => 0))), ((a 217), .inl (g 3, 8, .inl (fun _ => 0))), ((a 216), .inl (g 3, 8, .inl (fun _ => 0)))] s.heap.size q → z0 ≤ q := Awz hz hD0
  have hS : va_S (va_A [((a 200), f_m a g), ((a 213), .inl (g 6, 8, .inr (.inr (.inr (.inr (fun i => if i < 8 then some (a (216 + i)) else none)))))), ((a 223), .inl (g 3, 8, .inl (fun _ => 0))), ((a 222), .inl (g 3, 8, .inl (fun _ => 0))), ((a 221), .inl (g 3, 8, .inl (fun _ => 0))), ((a 220), .inl (g 3, 8, .inl (fun _ => 0))), ((a 219), .inl (g 3, 8, .inl (fun _ => 0))), ((a 218), .inl (g 3, 8, .inl (fun _ => 0))), ((a 217), .inl (g 3, 8, .inl (fun _ => 0))), ((a 216), .inl (g 3, 8, .inl (fun _ => 0)))] s.heap.size) s.heap s.heap [] := va_S.rf
  have hD : va_D (va_A [((a 200), f_m a g), ((a 213), .inl (g 6, 8, .inr (.inr (.inr (.inr (fun i => if i < 8 then some (a (216 + i)) else none)))))), ((a 223), .inl (g 3, 8, .inl (fun _ => 0))), ((a 222), .inl (g 3, 8, .inl (fun _ => 0))), ((a 221), .inl (g 3, 8, .inl (fun _ => 0))), ((a 220), .inl (g 3, 8, .inl (fun _ => 0))), ((a 219), .inl (g 3, 8, .inl (fun _ => 0))), ((a 218), .inl (g 3, 8, .inl (fun _ => 0))), ((a 217), .inl (g 3, 8, .inl (fun _ => 0))), ((a 216), .inl (g 3, 8, .inl (fun _ => 0)))] s.heap.size) [((a 200), f_m a g), ((a 213), .inl (g 6, 8, .inr (.inr (.inr (.inr (fun i => if i < 8 then some (a (216 + i)) else none)))))), ((a 223), .inl (g 3, 8, .inl (fun _ => 0))), ((a 222), .inl (g 3, 8, .inl (fun _ => 0))), ((a 221), .inl (g 3, 8, .inl (fun _ => 0))), ((a 220), .inl (g 3, 8, .inl (fun _ => 0))), ((a 219), .inl (g 3, 8, .inl (fun _ => 0))), ((a 218), .inl (g 3, 8, .inl (fun _ => 0))), ((a 217), .inl (g 3, 8, .inl (fun _ => 0))), ((a 216), .inl (g 3, 8, .inl (fun _ => 0)))] := hD0.self
  have hP : va_P D vwCl [((a 200), f_m a g), ((a 213), .inl (g 6, 8, .inr (.inr (.inr (.inr (fun i => if i < 8 then some (a (216 + i)) else none)))))), ((a 223), .inl (g 3, 8, .inl (fun _ => 0))), ((a 222), .inl (g 3, 8, .inl (fun _ => 0))), ((a 221), .inl (g 3, 8, .inl (fun _ => 0))), ((a 220), .inl (g 3, 8, .inl (fun _ => 0))), ((a 219), .inl (g 3, 8, .inl (fun _ => 0))), ((a 218), .inl (g 3, 8, .inl (fun _ => 0))), ((a 217), .inl (g 3, 8, .inl (fun _ => 0))), ((a 216), .inl (g 3, 8, .inl (fun _ => 0)))] s.heap := hP0
  have hl : lv_has ls 8 [(0, .ref (a 200)), (1, .int p0), (2, .int p1)] := hl
  refine lv_iconst (v := (-1)) hx hb dX15_repair_0 (by decide) ?_
  refine lv_istore_n (lv' := [(3, .int (-1)), (0, .ref (a 200)), (1, .int p0), (2, .int p1)]) hx hb dX15_repair_1 rfl hl (by decide) rfl (fun ls hl => ?_)
  refine lv_iconst (v := 0) hx hb dX15_repair_2 (by decide) ?_
  refine lv_istore (lv' := [(4, .int 0), (3, .int (-1)), (0, .ref (a 200)), (1, .int p0), (2, .int p1)]) hx hb dX15_repair_3 hl (by decide) rfl (fun ls hl => ?_)
  refine lv_iconst (v := 0) hx hb dX15_repair_5 (by decide) ?_
  refine lv_istore (lv' := [(5, .int 0), (4, .int 0), (3, .int (-1)), (0, .ref (a 200)), (1, .int p0), (2, .int p1)]) hx hb dX15_repair_6 hl (by decide) rfl (fun ls hl => ?_)
  refine lv_iload hx hb dX15_repair_8 (lv_at hl 0 rfl) ?_
  refine lv_sipush (v := 256) hx hb dX15_repair_10 (by decide) ?_
  refine lv_icmp_ge (tgt := 80) hx hb dX15_repair_13 (by decide) (fun c_1 => ?_) (fun c_1 => ?_)
  · exact absurd c_1 (by decide)
  · refine lv_aload_n hx hb dX15_repair_16 rfl (lv_at hl 3 rfl) ?_
    refine lv_iload hx hb dX15_repair_17 (lv_at hl 0 rfl) ?_
    have hPc : va_P D vwCl [((a 200), f_m a g), ((a 213), .inl (g 6, 8, .inr (.inr (.inr (.inr (fun i => if i < 8 then some (a (216 + i)) else none)))))), ((a 223), .inl (g 3, 8, .inl (fun _ => 0))), ((a 222), .inl (g 3, 8, .inl (fun _ => 0))), ((a 221), .inl (g 3, 8, .inl (fun _ => 0))), ((a 220), .inl (g 3, 8, .inl (fun _ => 0))), ((a 219), .inl (g 3, 8, .inl (fun _ => 0))), ((a 218), .inl (g 3, 8, .inl (fun _ => 0))), ((a 217), .inl (g 3, 8, .inl (fun _ => 0))), ((a 216), .inl (g 3, 8, .inl (fun _ => 0)))] _ := hP.sub (ws' := [((a 200), f_m a g), ((a 213), .inl (g 6, 8, .inr (.inr (.inr (.inr (fun i => if i < 8 then some (a (216 + i)) else none)))))), ((a 223), .inl (g 3, 8, .inl (fun _ => 0))), ((a 222), .inl (g 3, 8, .inl (fun _ => 0))), ((a 221), .inl (g 3, 8, .inl (fun _ => 0))), ((a 220), .inl (g 3, 8, .inl (fun _ => 0))), ((a 219), .inl (g 3, 8, .inl (fun _ => 0))), ((a 218), .inl (g 3, 8, .inl (fun _ => 0))), ((a 217), .inl (g 3, 8, .inl (fun _ => 0))), ((a 216), .inl (g 3, 8, .inl (fun _ => 0)))]) [0, 1, 2, 3, 4, 5, 6, 7, 8, 9] rfl
    have hDc : va_D (fun q => z0 ≤ q) [((a 200), f_m a g), ((a 213), .inl (g 6, 8, .inr (.inr (.inr (.inr (fun i => if i < 8 then some (a (216 + i)) else none)))))), ((a 223), .inl (g 3, 8, .inl (fun _ => 0))), ((a 222), .inl (g 3, 8, .inl (fun _ => 0))), ((a 221), .inl (g 3, 8, .inl (fun _ => 0))), ((a 220), .inl (g 3, 8, .inl (fun _ => 0))), ((a 219), .inl (g 3, 8, .inl (fun _ => 0))), ((a 218), .inl (g 3, 8, .inl (fun _ => 0))), ((a 217), .inl (g 3, 8, .inl (fun _ => 0))), ((a 216), .inl (g 3, 8, .inl (fun _ => 0)))] := (hD.to hAz).pick (ws' := [((a 200), f_m a g), ((a 213), .inl (g 6, 8, .inr (.inr (.inr (.inr (fun i => if i < 8 then some (a (216 + i)) else none)))))), ((a 223), .inl (g 3, 8, .inl (fun _ => 0))), ((a 222), .inl (g 3, 8, .inl (fun _ => 0))), ((a 221), .inl (g 3, 8, .inl (fun _ => 0))), ((a 220), .inl (g 3, 8, .inl (fun _ => 0))), ((a 219), .inl (g 3, 8, .inl (fun _ => 0))), ((a 218), .inl (g 3, 8, .inl (fun _ => 0))), ((a 217), .inl (g 3, 8, .inl (fun _ => 0))), ((a 216), .inl (g 3, 8, .inl (fun _ => 0)))]) [0, 1, 2, 3, 4, 5, 6, 7, 8, 9] (by decide) rfl
    have hFc := AnA (ws := [((a 200), f_m a g), ((a 213), .inl (g 6, 8, .inr (.inr (.inr (.inr (fun i => if i < 8 then some (a (216 + i)) else none)))))), ((a 223), .inl (g 3, 8, .inl (fun _ => 0))), ((a 222), .inl (g 3, 8, .inl (fun _ => 0))), ((a 221), .inl (g 3, 8, .inl (fun _ => 0))), ((a 220), .inl (g 3, 8, .inl (fun _ => 0))), ((a 219), .inl (g 3, 8, .inl (fun _ => 0))), ((a 218), .inl (g 3, 8, .inl (fun _ => 0))), ((a 217), .inl (g 3, 8, .inl (fun _ => 0))), ((a 216), .inl (g 3, 8, .inl (fun _ => 0)))]) hS.1
    refine va_calli (va_runV (As := [.int 0]) (rest := []) ⟨hx, hb, hml, hown, ht⟩ (k_X15_columnsFor l D g z0 _ a) (cwV 1 ht (gV w_1281 w_1283 w_1284 w_334 w_1282) rfl rfl rfl (by decide +kernel) (le2 rfl rfl)) ⟨PP.blind, va_recv hK.1 hP (ci := 21) (q0 := 0) rfl rfl, PP.mk' hK hZ hz hAz hS hPc hDc⟩ rfl rfl hl.1 rfl (lv_room (Nat.le_of_ble_eq_true rfl)) dX15_repair_19 (le2 rfl rfl)) hS (fun q _ h => hFc q h) hFc (fun r u t H locs ht1 hvm hw hB hz1 hk1 hS => ?_)
    obtain ⟨rfl, hw⟩ := hw
    have hP := ro1 hP hk1
    have hPc : va_P D vwCl [] _ := hP.sub (ws' := []) [] rfl
    have hDc : va_D (fun q => z0 ≤ q) [] := (hD.to hAz).pick (ws' := []) [] (by decide) rfl
    have hFc := AnA (ws := [((a 200), f_m a g), ((a 213), .inl (g 6, 8, .inr (.inr (.inr (.inr (fun i => if i < 8 then some (a (216 + i)) else none)))))), ((a 223), .inl (g 3, 8, .inl (fun _ => 0))), ((a 222), .inl (g 3, 8, .inl (fun _ => 0))), ((a 221), .inl (g 3, 8, .inl (fun _ => 0))), ((a 220), .inl (g 3, 8, .inl (fun _ => 0))), ((a 219), .inl (g 3, 8, .inl (fun _ => 0))), ((a 218), .inl (g 3, 8, .inl (fun _ => 0))), ((a 217), .inl (g 3, 8, .inl (fun _ => 0))), ((a 216), .inl (g 3, 8, .inl (fun _ => 0)))]) hS.1
    refine va_calli (va_runS (As := [.int 0]) (rest := []) ⟨hx, hb, hml, hown, ht⟩ (k_J6_bitCount_0f7a4 l D g z0 _ a) (va_cwS 1 ht (gS w_1256 w_279 w_280 w_278) rfl rfl rfl (by decide +kernel) (le2 rfl rfl)) ⟨PP.blind, PP.mk' hK hZ hz hAz hS hPc hDc⟩ rfl rfl hl.1 rfl (lv_room (Nat.le_of_ble_eq_true rfl)) dX15_repair_22 (le2 rfl rfl)) hS (fun q _ h => hFc q h) hFc (fun r u t H locs ht1 hvm hw hB hz1 hk1 hS => ?_)
    obtain ⟨rfl, hw⟩ := hw
    have hP := ro1 hP hk1
    refine lv_istore (lv' := [(6, .int 0), (5, .int 0), (4, .int 0), (3, .int (-1)), (0, .ref (a 200)), (1, .int p0), (2, .int p1)]) hx hb dX15_repair_25 hl (by decide) rfl (fun ls hl => ?_)
    refine lv_iload hx hb dX15_repair_27 (lv_at hl 1 rfl) ?_
    have hPc : va_P D vwCl [] _ := hP.sub (ws' := []) [] rfl
    have hDc : va_D (fun q => z0 ≤ q) [] := (hD.to hAz).pick (ws' := []) [] (by decide) rfl
    have hFc := AnA (ws := [((a 200), f_m a g), ((a 213), .inl (g 6, 8, .inr (.inr (.inr (.inr (fun i => if i < 8 then some (a (216 + i)) else none)))))), ((a 223), .inl (g 3, 8, .inl (fun _ => 0))), ((a 222), .inl (g 3, 8, .inl (fun _ => 0))), ((a 221), .inl (g 3, 8, .inl (fun _ => 0))), ((a 220), .inl (g 3, 8, .inl (fun _ => 0))), ((a 219), .inl (g 3, 8, .inl (fun _ => 0))), ((a 218), .inl (g 3, 8, .inl (fun _ => 0))), ((a 217), .inl (g 3, 8, .inl (fun _ => 0))), ((a 216), .inl (g 3, 8, .inl (fun _ => 0)))]) hS.1
    refine va_calli (va_runS (As := [.int 0]) (rest := []) ⟨hx, hb, hml, hown, ht⟩ (k_J6_bitCount_0f7a4 l D g z0 _ a) (va_cwS 1 ht (gS w_1256 w_279 w_280 w_278) rfl rfl rfl (by decide +kernel) (le2 rfl rfl)) ⟨PP.blind, PP.mk' hK hZ hz hAz hS hPc hDc⟩ rfl rfl hl.1 rfl (lv_room (Nat.le_of_ble_eq_true rfl)) dX15_repair_29 (le2 rfl rfl)) hS (fun q _ h => hFc q h) hFc (fun r u t H locs ht1 hvm hw hB hz1 hk1 hS => ?_)
    obtain ⟨rfl, hw⟩ := hw
    have hP := ro1 hP hk1
    refine lv_iload hx hb dX15_repair_32 (lv_at hl 0 rfl) ?_
    refine lv_iadd hx hb dX15_repair_34 ?_
    refine r_topi (v := 0) (by decide) ?_
    refine lv_istore (lv' := [(7, .int 0), (6, .int 0), (5, .int 0), (4, .int 0), (3, .int (-1)), (0, .ref (a 200)), (1, .int p0), (2, .int p1)]) hx hb dX15_repair_35 hl (by decide) rfl (fun ls hl => ?_)
    refine lv_iload hx hb dX15_repair_37 (lv_at hl 2 rfl) ?_
    have hPc : va_P D vwCl [] _ := hP.sub (ws' := []) [] rfl
    have hDc : va_D (fun q => z0 ≤ q) [] := (hD.to hAz).pick (ws' := []) [] (by decide) rfl
    have hFc := AnA (ws := [((a 200), f_m a g), ((a 213), .inl (g 6, 8, .inr (.inr (.inr (.inr (fun i => if i < 8 then some (a (216 + i)) else none)))))), ((a 223), .inl (g 3, 8, .inl (fun _ => 0))), ((a 222), .inl (g 3, 8, .inl (fun _ => 0))), ((a 221), .inl (g 3, 8, .inl (fun _ => 0))), ((a 220), .inl (g 3, 8, .inl (fun _ => 0))), ((a 219), .inl (g 3, 8, .inl (fun _ => 0))), ((a 218), .inl (g 3, 8, .inl (fun _ => 0))), ((a 217), .inl (g 3, 8, .inl (fun _ => 0))), ((a 216), .inl (g 3, 8, .inl (fun _ => 0)))]) hS.1
    refine va_calli (va_runS (As := [.int 0]) (rest := []) ⟨hx, hb, hml, hown, ht⟩ (k_J6_bitCount_0f7a4 l D g z0 _ a) (va_cwS 1 ht (gS w_1256 w_279 w_280 w_278) rfl rfl rfl (by decide +kernel) (le2 rfl rfl)) ⟨PP.blind, PP.mk' hK hZ hz hAz hS hPc hDc⟩ rfl rfl hl.1 rfl (lv_room (Nat.le_of_ble_eq_true rfl)) dX15_repair_39 (le2 rfl rfl)) hS (fun q _ h => hFc q h) hFc (fun r u t H locs ht1 hvm hw hB hz1 hk1 hS => ?_)
    obtain ⟨rfl, hw⟩ := hw
    have hP := ro1 hP hk1
    refine lv_iload_n hx hb dX15_repair_42 rfl (lv_at hl 6 rfl) ?_
    refine lv_icmp_gt (tgt := 74) hx hb dX15_repair_43 (by decide) (fun c_2 => ?_) (fun c_2 => ?_)
    · refine lv_iinc (v := 1) (lv' := [(5, .int 1), (7, .int 0), (6, .int 0), (4, .int 0), (3, .int (-1)), (0, .ref (a 200)), (1, .int p0), (2, .int p1)]) hx hb dX15_repair_74 hl (k := 2) rfl (by decide) (by decide) rfl (fun ls hl => ?_)
      refine lv_goto (tgt := 8) hx hb dX15_repair_77 (by decide) ?_
      have loop : ∀ (k i : Nat), 256 = i + k → ∀ (H : Heap) (locs : List Loc), va_P D vwCl [((a 200), f_m a g), ((a 213), .inl (g 6, 8, .inr (.inr (.inr (.inr (fun i => if i < 8 then some (a (216 + i)) else none)))))), ((a 223), .inl (g 3, 8, .inl (fun _ => 0))), ((a 222), .inl (g 3, 8, .inl (fun _ => 0))), ((a 221), .inl (g 3, 8, .inl (fun _ => 0))), ((a 220), .inl (g 3, 8, .inl (fun _ => 0))), ((a 219), .inl (g 3, 8, .inl (fun _ => 0))), ((a 218), .inl (g 3, 8, .inl (fun _ => 0))), ((a 217), .inl (g 3, 8, .inl (fun _ => 0))), ((a 216), .inl (g 3, 8, .inl (fun _ => 0)))] H → va_D (va_A [((a 200), f_m a g), ((a 213), .inl (g 6, 8, .inr (.inr (.inr (.inr (fun i => if i < 8 then some (a (216 + i)) else none)))))), ((a 223), .inl (g 3, 8, .inl (fun _ => 0))), ((a 222), .inl (g 3, 8, .inl (fun _ => 0))), ((a 221), .inl (g 3, 8, .inl (fun _ => 0))), ((a 220), .inl (g 3, 8, .inl (fun _ => 0))), ((a 219), .inl (g 3, 8, .inl (fun _ => 0))), ((a 218), .inl (g 3, 8, .inl (fun _ => 0))), ((a 217), .inl (g 3, 8, .inl (fun _ => 0))), ((a 216), .inl (g 3, 8, .inl (fun _ => 0)))] s.heap.size) [((a 200), f_m a g), ((a 213), .inl (g 6, 8, .inr (.inr (.inr (.inr (fun i => if i < 8 then some (a (216 + i)) else none)))))), ((a 223), .inl (g 3, 8, .inl (fun _ => 0))), ((a 222), .inl (g 3, 8, .inl (fun _ => 0))), ((a 221), .inl (g 3, 8, .inl (fun _ => 0))), ((a 220), .inl (g 3, 8, .inl (fun _ => 0))), ((a 219), .inl (g 3, 8, .inl (fun _ => 0))), ((a 218), .inl (g 3, 8, .inl (fun _ => 0))), ((a 217), .inl (g 3, 8, .inl (fun _ => 0))), ((a 216), .inl (g 3, 8, .inl (fun _ => 0)))] → va_S (va_A [((a 200), f_m a g), ((a 213), .inl (g 6, 8, .inr (.inr (.inr (.inr (fun i => if i < 8 then some (a (216 + i)) else none)))))), ((a 223), .inl (g 3, 8, .inl (fun _ => 0))), ((a 222), .inl (g 3, 8, .inl (fun _ => 0))), ((a 221), .inl (g 3, 8, .inl (fun _ => 0))), ((a 220), .inl (g 3, 8, .inl (fun _ => 0))), ((a 219), .inl (g 3, 8, .inl (fun _ => 0))), ((a 218), .inl (g 3, 8, .inl (fun _ => 0))), ((a 217), .inl (g 3, 8, .inl (fun _ => 0))), ((a 216), .inl (g 3, 8, .inl (fun _ => 0)))] s.heap.size) s.heap H locs → ∀ (ls : Array Slot), lv_has ls 8 [(5, .int (nI i)), (3, .int (-1)), (4, .int 0), (0, .ref (a 200)), (1, .int p0), (2, .int p1)] → W p l e (rmk 1 0 0 24) s m args below meth c H locs 0 0 (MQ below (va_Qi (fun (r : Int32) (u : Int32) => ((r = 0) ∧ (u = 1) ∧ ((p0 < 0) ∨ ((¬ p0 < 0) ∧ (p1 < 0) ∧ ((8 : Int32) < p0)) ∨ ((¬ p0 < 0) ∧ (p1 < 0) ∧ (¬ (8 : Int32) < p0)) ∨ ((¬ p0 < 0) ∧ (¬ p1 < 0) ∧ ((8 : Int32) < p0)) ∨ ((¬ p0 < 0) ∧ (¬ p1 < 0) ∧ (¬ (8 : Int32) < p0) ∧ ((8 : Int32) < p1)))) ∨ ((r = 0) ∧ (u = 0) ∧ ((¬ p0 < 0) ∧ (¬ p1 < 0) ∧ (¬ (8 : Int32) < p0) ∧ (¬ (8 : Int32) < p1)))) (fun (u : Int32) (t : State) => va_P D vwCl [((a 200), .inr (21, [.int u, .ref (a 201), .ref (a 202), .ref (a 203), .ref (a 204), .ref (a 205), .ref (a 206), .int 0, .int 0, .int 0, .int 0, .ref (a 208), .ref (a 209), .ref (a 210), .ref (a 211), .ref (a 212), .int 4, .int 12, .int (-1), .int 0, .ref (g 200), .ref (a 213), .int 0, .int 97, .ref (a 214), .ref (a 215), .ref (a 207), .null, .int 0]))] t.heap ∧ va_D (va_A [((a 200), f_m a g), ((a 213), .inl (g 6, 8, .inr (.inr (.inr (.inr (fun i => if i < 8 then some (a (216 + i)) else none)))))), ((a 223), .inl (g 3, 8, .inl (fun _ => 0))), ((a 222), .inl (g 3, 8, .inl (fun _ => 0))), ((a 221), .inl (g 3, 8, .inl (fun _ => 0))), ((a 220), .inl (g 3, 8, .inl (fun _ => 0))), ((a 219), .inl (g 3, 8, .inl (fun _ => 0))), ((a 218), .inl (g 3, 8, .inl (fun _ => 0))), ((a 217), .inl (g 3, 8, .inl (fun _ => 0))), ((a 216), .inl (g 3, 8, .inl (fun _ => 0)))] s.heap.size) [((a 200), .inr (21, [.int u, .ref (a 201), .ref (a 202), .ref (a 203), .ref (a 204), .ref (a 205), .ref (a 206), .int 0, .int 0, .int 0, .int 0, .ref (a 208), .ref (a 209), .ref (a 210), .ref (a 211), .ref (a 212), .int 4, .int 12, .int (-1), .int 0, .ref (g 200), .ref (a 213), .int 0, .int 97, .ref (a 214), .ref (a 215), .ref (a 207), .null, .int 0]))]) (va_A [((a 200), f_m a g), ((a 213), .inl (g 6, 8, .inr (.inr (.inr (.inr (fun i => if i < 8 then some (a (216 + i)) else none)))))), ((a 223), .inl (g 3, 8, .inl (fun _ => 0))), ((a 222), .inl (g 3, 8, .inl (fun _ => 0))), ((a 221), .inl (g 3, 8, .inl (fun _ => 0))), ((a 220), .inl (g 3, 8, .inl (fun _ => 0))), ((a 219), .inl (g 3, 8, .inl (fun _ => 0))), ((a 218), .inl (g 3, 8, .inl (fun _ => 0))), ((a 217), .inl (g 3, 8, .inl (fun _ => 0))), ((a 216), .inl (g 3, 8, .inl (fun _ => 0)))] s.heap.size)) args s 0 0 (va_A [((a 200), f_m a g), ((a 213), .inl (g 6, 8, .inr (.inr (.inr (.inr (fun i => if i < 8 then some (a (216 + i)) else none)))))), ((a 223), .inl (g 3, 8, .inl (fun _ => 0))), ((a 222), .inl (g 3, 8, .inl (fun _ => 0))), ((a 221), .inl (g 3, 8, .inl (fun _ => 0))), ((a 220), .inl (g 3, 8, .inl (fun _ => 0))), ((a 219), .inl (g 3, 8, .inl (fun _ => 0))), ((a 218), .inl (g 3, 8, .inl (fun _ => 0))), ((a 217), .inl (g 3, 8, .inl (fun _ => 0))), ((a 216), .inl (g 3, 8, .inl (fun _ => 0)))] s.heap.size)) (F0 m 8 ls []) := by
        intro k
        induction k with
        | zero =>
          intro i hi H locs hP hD hS ls hl
          have hi0 : i = 256 := by omega
          refine lv_iload hx hb dX15_repair_8 (lv_at hl 0 rfl) ?_
          refine lv_sipush (v := 256) hx hb dX15_repair_10 (by decide) ?_
          refine lv_icmp_ge (tgt := 80) hx hb dX15_repair_13 (by decide) (fun c_3 => ?_) (fun c_3 => absurd (by rw [hi0]; decide) c_3)
          refine lv_aload_n hx hb dX15_repair_80 rfl (lv_at hl 3 rfl) ?_
          refine lv_iload_n hx hb dX15_repair_81 rfl (lv_at hl 4 rfl) ?_
          refine lv_iconst (v := 0) hx hb dX15_repair_82 (by decide) ?_
          refine lv_bipush (v := 8) hx hb dX15_repair_83 (by decide) ?_
          have hPc : va_P D vwCl [] _ := hP.sub (ws' := []) [] rfl
          have hDc : va_D (fun q => z0 ≤ q) [] := (hD.to hAz).pick (ws' := []) [] (by decide) rfl
          have hFc := AnA (ws := [((a 200), f_m a g), ((a 213), .inl (g 6, 8, .inr (.inr (.inr (.inr (fun i => if i < 8 then some (a (216 + i)) else none)))))), ((a 223), .inl (g 3, 8, .inl (fun _ => 0))), ((a 222), .inl (g 3, 8, .inl (fun _ => 0))), ((a 221), .inl (g 3, 8, .inl (fun _ => 0))), ((a 220), .inl (g 3, 8, .inl (fun _ => 0))), ((a 219), .inl (g 3, 8, .inl (fun _ => 0))), ((a 218), .inl (g 3, 8, .inl (fun _ => 0))), ((a 217), .inl (g 3, 8, .inl (fun _ => 0))), ((a 216), .inl (g 3, 8, .inl (fun _ => 0)))]) hS.1
          refine va_calli (va_runS (As := [.int p0, .int 0, .int 8]) (rest := [.ref (a 200)]) ⟨hx, hb, hml, hown, ht⟩ (k_X15_isBetween_v13 l D g z0 _ a p0) (va_cwS 3 ht (gS w_369 w_371 w_334 w_370) rfl rfl rfl (by decide +kernel) (le2 rfl rfl)) ⟨PP.blind, PP.mk' hK hZ hz hAz hS hPc hDc⟩ rfl rfl hl.1 rfl (lv_room (Nat.le_of_ble_eq_true rfl)) dX15_repair_85 (le2 rfl rfl)) hS (fun q _ h => hFc q h) hFc (fun r u t H locs ht1 hvm hw hB hz1 hk1 hS => ?_)
          rcases hw with hw | hw
          · obtain ⟨rfl, hw⟩ := hw
            rcases hw with hw | hw
            · have c_4 := hw
              have hP := ro1 hP hk1
              refine lv_if_eq (tgt := 101) hx hb dX15_repair_88 (by decide) (fun c_5 => ?_) (fun c_5 => ?_)
              · refine lv_iconst (v := 1) hx hb dX15_repair_101 (by decide) ?_
                refine lv_goto (tgt := 115) hx hb dX15_repair_102 (by decide) ?_
                have hPc : va_P D vwCl [((a 200), f_m a g)] _ := hP.sub (ws' := [((a 200), f_m a g)]) [0] rfl
                have hDc : va_D (fun q => z0 ≤ q) [((a 200), f_m a g)] := (hD.to hAz).pick (ws' := [((a 200), f_m a g)]) [0] (by decide) rfl
                have hFc := va_free (wc := [((a 200), f_m a g)]) hD hS hA [0] rfl
                refine va_calli (va_runV (As := [.int 1]) (rest := []) ⟨hx, hb, hml, hown, ht⟩ (k_X15_isWrong l D g z0 _ a) (cwV 1 ht (gV w_376 w_378 w_379 w_334 w_377) rfl rfl rfl (by decide +kernel) (le2 rfl rfl)) ⟨PP.blind, va_recv hK.1 hP (ci := 21) (q0 := 0) rfl rfl, PP.mk' hK hZ hz hAz hS hPc hDc⟩ rfl rfl hl.1 rfl (lv_room (Nat.le_of_ble_eq_true rfl)) dX15_repair_115 (le2 rfl rfl)) hS (fun q _ h => hFc q h) hFc (fun r u t H locs ht1 hvm hw hB hz1 hk1 hS => ?_)
                obtain ⟨rfl, hw⟩ := hw
                obtain ⟨hP1, hD1⟩ := hB
                rw [ht1] at hP1
                obtain ⟨hP, hD⟩ := va_join (wr := [((a 213), .inl (g 6, 8, .inr (.inr (.inr (.inr (fun i => if i < 8 then some (a (216 + i)) else none)))))), ((a 223), .inl (g 3, 8, .inl (fun _ => 0))), ((a 222), .inl (g 3, 8, .inl (fun _ => 0))), ((a 221), .inl (g 3, 8, .inl (fun _ => 0))), ((a 220), .inl (g 3, 8, .inl (fun _ => 0))), ((a 219), .inl (g 3, 8, .inl (fun _ => 0))), ((a 218), .inl (g 3, 8, .inl (fun _ => 0))), ((a 217), .inl (g 3, 8, .inl (fun _ => 0))), ((a 216), .inl (g 3, 8, .inl (fun _ => 0)))]) (w1 := [((a 200), .inr (21, [.int 1, .ref (a 201), .ref (a 202), .ref (a 203), .ref (a 204), .ref (a 205), .ref (a 206), .int 0, .int 0, .int 0, .int 0, .ref (a 208), .ref (a 209), .ref (a 210), .ref (a 211), .ref (a 212), .int 4, .int 12, .int (-1), .int 0, .ref (g 200), .ref (a 213), .int 0, .int 97, .ref (a 214), .ref (a 215), .ref (a 207), .null, .int 0]))]) hP hD [0] [1, 2, 3, 4, 5, 6, 7, 8, 9] rfl rfl (by decide) (by decide) hk1 hFc hP1 hD1
                have hP : va_P D vwCl [((a 213), .inl (g 6, 8, .inr (.inr (.inr (.inr (fun i => if i < 8 then some (a (216 + i)) else none)))))), ((a 223), .inl (g 3, 8, .inl (fun _ => 0))), ((a 222), .inl (g 3, 8, .inl (fun _ => 0))), ((a 221), .inl (g 3, 8, .inl (fun _ => 0))), ((a 220), .inl (g 3, 8, .inl (fun _ => 0))), ((a 219), .inl (g 3, 8, .inl (fun _ => 0))), ((a 218), .inl (g 3, 8, .inl (fun _ => 0))), ((a 217), .inl (g 3, 8, .inl (fun _ => 0))), ((a 216), .inl (g 3, 8, .inl (fun _ => 0))), ((a 200), .inr (21, [.int 1, .ref (a 201), .ref (a 202), .ref (a 203), .ref (a 204), .ref (a 205), .ref (a 206), .int 0, .int 0, .int 0, .int 0, .ref (a 208), .ref (a 209), .ref (a 210), .ref (a 211), .ref (a 212), .int 4, .int 12, .int (-1), .int 0, .ref (g 200), .ref (a 213), .int 0, .int 97, .ref (a 214), .ref (a 215), .ref (a 207), .null, .int 0]))] H := hP
                have hD : va_D (va_A [((a 200), f_m a g), ((a 213), .inl (g 6, 8, .inr (.inr (.inr (.inr (fun i => if i < 8 then some (a (216 + i)) else none)))))), ((a 223), .inl (g 3, 8, .inl (fun _ => 0))), ((a 222), .inl (g 3, 8, .inl (fun _ => 0))), ((a 221), .inl (g 3, 8, .inl (fun _ => 0))), ((a 220), .inl (g 3, 8, .inl (fun _ => 0))), ((a 219), .inl (g 3, 8, .inl (fun _ => 0))), ((a 218), .inl (g 3, 8, .inl (fun _ => 0))), ((a 217), .inl (g 3, 8, .inl (fun _ => 0))), ((a 216), .inl (g 3, 8, .inl (fun _ => 0)))] s.heap.size) [((a 213), .inl (g 6, 8, .inr (.inr (.inr (.inr (fun i => if i < 8 then some (a (216 + i)) else none)))))), ((a 223), .inl (g 3, 8, .inl (fun _ => 0))), ((a 222), .inl (g 3, 8, .inl (fun _ => 0))), ((a 221), .inl (g 3, 8, .inl (fun _ => 0))), ((a 220), .inl (g 3, 8, .inl (fun _ => 0))), ((a 219), .inl (g 3, 8, .inl (fun _ => 0))), ((a 218), .inl (g 3, 8, .inl (fun _ => 0))), ((a 217), .inl (g 3, 8, .inl (fun _ => 0))), ((a 216), .inl (g 3, 8, .inl (fun _ => 0))), ((a 200), .inr (21, [.int 1, .ref (a 201), .ref (a 202), .ref (a 203), .ref (a 204), .ref (a 205), .ref (a 206), .int 0, .int 0, .int 0, .int 0, .ref (a 208), .ref (a 209), .ref (a 210), .ref (a 211), .ref (a 212), .int 4, .int 12, .int (-1), .int 0, .ref (g 200), .ref (a 213), .int 0, .int 97, .ref (a 214), .ref (a 215), .ref (a 207), .null, .int 0]))] := hD
                refine lv_if_eq (tgt := 125) hx hb dX15_repair_118 (by decide) (fun c_6 => ?_) (fun c_6 => ?_)
                · exact absurd c_6 (by decide)
                · refine lv_iconst (v := 0) hx hb dX15_repair_121 (by decide) ?_
                  refine lv_goto (tgt := 126) hx hb dX15_repair_122 (by decide) ?_
                  have hP9 := hP.sub (ws' := [((a 200), .inr (21, [.int 1, .ref (a 201), .ref (a 202), .ref (a 203), .ref (a 204), .ref (a 205), .ref (a 206), .int 0, .int 0, .int 0, .int 0, .ref (a 208), .ref (a 209), .ref (a 210), .ref (a 211), .ref (a 212), .int 4, .int 12, .int (-1), .int 0, .ref (g 200), .ref (a 213), .int 0, .int 97, .ref (a 214), .ref (a 215), .ref (a 207), .null, .int 0]))]) [9] rfl
                  have hD9 := hD.sub (ws' := [((a 200), .inr (21, [.int 1, .ref (a 201), .ref (a 202), .ref (a 203), .ref (a 204), .ref (a 205), .ref (a 206), .int 0, .int 0, .int 0, .int 0, .ref (a 208), .ref (a 209), .ref (a 210), .ref (a 211), .ref (a 212), .int 4, .int 12, .int (-1), .int 0, .ref (g 200), .ref (a 213), .int 0, .int 97, .ref (a 214), .ref (a 215), .ref (a 207), .null, .int 0]))]) [9] (by decide) rfl
                  refine W.widen (k := 0) (n := 0) (Nat.le_of_ble_eq_true rfl) (Nat.le_of_ble_eq_true rfl) ?_
                  exact W.iret (v := 0) hx hb hr (fun t ht9 hW9 => ⟨⟨0, 1, rfl, (Or.inl ⟨rfl, rfl, (Or.inl c_2)⟩), ⟨(by rw [ht9]; exact hP9), hD9⟩⟩, hS.F ht9⟩) hS.2.2 dX15_repair_126 hlocks
              · exact absurd c_5 (by decide)
            · obtain ⟨c_7, c_8⟩ := hw
              exact absurd c_2 c_7
          · obtain ⟨rfl, hw⟩ := hw
            obtain ⟨c_9, c_10⟩ := hw
            exact absurd c_2 c_9
        | succ k ih =>
          intro i hi H locs hP hD hS ls hl
          have hlt : i < 256 := by omega
          refine lv_iload hx hb dX15_repair_8 (lv_at hl 0 rfl) ?_
          refine lv_sipush (v := 256) hx hb dX15_repair_10 (by decide) ?_
          refine lv_icmp_ge (tgt := 80) hx hb dX15_repair_13 (by decide) (fun c_11 => absurd c_11 (nI_ge hlt (by decide))) (fun c_11 => ?_)
          refine lv_aload_n hx hb dX15_repair_16 rfl (lv_at hl 3 rfl) ?_
          refine lv_iload hx hb dX15_repair_17 (lv_at hl 0 rfl) ?_
          have hPc : va_P D vwCl [((a 200), f_m a g), ((a 213), .inl (g 6, 8, .inr (.inr (.inr (.inr (fun i => if i < 8 then some (a (216 + i)) else none)))))), ((a 223), .inl (g 3, 8, .inl (fun _ => 0))), ((a 222), .inl (g 3, 8, .inl (fun _ => 0))), ((a 221), .inl (g 3, 8, .inl (fun _ => 0))), ((a 220), .inl (g 3, 8, .inl (fun _ => 0))), ((a 219), .inl (g 3, 8, .inl (fun _ => 0))), ((a 218), .inl (g 3, 8, .inl (fun _ => 0))), ((a 217), .inl (g 3, 8, .inl (fun _ => 0))), ((a 216), .inl (g 3, 8, .inl (fun _ => 0)))] _ := hP.sub (ws' := [((a 200), f_m a g), ((a 213), .inl (g 6, 8, .inr (.inr (.inr (.inr (fun i => if i < 8 then some (a (216 + i)) else none)))))), ((a 223), .inl (g 3, 8, .inl (fun _ => 0))), ((a 222), .inl (g 3, 8, .inl (fun _ => 0))), ((a 221), .inl (g 3, 8, .inl (fun _ => 0))), ((a 220), .inl (g 3, 8, .inl (fun _ => 0))), ((a 219), .inl (g 3, 8, .inl (fun _ => 0))), ((a 218), .inl (g 3, 8, .inl (fun _ => 0))), ((a 217), .inl (g 3, 8, .inl (fun _ => 0))), ((a 216), .inl (g 3, 8, .inl (fun _ => 0)))]) [0, 1, 2, 3, 4, 5, 6, 7, 8, 9] rfl
          have hDc : va_D (fun q => z0 ≤ q) [((a 200), f_m a g), ((a 213), .inl (g 6, 8, .inr (.inr (.inr (.inr (fun i => if i < 8 then some (a (216 + i)) else none)))))), ((a 223), .inl (g 3, 8, .inl (fun _ => 0))), ((a 222), .inl (g 3, 8, .inl (fun _ => 0))), ((a 221), .inl (g 3, 8, .inl (fun _ => 0))), ((a 220), .inl (g 3, 8, .inl (fun _ => 0))), ((a 219), .inl (g 3, 8, .inl (fun _ => 0))), ((a 218), .inl (g 3, 8, .inl (fun _ => 0))), ((a 217), .inl (g 3, 8, .inl (fun _ => 0))), ((a 216), .inl (g 3, 8, .inl (fun _ => 0)))] := (hD.to hAz).pick (ws' := [((a 200), f_m a g), ((a 213), .inl (g 6, 8, .inr (.inr (.inr (.inr (fun i => if i < 8 then some (a (216 + i)) else none)))))), ((a 223), .inl (g 3, 8, .inl (fun _ => 0))), ((a 222), .inl (g 3, 8, .inl (fun _ => 0))), ((a 221), .inl (g 3, 8, .inl (fun _ => 0))), ((a 220), .inl (g 3, 8, .inl (fun _ => 0))), ((a 219), .inl (g 3, 8, .inl (fun _ => 0))), ((a 218), .inl (g 3, 8, .inl (fun _ => 0))), ((a 217), .inl (g 3, 8, .inl (fun _ => 0))), ((a 216), .inl (g 3, 8, .inl (fun _ => 0)))]) [0, 1, 2, 3, 4, 5, 6, 7, 8, 9] (by decide) rfl
          have hFc := AnA (ws := [((a 200), f_m a g), ((a 213), .inl (g 6, 8, .inr (.inr (.inr (.inr (fun i => if i < 8 then some (a (216 + i)) else none)))))), ((a 223), .inl (g 3, 8, .inl (fun _ => 0))), ((a 222), .inl (g 3, 8, .inl (fun _ => 0))), ((a 221), .inl (g 3, 8, .inl (fun _ => 0))), ((a 220), .inl (g 3, 8, .inl (fun _ => 0))), ((a 219), .inl (g 3, 8, .inl (fun _ => 0))), ((a 218), .inl (g 3, 8, .inl (fun _ => 0))), ((a 217), .inl (g 3, 8, .inl (fun _ => 0))), ((a 216), .inl (g 3, 8, .inl (fun _ => 0)))]) hS.1
          refine va_calli (va_runV (As := [.int (nI i)]) (rest := []) ⟨hx, hb, hml, hown, ht⟩ (k_X15_columnsFor_v1 l D g z0 _ a (nI i)) (cwV 1 ht (gV w_1281 w_1283 w_1284 w_334 w_1282) rfl rfl rfl (by decide +kernel) (le2 rfl rfl)) ⟨PP.blind, va_recv hK.1 hP (ci := 21) (q0 := 0) rfl rfl, PP.mk' hK hZ hz hAz hS hPc hDc⟩ rfl rfl hl.1 rfl (lv_room (Nat.le_of_ble_eq_true rfl)) dX15_repair_19 (le2 rfl rfl)) hS (fun q _ h => hFc q h) hFc (fun r u t H locs ht1 hvm hw hB hz1 hk1 hS => ?_)
          obtain ⟨rfl, hw⟩ := hw
          have hP := ro1 hP hk1
          have hPc : va_P D vwCl [] _ := hP.sub (ws' := []) [] rfl
          have hDc : va_D (fun q => z0 ≤ q) [] := (hD.to hAz).pick (ws' := []) [] (by decide) rfl
          have hFc := AnA (ws := [((a 200), f_m a g), ((a 213), .inl (g 6, 8, .inr (.inr (.inr (.inr (fun i => if i < 8 then some (a (216 + i)) else none)))))), ((a 223), .inl (g 3, 8, .inl (fun _ => 0))), ((a 222), .inl (g 3, 8, .inl (fun _ => 0))), ((a 221), .inl (g 3, 8, .inl (fun _ => 0))), ((a 220), .inl (g 3, 8, .inl (fun _ => 0))), ((a 219), .inl (g 3, 8, .inl (fun _ => 0))), ((a 218), .inl (g 3, 8, .inl (fun _ => 0))), ((a 217), .inl (g 3, 8, .inl (fun _ => 0))), ((a 216), .inl (g 3, 8, .inl (fun _ => 0)))]) hS.1
          refine va_calli (va_runS (As := [.int 0]) (rest := []) ⟨hx, hb, hml, hown, ht⟩ (k_J6_bitCount_0f7a4 l D g z0 _ a) (va_cwS 1 ht (gS w_1256 w_279 w_280 w_278) rfl rfl rfl (by decide +kernel) (le2 rfl rfl)) ⟨PP.blind, PP.mk' hK hZ hz hAz hS hPc hDc⟩ rfl rfl hl.1 rfl (lv_room (Nat.le_of_ble_eq_true rfl)) dX15_repair_22 (le2 rfl rfl)) hS (fun q _ h => hFc q h) hFc (fun r u t H locs ht1 hvm hw hB hz1 hk1 hS => ?_)
          obtain ⟨rfl, hw⟩ := hw
          have hP := ro1 hP hk1
          refine lv_istore (lv' := [(6, .int 0), (5, .int (nI i)), (3, .int (-1)), (4, .int 0), (0, .ref (a 200)), (1, .int p0), (2, .int p1)]) hx hb dX15_repair_25 hl (by decide) rfl (fun ls hl => ?_)
          refine lv_iload hx hb dX15_repair_27 (lv_at hl 1 rfl) ?_
          have hPc : va_P D vwCl [] _ := hP.sub (ws' := []) [] rfl
          have hDc : va_D (fun q => z0 ≤ q) [] := (hD.to hAz).pick (ws' := []) [] (by decide) rfl
          have hFc := AnA (ws := [((a 200), f_m a g), ((a 213), .inl (g 6, 8, .inr (.inr (.inr (.inr (fun i => if i < 8 then some (a (216 + i)) else none)))))), ((a 223), .inl (g 3, 8, .inl (fun _ => 0))), ((a 222), .inl (g 3, 8, .inl (fun _ => 0))), ((a 221), .inl (g 3, 8, .inl (fun _ => 0))), ((a 220), .inl (g 3, 8, .inl (fun _ => 0))), ((a 219), .inl (g 3, 8, .inl (fun _ => 0))), ((a 218), .inl (g 3, 8, .inl (fun _ => 0))), ((a 217), .inl (g 3, 8, .inl (fun _ => 0))), ((a 216), .inl (g 3, 8, .inl (fun _ => 0)))]) hS.1
          refine va_calli (va_runS (As := [.int (nI i)]) (rest := []) ⟨hx, hb, hml, hown, ht⟩ (k_J6_bitCount_0f7a4_v1 l D g z0 _ a (nI i)) (va_cwS 1 ht (gS w_1256 w_279 w_280 w_278) rfl rfl rfl (by decide +kernel) (le2 rfl rfl)) ⟨PP.blind, PP.mk' hK hZ hz hAz hS hPc hDc⟩ rfl rfl hl.1 rfl (lv_room (Nat.le_of_ble_eq_true rfl)) dX15_repair_29 (le2 rfl rfl)) hS (fun q _ h => hFc q h) hFc (fun r u t H locs ht1 hvm hw hB hz1 hk1 hS => ?_)
          obtain ⟨rfl, hw⟩ := hw
          have hP := ro1 hP hk1
          refine lv_iload hx hb dX15_repair_32 (lv_at hl 0 rfl) ?_
          refine lv_iadd hx hb dX15_repair_34 ?_
          refine lv_istore (lv' := [(7, .int ((zBits (nI i)) + 0)), (6, .int 0), (5, .int (nI i)), (3, .int (-1)), (4, .int 0), (0, .ref (a 200)), (1, .int p0), (2, .int p1)]) hx hb dX15_repair_35 hl (by decide) rfl (fun ls hl => ?_)
          refine lv_iload hx hb dX15_repair_37 (lv_at hl 2 rfl) ?_
          have hPc : va_P D vwCl [] _ := hP.sub (ws' := []) [] rfl
          have hDc : va_D (fun q => z0 ≤ q) [] := (hD.to hAz).pick (ws' := []) [] (by decide) rfl
          have hFc := AnA (ws := [((a 200), f_m a g), ((a 213), .inl (g 6, 8, .inr (.inr (.inr (.inr (fun i => if i < 8 then some (a (216 + i)) else none)))))), ((a 223), .inl (g 3, 8, .inl (fun _ => 0))), ((a 222), .inl (g 3, 8, .inl (fun _ => 0))), ((a 221), .inl (g 3, 8, .inl (fun _ => 0))), ((a 220), .inl (g 3, 8, .inl (fun _ => 0))), ((a 219), .inl (g 3, 8, .inl (fun _ => 0))), ((a 218), .inl (g 3, 8, .inl (fun _ => 0))), ((a 217), .inl (g 3, 8, .inl (fun _ => 0))), ((a 216), .inl (g 3, 8, .inl (fun _ => 0)))]) hS.1
          refine va_calli (va_runS (As := [.int (nI i)]) (rest := []) ⟨hx, hb, hml, hown, ht⟩ (k_J6_bitCount_0f7a4_v1 l D g z0 _ a (nI i)) (va_cwS 1 ht (gS w_1256 w_279 w_280 w_278) rfl rfl rfl (by decide +kernel) (le2 rfl rfl)) ⟨PP.blind, PP.mk' hK hZ hz hAz hS hPc hDc⟩ rfl rfl hl.1 rfl (lv_room (Nat.le_of_ble_eq_true rfl)) dX15_repair_39 (le2 rfl rfl)) hS (fun q _ h => hFc q h) hFc (fun r u t H locs ht1 hvm hw hB hz1 hk1 hS => ?_)
          obtain ⟨rfl, hw⟩ := hw
          have hP := ro1 hP hk1
          refine lv_iload_n hx hb dX15_repair_42 rfl (lv_at hl 6 rfl) ?_
          refine lv_icmp_gt (tgt := 74) hx hb dX15_repair_43 (by decide) (fun c_12 => ?_) (fun c_12 => ?_)
          · refine lv_iinc (v := nI (i + 1)) (lv' := [(5, .int (nI (i + 1))), (7, .int ((zBits (nI i)) + 0)), (6, .int 0), (3, .int (-1)), (4, .int 0), (0, .ref (a 200)), (1, .int p0), (2, .int p1)]) hx hb dX15_repair_74 hl (k := 2) rfl (nI_1 i) (by decide) rfl (fun ls hl => ?_)
            refine lv_goto (tgt := 8) hx hb dX15_repair_77 (by decide) ?_
            exact ih (i + 1) (by omega) H locs hP hD hS ls (lv_sub hl [0, 3, 4, 5, 6, 7] rfl)
          · exact (zB_neg c_2 c_12).elim
      exact loop (256 - 1) 1 (by omega) _ _ hP hD hS ls (lv_sub hl [0, 4, 3, 5, 6, 7] rfl)
    · refine lv_iload hx hb dX15_repair_46 (lv_at hl 1 rfl) ?_
      refine lv_iload_n hx hb dX15_repair_48 rfl (lv_at hl 7 rfl) ?_
      refine lv_icmp_gt (tgt := 74) hx hb dX15_repair_49 (by decide) (fun c_13 => ?_) (fun c_13 => ?_)
      · refine lv_iinc (v := 1) (lv' := [(5, .int 1), (7, .int 0), (6, .int 0), (4, .int 0), (3, .int (-1)), (0, .ref (a 200)), (1, .int p0), (2, .int p1)]) hx hb dX15_repair_74 hl (k := 2) rfl (by decide) (by decide) rfl (fun ls hl => ?_)
        refine lv_goto (tgt := 8) hx hb dX15_repair_77 (by decide) ?_
        have loop : ∀ (k i : Nat), 256 = i + k → ∀ (H : Heap) (locs : List Loc), va_P D vwCl [((a 200), f_m a g), ((a 213), .inl (g 6, 8, .inr (.inr (.inr (.inr (fun i => if i < 8 then some (a (216 + i)) else none)))))), ((a 223), .inl (g 3, 8, .inl (fun _ => 0))), ((a 222), .inl (g 3, 8, .inl (fun _ => 0))), ((a 221), .inl (g 3, 8, .inl (fun _ => 0))), ((a 220), .inl (g 3, 8, .inl (fun _ => 0))), ((a 219), .inl (g 3, 8, .inl (fun _ => 0))), ((a 218), .inl (g 3, 8, .inl (fun _ => 0))), ((a 217), .inl (g 3, 8, .inl (fun _ => 0))), ((a 216), .inl (g 3, 8, .inl (fun _ => 0)))] H → va_D (va_A [((a 200), f_m a g), ((a 213), .inl (g 6, 8, .inr (.inr (.inr (.inr (fun i => if i < 8 then some (a (216 + i)) else none)))))), ((a 223), .inl (g 3, 8, .inl (fun _ => 0))), ((a 222), .inl (g 3, 8, .inl (fun _ => 0))), ((a 221), .inl (g 3, 8, .inl (fun _ => 0))), ((a 220), .inl (g 3, 8, .inl (fun _ => 0))), ((a 219), .inl (g 3, 8, .inl (fun _ => 0))), ((a 218), .inl (g 3, 8, .inl (fun _ => 0))), ((a 217), .inl (g 3, 8, .inl (fun _ => 0))), ((a 216), .inl (g 3, 8, .inl (fun _ => 0)))] s.heap.size) [((a 200), f_m a g), ((a 213), .inl (g 6, 8, .inr (.inr (.inr (.inr (fun i => if i < 8 then some (a (216 + i)) else none)))))), ((a 223), .inl (g 3, 8, .inl (fun _ => 0))), ((a 222), .inl (g 3, 8, .inl (fun _ => 0))), ((a 221), .inl (g 3, 8, .inl (fun _ => 0))), ((a 220), .inl (g 3, 8, .inl (fun _ => 0))), ((a 219), .inl (g 3, 8, .inl (fun _ => 0))), ((a 218), .inl (g 3, 8, .inl (fun _ => 0))), ((a 217), .inl (g 3, 8, .inl (fun _ => 0))), ((a 216), .inl (g 3, 8, .inl (fun _ => 0)))] → va_S (va_A [((a 200), f_m a g), ((a 213), .inl (g 6, 8, .inr (.inr (.inr (.inr (fun i => if i < 8 then some (a (216 + i)) else none)))))), ((a 223), .inl (g 3, 8, .inl (fun _ => 0))), ((a 222), .inl (g 3, 8, .inl (fun _ => 0))), ((a 221), .inl (g 3, 8, .inl (fun _ => 0))), ((a 220), .inl (g 3, 8, .inl (fun _ => 0))), ((a 219), .inl (g 3, 8, .inl (fun _ => 0))), ((a 218), .inl (g 3, 8, .inl (fun _ => 0))), ((a 217), .inl (g 3, 8, .inl (fun _ => 0))), ((a 216), .inl (g 3, 8, .inl (fun _ => 0)))] s.heap.size) s.heap H locs → ∀ (ls : Array Slot), lv_has ls 8 [(5, .int (nI i)), (3, .int (-1)), (4, .int 0), (0, .ref (a 200)), (1, .int p0), (2, .int p1)] → W p l e (rmk 1 0 0 24) s m args below meth c H locs 0 0 (MQ below (va_Qi (fun (r : Int32) (u : Int32) => ((r = 0) ∧ (u = 1) ∧ ((p0 < 0) ∨ ((¬ p0 < 0) ∧ (p1 < 0) ∧ ((8 : Int32) < p0)) ∨ ((¬ p0 < 0) ∧ (p1 < 0) ∧ (¬ (8 : Int32) < p0)) ∨ ((¬ p0 < 0) ∧ (¬ p1 < 0) ∧ ((8 : Int32) < p0)) ∨ ((¬ p0 < 0) ∧ (¬ p1 < 0) ∧ (¬ (8 : Int32) < p0) ∧ ((8 : Int32) < p1)))) ∨ ((r = 0) ∧ (u = 0) ∧ ((¬ p0 < 0) ∧ (¬ p1 < 0) ∧ (¬ (8 : Int32) < p0) ∧ (¬ (8 : Int32) < p1)))) (fun (u : Int32) (t : State) => va_P D vwCl [((a 200), .inr (21, [.int u, .ref (a 201), .ref (a 202), .ref (a 203), .ref (a 204), .ref (a 205), .ref (a 206), .int 0, .int 0, .int 0, .int 0, .ref (a 208), .ref (a 209), .ref (a 210), .ref (a 211), .ref (a 212), .int 4, .int 12, .int (-1), .int 0, .ref (g 200), .ref (a 213), .int 0, .int 97, .ref (a 214), .ref (a 215), .ref (a 207), .null, .int 0]))] t.heap ∧ va_D (va_A [((a 200), f_m a g), ((a 213), .inl (g 6, 8, .inr (.inr (.inr (.inr (fun i => if i < 8 then some (a (216 + i)) else none)))))), ((a 223), .inl (g 3, 8, .inl (fun _ => 0))), ((a 222), .inl (g 3, 8, .inl (fun _ => 0))), ((a 221), .inl (g 3, 8, .inl (fun _ => 0))), ((a 220), .inl (g 3, 8, .inl (fun _ => 0))), ((a 219), .inl (g 3, 8, .inl (fun _ => 0))), ((a 218), .inl (g 3, 8, .inl (fun _ => 0))), ((a 217), .inl (g 3, 8, .inl (fun _ => 0))), ((a 216), .inl (g 3, 8, .inl (fun _ => 0)))] s.heap.size) [((a 200), .inr (21, [.int u, .ref (a 201), .ref (a 202), .ref (a 203), .ref (a 204), .ref (a 205), .ref (a 206), .int 0, .int 0, .int 0, .int 0, .ref (a 208), .ref (a 209), .ref (a 210), .ref (a 211), .ref (a 212), .int 4, .int 12, .int (-1), .int 0, .ref (g 200), .ref (a 213), .int 0, .int 97, .ref (a 214), .ref (a 215), .ref (a 207), .null, .int 0]))]) (va_A [((a 200), f_m a g), ((a 213), .inl (g 6, 8, .inr (.inr (.inr (.inr (fun i => if i < 8 then some (a (216 + i)) else none)))))), ((a 223), .inl (g 3, 8, .inl (fun _ => 0))), ((a 222), .inl (g 3, 8, .inl (fun _ => 0))), ((a 221), .inl (g 3, 8, .inl (fun _ => 0))), ((a 220), .inl (g 3, 8, .inl (fun _ => 0))), ((a 219), .inl (g 3, 8, .inl (fun _ => 0))), ((a 218), .inl (g 3, 8, .inl (fun _ => 0))), ((a 217), .inl (g 3, 8, .inl (fun _ => 0))), ((a 216), .inl (g 3, 8, .inl (fun _ => 0)))] s.heap.size)) args s 0 0 (va_A [((a 200), f_m a g), ((a 213), .inl (g 6, 8, .inr (.inr (.inr (.inr (fun i => if i < 8 then some (a (216 + i)) else none)))))), ((a 223), .inl (g 3, 8, .inl (fun _ => 0))), ((a 222), .inl (g 3, 8, .inl (fun _ => 0))), ((a 221), .inl (g 3, 8, .inl (fun _ => 0))), ((a 220), .inl (g 3, 8, .inl (fun _ => 0))), ((a 219), .inl (g 3, 8, .inl (fun _ => 0))), ((a 218), .inl (g 3, 8, .inl (fun _ => 0))), ((a 217), .inl (g 3, 8, .inl (fun _ => 0))), ((a 216), .inl (g 3, 8, .inl (fun _ => 0)))] s.heap.size)) (F0 m 8 ls []) := by
          intro k
          induction k with
          | zero =>
            intro i hi H locs hP hD hS ls hl
            have hi0 : i = 256 := by omega
            refine lv_iload hx hb dX15_repair_8 (lv_at hl 0 rfl) ?_
            refine lv_sipush (v := 256) hx hb dX15_repair_10 (by decide) ?_
            refine lv_icmp_ge (tgt := 80) hx hb dX15_repair_13 (by decide) (fun c_14 => ?_) (fun c_14 => absurd (by rw [hi0]; decide) c_14)
            refine lv_aload_n hx hb dX15_repair_80 rfl (lv_at hl 3 rfl) ?_
            refine lv_iload_n hx hb dX15_repair_81 rfl (lv_at hl 4 rfl) ?_
            refine lv_iconst (v := 0) hx hb dX15_repair_82 (by decide) ?_
            refine lv_bipush (v := 8) hx hb dX15_repair_83 (by decide) ?_
            have hPc : va_P D vwCl [] _ := hP.sub (ws' := []) [] rfl
            have hDc : va_D (fun q => z0 ≤ q) [] := (hD.to hAz).pick (ws' := []) [] (by decide) rfl
            have hFc := AnA (ws := [((a 200), f_m a g), ((a 213), .inl (g 6, 8, .inr (.inr (.inr (.inr (fun i => if i < 8 then some (a (216 + i)) else none)))))), ((a 223), .inl (g 3, 8, .inl (fun _ => 0))), ((a 222), .inl (g 3, 8, .inl (fun _ => 0))), ((a 221), .inl (g 3, 8, .inl (fun _ => 0))), ((a 220), .inl (g 3, 8, .inl (fun _ => 0))), ((a 219), .inl (g 3, 8, .inl (fun _ => 0))), ((a 218), .inl (g 3, 8, .inl (fun _ => 0))), ((a 217), .inl (g 3, 8, .inl (fun _ => 0))), ((a 216), .inl (g 3, 8, .inl (fun _ => 0)))]) hS.1
            refine va_calli (va_runS (As := [.int p0, .int 0, .int 8]) (rest := [.ref (a 200)]) ⟨hx, hb, hml, hown, ht⟩ (k_X15_isBetween_v13 l D g z0 _ a p0) (va_cwS 3 ht (gS w_369 w_371 w_334 w_370) rfl rfl rfl (by decide +kernel) (le2 rfl rfl)) ⟨PP.blind, PP.mk' hK hZ hz hAz hS hPc hDc⟩ rfl rfl hl.1 rfl (lv_room (Nat.le_of_ble_eq_true rfl)) dX15_repair_85 (le2 rfl rfl)) hS (fun q _ h => hFc q h) hFc (fun r u t H locs ht1 hvm hw hB hz1 hk1 hS => ?_)
            rcases hw with hw | hw
            · obtain ⟨rfl, hw⟩ := hw
              rcases hw with hw | hw
              · have c_15 := hw
                exact absurd c_15 c_2
              · obtain ⟨c_16, c_17⟩ := hw
                have hP := ro1 hP hk1
                refine lv_if_eq (tgt := 101) hx hb dX15_repair_88 (by decide) (fun c_18 => ?_) (fun c_18 => ?_)
                · refine lv_iconst (v := 1) hx hb dX15_repair_101 (by decide) ?_
                  refine lv_goto (tgt := 115) hx hb dX15_repair_102 (by decide) ?_
                  have hPc : va_P D vwCl [((a 200), f_m a g)] _ := hP.sub (ws' := [((a 200), f_m a g)]) [0] rfl
                  have hDc : va_D (fun q => z0 ≤ q) [((a 200), f_m a g)] := (hD.to hAz).pick (ws' := [((a 200), f_m a g)]) [0] (by decide) rfl
                  have hFc := va_free (wc := [((a 200), f_m a g)]) hD hS hA [0] rfl
                  refine va_calli (va_runV (As := [.int 1]) (rest := []) ⟨hx, hb, hml, hown, ht⟩ (k_X15_isWrong l D g z0 _ a) (cwV 1 ht (gV w_376 w_378 w_379 w_334 w_377) rfl rfl rfl (by decide +kernel) (le2 rfl rfl)) ⟨PP.blind, va_recv hK.1 hP (ci := 21) (q0 := 0) rfl rfl, PP.mk' hK hZ hz hAz hS hPc hDc⟩ rfl rfl hl.1 rfl (lv_room (Nat.le_of_ble_eq_true rfl)) dX15_repair_115 (le2 rfl rfl)) hS (fun q _ h => hFc q h) hFc (fun r u t H locs ht1 hvm hw hB hz1 hk1 hS => ?_)
                  obtain ⟨rfl, hw⟩ := hw
                  obtain ⟨hP1, hD1⟩ := hB
                  rw [ht1] at hP1
                  obtain ⟨hP, hD⟩ := va_join (wr := [((a 213), .inl (g 6, 8, .inr (.inr (.inr (.inr (fun i => if i < 8 then some (a (216 + i)) else none)))))), ((a 223), .inl (g 3, 8, .inl (fun _ => 0))), ((a 222), .inl (g 3, 8, .inl (fun _ => 0))), ((a 221), .inl (g 3, 8, .inl (fun _ => 0))), ((a 220), .inl (g 3, 8, .inl (fun _ => 0))), ((a 219), .inl (g 3, 8, .inl (fun _ => 0))), ((a 218), .inl (g 3, 8, .inl (fun _ => 0))), ((a 217), .inl (g 3, 8, .inl (fun _ => 0))), ((a 216), .inl (g 3, 8, .inl (fun _ => 0)))]) (w1 := [((a 200), .inr (21, [.int 1, .ref (a 201), .ref (a 202), .ref (a 203), .ref (a 204), .ref (a 205), .ref (a 206), .int 0, .int 0, .int 0, .int 0, .ref (a 208), .ref (a 209), .ref (a 210), .ref (a 211), .ref (a 212), .int 4, .int 12, .int (-1), .int 0, .ref (g 200), .ref (a 213), .int 0, .int 97, .ref (a 214), .ref (a 215), .ref (a 207), .null, .int 0]))]) hP hD [0] [1, 2, 3, 4, 5, 6, 7, 8, 9] rfl rfl (by decide) (by decide) hk1 hFc hP1 hD1
                  have hP : va_P D vwCl [((a 213), .inl (g 6, 8, .inr (.inr (.inr (.inr (fun i => if i < 8 then some (a (216 + i)) else none)))))), ((a 223), .inl (g 3, 8, .inl (fun _ => 0))), ((a 222), .inl (g 3, 8, .inl (fun _ => 0))), ((a 221), .inl (g 3, 8, .inl (fun _ => 0))), ((a 220), .inl (g 3, 8, .inl (fun _ => 0))), ((a 219), .inl (g 3, 8, .inl (fun _ => 0))), ((a 218), .inl (g 3, 8, .inl (fun _ => 0))), ((a 217), .inl (g 3, 8, .inl (fun _ => 0))), ((a 216), .inl (g 3, 8, .inl (fun _ => 0))), ((a 200), .inr (21, [.int 1, .ref (a 201), .ref (a 202), .ref (a 203), .ref (a 204), .ref (a 205), .ref (a 206), .int 0, .int 0, .int 0, .int 0, .ref (a 208), .ref (a 209), .ref (a 210), .ref (a 211), .ref (a 212), .int 4, .int 12, .int (-1), .int 0, .ref (g 200), .ref (a 213), .int 0, .int 97, .ref (a 214), .ref (a 215), .ref (a 207), .null, .int 0]))] H := hP
                  have hD : va_D (va_A [((a 200), f_m a g), ((a 213), .inl (g 6, 8, .inr (.inr (.inr (.inr (fun i => if i < 8 then some (a (216 + i)) else none)))))), ((a 223), .inl (g 3, 8, .inl (fun _ => 0))), ((a 222), .inl (g 3, 8, .inl (fun _ => 0))), ((a 221), .inl (g 3, 8, .inl (fun _ => 0))), ((a 220), .inl (g 3, 8, .inl (fun _ => 0))), ((a 219), .inl (g 3, 8, .inl (fun _ => 0))), ((a 218), .inl (g 3, 8, .inl (fun _ => 0))), ((a 217), .inl (g 3, 8, .inl (fun _ => 0))), ((a 216), .inl (g 3, 8, .inl (fun _ => 0)))] s.heap.size) [((a 213), .inl (g 6, 8, .inr (.inr (.inr (.inr (fun i => if i < 8 then some (a (216 + i)) else none)))))), ((a 223), .inl (g 3, 8, .inl (fun _ => 0))), ((a 222), .inl (g 3, 8, .inl (fun _ => 0))), ((a 221), .inl (g 3, 8, .inl (fun _ => 0))), ((a 220), .inl (g 3, 8, .inl (fun _ => 0))), ((a 219), .inl (g 3, 8, .inl (fun _ => 0))), ((a 218), .inl (g 3, 8, .inl (fun _ => 0))), ((a 217), .inl (g 3, 8, .inl (fun _ => 0))), ((a 216), .inl (g 3, 8, .inl (fun _ => 0))), ((a 200), .inr (21, [.int 1, .ref (a 201), .ref (a 202), .ref (a 203), .ref (a 204), .ref (a 205), .ref (a 206), .int 0, .int 0, .int 0, .int 0, .ref (a 208), .ref (a 209), .ref (a 210), .ref (a 211), .ref (a 212), .int 4, .int 12, .int (-1), .int 0, .ref (g 200), .ref (a 213), .int 0, .int 97, .ref (a 214), .ref (a 215), .ref (a 207), .null, .int 0]))] := hD
                  refine lv_if_eq (tgt := 125) hx hb dX15_repair_118 (by decide) (fun c_19 => ?_) (fun c_19 => ?_)
                  · exact absurd c_19 (by decide)
                  · refine lv_iconst (v := 0) hx hb dX15_repair_121 (by decide) ?_
                    refine lv_goto (tgt := 126) hx hb dX15_repair_122 (by decide) ?_
                    have hP9 := hP.sub (ws' := [((a 200), .inr (21, [.int 1, .ref (a 201), .ref (a 202), .ref (a 203), .ref (a 204), .ref (a 205), .ref (a 206), .int 0, .int 0, .int 0, .int 0, .ref (a 208), .ref (a 209), .ref (a 210), .ref (a 211), .ref (a 212), .int 4, .int 12, .int (-1), .int 0, .ref (g 200), .ref (a 213), .int 0, .int 97, .ref (a 214), .ref (a 215), .ref (a 207), .null, .int 0]))]) [9] rfl
                    have hD9 := hD.sub (ws' := [((a 200), .inr (21, [.int 1, .ref (a 201), .ref (a 202), .ref (a 203), .ref (a 204), .ref (a 205), .ref (a 206), .int 0, .int 0, .int 0, .int 0, .ref (a 208), .ref (a 209), .ref (a 210), .ref (a 211), .ref (a 212), .int 4, .int 12, .int (-1), .int 0, .ref (g 200), .ref (a 213), .int 0, .int 97, .ref (a 214), .ref (a 215), .ref (a 207), .null, .int 0]))]) [9] (by decide) rfl
                    refine W.widen (k := 0) (n := 0) (Nat.le_of_ble_eq_true rfl) (Nat.le_of_ble_eq_true rfl) ?_
                    exact W.iret (v := 0) hx hb hr (fun t ht9 hW9 => ⟨⟨0, 1, rfl, (Or.inl ⟨rfl, rfl, (Or.inr (Or.inl ⟨c_2, c_13, c_17⟩))⟩), ⟨(by rw [ht9]; exact hP9), hD9⟩⟩, hS.F ht9⟩) hS.2.2 dX15_repair_126 hlocks
                · exact absurd c_18 (by decide)
            · obtain ⟨rfl, hw⟩ := hw
              obtain ⟨c_20, c_21⟩ := hw
              have hP := ro1 hP hk1
              refine lv_if_eq (tgt := 101) hx hb dX15_repair_88 (by decide) (fun c_22 => ?_) (fun c_22 => ?_)
              · exact absurd c_22 (by decide)
              · refine lv_iload_n hx hb dX15_repair_91 rfl (lv_at hl 5 rfl) ?_
                refine lv_iconst (v := 0) hx hb dX15_repair_92 (by decide) ?_
                refine lv_bipush (v := 8) hx hb dX15_repair_93 (by decide) ?_
                have hPc : va_P D vwCl [] _ := hP.sub (ws' := []) [] rfl
                have hDc : va_D (fun q => z0 ≤ q) [] := (hD.to hAz).pick (ws' := []) [] (by decide) rfl
                have hFc := AnA (ws := [((a 200), f_m a g), ((a 213), .inl (g 6, 8, .inr (.inr (.inr (.inr (fun i => if i < 8 then some (a (216 + i)) else none)))))), ((a 223), .inl (g 3, 8, .inl (fun _ => 0))), ((a 222), .inl (g 3, 8, .inl (fun _ => 0))), ((a 221), .inl (g 3, 8, .inl (fun _ => 0))), ((a 220), .inl (g 3, 8, .inl (fun _ => 0))), ((a 219), .inl (g 3, 8, .inl (fun _ => 0))), ((a 218), .inl (g 3, 8, .inl (fun _ => 0))), ((a 217), .inl (g 3, 8, .inl (fun _ => 0))), ((a 216), .inl (g 3, 8, .inl (fun _ => 0)))]) hS.1
                refine va_calli (va_runS (As := [.int p1, .int 0, .int 8]) (rest := [.ref (a 200)]) ⟨hx, hb, hml, hown, ht⟩ (k_X15_isBetween_v13 l D g z0 _ a p1) (va_cwS 3 ht (gS w_369 w_371 w_334 w_370) rfl rfl rfl (by decide +kernel) (le2 rfl rfl)) ⟨PP.blind, PP.mk' hK hZ hz hAz hS hPc hDc⟩ rfl rfl hl.1 rfl (lv_room (Nat.le_of_ble_eq_true rfl)) dX15_repair_95 (le2 rfl rfl)) hS (fun q _ h => hFc q h) hFc (fun r u t H locs ht1 hvm hw hB hz1 hk1 hS => ?_)
                rcases hw with hw | hw
                · obtain ⟨rfl, hw⟩ := hw
                  rcases hw with hw | hw
                  · have c_23 := hw
                    have hP := ro1 hP hk1
                    refine lv_if_ne (tgt := 105) hx hb dX15_repair_98 (by decide) (fun c_24 => ?_) (fun c_24 => ?_)
                    · exact absurd c_24 (by decide)
                    · refine lv_iconst (v := 1) hx hb dX15_repair_101 (by decide) ?_
                      refine lv_goto (tgt := 115) hx hb dX15_repair_102 (by decide) ?_
                      have hPc : va_P D vwCl [((a 200), f_m a g)] _ := hP.sub (ws' := [((a 200), f_m a g)]) [0] rfl
                      have hDc : va_D (fun q => z0 ≤ q) [((a 200), f_m a g)] := (hD.to hAz).pick (ws' := [((a 200), f_m a g)]) [0] (by decide) rfl
                      have hFc := va_free (wc := [((a 200), f_m a g)]) hD hS hA [0] rfl
                      refine va_calli (va_runV (As := [.int 1]) (rest := []) ⟨hx, hb, hml, hown, ht⟩ (k_X15_isWrong l D g z0 _ a) (cwV 1 ht (gV w_376 w_378 w_379 w_334 w_377) rfl rfl rfl (by decide +kernel) (le2 rfl rfl)) ⟨PP.blind, va_recv hK.1 hP (ci := 21) (q0 := 0) rfl rfl, PP.mk' hK hZ hz hAz hS hPc hDc⟩ rfl rfl hl.1 rfl (lv_room (Nat.le_of_ble_eq_true rfl)) dX15_repair_115 (le2 rfl rfl)) hS (fun q _ h => hFc q h) hFc (fun r u t H locs ht1 hvm hw hB hz1 hk1 hS => ?_)
                      obtain ⟨rfl, hw⟩ := hw
                      obtain ⟨hP1, hD1⟩ := hB
                      rw [ht1] at hP1
                      obtain ⟨hP, hD⟩ := va_join (wr := [((a 213), .inl (g 6, 8, .inr (.inr (.inr (.inr (fun i => if i < 8 then some (a (216 + i)) else none)))))), ((a 223), .inl (g 3, 8, .inl (fun _ => 0))), ((a 222), .inl (g 3, 8, .inl (fun _ => 0))), ((a 221), .inl (g 3, 8, .inl (fun _ => 0))), ((a 220), .inl (g 3, 8, .inl (fun _ => 0))), ((a 219), .inl (g 3, 8, .inl (fun _ => 0))), ((a 218), .inl (g 3, 8, .inl (fun _ => 0))), ((a 217), .inl (g 3, 8, .inl (fun _ => 0))), ((a 216), .inl (g 3, 8, .inl (fun _ => 0)))]) (w1 := [((a 200), .inr (21, [.int 1, .ref (a 201), .ref (a 202), .ref (a 203), .ref (a 204), .ref (a 205), .ref (a 206), .int 0, .int 0, .int 0, .int 0, .ref (a 208), .ref (a 209), .ref (a 210), .ref (a 211), .ref (a 212), .int 4, .int 12, .int (-1), .int 0, .ref (g 200), .ref (a 213), .int 0, .int 97, .ref (a 214), .ref (a 215), .ref (a 207), .null, .int 0]))]) hP hD [0] [1, 2, 3, 4, 5, 6, 7, 8, 9] rfl rfl (by decide) (by decide) hk1 hFc hP1 hD1
                      have hP : va_P D vwCl [((a 213), .inl (g 6, 8, .inr (.inr (.inr (.inr (fun i => if i < 8 then some (a (216 + i)) else none)))))), ((a 223), .inl (g 3, 8, .inl (fun _ => 0))), ((a 222), .inl (g 3, 8, .inl (fun _ => 0))), ((a 221), .inl (g 3, 8, .inl (fun _ => 0))), ((a 220), .inl (g 3, 8, .inl (fun _ => 0))), ((a 219), .inl (g 3, 8, .inl (fun _ => 0))), ((a 218), .inl (g 3, 8, .inl (fun _ => 0))), ((a 217), .inl (g 3, 8, .inl (fun _ => 0))), ((a 216), .inl (g 3, 8, .inl (fun _ => 0))), ((a 200), .inr (21, [.int 1, .ref (a 201), .ref (a 202), .ref (a 203), .ref (a 204), .ref (a 205), .ref (a 206), .int 0, .int 0, .int 0, .int 0, .ref (a 208), .ref (a 209), .ref (a 210), .ref (a 211), .ref (a 212), .int 4, .int 12, .int (-1), .int 0, .ref (g 200), .ref (a 213), .int 0, .int 97, .ref (a 214), .ref (a 215), .ref (a 207), .null, .int 0]))] H := hP
                      have hD : va_D (va_A [((a 200), f_m a g), ((a 213), .inl (g 6, 8, .inr (.inr (.inr (.inr (fun i => if i < 8 then some (a (216 + i)) else none)))))), ((a 223), .inl (g 3, 8, .inl (fun _ => 0))), ((a 222), .inl (g 3, 8, .inl (fun _ => 0))), ((a 221), .inl (g 3, 8, .inl (fun _ => 0))), ((a 220), .inl (g 3, 8, .inl (fun _ => 0))), ((a 219), .inl (g 3, 8, .inl (fun _ => 0))), ((a 218), .inl (g 3, 8, .inl (fun _ => 0))), ((a 217), .inl (g 3, 8, .inl (fun _ => 0))), ((a 216), .inl (g 3, 8, .inl (fun _ => 0)))] s.heap.size) [((a 213), .inl (g 6, 8, .inr (.inr (.inr (.inr (fun i => if i < 8 then some (a (216 + i)) else none)))))), ((a 223), .inl (g 3, 8, .inl (fun _ => 0))), ((a 222), .inl (g 3, 8, .inl (fun _ => 0))), ((a 221), .inl (g 3, 8, .inl (fun _ => 0))), ((a 220), .inl (g 3, 8, .inl (fun _ => 0))), ((a 219), .inl (g 3, 8, .inl (fun _ => 0))), ((a 218), .inl (g 3, 8, .inl (fun _ => 0))), ((a 217), .inl (g 3, 8, .inl (fun _ => 0))), ((a 216), .inl (g 3, 8, .inl (fun _ => 0))), ((a 200), .inr (21, [.int 1, .ref (a 201), .ref (a 202), .ref (a 203), .ref (a 204), .ref (a 205), .ref (a 206), .int 0, .int 0, .int 0, .int 0, .ref (a 208), .ref (a 209), .ref (a 210), .ref (a 211), .ref (a 212), .int 4, .int 12, .int (-1), .int 0, .ref (g 200), .ref (a 213), .int 0, .int 97, .ref (a 214), .ref (a 215), .ref (a 207), .null, .int 0]))] := hD
                      refine lv_if_eq (tgt := 125) hx hb dX15_repair_118 (by decide) (fun c_25 => ?_) (fun c_25 => ?_)
                      · exact absurd c_25 (by decide)
                      · refine lv_iconst (v := 0) hx hb dX15_repair_121 (by decide) ?_
                        refine lv_goto (tgt := 126) hx hb dX15_repair_122 (by decide) ?_
                        have hP9 := hP.sub (ws' := [((a 200), .inr (21, [.int 1, .ref (a 201), .ref (a 202), .ref (a 203), .ref (a 204), .ref (a 205), .ref (a 206), .int 0, .int 0, .int 0, .int 0, .ref (a 208), .ref (a 209), .ref (a 210), .ref (a 211), .ref (a 212), .int 4, .int 12, .int (-1), .int 0, .ref (g 200), .ref (a 213), .int 0, .int 97, .ref (a 214), .ref (a 215), .ref (a 207), .null, .int 0]))]) [9] rfl
                        have hD9 := hD.sub (ws' := [((a 200), .inr (21, [.int 1, .ref (a 201), .ref (a 202), .ref (a 203), .ref (a 204), .ref (a 205), .ref (a 206), .int 0, .int 0, .int 0, .int 0, .ref (a 208), .ref (a 209), .ref (a 210), .ref (a 211), .ref (a 212), .int 4, .int 12, .int (-1), .int 0, .ref (g 200), .ref (a 213), .int 0, .int 97, .ref (a 214), .ref (a 215), .ref (a 207), .null, .int 0]))]) [9] (by decide) rfl
                        refine W.widen (k := 0) (n := 0) (Nat.le_of_ble_eq_true rfl) (Nat.le_of_ble_eq_true rfl) ?_
                        exact W.iret (v := 0) hx hb hr (fun t ht9 hW9 => ⟨⟨0, 1, rfl, (Or.inl ⟨rfl, rfl, (Or.inr (Or.inr (Or.inl ⟨c_2, c_13, c_21⟩)))⟩), ⟨(by rw [ht9]; exact hP9), hD9⟩⟩, hS.F ht9⟩) hS.2.2 dX15_repair_126 hlocks
                  · obtain ⟨c_26, c_27⟩ := hw
                    exact absurd c_13 c_26
                · obtain ⟨rfl, hw⟩ := hw
                  obtain ⟨c_28, c_29⟩ := hw
                  exact absurd c_13 c_28
          | succ k ih =>
            intro i hi H locs hP hD hS ls hl
            have hlt : i < 256 := by omega
            refine lv_iload hx hb dX15_repair_8 (lv_at hl 0 rfl) ?_
            refine lv_sipush (v := 256) hx hb dX15_repair_10 (by decide) ?_
            refine lv_icmp_ge (tgt := 80) hx hb dX15_repair_13 (by decide) (fun c_30 => absurd c_30 (nI_ge hlt (by decide))) (fun c_30 => ?_)
            refine lv_aload_n hx hb dX15_repair_16 rfl (lv_at hl 3 rfl) ?_
            refine lv_iload hx hb dX15_repair_17 (lv_at hl 0 rfl) ?_
            have hPc : va_P D vwCl [((a 200), f_m a g), ((a 213), .inl (g 6, 8, .inr (.inr (.inr (.inr (fun i => if i < 8 then some (a (216 + i)) else none)))))), ((a 223), .inl (g 3, 8, .inl (fun _ => 0))), ((a 222), .inl (g 3, 8, .inl (fun _ => 0))), ((a 221), .inl (g 3, 8, .inl (fun _ => 0))), ((a 220), .inl (g 3, 8, .inl (fun _ => 0))), ((a 219), .inl (g 3, 8, .inl (fun _ => 0))), ((a 218), .inl (g 3, 8, .inl (fun _ => 0))), ((a 217), .inl (g 3, 8, .inl (fun _ => 0))), ((a 216), .inl (g 3, 8, .inl (fun _ => 0)))] _ := hP.sub (ws' := [((a 200), f_m a g), ((a 213), .inl (g 6, 8, .inr (.inr (.inr (.inr (fun i => if i < 8 then some (a (216 + i)) else none)))))), ((a 223), .inl (g 3, 8, .inl (fun _ => 0))), ((a 222), .inl (g 3, 8, .inl (fun _ => 0))), ((a 221), .inl (g 3, 8, .inl (fun _ => 0))), ((a 220), .inl (g 3, 8, .inl (fun _ => 0))), ((a 219), .inl (g 3, 8, .inl (fun _ => 0))), ((a 218), .inl (g 3, 8, .inl (fun _ => 0))), ((a 217), .inl (g 3, 8, .inl (fun _ => 0))), ((a 216), .inl (g 3, 8, .inl (fun _ => 0)))]) [0, 1, 2, 3, 4, 5, 6, 7, 8, 9] rfl
            have hDc : va_D (fun q => z0 ≤ q) [((a 200), f_m a g), ((a 213), .inl (g 6, 8, .inr (.inr (.inr (.inr (fun i => if i < 8 then some (a (216 + i)) else none)))))), ((a 223), .inl (g 3, 8, .inl (fun _ => 0))), ((a 222), .inl (g 3, 8, .inl (fun _ => 0))), ((a 221), .inl (g 3, 8, .inl (fun _ => 0))), ((a 220), .inl (g 3, 8, .inl (fun _ => 0))), ((a 219), .inl (g 3, 8, .inl (fun _ => 0))), ((a 218), .inl (g 3, 8, .inl (fun _ => 0))), ((a 217), .inl (g 3, 8, .inl (fun _ => 0))), ((a 216), .inl (g 3, 8, .inl (fun _ => 0)))] := (hD.to hAz).pick (ws' := [((a 200), f_m a g), ((a 213), .inl (g 6, 8, .inr (.inr (.inr (.inr (fun i => if i < 8 then some (a (216 + i)) else none)))))), ((a 223), .inl (g 3, 8, .inl (fun _ => 0))), ((a 222), .inl (g 3, 8, .inl (fun _ => 0))), ((a 221), .inl (g 3, 8, .inl (fun _ => 0))), ((a 220), .inl (g 3, 8, .inl (fun _ => 0))), ((a 219), .inl (g 3, 8, .inl (fun _ => 0))), ((a 218), .inl (g 3, 8, .inl (fun _ => 0))), ((a 217), .inl (g 3, 8, .inl (fun _ => 0))), ((a 216), .inl (g 3, 8, .inl (fun _ => 0)))]) [0, 1, 2, 3, 4, 5, 6, 7, 8, 9] (by decide) rfl
            have hFc := AnA (ws := [((a 200), f_m a g), ((a 213), .inl (g 6, 8, .inr (.inr (.inr (.inr (fun i => if i < 8 then some (a (216 + i)) else none)))))), ((a 223), .inl (g 3, 8, .inl (fun _ => 0))), ((a 222), .inl (g 3, 8, .inl (fun _ => 0))), ((a 221), .inl (g 3, 8, .inl (fun _ => 0))), ((a 220), .inl (g 3, 8, .inl (fun _ => 0))), ((a 219), .inl (g 3, 8, .inl (fun _ => 0))), ((a 218), .inl (g 3, 8, .inl (fun _ => 0))), ((a 217), .inl (g 3, 8, .inl (fun _ => 0))), ((a 216), .inl (g 3, 8, .inl (fun _ => 0)))]) hS.1
            refine va_calli (va_runV (As := [.int (nI i)]) (rest := []) ⟨hx, hb, hml, hown, ht⟩ (k_X15_columnsFor_v1 l D g z0 _ a (nI i)) (cwV 1 ht (gV w_1281 w_1283 w_1284 w_334 w_1282) rfl rfl rfl (by decide +kernel) (le2 rfl rfl)) ⟨PP.blind, va_recv hK.1 hP (ci := 21) (q0 := 0) rfl rfl, PP.mk' hK hZ hz hAz hS hPc hDc⟩ rfl rfl hl.1 rfl (lv_room (Nat.le_of_ble_eq_true rfl)) dX15_repair_19 (le2 rfl rfl)) hS (fun q _ h => hFc q h) hFc (fun r u t H locs ht1 hvm hw hB hz1 hk1 hS => ?_)
            obtain ⟨rfl, hw⟩ := hw
            have hP := ro1 hP hk1
            have hPc : va_P D vwCl [] _ := hP.sub (ws' := []) [] rfl
            have hDc : va_D (fun q => z0 ≤ q) [] := (hD.to hAz).pick (ws' := []) [] (by decide) rfl
            have hFc := AnA (ws := [((a 200), f_m a g), ((a 213), .inl (g 6, 8, .inr (.inr (.inr (.inr (fun i => if i < 8 then some (a (216 + i)) else none)))))), ((a 223), .inl (g 3, 8, .inl (fun _ => 0))), ((a 222), .inl (g 3, 8, .inl (fun _ => 0))), ((a 221), .inl (g 3, 8, .inl (fun _ => 0))), ((a 220), .inl (g 3, 8, .inl (fun _ => 0))), ((a 219), .inl (g 3, 8, .inl (fun _ => 0))), ((a 218), .inl (g 3, 8, .inl (fun _ => 0))), ((a 217), .inl (g 3, 8, .inl (fun _ => 0))), ((a 216), .inl (g 3, 8, .inl (fun _ => 0)))]) hS.1
            refine va_calli (va_runS (As := [.int 0]) (rest := []) ⟨hx, hb, hml, hown, ht⟩ (k_J6_bitCount_0f7a4 l D g z0 _ a) (va_cwS 1 ht (gS w_1256 w_279 w_280 w_278) rfl rfl rfl (by decide +kernel) (le2 rfl rfl)) ⟨PP.blind, PP.mk' hK hZ hz hAz hS hPc hDc⟩ rfl rfl hl.1 rfl (lv_room (Nat.le_of_ble_eq_true rfl)) dX15_repair_22 (le2 rfl rfl)) hS (fun q _ h => hFc q h) hFc (fun r u t H locs ht1 hvm hw hB hz1 hk1 hS => ?_)
            obtain ⟨rfl, hw⟩ := hw
            have hP := ro1 hP hk1
            refine lv_istore (lv' := [(6, .int 0), (5, .int (nI i)), (3, .int (-1)), (4, .int 0), (0, .ref (a 200)), (1, .int p0), (2, .int p1)]) hx hb dX15_repair_25 hl (by decide) rfl (fun ls hl => ?_)
            refine lv_iload hx hb dX15_repair_27 (lv_at hl 1 rfl) ?_
            have hPc : va_P D vwCl [] _ := hP.sub (ws' := []) [] rfl
            have hDc : va_D (fun q => z0 ≤ q) [] := (hD.to hAz).pick (ws' := []) [] (by decide) rfl
            have hFc := AnA (ws := [((a 200), f_m a g), ((a 213), .inl (g 6, 8, .inr (.inr (.inr (.inr (fun i => if i < 8 then some (a (216 + i)) else none)))))), ((a 223), .inl (g 3, 8, .inl (fun _ => 0))), ((a 222), .inl (g 3, 8, .inl (fun _ => 0))), ((a 221), .inl (g 3, 8, .inl (fun _ => 0))), ((a 220), .inl (g 3, 8, .inl (fun _ => 0))), ((a 219), .inl (g 3, 8, .inl (fun _ => 0))), ((a 218), .inl (g 3, 8, .inl (fun _ => 0))), ((a 217), .inl (g 3, 8, .inl (fun _ => 0))), ((a 216), .inl (g 3, 8, .inl (fun _ => 0)))]) hS.1
            refine va_calli (va_runS (As := [.int (nI i)]) (rest := []) ⟨hx, hb, hml, hown, ht⟩ (k_J6_bitCount_0f7a4_v1 l D g z0 _ a (nI i)) (va_cwS 1 ht (gS w_1256 w_279 w_280 w_278) rfl rfl rfl (by decide +kernel) (le2 rfl rfl)) ⟨PP.blind, PP.mk' hK hZ hz hAz hS hPc hDc⟩ rfl rfl hl.1 rfl (lv_room (Nat.le_of_ble_eq_true rfl)) dX15_repair_29 (le2 rfl rfl)) hS (fun q _ h => hFc q h) hFc (fun r u t H locs ht1 hvm hw hB hz1 hk1 hS => ?_)
            obtain ⟨rfl, hw⟩ := hw
            have hP := ro1 hP hk1
            refine lv_iload hx hb dX15_repair_32 (lv_at hl 0 rfl) ?_
            refine lv_iadd hx hb dX15_repair_34 ?_
            refine lv_istore (lv' := [(7, .int ((zBits (nI i)) + 0)), (6, .int 0), (5, .int (nI i)), (3, .int (-1)), (4, .int 0), (0, .ref (a 200)), (1, .int p0), (2, .int p1)]) hx hb dX15_repair_35 hl (by decide) rfl (fun ls hl => ?_)
            refine lv_iload hx hb dX15_repair_37 (lv_at hl 2 rfl) ?_
            have hPc : va_P D vwCl [] _ := hP.sub (ws' := []) [] rfl
            have hDc : va_D (fun q => z0 ≤ q) [] := (hD.to hAz).pick (ws' := []) [] (by decide) rfl
            have hFc := AnA (ws := [((a 200), f_m a g), ((a 213), .inl (g 6, 8, .inr (.inr (.inr (.inr (fun i => if i < 8 then some (a (216 + i)) else none)))))), ((a 223), .inl (g 3, 8, .inl (fun _ => 0))), ((a 222), .inl (g 3, 8, .inl (fun _ => 0))), ((a 221), .inl (g 3, 8, .inl (fun _ => 0))), ((a 220), .inl (g 3, 8, .inl (fun _ => 0))), ((a 219), .inl (g 3, 8, .inl (fun _ => 0))), ((a 218), .inl (g 3, 8, .inl (fun _ => 0))), ((a 217), .inl (g 3, 8, .inl (fun _ => 0))), ((a 216), .inl (g 3, 8, .inl (fun _ => 0)))]) hS.1
            refine va_calli (va_runS (As := [.int (nI i)]) (rest := []) ⟨hx, hb, hml, hown, ht⟩ (k_J6_bitCount_0f7a4_v1 l D g z0 _ a (nI i)) (va_cwS 1 ht (gS w_1256 w_279 w_280 w_278) rfl rfl rfl (by decide +kernel) (le2 rfl rfl)) ⟨PP.blind, PP.mk' hK hZ hz hAz hS hPc hDc⟩ rfl rfl hl.1 rfl (lv_room (Nat.le_of_ble_eq_true rfl)) dX15_repair_39 (le2 rfl rfl)) hS (fun q _ h => hFc q h) hFc (fun r u t H locs ht1 hvm hw hB hz1 hk1 hS => ?_)
            obtain ⟨rfl, hw⟩ := hw
            have hP := ro1 hP hk1
            refine lv_iload_n hx hb dX15_repair_42 rfl (lv_at hl 6 rfl) ?_
            refine lv_icmp_gt (tgt := 74) hx hb dX15_repair_43 (by decide) (fun c_31 => ?_) (fun c_31 => ?_)
            · refine lv_iinc (v := nI (i + 1)) (lv' := [(5, .int (nI (i + 1))), (7, .int ((zBits (nI i)) + 0)), (6, .int 0), (3, .int (-1)), (4, .int 0), (0, .ref (a 200)), (1, .int p0), (2, .int p1)]) hx hb dX15_repair_74 hl (k := 2) rfl (nI_1 i) (by decide) rfl (fun ls hl => ?_)
              refine lv_goto (tgt := 8) hx hb dX15_repair_77 (by decide) ?_
              exact ih (i + 1) (by omega) H locs hP hD hS ls (lv_sub hl [0, 3, 4, 5, 6, 7] rfl)
            · refine lv_iload hx hb dX15_repair_46 (lv_at hl 1 rfl) ?_
              refine lv_iload_n hx hb dX15_repair_48 rfl (lv_at hl 7 rfl) ?_
              refine lv_icmp_gt (tgt := 74) hx hb dX15_repair_49 (by decide) (fun c_32 => ?_) (fun c_32 => ?_)
              · refine lv_iinc (v := nI (i + 1)) (lv' := [(5, .int (nI (i + 1))), (7, .int ((zBits (nI i)) + 0)), (6, .int 0), (3, .int (-1)), (4, .int 0), (0, .ref (a 200)), (1, .int p0), (2, .int p1)]) hx hb dX15_repair_74 hl (k := 2) rfl (nI_1 i) (by decide) rfl (fun ls hl => ?_)
                refine lv_goto (tgt := 8) hx hb dX15_repair_77 (by decide) ?_
                exact ih (i + 1) (by omega) H locs hP hD hS ls (lv_sub hl [0, 3, 4, 5, 6, 7] rfl)
              · exact absurd c_13 c_32
        exact loop (256 - 1) 1 (by omega) _ _ hP hD hS ls (lv_sub hl [0, 4, 3, 5, 6, 7] rfl)
      · refine lv_iload_n hx hb dX15_repair_52 rfl (lv_at hl 4 rfl) ?_
        refine lv_iconst (v := (-1)) hx hb dX15_repair_53 (by decide) ?_
        refine lv_icmp_eq (tgt := 67) hx hb dX15_repair_54 (by decide) (fun c_33 => ?_) (fun c_33 => ?_)
        · refine lv_iload hx hb dX15_repair_67 (lv_at hl 2 rfl) ?_
          refine lv_istore_n (lv' := [(3, .int 0), (7, .int 0), (6, .int 0), (5, .int 0), (4, .int 0), (0, .ref (a 200)), (1, .int p0), (2, .int p1)]) hx hb dX15_repair_69 rfl hl (by decide) rfl (fun ls hl => ?_)
          refine lv_iload hx hb dX15_repair_70 (lv_at hl 1 rfl) ?_
          refine lv_istore (lv' := [(4, .int 0), (3, .int 0), (7, .int 0), (6, .int 0), (5, .int 0), (0, .ref (a 200)), (1, .int p0), (2, .int p1)]) hx hb dX15_repair_72 hl (by decide) rfl (fun ls hl => ?_)
          refine lv_iinc (v := 1) (lv' := [(5, .int 1), (4, .int 0), (3, .int 0), (7, .int 0), (6, .int 0), (0, .ref (a 200)), (1, .int p0), (2, .int p1)]) hx hb dX15_repair_74 hl (k := 4) rfl (by decide) (by decide) rfl (fun ls hl => ?_)
          refine lv_goto (tgt := 8) hx hb dX15_repair_77 (by decide) ?_
          have loop : ∀ (k i : Nat), 256 = i + k → ∀ (H : Heap) (locs : List Loc), va_P D vwCl [((a 200), f_m a g), ((a 213), .inl (g 6, 8, .inr (.inr (.inr (.inr (fun i => if i < 8 then some (a (216 + i)) else none)))))), ((a 223), .inl (g 3, 8, .inl (fun _ => 0))), ((a 222), .inl (g 3, 8, .inl (fun _ => 0))), ((a 221), .inl (g 3, 8, .inl (fun _ => 0))), ((a 220), .inl (g 3, 8, .inl (fun _ => 0))), ((a 219), .inl (g 3, 8, .inl (fun _ => 0))), ((a 218), .inl (g 3, 8, .inl (fun _ => 0))), ((a 217), .inl (g 3, 8, .inl (fun _ => 0))), ((a 216), .inl (g 3, 8, .inl (fun _ => 0)))] H → va_D (va_A [((a 200), f_m a g), ((a 213), .inl (g 6, 8, .inr (.inr (.inr (.inr (fun i => if i < 8 then some (a (216 + i)) else none)))))), ((a 223), .inl (g 3, 8, .inl (fun _ => 0))), ((a 222), .inl (g 3, 8, .inl (fun _ => 0))), ((a 221), .inl (g 3, 8, .inl (fun _ => 0))), ((a 220), .inl (g 3, 8, .inl (fun _ => 0))), ((a 219), .inl (g 3, 8, .inl (fun _ => 0))), ((a 218), .inl (g 3, 8, .inl (fun _ => 0))), ((a 217), .inl (g 3, 8, .inl (fun _ => 0))), ((a 216), .inl (g 3, 8, .inl (fun _ => 0)))] s.heap.size) [((a 200), f_m a g), ((a 213), .inl (g 6, 8, .inr (.inr (.inr (.inr (fun i => if i < 8 then some (a (216 + i)) else none)))))), ((a 223), .inl (g 3, 8, .inl (fun _ => 0))), ((a 222), .inl (g 3, 8, .inl (fun _ => 0))), ((a 221), .inl (g 3, 8, .inl (fun _ => 0))), ((a 220), .inl (g 3, 8, .inl (fun _ => 0))), ((a 219), .inl (g 3, 8, .inl (fun _ => 0))), ((a 218), .inl (g 3, 8, .inl (fun _ => 0))), ((a 217), .inl (g 3, 8, .inl (fun _ => 0))), ((a 216), .inl (g 3, 8, .inl (fun _ => 0)))] → va_S (va_A [((a 200), f_m a g), ((a 213), .inl (g 6, 8, .inr (.inr (.inr (.inr (fun i => if i < 8 then some (a (216 + i)) else none)))))), ((a 223), .inl (g 3, 8, .inl (fun _ => 0))), ((a 222), .inl (g 3, 8, .inl (fun _ => 0))), ((a 221), .inl (g 3, 8, .inl (fun _ => 0))), ((a 220), .inl (g 3, 8, .inl (fun _ => 0))), ((a 219), .inl (g 3, 8, .inl (fun _ => 0))), ((a 218), .inl (g 3, 8, .inl (fun _ => 0))), ((a 217), .inl (g 3, 8, .inl (fun _ => 0))), ((a 216), .inl (g 3, 8, .inl (fun _ => 0)))] s.heap.size) s.heap H locs → ∀ (ls : Array Slot), lv_has ls 8 [(5, .int (nI i)), (3, .int 0), (4, .int 0), (0, .ref (a 200)), (1, .int p0), (2, .int p1)] → W p l e (rmk 1 0 0 24) s m args below meth c H locs 0 0 (MQ below (va_Qi (fun (r : Int32) (u : Int32) => ((r = 0) ∧ (u = 1) ∧ ((p0 < 0) ∨ ((¬ p0 < 0) ∧ (p1 < 0) ∧ ((8 : Int32) < p0)) ∨ ((¬ p0 < 0) ∧ (p1 < 0) ∧ (¬ (8 : Int32) < p0)) ∨ ((¬ p0 < 0) ∧ (¬ p1 < 0) ∧ ((8 : Int32) < p0)) ∨ ((¬ p0 < 0) ∧ (¬ p1 < 0) ∧ (¬ (8 : Int32) < p0) ∧ ((8 : Int32) < p1)))) ∨ ((r = 0) ∧ (u = 0) ∧ ((¬ p0 < 0) ∧ (¬ p1 < 0) ∧ (¬ (8 : Int32) < p0) ∧ (¬ (8 : Int32) < p1)))) (fun (u : Int32) (t : State) => va_P D vwCl [((a 200), .inr (21, [.int u, .ref (a 201), .ref (a 202), .ref (a 203), .ref (a 204), .ref (a 205), .ref (a 206), .int 0, .int 0, .int 0, .int 0, .ref (a 208), .ref (a 209), .ref (a 210), .ref (a 211), .ref (a 212), .int 4, .int 12, .int (-1), .int 0, .ref (g 200), .ref (a 213), .int 0, .int 97, .ref (a 214), .ref (a 215), .ref (a 207), .null, .int 0]))] t.heap ∧ va_D (va_A [((a 200), f_m a g), ((a 213), .inl (g 6, 8, .inr (.inr (.inr (.inr (fun i => if i < 8 then some (a (216 + i)) else none)))))), ((a 223), .inl (g 3, 8, .inl (fun _ => 0))), ((a 222), .inl (g 3, 8, .inl (fun _ => 0))), ((a 221), .inl (g 3, 8, .inl (fun _ => 0))), ((a 220), .inl (g 3, 8, .inl (fun _ => 0))), ((a 219), .inl (g 3, 8, .inl (fun _ => 0))), ((a 218), .inl (g 3, 8, .inl (fun _ => 0))), ((a 217), .inl (g 3, 8, .inl (fun _ => 0))), ((a 216), .inl (g 3, 8, .inl (fun _ => 0)))] s.heap.size) [((a 200), .inr (21, [.int u, .ref (a 201), .ref (a 202), .ref (a 203), .ref (a 204), .ref (a 205), .ref (a 206), .int 0, .int 0, .int 0, .int 0, .ref (a 208), .ref (a 209), .ref (a 210), .ref (a 211), .ref (a 212), .int 4, .int 12, .int (-1), .int 0, .ref (g 200), .ref (a 213), .int 0, .int 97, .ref (a 214), .ref (a 215), .ref (a 207), .null, .int 0]))]) (va_A [((a 200), f_m a g), ((a 213), .inl (g 6, 8, .inr (.inr (.inr (.inr (fun i => if i < 8 then some (a (216 + i)) else none)))))), ((a 223), .inl (g 3, 8, .inl (fun _ => 0))), ((a 222), .inl (g 3, 8, .inl (fun _ => 0))), ((a 221), .inl (g 3, 8, .inl (fun _ => 0))), ((a 220), .inl (g 3, 8, .inl (fun _ => 0))), ((a 219), .inl (g 3, 8, .inl (fun _ => 0))), ((a 218), .inl (g 3, 8, .inl (fun _ => 0))), ((a 217), .inl (g 3, 8, .inl (fun _ => 0))), ((a 216), .inl (g 3, 8, .inl (fun _ => 0)))] s.heap.size)) args s 0 0 (va_A [((a 200), f_m a g), ((a 213), .inl (g 6, 8, .inr (.inr (.inr (.inr (fun i => if i < 8 then some (a (216 + i)) else none)))))), ((a 223), .inl (g 3, 8, .inl (fun _ => 0))), ((a 222), .inl (g 3, 8, .inl (fun _ => 0))), ((a 221), .inl (g 3, 8, .inl (fun _ => 0))), ((a 220), .inl (g 3, 8, .inl (fun _ => 0))), ((a 219), .inl (g 3, 8, .inl (fun _ => 0))), ((a 218), .inl (g 3, 8, .inl (fun _ => 0))), ((a 217), .inl (g 3, 8, .inl (fun _ => 0))), ((a 216), .inl (g 3, 8, .inl (fun _ => 0)))] s.heap.size)) (F0 m 8 ls []) := by
            intro k
            induction k with
            | zero =>
              intro i hi H locs hP hD hS ls hl
              have hi0 : i = 256 := by omega
              refine lv_iload hx hb dX15_repair_8 (lv_at hl 0 rfl) ?_
              refine lv_sipush (v := 256) hx hb dX15_repair_10 (by decide) ?_
              refine lv_icmp_ge (tgt := 80) hx hb dX15_repair_13 (by decide) (fun c_34 => ?_) (fun c_34 => absurd (by rw [hi0]; decide) c_34)
              refine lv_aload_n hx hb dX15_repair_80 rfl (lv_at hl 3 rfl) ?_
              refine lv_iload_n hx hb dX15_repair_81 rfl (lv_at hl 4 rfl) ?_
              refine lv_iconst (v := 0) hx hb dX15_repair_82 (by decide) ?_
              refine lv_bipush (v := 8) hx hb dX15_repair_83 (by decide) ?_
              have hPc : va_P D vwCl [] _ := hP.sub (ws' := []) [] rfl
              have hDc : va_D (fun q => z0 ≤ q) [] := (hD.to hAz).pick (ws' := []) [] (by decide) rfl
              have hFc := AnA (ws := [((a 200), f_m a g), ((a 213), .inl (g 6, 8, .inr (.inr (.inr (.inr (fun i => if i < 8 then some (a (216 + i)) else none)))))), ((a 223), .inl (g 3, 8, .inl (fun _ => 0))), ((a 222), .inl (g 3, 8, .inl (fun _ => 0))), ((a 221), .inl (g 3, 8, .inl (fun _ => 0))), ((a 220), .inl (g 3, 8, .inl (fun _ => 0))), ((a 219), .inl (g 3, 8, .inl (fun _ => 0))), ((a 218), .inl (g 3, 8, .inl (fun _ => 0))), ((a 217), .inl (g 3, 8, .inl (fun _ => 0))), ((a 216), .inl (g 3, 8, .inl (fun _ => 0)))]) hS.1
              refine va_calli (va_runS (As := [.int p0, .int 0, .int 8]) (rest := [.ref (a 200)]) ⟨hx, hb, hml, hown, ht⟩ (k_X15_isBetween_v13 l D g z0 _ a p0) (va_cwS 3 ht (gS w_369 w_371 w_334 w_370) rfl rfl rfl (by decide +kernel) (le2 rfl rfl)) ⟨PP.blind, PP.mk' hK hZ hz hAz hS hPc hDc⟩ rfl rfl hl.1 rfl (lv_room (Nat.le_of_ble_eq_true rfl)) dX15_repair_85 (le2 rfl rfl)) hS (fun q _ h => hFc q h) hFc (fun r u t H locs ht1 hvm hw hB hz1 hk1 hS => ?_)
              rcases hw with hw | hw
              · obtain ⟨rfl, hw⟩ := hw
                rcases hw with hw | hw
                · have c_35 := hw
                  exact absurd c_35 c_2
                · obtain ⟨c_36, c_37⟩ := hw
                  have hP := ro1 hP hk1
                  refine lv_if_eq (tgt := 101) hx hb dX15_repair_88 (by decide) (fun c_38 => ?_) (fun c_38 => ?_)
                  · refine lv_iconst (v := 1) hx hb dX15_repair_101 (by decide) ?_
                    refine lv_goto (tgt := 115) hx hb dX15_repair_102 (by decide) ?_
                    have hPc : va_P D vwCl [((a 200), f_m a g)] _ := hP.sub (ws' := [((a 200), f_m a g)]) [0] rfl
                    have hDc : va_D (fun q => z0 ≤ q) [((a 200), f_m a g)] := (hD.to hAz).pick (ws' := [((a 200), f_m a g)]) [0] (by decide) rfl
                    have hFc := va_free (wc := [((a 200), f_m a g)]) hD hS hA [0] rfl
                    refine va_calli (va_runV (As := [.int 1]) (rest := []) ⟨hx, hb, hml, hown, ht⟩ (k_X15_isWrong l D g z0 _ a) (cwV 1 ht (gV w_376 w_378 w_379 w_334 w_377) rfl rfl rfl (by decide +kernel) (le2 rfl rfl)) ⟨PP.blind, va_recv hK.1 hP (ci := 21) (q0 := 0) rfl rfl, PP.mk' hK hZ hz hAz hS hPc hDc⟩ rfl rfl hl.1 rfl (lv_room (Nat.le_of_ble_eq_true rfl)) dX15_repair_115 (le2 rfl rfl)) hS (fun q _ h => hFc q h) hFc (fun r u t H locs ht1 hvm hw hB hz1 hk1 hS => ?_)
                    obtain ⟨rfl, hw⟩ := hw
                    obtain ⟨hP1, hD1⟩ := hB
                    rw [ht1] at hP1
                    obtain ⟨hP, hD⟩ := va_join (wr := [((a 213), .inl (g 6, 8, .inr (.inr (.inr (.inr (fun i => if i < 8 then some (a (216 + i)) else none)))))), ((a 223), .inl (g 3, 8, .inl (fun _ => 0))), ((a 222), .inl (g 3, 8, .inl (fun _ => 0))), ((a 221), .inl (g 3, 8, .inl (fun _ => 0))), ((a 220), .inl (g 3, 8, .inl (fun _ => 0))), ((a 219), .inl (g 3, 8, .inl (fun _ => 0))), ((a 218), .inl (g 3, 8, .inl (fun _ => 0))), ((a 217), .inl (g 3, 8, .inl (fun _ => 0))), ((a 216), .inl (g 3, 8, .inl (fun _ => 0)))]) (w1 := [((a 200), .inr (21, [.int 1, .ref (a 201), .ref (a 202), .ref (a 203), .ref (a 204), .ref (a 205), .ref (a 206), .int 0, .int 0, .int 0, .int 0, .ref (a 208), .ref (a 209), .ref (a 210), .ref (a 211), .ref (a 212), .int 4, .int 12, .int (-1), .int 0, .ref (g 200), .ref (a 213), .int 0, .int 97, .ref (a 214), .ref (a 215), .ref (a 207), .null, .int 0]))]) hP hD [0] [1, 2, 3, 4, 5, 6, 7, 8, 9] rfl rfl (by decide) (by decide) hk1 hFc hP1 hD1
                    have hP : va_P D vwCl [((a 213), .inl (g 6, 8, .inr (.inr (.inr (.inr (fun i => if i < 8 then some (a (216 + i)) else none)))))), ((a 223), .inl (g 3, 8, .inl (fun _ => 0))), ((a 222), .inl (g 3, 8, .inl (fun _ => 0))), ((a 221), .inl (g 3, 8, .inl (fun _ => 0))), ((a 220), .inl (g 3, 8, .inl (fun _ => 0))), ((a 219), .inl (g 3, 8, .inl (fun _ => 0))), ((a 218), .inl (g 3, 8, .inl (fun _ => 0))), ((a 217), .inl (g 3, 8, .inl (fun _ => 0))), ((a 216), .inl (g 3, 8, .inl (fun _ => 0))), ((a 200), .inr (21, [.int 1, .ref (a 201), .ref (a 202), .ref (a 203), .ref (a 204), .ref (a 205), .ref (a 206), .int 0, .int 0, .int 0, .int 0, .ref (a 208), .ref (a 209), .ref (a 210), .ref (a 211), .ref (a 212), .int 4, .int 12, .int (-1), .int 0, .ref (g 200), .ref (a 213), .int 0, .int 97, .ref (a 214), .ref (a 215), .ref (a 207), .null, .int 0]))] H := hP
                    have hD : va_D (va_A [((a 200), f_m a g), ((a 213), .inl (g 6, 8, .inr (.inr (.inr (.inr (fun i => if i < 8 then some (a (216 + i)) else none)))))), ((a 223), .inl (g 3, 8, .inl (fun _ => 0))), ((a 222), .inl (g 3, 8, .inl (fun _ => 0))), ((a 221), .inl (g 3, 8, .inl (fun _ => 0))), ((a 220), .inl (g 3, 8, .inl (fun _ => 0))), ((a 219), .inl (g 3, 8, .inl (fun _ => 0))), ((a 218), .inl (g 3, 8, .inl (fun _ => 0))), ((a 217), .inl (g 3, 8, .inl (fun _ => 0))), ((a 216), .inl (g 3, 8, .inl (fun _ => 0)))] s.heap.size) [((a 213), .inl (g 6, 8, .inr (.inr (.inr (.inr (fun i => if i < 8 then some (a (216 + i)) else none)))))), ((a 223), .inl (g 3, 8, .inl (fun _ => 0))), ((a 222), .inl (g 3, 8, .inl (fun _ => 0))), ((a 221), .inl (g 3, 8, .inl (fun _ => 0))), ((a 220), .inl (g 3, 8, .inl (fun _ => 0))), ((a 219), .inl (g 3, 8, .inl (fun _ => 0))), ((a 218), .inl (g 3, 8, .inl (fun _ => 0))), ((a 217), .inl (g 3, 8, .inl (fun _ => 0))), ((a 216), .inl (g 3, 8, .inl (fun _ => 0))), ((a 200), .inr (21, [.int 1, .ref (a 201), .ref (a 202), .ref (a 203), .ref (a 204), .ref (a 205), .ref (a 206), .int 0, .int 0, .int 0, .int 0, .ref (a 208), .ref (a 209), .ref (a 210), .ref (a 211), .ref (a 212), .int 4, .int 12, .int (-1), .int 0, .ref (g 200), .ref (a 213), .int 0, .int 97, .ref (a 214), .ref (a 215), .ref (a 207), .null, .int 0]))] := hD
                    refine lv_if_eq (tgt := 125) hx hb dX15_repair_118 (by decide) (fun c_39 => ?_) (fun c_39 => ?_)
                    · exact absurd c_39 (by decide)
                    · refine lv_iconst (v := 0) hx hb dX15_repair_121 (by decide) ?_
                      refine lv_goto (tgt := 126) hx hb dX15_repair_122 (by decide) ?_
                      have hP9 := hP.sub (ws' := [((a 200), .inr (21, [.int 1, .ref (a 201), .ref (a 202), .ref (a 203), .ref (a 204), .ref (a 205), .ref (a 206), .int 0, .int 0, .int 0, .int 0, .ref (a 208), .ref (a 209), .ref (a 210), .ref (a 211), .ref (a 212), .int 4, .int 12, .int (-1), .int 0, .ref (g 200), .ref (a 213), .int 0, .int 97, .ref (a 214), .ref (a 215), .ref (a 207), .null, .int 0]))]) [9] rfl
                      have hD9 := hD.sub (ws' := [((a 200), .inr (21, [.int 1, .ref (a 201), .ref (a 202), .ref (a 203), .ref (a 204), .ref (a 205), .ref (a 206), .int 0, .int 0, .int 0, .int 0, .ref (a 208), .ref (a 209), .ref (a 210), .ref (a 211), .ref (a 212), .int 4, .int 12, .int (-1), .int 0, .ref (g 200), .ref (a 213), .int 0, .int 97, .ref (a 214), .ref (a 215), .ref (a 207), .null, .int 0]))]) [9] (by decide) rfl
                      refine W.widen (k := 0) (n := 0) (Nat.le_of_ble_eq_true rfl) (Nat.le_of_ble_eq_true rfl) ?_
                      exact W.iret (v := 0) hx hb hr (fun t ht9 hW9 => ⟨⟨0, 1, rfl, (Or.inl ⟨rfl, rfl, (Or.inr (Or.inr (Or.inr (Or.inl ⟨c_2, c_13, c_37⟩))))⟩), ⟨(by rw [ht9]; exact hP9), hD9⟩⟩, hS.F ht9⟩) hS.2.2 dX15_repair_126 hlocks
                  · exact absurd c_38 (by decide)
              · obtain ⟨rfl, hw⟩ := hw
                obtain ⟨c_40, c_41⟩ := hw
                have hP := ro1 hP hk1
                refine lv_if_eq (tgt := 101) hx hb dX15_repair_88 (by decide) (fun c_42 => ?_) (fun c_42 => ?_)
                · exact absurd c_42 (by decide)
                · refine lv_iload_n hx hb dX15_repair_91 rfl (lv_at hl 5 rfl) ?_
                  refine lv_iconst (v := 0) hx hb dX15_repair_92 (by decide) ?_
                  refine lv_bipush (v := 8) hx hb dX15_repair_93 (by decide) ?_
                  have hPc : va_P D vwCl [] _ := hP.sub (ws' := []) [] rfl
                  have hDc : va_D (fun q => z0 ≤ q) [] := (hD.to hAz).pick (ws' := []) [] (by decide) rfl
                  have hFc := AnA (ws := [((a 200), f_m a g), ((a 213), .inl (g 6, 8, .inr (.inr (.inr (.inr (fun i => if i < 8 then some (a (216 + i)) else none)))))), ((a 223), .inl (g 3, 8, .inl (fun _ => 0))), ((a 222), .inl (g 3, 8, .inl (fun _ => 0))), ((a 221), .inl (g 3, 8, .inl (fun _ => 0))), ((a 220), .inl (g 3, 8, .inl (fun _ => 0))), ((a 219), .inl (g 3, 8, .inl (fun _ => 0))), ((a 218), .inl (g 3, 8, .inl (fun _ => 0))), ((a 217), .inl (g 3, 8, .inl (fun _ => 0))), ((a 216), .inl (g 3, 8, .inl (fun _ => 0)))]) hS.1
                  refine va_calli (va_runS (As := [.int p1, .int 0, .int 8]) (rest := [.ref (a 200)]) ⟨hx, hb, hml, hown, ht⟩ (k_X15_isBetween_v13 l D g z0 _ a p1) (va_cwS 3 ht (gS w_369 w_371 w_334 w_370) rfl rfl rfl (by decide +kernel) (le2 rfl rfl)) ⟨PP.blind, PP.mk' hK hZ hz hAz hS hPc hDc⟩ rfl rfl hl.1 rfl (lv_room (Nat.le_of_ble_eq_true rfl)) dX15_repair_95 (le2 rfl rfl)) hS (fun q _ h => hFc q h) hFc (fun r u t H locs ht1 hvm hw hB hz1 hk1 hS => ?_)
                  rcases hw with hw | hw
                  · obtain ⟨rfl, hw⟩ := hw
                    rcases hw with hw | hw
                    · have c_43 := hw
                      exact absurd c_43 c_13
                    · obtain ⟨c_44, c_45⟩ := hw
                      have hP := ro1 hP hk1
                      refine lv_if_ne (tgt := 105) hx hb dX15_repair_98 (by decide) (fun c_46 => ?_) (fun c_46 => ?_)
                      · exact absurd c_46 (by decide)
                      · refine lv_iconst (v := 1) hx hb dX15_repair_101 (by decide) ?_
                        refine lv_goto (tgt := 115) hx hb dX15_repair_102 (by decide) ?_
                        have hPc : va_P D vwCl [((a 200), f_m a g)] _ := hP.sub (ws' := [((a 200), f_m a g)]) [0] rfl
                        have hDc : va_D (fun q => z0 ≤ q) [((a 200), f_m a g)] := (hD.to hAz).pick (ws' := [((a 200), f_m a g)]) [0] (by decide) rfl
                        have hFc := va_free (wc := [((a 200), f_m a g)]) hD hS hA [0] rfl
                        refine va_calli (va_runV (As := [.int 1]) (rest := []) ⟨hx, hb, hml, hown, ht⟩ (k_X15_isWrong l D g z0 _ a) (cwV 1 ht (gV w_376 w_378 w_379 w_334 w_377) rfl rfl rfl (by decide +kernel) (le2 rfl rfl)) ⟨PP.blind, va_recv hK.1 hP (ci := 21) (q0 := 0) rfl rfl, PP.mk' hK hZ hz hAz hS hPc hDc⟩ rfl rfl hl.1 rfl (lv_room (Nat.le_of_ble_eq_true rfl)) dX15_repair_115 (le2 rfl rfl)) hS (fun q _ h => hFc q h) hFc (fun r u t H locs ht1 hvm hw hB hz1 hk1 hS => ?_)
                        obtain ⟨rfl, hw⟩ := hw
                        obtain ⟨hP1, hD1⟩ := hB
                        rw [ht1] at hP1
                        obtain ⟨hP, hD⟩ := va_join (wr := [((a 213), .inl (g 6, 8, .inr (.inr (.inr (.inr (fun i => if i < 8 then some (a (216 + i)) else none)))))), ((a 223), .inl (g 3, 8, .inl (fun _ => 0))), ((a 222), .inl (g 3, 8, .inl (fun _ => 0))), ((a 221), .inl (g 3, 8, .inl (fun _ => 0))), ((a 220), .inl (g 3, 8, .inl (fun _ => 0))), ((a 219), .inl (g 3, 8, .inl (fun _ => 0))), ((a 218), .inl (g 3, 8, .inl (fun _ => 0))), ((a 217), .inl (g 3, 8, .inl (fun _ => 0))), ((a 216), .inl (g 3, 8, .inl (fun _ => 0)))]) (w1 := [((a 200), .inr (21, [.int 1, .ref (a 201), .ref (a 202), .ref (a 203), .ref (a 204), .ref (a 205), .ref (a 206), .int 0, .int 0, .int 0, .int 0, .ref (a 208), .ref (a 209), .ref (a 210), .ref (a 211), .ref (a 212), .int 4, .int 12, .int (-1), .int 0, .ref (g 200), .ref (a 213), .int 0, .int 97, .ref (a 214), .ref (a 215), .ref (a 207), .null, .int 0]))]) hP hD [0] [1, 2, 3, 4, 5, 6, 7, 8, 9] rfl rfl (by decide) (by decide) hk1 hFc hP1 hD1
                        have hP : va_P D vwCl [((a 213), .inl (g 6, 8, .inr (.inr (.inr (.inr (fun i => if i < 8 then some (a (216 + i)) else none)))))), ((a 223), .inl (g 3, 8, .inl (fun _ => 0))), ((a 222), .inl (g 3, 8, .inl (fun _ => 0))), ((a 221), .inl (g 3, 8, .inl (fun _ => 0))), ((a 220), .inl (g 3, 8, .inl (fun _ => 0))), ((a 219), .inl (g 3, 8, .inl (fun _ => 0))), ((a 218), .inl (g 3, 8, .inl (fun _ => 0))), ((a 217), .inl (g 3, 8, .inl (fun _ => 0))), ((a 216), .inl (g 3, 8, .inl (fun _ => 0))), ((a 200), .inr (21, [.int 1, .ref (a 201), .ref (a 202), .ref (a 203), .ref (a 204), .ref (a 205), .ref (a 206), .int 0, .int 0, .int 0, .int 0, .ref (a 208), .ref (a 209), .ref (a 210), .ref (a 211), .ref (a 212), .int 4, .int 12, .int (-1), .int 0, .ref (g 200), .ref (a 213), .int 0, .int 97, .ref (a 214), .ref (a 215), .ref (a 207), .null, .int 0]))] H := hP
                        have hD : va_D (va_A [((a 200), f_m a g), ((a 213), .inl (g 6, 8, .inr (.inr (.inr (.inr (fun i => if i < 8 then some (a (216 + i)) else none)))))), ((a 223), .inl (g 3, 8, .inl (fun _ => 0))), ((a 222), .inl (g 3, 8, .inl (fun _ => 0))), ((a 221), .inl (g 3, 8, .inl (fun _ => 0))), ((a 220), .inl (g 3, 8, .inl (fun _ => 0))), ((a 219), .inl (g 3, 8, .inl (fun _ => 0))), ((a 218), .inl (g 3, 8, .inl (fun _ => 0))), ((a 217), .inl (g 3, 8, .inl (fun _ => 0))), ((a 216), .inl (g 3, 8, .inl (fun _ => 0)))] s.heap.size) [((a 213), .inl (g 6, 8, .inr (.inr (.inr (.inr (fun i => if i < 8 then some (a (216 + i)) else none)))))), ((a 223), .inl (g 3, 8, .inl (fun _ => 0))), ((a 222), .inl (g 3, 8, .inl (fun _ => 0))), ((a 221), .inl (g 3, 8, .inl (fun _ => 0))), ((a 220), .inl (g 3, 8, .inl (fun _ => 0))), ((a 219), .inl (g 3, 8, .inl (fun _ => 0))), ((a 218), .inl (g 3, 8, .inl (fun _ => 0))), ((a 217), .inl (g 3, 8, .inl (fun _ => 0))), ((a 216), .inl (g 3, 8, .inl (fun _ => 0))), ((a 200), .inr (21, [.int 1, .ref (a 201), .ref (a 202), .ref (a 203), .ref (a 204), .ref (a 205), .ref (a 206), .int 0, .int 0, .int 0, .int 0, .ref (a 208), .ref (a 209), .ref (a 210), .ref (a 211), .ref (a 212), .int 4, .int 12, .int (-1), .int 0, .ref (g 200), .ref (a 213), .int 0, .int 97, .ref (a 214), .ref (a 215), .ref (a 207), .null, .int 0]))] := hD
                        refine lv_if_eq (tgt := 125) hx hb dX15_repair_118 (by decide) (fun c_47 => ?_) (fun c_47 => ?_)
                        · exact absurd c_47 (by decide)
                        · refine lv_iconst (v := 0) hx hb dX15_repair_121 (by decide) ?_
                          refine lv_goto (tgt := 126) hx hb dX15_repair_122 (by decide) ?_
                          have hP9 := hP.sub (ws' := [((a 200), .inr (21, [.int 1, .ref (a 201), .ref (a 202), .ref (a 203), .ref (a 204), .ref (a 205), .ref (a 206), .int 0, .int 0, .int 0, .int 0, .ref (a 208), .ref (a 209), .ref (a 210), .ref (a 211), .ref (a 212), .int 4, .int 12, .int (-1), .int 0, .ref (g 200), .ref (a 213), .int 0, .int 97, .ref (a 214), .ref (a 215), .ref (a 207), .null, .int 0]))]) [9] rfl
                          have hD9 := hD.sub (ws' := [((a 200), .inr (21, [.int 1, .ref (a 201), .ref (a 202), .ref (a 203), .ref (a 204), .ref (a 205), .ref (a 206), .int 0, .int 0, .int 0, .int 0, .ref (a 208), .ref (a 209), .ref (a 210), .ref (a 211), .ref (a 212), .int 4, .int 12, .int (-1), .int 0, .ref (g 200), .ref (a 213), .int 0, .int 97, .ref (a 214), .ref (a 215), .ref (a 207), .null, .int 0]))]) [9] (by decide) rfl
                          refine W.widen (k := 0) (n := 0) (Nat.le_of_ble_eq_true rfl) (Nat.le_of_ble_eq_true rfl) ?_
                          exact W.iret (v := 0) hx hb hr (fun t ht9 hW9 => ⟨⟨0, 1, rfl, (Or.inl ⟨rfl, rfl, (Or.inr (Or.inr (Or.inr (Or.inr ⟨c_2, c_13, c_41, c_45⟩))))⟩), ⟨(by rw [ht9]; exact hP9), hD9⟩⟩, hS.F ht9⟩) hS.2.2 dX15_repair_126 hlocks
                  · obtain ⟨rfl, hw⟩ := hw
                    obtain ⟨c_48, c_49⟩ := hw
                    have hP := ro1 hP hk1
                    refine lv_if_ne (tgt := 105) hx hb dX15_repair_98 (by decide) (fun c_50 => ?_) (fun c_50 => ?_)
                    · refine lv_iload_n hx hb dX15_repair_105 rfl (lv_at hl 1 rfl) ?_
                      refine lv_iconst (v := (-1)) hx hb dX15_repair_106 (by decide) ?_
                      refine lv_icmp_ne (tgt := 114) hx hb dX15_repair_107 (by decide) (fun c_51 => ?_) (fun c_51 => ?_)
                      · refine lv_iconst (v := 0) hx hb dX15_repair_114 (by decide) ?_
                        have hPc : va_P D vwCl [((a 200), f_m a g)] _ := hP.sub (ws' := [((a 200), f_m a g)]) [0] rfl
                        have hDc : va_D (fun q => z0 ≤ q) [((a 200), f_m a g)] := (hD.to hAz).pick (ws' := [((a 200), f_m a g)]) [0] (by decide) rfl
                        have hFc := va_free (wc := [((a 200), f_m a g)]) hD hS hA [0] rfl
                        refine va_calli (va_runV (As := [.int 0]) (rest := []) ⟨hx, hb, hml, hown, ht⟩ (k_X15_isWrong_v1 l D g z0 _ a) (cwV 1 ht (gV w_376 w_378 w_379 w_334 w_377) rfl rfl rfl (by decide +kernel) (le2 rfl rfl)) ⟨PP.blind, va_recv hK.1 hP (ci := 21) (q0 := 0) rfl rfl, PP.mk' hK hZ hz hAz hS hPc hDc⟩ rfl rfl hl.1 rfl (lv_room (Nat.le_of_ble_eq_true rfl)) dX15_repair_115 (le2 rfl rfl)) hS (fun q _ h => hFc q h) hFc (fun r u t H locs ht1 hvm hw hB hz1 hk1 hS => ?_)
                        obtain ⟨rfl, hw⟩ := hw
                        obtain ⟨hP1, hD1⟩ := hB
                        rw [ht1] at hP1
                        obtain ⟨hP, hD⟩ := va_join (wr := [((a 213), .inl (g 6, 8, .inr (.inr (.inr (.inr (fun i => if i < 8 then some (a (216 + i)) else none)))))), ((a 223), .inl (g 3, 8, .inl (fun _ => 0))), ((a 222), .inl (g 3, 8, .inl (fun _ => 0))), ((a 221), .inl (g 3, 8, .inl (fun _ => 0))), ((a 220), .inl (g 3, 8, .inl (fun _ => 0))), ((a 219), .inl (g 3, 8, .inl (fun _ => 0))), ((a 218), .inl (g 3, 8, .inl (fun _ => 0))), ((a 217), .inl (g 3, 8, .inl (fun _ => 0))), ((a 216), .inl (g 3, 8, .inl (fun _ => 0)))]) (w1 := [((a 200), f_m a g)]) hP hD [0] [1, 2, 3, 4, 5, 6, 7, 8, 9] rfl rfl (by decide) (by decide) hk1 hFc hP1 hD1
                        have hP : va_P D vwCl [((a 213), .inl (g 6, 8, .inr (.inr (.inr (.inr (fun i => if i < 8 then some (a (216 + i)) else none)))))), ((a 223), .inl (g 3, 8, .inl (fun _ => 0))), ((a 222), .inl (g 3, 8, .inl (fun _ => 0))), ((a 221), .inl (g 3, 8, .inl (fun _ => 0))), ((a 220), .inl (g 3, 8, .inl (fun _ => 0))), ((a 219), .inl (g 3, 8, .inl (fun _ => 0))), ((a 218), .inl (g 3, 8, .inl (fun _ => 0))), ((a 217), .inl (g 3, 8, .inl (fun _ => 0))), ((a 216), .inl (g 3, 8, .inl (fun _ => 0))), ((a 200), f_m a g)] H := hP
                        have hD : va_D (va_A [((a 200), f_m a g), ((a 213), .inl (g 6, 8, .inr (.inr (.inr (.inr (fun i => if i < 8 then some (a (216 + i)) else none)))))), ((a 223), .inl (g 3, 8, .inl (fun _ => 0))), ((a 222), .inl (g 3, 8, .inl (fun _ => 0))), ((a 221), .inl (g 3, 8, .inl (fun _ => 0))), ((a 220), .inl (g 3, 8, .inl (fun _ => 0))), ((a 219), .inl (g 3, 8, .inl (fun _ => 0))), ((a 218), .inl (g 3, 8, .inl (fun _ => 0))), ((a 217), .inl (g 3, 8, .inl (fun _ => 0))), ((a 216), .inl (g 3, 8, .inl (fun _ => 0)))] s.heap.size) [((a 213), .inl (g 6, 8, .inr (.inr (.inr (.inr (fun i => if i < 8 then some (a (216 + i)) else none)))))), ((a 223), .inl (g 3, 8, .inl (fun _ => 0))), ((a 222), .inl (g 3, 8, .inl (fun _ => 0))), ((a 221), .inl (g 3, 8, .inl (fun _ => 0))), ((a 220), .inl (g 3, 8, .inl (fun _ => 0))), ((a 219), .inl (g 3, 8, .inl (fun _ => 0))), ((a 218), .inl (g 3, 8, .inl (fun _ => 0))), ((a 217), .inl (g 3, 8, .inl (fun _ => 0))), ((a 216), .inl (g 3, 8, .inl (fun _ => 0))), ((a 200), f_m a g)] := hD
                        refine lv_if_eq (tgt := 125) hx hb dX15_repair_118 (by decide) (fun c_52 => ?_) (fun c_52 => ?_)
                        · refine lv_iload_n hx hb dX15_repair_125 rfl (lv_at hl 1 rfl) ?_
                          have hP9 := hP.sub (ws' := [((a 200), f_m a g)]) [9] rfl
                          have hD9 := hD.sub (ws' := [((a 200), f_m a g)]) [9] (by decide) rfl
                          refine W.widen (k := 0) (n := 0) (Nat.le_of_ble_eq_true rfl) (Nat.le_of_ble_eq_true rfl) ?_
                          exact W.iret (v := 0) hx hb hr (fun t ht9 hW9 => ⟨⟨0, 0, rfl, (Or.inr ⟨rfl, rfl, ⟨c_2, c_13, c_41, c_49⟩⟩), ⟨(by rw [ht9]; exact hP9), hD9⟩⟩, hS.F ht9⟩) hS.2.2 dX15_repair_126 hlocks
                        · exact absurd c_52 (by decide)
                      · exact absurd c_51 (by decide)
                    · exact absurd c_50 (by decide)
            | succ k ih =>
              intro i hi H locs hP hD hS ls hl
              have hlt : i < 256 := by omega
              refine lv_iload hx hb dX15_repair_8 (lv_at hl 0 rfl) ?_
              refine lv_sipush (v := 256) hx hb dX15_repair_10 (by decide) ?_
              refine lv_icmp_ge (tgt := 80) hx hb dX15_repair_13 (by decide) (fun c_53 => absurd c_53 (nI_ge hlt (by decide))) (fun c_53 => ?_)
              refine lv_aload_n hx hb dX15_repair_16 rfl (lv_at hl 3 rfl) ?_
              refine lv_iload hx hb dX15_repair_17 (lv_at hl 0 rfl) ?_
              have hPc : va_P D vwCl [((a 200), f_m a g), ((a 213), .inl (g 6, 8, .inr (.inr (.inr (.inr (fun i => if i < 8 then some (a (216 + i)) else none)))))), ((a 223), .inl (g 3, 8, .inl (fun _ => 0))), ((a 222), .inl (g 3, 8, .inl (fun _ => 0))), ((a 221), .inl (g 3, 8, .inl (fun _ => 0))), ((a 220), .inl (g 3, 8, .inl (fun _ => 0))), ((a 219), .inl (g 3, 8, .inl (fun _ => 0))), ((a 218), .inl (g 3, 8, .inl (fun _ => 0))), ((a 217), .inl (g 3, 8, .inl (fun _ => 0))), ((a 216), .inl (g 3, 8, .inl (fun _ => 0)))] _ := hP.sub (ws' := [((a 200), f_m a g), ((a 213), .inl (g 6, 8, .inr (.inr (.inr (.inr (fun i => if i < 8 then some (a (216 + i)) else none)))))), ((a 223), .inl (g 3, 8, .inl (fun _ => 0))), ((a 222), .inl (g 3, 8, .inl (fun _ => 0))), ((a 221), .inl (g 3, 8, .inl (fun _ => 0))), ((a 220), .inl (g 3, 8, .inl (fun _ => 0))), ((a 219), .inl (g 3, 8, .inl (fun _ => 0))), ((a 218), .inl (g 3, 8, .inl (fun _ => 0))), ((a 217), .inl (g 3, 8, .inl (fun _ => 0))), ((a 216), .inl (g 3, 8, .inl (fun _ => 0)))]) [0, 1, 2, 3, 4, 5, 6, 7, 8, 9] rfl
              have hDc : va_D (fun q => z0 ≤ q) [((a 200), f_m a g), ((a 213), .inl (g 6, 8, .inr (.inr (.inr (.inr (fun i => if i < 8 then some (a (216 + i)) else none)))))), ((a 223), .inl (g 3, 8, .inl (fun _ => 0))), ((a 222), .inl (g 3, 8, .inl (fun _ => 0))), ((a 221), .inl (g 3, 8, .inl (fun _ => 0))), ((a 220), .inl (g 3, 8, .inl (fun _ => 0))), ((a 219), .inl (g 3, 8, .inl (fun _ => 0))), ((a 218), .inl (g 3, 8, .inl (fun _ => 0))), ((a 217), .inl (g 3, 8, .inl (fun _ => 0))), ((a 216), .inl (g 3, 8, .inl (fun _ => 0)))] := (hD.to hAz).pick (ws' := [((a 200), f_m a g), ((a 213), .inl (g 6, 8, .inr (.inr (.inr (.inr (fun i => if i < 8 then some (a (216 + i)) else none)))))), ((a 223), .inl (g 3, 8, .inl (fun _ => 0))), ((a 222), .inl (g 3, 8, .inl (fun _ => 0))), ((a 221), .inl (g 3, 8, .inl (fun _ => 0))), ((a 220), .inl (g 3, 8, .inl (fun _ => 0))), ((a 219), .inl (g 3, 8, .inl (fun _ => 0))), ((a 218), .inl (g 3, 8, .inl (fun _ => 0))), ((a 217), .inl (g 3, 8, .inl (fun _ => 0))), ((a 216), .inl (g 3, 8, .inl (fun _ => 0)))]) [0, 1, 2, 3, 4, 5, 6, 7, 8, 9] (by decide) rfl
              have hFc := AnA (ws := [((a 200), f_m a g), ((a 213), .inl (g 6, 8, .inr (.inr (.inr (.inr (fun i => if i < 8 then some (a (216 + i)) else none)))))), ((a 223), .inl (g 3, 8, .inl (fun _ => 0))), ((a 222), .inl (g 3, 8, .inl (fun _ => 0))), ((a 221), .inl (g 3, 8, .inl (fun _ => 0))), ((a 220), .inl (g 3, 8, .inl (fun _ => 0))), ((a 219), .inl (g 3, 8, .inl (fun _ => 0))), ((a 218), .inl (g 3, 8, .inl (fun _ => 0))), ((a 217), .inl (g 3, 8, .inl (fun _ => 0))), ((a 216), .inl (g 3, 8, .inl (fun _ => 0)))]) hS.1
              refine va_calli (va_runV (As := [.int (nI i)]) (rest := []) ⟨hx, hb, hml, hown, ht⟩ (k_X15_columnsFor_v1 l D g z0 _ a (nI i)) (cwV 1 ht (gV w_1281 w_1283 w_1284 w_334 w_1282) rfl rfl rfl (by decide +kernel) (le2 rfl rfl)) ⟨PP.blind, va_recv hK.1 hP (ci := 21) (q0 := 0) rfl rfl, PP.mk' hK hZ hz hAz hS hPc hDc⟩ rfl rfl hl.1 rfl (lv_room (Nat.le_of_ble_eq_true rfl)) dX15_repair_19 (le2 rfl rfl)) hS (fun q _ h => hFc q h) hFc (fun r u t H locs ht1 hvm hw hB hz1 hk1 hS => ?_)
              obtain ⟨rfl, hw⟩ := hw
              have hP := ro1 hP hk1
              have hPc : va_P D vwCl [] _ := hP.sub (ws' := []) [] rfl
              have hDc : va_D (fun q => z0 ≤ q) [] := (hD.to hAz).pick (ws' := []) [] (by decide) rfl
              have hFc := AnA (ws := [((a 200), f_m a g), ((a 213), .inl (g 6, 8, .inr (.inr (.inr (.inr (fun i => if i < 8 then some (a (216 + i)) else none)))))), ((a 223), .inl (g 3, 8, .inl (fun _ => 0))), ((a 222), .inl (g 3, 8, .inl (fun _ => 0))), ((a 221), .inl (g 3, 8, .inl (fun _ => 0))), ((a 220), .inl (g 3, 8, .inl (fun _ => 0))), ((a 219), .inl (g 3, 8, .inl (fun _ => 0))), ((a 218), .inl (g 3, 8, .inl (fun _ => 0))), ((a 217), .inl (g 3, 8, .inl (fun _ => 0))), ((a 216), .inl (g 3, 8, .inl (fun _ => 0)))]) hS.1
              refine va_calli (va_runS (As := [.int 0]) (rest := []) ⟨hx, hb, hml, hown, ht⟩ (k_J6_bitCount_0f7a4 l D g z0 _ a) (va_cwS 1 ht (gS w_1256 w_279 w_280 w_278) rfl rfl rfl (by decide +kernel) (le2 rfl rfl)) ⟨PP.blind, PP.mk' hK hZ hz hAz hS hPc hDc⟩ rfl rfl hl.1 rfl (lv_room (Nat.le_of_ble_eq_true rfl)) dX15_repair_22 (le2 rfl rfl)) hS (fun q _ h => hFc q h) hFc (fun r u t H locs ht1 hvm hw hB hz1 hk1 hS => ?_)
              obtain ⟨rfl, hw⟩ := hw
              have hP := ro1 hP hk1
              refine lv_istore (lv' := [(6, .int 0), (5, .int (nI i)), (3, .int 0), (4, .int 0), (0, .ref (a 200)), (1, .int p0), (2, .int p1)]) hx hb dX15_repair_25 hl (by decide) rfl (fun ls hl => ?_)
              refine lv_iload hx hb dX15_repair_27 (lv_at hl 1 rfl) ?_
              have hPc : va_P D vwCl [] _ := hP.sub (ws' := []) [] rfl
              have hDc : va_D (fun q => z0 ≤ q) [] := (hD.to hAz).pick (ws' := []) [] (by decide) rfl
              have hFc := AnA (ws := [((a 200), f_m a g), ((a 213), .inl (g 6, 8, .inr (.inr (.inr (.inr (fun i => if i < 8 then some (a (216 + i)) else none)))))), ((a 223), .inl (g 3, 8, .inl (fun _ => 0))), ((a 222), .inl (g 3, 8, .inl (fun _ => 0))), ((a 221), .inl (g 3, 8, .inl (fun _ => 0))), ((a 220), .inl (g 3, 8, .inl (fun _ => 0))), ((a 219), .inl (g 3, 8, .inl (fun _ => 0))), ((a 218), .inl (g 3, 8, .inl (fun _ => 0))), ((a 217), .inl (g 3, 8, .inl (fun _ => 0))), ((a 216), .inl (g 3, 8, .inl (fun _ => 0)))]) hS.1
              refine va_calli (va_runS (As := [.int (nI i)]) (rest := []) ⟨hx, hb, hml, hown, ht⟩ (k_J6_bitCount_0f7a4_v1 l D g z0 _ a (nI i)) (va_cwS 1 ht (gS w_1256 w_279 w_280 w_278) rfl rfl rfl (by decide +kernel) (le2 rfl rfl)) ⟨PP.blind, PP.mk' hK hZ hz hAz hS hPc hDc⟩ rfl rfl hl.1 rfl (lv_room (Nat.le_of_ble_eq_true rfl)) dX15_repair_29 (le2 rfl rfl)) hS (fun q _ h => hFc q h) hFc (fun r u t H locs ht1 hvm hw hB hz1 hk1 hS => ?_)
              obtain ⟨rfl, hw⟩ := hw
              have hP := ro1 hP hk1
              refine lv_iload hx hb dX15_repair_32 (lv_at hl 0 rfl) ?_
              refine lv_iadd hx hb dX15_repair_34 ?_
              refine lv_istore (lv' := [(7, .int ((zBits (nI i)) + 0)), (6, .int 0), (5, .int (nI i)), (3, .int 0), (4, .int 0), (0, .ref (a 200)), (1, .int p0), (2, .int p1)]) hx hb dX15_repair_35 hl (by decide) rfl (fun ls hl => ?_)
              refine lv_iload hx hb dX15_repair_37 (lv_at hl 2 rfl) ?_
              have hPc : va_P D vwCl [] _ := hP.sub (ws' := []) [] rfl
              have hDc : va_D (fun q => z0 ≤ q) [] := (hD.to hAz).pick (ws' := []) [] (by decide) rfl
              have hFc := AnA (ws := [((a 200), f_m a g), ((a 213), .inl (g 6, 8, .inr (.inr (.inr (.inr (fun i => if i < 8 then some (a (216 + i)) else none)))))), ((a 223), .inl (g 3, 8, .inl (fun _ => 0))), ((a 222), .inl (g 3, 8, .inl (fun _ => 0))), ((a 221), .inl (g 3, 8, .inl (fun _ => 0))), ((a 220), .inl (g 3, 8, .inl (fun _ => 0))), ((a 219), .inl (g 3, 8, .inl (fun _ => 0))), ((a 218), .inl (g 3, 8, .inl (fun _ => 0))), ((a 217), .inl (g 3, 8, .inl (fun _ => 0))), ((a 216), .inl (g 3, 8, .inl (fun _ => 0)))]) hS.1
              refine va_calli (va_runS (As := [.int (nI i)]) (rest := []) ⟨hx, hb, hml, hown, ht⟩ (k_J6_bitCount_0f7a4_v1 l D g z0 _ a (nI i)) (va_cwS 1 ht (gS w_1256 w_279 w_280 w_278) rfl rfl rfl (by decide +kernel) (le2 rfl rfl)) ⟨PP.blind, PP.mk' hK hZ hz hAz hS hPc hDc⟩ rfl rfl hl.1 rfl (lv_room (Nat.le_of_ble_eq_true rfl)) dX15_repair_39 (le2 rfl rfl)) hS (fun q _ h => hFc q h) hFc (fun r u t H locs ht1 hvm hw hB hz1 hk1 hS => ?_)
              obtain ⟨rfl, hw⟩ := hw
              have hP := ro1 hP hk1
              refine lv_iload_n hx hb dX15_repair_42 rfl (lv_at hl 6 rfl) ?_
              refine lv_icmp_gt (tgt := 74) hx hb dX15_repair_43 (by decide) (fun c_54 => ?_) (fun c_54 => ?_)
              · refine lv_iinc (v := nI (i + 1)) (lv' := [(5, .int (nI (i + 1))), (7, .int ((zBits (nI i)) + 0)), (6, .int 0), (3, .int 0), (4, .int 0), (0, .ref (a 200)), (1, .int p0), (2, .int p1)]) hx hb dX15_repair_74 hl (k := 2) rfl (nI_1 i) (by decide) rfl (fun ls hl => ?_)
                refine lv_goto (tgt := 8) hx hb dX15_repair_77 (by decide) ?_
                exact ih (i + 1) (by omega) H locs hP hD hS ls (lv_sub hl [0, 3, 4, 5, 6, 7] rfl)
              · refine lv_iload hx hb dX15_repair_46 (lv_at hl 1 rfl) ?_
                refine lv_iload_n hx hb dX15_repair_48 rfl (lv_at hl 7 rfl) ?_
                refine lv_icmp_gt (tgt := 74) hx hb dX15_repair_49 (by decide) (fun c_55 => ?_) (fun c_55 => ?_)
                · exact absurd c_55 c_13
                · refine lv_iload_n hx hb dX15_repair_52 rfl (lv_at hl 3 rfl) ?_
                  refine lv_iconst (v := (-1)) hx hb dX15_repair_53 (by decide) ?_
                  refine lv_icmp_eq (tgt := 67) hx hb dX15_repair_54 (by decide) (fun c_56 => ?_) (fun c_56 => ?_)
                  · exact absurd c_56 (by decide)
                  · refine lv_iload hx hb dX15_repair_57 (lv_at hl 0 rfl) ?_
                    refine lv_iload hx hb dX15_repair_59 (lv_at hl 4 rfl) ?_
                    refine lv_icmp_lt (tgt := 67) hx hb dX15_repair_61 (by decide) (fun c_57 => ?_) (fun c_57 => ?_)
                    · exact absurd (zBits_nn _) (Int32.not_le.mpr c_57)
                    · refine lv_goto (tgt := 74) hx hb dX15_repair_64 (by decide) ?_
                      refine lv_iinc (v := nI (i + 1)) (lv' := [(5, .int (nI (i + 1))), (7, .int ((zBits (nI i)) + 0)), (6, .int 0), (3, .int 0), (4, .int 0), (0, .ref (a 200)), (1, .int p0), (2, .int p1)]) hx hb dX15_repair_74 hl (k := 2) rfl (nI_1 i) (by decide) rfl (fun ls hl => ?_)
                      refine lv_goto (tgt := 8) hx hb dX15_repair_77 (by decide) ?_
                      exact ih (i + 1) (by omega) H locs hP hD hS ls (lv_sub hl [0, 3, 4, 5, 6, 7] rfl)
          exact loop (256 - 1) 1 (by omega) _ _ hP hD hS ls (lv_sub hl [0, 2, 1, 5, 6, 7] rfl)
        · exact absurd c_33 (by decide)
set_option maxHeartbeats 4000000 in
set_option maxRecDepth 100000 in
theorem lw_case_58 {p : Program} {l : Launch} {e : Env} {s : State} {m : MethodId} {below : List Frame} {meth : Method} {c : Code} {H : Heap} {locs : List Loc} {ls : Array Slot} {Q : State → Prop} {D : va_G} {g : Nat → ClassId} {z0 b : Nat} {xs : Nat → Int32} {a : Nat → Nat} {o1 o2 : Nat} (hfl : l.stackTraces = false) (hx : p.tables.exec = Jvm.exec) (hb : c.code = cL_law) (hml : c.maxLocals = 9) (hown : s.vm.findClass RL = some m.cls) (ht : ∀ w ∈ TG, w.before #[Value.ref b] s = true) (hX : va_X b 6 xs s s.heap) (hbl : b < s.heap.size) (hbA : ¬ va_A [] s.heap.size b) (hK : KK D g s) (hZ : ZZ g z0 s) (hz : z0 ≤ s.heap.size) (hAz : ∀ q, va_A [] s.heap.size q → z0 ≤ q) (hP : va_P D vwCl (lwW a g o1 o2) H) (hD : va_D (va_A [] s.heap.size) (lwW a g o1 o2)) (hS : va_S (va_A [] s.heap.size) s.heap H locs) (hl : lv_has ls 9 [(0, .ref b), (1, .ref (a 0)), (2, .ref (a 200)), (3, .ref o1), (4, .ref o2), (5, .int 0)])
    (kk : ∀ (H : Heap) (locs : List Loc) (ls : Array Slot), va_S (va_A [] s.heap.size) s.heap H locs → lv_has ls 9 [(5, .int 0), (0, .ref b)] → W p l e room_1 s m #[Value.ref b] below meth c H locs (200 + 300) (8000 + 2000) Q (F0 m 4264 ls [])) :
    W p l e room_1 s m #[Value.ref b] below meth c H locs 200 8000 Q (F0 m 3479 ls []) := by
  have hA : ∀ q : Nat, s.heap.size ≤ q → va_A [] s.heap.size q := Anw
  have hP := hP.sub (ws' := [((a 0), f_x a), ((a 60), .inl (g 0, 8, .inl (fun _ => 0))), ((a 9), f_memory a), ((a 200), f_m a g), ((a 213), .inl (g 6, 8, .inr (.inr (.inr (.inr (fun i => if i < 8 then some (a (216 + i)) else none)))))), ((a 216), .inl (g 3, 8, .inl (fun _ => 0))), ((a 217), .inl (g 3, 8, .inl (fun _ => 0))), ((a 218), .inl (g 3, 8, .inl (fun _ => 0))), ((a 219), .inl (g 3, 8, .inl (fun _ => 0))), ((a 220), .inl (g 3, 8, .inl (fun _ => 0))), ((a 221), .inl (g 3, 8, .inl (fun _ => 0))), ((a 222), .inl (g 3, 8, .inl (fun _ => 0))), ((a 223), .inl (g 3, 8, .inl (fun _ => 0))), (o1, .inl (g 1, 1, .inr (.inl (fun _ => 0))))]) [0, 17, 18, 26, 39, 40, 41, 42, 43, 44, 45, 46, 47, 61] rfl
  have hD := hD.sub (ws' := [((a 0), f_x a), ((a 60), .inl (g 0, 8, .inl (fun _ => 0))), ((a 9), f_memory a), ((a 200), f_m a g), ((a 213), .inl (g 6, 8, .inr (.inr (.inr (.inr (fun i => if i < 8 then some (a (216 + i)) else none)))))), ((a 216), .inl (g 3, 8, .inl (fun _ => 0))), ((a 217), .inl (g 3, 8, .inl (fun _ => 0))), ((a 218), .inl (g 3, 8, .inl (fun _ => 0))), ((a 219), .inl (g 3, 8, .inl (fun _ => 0))), ((a 220), .inl (g 3, 8, .inl (fun _ => 0))), ((a 221), .inl (g 3, 8, .inl (fun _ => 0))), ((a 222), .inl (g 3, 8, .inl (fun _ => 0))), ((a 223), .inl (g 3, 8, .inl (fun _ => 0))), (o1, .inl (g 1, 1, .inr (.inl (fun _ => 0))))]) [0, 17, 18, 26, 39, 40, 41, 42, 43, 44, 45, 46, 47, 61] (by decide) rfl
  refine lv_aload_n hx hb dL_law_3479 rfl (lv_at hl 1 rfl) ?_
  refine lv_aload_n hx hb dL_law_3480 rfl (lv_at hl 0 rfl) ?_
  refine lv_iload hx hb dL_law_3481 (lv_at hl 5 rfl) ?_
  refine lv_iconst (v := 1) hx hb dL_law_3483 (by decide) ?_
  refine lv_iadd hx hb dL_law_3484 ?_
  refine r_topi (v := 1) (by decide) ?_
  refine va_sld hx hb hX hbl hbA hS (by unfold vp_in; decide) dL_law_3485 ?_
  refine r_topi (v := xs 1) (congrArg xs (by decide)) ?_
  refine lv_aload_n hx hb dL_law_3486 rfl (lv_at hl 0 rfl) ?_
  refine lv_iload hx hb dL_law_3487 (lv_at hl 5 rfl) ?_
  refine lv_iconst (v := 2) hx hb dL_law_3489 (by decide) ?_
  refine lv_iadd hx hb dL_law_3490 ?_
  refine r_topi (v := 2) (by decide) ?_
  refine va_sld hx hb hX hbl hbA hS (by unfold vp_in; decide) dL_law_3491 ?_
  refine r_topi (v := xs 2) (congrArg xs (by decide)) ?_
  refine lv_aload_n hx hb dL_law_3492 rfl (lv_at hl 3 rfl) ?_
  have hPc : va_P D vwCl [(o1, .inl (g 1, 1, .inr (.inl (fun _ => 0)))), ((a 0), f_x a), ((a 9), f_memory a), ((a 60), .inl (g 0, 8, .inl (fun _ => 0)))] _ := hP.sub (ws' := [(o1, .inl (g 1, 1, .inr (.inl (fun _ => 0)))), ((a 0), f_x a), ((a 9), f_memory a), ((a 60), .inl (g 0, 8, .inl (fun _ => 0)))]) [13, 0, 2, 1] rfl
  have hDc : va_D (fun q => z0 ≤ q) [(o1, .inl (g 1, 1, .inr (.inl (fun _ => 0)))), ((a 0), f_x a), ((a 9), f_memory a), ((a 60), .inl (g 0, 8, .inl (fun _ => 0)))] := (hD.to hAz).pick (ws' := [(o1, .inl (g 1, 1, .inr (.inl (fun _ => 0)))), ((a 0), f_x a), ((a 9), f_memory a), ((a 60), .inl (g 0, 8, .inl (fun _ => 0)))]) [13, 0, 2, 1] (by decide) rfl
  have hFc := va_free (wc := [(o1, .inl (g 1, 1, .inr (.inl (fun _ => 0)))), ((a 0), f_x a), ((a 9), f_memory a), ((a 60), .inl (g 0, 8, .inl (fun _ => 0)))]) hD hS hA [13, 0, 2, 1] rfl
  refine va_calli (vx_runSW (As := [.ref (a 0), .int (xs 1), .int (xs 2), .ref o1]) (rest := []) ⟨hx, hb, hml, hown, ht⟩ (k_L_repair l hfl D g z0 _ a (xs 1) (xs 2) o1) (vx_cwSW 4 ht (gS w_1285 w_1287 w_767 w_1286) rfl rfl rfl (by decide +kernel) (le2 rfl rfl)) ⟨PP.blind, PP.mk' hK hZ hz hAz hS hPc hDc⟩ rfl rfl hl.1 rfl (lv_room (Nat.le_of_ble_eq_true rfl)) dL_law_3493 (le2 rfl rfl)) hS (fun q _ h => hFc q h) hFc (fun r u t H locs ht1 hvm hw hB hz1 hk1 hS => ?_)
  rcases hw with hw | hw
  · obtain ⟨rfl, hw⟩ := hw
    rcases hw with hw | hw | hw | hw
    · have c_1 := hw
      obtain ⟨hP1, hD1⟩ := hB
      rw [ht1] at hP1
      obtain ⟨hP, hD⟩ := va_join (wr := [((a 200), f_m a g), ((a 213), .inl (g 6, 8, .inr (.inr (.inr (.inr (fun i => if i < 8 then some (a (216 + i)) else none)))))), ((a 216), .inl (g 3, 8, .inl (fun _ => 0))), ((a 217), .inl (g 3, 8, .inl (fun _ => 0))), ((a 218), .inl (g 3, 8, .inl (fun _ => 0))), ((a 219), .inl (g 3, 8, .inl (fun _ => 0))), ((a 220), .inl (g 3, 8, .inl (fun _ => 0))), ((a 221), .inl (g 3, 8, .inl (fun _ => 0))), ((a 222), .inl (g 3, 8, .inl (fun _ => 0))), ((a 223), .inl (g 3, 8, .inl (fun _ => 0)))]) (w1 := [(o1, .inl (g 1, 1, .inr (.inl (fun _ => 0))))]) hP hD [13, 0, 2, 1] [3, 4, 5, 6, 7, 8, 9, 10, 11, 12] rfl rfl (by decide) (by decide) hk1 hFc hP1 hD1
      have hP : va_P D vwCl [((a 200), f_m a g), ((a 213), .inl (g 6, 8, .inr (.inr (.inr (.inr (fun i => if i < 8 then some (a (216 + i)) else none)))))), ((a 216), .inl (g 3, 8, .inl (fun _ => 0))), ((a 217), .inl (g 3, 8, .inl (fun _ => 0))), ((a 218), .inl (g 3, 8, .inl (fun _ => 0))), ((a 219), .inl (g 3, 8, .inl (fun _ => 0))), ((a 220), .inl (g 3, 8, .inl (fun _ => 0))), ((a 221), .inl (g 3, 8, .inl (fun _ => 0))), ((a 222), .inl (g 3, 8, .inl (fun _ => 0))), ((a 223), .inl (g 3, 8, .inl (fun _ => 0))), (o1, .inl (g 1, 1, .inr (.inl (fun _ => 0))))] H := hP
      have hD : va_D (va_A [] s.heap.size) [((a 200), f_m a g), ((a 213), .inl (g 6, 8, .inr (.inr (.inr (.inr (fun i => if i < 8 then some (a (216 + i)) else none)))))), ((a 216), .inl (g 3, 8, .inl (fun _ => 0))), ((a 217), .inl (g 3, 8, .inl (fun _ => 0))), ((a 218), .inl (g 3, 8, .inl (fun _ => 0))), ((a 219), .inl (g 3, 8, .inl (fun _ => 0))), ((a 220), .inl (g 3, 8, .inl (fun _ => 0))), ((a 221), .inl (g 3, 8, .inl (fun _ => 0))), ((a 222), .inl (g 3, 8, .inl (fun _ => 0))), ((a 223), .inl (g 3, 8, .inl (fun _ => 0))), (o1, .inl (g 1, 1, .inr (.inl (fun _ => 0))))] := hD
      refine lv_istore (lv' := [(6, .int 1), (0, .ref b), (1, .ref (a 0)), (2, .ref (a 200)), (3, .ref o1), (4, .ref o2), (5, .int 0)]) hx hb dL_law_3496 hl (by decide) rfl (fun ls hl => ?_)
      refine lv_aload_n hx hb dL_law_3498 rfl (lv_at hl 3 rfl) ?_
      refine lv_aload_n hx hb dL_law_3499 rfl (lv_at hl 1 rfl) ?_
      refine lv_iload hx hb dL_law_3500 (lv_at hl 6 rfl) ?_
      refine lv_iconst (v := 1) hx hb dL_law_3502 (by decide) ?_
      refine lv_iadd hx hb dL_law_3503 ?_
      refine r_topi (v := 1) (by decide) ?_
      refine va_sld hx hb hX hbl hbA hS (by unfold vp_in; decide) dL_law_3504 ?_
      refine r_topi (v := xs 1) (congrArg xs (by decide)) ?_
      refine lv_aload_n hx hb dL_law_3505 rfl (lv_at hl 1 rfl) ?_
      refine lv_iload hx hb dL_law_3506 (lv_at hl 6 rfl) ?_
      refine lv_iconst (v := 2) hx hb dL_law_3508 (by decide) ?_
      refine lv_iadd hx hb dL_law_3509 ?_
      refine r_topi (v := 2) (by decide) ?_
      refine va_sld hx hb hX hbl hbA hS (by unfold vp_in; decide) dL_law_3510 ?_
      refine r_topi (v := xs 2) (congrArg xs (by decide)) ?_
      have hPc : va_P D vwCl [((a 200), f_m a g), ((a 213), .inl (g 6, 8, .inr (.inr (.inr (.inr (fun i => if i < 8 then some (a (216 + i)) else none)))))), ((a 223), .inl (g 3, 8, .inl (fun _ => 0))), ((a 222), .inl (g 3, 8, .inl (fun _ => 0))), ((a 221), .inl (g 3, 8, .inl (fun _ => 0))), ((a 220), .inl (g 3, 8, .inl (fun _ => 0))), ((a 219), .inl (g 3, 8, .inl (fun _ => 0))), ((a 218), .inl (g 3, 8, .inl (fun _ => 0))), ((a 217), .inl (g 3, 8, .inl (fun _ => 0))), ((a 216), .inl (g 3, 8, .inl (fun _ => 0)))] _ := hP.sub (ws' := [((a 200), f_m a g), ((a 213), .inl (g 6, 8, .inr (.inr (.inr (.inr (fun i => if i < 8 then some (a (216 + i)) else none)))))), ((a 223), .inl (g 3, 8, .inl (fun _ => 0))), ((a 222), .inl (g 3, 8, .inl (fun _ => 0))), ((a 221), .inl (g 3, 8, .inl (fun _ => 0))), ((a 220), .inl (g 3, 8, .inl (fun _ => 0))), ((a 219), .inl (g 3, 8, .inl (fun _ => 0))), ((a 218), .inl (g 3, 8, .inl (fun _ => 0))), ((a 217), .inl (g 3, 8, .inl (fun _ => 0))), ((a 216), .inl (g 3, 8, .inl (fun _ => 0)))]) [0, 1, 9, 8, 7, 6, 5, 4, 3, 2] rfl
      have hDc : va_D (fun q => z0 ≤ q) [((a 200), f_m a g), ((a 213), .inl (g 6, 8, .inr (.inr (.inr (.inr (fun i => if i < 8 then some (a (216 + i)) else none)))))), ((a 223), .inl (g 3, 8, .inl (fun _ => 0))), ((a 222), .inl (g 3, 8, .inl (fun _ => 0))), ((a 221), .inl (g 3, 8, .inl (fun _ => 0))), ((a 220), .inl (g 3, 8, .inl (fun _ => 0))), ((a 219), .inl (g 3, 8, .inl (fun _ => 0))), ((a 218), .inl (g 3, 8, .inl (fun _ => 0))), ((a 217), .inl (g 3, 8, .inl (fun _ => 0))), ((a 216), .inl (g 3, 8, .inl (fun _ => 0)))] := (hD.to hAz).pick (ws' := [((a 200), f_m a g), ((a 213), .inl (g 6, 8, .inr (.inr (.inr (.inr (fun i => if i < 8 then some (a (216 + i)) else none)))))), ((a 223), .inl (g 3, 8, .inl (fun _ => 0))), ((a 222), .inl (g 3, 8, .inl (fun _ => 0))), ((a 221), .inl (g 3, 8, .inl (fun _ => 0))), ((a 220), .inl (g 3, 8, .inl (fun _ => 0))), ((a 219), .inl (g 3, 8, .inl (fun _ => 0))), ((a 218), .inl (g 3, 8, .inl (fun _ => 0))), ((a 217), .inl (g 3, 8, .inl (fun _ => 0))), ((a 216), .inl (g 3, 8, .inl (fun _ => 0)))]) [0, 1, 9, 8, 7, 6, 5, 4, 3, 2] (by decide) rfl
      have hFc := va_free (wc := [((a 200), f_m a g), ((a 213), .inl (g 6, 8, .inr (.inr (.inr (.inr (fun i => if i < 8 then some (a (216 + i)) else none)))))), ((a 223), .inl (g 3, 8, .inl (fun _ => 0))), ((a 222), .inl (g 3, 8, .inl (fun _ => 0))), ((a 221), .inl (g 3, 8, .inl (fun _ => 0))), ((a 220), .inl (g 3, 8, .inl (fun _ => 0))), ((a 219), .inl (g 3, 8, .inl (fun _ => 0))), ((a 218), .inl (g 3, 8, .inl (fun _ => 0))), ((a 217), .inl (g 3, 8, .inl (fun _ => 0))), ((a 216), .inl (g 3, 8, .inl (fun _ => 0)))]) hD hS hA [0, 1, 9, 8, 7, 6, 5, 4, 3, 2] rfl
      refine va_calli (va_runV (As := [.int (xs 1), .int (xs 2)]) (rest := []) ⟨hx, hb, hml, hown, ht⟩ (k_X15_repair l D g z0 _ a (xs 1) (xs 2)) (cwV 2 ht (gV w_1288 w_1290 w_1291 w_334 w_1289) rfl rfl rfl (by decide +kernel) (le2 rfl rfl)) ⟨PP.blind, va_recv hK.1 hP (ci := 21) (q0 := 0) rfl rfl, PP.mk' hK hZ hz hAz hS hPc hDc⟩ rfl rfl hl.1 rfl (lv_room (Nat.le_of_ble_eq_true rfl)) dL_law_3511 (le2 rfl rfl)) hS (fun q _ h => hFc q h) hFc (fun r u t H locs ht1 hvm hw hB hz1 hk1 hS => ?_)
      rcases hw with hw | hw
      · obtain ⟨rfl, rfl, hw⟩ := hw
        rcases hw with hw | hw | hw | hw | hw
        · have c_2 := hw
          obtain ⟨hP1, hD1⟩ := hB
          rw [ht1] at hP1
          obtain ⟨hP, hD⟩ := va_join (wr := [(o1, .inl (g 1, 1, .inr (.inl (fun _ => 0))))]) (w1 := [((a 200), .inr (21, [.int 1, .ref (a 201), .ref (a 202), .ref (a 203), .ref (a 204), .ref (a 205), .ref (a 206), .int 0, .int 0, .int 0, .int 0, .ref (a 208), .ref (a 209), .ref (a 210), .ref (a 211), .ref (a 212), .int 4, .int 12, .int (-1), .int 0, .ref (g 200), .ref (a 213), .int 0, .int 97, .ref (a 214), .ref (a 215), .ref (a 207), .null, .int 0]))]) hP hD [0, 1, 9, 8, 7, 6, 5, 4, 3, 2] [10] rfl rfl (by decide) (by decide) hk1 hFc hP1 hD1
          have hP : va_P D vwCl [(o1, .inl (g 1, 1, .inr (.inl (fun _ => 0)))), ((a 200), .inr (21, [.int 1, .ref (a 201), .ref (a 202), .ref (a 203), .ref (a 204), .ref (a 205), .ref (a 206), .int 0, .int 0, .int 0, .int 0, .ref (a 208), .ref (a 209), .ref (a 210), .ref (a 211), .ref (a 212), .int 4, .int 12, .int (-1), .int 0, .ref (g 200), .ref (a 213), .int 0, .int 97, .ref (a 214), .ref (a 215), .ref (a 207), .null, .int 0]))] H := hP
          have hD : va_D (va_A [] s.heap.size) [(o1, .inl (g 1, 1, .inr (.inl (fun _ => 0)))), ((a 200), .inr (21, [.int 1, .ref (a 201), .ref (a 202), .ref (a 203), .ref (a 204), .ref (a 205), .ref (a 206), .int 0, .int 0, .int 0, .int 0, .ref (a 208), .ref (a 209), .ref (a 210), .ref (a 211), .ref (a 212), .int 4, .int 12, .int (-1), .int 0, .ref (g 200), .ref (a 213), .int 0, .int 97, .ref (a 214), .ref (a 215), .ref (a 207), .null, .int 0]))] := hD
          refine lv_istore (lv' := [(7, .int 0), (6, .int 1), (0, .ref b), (1, .ref (a 0)), (2, .ref (a 200)), (3, .ref o1), (4, .ref o2), (5, .int 0)]) hx hb dL_law_3514 hl (by decide) rfl (fun ls hl => ?_)
          refine lv_aload_n hx hb dL_law_3516 rfl (lv_at hl 4 rfl) ?_
          have hPc : va_P D vwCl [((a 200), .inr (21, [.int 1, .ref (a 201), .ref (a 202), .ref (a 203), .ref (a 204), .ref (a 205), .ref (a 206), .int 0, .int 0, .int 0, .int 0, .ref (a 208), .ref (a 209), .ref (a 210), .ref (a 211), .ref (a 212), .int 4, .int 12, .int (-1), .int 0, .ref (g 200), .ref (a 213), .int 0, .int 97, .ref (a 214), .ref (a 215), .ref (a 207), .null, .int 0]))] _ := hP.sub (ws' := [((a 200), .inr (21, [.int 1, .ref (a 201), .ref (a 202), .ref (a 203), .ref (a 204), .ref (a 205), .ref (a 206), .int 0, .int 0, .int 0, .int 0, .ref (a 208), .ref (a 209), .ref (a 210), .ref (a 211), .ref (a 212), .int 4, .int 12, .int (-1), .int 0, .ref (g 200), .ref (a 213), .int 0, .int 97, .ref (a 214), .ref (a 215), .ref (a 207), .null, .int 0]))]) [1] rfl
          have hDc : va_D (fun q => z0 ≤ q) [((a 200), .inr (21, [.int 1, .ref (a 201), .ref (a 202), .ref (a 203), .ref (a 204), .ref (a 205), .ref (a 206), .int 0, .int 0, .int 0, .int 0, .ref (a 208), .ref (a 209), .ref (a 210), .ref (a 211), .ref (a 212), .int 4, .int 12, .int (-1), .int 0, .ref (g 200), .ref (a 213), .int 0, .int 97, .ref (a 214), .ref (a 215), .ref (a 207), .null, .int 0]))] := (hD.to hAz).pick (ws' := [((a 200), .inr (21, [.int 1, .ref (a 201), .ref (a 202), .ref (a 203), .ref (a 204), .ref (a 205), .ref (a 206), .int 0, .int 0, .int 0, .int 0, .ref (a 208), .ref (a 209), .ref (a 210), .ref (a 211), .ref (a 212), .int 4, .int 12, .int (-1), .int 0, .ref (g 200), .ref (a 213), .int 0, .int 97, .ref (a 214), .ref (a 215), .ref (a 207), .null, .int 0]))]) [1] (by decide) rfl
          have hFc := va_free (wc := [((a 200), .inr (21, [.int 1, .ref (a 201), .ref (a 202), .ref (a 203), .ref (a 204), .ref (a 205), .ref (a 206), .int 0, .int 0, .int 0, .int 0, .ref (a 208), .ref (a 209), .ref (a 210), .ref (a 211), .ref (a 212), .int 4, .int 12, .int (-1), .int 0, .ref (g 200), .ref (a 213), .int 0, .int 97, .ref (a 214), .ref (a 215), .ref (a 207), .null, .int 0]))]) hD hS hA [1] rfl
          refine va_calli (va_runV (As := []) (rest := []) ⟨hx, hb, hml, hown, ht⟩ (k_X15_thrown_v2 l D g z0 _ a) (cwV 0 ht (gV w_772 w_774 w_775 w_334 w_773) rfl rfl rfl (by decide +kernel) (le2 rfl rfl)) ⟨PP.blind, va_recv hK.1 hP (ci := 21) (q0 := 1) rfl rfl, PP.mk' hK hZ hz hAz hS hPc hDc⟩ rfl rfl hl.1 rfl (lv_room (Nat.le_of_ble_eq_true rfl)) dL_law_3517 (le2 rfl rfl)) hS (fun q _ h => hFc q h) hFc (fun r u t H locs ht1 hvm hw hB hz1 hk1 hS => ?_)
          obtain ⟨rfl, hw⟩ := hw
          obtain ⟨hP1, hD1⟩ := hB
          rw [ht1] at hP1
          obtain ⟨hP, hD⟩ := va_join (wr := [(o1, .inl (g 1, 1, .inr (.inl (fun _ => 0))))]) (w1 := [((a 200), .inr (21, [.int 1, .ref (a 201), .ref (a 202), .ref (a 203), .ref (a 204), .ref (a 205), .ref (a 206), .int 0, .int 0, .int 0, .int 0, .ref (a 208), .ref (a 209), .ref (a 210), .ref (a 211), .ref (a 212), .int 4, .int 12, .int (-1), .int 0, .ref (g 200), .ref (a 213), .int 0, .int 97, .ref (a 214), .ref (a 215), .ref (a 207), .null, .int 0]))]) hP hD [1] [0] rfl rfl (by decide) (by decide) hk1 hFc hP1 hD1
          have hP : va_P D vwCl [(o1, .inl (g 1, 1, .inr (.inl (fun _ => 0)))), ((a 200), .inr (21, [.int 1, .ref (a 201), .ref (a 202), .ref (a 203), .ref (a 204), .ref (a 205), .ref (a 206), .int 0, .int 0, .int 0, .int 0, .ref (a 208), .ref (a 209), .ref (a 210), .ref (a 211), .ref (a 212), .int 4, .int 12, .int (-1), .int 0, .ref (g 200), .ref (a 213), .int 0, .int 97, .ref (a 214), .ref (a 215), .ref (a 207), .null, .int 0]))] H := hP
          have hD : va_D (va_A [] s.heap.size) [(o1, .inl (g 1, 1, .inr (.inl (fun _ => 0)))), ((a 200), .inr (21, [.int 1, .ref (a 201), .ref (a 202), .ref (a 203), .ref (a 204), .ref (a 205), .ref (a 206), .int 0, .int 0, .int 0, .int 0, .ref (a 208), .ref (a 209), .ref (a 210), .ref (a 211), .ref (a 212), .int 4, .int 12, .int (-1), .int 0, .ref (g 200), .ref (a 213), .int 0, .int 97, .ref (a 214), .ref (a 215), .ref (a 207), .null, .int 0]))] := hD
          refine lv_iload hx hb dL_law_3520 (lv_at hl 1 rfl) ?_
          refine lv_icmp_eq (tgt := 3527) hx hb dL_law_3522 (by decide) (fun c_3 => ?_) (fun c_3 => ?_)
          · refine lv_iload hx hb dL_law_3527 (lv_at hl 1 rfl) ?_
            refine lv_if_ne (tgt := 3544) hx hb dL_law_3529 (by decide) (fun c_4 => ?_) (fun c_4 => ?_)
            · refine lv_goto (tgt := 4264) hx hb dL_law_3544 (by decide) ?_
              refine W.widen (k := 200 + 300) (n := 8000 + 2000) (Nat.le_of_ble_eq_true rfl) (Nat.le_of_ble_eq_true rfl) ?_
              exact kk _ _ _ hS (lv_sub hl [7, 2] rfl)
            · exact absurd c_4 (by decide)
          · exact absurd c_3 (by decide)
        · obtain ⟨c_5, c_6, c_7⟩ := hw
          exact absurd c_1 c_5
        · obtain ⟨c_8, c_9, c_10⟩ := hw
          exact absurd c_1 c_8
        · obtain ⟨c_11, c_12, c_13⟩ := hw
          exact absurd c_1 c_11
        · obtain ⟨c_14, c_15, c_16, c_17⟩ := hw
          exact absurd c_1 c_14
      · obtain ⟨rfl, rfl, hw⟩ := hw
        obtain ⟨c_18, c_19, c_20, c_21⟩ := hw
        exact absurd c_1 c_18
    · obtain ⟨c_22, c_23⟩ := hw
      obtain ⟨hP1, hD1⟩ := hB
      rw [ht1] at hP1
      obtain ⟨hP, hD⟩ := va_join (wr := [((a 200), f_m a g), ((a 213), .inl (g 6, 8, .inr (.inr (.inr (.inr (fun i => if i < 8 then some (a (216 + i)) else none)))))), ((a 216), .inl (g 3, 8, .inl (fun _ => 0))), ((a 217), .inl (g 3, 8, .inl (fun _ => 0))), ((a 218), .inl (g 3, 8, .inl (fun _ => 0))), ((a 219), .inl (g 3, 8, .inl (fun _ => 0))), ((a 220), .inl (g 3, 8, .inl (fun _ => 0))), ((a 221), .inl (g 3, 8, .inl (fun _ => 0))), ((a 222), .inl (g 3, 8, .inl (fun _ => 0))), ((a 223), .inl (g 3, 8, .inl (fun _ => 0)))]) (w1 := [(o1, .inl (g 1, 1, .inr (.inl (fun _ => 0))))]) hP hD [13, 0, 2, 1] [3, 4, 5, 6, 7, 8, 9, 10, 11, 12] rfl rfl (by decide) (by decide) hk1 hFc hP1 hD1
      have hP : va_P D vwCl [((a 200), f_m a g), ((a 213), .inl (g 6, 8, .inr (.inr (.inr (.inr (fun i => if i < 8 then some (a (216 + i)) else none)))))), ((a 216), .inl (g 3, 8, .inl (fun _ => 0))), ((a 217), .inl (g 3, 8, .inl (fun _ => 0))), ((a 218), .inl (g 3, 8, .inl (fun _ => 0))), ((a 219), .inl (g 3, 8, .inl (fun _ => 0))), ((a 220), .inl (g 3, 8, .inl (fun _ => 0))), ((a 221), .inl (g 3, 8, .inl (fun _ => 0))), ((a 222), .inl (g 3, 8, .inl (fun _ => 0))), ((a 223), .inl (g 3, 8, .inl (fun _ => 0))), (o1, .inl (g 1, 1, .inr (.inl (fun _ => 0))))] H := hP
      have hD : va_D (va_A [] s.heap.size) [((a 200), f_m a g), ((a 213), .inl (g 6, 8, .inr (.inr (.inr (.inr (fun i => if i < 8 then some (a (216 + i)) else none)))))), ((a 216), .inl (g 3, 8, .inl (fun _ => 0))), ((a 217), .inl (g 3, 8, .inl (fun _ => 0))), ((a 218), .inl (g 3, 8, .inl (fun _ => 0))), ((a 219), .inl (g 3, 8, .inl (fun _ => 0))), ((a 220), .inl (g 3, 8, .inl (fun _ => 0))), ((a 221), .inl (g 3, 8, .inl (fun _ => 0))), ((a 222), .inl (g 3, 8, .inl (fun _ => 0))), ((a 223), .inl (g 3, 8, .inl (fun _ => 0))), (o1, .inl (g 1, 1, .inr (.inl (fun _ => 0))))] := hD
      refine lv_istore (lv' := [(6, .int 1), (0, .ref b), (1, .ref (a 0)), (2, .ref (a 200)), (3, .ref o1), (4, .ref o2), (5, .int 0)]) hx hb dL_law_3496 hl (by decide) rfl (fun ls hl => ?_)
      refine lv_aload_n hx hb dL_law_3498 rfl (lv_at hl 3 rfl) ?_
      refine lv_aload_n hx hb dL_law_3499 rfl (lv_at hl 1 rfl) ?_
      refine lv_iload hx hb dL_law_3500 (lv_at hl 6 rfl) ?_
      refine lv_iconst (v := 1) hx hb dL_law_3502 (by decide) ?_
      refine lv_iadd hx hb dL_law_3503 ?_
      refine r_topi (v := 1) (by decide) ?_
      refine va_sld hx hb hX hbl hbA hS (by unfold vp_in; decide) dL_law_3504 ?_
      refine r_topi (v := xs 1) (congrArg xs (by decide)) ?_
      refine lv_aload_n hx hb dL_law_3505 rfl (lv_at hl 1 rfl) ?_
      refine lv_iload hx hb dL_law_3506 (lv_at hl 6 rfl) ?_
      refine lv_iconst (v := 2) hx hb dL_law_3508 (by decide) ?_
      refine lv_iadd hx hb dL_law_3509 ?_
      refine r_topi (v := 2) (by decide) ?_
      refine va_sld hx hb hX hbl hbA hS (by unfold vp_in; decide) dL_law_3510 ?_
      refine r_topi (v := xs 2) (congrArg xs (by decide)) ?_
      have hPc : va_P D vwCl [((a 200), f_m a g), ((a 213), .inl (g 6, 8, .inr (.inr (.inr (.inr (fun i => if i < 8 then some (a (216 + i)) else none)))))), ((a 223), .inl (g 3, 8, .inl (fun _ => 0))), ((a 222), .inl (g 3, 8, .inl (fun _ => 0))), ((a 221), .inl (g 3, 8, .inl (fun _ => 0))), ((a 220), .inl (g 3, 8, .inl (fun _ => 0))), ((a 219), .inl (g 3, 8, .inl (fun _ => 0))), ((a 218), .inl (g 3, 8, .inl (fun _ => 0))), ((a 217), .inl (g 3, 8, .inl (fun _ => 0))), ((a 216), .inl (g 3, 8, .inl (fun _ => 0)))] _ := hP.sub (ws' := [((a 200), f_m a g), ((a 213), .inl (g 6, 8, .inr (.inr (.inr (.inr (fun i => if i < 8 then some (a (216 + i)) else none)))))), ((a 223), .inl (g 3, 8, .inl (fun _ => 0))), ((a 222), .inl (g 3, 8, .inl (fun _ => 0))), ((a 221), .inl (g 3, 8, .inl (fun _ => 0))), ((a 220), .inl (g 3, 8, .inl (fun _ => 0))), ((a 219), .inl (g 3, 8, .inl (fun _ => 0))), ((a 218), .inl (g 3, 8, .inl (fun _ => 0))), ((a 217), .inl (g 3, 8, .inl (fun _ => 0))), ((a 216), .inl (g 3, 8, .inl (fun _ => 0)))]) [0, 1, 9, 8, 7, 6, 5, 4, 3, 2] rfl
      have hDc : va_D (fun q => z0 ≤ q) [((a 200), f_m a g), ((a 213), .inl (g 6, 8, .inr (.inr (.inr (.inr (fun i => if i < 8 then some (a (216 + i)) else none)))))), ((a 223), .inl (g 3, 8, .inl (fun _ => 0))), ((a 222), .inl (g 3, 8, .inl (fun _ => 0))), ((a 221), .inl (g 3, 8, .inl (fun _ => 0))), ((a 220), .inl (g 3, 8, .inl (fun _ => 0))), ((a 219), .inl (g 3, 8, .inl (fun _ => 0))), ((a 218), .inl (g 3, 8, .inl (fun _ => 0))), ((a 217), .inl (g 3, 8, .inl (fun _ => 0))), ((a 216), .inl (g 3, 8, .inl (fun _ => 0)))] := (hD.to hAz).pick (ws' := [((a 200), f_m a g), ((a 213), .inl (g 6, 8, .inr (.inr (.inr (.inr (fun i => if i < 8 then some (a (216 + i)) else none)))))), ((a 223), .inl (g 3, 8, .inl (fun _ => 0))), ((a 222), .inl (g 3, 8, .inl (fun _ => 0))), ((a 221), .inl (g 3, 8, .inl (fun _ => 0))), ((a 220), .inl (g 3, 8, .inl (fun _ => 0))), ((a 219), .inl (g 3, 8, .inl (fun _ => 0))), ((a 218), .inl (g 3, 8, .inl (fun _ => 0))), ((a 217), .inl (g 3, 8, .inl (fun _ => 0))), ((a 216), .inl (g 3, 8, .inl (fun _ => 0)))]) [0, 1, 9, 8, 7, 6, 5, 4, 3, 2] (by decide) rfl
      have hFc := va_free (wc := [((a 200), f_m a g), ((a 213), .inl (g 6, 8, .inr (.inr (.inr (.inr (fun i => if i < 8 then some (a (216 + i)) else none)))))), ((a 223), .inl (g 3, 8, .inl (fun _ => 0))), ((a 222), .inl (g 3, 8, .inl (fun _ => 0))), ((a 221), .inl (g 3, 8, .inl (fun _ => 0))), ((a 220), .inl (g 3, 8, .inl (fun _ => 0))), ((a 219), .inl (g 3, 8, .inl (fun _ => 0))), ((a 218), .inl (g 3, 8, .inl (fun _ => 0))), ((a 217), .inl (g 3, 8, .inl (fun _ => 0))), ((a 216), .inl (g 3, 8, .inl (fun _ => 0)))]) hD hS hA [0, 1, 9, 8, 7, 6, 5, 4, 3, 2] rfl
      refine va_calli (va_runV (As := [.int (xs 1), .int (xs 2)]) (rest := []) ⟨hx, hb, hml, hown, ht⟩ (k_X15_repair l D g z0 _ a (xs 1) (xs 2)) (cwV 2 ht (gV w_1288 w_1290 w_1291 w_334 w_1289) rfl rfl rfl (by decide +kernel) (le2 rfl rfl)) ⟨PP.blind, va_recv hK.1 hP (ci := 21) (q0 := 0) rfl rfl, PP.mk' hK hZ hz hAz hS hPc hDc⟩ rfl rfl hl.1 rfl (lv_room (Nat.le_of_ble_eq_true rfl)) dL_law_3511 (le2 rfl rfl)) hS (fun q _ h => hFc q h) hFc (fun r u t H locs ht1 hvm hw hB hz1 hk1 hS => ?_)
      rcases hw with hw | hw
      · obtain ⟨rfl, rfl, hw⟩ := hw
        rcases hw with hw | hw | hw | hw | hw
        · have c_24 := hw
          exact absurd c_24 c_22
        · obtain ⟨c_25, c_26, c_27⟩ := hw
          obtain ⟨hP1, hD1⟩ := hB
          rw [ht1] at hP1
          obtain ⟨hP, hD⟩ := va_join (wr := [(o1, .inl (g 1, 1, .inr (.inl (fun _ => 0))))]) (w1 := [((a 200), .inr (21, [.int 1, .ref (a 201), .ref (a 202), .ref (a 203), .ref (a 204), .ref (a 205), .ref (a 206), .int 0, .int 0, .int 0, .int 0, .ref (a 208), .ref (a 209), .ref (a 210), .ref (a 211), .ref (a 212), .int 4, .int 12, .int (-1), .int 0, .ref (g 200), .ref (a 213), .int 0, .int 97, .ref (a 214), .ref (a 215), .ref (a 207), .null, .int 0]))]) hP hD [0, 1, 9, 8, 7, 6, 5, 4, 3, 2] [10] rfl rfl (by decide) (by decide) hk1 hFc hP1 hD1
          have hP : va_P D vwCl [(o1, .inl (g 1, 1, .inr (.inl (fun _ => 0)))), ((a 200), .inr (21, [.int 1, .ref (a 201), .ref (a 202), .ref (a 203), .ref (a 204), .ref (a 205), .ref (a 206), .int 0, .int 0, .int 0, .int 0, .ref (a 208), .ref (a 209), .ref (a 210), .ref (a 211), .ref (a 212), .int 4, .int 12, .int (-1), .int 0, .ref (g 200), .ref (a 213), .int 0, .int 97, .ref (a 214), .ref (a 215), .ref (a 207), .null, .int 0]))] H := hP
          have hD : va_D (va_A [] s.heap.size) [(o1, .inl (g 1, 1, .inr (.inl (fun _ => 0)))), ((a 200), .inr (21, [.int 1, .ref (a 201), .ref (a 202), .ref (a 203), .ref (a 204), .ref (a 205), .ref (a 206), .int 0, .int 0, .int 0, .int 0, .ref (a 208), .ref (a 209), .ref (a 210), .ref (a 211), .ref (a 212), .int 4, .int 12, .int (-1), .int 0, .ref (g 200), .ref (a 213), .int 0, .int 97, .ref (a 214), .ref (a 215), .ref (a 207), .null, .int 0]))] := hD
          refine lv_istore (lv' := [(7, .int 0), (6, .int 1), (0, .ref b), (1, .ref (a 0)), (2, .ref (a 200)), (3, .ref o1), (4, .ref o2), (5, .int 0)]) hx hb dL_law_3514 hl (by decide) rfl (fun ls hl => ?_)
          refine lv_aload_n hx hb dL_law_3516 rfl (lv_at hl 4 rfl) ?_
          have hPc : va_P D vwCl [((a 200), .inr (21, [.int 1, .ref (a 201), .ref (a 202), .ref (a 203), .ref (a 204), .ref (a 205), .ref (a 206), .int 0, .int 0, .int 0, .int 0, .ref (a 208), .ref (a 209), .ref (a 210), .ref (a 211), .ref (a 212), .int 4, .int 12, .int (-1), .int 0, .ref (g 200), .ref (a 213), .int 0, .int 97, .ref (a 214), .ref (a 215), .ref (a 207), .null, .int 0]))] _ := hP.sub (ws' := [((a 200), .inr (21, [.int 1, .ref (a 201), .ref (a 202), .ref (a 203), .ref (a 204), .ref (a 205), .ref (a 206), .int 0, .int 0, .int 0, .int 0, .ref (a 208), .ref (a 209), .ref (a 210), .ref (a 211), .ref (a 212), .int 4, .int 12, .int (-1), .int 0, .ref (g 200), .ref (a 213), .int 0, .int 97, .ref (a 214), .ref (a 215), .ref (a 207), .null, .int 0]))]) [1] rfl
          have hDc : va_D (fun q => z0 ≤ q) [((a 200), .inr (21, [.int 1, .ref (a 201), .ref (a 202), .ref (a 203), .ref (a 204), .ref (a 205), .ref (a 206), .int 0, .int 0, .int 0, .int 0, .ref (a 208), .ref (a 209), .ref (a 210), .ref (a 211), .ref (a 212), .int 4, .int 12, .int (-1), .int 0, .ref (g 200), .ref (a 213), .int 0, .int 97, .ref (a 214), .ref (a 215), .ref (a 207), .null, .int 0]))] := (hD.to hAz).pick (ws' := [((a 200), .inr (21, [.int 1, .ref (a 201), .ref (a 202), .ref (a 203), .ref (a 204), .ref (a 205), .ref (a 206), .int 0, .int 0, .int 0, .int 0, .ref (a 208), .ref (a 209), .ref (a 210), .ref (a 211), .ref (a 212), .int 4, .int 12, .int (-1), .int 0, .ref (g 200), .ref (a 213), .int 0, .int 97, .ref (a 214), .ref (a 215), .ref (a 207), .null, .int 0]))]) [1] (by decide) rfl
          have hFc := va_free (wc := [((a 200), .inr (21, [.int 1, .ref (a 201), .ref (a 202), .ref (a 203), .ref (a 204), .ref (a 205), .ref (a 206), .int 0, .int 0, .int 0, .int 0, .ref (a 208), .ref (a 209), .ref (a 210), .ref (a 211), .ref (a 212), .int 4, .int 12, .int (-1), .int 0, .ref (g 200), .ref (a 213), .int 0, .int 97, .ref (a 214), .ref (a 215), .ref (a 207), .null, .int 0]))]) hD hS hA [1] rfl
          refine va_calli (va_runV (As := []) (rest := []) ⟨hx, hb, hml, hown, ht⟩ (k_X15_thrown_v2 l D g z0 _ a) (cwV 0 ht (gV w_772 w_774 w_775 w_334 w_773) rfl rfl rfl (by decide +kernel) (le2 rfl rfl)) ⟨PP.blind, va_recv hK.1 hP (ci := 21) (q0 := 1) rfl rfl, PP.mk' hK hZ hz hAz hS hPc hDc⟩ rfl rfl hl.1 rfl (lv_room (Nat.le_of_ble_eq_true rfl)) dL_law_3517 (le2 rfl rfl)) hS (fun q _ h => hFc q h) hFc (fun r u t H locs ht1 hvm hw hB hz1 hk1 hS => ?_)
          obtain ⟨rfl, hw⟩ := hw
          obtain ⟨hP1, hD1⟩ := hB
          rw [ht1] at hP1
          obtain ⟨hP, hD⟩ := va_join (wr := [(o1, .inl (g 1, 1, .inr (.inl (fun _ => 0))))]) (w1 := [((a 200), .inr (21, [.int 1, .ref (a 201), .ref (a 202), .ref (a 203), .ref (a 204), .ref (a 205), .ref (a 206), .int 0, .int 0, .int 0, .int 0, .ref (a 208), .ref (a 209), .ref (a 210), .ref (a 211), .ref (a 212), .int 4, .int 12, .int (-1), .int 0, .ref (g 200), .ref (a 213), .int 0, .int 97, .ref (a 214), .ref (a 215), .ref (a 207), .null, .int 0]))]) hP hD [1] [0] rfl rfl (by decide) (by decide) hk1 hFc hP1 hD1
          have hP : va_P D vwCl [(o1, .inl (g 1, 1, .inr (.inl (fun _ => 0)))), ((a 200), .inr (21, [.int 1, .ref (a 201), .ref (a 202), .ref (a 203), .ref (a 204), .ref (a 205), .ref (a 206), .int 0, .int 0, .int 0, .int 0, .ref (a 208), .ref (a 209), .ref (a 210), .ref (a 211), .ref (a 212), .int 4, .int 12, .int (-1), .int 0, .ref (g 200), .ref (a 213), .int 0, .int 97, .ref (a 214), .ref (a 215), .ref (a 207), .null, .int 0]))] H := hP
          have hD : va_D (va_A [] s.heap.size) [(o1, .inl (g 1, 1, .inr (.inl (fun _ => 0)))), ((a 200), .inr (21, [.int 1, .ref (a 201), .ref (a 202), .ref (a 203), .ref (a 204), .ref (a 205), .ref (a 206), .int 0, .int 0, .int 0, .int 0, .ref (a 208), .ref (a 209), .ref (a 210), .ref (a 211), .ref (a 212), .int 4, .int 12, .int (-1), .int 0, .ref (g 200), .ref (a 213), .int 0, .int 97, .ref (a 214), .ref (a 215), .ref (a 207), .null, .int 0]))] := hD
          refine lv_iload hx hb dL_law_3520 (lv_at hl 1 rfl) ?_
          refine lv_icmp_eq (tgt := 3527) hx hb dL_law_3522 (by decide) (fun c_28 => ?_) (fun c_28 => ?_)
          · refine lv_iload hx hb dL_law_3527 (lv_at hl 1 rfl) ?_
            refine lv_if_ne (tgt := 3544) hx hb dL_law_3529 (by decide) (fun c_29 => ?_) (fun c_29 => ?_)
            · refine lv_goto (tgt := 4264) hx hb dL_law_3544 (by decide) ?_
              refine W.widen (k := 200 + 300) (n := 8000 + 2000) (Nat.le_of_ble_eq_true rfl) (Nat.le_of_ble_eq_true rfl) ?_
              exact kk _ _ _ hS (lv_sub hl [7, 2] rfl)
            · exact absurd c_29 (by decide)
          · exact absurd c_28 (by decide)
        · obtain ⟨c_30, c_31, c_32⟩ := hw
          exact absurd (Int.le_trans (lo_nle c_23) (up_nlt c_32)) (by decide)
        · obtain ⟨c_33, c_34, c_35⟩ := hw
          obtain ⟨hP1, hD1⟩ := hB
          rw [ht1] at hP1
          obtain ⟨hP, hD⟩ := va_join (wr := [(o1, .inl (g 1, 1, .inr (.inl (fun _ => 0))))]) (w1 := [((a 200), .inr (21, [.int 1, .ref (a 201), .ref (a 202), .ref (a 203), .ref (a 204), .ref (a 205), .ref (a 206), .int 0, .int 0, .int 0, .int 0, .ref (a 208), .ref (a 209), .ref (a 210), .ref (a 211), .ref (a 212), .int 4, .int 12, .int (-1), .int 0, .ref (g 200), .ref (a 213), .int 0, .int 97, .ref (a 214), .ref (a 215), .ref (a 207), .null, .int 0]))]) hP hD [0, 1, 9, 8, 7, 6, 5, 4, 3, 2] [10] rfl rfl (by decide) (by decide) hk1 hFc hP1 hD1
          have hP : va_P D vwCl [(o1, .inl (g 1, 1, .inr (.inl (fun _ => 0)))), ((a 200), .inr (21, [.int 1, .ref (a 201), .ref (a 202), .ref (a 203), .ref (a 204), .ref (a 205), .ref (a 206), .int 0, .int 0, .int 0, .int 0, .ref (a 208), .ref (a 209), .ref (a 210), .ref (a 211), .ref (a 212), .int 4, .int 12, .int (-1), .int 0, .ref (g 200), .ref (a 213), .int 0, .int 97, .ref (a 214), .ref (a 215), .ref (a 207), .null, .int 0]))] H := hP
          have hD : va_D (va_A [] s.heap.size) [(o1, .inl (g 1, 1, .inr (.inl (fun _ => 0)))), ((a 200), .inr (21, [.int 1, .ref (a 201), .ref (a 202), .ref (a 203), .ref (a 204), .ref (a 205), .ref (a 206), .int 0, .int 0, .int 0, .int 0, .ref (a 208), .ref (a 209), .ref (a 210), .ref (a 211), .ref (a 212), .int 4, .int 12, .int (-1), .int 0, .ref (g 200), .ref (a 213), .int 0, .int 97, .ref (a 214), .ref (a 215), .ref (a 207), .null, .int 0]))] := hD
          refine lv_istore (lv' := [(7, .int 0), (6, .int 1), (0, .ref b), (1, .ref (a 0)), (2, .ref (a 200)), (3, .ref o1), (4, .ref o2), (5, .int 0)]) hx hb dL_law_3514 hl (by decide) rfl (fun ls hl => ?_)
          refine lv_aload_n hx hb dL_law_3516 rfl (lv_at hl 4 rfl) ?_
          have hPc : va_P D vwCl [((a 200), .inr (21, [.int 1, .ref (a 201), .ref (a 202), .ref (a 203), .ref (a 204), .ref (a 205), .ref (a 206), .int 0, .int 0, .int 0, .int 0, .ref (a 208), .ref (a 209), .ref (a 210), .ref (a 211), .ref (a 212), .int 4, .int 12, .int (-1), .int 0, .ref (g 200), .ref (a 213), .int 0, .int 97, .ref (a 214), .ref (a 215), .ref (a 207), .null, .int 0]))] _ := hP.sub (ws' := [((a 200), .inr (21, [.int 1, .ref (a 201), .ref (a 202), .ref (a 203), .ref (a 204), .ref (a 205), .ref (a 206), .int 0, .int 0, .int 0, .int 0, .ref (a 208), .ref (a 209), .ref (a 210), .ref (a 211), .ref (a 212), .int 4, .int 12, .int (-1), .int 0, .ref (g 200), .ref (a 213), .int 0, .int 97, .ref (a 214), .ref (a 215), .ref (a 207), .null, .int 0]))]) [1] rfl
          have hDc : va_D (fun q => z0 ≤ q) [((a 200), .inr (21, [.int 1, .ref (a 201), .ref (a 202), .ref (a 203), .ref (a 204), .ref (a 205), .ref (a 206), .int 0, .int 0, .int 0, .int 0, .ref (a 208), .ref (a 209), .ref (a 210), .ref (a 211), .ref (a 212), .int 4, .int 12, .int (-1), .int 0, .ref (g 200), .ref (a 213), .int 0, .int 97, .ref (a 214), .ref (a 215), .ref (a 207), .null, .int 0]))] := (hD.to hAz).pick (ws' := [((a 200), .inr (21, [.int 1, .ref (a 201), .ref (a 202), .ref (a 203), .ref (a 204), .ref (a 205), .ref (a 206), .int 0, .int 0, .int 0, .int 0, .ref (a 208), .ref (a 209), .ref (a 210), .ref (a 211), .ref (a 212), .int 4, .int 12, .int (-1), .int 0, .ref (g 200), .ref (a 213), .int 0, .int 97, .ref (a 214), .ref (a 215), .ref (a 207), .null, .int 0]))]) [1] (by decide) rfl
          have hFc := va_free (wc := [((a 200), .inr (21, [.int 1, .ref (a 201), .ref (a 202), .ref (a 203), .ref (a 204), .ref (a 205), .ref (a 206), .int 0, .int 0, .int 0, .int 0, .ref (a 208), .ref (a 209), .ref (a 210), .ref (a 211), .ref (a 212), .int 4, .int 12, .int (-1), .int 0, .ref (g 200), .ref (a 213), .int 0, .int 97, .ref (a 214), .ref (a 215), .ref (a 207), .null, .int 0]))]) hD hS hA [1] rfl
          refine va_calli (va_runV (As := []) (rest := []) ⟨hx, hb, hml, hown, ht⟩ (k_X15_thrown_v2 l D g z0 _ a) (cwV 0 ht (gV w_772 w_774 w_775 w_334 w_773) rfl rfl rfl (by decide +kernel) (le2 rfl rfl)) ⟨PP.blind, va_recv hK.1 hP (ci := 21) (q0 := 1) rfl rfl, PP.mk' hK hZ hz hAz hS hPc hDc⟩ rfl rfl hl.1 rfl (lv_room (Nat.le_of_ble_eq_true rfl)) dL_law_3517 (le2 rfl rfl)) hS (fun q _ h => hFc q h) hFc (fun r u t H locs ht1 hvm hw hB hz1 hk1 hS => ?_)
          obtain ⟨rfl, hw⟩ := hw
          obtain ⟨hP1, hD1⟩ := hB
          rw [ht1] at hP1
          obtain ⟨hP, hD⟩ := va_join (wr := [(o1, .inl (g 1, 1, .inr (.inl (fun _ => 0))))]) (w1 := [((a 200), .inr (21, [.int 1, .ref (a 201), .ref (a 202), .ref (a 203), .ref (a 204), .ref (a 205), .ref (a 206), .int 0, .int 0, .int 0, .int 0, .ref (a 208), .ref (a 209), .ref (a 210), .ref (a 211), .ref (a 212), .int 4, .int 12, .int (-1), .int 0, .ref (g 200), .ref (a 213), .int 0, .int 97, .ref (a 214), .ref (a 215), .ref (a 207), .null, .int 0]))]) hP hD [1] [0] rfl rfl (by decide) (by decide) hk1 hFc hP1 hD1
          have hP : va_P D vwCl [(o1, .inl (g 1, 1, .inr (.inl (fun _ => 0)))), ((a 200), .inr (21, [.int 1, .ref (a 201), .ref (a 202), .ref (a 203), .ref (a 204), .ref (a 205), .ref (a 206), .int 0, .int 0, .int 0, .int 0, .ref (a 208), .ref (a 209), .ref (a 210), .ref (a 211), .ref (a 212), .int 4, .int 12, .int (-1), .int 0, .ref (g 200), .ref (a 213), .int 0, .int 97, .ref (a 214), .ref (a 215), .ref (a 207), .null, .int 0]))] H := hP
          have hD : va_D (va_A [] s.heap.size) [(o1, .inl (g 1, 1, .inr (.inl (fun _ => 0)))), ((a 200), .inr (21, [.int 1, .ref (a 201), .ref (a 202), .ref (a 203), .ref (a 204), .ref (a 205), .ref (a 206), .int 0, .int 0, .int 0, .int 0, .ref (a 208), .ref (a 209), .ref (a 210), .ref (a 211), .ref (a 212), .int 4, .int 12, .int (-1), .int 0, .ref (g 200), .ref (a 213), .int 0, .int 97, .ref (a 214), .ref (a 215), .ref (a 207), .null, .int 0]))] := hD
          refine lv_iload hx hb dL_law_3520 (lv_at hl 1 rfl) ?_
          refine lv_icmp_eq (tgt := 3527) hx hb dL_law_3522 (by decide) (fun c_36 => ?_) (fun c_36 => ?_)
          · refine lv_iload hx hb dL_law_3527 (lv_at hl 1 rfl) ?_
            refine lv_if_ne (tgt := 3544) hx hb dL_law_3529 (by decide) (fun c_37 => ?_) (fun c_37 => ?_)
            · refine lv_goto (tgt := 4264) hx hb dL_law_3544 (by decide) ?_
              refine W.widen (k := 200 + 300) (n := 8000 + 2000) (Nat.le_of_ble_eq_true rfl) (Nat.le_of_ble_eq_true rfl) ?_
              exact kk _ _ _ hS (lv_sub hl [7, 2] rfl)
            · exact absurd c_37 (by decide)
          · exact absurd c_36 (by decide)
        · obtain ⟨c_38, c_39, c_40, c_41⟩ := hw
          exact absurd (Int.le_trans (lo_nle c_23) (up_nlt c_40)) (by decide)
      · obtain ⟨rfl, rfl, hw⟩ := hw
        obtain ⟨c_42, c_43, c_44, c_45⟩ := hw
        exact absurd (Int.le_trans (lo_nle c_23) (up_nlt c_44)) (by decide)
    · obtain ⟨c_46, c_47, c_48⟩ := hw
      obtain ⟨hP1, hD1⟩ := hB
      rw [ht1] at hP1
      obtain ⟨hP, hD⟩ := va_join (wr := [((a 200), f_m a g), ((a 213), .inl (g 6, 8, .inr (.inr (.inr (.inr (fun i => if i < 8 then some (a (216 + i)) else none)))))), ((a 216), .inl (g 3, 8, .inl (fun _ => 0))), ((a 217), .inl (g 3, 8, .inl (fun _ => 0))), ((a 218), .inl (g 3, 8, .inl (fun _ => 0))), ((a 219), .inl (g 3, 8, .inl (fun _ => 0))), ((a 220), .inl (g 3, 8, .inl (fun _ => 0))), ((a 221), .inl (g 3, 8, .inl (fun _ => 0))), ((a 222), .inl (g 3, 8, .inl (fun _ => 0))), ((a 223), .inl (g 3, 8, .inl (fun _ => 0)))]) (w1 := [(o1, .inl (g 1, 1, .inr (.inl (fun _ => 0))))]) hP hD [13, 0, 2, 1] [3, 4, 5, 6, 7, 8, 9, 10, 11, 12] rfl rfl (by decide) (by decide) hk1 hFc hP1 hD1
      have hP : va_P D vwCl [((a 200), f_m a g), ((a 213), .inl (g 6, 8, .inr (.inr (.inr (.inr (fun i => if i < 8 then some (a (216 + i)) else none)))))), ((a 216), .inl (g 3, 8, .inl (fun _ => 0))), ((a 217), .inl (g 3, 8, .inl (fun _ => 0))), ((a 218), .inl (g 3, 8, .inl (fun _ => 0))), ((a 219), .inl (g 3, 8, .inl (fun _ => 0))), ((a 220), .inl (g 3, 8, .inl (fun _ => 0))), ((a 221), .inl (g 3, 8, .inl (fun _ => 0))), ((a 222), .inl (g 3, 8, .inl (fun _ => 0))), ((a 223), .inl (g 3, 8, .inl (fun _ => 0))), (o1, .inl (g 1, 1, .inr (.inl (fun _ => 0))))] H := hP
      have hD : va_D (va_A [] s.heap.size) [((a 200), f_m a g), ((a 213), .inl (g 6, 8, .inr (.inr (.inr (.inr (fun i => if i < 8 then some (a (216 + i)) else none)))))), ((a 216), .inl (g 3, 8, .inl (fun _ => 0))), ((a 217), .inl (g 3, 8, .inl (fun _ => 0))), ((a 218), .inl (g 3, 8, .inl (fun _ => 0))), ((a 219), .inl (g 3, 8, .inl (fun _ => 0))), ((a 220), .inl (g 3, 8, .inl (fun _ => 0))), ((a 221), .inl (g 3, 8, .inl (fun _ => 0))), ((a 222), .inl (g 3, 8, .inl (fun _ => 0))), ((a 223), .inl (g 3, 8, .inl (fun _ => 0))), (o1, .inl (g 1, 1, .inr (.inl (fun _ => 0))))] := hD
      refine lv_istore (lv' := [(6, .int 1), (0, .ref b), (1, .ref (a 0)), (2, .ref (a 200)), (3, .ref o1), (4, .ref o2), (5, .int 0)]) hx hb dL_law_3496 hl (by decide) rfl (fun ls hl => ?_)
      refine lv_aload_n hx hb dL_law_3498 rfl (lv_at hl 3 rfl) ?_
      refine lv_aload_n hx hb dL_law_3499 rfl (lv_at hl 1 rfl) ?_
      refine lv_iload hx hb dL_law_3500 (lv_at hl 6 rfl) ?_
      refine lv_iconst (v := 1) hx hb dL_law_3502 (by decide) ?_
      refine lv_iadd hx hb dL_law_3503 ?_
      refine r_topi (v := 1) (by decide) ?_
      refine va_sld hx hb hX hbl hbA hS (by unfold vp_in; decide) dL_law_3504 ?_
      refine r_topi (v := xs 1) (congrArg xs (by decide)) ?_
      refine lv_aload_n hx hb dL_law_3505 rfl (lv_at hl 1 rfl) ?_
      refine lv_iload hx hb dL_law_3506 (lv_at hl 6 rfl) ?_
      refine lv_iconst (v := 2) hx hb dL_law_3508 (by decide) ?_
      refine lv_iadd hx hb dL_law_3509 ?_
      refine r_topi (v := 2) (by decide) ?_
      refine va_sld hx hb hX hbl hbA hS (by unfold vp_in; decide) dL_law_3510 ?_
      refine r_topi (v := xs 2) (congrArg xs (by decide)) ?_
      have hPc : va_P D vwCl [((a 200), f_m a g), ((a 213), .inl (g 6, 8, .inr (.inr (.inr (.inr (fun i => if i < 8 then some (a (216 + i)) else none)))))), ((a 223), .inl (g 3, 8, .inl (fun _ => 0))), ((a 222), .inl (g 3, 8, .inl (fun _ => 0))), ((a 221), .inl (g 3, 8, .inl (fun _ => 0))), ((a 220), .inl (g 3, 8, .inl (fun _ => 0))), ((a 219), .inl (g 3, 8, .inl (fun _ => 0))), ((a 218), .inl (g 3, 8, .inl (fun _ => 0))), ((a 217), .inl (g 3, 8, .inl (fun _ => 0))), ((a 216), .inl (g 3, 8, .inl (fun _ => 0)))] _ := hP.sub (ws' := [((a 200), f_m a g), ((a 213), .inl (g 6, 8, .inr (.inr (.inr (.inr (fun i => if i < 8 then some (a (216 + i)) else none)))))), ((a 223), .inl (g 3, 8, .inl (fun _ => 0))), ((a 222), .inl (g 3, 8, .inl (fun _ => 0))), ((a 221), .inl (g 3, 8, .inl (fun _ => 0))), ((a 220), .inl (g 3, 8, .inl (fun _ => 0))), ((a 219), .inl (g 3, 8, .inl (fun _ => 0))), ((a 218), .inl (g 3, 8, .inl (fun _ => 0))), ((a 217), .inl (g 3, 8, .inl (fun _ => 0))), ((a 216), .inl (g 3, 8, .inl (fun _ => 0)))]) [0, 1, 9, 8, 7, 6, 5, 4, 3, 2] rfl
      have hDc : va_D (fun q => z0 ≤ q) [((a 200), f_m a g), ((a 213), .inl (g 6, 8, .inr (.inr (.inr (.inr (fun i => if i < 8 then some (a (216 + i)) else none)))))), ((a 223), .inl (g 3, 8, .inl (fun _ => 0))), ((a 222), .inl (g 3, 8, .inl (fun _ => 0))), ((a 221), .inl (g 3, 8, .inl (fun _ => 0))), ((a 220), .inl (g 3, 8, .inl (fun _ => 0))), ((a 219), .inl (g 3, 8, .inl (fun _ => 0))), ((a 218), .inl (g 3, 8, .inl (fun _ => 0))), ((a 217), .inl (g 3, 8, .inl (fun _ => 0))), ((a 216), .inl (g 3, 8, .inl (fun _ => 0)))] := (hD.to hAz).pick (ws' := [((a 200), f_m a g), ((a 213), .inl (g 6, 8, .inr (.inr (.inr (.inr (fun i => if i < 8 then some (a (216 + i)) else none)))))), ((a 223), .inl (g 3, 8, .inl (fun _ => 0))), ((a 222), .inl (g 3, 8, .inl (fun _ => 0))), ((a 221), .inl (g 3, 8, .inl (fun _ => 0))), ((a 220), .inl (g 3, 8, .inl (fun _ => 0))), ((a 219), .inl (g 3, 8, .inl (fun _ => 0))), ((a 218), .inl (g 3, 8, .inl (fun _ => 0))), ((a 217), .inl (g 3, 8, .inl (fun _ => 0))), ((a 216), .inl (g 3, 8, .inl (fun _ => 0)))]) [0, 1, 9, 8, 7, 6, 5, 4, 3, 2] (by decide) rfl
      have hFc := va_free (wc := [((a 200), f_m a g), ((a 213), .inl (g 6, 8, .inr (.inr (.inr (.inr (fun i => if i < 8 then some (a (216 + i)) else none)))))), ((a 223), .inl (g 3, 8, .inl (fun _ => 0))), ((a 222), .inl (g 3, 8, .inl (fun _ => 0))), ((a 221), .inl (g 3, 8, .inl (fun _ => 0))), ((a 220), .inl (g 3, 8, .inl (fun _ => 0))), ((a 219), .inl (g 3, 8, .inl (fun _ => 0))), ((a 218), .inl (g 3, 8, .inl (fun _ => 0))), ((a 217), .inl (g 3, 8, .inl (fun _ => 0))), ((a 216), .inl (g 3, 8, .inl (fun _ => 0)))]) hD hS hA [0, 1, 9, 8, 7, 6, 5, 4, 3, 2] rfl
      refine va_calli (va_runV (As := [.int (xs 1), .int (xs 2)]) (rest := []) ⟨hx, hb, hml, hown, ht⟩ (k_X15_repair l D g z0 _ a (xs 1) (xs 2)) (cwV 2 ht (gV w_1288 w_1290 w_1291 w_334 w_1289) rfl rfl rfl (by decide +kernel) (le2 rfl rfl)) ⟨PP.blind, va_recv hK.1 hP (ci := 21) (q0 := 0) rfl rfl, PP.mk' hK hZ hz hAz hS hPc hDc⟩ rfl rfl hl.1 rfl (lv_room (Nat.le_of_ble_eq_true rfl)) dL_law_3511 (le2 rfl rfl)) hS (fun q _ h => hFc q h) hFc (fun r u t H locs ht1 hvm hw hB hz1 hk1 hS => ?_)
      rcases hw with hw | hw
      · obtain ⟨rfl, rfl, hw⟩ := hw
        rcases hw with hw | hw | hw | hw | hw
        · have c_49 := hw
          exact absurd c_49 c_46
        · obtain ⟨c_50, c_51, c_52⟩ := hw
          exact absurd (Int.le_trans (lo_lt c_52) (up_le c_47)) (by decide)
        · obtain ⟨c_53, c_54, c_55⟩ := hw
          obtain ⟨hP1, hD1⟩ := hB
          rw [ht1] at hP1
          obtain ⟨hP, hD⟩ := va_join (wr := [(o1, .inl (g 1, 1, .inr (.inl (fun _ => 0))))]) (w1 := [((a 200), .inr (21, [.int 1, .ref (a 201), .ref (a 202), .ref (a 203), .ref (a 204), .ref (a 205), .ref (a 206), .int 0, .int 0, .int 0, .int 0, .ref (a 208), .ref (a 209), .ref (a 210), .ref (a 211), .ref (a 212), .int 4, .int 12, .int (-1), .int 0, .ref (g 200), .ref (a 213), .int 0, .int 97, .ref (a 214), .ref (a 215), .ref (a 207), .null, .int 0]))]) hP hD [0, 1, 9, 8, 7, 6, 5, 4, 3, 2] [10] rfl rfl (by decide) (by decide) hk1 hFc hP1 hD1
          have hP : va_P D vwCl [(o1, .inl (g 1, 1, .inr (.inl (fun _ => 0)))), ((a 200), .inr (21, [.int 1, .ref (a 201), .ref (a 202), .ref (a 203), .ref (a 204), .ref (a 205), .ref (a 206), .int 0, .int 0, .int 0, .int 0, .ref (a 208), .ref (a 209), .ref (a 210), .ref (a 211), .ref (a 212), .int 4, .int 12, .int (-1), .int 0, .ref (g 200), .ref (a 213), .int 0, .int 97, .ref (a 214), .ref (a 215), .ref (a 207), .null, .int 0]))] H := hP
          have hD : va_D (va_A [] s.heap.size) [(o1, .inl (g 1, 1, .inr (.inl (fun _ => 0)))), ((a 200), .inr (21, [.int 1, .ref (a 201), .ref (a 202), .ref (a 203), .ref (a 204), .ref (a 205), .ref (a 206), .int 0, .int 0, .int 0, .int 0, .ref (a 208), .ref (a 209), .ref (a 210), .ref (a 211), .ref (a 212), .int 4, .int 12, .int (-1), .int 0, .ref (g 200), .ref (a 213), .int 0, .int 97, .ref (a 214), .ref (a 215), .ref (a 207), .null, .int 0]))] := hD
          refine lv_istore (lv' := [(7, .int 0), (6, .int 1), (0, .ref b), (1, .ref (a 0)), (2, .ref (a 200)), (3, .ref o1), (4, .ref o2), (5, .int 0)]) hx hb dL_law_3514 hl (by decide) rfl (fun ls hl => ?_)
          refine lv_aload_n hx hb dL_law_3516 rfl (lv_at hl 4 rfl) ?_
          have hPc : va_P D vwCl [((a 200), .inr (21, [.int 1, .ref (a 201), .ref (a 202), .ref (a 203), .ref (a 204), .ref (a 205), .ref (a 206), .int 0, .int 0, .int 0, .int 0, .ref (a 208), .ref (a 209), .ref (a 210), .ref (a 211), .ref (a 212), .int 4, .int 12, .int (-1), .int 0, .ref (g 200), .ref (a 213), .int 0, .int 97, .ref (a 214), .ref (a 215), .ref (a 207), .null, .int 0]))] _ := hP.sub (ws' := [((a 200), .inr (21, [.int 1, .ref (a 201), .ref (a 202), .ref (a 203), .ref (a 204), .ref (a 205), .ref (a 206), .int 0, .int 0, .int 0, .int 0, .ref (a 208), .ref (a 209), .ref (a 210), .ref (a 211), .ref (a 212), .int 4, .int 12, .int (-1), .int 0, .ref (g 200), .ref (a 213), .int 0, .int 97, .ref (a 214), .ref (a 215), .ref (a 207), .null, .int 0]))]) [1] rfl
          have hDc : va_D (fun q => z0 ≤ q) [((a 200), .inr (21, [.int 1, .ref (a 201), .ref (a 202), .ref (a 203), .ref (a 204), .ref (a 205), .ref (a 206), .int 0, .int 0, .int 0, .int 0, .ref (a 208), .ref (a 209), .ref (a 210), .ref (a 211), .ref (a 212), .int 4, .int 12, .int (-1), .int 0, .ref (g 200), .ref (a 213), .int 0, .int 97, .ref (a 214), .ref (a 215), .ref (a 207), .null, .int 0]))] := (hD.to hAz).pick (ws' := [((a 200), .inr (21, [.int 1, .ref (a 201), .ref (a 202), .ref (a 203), .ref (a 204), .ref (a 205), .ref (a 206), .int 0, .int 0, .int 0, .int 0, .ref (a 208), .ref (a 209), .ref (a 210), .ref (a 211), .ref (a 212), .int 4, .int 12, .int (-1), .int 0, .ref (g 200), .ref (a 213), .int 0, .int 97, .ref (a 214), .ref (a 215), .ref (a 207), .null, .int 0]))]) [1] (by decide) rfl
          have hFc := va_free (wc := [((a 200), .inr (21, [.int 1, .ref (a 201), .ref (a 202), .ref (a 203), .ref (a 204), .ref (a 205), .ref (a 206), .int 0, .int 0, .int 0, .int 0, .ref (a 208), .ref (a 209), .ref (a 210), .ref (a 211), .ref (a 212), .int 4, .int 12, .int (-1), .int 0, .ref (g 200), .ref (a 213), .int 0, .int 97, .ref (a 214), .ref (a 215), .ref (a 207), .null, .int 0]))]) hD hS hA [1] rfl
          refine va_calli (va_runV (As := []) (rest := []) ⟨hx, hb, hml, hown, ht⟩ (k_X15_thrown_v2 l D g z0 _ a) (cwV 0 ht (gV w_772 w_774 w_775 w_334 w_773) rfl rfl rfl (by decide +kernel) (le2 rfl rfl)) ⟨PP.blind, va_recv hK.1 hP (ci := 21) (q0 := 1) rfl rfl, PP.mk' hK hZ hz hAz hS hPc hDc⟩ rfl rfl hl.1 rfl (lv_room (Nat.le_of_ble_eq_true rfl)) dL_law_3517 (le2 rfl rfl)) hS (fun q _ h => hFc q h) hFc (fun r u t H locs ht1 hvm hw hB hz1 hk1 hS => ?_)
          obtain ⟨rfl, hw⟩ := hw
          obtain ⟨hP1, hD1⟩ := hB
          rw [ht1] at hP1
          obtain ⟨hP, hD⟩ := va_join (wr := [(o1, .inl (g 1, 1, .inr (.inl (fun _ => 0))))]) (w1 := [((a 200), .inr (21, [.int 1, .ref (a 201), .ref (a 202), .ref (a 203), .ref (a 204), .ref (a 205), .ref (a 206), .int 0, .int 0, .int 0, .int 0, .ref (a 208), .ref (a 209), .ref (a 210), .ref (a 211), .ref (a 212), .int 4, .int 12, .int (-1), .int 0, .ref (g 200), .ref (a 213), .int 0, .int 97, .ref (a 214), .ref (a 215), .ref (a 207), .null, .int 0]))]) hP hD [1] [0] rfl rfl (by decide) (by decide) hk1 hFc hP1 hD1
          have hP : va_P D vwCl [(o1, .inl (g 1, 1, .inr (.inl (fun _ => 0)))), ((a 200), .inr (21, [.int 1, .ref (a 201), .ref (a 202), .ref (a 203), .ref (a 204), .ref (a 205), .ref (a 206), .int 0, .int 0, .int 0, .int 0, .ref (a 208), .ref (a 209), .ref (a 210), .ref (a 211), .ref (a 212), .int 4, .int 12, .int (-1), .int 0, .ref (g 200), .ref (a 213), .int 0, .int 97, .ref (a 214), .ref (a 215), .ref (a 207), .null, .int 0]))] H := hP
          have hD : va_D (va_A [] s.heap.size) [(o1, .inl (g 1, 1, .inr (.inl (fun _ => 0)))), ((a 200), .inr (21, [.int 1, .ref (a 201), .ref (a 202), .ref (a 203), .ref (a 204), .ref (a 205), .ref (a 206), .int 0, .int 0, .int 0, .int 0, .ref (a 208), .ref (a 209), .ref (a 210), .ref (a 211), .ref (a 212), .int 4, .int 12, .int (-1), .int 0, .ref (g 200), .ref (a 213), .int 0, .int 97, .ref (a 214), .ref (a 215), .ref (a 207), .null, .int 0]))] := hD
          refine lv_iload hx hb dL_law_3520 (lv_at hl 1 rfl) ?_
          refine lv_icmp_eq (tgt := 3527) hx hb dL_law_3522 (by decide) (fun c_56 => ?_) (fun c_56 => ?_)
          · refine lv_iload hx hb dL_law_3527 (lv_at hl 1 rfl) ?_
            refine lv_if_ne (tgt := 3544) hx hb dL_law_3529 (by decide) (fun c_57 => ?_) (fun c_57 => ?_)
            · refine lv_goto (tgt := 4264) hx hb dL_law_3544 (by decide) ?_
              refine W.widen (k := 200 + 300) (n := 8000 + 2000) (Nat.le_of_ble_eq_true rfl) (Nat.le_of_ble_eq_true rfl) ?_
              exact kk _ _ _ hS (lv_sub hl [7, 2] rfl)
            · exact absurd c_57 (by decide)
          · exact absurd c_56 (by decide)
        · obtain ⟨c_58, c_59, c_60⟩ := hw
          exact absurd c_48 c_59
        · obtain ⟨c_61, c_62, c_63, c_64⟩ := hw
          exact absurd c_48 c_62
      · obtain ⟨rfl, rfl, hw⟩ := hw
        obtain ⟨c_65, c_66, c_67, c_68⟩ := hw
        exact absurd c_48 c_66
    · obtain ⟨c_69, c_70, c_71, c_72⟩ := hw
      obtain ⟨hP1, hD1⟩ := hB
      rw [ht1] at hP1
      obtain ⟨hP, hD⟩ := va_join (wr := [((a 200), f_m a g), ((a 213), .inl (g 6, 8, .inr (.inr (.inr (.inr (fun i => if i < 8 then some (a (216 + i)) else none)))))), ((a 216), .inl (g 3, 8, .inl (fun _ => 0))), ((a 217), .inl (g 3, 8, .inl (fun _ => 0))), ((a 218), .inl (g 3, 8, .inl (fun _ => 0))), ((a 219), .inl (g 3, 8, .inl (fun _ => 0))), ((a 220), .inl (g 3, 8, .inl (fun _ => 0))), ((a 221), .inl (g 3, 8, .inl (fun _ => 0))), ((a 222), .inl (g 3, 8, .inl (fun _ => 0))), ((a 223), .inl (g 3, 8, .inl (fun _ => 0)))]) (w1 := [(o1, .inl (g 1, 1, .inr (.inl (fun _ => 0))))]) hP hD [13, 0, 2, 1] [3, 4, 5, 6, 7, 8, 9, 10, 11, 12] rfl rfl (by decide) (by decide) hk1 hFc hP1 hD1
      have hP : va_P D vwCl [((a 200), f_m a g), ((a 213), .inl (g 6, 8, .inr (.inr (.inr (.inr (fun i => if i < 8 then some (a (216 + i)) else none)))))), ((a 216), .inl (g 3, 8, .inl (fun _ => 0))), ((a 217), .inl (g 3, 8, .inl (fun _ => 0))), ((a 218), .inl (g 3, 8, .inl (fun _ => 0))), ((a 219), .inl (g 3, 8, .inl (fun _ => 0))), ((a 220), .inl (g 3, 8, .inl (fun _ => 0))), ((a 221), .inl (g 3, 8, .inl (fun _ => 0))), ((a 222), .inl (g 3, 8, .inl (fun _ => 0))), ((a 223), .inl (g 3, 8, .inl (fun _ => 0))), (o1, .inl (g 1, 1, .inr (.inl (fun _ => 0))))] H := hP
      have hD : va_D (va_A [] s.heap.size) [((a 200), f_m a g), ((a 213), .inl (g 6, 8, .inr (.inr (.inr (.inr (fun i => if i < 8 then some (a (216 + i)) else none)))))), ((a 216), .inl (g 3, 8, .inl (fun _ => 0))), ((a 217), .inl (g 3, 8, .inl (fun _ => 0))), ((a 218), .inl (g 3, 8, .inl (fun _ => 0))), ((a 219), .inl (g 3, 8, .inl (fun _ => 0))), ((a 220), .inl (g 3, 8, .inl (fun _ => 0))), ((a 221), .inl (g 3, 8, .inl (fun _ => 0))), ((a 222), .inl (g 3, 8, .inl (fun _ => 0))), ((a 223), .inl (g 3, 8, .inl (fun _ => 0))), (o1, .inl (g 1, 1, .inr (.inl (fun _ => 0))))] := hD
      refine lv_istore (lv' := [(6, .int 1), (0, .ref b), (1, .ref (a 0)), (2, .ref (a 200)), (3, .ref o1), (4, .ref o2), (5, .int 0)]) hx hb dL_law_3496 hl (by decide) rfl (fun ls hl => ?_)
      refine lv_aload_n hx hb dL_law_3498 rfl (lv_at hl 3 rfl) ?_
      refine lv_aload_n hx hb dL_law_3499 rfl (lv_at hl 1 rfl) ?_
      refine lv_iload hx hb dL_law_3500 (lv_at hl 6 rfl) ?_
      refine lv_iconst (v := 1) hx hb dL_law_3502 (by decide) ?_
      refine lv_iadd hx hb dL_law_3503 ?_
      refine r_topi (v := 1) (by decide) ?_
      refine va_sld hx hb hX hbl hbA hS (by unfold vp_in; decide) dL_law_3504 ?_
      refine r_topi (v := xs 1) (congrArg xs (by decide)) ?_
      refine lv_aload_n hx hb dL_law_3505 rfl (lv_at hl 1 rfl) ?_
      refine lv_iload hx hb dL_law_3506 (lv_at hl 6 rfl) ?_
      refine lv_iconst (v := 2) hx hb dL_law_3508 (by decide) ?_
      refine lv_iadd hx hb dL_law_3509 ?_
      refine r_topi (v := 2) (by decide) ?_
      refine va_sld hx hb hX hbl hbA hS (by unfold vp_in; decide) dL_law_3510 ?_
      refine r_topi (v := xs 2) (congrArg xs (by decide)) ?_
      have hPc : va_P D vwCl [((a 200), f_m a g), ((a 213), .inl (g 6, 8, .inr (.inr (.inr (.inr (fun i => if i < 8 then some (a (216 + i)) else none)))))), ((a 223), .inl (g 3, 8, .inl (fun _ => 0))), ((a 222), .inl (g 3, 8, .inl (fun _ => 0))), ((a 221), .inl (g 3, 8, .inl (fun _ => 0))), ((a 220), .inl (g 3, 8, .inl (fun _ => 0))), ((a 219), .inl (g 3, 8, .inl (fun _ => 0))), ((a 218), .inl (g 3, 8, .inl (fun _ => 0))), ((a 217), .inl (g 3, 8, .inl (fun _ => 0))), ((a 216), .inl (g 3, 8, .inl (fun _ => 0)))] _ := hP.sub (ws' := [((a 200), f_m a g), ((a 213), .inl (g 6, 8, .inr (.inr (.inr (.inr (fun i => if i < 8 then some (a (216 + i)) else none)))))), ((a 223), .inl (g 3, 8, .inl (fun _ => 0))), ((a 222), .inl (g 3, 8, .inl (fun _ => 0))), ((a 221), .inl (g 3, 8, .inl (fun _ => 0))), ((a 220), .inl (g 3, 8, .inl (fun _ => 0))), ((a 219), .inl (g 3, 8, .inl (fun _ => 0))), ((a 218), .inl (g 3, 8, .inl (fun _ => 0))), ((a 217), .inl (g 3, 8, .inl (fun _ => 0))), ((a 216), .inl (g 3, 8, .inl (fun _ => 0)))]) [0, 1, 9, 8, 7, 6, 5, 4, 3, 2] rfl
      have hDc : va_D (fun q => z0 ≤ q) [((a 200), f_m a g), ((a 213), .inl (g 6, 8, .inr (.inr (.inr (.inr (fun i => if i < 8 then some (a (216 + i)) else none)))))), ((a 223), .inl (g 3, 8, .inl (fun _ => 0))), ((a 222), .inl (g 3, 8, .inl (fun _ => 0))), ((a 221), .inl (g 3, 8, .inl (fun _ => 0))), ((a 220), .inl (g 3, 8, .inl (fun _ => 0))), ((a 219), .inl (g 3, 8, .inl (fun _ => 0))), ((a 218), .inl (g 3, 8, .inl (fun _ => 0))), ((a 217), .inl (g 3, 8, .inl (fun _ => 0))), ((a 216), .inl (g 3, 8, .inl (fun _ => 0)))] := (hD.to hAz).pick (ws' := [((a 200), f_m a g), ((a 213), .inl (g 6, 8, .inr (.inr (.inr (.inr (fun i => if i < 8 then some (a (216 + i)) else none)))))), ((a 223), .inl (g 3, 8, .inl (fun _ => 0))), ((a 222), .inl (g 3, 8, .inl (fun _ => 0))), ((a 221), .inl (g 3, 8, .inl (fun _ => 0))), ((a 220), .inl (g 3, 8, .inl (fun _ => 0))), ((a 219), .inl (g 3, 8, .inl (fun _ => 0))), ((a 218), .inl (g 3, 8, .inl (fun _ => 0))), ((a 217), .inl (g 3, 8, .inl (fun _ => 0))), ((a 216), .inl (g 3, 8, .inl (fun _ => 0)))]) [0, 1, 9, 8, 7, 6, 5, 4, 3, 2] (by decide) rfl
      have hFc := va_free (wc := [((a 200), f_m a g), ((a 213), .inl (g 6, 8, .inr (.inr (.inr (.inr (fun i => if i < 8 then some (a (216 + i)) else none)))))), ((a 223), .inl (g 3, 8, .inl (fun _ => 0))), ((a 222), .inl (g 3, 8, .inl (fun _ => 0))), ((a 221), .inl (g 3, 8, .inl (fun _ => 0))), ((a 220), .inl (g 3, 8, .inl (fun _ => 0))), ((a 219), .inl (g 3, 8, .inl (fun _ => 0))), ((a 218), .inl (g 3, 8, .inl (fun _ => 0))), ((a 217), .inl (g 3, 8, .inl (fun _ => 0))), ((a 216), .inl (g 3, 8, .inl (fun _ => 0)))]) hD hS hA [0, 1, 9, 8, 7, 6, 5, 4, 3, 2] rfl
      refine va_calli (va_runV (As := [.int (xs 1), .int (xs 2)]) (rest := []) ⟨hx, hb, hml, hown, ht⟩ (k_X15_repair l D g z0 _ a (xs 1) (xs 2)) (cwV 2 ht (gV w_1288 w_1290 w_1291 w_334 w_1289) rfl rfl rfl (by decide +kernel) (le2 rfl rfl)) ⟨PP.blind, va_recv hK.1 hP (ci := 21) (q0 := 0) rfl rfl, PP.mk' hK hZ hz hAz hS hPc hDc⟩ rfl rfl hl.1 rfl (lv_room (Nat.le_of_ble_eq_true rfl)) dL_law_3511 (le2 rfl rfl)) hS (fun q _ h => hFc q h) hFc (fun r u t H locs ht1 hvm hw hB hz1 hk1 hS => ?_)
      rcases hw with hw | hw
      · obtain ⟨rfl, rfl, hw⟩ := hw
        rcases hw with hw | hw | hw | hw | hw
        · have c_73 := hw
          exact absurd c_73 c_69
        · obtain ⟨c_74, c_75, c_76⟩ := hw
          exact absurd c_75 c_71
        · obtain ⟨c_77, c_78, c_79⟩ := hw
          exact absurd c_78 c_71
        · obtain ⟨c_80, c_81, c_82⟩ := hw
          exact absurd (Int.le_trans (lo_lt c_82) (up_le c_70)) (by decide)
        · obtain ⟨c_83, c_84, c_85, c_86⟩ := hw
          obtain ⟨hP1, hD1⟩ := hB
          rw [ht1] at hP1
          obtain ⟨hP, hD⟩ := va_join (wr := [(o1, .inl (g 1, 1, .inr (.inl (fun _ => 0))))]) (w1 := [((a 200), .inr (21, [.int 1, .ref (a 201), .ref (a 202), .ref (a 203), .ref (a 204), .ref (a 205), .ref (a 206), .int 0, .int 0, .int 0, .int 0, .ref (a 208), .ref (a 209), .ref (a 210), .ref (a 211), .ref (a 212), .int 4, .int 12, .int (-1), .int 0, .ref (g 200), .ref (a 213), .int 0, .int 97, .ref (a 214), .ref (a 215), .ref (a 207), .null, .int 0]))]) hP hD [0, 1, 9, 8, 7, 6, 5, 4, 3, 2] [10] rfl rfl (by decide) (by decide) hk1 hFc hP1 hD1
          have hP : va_P D vwCl [(o1, .inl (g 1, 1, .inr (.inl (fun _ => 0)))), ((a 200), .inr (21, [.int 1, .ref (a 201), .ref (a 202), .ref (a 203), .ref (a 204), .ref (a 205), .ref (a 206), .int 0, .int 0, .int 0, .int 0, .ref (a 208), .ref (a 209), .ref (a 210), .ref (a 211), .ref (a 212), .int 4, .int 12, .int (-1), .int 0, .ref (g 200), .ref (a 213), .int 0, .int 97, .ref (a 214), .ref (a 215), .ref (a 207), .null, .int 0]))] H := hP
          have hD : va_D (va_A [] s.heap.size) [(o1, .inl (g 1, 1, .inr (.inl (fun _ => 0)))), ((a 200), .inr (21, [.int 1, .ref (a 201), .ref (a 202), .ref (a 203), .ref (a 204), .ref (a 205), .ref (a 206), .int 0, .int 0, .int 0, .int 0, .ref (a 208), .ref (a 209), .ref (a 210), .ref (a 211), .ref (a 212), .int 4, .int 12, .int (-1), .int 0, .ref (g 200), .ref (a 213), .int 0, .int 97, .ref (a 214), .ref (a 215), .ref (a 207), .null, .int 0]))] := hD
          refine lv_istore (lv' := [(7, .int 0), (6, .int 1), (0, .ref b), (1, .ref (a 0)), (2, .ref (a 200)), (3, .ref o1), (4, .ref o2), (5, .int 0)]) hx hb dL_law_3514 hl (by decide) rfl (fun ls hl => ?_)
          refine lv_aload_n hx hb dL_law_3516 rfl (lv_at hl 4 rfl) ?_
          have hPc : va_P D vwCl [((a 200), .inr (21, [.int 1, .ref (a 201), .ref (a 202), .ref (a 203), .ref (a 204), .ref (a 205), .ref (a 206), .int 0, .int 0, .int 0, .int 0, .ref (a 208), .ref (a 209), .ref (a 210), .ref (a 211), .ref (a 212), .int 4, .int 12, .int (-1), .int 0, .ref (g 200), .ref (a 213), .int 0, .int 97, .ref (a 214), .ref (a 215), .ref (a 207), .null, .int 0]))] _ := hP.sub (ws' := [((a 200), .inr (21, [.int 1, .ref (a 201), .ref (a 202), .ref (a 203), .ref (a 204), .ref (a 205), .ref (a 206), .int 0, .int 0, .int 0, .int 0, .ref (a 208), .ref (a 209), .ref (a 210), .ref (a 211), .ref (a 212), .int 4, .int 12, .int (-1), .int 0, .ref (g 200), .ref (a 213), .int 0, .int 97, .ref (a 214), .ref (a 215), .ref (a 207), .null, .int 0]))]) [1] rfl
          have hDc : va_D (fun q => z0 ≤ q) [((a 200), .inr (21, [.int 1, .ref (a 201), .ref (a 202), .ref (a 203), .ref (a 204), .ref (a 205), .ref (a 206), .int 0, .int 0, .int 0, .int 0, .ref (a 208), .ref (a 209), .ref (a 210), .ref (a 211), .ref (a 212), .int 4, .int 12, .int (-1), .int 0, .ref (g 200), .ref (a 213), .int 0, .int 97, .ref (a 214), .ref (a 215), .ref (a 207), .null, .int 0]))] := (hD.to hAz).pick (ws' := [((a 200), .inr (21, [.int 1, .ref (a 201), .ref (a 202), .ref (a 203), .ref (a 204), .ref (a 205), .ref (a 206), .int 0, .int 0, .int 0, .int 0, .ref (a 208), .ref (a 209), .ref (a 210), .ref (a 211), .ref (a 212), .int 4, .int 12, .int (-1), .int 0, .ref (g 200), .ref (a 213), .int 0, .int 97, .ref (a 214), .ref (a 215), .ref (a 207), .null, .int 0]))]) [1] (by decide) rfl
          have hFc := va_free (wc := [((a 200), .inr (21, [.int 1, .ref (a 201), .ref (a 202), .ref (a 203), .ref (a 204), .ref (a 205), .ref (a 206), .int 0, .int 0, .int 0, .int 0, .ref (a 208), .ref (a 209), .ref (a 210), .ref (a 211), .ref (a 212), .int 4, .int 12, .int (-1), .int 0, .ref (g 200), .ref (a 213), .int 0, .int 97, .ref (a 214), .ref (a 215), .ref (a 207), .null, .int 0]))]) hD hS hA [1] rfl
          refine va_calli (va_runV (As := []) (rest := []) ⟨hx, hb, hml, hown, ht⟩ (k_X15_thrown_v2 l D g z0 _ a) (cwV 0 ht (gV w_772 w_774 w_775 w_334 w_773) rfl rfl rfl (by decide +kernel) (le2 rfl rfl)) ⟨PP.blind, va_recv hK.1 hP (ci := 21) (q0 := 1) rfl rfl, PP.mk' hK hZ hz hAz hS hPc hDc⟩ rfl rfl hl.1 rfl (lv_room (Nat.le_of_ble_eq_true rfl)) dL_law_3517 (le2 rfl rfl)) hS (fun q _ h => hFc q h) hFc (fun r u t H locs ht1 hvm hw hB hz1 hk1 hS => ?_)
          obtain ⟨rfl, hw⟩ := hw
          obtain ⟨hP1, hD1⟩ := hB
          rw [ht1] at hP1
          obtain ⟨hP, hD⟩ := va_join (wr := [(o1, .inl (g 1, 1, .inr (.inl (fun _ => 0))))]) (w1 := [((a 200), .inr (21, [.int 1, .ref (a 201), .ref (a 202), .ref (a 203), .ref (a 204), .ref (a 205), .ref (a 206), .int 0, .int 0, .int 0, .int 0, .ref (a 208), .ref (a 209), .ref (a 210), .ref (a 211), .ref (a 212), .int 4, .int 12, .int (-1), .int 0, .ref (g 200), .ref (a 213), .int 0, .int 97, .ref (a 214), .ref (a 215), .ref (a 207), .null, .int 0]))]) hP hD [1] [0] rfl rfl (by decide) (by decide) hk1 hFc hP1 hD1
          have hP : va_P D vwCl [(o1, .inl (g 1, 1, .inr (.inl (fun _ => 0)))), ((a 200), .inr (21, [.int 1, .ref (a 201), .ref (a 202), .ref (a 203), .ref (a 204), .ref (a 205), .ref (a 206), .int 0, .int 0, .int 0, .int 0, .ref (a 208), .ref (a 209), .ref (a 210), .ref (a 211), .ref (a 212), .int 4, .int 12, .int (-1), .int 0, .ref (g 200), .ref (a 213), .int 0, .int 97, .ref (a 214), .ref (a 215), .ref (a 207), .null, .int 0]))] H := hP
          have hD : va_D (va_A [] s.heap.size) [(o1, .inl (g 1, 1, .inr (.inl (fun _ => 0)))), ((a 200), .inr (21, [.int 1, .ref (a 201), .ref (a 202), .ref (a 203), .ref (a 204), .ref (a 205), .ref (a 206), .int 0, .int 0, .int 0, .int 0, .ref (a 208), .ref (a 209), .ref (a 210), .ref (a 211), .ref (a 212), .int 4, .int 12, .int (-1), .int 0, .ref (g 200), .ref (a 213), .int 0, .int 97, .ref (a 214), .ref (a 215), .ref (a 207), .null, .int 0]))] := hD
          refine lv_iload hx hb dL_law_3520 (lv_at hl 1 rfl) ?_
          refine lv_icmp_eq (tgt := 3527) hx hb dL_law_3522 (by decide) (fun c_87 => ?_) (fun c_87 => ?_)
          · refine lv_iload hx hb dL_law_3527 (lv_at hl 1 rfl) ?_
            refine lv_if_ne (tgt := 3544) hx hb dL_law_3529 (by decide) (fun c_88 => ?_) (fun c_88 => ?_)
            · refine lv_goto (tgt := 4264) hx hb dL_law_3544 (by decide) ?_
              refine W.widen (k := 200 + 300) (n := 8000 + 2000) (Nat.le_of_ble_eq_true rfl) (Nat.le_of_ble_eq_true rfl) ?_
              exact kk _ _ _ hS (lv_sub hl [7, 2] rfl)
            · exact absurd c_88 (by decide)
          · exact absurd c_87 (by decide)
      · obtain ⟨rfl, rfl, hw⟩ := hw
        obtain ⟨c_89, c_90, c_91, c_92⟩ := hw
        exact absurd (Int.le_trans (lo_nle c_72) (up_nlt c_92)) (by decide)
  · obtain ⟨rfl, hw⟩ := hw
    obtain ⟨c_93, c_94, c_95, c_96⟩ := hw
    obtain ⟨hP1, hD1⟩ := hB
    rw [ht1] at hP1
    obtain ⟨hP, hD⟩ := va_join (wr := [((a 200), f_m a g), ((a 213), .inl (g 6, 8, .inr (.inr (.inr (.inr (fun i => if i < 8 then some (a (216 + i)) else none)))))), ((a 216), .inl (g 3, 8, .inl (fun _ => 0))), ((a 217), .inl (g 3, 8, .inl (fun _ => 0))), ((a 218), .inl (g 3, 8, .inl (fun _ => 0))), ((a 219), .inl (g 3, 8, .inl (fun _ => 0))), ((a 220), .inl (g 3, 8, .inl (fun _ => 0))), ((a 221), .inl (g 3, 8, .inl (fun _ => 0))), ((a 222), .inl (g 3, 8, .inl (fun _ => 0))), ((a 223), .inl (g 3, 8, .inl (fun _ => 0)))]) (w1 := [(o1, .inl (g 1, 1, .inr (.inl (fun _ => 0))))]) hP hD [13, 0, 2, 1] [3, 4, 5, 6, 7, 8, 9, 10, 11, 12] rfl rfl (by decide) (by decide) hk1 hFc hP1 hD1
    have hP : va_P D vwCl [((a 200), f_m a g), ((a 213), .inl (g 6, 8, .inr (.inr (.inr (.inr (fun i => if i < 8 then some (a (216 + i)) else none)))))), ((a 216), .inl (g 3, 8, .inl (fun _ => 0))), ((a 217), .inl (g 3, 8, .inl (fun _ => 0))), ((a 218), .inl (g 3, 8, .inl (fun _ => 0))), ((a 219), .inl (g 3, 8, .inl (fun _ => 0))), ((a 220), .inl (g 3, 8, .inl (fun _ => 0))), ((a 221), .inl (g 3, 8, .inl (fun _ => 0))), ((a 222), .inl (g 3, 8, .inl (fun _ => 0))), ((a 223), .inl (g 3, 8, .inl (fun _ => 0))), (o1, .inl (g 1, 1, .inr (.inl (fun _ => 0))))] H := hP
    have hD : va_D (va_A [] s.heap.size) [((a 200), f_m a g), ((a 213), .inl (g 6, 8, .inr (.inr (.inr (.inr (fun i => if i < 8 then some (a (216 + i)) else none)))))), ((a 216), .inl (g 3, 8, .inl (fun _ => 0))), ((a 217), .inl (g 3, 8, .inl (fun _ => 0))), ((a 218), .inl (g 3, 8, .inl (fun _ => 0))), ((a 219), .inl (g 3, 8, .inl (fun _ => 0))), ((a 220), .inl (g 3, 8, .inl (fun _ => 0))), ((a 221), .inl (g 3, 8, .inl (fun _ => 0))), ((a 222), .inl (g 3, 8, .inl (fun _ => 0))), ((a 223), .inl (g 3, 8, .inl (fun _ => 0))), (o1, .inl (g 1, 1, .inr (.inl (fun _ => 0))))] := hD
    refine lv_istore (lv' := [(6, .int 0), (0, .ref b), (1, .ref (a 0)), (2, .ref (a 200)), (3, .ref o1), (4, .ref o2), (5, .int 0)]) hx hb dL_law_3496 hl (by decide) rfl (fun ls hl => ?_)
    refine lv_aload_n hx hb dL_law_3498 rfl (lv_at hl 3 rfl) ?_
    refine lv_aload_n hx hb dL_law_3499 rfl (lv_at hl 1 rfl) ?_
    refine lv_iload hx hb dL_law_3500 (lv_at hl 6 rfl) ?_
    refine lv_iconst (v := 1) hx hb dL_law_3502 (by decide) ?_
    refine lv_iadd hx hb dL_law_3503 ?_
    refine r_topi (v := 1) (by decide) ?_
    refine va_sld hx hb hX hbl hbA hS (by unfold vp_in; decide) dL_law_3504 ?_
    refine r_topi (v := xs 1) (congrArg xs (by decide)) ?_
    refine lv_aload_n hx hb dL_law_3505 rfl (lv_at hl 1 rfl) ?_
    refine lv_iload hx hb dL_law_3506 (lv_at hl 6 rfl) ?_
    refine lv_iconst (v := 2) hx hb dL_law_3508 (by decide) ?_
    refine lv_iadd hx hb dL_law_3509 ?_
    refine r_topi (v := 2) (by decide) ?_
    refine va_sld hx hb hX hbl hbA hS (by unfold vp_in; decide) dL_law_3510 ?_
    refine r_topi (v := xs 2) (congrArg xs (by decide)) ?_
    have hPc : va_P D vwCl [((a 200), f_m a g), ((a 213), .inl (g 6, 8, .inr (.inr (.inr (.inr (fun i => if i < 8 then some (a (216 + i)) else none)))))), ((a 223), .inl (g 3, 8, .inl (fun _ => 0))), ((a 222), .inl (g 3, 8, .inl (fun _ => 0))), ((a 221), .inl (g 3, 8, .inl (fun _ => 0))), ((a 220), .inl (g 3, 8, .inl (fun _ => 0))), ((a 219), .inl (g 3, 8, .inl (fun _ => 0))), ((a 218), .inl (g 3, 8, .inl (fun _ => 0))), ((a 217), .inl (g 3, 8, .inl (fun _ => 0))), ((a 216), .inl (g 3, 8, .inl (fun _ => 0)))] _ := hP.sub (ws' := [((a 200), f_m a g), ((a 213), .inl (g 6, 8, .inr (.inr (.inr (.inr (fun i => if i < 8 then some (a (216 + i)) else none)))))), ((a 223), .inl (g 3, 8, .inl (fun _ => 0))), ((a 222), .inl (g 3, 8, .inl (fun _ => 0))), ((a 221), .inl (g 3, 8, .inl (fun _ => 0))), ((a 220), .inl (g 3, 8, .inl (fun _ => 0))), ((a 219), .inl (g 3, 8, .inl (fun _ => 0))), ((a 218), .inl (g 3, 8, .inl (fun _ => 0))), ((a 217), .inl (g 3, 8, .inl (fun _ => 0))), ((a 216), .inl (g 3, 8, .inl (fun _ => 0)))]) [0, 1, 9, 8, 7, 6, 5, 4, 3, 2] rfl
    have hDc : va_D (fun q => z0 ≤ q) [((a 200), f_m a g), ((a 213), .inl (g 6, 8, .inr (.inr (.inr (.inr (fun i => if i < 8 then some (a (216 + i)) else none)))))), ((a 223), .inl (g 3, 8, .inl (fun _ => 0))), ((a 222), .inl (g 3, 8, .inl (fun _ => 0))), ((a 221), .inl (g 3, 8, .inl (fun _ => 0))), ((a 220), .inl (g 3, 8, .inl (fun _ => 0))), ((a 219), .inl (g 3, 8, .inl (fun _ => 0))), ((a 218), .inl (g 3, 8, .inl (fun _ => 0))), ((a 217), .inl (g 3, 8, .inl (fun _ => 0))), ((a 216), .inl (g 3, 8, .inl (fun _ => 0)))] := (hD.to hAz).pick (ws' := [((a 200), f_m a g), ((a 213), .inl (g 6, 8, .inr (.inr (.inr (.inr (fun i => if i < 8 then some (a (216 + i)) else none)))))), ((a 223), .inl (g 3, 8, .inl (fun _ => 0))), ((a 222), .inl (g 3, 8, .inl (fun _ => 0))), ((a 221), .inl (g 3, 8, .inl (fun _ => 0))), ((a 220), .inl (g 3, 8, .inl (fun _ => 0))), ((a 219), .inl (g 3, 8, .inl (fun _ => 0))), ((a 218), .inl (g 3, 8, .inl (fun _ => 0))), ((a 217), .inl (g 3, 8, .inl (fun _ => 0))), ((a 216), .inl (g 3, 8, .inl (fun _ => 0)))]) [0, 1, 9, 8, 7, 6, 5, 4, 3, 2] (by decide) rfl
    have hFc := va_free (wc := [((a 200), f_m a g), ((a 213), .inl (g 6, 8, .inr (.inr (.inr (.inr (fun i => if i < 8 then some (a (216 + i)) else none)))))), ((a 223), .inl (g 3, 8, .inl (fun _ => 0))), ((a 222), .inl (g 3, 8, .inl (fun _ => 0))), ((a 221), .inl (g 3, 8, .inl (fun _ => 0))), ((a 220), .inl (g 3, 8, .inl (fun _ => 0))), ((a 219), .inl (g 3, 8, .inl (fun _ => 0))), ((a 218), .inl (g 3, 8, .inl (fun _ => 0))), ((a 217), .inl (g 3, 8, .inl (fun _ => 0))), ((a 216), .inl (g 3, 8, .inl (fun _ => 0)))]) hD hS hA [0, 1, 9, 8, 7, 6, 5, 4, 3, 2] rfl
    refine va_calli (va_runV (As := [.int (xs 1), .int (xs 2)]) (rest := []) ⟨hx, hb, hml, hown, ht⟩ (k_X15_repair l D g z0 _ a (xs 1) (xs 2)) (cwV 2 ht (gV w_1288 w_1290 w_1291 w_334 w_1289) rfl rfl rfl (by decide +kernel) (le2 rfl rfl)) ⟨PP.blind, va_recv hK.1 hP (ci := 21) (q0 := 0) rfl rfl, PP.mk' hK hZ hz hAz hS hPc hDc⟩ rfl rfl hl.1 rfl (lv_room (Nat.le_of_ble_eq_true rfl)) dL_law_3511 (le2 rfl rfl)) hS (fun q _ h => hFc q h) hFc (fun r u t H locs ht1 hvm hw hB hz1 hk1 hS => ?_)
    rcases hw with hw | hw
    · obtain ⟨rfl, rfl, hw⟩ := hw
      rcases hw with hw | hw | hw | hw | hw
      · have c_97 := hw
        exact absurd c_97 c_93
      · obtain ⟨c_98, c_99, c_100⟩ := hw
        exact absurd c_99 c_95
      · obtain ⟨c_101, c_102, c_103⟩ := hw
        exact absurd c_102 c_95
      · obtain ⟨c_104, c_105, c_106⟩ := hw
        exact absurd (Int.le_trans (lo_lt c_106) (up_le c_94)) (by decide)
      · obtain ⟨c_107, c_108, c_109, c_110⟩ := hw
        exact absurd (Int.le_trans (lo_lt c_110) (up_le c_96)) (by decide)
    · obtain ⟨rfl, rfl, hw⟩ := hw
      obtain ⟨c_111, c_112, c_113, c_114⟩ := hw
      obtain ⟨hP1, hD1⟩ := hB
      rw [ht1] at hP1
      obtain ⟨hP, hD⟩ := va_join (wr := [(o1, .inl (g 1, 1, .inr (.inl (fun _ => 0))))]) (w1 := [((a 200), f_m a g)]) hP hD [0, 1, 9, 8, 7, 6, 5, 4, 3, 2] [10] rfl rfl (by decide) (by decide) hk1 hFc hP1 hD1
      have hP : va_P D vwCl [(o1, .inl (g 1, 1, .inr (.inl (fun _ => 0)))), ((a 200), f_m a g)] H := hP
      have hD : va_D (va_A [] s.heap.size) [(o1, .inl (g 1, 1, .inr (.inl (fun _ => 0)))), ((a 200), f_m a g)] := hD
      refine lv_istore (lv' := [(7, .int 0), (6, .int 0), (0, .ref b), (1, .ref (a 0)), (2, .ref (a 200)), (3, .ref o1), (4, .ref o2), (5, .int 0)]) hx hb dL_law_3514 hl (by decide) rfl (fun ls hl => ?_)
      refine lv_aload_n hx hb dL_law_3516 rfl (lv_at hl 4 rfl) ?_
      have hPc : va_P D vwCl [((a 200), f_m a g)] _ := hP.sub (ws' := [((a 200), f_m a g)]) [1] rfl
      have hDc : va_D (fun q => z0 ≤ q) [((a 200), f_m a g)] := (hD.to hAz).pick (ws' := [((a 200), f_m a g)]) [1] (by decide) rfl
      have hFc := va_free (wc := [((a 200), f_m a g)]) hD hS hA [1] rfl
      refine va_calli (va_runV (As := []) (rest := []) ⟨hx, hb, hml, hown, ht⟩ (k_X15_thrown l D g z0 _ a) (cwV 0 ht (gV w_772 w_774 w_775 w_334 w_773) rfl rfl rfl (by decide +kernel) (le2 rfl rfl)) ⟨PP.blind, va_recv hK.1 hP (ci := 21) (q0 := 1) rfl rfl, PP.mk' hK hZ hz hAz hS hPc hDc⟩ rfl rfl hl.1 rfl (lv_room (Nat.le_of_ble_eq_true rfl)) dL_law_3517 (le2 rfl rfl)) hS (fun q _ h => hFc q h) hFc (fun r u t H locs ht1 hvm hw hB hz1 hk1 hS => ?_)
      obtain ⟨rfl, hw⟩ := hw
      obtain ⟨hP1, hD1⟩ := hB
      rw [ht1] at hP1
      obtain ⟨hP, hD⟩ := va_join (wr := [(o1, .inl (g 1, 1, .inr (.inl (fun _ => 0))))]) (w1 := [((a 200), f_m a g)]) hP hD [1] [0] rfl rfl (by decide) (by decide) hk1 hFc hP1 hD1
      have hP : va_P D vwCl [(o1, .inl (g 1, 1, .inr (.inl (fun _ => 0)))), ((a 200), f_m a g)] H := hP
      have hD : va_D (va_A [] s.heap.size) [(o1, .inl (g 1, 1, .inr (.inl (fun _ => 0)))), ((a 200), f_m a g)] := hD
      refine lv_iload hx hb dL_law_3520 (lv_at hl 1 rfl) ?_
      refine lv_icmp_eq (tgt := 3527) hx hb dL_law_3522 (by decide) (fun c_115 => ?_) (fun c_115 => ?_)
      · refine lv_iload hx hb dL_law_3527 (lv_at hl 1 rfl) ?_
        refine lv_if_ne (tgt := 3544) hx hb dL_law_3529 (by decide) (fun c_116 => ?_) (fun c_116 => ?_)
        · exact absurd c_116 (by decide)
        · refine lv_aload_n hx hb dL_law_3532 rfl (lv_at hl 5 rfl) ?_
          refine lv_iconst (v := 0) hx hb dL_law_3533 (by decide) ?_
          refine va_lald hx hb hK.1 hP 0 1 rfl rfl (by unfold vp_in; decide) dL_law_3534 ?_
          refine r_topl (v := 0) (by decide) ?_
          refine lv_iload hx hb dL_law_3535 (lv_at hl 0 rfl) ?_
          refine lv_i2l (v := 0) hx hb dL_law_3537 (by decide) ?_
          refine W.lcmp hx hb dL_law_3538 ?_
          refine r_topi (v := 0) (by decide) ?_
          refine lv_if_eq (tgt := 3544) hx hb dL_law_3539 (by decide) (fun c_117 => ?_) (fun c_117 => ?_)
          · refine lv_goto (tgt := 4264) hx hb dL_law_3544 (by decide) ?_
            refine W.widen (k := 200 + 300) (n := 8000 + 2000) (Nat.le_of_ble_eq_true rfl) (Nat.le_of_ble_eq_true rfl) ?_
            exact kk _ _ _ hS (lv_sub hl [7, 2] rfl)
          · exact absurd c_117 (by decide)
      · exact absurd c_115 (by decide)
