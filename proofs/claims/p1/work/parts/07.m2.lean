theorem w_502 : Cond.methodLink RX15 498 yX15_isWire ∈ TG := tg (sg_14 _ (List.mem_of_getElem? (i := 143) (by decide +kernel))) (by decide +kernel)
theorem w_503 : Cond.code yX15_isWire cX15_isWire 2 (some .boolean) ∈ TG := tg (sg_14 _ (List.mem_of_getElem? (i := 146) (by decide +kernel))) (by decide +kernel)
theorem w_504 : Cond.instanceMethod yX15_isWire ∈ TG := tg (sg_14 _ (List.mem_of_getElem? (i := 145) (by decide +kernel))) (by decide +kernel)
theorem w_505 : Cond.selects RX15 yX15_isWire yX15_isWire ∈ TG := tg (List.mem_append_left _ (List.mem_map.mpr ⟨(yX15_isWire, 29), List.mem_of_getElem? (i := 128) (by decide +kernel), rfl⟩)) (by decide +kernel)
theorem w_506 : Cond.methodLink RX15 515 yX15_isNoWire ∈ TG := tg (sg_14 _ (List.mem_of_getElem? (i := 159) (by decide +kernel))) (by decide +kernel)
theorem w_507 : Cond.code yX15_isNoWire cX15_isNoWire 3 (some .boolean) ∈ TG := tg (sg_14 _ (List.mem_of_getElem? (i := 162) (by decide +kernel))) (by decide +kernel)
theorem w_508 : Cond.instanceMethod yX15_isNoWire ∈ TG := tg (sg_14 _ (List.mem_of_getElem? (i := 161) (by decide +kernel))) (by decide +kernel)
theorem w_509 : Cond.selects RX15 yX15_isNoWire yX15_isNoWire ∈ TG := tg (List.mem_append_left _ (List.mem_map.mpr ⟨(yX15_isNoWire, 29), List.mem_of_getElem? (i := 130) (by decide +kernel), rfl⟩)) (by decide +kernel)
theorem w_510 : Cond.methodLink RX15 475 yJ0_isEmpty_aae02 ∈ TG := tg (sg_14 _ (List.mem_of_getElem? (i := 85) (by decide +kernel))) (by decide +kernel)
theorem w_511 : Cond.code yJ0_isEmpty_aae02 cJ0_isEmpty_aae02 1 (some .boolean) ∈ TG := tg (sg_14 _ (List.mem_of_getElem? (i := 88) (by decide +kernel))) (by decide +kernel)
theorem w_512 : Cond.instanceMethod yJ0_isEmpty_aae02 ∈ TG := tg (sg_14 _ (List.mem_of_getElem? (i := 86) (by decide +kernel))) (by decide +kernel)
theorem w_513 : Cond.selects RJ0 yJ0_isEmpty_aae02 yJ0_isEmpty_aae02 ∈ TG := tg (sg_14 _ (List.mem_of_getElem? (i := 87) (by decide +kernel))) (by decide +kernel)
theorem w_514 : Cond.methodLink RX15 480 yX15_isRightNow ∈ TG := tg (sg_14 _ (List.mem_of_getElem? (i := 81) (by decide +kernel))) (by decide +kernel)
theorem w_515 : Cond.code yX15_isRightNow cX15_isRightNow 2 (some .boolean) ∈ TG := tg (sg_14 _ (List.mem_of_getElem? (i := 84) (by decide +kernel))) (by decide +kernel)
theorem w_516 : Cond.instanceMethod yX15_isRightNow ∈ TG := tg (sg_14 _ (List.mem_of_getElem? (i := 83) (by decide +kernel))) (by decide +kernel)
theorem w_517 : Cond.selects RX15 yX15_isRightNow yX15_isRightNow ∈ TG := tg (List.mem_append_left _ (List.mem_map.mpr ⟨(yX15_isRightNow, 29), List.mem_of_getElem? (i := 124) (by decide +kernel), rfl⟩)) (by decide +kernel)
theorem dJ0_isEmpty_aae02_0 : decode cJ0_isEmpty_aae02 0 = .ok (.aload_n 0, 1) := by decide +kernel
theorem dJ0_isEmpty_aae02_1 : decode cJ0_isEmpty_aae02 1 = .ok (.getfield 9, 3) := by decide +kernel
theorem dJ0_isEmpty_aae02_4 : decode cJ0_isEmpty_aae02 4 = .ok (.arraylength, 1) := by decide +kernel
theorem dJ0_isEmpty_aae02_5 : decode cJ0_isEmpty_aae02 5 = .ok (.ifCond .ne 7, 3) := by decide +kernel
theorem dJ0_isEmpty_aae02_8 : decode cJ0_isEmpty_aae02 8 = .ok (.iconst 1, 1) := by decide +kernel
theorem dJ0_isEmpty_aae02_9 : decode cJ0_isEmpty_aae02 9 = .ok (.goto 4, 3) := by decide +kernel
theorem dJ0_isEmpty_aae02_12 : decode cJ0_isEmpty_aae02 12 = .ok (.iconst 0, 1) := by decide +kernel
theorem dJ0_isEmpty_aae02_13 : decode cJ0_isEmpty_aae02 13 = .ok (.ireturn, 1) := by decide +kernel
theorem dX15_gate_0 : decode cX15_gate 0 = .ok (.iload_n 1, 1) := by decide +kernel
theorem dX15_gate_1 : decode cX15_gate 1 = .ok (.bipush 98, 2) := by decide +kernel
theorem dX15_gate_3 : decode cX15_gate 3 = .ok (.if_icmp .eq 9, 3) := by decide +kernel
theorem dX15_gate_6 : decode cX15_gate 6 = .ok (.iload_n 1, 1) := by decide +kernel
theorem dX15_gate_7 : decode cX15_gate 7 = .ok (.bipush 118, 2) := by decide +kernel
theorem dX15_gate_9 : decode cX15_gate 9 = .ok (.if_icmp .ne 7, 3) := by decide +kernel
theorem dX15_gate_12 : decode cX15_gate 12 = .ok (.iconst 1, 1) := by decide +kernel
theorem dX15_gate_13 : decode cX15_gate 13 = .ok (.goto 4, 3) := by decide +kernel
theorem dX15_gate_16 : decode cX15_gate 16 = .ok (.iconst 0, 1) := by decide +kernel
theorem dX15_gate_17 : decode cX15_gate 17 = .ok (.istore 4, 2) := by decide +kernel
theorem dX15_gate_19 : decode cX15_gate 19 = .ok (.iload 4, 2) := by decide +kernel
theorem dX15_gate_21 : decode cX15_gate 21 = .ok (.ifCond .ne 12, 3) := by decide +kernel
theorem dX15_gate_24 : decode cX15_gate 24 = .ok (.ldc 132, 2) := by decide +kernel
theorem dX15_gate_26 : decode cX15_gate 26 = .ok (.iload_n 1, 1) := by decide +kernel
theorem dX15_gate_27 : decode cX15_gate 27 = .ok (.invokevirtual 134, 3) := by decide +kernel
theorem dX15_gate_30 : decode cX15_gate 30 = .ok (.ifCond .lt 7, 3) := by decide +kernel
theorem dX15_gate_33 : decode cX15_gate 33 = .ok (.iconst 1, 1) := by decide +kernel
theorem dX15_gate_34 : decode cX15_gate 34 = .ok (.goto 4, 3) := by decide +kernel
theorem dX15_gate_37 : decode cX15_gate 37 = .ok (.iconst 0, 1) := by decide +kernel
theorem dX15_gate_38 : decode cX15_gate 38 = .ok (.istore 5, 2) := by decide +kernel
theorem dX15_gate_40 : decode cX15_gate 40 = .ok (.aload_n 0, 1) := by decide +kernel
theorem dX15_gate_41 : decode cX15_gate 41 = .ok (.iload 5, 2) := by decide +kernel
theorem dX15_gate_43 : decode cX15_gate 43 = .ok (.ifCond .ne 7, 3) := by decide +kernel
theorem dX15_gate_46 : decode cX15_gate 46 = .ok (.iconst 1, 1) := by decide +kernel
theorem dX15_gate_47 : decode cX15_gate 47 = .ok (.goto 58, 3) := by decide +kernel
theorem dX15_gate_50 : decode cX15_gate 50 = .ok (.aload_n 0, 1) := by decide +kernel
theorem dX15_gate_51 : decode cX15_gate 51 = .ok (.iload_n 2, 1) := by decide +kernel
theorem dX15_gate_52 : decode cX15_gate 52 = .ok (.invokevirtual 140, 3) := by decide +kernel
theorem dX15_gate_55 : decode cX15_gate 55 = .ok (.ifCond .eq 16, 3) := by decide +kernel
theorem dX15_gate_58 : decode cX15_gate 58 = .ok (.iload 4, 2) := by decide +kernel
theorem dX15_gate_60 : decode cX15_gate 60 = .ok (.ifCond .ne 15, 3) := by decide +kernel
theorem dX15_gate_63 : decode cX15_gate 63 = .ok (.aload_n 0, 1) := by decide +kernel
theorem dX15_gate_64 : decode cX15_gate 64 = .ok (.iload_n 3, 1) := by decide +kernel
theorem dX15_gate_65 : decode cX15_gate 65 = .ok (.invokevirtual 140, 3) := by decide +kernel
theorem dX15_gate_68 : decode cX15_gate 68 = .ok (.ifCond .ne 7, 3) := by decide +kernel
theorem dX15_gate_71 : decode cX15_gate 71 = .ok (.iconst 2, 1) := by decide +kernel
theorem dX15_gate_72 : decode cX15_gate 72 = .ok (.goto 33, 3) := by decide +kernel
theorem dX15_gate_75 : decode cX15_gate 75 = .ok (.aload_n 0, 1) := by decide +kernel
theorem dX15_gate_76 : decode cX15_gate 76 = .ok (.getfield 102, 3) := by decide +kernel
theorem dX15_gate_79 : decode cX15_gate 79 = .ok (.ifCond .eq 7, 3) := by decide +kernel
theorem dX15_gate_82 : decode cX15_gate 82 = .ok (.iconst 3, 1) := by decide +kernel
theorem dX15_gate_83 : decode cX15_gate 83 = .ok (.goto 22, 3) := by decide +kernel
theorem dX15_gate_86 : decode cX15_gate 86 = .ok (.aload_n 0, 1) := by decide +kernel
theorem dX15_gate_87 : decode cX15_gate 87 = .ok (.getfield 16, 3) := by decide +kernel
theorem dX15_gate_90 : decode cX15_gate 90 = .ok (.invokeinterface 92 1, 5) := by decide +kernel
theorem dX15_gate_95 : decode cX15_gate 95 = .ok (.bipush 40, 2) := by decide +kernel
theorem dX15_gate_97 : decode cX15_gate 97 = .ok (.if_icmp .ne 7, 3) := by decide +kernel
theorem dX15_gate_100 : decode cX15_gate 100 = .ok (.iconst 4, 1) := by decide +kernel
theorem dX15_gate_101 : decode cX15_gate 101 = .ok (.goto 4, 3) := by decide +kernel
theorem dX15_gate_104 : decode cX15_gate 104 = .ok (.iconst 0, 1) := by decide +kernel
theorem dX15_gate_105 : decode cX15_gate 105 = .ok (.invokevirtual 106, 3) := by decide +kernel
theorem dX15_gate_108 : decode cX15_gate 108 = .ok (.ifCond .eq 5, 3) := by decide +kernel
theorem dX15_gate_111 : decode cX15_gate 111 = .ok (.iconst 0, 1) := by decide +kernel
theorem dX15_gate_112 : decode cX15_gate 112 = .ok (.ireturn, 1) := by decide +kernel
theorem dX15_gate_113 : decode cX15_gate 113 = .ok (.aload_n 0, 1) := by decide +kernel
theorem dX15_gate_114 : decode cX15_gate 114 = .ok (.getfield 16, 3) := by decide +kernel
theorem dX15_gate_117 : decode cX15_gate 117 = .ok (.iload 4, 2) := by decide +kernel
theorem dX15_gate_119 : decode cX15_gate 119 = .ok (.ifCond .eq 21, 3) := by decide +kernel
theorem dX15_gate_122 : decode cX15_gate 122 = .ok (.new 110, 3) := by decide +kernel
theorem dX15_gate_125 : decode cX15_gate 125 = .ok (.dup, 1) := by decide +kernel
theorem dX15_gate_126 : decode cX15_gate 126 = .ok (.iload_n 1, 1) := by decide +kernel
theorem dX15_gate_127 : decode cX15_gate 127 = .ok (.iconst 1, 1) := by decide +kernel
theorem dX15_gate_128 : decode cX15_gate 128 = .ok (.newarray .int, 2) := by decide +kernel
theorem dX15_gate_130 : decode cX15_gate 130 = .ok (.dup, 1) := by decide +kernel
theorem dX15_gate_131 : decode cX15_gate 131 = .ok (.iconst 0, 1) := by decide +kernel
theorem dX15_gate_132 : decode cX15_gate 132 = .ok (.iload_n 2, 1) := by decide +kernel
theorem dX15_gate_133 : decode cX15_gate 133 = .ok (.iastore, 1) := by decide +kernel
theorem dX15_gate_134 : decode cX15_gate 134 = .ok (.invokespecial 112, 3) := by decide +kernel
theorem dX15_gate_137 : decode cX15_gate 137 = .ok (.goto 22, 3) := by decide +kernel
theorem dX15_gate_140 : decode cX15_gate 140 = .ok (.new 110, 3) := by decide +kernel
theorem dX15_gate_143 : decode cX15_gate 143 = .ok (.dup, 1) := by decide +kernel
theorem dX15_gate_144 : decode cX15_gate 144 = .ok (.iload_n 1, 1) := by decide +kernel
theorem dX15_gate_145 : decode cX15_gate 145 = .ok (.iconst 2, 1) := by decide +kernel
theorem dX15_gate_146 : decode cX15_gate 146 = .ok (.newarray .int, 2) := by decide +kernel
theorem dX15_gate_148 : decode cX15_gate 148 = .ok (.dup, 1) := by decide +kernel
theorem dX15_gate_149 : decode cX15_gate 149 = .ok (.iconst 0, 1) := by decide +kernel
theorem dX15_gate_150 : decode cX15_gate 150 = .ok (.iload_n 2, 1) := by decide +kernel
theorem dX15_gate_151 : decode cX15_gate 151 = .ok (.iastore, 1) := by decide +kernel
theorem dX15_gate_152 : decode cX15_gate 152 = .ok (.dup, 1) := by decide +kernel
theorem dX15_gate_153 : decode cX15_gate 153 = .ok (.iconst 1, 1) := by decide +kernel
theorem dX15_gate_154 : decode cX15_gate 154 = .ok (.iload_n 3, 1) := by decide +kernel
theorem dX15_gate_155 : decode cX15_gate 155 = .ok (.iastore, 1) := by decide +kernel
theorem dX15_gate_156 : decode cX15_gate 156 = .ok (.invokespecial 112, 3) := by decide +kernel
theorem dX15_gate_159 : decode cX15_gate 159 = .ok (.invokeinterface 124 2, 5) := by decide +kernel
theorem dX15_gate_164 : decode cX15_gate 164 = .ok (.pop, 1) := by decide +kernel
theorem dX15_gate_165 : decode cX15_gate 165 = .ok (.aload_n 0, 1) := by decide +kernel
theorem dX15_gate_166 : decode cX15_gate 166 = .ok (.getfield 16, 3) := by decide +kernel
theorem dX15_gate_169 : decode cX15_gate 169 = .ok (.invokeinterface 92 1, 5) := by decide +kernel
theorem dX15_gate_174 : decode cX15_gate 174 = .ok (.iconst 1, 1) := by decide +kernel
theorem dX15_gate_175 : decode cX15_gate 175 = .ok (.isub, 1) := by decide +kernel
theorem dX15_gate_176 : decode cX15_gate 176 = .ok (.ireturn, 1) := by decide +kernel
theorem dX15_got_0 : decode cX15_got 0 = .ok (.aload_n 0, 1) := by decide +kernel
theorem dX15_got_1 : decode cX15_got 1 = .ok (.iload_n 1, 1) := by decide +kernel
theorem dX15_got_2 : decode cX15_got 2 = .ok (.iload_n 2, 1) := by decide +kernel
theorem dX15_got_3 : decode cX15_got 3 = .ok (.invokevirtual 515, 3) := by decide +kernel
theorem dX15_got_6 : decode cX15_got 6 = .ok (.ifCond .eq 7, 3) := by decide +kernel
theorem dX15_got_9 : decode cX15_got 9 = .ok (.iconst 0, 1) := by decide +kernel
theorem dX15_got_10 : decode cX15_got 10 = .ok (.goto 9, 3) := by decide +kernel
theorem dX15_got_13 : decode cX15_got 13 = .ok (.aload_n 0, 1) := by decide +kernel
theorem dX15_got_14 : decode cX15_got 14 = .ok (.iload_n 1, 1) := by decide +kernel
theorem dX15_got_15 : decode cX15_got 15 = .ok (.iload_n 2, 1) := by decide +kernel
theorem dX15_got_16 : decode cX15_got 16 = .ok (.invokevirtual 519, 3) := by decide +kernel
theorem dX15_got_19 : decode cX15_got 19 = .ok (.ireturn, 1) := by decide +kernel
theorem dX15_hardest_0 : decode cX15_hardest 0 = .ok (.iconst (-1), 1) := by decide +kernel
theorem dX15_hardest_1 : decode cX15_hardest 1 = .ok (.istore_n 1, 1) := by decide +kernel
theorem dX15_hardest_2 : decode cX15_hardest 2 = .ok (.iconst 0, 1) := by decide +kernel
theorem dX15_hardest_3 : decode cX15_hardest 3 = .ok (.istore_n 2, 1) := by decide +kernel
theorem dX15_hardest_4 : decode cX15_hardest 4 = .ok (.aload_n 0, 1) := by decide +kernel
theorem dX15_hardest_5 : decode cX15_hardest 5 = .ok (.invokevirtual 318, 3) := by decide +kernel
theorem dX15_hardest_8 : decode cX15_hardest 8 = .ok (.invokeinterface 156 1, 5) := by decide +kernel
theorem dX15_hardest_13 : decode cX15_hardest 13 = .ok (.astore_n 3, 1) := by decide +kernel
theorem dX15_hardest_14 : decode cX15_hardest 14 = .ok (.aload_n 3, 1) := by decide +kernel
theorem dX15_hardest_15 : decode cX15_hardest 15 = .ok (.invokeinterface 160 1, 5) := by decide +kernel
theorem dX15_hardest_20 : decode cX15_hardest 20 = .ok (.ifCond .eq 65, 3) := by decide +kernel
theorem dX15_hardest_23 : decode cX15_hardest 23 = .ok (.aload_n 3, 1) := by decide +kernel
theorem dX15_hardest_24 : decode cX15_hardest 24 = .ok (.invokeinterface 166 1, 5) := by decide +kernel
theorem dX15_hardest_29 : decode cX15_hardest 29 = .ok (.checkcast 119, 3) := by decide +kernel
theorem dX15_hardest_32 : decode cX15_hardest 32 = .ok (.invokevirtual 194, 3) := by decide +kernel
theorem dX15_hardest_35 : decode cX15_hardest 35 = .ok (.istore 4, 2) := by decide +kernel
theorem dX15_hardest_37 : decode cX15_hardest 37 = .ok (.aload_n 0, 1) := by decide +kernel
theorem dX15_hardest_38 : decode cX15_hardest 38 = .ok (.aload_n 0, 1) := by decide +kernel
theorem dX15_hardest_39 : decode cX15_hardest 39 = .ok (.getfield 26, 3) := by decide +kernel
theorem dX15_hardest_42 : decode cX15_hardest 42 = .ok (.iload 4, 2) := by decide +kernel
theorem dX15_hardest_44 : decode cX15_hardest 44 = .ok (.invokeinterface 143 2, 5) := by decide +kernel
theorem dX15_hardest_49 : decode cX15_hardest 49 = .ok (.checkcast 170, 3) := by decide +kernel
theorem dX15_hardest_52 : decode cX15_hardest 52 = .ok (.invokevirtual 356, 3) := by decide +kernel
theorem dX15_hardest_55 : decode cX15_hardest 55 = .ok (.istore 5, 2) := by decide +kernel
theorem dX15_hardest_57 : decode cX15_hardest 57 = .ok (.iload 5, 2) := by decide +kernel
theorem dX15_hardest_59 : decode cX15_hardest 59 = .ok (.ifCond .eq (-45), 3) := by decide +kernel
theorem dX15_hardest_62 : decode cX15_hardest 62 = .ok (.iload_n 1, 1) := by decide +kernel
theorem dX15_hardest_63 : decode cX15_hardest 63 = .ok (.iconst (-1), 1) := by decide +kernel
theorem dX15_hardest_64 : decode cX15_hardest 64 = .ok (.if_icmp .eq 12, 3) := by decide +kernel
theorem dX15_hardest_67 : decode cX15_hardest 67 = .ok (.iload 5, 2) := by decide +kernel
theorem dX15_hardest_69 : decode cX15_hardest 69 = .ok (.iload_n 2, 1) := by decide +kernel
theorem dX15_hardest_70 : decode cX15_hardest 70 = .ok (.if_icmp .lt 6, 3) := by decide +kernel
theorem dX15_hardest_73 : decode cX15_hardest 73 = .ok (.goto (-59), 3) := by decide +kernel
theorem dX15_hardest_76 : decode cX15_hardest 76 = .ok (.iload 4, 2) := by decide +kernel
theorem dX15_hardest_78 : decode cX15_hardest 78 = .ok (.istore_n 1, 1) := by decide +kernel
theorem dX15_hardest_79 : decode cX15_hardest 79 = .ok (.iload 5, 2) := by decide +kernel
theorem dX15_hardest_81 : decode cX15_hardest 81 = .ok (.istore_n 2, 1) := by decide +kernel
theorem dX15_hardest_82 : decode cX15_hardest 82 = .ok (.goto (-68), 3) := by decide +kernel
theorem dX15_hardest_85 : decode cX15_hardest 85 = .ok (.aload_n 0, 1) := by decide +kernel
theorem dX15_hardest_86 : decode cX15_hardest 86 = .ok (.iload_n 1, 1) := by decide +kernel
theorem dX15_hardest_87 : decode cX15_hardest 87 = .ok (.iconst (-1), 1) := by decide +kernel
theorem dX15_hardest_88 : decode cX15_hardest 88 = .ok (.if_icmp .ne 7, 3) := by decide +kernel
theorem dX15_hardest_91 : decode cX15_hardest 91 = .ok (.iconst 1, 1) := by decide +kernel
theorem dX15_hardest_92 : decode cX15_hardest 92 = .ok (.goto 4, 3) := by decide +kernel
theorem dX15_hardest_95 : decode cX15_hardest 95 = .ok (.iconst 0, 1) := by decide +kernel
theorem dX15_hardest_96 : decode cX15_hardest 96 = .ok (.invokevirtual 106, 3) := by decide +kernel
theorem dX15_hardest_99 : decode cX15_hardest 99 = .ok (.ifCond .eq 7, 3) := by decide +kernel
theorem dX15_hardest_102 : decode cX15_hardest 102 = .ok (.iconst 0, 1) := by decide +kernel
theorem dX15_hardest_103 : decode cX15_hardest 103 = .ok (.goto 4, 3) := by decide +kernel
theorem dX15_hardest_106 : decode cX15_hardest 106 = .ok (.iload_n 1, 1) := by decide +kernel
theorem dX15_hardest_107 : decode cX15_hardest 107 = .ok (.ireturn, 1) := by decide +kernel
theorem dX15_input_0 : decode cX15_input 0 = .ok (.aload_n 0, 1) := by decide +kernel
theorem dX15_input_1 : decode cX15_input 1 = .ok (.bipush 105, 2) := by decide +kernel
theorem dX15_input_3 : decode cX15_input 3 = .ok (.invokevirtual 128, 3) := by decide +kernel
theorem dX15_input_6 : decode cX15_input 6 = .ok (.ireturn, 1) := by decide +kernel
theorem dX15_isImpossible_0 : decode cX15_isImpossible 0 = .ok (.aload_n 0, 1) := by decide +kernel
theorem dX15_isImpossible_1 : decode cX15_isImpossible 1 = .ok (.aload_n 0, 1) := by decide +kernel
theorem dX15_isImpossible_2 : decode cX15_isImpossible 2 = .ok (.iload_n 1, 1) := by decide +kernel
theorem dX15_isImpossible_3 : decode cX15_isImpossible 3 = .ok (.invokevirtual 286, 3) := by decide +kernel
theorem dX15_isImpossible_6 : decode cX15_isImpossible 6 = .ok (.ifCond .ne 7, 3) := by decide +kernel
theorem dX15_isImpossible_9 : decode cX15_isImpossible 9 = .ok (.iconst 1, 1) := by decide +kernel
theorem dX15_isImpossible_10 : decode cX15_isImpossible 10 = .ok (.goto 27, 3) := by decide +kernel
theorem dX15_isImpossible_13 : decode cX15_isImpossible 13 = .ok (.aload_n 0, 1) := by decide +kernel
theorem dX15_isImpossible_14 : decode cX15_isImpossible 14 = .ok (.getfield 26, 3) := by decide +kernel
theorem dX15_isImpossible_17 : decode cX15_isImpossible 17 = .ok (.iload_n 1, 1) := by decide +kernel
theorem dX15_isImpossible_18 : decode cX15_isImpossible 18 = .ok (.invokeinterface 143 2, 5) := by decide +kernel
theorem dX15_isImpossible_23 : decode cX15_isImpossible 23 = .ok (.checkcast 170, 3) := by decide +kernel
theorem dX15_isImpossible_26 : decode cX15_isImpossible 26 = .ok (.invokevirtual 241, 3) := by decide +kernel
theorem dX15_isImpossible_29 : decode cX15_isImpossible 29 = .ok (.ifCond .eq 7, 3) := by decide +kernel
theorem dX15_isImpossible_32 : decode cX15_isImpossible 32 = .ok (.iconst 2, 1) := by decide +kernel
theorem dX15_isImpossible_33 : decode cX15_isImpossible 33 = .ok (.goto 4, 3) := by decide +kernel
theorem dX15_isImpossible_36 : decode cX15_isImpossible 36 = .ok (.iconst 0, 1) := by decide +kernel
theorem dX15_isImpossible_37 : decode cX15_isImpossible 37 = .ok (.invokevirtual 106, 3) := by decide +kernel
theorem dX15_isImpossible_40 : decode cX15_isImpossible 40 = .ok (.ifCond .ne 27, 3) := by decide +kernel
theorem dX15_isImpossible_43 : decode cX15_isImpossible 43 = .ok (.aload_n 0, 1) := by decide +kernel
theorem dX15_isImpossible_44 : decode cX15_isImpossible 44 = .ok (.aload_n 0, 1) := by decide +kernel
theorem dX15_isImpossible_45 : decode cX15_isImpossible 45 = .ok (.getfield 26, 3) := by decide +kernel
theorem dX15_isImpossible_48 : decode cX15_isImpossible 48 = .ok (.iload_n 1, 1) := by decide +kernel
theorem dX15_isImpossible_49 : decode cX15_isImpossible 49 = .ok (.invokeinterface 143 2, 5) := by decide +kernel
theorem dX15_isImpossible_54 : decode cX15_isImpossible 54 = .ok (.checkcast 170, 3) := by decide +kernel
theorem dX15_isImpossible_57 : decode cX15_isImpossible 57 = .ok (.invokevirtual 356, 3) := by decide +kernel
theorem dX15_isImpossible_60 : decode cX15_isImpossible 60 = .ok (.ifCond .ne 7, 3) := by decide +kernel
theorem dX15_isImpossible_63 : decode cX15_isImpossible 63 = .ok (.iconst 1, 1) := by decide +kernel
theorem dX15_isImpossible_64 : decode cX15_isImpossible 64 = .ok (.goto 4, 3) := by decide +kernel
theorem dX15_isImpossible_67 : decode cX15_isImpossible 67 = .ok (.iconst 0, 1) := by decide +kernel
theorem dX15_isImpossible_68 : decode cX15_isImpossible 68 = .ok (.ireturn, 1) := by decide +kernel
theorem dX15_isNoWire_0 : decode cX15_isNoWire 0 = .ok (.aload_n 0, 1) := by decide +kernel
theorem dX15_isNoWire_1 : decode cX15_isNoWire 1 = .ok (.aload_n 0, 1) := by decide +kernel
theorem dX15_isNoWire_2 : decode cX15_isNoWire 2 = .ok (.iload_n 1, 1) := by decide +kernel
theorem dX15_isNoWire_3 : decode cX15_isNoWire 3 = .ok (.invokevirtual 498, 3) := by decide +kernel
theorem dX15_isNoWire_6 : decode cX15_isNoWire 6 = .ok (.ifCond .ne 7, 3) := by decide +kernel
theorem dX15_isNoWire_9 : decode cX15_isNoWire 9 = .ok (.iconst 1, 1) := by decide +kernel
theorem dX15_isNoWire_10 : decode cX15_isNoWire 10 = .ok (.goto 20, 3) := by decide +kernel
theorem dX15_isNoWire_13 : decode cX15_isNoWire 13 = .ok (.iload_n 2, 1) := by decide +kernel
theorem dX15_isNoWire_14 : decode cX15_isNoWire 14 = .ok (.bipush 99, 2) := by decide +kernel
theorem dX15_isNoWire_16 : decode cX15_isNoWire 16 = .ok (.if_icmp .eq 13, 3) := by decide +kernel
theorem dX15_isNoWire_19 : decode cX15_isNoWire 19 = .ok (.iload_n 2, 1) := by decide +kernel
theorem dX15_isNoWire_20 : decode cX15_isNoWire 20 = .ok (.bipush 116, 2) := by decide +kernel
theorem dX15_isNoWire_22 : decode cX15_isNoWire 22 = .ok (.if_icmp .eq 7, 3) := by decide +kernel
theorem dX15_isNoWire_25 : decode cX15_isNoWire 25 = .ok (.iconst 2, 1) := by decide +kernel
theorem dX15_isNoWire_26 : decode cX15_isNoWire 26 = .ok (.goto 4, 3) := by decide +kernel
theorem dX15_isNoWire_29 : decode cX15_isNoWire 29 = .ok (.iconst 0, 1) := by decide +kernel
theorem dX15_isNoWire_30 : decode cX15_isNoWire 30 = .ok (.invokevirtual 106, 3) := by decide +kernel
theorem dX15_isNoWire_33 : decode cX15_isNoWire 33 = .ok (.ireturn, 1) := by decide +kernel
theorem dX15_isRight_0 : decode cX15_isRight 0 = .ok (.aload_n 0, 1) := by decide +kernel
theorem dX15_isRight_1 : decode cX15_isRight 1 = .ok (.iconst 0, 1) := by decide +kernel
theorem dX15_isRight_2 : decode cX15_isRight 2 = .ok (.putfield 1, 3) := by decide +kernel
theorem dX15_isRight_5 : decode cX15_isRight 5 = .ok (.aload_n 0, 1) := by decide +kernel
theorem dX15_isRight_6 : decode cX15_isRight 6 = .ok (.invokevirtual 480, 3) := by decide +kernel
theorem dX15_isRight_9 : decode cX15_isRight 9 = .ok (.ireturn, 1) := by decide +kernel
theorem dX15_isRightNow_0 : decode cX15_isRightNow 0 = .ok (.aload_n 0, 1) := by decide +kernel
theorem dX15_isRightNow_1 : decode cX15_isRightNow 1 = .ok (.getfield 64, 3) := by decide +kernel
theorem dX15_isRightNow_4 : decode cX15_isRightNow 4 = .ok (.invokevirtual 475, 3) := by decide +kernel
theorem dX15_isRightNow_7 : decode cX15_isRightNow 7 = .ok (.ifCond .ne 33, 3) := by decide +kernel
theorem dX15_isRightNow_10 : decode cX15_isRightNow 10 = .ok (.aload_n 0, 1) := by decide +kernel
theorem dX15_isRightNow_11 : decode cX15_isRightNow 11 = .ok (.getfield 64, 3) := by decide +kernel
theorem dX15_isRightNow_14 : decode cX15_isRightNow 14 = .ok (.iconst 0, 1) := by decide +kernel
theorem dX15_isRightNow_15 : decode cX15_isRightNow 15 = .ok (.invokevirtual 467, 3) := by decide +kernel
theorem dX15_isRightNow_18 : decode cX15_isRightNow 18 = .ok (.bipush 94, 2) := by decide +kernel
theorem dX15_isRightNow_20 : decode cX15_isRightNow 20 = .ok (.if_icmp .eq 16, 3) := by decide +kernel
theorem dX15_isRightNow_23 : decode cX15_isRightNow 23 = .ok (.aload_n 0, 1) := by decide +kernel
theorem dX15_isRightNow_24 : decode cX15_isRightNow 24 = .ok (.getfield 64, 3) := by decide +kernel
theorem dX15_isRightNow_27 : decode cX15_isRightNow 27 = .ok (.iconst 0, 1) := by decide +kernel
theorem dX15_isRightNow_28 : decode cX15_isRightNow 28 = .ok (.invokevirtual 467, 3) := by decide +kernel
theorem dX15_isRightNow_31 : decode cX15_isRightNow 31 = .ok (.bipush 118, 2) := by decide +kernel
theorem dX15_isRightNow_33 : decode cX15_isRightNow 33 = .ok (.if_icmp .ne 7, 3) := by decide +kernel
theorem dX15_isRightNow_36 : decode cX15_isRightNow 36 = .ok (.iconst 1, 1) := by decide +kernel
theorem dX15_isRightNow_37 : decode cX15_isRightNow 37 = .ok (.goto 4, 3) := by decide +kernel
theorem dX15_isRightNow_40 : decode cX15_isRightNow 40 = .ok (.iconst 0, 1) := by decide +kernel
theorem dX15_isRightNow_41 : decode cX15_isRightNow 41 = .ok (.istore_n 1, 1) := by decide +kernel
theorem dX15_isRightNow_42 : decode cX15_isRightNow 42 = .ok (.iload_n 1, 1) := by decide +kernel
theorem dX15_isRightNow_43 : decode cX15_isRightNow 43 = .ok (.ifCond .eq 35, 3) := by decide +kernel
theorem dX15_isRightNow_46 : decode cX15_isRightNow 46 = .ok (.aload_n 0, 1) := by decide +kernel
theorem dX15_isRightNow_47 : decode cX15_isRightNow 47 = .ok (.iconst 0, 1) := by decide +kernel
theorem dX15_isRightNow_48 : decode cX15_isRightNow 48 = .ok (.bipush 45, 2) := by decide +kernel
theorem dX15_isRightNow_50 : decode cX15_isRightNow 50 = .ok (.iconst 0, 1) := by decide +kernel
theorem dX15_isRightNow_51 : decode cX15_isRightNow 51 = .ok (.iconst 0, 1) := by decide +kernel
theorem dX15_isRightNow_52 : decode cX15_isRightNow 52 = .ok (.iconst 0, 1) := by decide +kernel
theorem dX15_isRightNow_53 : decode cX15_isRightNow 53 = .ok (.iconst 0, 1) := by decide +kernel
theorem dX15_isRightNow_54 : decode cX15_isRightNow 54 = .ok (.invokevirtual 476, 3) := by decide +kernel
theorem dX15_isRightNow_57 : decode cX15_isRightNow 57 = .ok (.ifCond .ne 21, 3) := by decide +kernel
theorem dX15_isRightNow_60 : decode cX15_isRightNow 60 = .ok (.aload_n 0, 1) := by decide +kernel
theorem dX15_isRightNow_61 : decode cX15_isRightNow 61 = .ok (.iconst 1, 1) := by decide +kernel
theorem dX15_isRightNow_62 : decode cX15_isRightNow 62 = .ok (.bipush 45, 2) := by decide +kernel
theorem dX15_isRightNow_64 : decode cX15_isRightNow 64 = .ok (.iconst 0, 1) := by decide +kernel
theorem dX15_isRightNow_65 : decode cX15_isRightNow 65 = .ok (.iconst 0, 1) := by decide +kernel
theorem dX15_isRightNow_66 : decode cX15_isRightNow 66 = .ok (.iconst 0, 1) := by decide +kernel
theorem dX15_isRightNow_67 : decode cX15_isRightNow 67 = .ok (.iconst 0, 1) := by decide +kernel
theorem dX15_isRightNow_68 : decode cX15_isRightNow 68 = .ok (.invokevirtual 476, 3) := by decide +kernel
theorem dX15_isRightNow_71 : decode cX15_isRightNow 71 = .ok (.ifCond .ne 7, 3) := by decide +kernel
theorem dX15_isRightNow_74 : decode cX15_isRightNow 74 = .ok (.iconst 1, 1) := by decide +kernel
theorem dX15_isRightNow_75 : decode cX15_isRightNow 75 = .ok (.goto 4, 3) := by decide +kernel
theorem dX15_isRightNow_78 : decode cX15_isRightNow 78 = .ok (.iconst 0, 1) := by decide +kernel
theorem dX15_isRightNow_79 : decode cX15_isRightNow 79 = .ok (.ireturn, 1) := by decide +kernel
theorem dX15_isSound_0 : decode cX15_isSound 0 = .ok (.aload_n 0, 1) := by decide +kernel
theorem dX15_isSound_1 : decode cX15_isSound 1 = .ok (.iconst 0, 1) := by decide +kernel
theorem dX15_isSound_2 : decode cX15_isSound 2 = .ok (.putfield 1, 3) := by decide +kernel
theorem dX15_isSound_5 : decode cX15_isSound 5 = .ok (.iconst 1, 1) := by decide +kernel
theorem dX15_isSound_6 : decode cX15_isSound 6 = .ok (.ireturn, 1) := by decide +kernel
theorem dX15_isWire_0 : decode cX15_isWire 0 = .ok (.iload_n 1, 1) := by decide +kernel
theorem dX15_isWire_1 : decode cX15_isWire 1 = .ok (.iconst 0, 1) := by decide +kernel
theorem dX15_isWire_2 : decode cX15_isWire 2 = .ok (.aload_n 0, 1) := by decide +kernel
theorem dX15_isWire_3 : decode cX15_isWire 3 = .ok (.getfield 492, 3) := by decide +kernel
theorem dX15_isWire_6 : decode cX15_isWire 6 = .ok (.iconst 1, 1) := by decide +kernel
theorem dX15_isWire_7 : decode cX15_isWire 7 = .ok (.isub, 1) := by decide +kernel
theorem dX15_isWire_8 : decode cX15_isWire 8 = .ok (.invokestatic 98, 3) := by decide +kernel
theorem dX15_isWire_11 : decode cX15_isWire 11 = .ok (.ireturn, 1) := by decide +kernel
theorem dX15_known_0 : decode cX15_known 0 = .ok (.aload_n 0, 1) := by decide +kernel
theorem dX15_known_1 : decode cX15_known 1 = .ok (.aload_n 0, 1) := by decide +kernel
theorem dX15_known_2 : decode cX15_known 2 = .ok (.iload_n 1, 1) := by decide +kernel
theorem dX15_known_3 : decode cX15_known 3 = .ok (.invokevirtual 283, 3) := by decide +kernel
theorem dX15_known_6 : decode cX15_known 6 = .ok (.ifCond .eq 7, 3) := by decide +kernel
theorem dX15_known_9 : decode cX15_known 9 = .ok (.iconst 0, 1) := by decide +kernel
theorem dX15_known_10 : decode cX15_known 10 = .ok (.goto 4, 3) := by decide +kernel
theorem dX15_known_13 : decode cX15_known 13 = .ok (.iconst 1, 1) := by decide +kernel
theorem dX15_known_14 : decode cX15_known 14 = .ok (.invokevirtual 106, 3) := by decide +kernel
theorem dX15_known_17 : decode cX15_known 17 = .ok (.ifCond .eq 5, 3) := by decide +kernel
theorem dX15_known_20 : decode cX15_known 20 = .ok (.iconst 0, 1) := by decide +kernel
theorem dX15_known_21 : decode cX15_known 21 = .ok (.ireturn, 1) := by decide +kernel
theorem dX15_known_22 : decode cX15_known 22 = .ok (.aload_n 0, 1) := by decide +kernel
theorem dX15_known_23 : decode cX15_known 23 = .ok (.getfield 32, 3) := by decide +kernel
theorem dX15_known_26 : decode cX15_known 26 = .ok (.iload_n 1, 1) := by decide +kernel
theorem dX15_known_27 : decode cX15_known 27 = .ok (.invokeinterface 143 2, 5) := by decide +kernel
theorem dX15_known_32 : decode cX15_known 32 = .ok (.checkcast 200, 3) := by decide +kernel
theorem dX15_known_35 : decode cX15_known 35 = .ok (.getfield 256, 3) := by decide +kernel
theorem dX15_known_38 : decode cX15_known 38 = .ok (.astore_n 3, 1) := by decide +kernel
theorem dX15_known_39 : decode cX15_known 39 = .ok (.iconst 0, 1) := by decide +kernel
theorem dX15_known_40 : decode cX15_known 40 = .ok (.istore 4, 2) := by decide +kernel
theorem dX15_known_42 : decode cX15_known 42 = .ok (.iconst 0, 1) := by decide +kernel
theorem dX15_known_43 : decode cX15_known 43 = .ok (.istore 5, 2) := by decide +kernel
theorem dX15_known_45 : decode cX15_known 45 = .ok (.iload 5, 2) := by decide +kernel
theorem dX15_known_47 : decode cX15_known 47 = .ok (.aload_n 3, 1) := by decide +kernel
theorem dX15_known_48 : decode cX15_known 48 = .ok (.arraylength, 1) := by decide +kernel
theorem dX15_known_49 : decode cX15_known 49 = .ok (.if_icmp .ge 53, 3) := by decide +kernel
theorem dX15_known_52 : decode cX15_known 52 = .ok (.iload 4, 2) := by decide +kernel
theorem dX15_known_54 : decode cX15_known 54 = .ok (.iload_n 2, 1) := by decide +kernel
theorem dX15_known_55 : decode cX15_known 55 = .ok (.ifCond .eq 22, 3) := by decide +kernel
theorem dX15_known_58 : decode cX15_known 58 = .ok (.aload_n 3, 1) := by decide +kernel
theorem dX15_known_59 : decode cX15_known 59 = .ok (.iload 5, 2) := by decide +kernel
theorem dX15_known_61 : decode cX15_known 61 = .ok (.iaload, 1) := by decide +kernel
theorem dX15_known_62 : decode cX15_known 62 = .ok (.iconst 1, 1) := by decide +kernel
theorem dX15_known_63 : decode cX15_known 63 = .ok (.if_icmp .ne 10, 3) := by decide +kernel
theorem dX15_known_66 : decode cX15_known 66 = .ok (.iconst 1, 1) := by decide +kernel
theorem dX15_known_67 : decode cX15_known 67 = .ok (.iload 5, 2) := by decide +kernel
theorem dX15_known_69 : decode cX15_known 69 = .ok (.ishl, 1) := by decide +kernel
theorem dX15_known_70 : decode cX15_known 70 = .ok (.goto 23, 3) := by decide +kernel
theorem dX15_known_73 : decode cX15_known 73 = .ok (.iconst 0, 1) := by decide +kernel
theorem dX15_known_74 : decode cX15_known 74 = .ok (.goto 19, 3) := by decide +kernel
theorem dX15_known_77 : decode cX15_known 77 = .ok (.aload_n 3, 1) := by decide +kernel
theorem dX15_known_78 : decode cX15_known 78 = .ok (.iload 5, 2) := by decide +kernel
theorem dX15_known_80 : decode cX15_known 80 = .ok (.iaload, 1) := by decide +kernel
theorem dX15_known_81 : decode cX15_known 81 = .ok (.iconst 2, 1) := by decide +kernel
theorem dX15_known_82 : decode cX15_known 82 = .ok (.if_icmp .eq 10, 3) := by decide +kernel
theorem dX15_known_85 : decode cX15_known 85 = .ok (.iconst 1, 1) := by decide +kernel
theorem dX15_known_86 : decode cX15_known 86 = .ok (.iload 5, 2) := by decide +kernel
theorem dX15_known_88 : decode cX15_known 88 = .ok (.ishl, 1) := by decide +kernel
theorem dX15_known_89 : decode cX15_known 89 = .ok (.goto 4, 3) := by decide +kernel
theorem dX15_known_92 : decode cX15_known 92 = .ok (.iconst 0, 1) := by decide +kernel
theorem dX15_known_93 : decode cX15_known 93 = .ok (.ior, 1) := by decide +kernel
theorem dX15_known_94 : decode cX15_known 94 = .ok (.istore 4, 2) := by decide +kernel
theorem dX15_known_96 : decode cX15_known 96 = .ok (.iinc 5 1, 3) := by decide +kernel
theorem dX15_known_99 : decode cX15_known 99 = .ok (.goto (-54), 3) := by decide +kernel
theorem dX15_known_102 : decode cX15_known 102 = .ok (.iload 4, 2) := by decide +kernel
theorem dX15_known_104 : decode cX15_known 104 = .ok (.ireturn, 1) := by decide +kernel
theorem dX15_least_0 : decode cX15_least 0 = .ok (.aload_n 0, 1) := by decide +kernel
theorem dX15_least_1 : decode cX15_least 1 = .ok (.aload_n 0, 1) := by decide +kernel
theorem dX15_least_2 : decode cX15_least 2 = .ok (.getfield 83, 3) := by decide +kernel
theorem dX15_least_5 : decode cX15_least 5 = .ok (.invokeinterface 349 1, 5) := by decide +kernel
theorem dX15_least_10 : decode cX15_least 10 = .ok (.ifCond .ne 12, 3) := by decide +kernel
theorem dX15_least_13 : decode cX15_least 13 = .ok (.aload_n 0, 1) := by decide +kernel
theorem dX15_least_14 : decode cX15_least 14 = .ok (.iload_n 1, 1) := by decide +kernel
theorem dX15_least_15 : decode cX15_least 15 = .ok (.iload_n 2, 1) := by decide +kernel
theorem dX15_least_16 : decode cX15_least 16 = .ok (.invokevirtual 537, 3) := by decide +kernel
theorem dX15_least_19 : decode cX15_least 19 = .ok (.ifCond .ne 7, 3) := by decide +kernel
theorem dX15_least_22 : decode cX15_least 22 = .ok (.iconst 1, 1) := by decide +kernel
theorem dX15_least_23 : decode cX15_least 23 = .ok (.goto 4, 3) := by decide +kernel
theorem dX15_least_26 : decode cX15_least 26 = .ok (.iconst 0, 1) := by decide +kernel
theorem dX15_least_27 : decode cX15_least 27 = .ok (.invokevirtual 106, 3) := by decide +kernel
theorem dX15_least_30 : decode cX15_least 30 = .ok (.ifCond .eq 5, 3) := by decide +kernel
theorem dX15_least_33 : decode cX15_least 33 = .ok (.iconst 0, 1) := by decide +kernel
theorem dX15_least_34 : decode cX15_least 34 = .ok (.ireturn, 1) := by decide +kernel
theorem dX15_least_35 : decode cX15_least 35 = .ok (.aload_n 0, 1) := by decide +kernel
theorem dX15_least_36 : decode cX15_least 36 = .ok (.iload_n 1, 1) := by decide +kernel
theorem dX15_least_37 : decode cX15_least 37 = .ok (.iload_n 2, 1) := by decide +kernel
theorem dX15_least_38 : decode cX15_least 38 = .ok (.invokevirtual 540, 3) := by decide +kernel
theorem dX15_least_41 : decode cX15_least 41 = .ok (.aload_n 0, 1) := by decide +kernel
theorem dX15_least_42 : decode cX15_least 42 = .ok (.getfield 526, 3) := by decide +kernel
theorem dX15_least_45 : decode cX15_least 45 = .ok (.ireturn, 1) := by decide +kernel
theorem dX15_lineOf_0 : decode cX15_lineOf 0 = .ok (.aload_n 0, 1) := by decide +kernel
theorem dX15_lineOf_1 : decode cX15_lineOf 1 = .ok (.aload_n 0, 1) := by decide +kernel
theorem dX15_lineOf_2 : decode cX15_lineOf 2 = .ok (.iload_n 1, 1) := by decide +kernel
theorem dX15_lineOf_3 : decode cX15_lineOf 3 = .ok (.invokevirtual 286, 3) := by decide +kernel
theorem dX15_lineOf_6 : decode cX15_lineOf 6 = .ok (.ifCond .eq 7, 3) := by decide +kernel
theorem dX15_lineOf_9 : decode cX15_lineOf 9 = .ok (.iconst 0, 1) := by decide +kernel
theorem dX15_lineOf_10 : decode cX15_lineOf 10 = .ok (.goto 4, 3) := by decide +kernel
theorem dX15_lineOf_13 : decode cX15_lineOf 13 = .ok (.iconst 1, 1) := by decide +kernel
theorem dX15_lineOf_14 : decode cX15_lineOf 14 = .ok (.invokevirtual 106, 3) := by decide +kernel
theorem dX15_lineOf_17 : decode cX15_lineOf 17 = .ok (.ifCond .eq 7, 3) := by decide +kernel
theorem dX15_lineOf_20 : decode cX15_lineOf 20 = .ok (.iconst 0, 1) := by decide +kernel
theorem dX15_lineOf_21 : decode cX15_lineOf 21 = .ok (.goto 19, 3) := by decide +kernel
theorem dX15_lineOf_24 : decode cX15_lineOf 24 = .ok (.aload_n 0, 1) := by decide +kernel
theorem dX15_lineOf_25 : decode cX15_lineOf 25 = .ok (.getfield 26, 3) := by decide +kernel
theorem dX15_lineOf_28 : decode cX15_lineOf 28 = .ok (.iload_n 1, 1) := by decide +kernel
theorem dX15_lineOf_29 : decode cX15_lineOf 29 = .ok (.invokeinterface 143 2, 5) := by decide +kernel
theorem dX15_lineOf_34 : decode cX15_lineOf 34 = .ok (.checkcast 170, 3) := by decide +kernel
theorem dX15_lineOf_37 : decode cX15_lineOf 37 = .ok (.getfield 232, 3) := by decide +kernel
theorem dX15_lineOf_40 : decode cX15_lineOf 40 = .ok (.ireturn, 1) := by decide +kernel
theorem dX15_make_0 : decode cX15_make 0 = .ok (.aload_n 0, 1) := by decide +kernel
theorem dX15_make_1 : decode cX15_make 1 = .ok (.aload_n 0, 1) := by decide +kernel
theorem dX15_make_2 : decode cX15_make 2 = .ok (.iload_n 1, 1) := by decide +kernel
theorem dX15_make_3 : decode cX15_make 3 = .ok (.invokevirtual 286, 3) := by decide +kernel
theorem dX15_make_6 : decode cX15_make 6 = .ok (.ifCond .ne 7, 3) := by decide +kernel
theorem dX15_make_9 : decode cX15_make 9 = .ok (.iconst 1, 1) := by decide +kernel
theorem dX15_make_10 : decode cX15_make 10 = .ok (.goto 27, 3) := by decide +kernel
theorem dX15_make_13 : decode cX15_make 13 = .ok (.aload_n 0, 1) := by decide +kernel
theorem dX15_make_14 : decode cX15_make 14 = .ok (.getfield 26, 3) := by decide +kernel
theorem dX15_make_17 : decode cX15_make 17 = .ok (.iload_n 1, 1) := by decide +kernel
theorem dX15_make_18 : decode cX15_make 18 = .ok (.invokeinterface 143 2, 5) := by decide +kernel
theorem dX15_make_23 : decode cX15_make 23 = .ok (.checkcast 170, 3) := by decide +kernel
theorem dX15_make_26 : decode cX15_make 26 = .ok (.invokevirtual 241, 3) := by decide +kernel
theorem dX15_make_29 : decode cX15_make 29 = .ok (.ifCond .eq 7, 3) := by decide +kernel
theorem dX15_make_32 : decode cX15_make 32 = .ok (.iconst 2, 1) := by decide +kernel
theorem dX15_make_33 : decode cX15_make 33 = .ok (.goto 4, 3) := by decide +kernel
theorem dX15_make_36 : decode cX15_make 36 = .ok (.iconst 0, 1) := by decide +kernel
theorem dX15_make_37 : decode cX15_make 37 = .ok (.invokevirtual 106, 3) := by decide +kernel
theorem dX15_make_40 : decode cX15_make 40 = .ok (.ifCond .eq 5, 3) := by decide +kernel
theorem dX15_make_43 : decode cX15_make 43 = .ok (.iconst 0, 1) := by decide +kernel
theorem dX15_make_44 : decode cX15_make 44 = .ok (.ireturn, 1) := by decide +kernel
theorem dX15_make_45 : decode cX15_make 45 = .ok (.aload_n 0, 1) := by decide +kernel
theorem dX15_make_46 : decode cX15_make 46 = .ok (.getfield 20, 3) := by decide +kernel
theorem dX15_make_49 : decode cX15_make 49 = .ok (.invokeinterface 92 1, 5) := by decide +kernel
theorem dX15_make_54 : decode cX15_make 54 = .ok (.newarray .int, 2) := by decide +kernel
theorem dX15_make_56 : decode cX15_make 56 = .ok (.astore_n 2, 1) := by decide +kernel
theorem dX15_make_57 : decode cX15_make 57 = .ok (.aload_n 2, 1) := by decide +kernel
theorem dX15_make_58 : decode cX15_make 58 = .ok (.iconst 2, 1) := by decide +kernel
theorem dX15_make_59 : decode cX15_make 59 = .ok (.invokestatic 86, 3) := by decide +kernel
theorem dX15_make_62 : decode cX15_make 62 = .ok (.aload_n 0, 1) := by decide +kernel
theorem dX15_make_63 : decode cX15_make 63 = .ok (.aload_n 0, 1) := by decide +kernel
theorem dX15_make_64 : decode cX15_make 64 = .ok (.aload_n 0, 1) := by decide +kernel
theorem dX15_make_65 : decode cX15_make 65 = .ok (.getfield 26, 3) := by decide +kernel
theorem dX15_make_68 : decode cX15_make 68 = .ok (.iload_n 1, 1) := by decide +kernel
theorem dX15_make_69 : decode cX15_make 69 = .ok (.invokeinterface 143 2, 5) := by decide +kernel
theorem dX15_make_74 : decode cX15_make 74 = .ok (.checkcast 170, 3) := by decide +kernel
theorem dX15_make_77 : decode cX15_make 77 = .ok (.aload_n 2, 1) := by decide +kernel
theorem dX15_make_78 : decode cX15_make 78 = .ok (.iconst 0, 1) := by decide +kernel
theorem dX15_make_79 : decode cX15_make 79 = .ok (.invokevirtual 352, 3) := by decide +kernel
theorem dX15_make_82 : decode cX15_make 82 = .ok (.ifCond .ne 7, 3) := by decide +kernel
theorem dX15_make_85 : decode cX15_make 85 = .ok (.iconst 3, 1) := by decide +kernel
theorem dX15_make_86 : decode cX15_make 86 = .ok (.goto 22, 3) := by decide +kernel
theorem dX15_make_89 : decode cX15_make 89 = .ok (.aload_n 0, 1) := by decide +kernel
theorem dX15_make_90 : decode cX15_make 90 = .ok (.getfield 32, 3) := by decide +kernel
theorem dX15_make_93 : decode cX15_make 93 = .ok (.invokeinterface 92 1, 5) := by decide +kernel
theorem dX15_make_98 : decode cX15_make 98 = .ok (.bipush 32, 2) := by decide +kernel
theorem dX15_make_100 : decode cX15_make 100 = .ok (.if_icmp .ne 7, 3) := by decide +kernel
theorem dX15_make_103 : decode cX15_make 103 = .ok (.iconst 4, 1) := by decide +kernel
theorem dX15_make_104 : decode cX15_make 104 = .ok (.goto 4, 3) := by decide +kernel
theorem dX15_make_107 : decode cX15_make 107 = .ok (.iconst 0, 1) := by decide +kernel
theorem dX15_make_108 : decode cX15_make 108 = .ok (.invokevirtual 106, 3) := by decide +kernel
theorem dX15_make_111 : decode cX15_make 111 = .ok (.ifCond .eq 5, 3) := by decide +kernel
theorem dX15_make_114 : decode cX15_make 114 = .ok (.iconst 0, 1) := by decide +kernel
theorem dX15_make_115 : decode cX15_make 115 = .ok (.ireturn, 1) := by decide +kernel
theorem dX15_make_116 : decode cX15_make 116 = .ok (.aload_n 0, 1) := by decide +kernel
theorem dX15_make_117 : decode cX15_make 117 = .ok (.getfield 32, 3) := by decide +kernel
theorem dX15_make_120 : decode cX15_make 120 = .ok (.new 200, 3) := by decide +kernel
theorem dX15_make_123 : decode cX15_make 123 = .ok (.dup, 1) := by decide +kernel
theorem dX15_make_124 : decode cX15_make 124 = .ok (.aload_n 2, 1) := by decide +kernel
theorem dX15_make_125 : decode cX15_make 125 = .ok (.invokespecial 202, 3) := by decide +kernel
theorem dX15_make_128 : decode cX15_make 128 = .ok (.invokeinterface 124 2, 5) := by decide +kernel
theorem dX15_make_133 : decode cX15_make 133 = .ok (.pop, 1) := by decide +kernel
theorem dX15_make_134 : decode cX15_make 134 = .ok (.aload_n 0, 1) := by decide +kernel
theorem dX15_make_135 : decode cX15_make 135 = .ok (.getfield 32, 3) := by decide +kernel
theorem dX15_make_138 : decode cX15_make 138 = .ok (.invokeinterface 92 1, 5) := by decide +kernel
theorem dX15_make_143 : decode cX15_make 143 = .ok (.iconst 1, 1) := by decide +kernel
theorem dX15_make_144 : decode cX15_make 144 = .ok (.isub, 1) := by decide +kernel
theorem dX15_make_145 : decode cX15_make 145 = .ok (.ireturn, 1) := by decide +kernel
theorem dX15_marchCount_0 : decode cX15_marchCount 0 = .ok (.aload_n 0, 1) := by decide +kernel
theorem dX15_marchCount_1 : decode cX15_marchCount 1 = .ok (.ldc_w 483, 3) := by decide +kernel
theorem dX15_marchCount_4 : decode cX15_marchCount 4 = .ok (.iload_n 1, 1) := by decide +kernel
theorem dX15_marchCount_5 : decode cX15_marchCount 5 = .ok (.invokevirtual 134, 3) := by decide +kernel
theorem dX15_marchCount_8 : decode cX15_marchCount 8 = .ok (.ifCond .ge 7, 3) := by decide +kernel
theorem dX15_marchCount_11 : decode cX15_marchCount 11 = .ok (.iconst 1, 1) := by decide +kernel
theorem dX15_marchCount_12 : decode cX15_marchCount 12 = .ok (.goto 15, 3) := by decide +kernel
theorem dX15_marchCount_15 : decode cX15_marchCount 15 = .ok (.aload_n 0, 1) := by decide +kernel
theorem dX15_marchCount_16 : decode cX15_marchCount 16 = .ok (.invokevirtual 480, 3) := by decide +kernel
theorem dX15_marchCount_19 : decode cX15_marchCount 19 = .ok (.ifCond .ne 7, 3) := by decide +kernel
theorem dX15_marchCount_22 : decode cX15_marchCount 22 = .ok (.iconst 2, 1) := by decide +kernel
theorem dX15_marchCount_23 : decode cX15_marchCount 23 = .ok (.goto 4, 3) := by decide +kernel
theorem dX15_marchCount_26 : decode cX15_marchCount 26 = .ok (.iconst 0, 1) := by decide +kernel
theorem dX15_marchCount_27 : decode cX15_marchCount 27 = .ok (.invokevirtual 106, 3) := by decide +kernel
theorem dX15_marchCount_30 : decode cX15_marchCount 30 = .ok (.ifCond .eq 5, 3) := by decide +kernel
theorem dX15_marchCount_33 : decode cX15_marchCount 33 = .ok (.iconst 0, 1) := by decide +kernel
theorem dX15_marchCount_34 : decode cX15_marchCount 34 = .ok (.ireturn, 1) := by decide +kernel
theorem dX15_marchCount_35 : decode cX15_marchCount 35 = .ok (.iload_n 1, 1) := by decide +kernel
theorem dX15_marchCount_36 : decode cX15_marchCount 36 = .ok (.bipush 99, 2) := by decide +kernel
theorem dX15_marchCount_38 : decode cX15_marchCount 38 = .ok (.if_icmp .eq 15, 3) := by decide +kernel
theorem dX15_marchCount_41 : decode cX15_marchCount 41 = .ok (.iload_n 1, 1) := by decide +kernel
theorem dX15_marchCount_42 : decode cX15_marchCount 42 = .ok (.bipush 105, 2) := by decide +kernel
theorem dX15_marchCount_44 : decode cX15_marchCount 44 = .ok (.if_icmp .eq 9, 3) := by decide +kernel
theorem dX15_marchCount_47 : decode cX15_marchCount 47 = .ok (.iload_n 1, 1) := by decide +kernel
theorem dX15_marchCount_48 : decode cX15_marchCount 48 = .ok (.bipush 97, 2) := by decide +kernel
theorem dX15_marchCount_50 : decode cX15_marchCount 50 = .ok (.if_icmp .ne 7, 3) := by decide +kernel
theorem dX15_marchCount_53 : decode cX15_marchCount 53 = .ok (.iconst 1, 1) := by decide +kernel
theorem dX15_marchCount_54 : decode cX15_marchCount 54 = .ok (.goto 4, 3) := by decide +kernel
theorem dX15_marchCount_57 : decode cX15_marchCount 57 = .ok (.iconst 0, 1) := by decide +kernel
theorem dX15_marchCount_58 : decode cX15_marchCount 58 = .ok (.istore_n 2, 1) := by decide +kernel
theorem dX15_marchCount_59 : decode cX15_marchCount 59 = .ok (.iconst 0, 1) := by decide +kernel
theorem dX15_marchCount_60 : decode cX15_marchCount 60 = .ok (.istore_n 3, 1) := by decide +kernel
theorem dX15_marchCount_61 : decode cX15_marchCount 61 = .ok (.iconst 0, 1) := by decide +kernel
theorem dX15_marchCount_62 : decode cX15_marchCount 62 = .ok (.istore 4, 2) := by decide +kernel
theorem dX15_marchCount_64 : decode cX15_marchCount 64 = .ok (.iload 4, 2) := by decide +kernel
theorem dX15_marchCount_66 : decode cX15_marchCount 66 = .ok (.sipush 256, 3) := by decide +kernel
theorem dX15_marchCount_69 : decode cX15_marchCount 69 = .ok (.if_icmp .ge 116, 3) := by decide +kernel
theorem dX15_marchCount_72 : decode cX15_marchCount 72 = .ok (.iload 4, 2) := by decide +kernel
theorem dX15_marchCount_74 : decode cX15_marchCount 74 = .ok (.bipush 32, 2) := by decide +kernel
theorem dX15_marchCount_76 : decode cX15_marchCount 76 = .ok (.idiv, 1) := by decide +kernel
theorem dX15_marchCount_77 : decode cX15_marchCount 77 = .ok (.istore 5, 2) := by decide +kernel
theorem dX15_marchCount_79 : decode cX15_marchCount 79 = .ok (.iload 4, 2) := by decide +kernel
theorem dX15_marchCount_81 : decode cX15_marchCount 81 = .ok (.iconst 4, 1) := by decide +kernel
theorem dX15_marchCount_82 : decode cX15_marchCount 82 = .ok (.idiv, 1) := by decide +kernel
theorem dX15_marchCount_83 : decode cX15_marchCount 83 = .ok (.bipush 8, 2) := by decide +kernel
theorem dX15_marchCount_85 : decode cX15_marchCount 85 = .ok (.irem, 1) := by decide +kernel
theorem dX15_marchCount_86 : decode cX15_marchCount 86 = .ok (.istore 6, 2) := by decide +kernel
theorem dX15_marchCount_88 : decode cX15_marchCount 88 = .ok (.iload 4, 2) := by decide +kernel
theorem dX15_marchCount_90 : decode cX15_marchCount 90 = .ok (.iconst 2, 1) := by decide +kernel
theorem dX15_marchCount_91 : decode cX15_marchCount 91 = .ok (.idiv, 1) := by decide +kernel
theorem dX15_marchCount_92 : decode cX15_marchCount 92 = .ok (.iconst 2, 1) := by decide +kernel
theorem dX15_marchCount_93 : decode cX15_marchCount 93 = .ok (.irem, 1) := by decide +kernel
theorem dX15_marchCount_94 : decode cX15_marchCount 94 = .ok (.istore 7, 2) := by decide +kernel
theorem dX15_marchCount_96 : decode cX15_marchCount 96 = .ok (.iload 4, 2) := by decide +kernel
theorem dX15_marchCount_98 : decode cX15_marchCount 98 = .ok (.iconst 2, 1) := by decide +kernel
theorem dX15_marchCount_99 : decode cX15_marchCount 99 = .ok (.irem, 1) := by decide +kernel
theorem dX15_marchCount_100 : decode cX15_marchCount 100 = .ok (.istore 8, 2) := by decide +kernel
theorem dX15_marchCount_102 : decode cX15_marchCount 102 = .ok (.iload_n 2, 1) := by decide +kernel
theorem dX15_marchCount_103 : decode cX15_marchCount 103 = .ok (.ifCond .eq 13, 3) := by decide +kernel
theorem dX15_marchCount_106 : decode cX15_marchCount 106 = .ok (.iload 5, 2) := by decide +kernel
theorem dX15_marchCount_108 : decode cX15_marchCount 108 = .ok (.iload 6, 2) := by decide +kernel
theorem dX15_marchCount_110 : decode cX15_marchCount 110 = .ok (.if_icmp .eq 37, 3) := by decide +kernel
theorem dX15_marchCount_113 : decode cX15_marchCount 113 = .ok (.goto 8, 3) := by decide +kernel
theorem dX15_marchCount_116 : decode cX15_marchCount 116 = .ok (.iload 6, 2) := by decide +kernel
theorem dX15_marchCount_118 : decode cX15_marchCount 118 = .ok (.ifCond .ne 29, 3) := by decide +kernel
theorem dX15_marchCount_121 : decode cX15_marchCount 121 = .ok (.iload_n 1, 1) := by decide +kernel
theorem dX15_marchCount_122 : decode cX15_marchCount 122 = .ok (.bipush 99, 2) := by decide +kernel
theorem dX15_marchCount_124 : decode cX15_marchCount 124 = .ok (.if_icmp .eq 8, 3) := by decide +kernel
theorem dX15_marchCount_127 : decode cX15_marchCount 127 = .ok (.iload 8, 2) := by decide +kernel
theorem dX15_marchCount_129 : decode cX15_marchCount 129 = .ok (.ifCond .ne 18, 3) := by decide +kernel
theorem dX15_marchCount_132 : decode cX15_marchCount 132 = .ok (.iload_n 1, 1) := by decide +kernel
theorem dX15_marchCount_133 : decode cX15_marchCount 133 = .ok (.bipush 97, 2) := by decide +kernel
theorem dX15_marchCount_135 : decode cX15_marchCount 135 = .ok (.if_icmp .ne 8, 3) := by decide +kernel
theorem dX15_marchCount_138 : decode cX15_marchCount 138 = .ok (.iload 7, 2) := by decide +kernel
theorem dX15_marchCount_140 : decode cX15_marchCount 140 = .ok (.ifCond .ne 7, 3) := by decide +kernel
theorem dX15_marchCount_143 : decode cX15_marchCount 143 = .ok (.iconst 1, 1) := by decide +kernel
theorem dX15_marchCount_144 : decode cX15_marchCount 144 = .ok (.goto 4, 3) := by decide +kernel
theorem dX15_marchCount_147 : decode cX15_marchCount 147 = .ok (.iconst 0, 1) := by decide +kernel
theorem dX15_marchCount_148 : decode cX15_marchCount 148 = .ok (.istore 9, 2) := by decide +kernel
theorem dX15_marchCount_150 : decode cX15_marchCount 150 = .ok (.iload_n 3, 1) := by decide +kernel
theorem dX15_marchCount_151 : decode cX15_marchCount 151 = .ok (.iload 9, 2) := by decide +kernel
theorem dX15_marchCount_153 : decode cX15_marchCount 153 = .ok (.ifCond .eq 23, 3) := by decide +kernel
theorem dX15_marchCount_156 : decode cX15_marchCount 156 = .ok (.aload_n 0, 1) := by decide +kernel
theorem dX15_marchCount_157 : decode cX15_marchCount 157 = .ok (.iload_n 1, 1) := by decide +kernel
theorem dX15_marchCount_158 : decode cX15_marchCount 158 = .ok (.iload 5, 2) := by decide +kernel
theorem dX15_marchCount_160 : decode cX15_marchCount 160 = .ok (.iload 6, 2) := by decide +kernel
theorem dX15_marchCount_162 : decode cX15_marchCount 162 = .ok (.iload 7, 2) := by decide +kernel
theorem dX15_marchCount_164 : decode cX15_marchCount 164 = .ok (.iload 8, 2) := by decide +kernel
theorem dX15_marchCount_166 : decode cX15_marchCount 166 = .ok (.invokevirtual 485, 3) := by decide +kernel
theorem dX15_marchCount_169 : decode cX15_marchCount 169 = .ok (.ifCond .eq 7, 3) := by decide +kernel
theorem dX15_marchCount_172 : decode cX15_marchCount 172 = .ok (.iconst 1, 1) := by decide +kernel
theorem dX15_marchCount_173 : decode cX15_marchCount 173 = .ok (.goto 4, 3) := by decide +kernel
theorem dX15_marchCount_176 : decode cX15_marchCount 176 = .ok (.iconst 0, 1) := by decide +kernel
theorem dX15_marchCount_177 : decode cX15_marchCount 177 = .ok (.iadd, 1) := by decide +kernel
theorem dX15_marchCount_178 : decode cX15_marchCount 178 = .ok (.istore_n 3, 1) := by decide +kernel
theorem dX15_marchCount_179 : decode cX15_marchCount 179 = .ok (.iinc 4 1, 3) := by decide +kernel
theorem dX15_marchCount_182 : decode cX15_marchCount 182 = .ok (.goto (-118), 3) := by decide +kernel
theorem dX15_marchCount_185 : decode cX15_marchCount 185 = .ok (.iload_n 3, 1) := by decide +kernel
theorem dX15_marchCount_186 : decode cX15_marchCount 186 = .ok (.ireturn, 1) := by decide +kernel
set_option maxHeartbeats 4000000 in
set_option maxRecDepth 100000 in
theorem k_J0_isLatin1_aae02_v2 (l : Launch) (D : va_G) (g : Nat → ClassId) (z0 sz : Nat) (a : Nat → Nat) : Met l yJ0_isLatin1_aae02 (.code yJ0_isLatin1_aae02 cJ0_isLatin1_aae02 1 (some .boolean) :: TG) (rmk 0 0 0 0) (va_Pc [.ref (g 201)] (PP D g z0 sz [])) (va_Qi (fun (r : Int32) (u : Unit) => (r = 1) ∧ True) (fun (_ : Unit) (_ : State) => True) (va_A [] sz)) 0 0 (va_A [] sz) := by
  refine met0 (cc := cJ0_isLatin1_aae02) (n := 1) (by decide) (Nat.le_of_ble_eq_true rfl) ?_
  intro p e s m args below meth c hx hb hr hml hown ht hlocks hnm hP0 hD0 hK hZ hsz hz ls hl
  subst hsz
  have hA : ∀ q : Nat, s.heap.size ≤ q → va_A [] s.heap.size q := Anw
  have hAz : ∀ q, va_A [] s.heap.size q → z0 ≤ q := A0z hz
  have hS : va_S (va_A [] s.heap.size) s.heap s.heap [] := va_S.rf
  have hl : lv_has ls 1 [(0, .ref (g 201))] := hl
  refine va_gets (C := "java/lang/String") (n := "COMPACT_STRINGS") (d := "Z") (v := .int 1) hx hb (hZ.m hAz).2.2.2.1 hS hown (ht _ w_388) (fun _ h9 => h9) dJ0_isLatin1_aae02_0 ?_
  refine lv_if_eq (tgt := 17) hx hb dJ0_isLatin1_aae02_3 (by decide) (fun c_1 => ?_) (fun c_1 => ?_)
  · exact absurd c_1 (by decide)
  · refine lv_aload_n hx hb dJ0_isLatin1_aae02_6 rfl (lv_at hl 0 rfl) ?_
    refine vk_getf (v := .int 0) hx hb ((hZ.m hAz).2.2.1.1 1 (by decide)).2.1 hS hown (ht _ w_389) (fun _ h9 => h9) dJ0_isLatin1_aae02_7 ?_
    refine lv_if_ne (tgt := 17) hx hb dJ0_isLatin1_aae02_10 (by decide) (fun c_2 => ?_) (fun c_2 => ?_)
    · exact absurd c_2 (by decide)
    · refine lv_iconst (v := 1) hx hb dJ0_isLatin1_aae02_13 (by decide) ?_
      refine lv_goto (tgt := 18) hx hb dJ0_isLatin1_aae02_14 (by decide) ?_
      refine W.widen (k := 0) (n := 0) (Nat.le_of_ble_eq_true rfl) (Nat.le_of_ble_eq_true rfl) ?_
      exact W.zret (v := 1) hx hb hr rfl (fun t ht9 hW9 => ⟨⟨1, (), rfl, ⟨rfl, trivial⟩, trivial⟩, hS.F ht9⟩) hS.2.2 dJ0_isLatin1_aae02_18 hlocks
set_option maxHeartbeats 4000000 in
set_option maxRecDepth 100000 in
theorem k_J0_coder_7d493_v3 (l : Launch) (D : va_G) (g : Nat → ClassId) (z0 sz : Nat) (a : Nat → Nat) : Met l yJ0_coder_7d493 (.code yJ0_coder_7d493 cJ0_coder_7d493 1 (some .byte) :: TG) (rmk 0 0 0 0) (va_Pc [.ref (g 201)] (PP D g z0 sz [])) (va_Qi (fun (r : Int32) (u : Unit) => (r = 0) ∧ True) (fun (_ : Unit) (_ : State) => True) (va_A [] sz)) 0 0 (va_A [] sz) := by
  refine met0 (cc := cJ0_coder_7d493) (n := 1) (by decide) (Nat.le_of_ble_eq_true rfl) ?_
  intro p e s m args below meth c hx hb hr hml hown ht hlocks hnm hP0 hD0 hK hZ hsz hz ls hl
  subst hsz
  have hA : ∀ q : Nat, s.heap.size ≤ q → va_A [] s.heap.size q := Anw
  have hAz : ∀ q, va_A [] s.heap.size q → z0 ≤ q := A0z hz
  have hS : va_S (va_A [] s.heap.size) s.heap s.heap [] := va_S.rf
  have hl : lv_has ls 1 [(0, .ref (g 201))] := hl
  refine va_gets (C := "java/lang/String") (n := "COMPACT_STRINGS") (d := "Z") (v := .int 1) hx hb (hZ.m hAz).2.2.2.1 hS hown (ht _ w_388) (fun _ h9 => h9) dJ0_coder_7d493_0 ?_
  refine lv_if_eq (tgt := 13) hx hb dJ0_coder_7d493_3 (by decide) (fun c_1 => ?_) (fun c_1 => ?_)
  · exact absurd c_1 (by decide)
  · refine lv_aload_n hx hb dJ0_coder_7d493_6 rfl (lv_at hl 0 rfl) ?_
    refine vk_getf (v := .int 0) hx hb ((hZ.m hAz).2.2.1.1 1 (by decide)).2.1 hS hown (ht _ w_389) (fun _ h9 => h9) dJ0_coder_7d493_7 ?_
    refine lv_goto (tgt := 14) hx hb dJ0_coder_7d493_10 (by decide) ?_
    refine W.widen (k := 0) (n := 0) (Nat.le_of_ble_eq_true rfl) (Nat.le_of_ble_eq_true rfl) ?_
    exact W.zret (v := 0) hx hb hr rfl (fun t ht9 hW9 => ⟨⟨0, (), rfl, ⟨rfl, trivial⟩, trivial⟩, hS.F ht9⟩) hS.2.2 dJ0_coder_7d493_14 hlocks
set_option maxHeartbeats 4000000 in
set_option maxRecDepth 100000 in
theorem k_J0_length_8abf5_v3 (l : Launch) (D : va_G) (g : Nat → ClassId) (z0 sz : Nat) (a : Nat → Nat) : Met l yJ0_length_8abf5 (.code yJ0_length_8abf5 cJ0_length_8abf5 1 (some .int) :: TG) (rmk 1 0 0 20) (va_Pc [.ref (g 201)] (PP D g z0 sz [])) (va_Qi (fun (r : Int32) (u : Unit) => (r = 5) ∧ True) (fun (_ : Unit) (_ : State) => True) (va_A [] sz)) 0 0 (va_A [] sz) := by
  refine met0 (cc := cJ0_length_8abf5) (n := 1) (by decide) (Nat.le_of_ble_eq_true rfl) ?_
  intro p e s m args below meth c hx hb hr hml hown ht hlocks hnm hP0 hD0 hK hZ hsz hz ls hl
  subst hsz
  have hA : ∀ q : Nat, s.heap.size ≤ q → va_A [] s.heap.size q := Anw
  have hAz : ∀ q, va_A [] s.heap.size q → z0 ≤ q := A0z hz
  have hS : va_S (va_A [] s.heap.size) s.heap s.heap [] := va_S.rf
  have hl : lv_has ls 1 [(0, .ref (g 201))] := hl
  refine lv_aload_n hx hb dJ0_length_8abf5_0 rfl (lv_at hl 0 rfl) ?_
  refine vk_getf (v := .ref (g 301)) hx hb ((hZ.m hAz).2.2.1.1 1 (by decide)).2.2.1 hS hown (ht _ w_395) (fun _ h9 => h9) dJ0_length_8abf5_1 ?_
  refine va_tlen (v := 5) hx hb ((hZ.m hAz).2.2.1.1 1 (by decide)).2.2.2 hS rfl dJ0_length_8abf5_4 ?_
  refine lv_aload_n hx hb dJ0_length_8abf5_5 rfl (lv_at hl 0 rfl) ?_
  have hPc : va_P D vwCl [] _ := (ro0 hP0 hS).sub (ws' := []) [] rfl
  have hDc : va_D (fun q => z0 ≤ q) [] := hD0.pick (ws' := []) [] (by decide) rfl
  have hFc := AnA (ws := []) hS.1
  refine va_calli (va_runV (As := []) (rest := [.int 5]) ⟨hx, hb, hml, hown, ht⟩ (k_J0_coder_7d493_v3 l D g z0 _ a) (cwV 0 ht (gV w_396 w_398 w_399 w_394 w_397) rfl rfl rfl (by decide +kernel) (le2 rfl rfl)) ⟨PP.blind, vk_recv (i := 1) (hZ.m hAz).2.2.1 (by decide) hS, PP.mk' hK hZ hz hAz hS hPc hDc⟩ rfl rfl hl.1 rfl (lv_room (Nat.le_of_ble_eq_true rfl)) dJ0_length_8abf5_6 (le2 rfl rfl)) hS (fun q _ h => hFc q h) hFc (fun r u t H locs ht1 hvm hw hB hz1 hk1 hS => ?_)
  obtain ⟨rfl, hw⟩ := hw
  refine lv_ishr hx hb dJ0_length_8abf5_9 ?_
  refine r_topi (v := 5) (by decide) ?_
  refine W.widen (k := 0) (n := 0) (Nat.le_of_ble_eq_true rfl) (Nat.le_of_ble_eq_true rfl) ?_
  exact W.iret (v := 5) hx hb hr (fun t ht9 hW9 => ⟨⟨5, (), rfl, ⟨rfl, trivial⟩, trivial⟩, hS.F ht9⟩) hS.2.2 dJ0_length_8abf5_10 hlocks
set_option maxHeartbeats 4000000 in
set_option maxRecDepth 100000 in
theorem k_J1_indexOfChar_4cfef_v2 (l : Launch) (D : va_G) (g : Nat → ClassId) (z0 sz : Nat) (a : Nat → Nat) (p0 : Int32) : Met l yJ1_indexOfChar_4cfef (.code yJ1_indexOfChar_4cfef cJ1_indexOfChar_4cfef 6 (some .int) :: TG) (rmk 0 0 0 0) (va_Pc [.ref (g 301), .int p0, .int 0, .int 5] (PP D g z0 sz [])) (va_Qi (fun (r : Int32) (u : Unit) => ((r = (-1)) ∧ ((¬ 97 = p0.toInt8.toInt32) ∧ (¬ 111 = p0.toInt8.toInt32) ∧ (¬ 110 = p0.toInt8.toInt32) ∧ (¬ 114 = p0.toInt8.toInt32) ∧ (¬ 120 = p0.toInt8.toInt32))) ∨ ((r = 4) ∧ ((¬ 97 = p0.toInt8.toInt32) ∧ (¬ 111 = p0.toInt8.toInt32) ∧ (¬ 110 = p0.toInt8.toInt32) ∧ (¬ 114 = p0.toInt8.toInt32) ∧ (120 = p0.toInt8.toInt32))) ∨ ((r = 3) ∧ ((¬ 97 = p0.toInt8.toInt32) ∧ (¬ 111 = p0.toInt8.toInt32) ∧ (¬ 110 = p0.toInt8.toInt32) ∧ (114 = p0.toInt8.toInt32))) ∨ ((r = 2) ∧ ((¬ 97 = p0.toInt8.toInt32) ∧ (¬ 111 = p0.toInt8.toInt32) ∧ (110 = p0.toInt8.toInt32))) ∨ ((r = 1) ∧ ((¬ 97 = p0.toInt8.toInt32) ∧ (111 = p0.toInt8.toInt32))) ∨ ((r = 0) ∧ (97 = p0.toInt8.toInt32))) (fun (_ : Unit) (_ : State) => True) (va_A [] sz)) 0 0 (va_A [] sz) := by
  refine met0 (cc := cJ1_indexOfChar_4cfef) (n := 6) (by decide) (Nat.le_of_ble_eq_true rfl) ?_
  intro p e s m args below meth c hx hb hr hml hown ht hlocks hnm hP0 hD0 hK hZ hsz hz ls hl
  subst hsz
  have hA : ∀ q : Nat, s.heap.size ≤ q → va_A [] s.heap.size q := Anw
  have hAz : ∀ q, va_A [] s.heap.size q → z0 ≤ q := A0z hz
  have hS : va_S (va_A [] s.heap.size) s.heap s.heap [] := va_S.rf
  have hl : lv_has ls 6 [(0, .ref (g 301)), (1, .int p0), (2, .int 0), (3, .int 5)] := hl
  refine lv_iload_n hx hb dJ1_indexOfChar_4cfef_0 rfl (lv_at hl 1 rfl) ?_
  refine lv_i2b (v := p0.toInt8.toInt32) hx hb dJ1_indexOfChar_4cfef_1 rfl ?_
  refine lv_istore (lv' := [(4, .int p0.toInt8.toInt32), (0, .ref (g 301)), (1, .int p0), (2, .int 0), (3, .int 5)]) hx hb dJ1_indexOfChar_4cfef_2 hl (by decide) rfl (fun ls hl => ?_)
  refine lv_iload_n hx hb dJ1_indexOfChar_4cfef_4 rfl (lv_at hl 3 rfl) ?_
  refine lv_istore (lv' := [(5, .int 0), (4, .int p0.toInt8.toInt32), (0, .ref (g 301)), (1, .int p0), (2, .int 0), (3, .int 5)]) hx hb dJ1_indexOfChar_4cfef_5 hl (by decide) rfl (fun ls hl => ?_)
  refine lv_iload hx hb dJ1_indexOfChar_4cfef_7 (lv_at hl 0 rfl) ?_
  refine lv_iload_n hx hb dJ1_indexOfChar_4cfef_9 rfl (lv_at hl 5 rfl) ?_
  refine lv_icmp_ge (tgt := 31) hx hb dJ1_indexOfChar_4cfef_10 (by decide) (fun c_1 => ?_) (fun c_1 => ?_)
  · exact absurd c_1 (by decide)
  · refine lv_aload_n hx hb dJ1_indexOfChar_4cfef_13 rfl (lv_at hl 2 rfl) ?_
    refine lv_iload hx hb dJ1_indexOfChar_4cfef_14 (lv_at hl 0 rfl) ?_
    refine va_tb (v := .int 97) hx hb ((hZ.m hAz).2.2.1.1 1 (by decide)).2.2.2 hS (by unfold vp_in; decide) rfl dJ1_indexOfChar_4cfef_16 ?_
    refine lv_iload hx hb dJ1_indexOfChar_4cfef_17 (lv_at hl 1 rfl) ?_
    refine lv_icmp_ne (tgt := 25) hx hb dJ1_indexOfChar_4cfef_19 (by decide) (fun c_2 => ?_) (fun c_2 => ?_)
    · refine lv_iinc (v := 1) (lv' := [(5, .int 1), (4, .int p0.toInt8.toInt32), (0, .ref (g 301)), (1, .int p0), (2, .int 0), (3, .int 5)]) hx hb dJ1_indexOfChar_4cfef_25 hl (k := 0) rfl (by decide) (by decide) rfl (fun ls hl => ?_)
      refine lv_goto (tgt := 7) hx hb dJ1_indexOfChar_4cfef_28 (by decide) ?_
      refine lv_iload hx hb dJ1_indexOfChar_4cfef_7 (lv_at hl 0 rfl) ?_
      refine lv_iload_n hx hb dJ1_indexOfChar_4cfef_9 rfl (lv_at hl 5 rfl) ?_
      refine lv_icmp_ge (tgt := 31) hx hb dJ1_indexOfChar_4cfef_10 (by decide) (fun c_3 => ?_) (fun c_3 => ?_)
      · exact absurd c_3 (by decide)
      · refine lv_aload_n hx hb dJ1_indexOfChar_4cfef_13 rfl (lv_at hl 2 rfl) ?_
        refine lv_iload hx hb dJ1_indexOfChar_4cfef_14 (lv_at hl 0 rfl) ?_
        refine va_tb (v := .int 111) hx hb ((hZ.m hAz).2.2.1.1 1 (by decide)).2.2.2 hS (by unfold vp_in; decide) rfl dJ1_indexOfChar_4cfef_16 ?_
        refine lv_iload hx hb dJ1_indexOfChar_4cfef_17 (lv_at hl 1 rfl) ?_
        refine lv_icmp_ne (tgt := 25) hx hb dJ1_indexOfChar_4cfef_19 (by decide) (fun c_4 => ?_) (fun c_4 => ?_)
        · refine lv_iinc (v := 2) (lv' := [(5, .int 2), (4, .int p0.toInt8.toInt32), (0, .ref (g 301)), (1, .int p0), (2, .int 0), (3, .int 5)]) hx hb dJ1_indexOfChar_4cfef_25 hl (k := 0) rfl (by decide) (by decide) rfl (fun ls hl => ?_)
          refine lv_goto (tgt := 7) hx hb dJ1_indexOfChar_4cfef_28 (by decide) ?_
          refine lv_iload hx hb dJ1_indexOfChar_4cfef_7 (lv_at hl 0 rfl) ?_
          refine lv_iload_n hx hb dJ1_indexOfChar_4cfef_9 rfl (lv_at hl 5 rfl) ?_
          refine lv_icmp_ge (tgt := 31) hx hb dJ1_indexOfChar_4cfef_10 (by decide) (fun c_5 => ?_) (fun c_5 => ?_)
          · exact absurd c_5 (by decide)
          · refine lv_aload_n hx hb dJ1_indexOfChar_4cfef_13 rfl (lv_at hl 2 rfl) ?_
            refine lv_iload hx hb dJ1_indexOfChar_4cfef_14 (lv_at hl 0 rfl) ?_
            refine va_tb (v := .int 110) hx hb ((hZ.m hAz).2.2.1.1 1 (by decide)).2.2.2 hS (by unfold vp_in; decide) rfl dJ1_indexOfChar_4cfef_16 ?_
            refine lv_iload hx hb dJ1_indexOfChar_4cfef_17 (lv_at hl 1 rfl) ?_
            refine lv_icmp_ne (tgt := 25) hx hb dJ1_indexOfChar_4cfef_19 (by decide) (fun c_6 => ?_) (fun c_6 => ?_)
            · refine lv_iinc (v := 3) (lv' := [(5, .int 3), (4, .int p0.toInt8.toInt32), (0, .ref (g 301)), (1, .int p0), (2, .int 0), (3, .int 5)]) hx hb dJ1_indexOfChar_4cfef_25 hl (k := 0) rfl (by decide) (by decide) rfl (fun ls hl => ?_)
              refine lv_goto (tgt := 7) hx hb dJ1_indexOfChar_4cfef_28 (by decide) ?_
              refine lv_iload hx hb dJ1_indexOfChar_4cfef_7 (lv_at hl 0 rfl) ?_
              refine lv_iload_n hx hb dJ1_indexOfChar_4cfef_9 rfl (lv_at hl 5 rfl) ?_
              refine lv_icmp_ge (tgt := 31) hx hb dJ1_indexOfChar_4cfef_10 (by decide) (fun c_7 => ?_) (fun c_7 => ?_)
              · exact absurd c_7 (by decide)
              · refine lv_aload_n hx hb dJ1_indexOfChar_4cfef_13 rfl (lv_at hl 2 rfl) ?_
                refine lv_iload hx hb dJ1_indexOfChar_4cfef_14 (lv_at hl 0 rfl) ?_
                refine va_tb (v := .int 114) hx hb ((hZ.m hAz).2.2.1.1 1 (by decide)).2.2.2 hS (by unfold vp_in; decide) rfl dJ1_indexOfChar_4cfef_16 ?_
                refine lv_iload hx hb dJ1_indexOfChar_4cfef_17 (lv_at hl 1 rfl) ?_
                refine lv_icmp_ne (tgt := 25) hx hb dJ1_indexOfChar_4cfef_19 (by decide) (fun c_8 => ?_) (fun c_8 => ?_)
                · refine lv_iinc (v := 4) (lv' := [(5, .int 4), (4, .int p0.toInt8.toInt32), (0, .ref (g 301)), (1, .int p0), (2, .int 0), (3, .int 5)]) hx hb dJ1_indexOfChar_4cfef_25 hl (k := 0) rfl (by decide) (by decide) rfl (fun ls hl => ?_)
                  refine lv_goto (tgt := 7) hx hb dJ1_indexOfChar_4cfef_28 (by decide) ?_
                  refine lv_iload hx hb dJ1_indexOfChar_4cfef_7 (lv_at hl 0 rfl) ?_
                  refine lv_iload_n hx hb dJ1_indexOfChar_4cfef_9 rfl (lv_at hl 5 rfl) ?_
                  refine lv_icmp_ge (tgt := 31) hx hb dJ1_indexOfChar_4cfef_10 (by decide) (fun c_9 => ?_) (fun c_9 => ?_)
                  · exact absurd c_9 (by decide)
                  · refine lv_aload_n hx hb dJ1_indexOfChar_4cfef_13 rfl (lv_at hl 2 rfl) ?_
                    refine lv_iload hx hb dJ1_indexOfChar_4cfef_14 (lv_at hl 0 rfl) ?_
                    refine va_tb (v := .int 120) hx hb ((hZ.m hAz).2.2.1.1 1 (by decide)).2.2.2 hS (by unfold vp_in; decide) rfl dJ1_indexOfChar_4cfef_16 ?_
                    refine lv_iload hx hb dJ1_indexOfChar_4cfef_17 (lv_at hl 1 rfl) ?_
                    refine lv_icmp_ne (tgt := 25) hx hb dJ1_indexOfChar_4cfef_19 (by decide) (fun c_10 => ?_) (fun c_10 => ?_)
                    · refine lv_iinc (v := 5) (lv' := [(5, .int 5), (4, .int p0.toInt8.toInt32), (0, .ref (g 301)), (1, .int p0), (2, .int 0), (3, .int 5)]) hx hb dJ1_indexOfChar_4cfef_25 hl (k := 0) rfl (by decide) (by decide) rfl (fun ls hl => ?_)
                      refine lv_goto (tgt := 7) hx hb dJ1_indexOfChar_4cfef_28 (by decide) ?_
                      refine lv_iload hx hb dJ1_indexOfChar_4cfef_7 (lv_at hl 0 rfl) ?_
                      refine lv_iload_n hx hb dJ1_indexOfChar_4cfef_9 rfl (lv_at hl 5 rfl) ?_
                      refine lv_icmp_ge (tgt := 31) hx hb dJ1_indexOfChar_4cfef_10 (by decide) (fun c_11 => ?_) (fun c_11 => ?_)
                      · refine lv_iconst (v := (-1)) hx hb dJ1_indexOfChar_4cfef_31 (by decide) ?_
                        refine W.widen (k := 0) (n := 0) (Nat.le_of_ble_eq_true rfl) (Nat.le_of_ble_eq_true rfl) ?_
                        exact W.iret (v := (-1)) hx hb hr (fun t ht9 hW9 => ⟨⟨(-1), (), rfl, (Or.inl ⟨rfl, ⟨c_2, c_4, c_6, c_8, c_10⟩⟩), trivial⟩, hS.F ht9⟩) hS.2.2 dJ1_indexOfChar_4cfef_32 hlocks
                      · exact absurd c_11 (by decide)
                    · refine lv_iload hx hb dJ1_indexOfChar_4cfef_22 (lv_at hl 0 rfl) ?_
                      refine W.widen (k := 0) (n := 0) (Nat.le_of_ble_eq_true rfl) (Nat.le_of_ble_eq_true rfl) ?_
                      exact W.iret (v := 4) hx hb hr (fun t ht9 hW9 => ⟨⟨4, (), rfl, (Or.inr (Or.inl ⟨rfl, ⟨c_2, c_4, c_6, c_8, c_10⟩⟩)), trivial⟩, hS.F ht9⟩) hS.2.2 dJ1_indexOfChar_4cfef_24 hlocks
                · refine lv_iload hx hb dJ1_indexOfChar_4cfef_22 (lv_at hl 0 rfl) ?_
                  refine W.widen (k := 0) (n := 0) (Nat.le_of_ble_eq_true rfl) (Nat.le_of_ble_eq_true rfl) ?_
                  exact W.iret (v := 3) hx hb hr (fun t ht9 hW9 => ⟨⟨3, (), rfl, (Or.inr (Or.inr (Or.inl ⟨rfl, ⟨c_2, c_4, c_6, c_8⟩⟩))), trivial⟩, hS.F ht9⟩) hS.2.2 dJ1_indexOfChar_4cfef_24 hlocks
            · refine lv_iload hx hb dJ1_indexOfChar_4cfef_22 (lv_at hl 0 rfl) ?_
              refine W.widen (k := 0) (n := 0) (Nat.le_of_ble_eq_true rfl) (Nat.le_of_ble_eq_true rfl) ?_
              exact W.iret (v := 2) hx hb hr (fun t ht9 hW9 => ⟨⟨2, (), rfl, (Or.inr (Or.inr (Or.inr (Or.inl ⟨rfl, ⟨c_2, c_4, c_6⟩⟩)))), trivial⟩, hS.F ht9⟩) hS.2.2 dJ1_indexOfChar_4cfef_24 hlocks
        · refine lv_iload hx hb dJ1_indexOfChar_4cfef_22 (lv_at hl 0 rfl) ?_
          refine W.widen (k := 0) (n := 0) (Nat.le_of_ble_eq_true rfl) (Nat.le_of_ble_eq_true rfl) ?_
          exact W.iret (v := 1) hx hb hr (fun t ht9 hW9 => ⟨⟨1, (), rfl, (Or.inr (Or.inr (Or.inr (Or.inr (Or.inl ⟨rfl, ⟨c_2, c_4⟩⟩))))), trivial⟩, hS.F ht9⟩) hS.2.2 dJ1_indexOfChar_4cfef_24 hlocks
    · refine lv_iload hx hb dJ1_indexOfChar_4cfef_22 (lv_at hl 0 rfl) ?_
      refine W.widen (k := 0) (n := 0) (Nat.le_of_ble_eq_true rfl) (Nat.le_of_ble_eq_true rfl) ?_
      exact W.iret (v := 0) hx hb hr (fun t ht9 hW9 => ⟨⟨0, (), rfl, (Or.inr (Or.inr (Or.inr (Or.inr (Or.inr ⟨rfl, c_2⟩))))), trivial⟩, hS.F ht9⟩) hS.2.2 dJ1_indexOfChar_4cfef_24 hlocks
set_option maxHeartbeats 4000000 in
set_option maxRecDepth 100000 in
theorem k_J1_indexOf_4cfef_v2 (l : Launch) (D : va_G) (g : Nat → ClassId) (z0 sz : Nat) (a : Nat → Nat) (p0 : Int32) : Met l yJ1_indexOf_4cfef (.code yJ1_indexOf_4cfef cJ1_indexOf_4cfef 4 (some .int) :: TG) (rmk 1 0 0 25) (va_Pc [.ref (g 301), .int p0, .int 0, .int 5] (PP D g z0 sz [])) (va_Qi (fun (r : Int32) (u : Unit) => ((r = (-1)) ∧ ((p0 < 0) ∨ ((¬ p0 < 0) ∧ ((255 : Int32) < p0)) ∨ ((¬ p0 < 0) ∧ (¬ (255 : Int32) < p0) ∧ (¬ 97 = p0.toInt8.toInt32) ∧ (¬ 111 = p0.toInt8.toInt32) ∧ (¬ 110 = p0.toInt8.toInt32) ∧ (¬ 114 = p0.toInt8.toInt32) ∧ (¬ 120 = p0.toInt8.toInt32)))) ∨ ((r = 4) ∧ ((¬ p0 < 0) ∧ (¬ (255 : Int32) < p0) ∧ (¬ 97 = p0.toInt8.toInt32) ∧ (¬ 111 = p0.toInt8.toInt32) ∧ (¬ 110 = p0.toInt8.toInt32) ∧ (¬ 114 = p0.toInt8.toInt32) ∧ (120 = p0.toInt8.toInt32))) ∨ ((r = 3) ∧ ((¬ p0 < 0) ∧ (¬ (255 : Int32) < p0) ∧ (¬ 97 = p0.toInt8.toInt32) ∧ (¬ 111 = p0.toInt8.toInt32) ∧ (¬ 110 = p0.toInt8.toInt32) ∧ (114 = p0.toInt8.toInt32))) ∨ ((r = 2) ∧ ((¬ p0 < 0) ∧ (¬ (255 : Int32) < p0) ∧ (¬ 97 = p0.toInt8.toInt32) ∧ (¬ 111 = p0.toInt8.toInt32) ∧ (110 = p0.toInt8.toInt32))) ∨ ((r = 1) ∧ ((¬ p0 < 0) ∧ (¬ (255 : Int32) < p0) ∧ (¬ 97 = p0.toInt8.toInt32) ∧ (111 = p0.toInt8.toInt32))) ∨ ((r = 0) ∧ ((¬ p0 < 0) ∧ (¬ (255 : Int32) < p0) ∧ (97 = p0.toInt8.toInt32)))) (fun (_ : Unit) (_ : State) => True) (va_A [] sz)) 0 0 (va_A [] sz) := by
  refine met0 (cc := cJ1_indexOf_4cfef) (n := 4) (by decide) (Nat.le_of_ble_eq_true rfl) ?_
  intro p e s m args below meth c hx hb hr hml hown ht hlocks hnm hP0 hD0 hK hZ hsz hz ls hl
  subst hsz
  have hA : ∀ q : Nat, s.heap.size ≤ q → va_A [] s.heap.size q := Anw
  have hAz : ∀ q, va_A [] s.heap.size q → z0 ≤ q := A0z hz
  have hS : va_S (va_A [] s.heap.size) s.heap s.heap [] := va_S.rf
  have hl : lv_has ls 4 [(0, .ref (g 301)), (1, .int p0), (2, .int 0), (3, .int 5)] := hl
  refine lv_iload_n hx hb dJ1_indexOf_4cfef_0 rfl (lv_at hl 1 rfl) ?_
  have hPc : va_P D vwCl [] _ := (ro0 hP0 hS).sub (ws' := []) [] rfl
  have hDc : va_D (fun q => z0 ≤ q) [] := hD0.pick (ws' := []) [] (by decide) rfl
  have hFc := AnA (ws := []) hS.1
  refine va_calli (va_runS (As := [.int p0]) (rest := []) ⟨hx, hb, hml, hown, ht⟩ (k_J1_canEncode_9a6ad l D g z0 _ a p0) (va_cwS 1 ht (gS w_404 w_406 w_407 w_405) rfl rfl rfl (by decide +kernel) (le2 rfl rfl)) ⟨PP.blind, PP.mk' hK hZ hz hAz hS hPc hDc⟩ rfl rfl hl.1 rfl (lv_room (Nat.le_of_ble_eq_true rfl)) dJ1_indexOf_4cfef_1 (le2 rfl rfl)) hS (fun q _ h => hFc q h) hFc (fun r u t H locs ht1 hvm hw hB hz1 hk1 hS => ?_)
  rcases hw with hw | hw
  · obtain ⟨rfl, hw⟩ := hw
    rcases hw with hw | hw
    · have c_1 := hw
      refine lv_if_ne (tgt := 9) hx hb dJ1_indexOf_4cfef_4 (by decide) (fun c_2 => ?_) (fun c_2 => ?_)
      · exact absurd c_2 (by decide)
      · refine lv_iconst (v := (-1)) hx hb dJ1_indexOf_4cfef_7 (by decide) ?_
        refine W.widen (k := 0) (n := 0) (Nat.le_of_ble_eq_true rfl) (Nat.le_of_ble_eq_true rfl) ?_
        exact W.iret (v := (-1)) hx hb hr (fun t ht9 hW9 => ⟨⟨(-1), (), rfl, (Or.inl ⟨rfl, (Or.inl c_1)⟩), trivial⟩, hS.F ht9⟩) hS.2.2 dJ1_indexOf_4cfef_8 hlocks
    · obtain ⟨c_3, c_4⟩ := hw
      refine lv_if_ne (tgt := 9) hx hb dJ1_indexOf_4cfef_4 (by decide) (fun c_5 => ?_) (fun c_5 => ?_)
      · exact absurd c_5 (by decide)
      · refine lv_iconst (v := (-1)) hx hb dJ1_indexOf_4cfef_7 (by decide) ?_
        refine W.widen (k := 0) (n := 0) (Nat.le_of_ble_eq_true rfl) (Nat.le_of_ble_eq_true rfl) ?_
        exact W.iret (v := (-1)) hx hb hr (fun t ht9 hW9 => ⟨⟨(-1), (), rfl, (Or.inl ⟨rfl, (Or.inr (Or.inl ⟨c_3, c_4⟩))⟩), trivial⟩, hS.F ht9⟩) hS.2.2 dJ1_indexOf_4cfef_8 hlocks
  · obtain ⟨rfl, hw⟩ := hw
    obtain ⟨c_6, c_7⟩ := hw
    refine lv_if_ne (tgt := 9) hx hb dJ1_indexOf_4cfef_4 (by decide) (fun c_8 => ?_) (fun c_8 => ?_)
    · refine lv_iload_n hx hb dJ1_indexOf_4cfef_9 rfl (lv_at hl 2 rfl) ?_
      refine lv_iconst (v := 0) hx hb dJ1_indexOf_4cfef_10 (by decide) ?_
      refine va_mmax hx hb (hml.trans hl.1.symm) hown (ht _ w_408) (ht _ w_409) (ht _ w_410) (ht _ w_411) (Nat.le_of_ble_eq_true rfl) (Nat.le_of_ble_eq_true rfl) (Nat.le_of_ble_eq_true rfl) (Nat.le_of_ble_eq_true rfl) dJ1_indexOf_4cfef_11 ?_
      refine r_topi (v := 0) (by decide) ?_
      refine lv_istore_n (lv' := [(2, .int 0), (0, .ref (g 301)), (1, .int p0), (3, .int 5)]) hx hb dJ1_indexOf_4cfef_14 rfl hl (by decide) rfl (fun ls hl => ?_)
      refine lv_iload_n hx hb dJ1_indexOf_4cfef_15 rfl (lv_at hl 3 rfl) ?_
      refine lv_aload_n hx hb dJ1_indexOf_4cfef_16 rfl (lv_at hl 1 rfl) ?_
      refine va_tlen (v := 5) hx hb ((hZ.m hAz).2.2.1.1 1 (by decide)).2.2.2 hS rfl dJ1_indexOf_4cfef_17 ?_
      refine va_mmin hx hb (hml.trans hl.1.symm) hown (ht _ w_412) (ht _ w_413) (ht _ w_410) (ht _ w_414) (Nat.le_of_ble_eq_true rfl) (Nat.le_of_ble_eq_true rfl) (Nat.le_of_ble_eq_true rfl) (Nat.le_of_ble_eq_true rfl) dJ1_indexOf_4cfef_18 ?_
      refine r_topi (v := 5) (by decide) ?_
      refine lv_istore_n (lv' := [(3, .int 5), (2, .int 0), (0, .ref (g 301)), (1, .int p0)]) hx hb dJ1_indexOf_4cfef_21 rfl hl (by decide) rfl (fun ls hl => ?_)
      refine lv_iload_n hx hb dJ1_indexOf_4cfef_22 rfl (lv_at hl 1 rfl) ?_
      refine lv_iload_n hx hb dJ1_indexOf_4cfef_23 rfl (lv_at hl 0 rfl) ?_
      refine lv_icmp_lt (tgt := 29) hx hb dJ1_indexOf_4cfef_24 (by decide) (fun c_9 => ?_) (fun c_9 => ?_)
      · refine lv_aload_n hx hb dJ1_indexOf_4cfef_29 rfl (lv_at hl 2 rfl) ?_
        refine lv_iload_n hx hb dJ1_indexOf_4cfef_30 rfl (lv_at hl 3 rfl) ?_
        refine lv_iload_n hx hb dJ1_indexOf_4cfef_31 rfl (lv_at hl 1 rfl) ?_
        refine lv_iload_n hx hb dJ1_indexOf_4cfef_32 rfl (lv_at hl 0 rfl) ?_
        have hPc : va_P D vwCl [] _ := (ro0 hP0 hS).sub (ws' := []) [] rfl
        have hDc : va_D (fun q => z0 ≤ q) [] := hD0.pick (ws' := []) [] (by decide) rfl
        have hFc := AnA (ws := []) hS.1
        refine va_calli (va_runS (As := [.ref (g 301), .int p0, .int 0, .int 5]) (rest := []) ⟨hx, hb, hml, hown, ht⟩ (k_J1_indexOfChar_4cfef_v2 l D g z0 _ a p0) (va_cwS 4 ht (gS w_415 w_417 w_407 w_416) rfl rfl rfl (by decide +kernel) (le2 rfl rfl)) ⟨PP.blind, PP.mk' hK hZ hz hAz hS hPc hDc⟩ rfl rfl hl.1 rfl (lv_room (Nat.le_of_ble_eq_true rfl)) dJ1_indexOf_4cfef_33 (le2 rfl rfl)) hS (fun q _ h => hFc q h) hFc (fun r u t H locs ht1 hvm hw hB hz1 hk1 hS => ?_)
        rcases hw with hw | hw | hw | hw | hw | hw
        · obtain ⟨rfl, hw⟩ := hw
          obtain ⟨c_10, c_11, c_12, c_13, c_14⟩ := hw
          refine W.widen (k := 0) (n := 0) (Nat.le_of_ble_eq_true rfl) (Nat.le_of_ble_eq_true rfl) ?_
          exact W.iret (v := (-1)) hx hb hr (fun t ht9 hW9 => ⟨⟨(-1), (), rfl, (Or.inl ⟨rfl, (Or.inr (Or.inr ⟨c_6, c_7, c_10, c_11, c_12, c_13, c_14⟩))⟩), trivial⟩, hS.F ht9⟩) hS.2.2 dJ1_indexOf_4cfef_36 hlocks
        · obtain ⟨rfl, hw⟩ := hw
          obtain ⟨c_15, c_16, c_17, c_18, c_19⟩ := hw
          refine W.widen (k := 0) (n := 0) (Nat.le_of_ble_eq_true rfl) (Nat.le_of_ble_eq_true rfl) ?_
          exact W.iret (v := 4) hx hb hr (fun t ht9 hW9 => ⟨⟨4, (), rfl, (Or.inr (Or.inl ⟨rfl, ⟨c_6, c_7, c_15, c_16, c_17, c_18, c_19⟩⟩)), trivial⟩, hS.F ht9⟩) hS.2.2 dJ1_indexOf_4cfef_36 hlocks
        · obtain ⟨rfl, hw⟩ := hw
          obtain ⟨c_20, c_21, c_22, c_23⟩ := hw
          refine W.widen (k := 0) (n := 0) (Nat.le_of_ble_eq_true rfl) (Nat.le_of_ble_eq_true rfl) ?_
          exact W.iret (v := 3) hx hb hr (fun t ht9 hW9 => ⟨⟨3, (), rfl, (Or.inr (Or.inr (Or.inl ⟨rfl, ⟨c_6, c_7, c_20, c_21, c_22, c_23⟩⟩))), trivial⟩, hS.F ht9⟩) hS.2.2 dJ1_indexOf_4cfef_36 hlocks
        · obtain ⟨rfl, hw⟩ := hw
          obtain ⟨c_24, c_25, c_26⟩ := hw
          refine W.widen (k := 0) (n := 0) (Nat.le_of_ble_eq_true rfl) (Nat.le_of_ble_eq_true rfl) ?_
          exact W.iret (v := 2) hx hb hr (fun t ht9 hW9 => ⟨⟨2, (), rfl, (Or.inr (Or.inr (Or.inr (Or.inl ⟨rfl, ⟨c_6, c_7, c_24, c_25, c_26⟩⟩)))), trivial⟩, hS.F ht9⟩) hS.2.2 dJ1_indexOf_4cfef_36 hlocks
        · obtain ⟨rfl, hw⟩ := hw
          obtain ⟨c_27, c_28⟩ := hw
          refine W.widen (k := 0) (n := 0) (Nat.le_of_ble_eq_true rfl) (Nat.le_of_ble_eq_true rfl) ?_
          exact W.iret (v := 1) hx hb hr (fun t ht9 hW9 => ⟨⟨1, (), rfl, (Or.inr (Or.inr (Or.inr (Or.inr (Or.inl ⟨rfl, ⟨c_6, c_7, c_27, c_28⟩⟩))))), trivial⟩, hS.F ht9⟩) hS.2.2 dJ1_indexOf_4cfef_36 hlocks
        · obtain ⟨rfl, hw⟩ := hw
          have c_29 := hw
          refine W.widen (k := 0) (n := 0) (Nat.le_of_ble_eq_true rfl) (Nat.le_of_ble_eq_true rfl) ?_
          exact W.iret (v := 0) hx hb hr (fun t ht9 hW9 => ⟨⟨0, (), rfl, (Or.inr (Or.inr (Or.inr (Or.inr (Or.inr ⟨rfl, ⟨c_6, c_7, c_29⟩⟩))))), trivial⟩, hS.F ht9⟩) hS.2.2 dJ1_indexOf_4cfef_36 hlocks
      · exact absurd c_9 (by decide)
    · exact absurd c_8 (by decide)
set_option maxHeartbeats 4000000 in
set_option maxRecDepth 100000 in
theorem k_J0_indexOf_7cf53_v2 (l : Launch) (D : va_G) (g : Nat → ClassId) (z0 sz : Nat) (a : Nat → Nat) (p0 : Int32) : Met l yJ0_indexOf_7cf53 (.code yJ0_indexOf_7cf53 cJ0_indexOf_7cf53 3 (some .int) :: TG) (rmk 2 0 0 48) (va_Pc [.ref (g 201), .int p0, .int 0] (PP D g z0 sz [])) (va_Qi (fun (r : Int32) (u : Unit) => ((r = (-1)) ∧ ((p0 < 0) ∨ ((¬ p0 < 0) ∧ ((255 : Int32) < p0)) ∨ ((¬ p0 < 0) ∧ (¬ (255 : Int32) < p0) ∧ (¬ 97 = p0.toInt8.toInt32) ∧ (¬ 111 = p0.toInt8.toInt32) ∧ (¬ 110 = p0.toInt8.toInt32) ∧ (¬ 114 = p0.toInt8.toInt32) ∧ (¬ 120 = p0.toInt8.toInt32)))) ∨ ((r = 4) ∧ ((¬ p0 < 0) ∧ (¬ (255 : Int32) < p0) ∧ (¬ 97 = p0.toInt8.toInt32) ∧ (¬ 111 = p0.toInt8.toInt32) ∧ (¬ 110 = p0.toInt8.toInt32) ∧ (¬ 114 = p0.toInt8.toInt32) ∧ (120 = p0.toInt8.toInt32))) ∨ ((r = 3) ∧ ((¬ p0 < 0) ∧ (¬ (255 : Int32) < p0) ∧ (¬ 97 = p0.toInt8.toInt32) ∧ (¬ 111 = p0.toInt8.toInt32) ∧ (¬ 110 = p0.toInt8.toInt32) ∧ (114 = p0.toInt8.toInt32))) ∨ ((r = 2) ∧ ((¬ p0 < 0) ∧ (¬ (255 : Int32) < p0) ∧ (¬ 97 = p0.toInt8.toInt32) ∧ (¬ 111 = p0.toInt8.toInt32) ∧ (110 = p0.toInt8.toInt32))) ∨ ((r = 1) ∧ ((¬ p0 < 0) ∧ (¬ (255 : Int32) < p0) ∧ (¬ 97 = p0.toInt8.toInt32) ∧ (111 = p0.toInt8.toInt32))) ∨ ((r = 0) ∧ ((¬ p0 < 0) ∧ (¬ (255 : Int32) < p0) ∧ (97 = p0.toInt8.toInt32)))) (fun (_ : Unit) (_ : State) => True) (va_A [] sz)) 0 0 (va_A [] sz) := by
  refine met0 (cc := cJ0_indexOf_7cf53) (n := 3) (by decide) (Nat.le_of_ble_eq_true rfl) ?_
  intro p e s m args below meth c hx hb hr hml hown ht hlocks hnm hP0 hD0 hK hZ hsz hz ls hl
  subst hsz
  have hA : ∀ q : Nat, s.heap.size ≤ q → va_A [] s.heap.size q := Anw
  have hAz : ∀ q, va_A [] s.heap.size q → z0 ≤ q := A0z hz
  have hS : va_S (va_A [] s.heap.size) s.heap s.heap [] := va_S.rf
  have hl : lv_has ls 3 [(0, .ref (g 201)), (1, .int p0), (2, .int 0)] := hl
  refine lv_aload_n hx hb dJ0_indexOf_7cf53_0 rfl (lv_at hl 0 rfl) ?_
  have hPc : va_P D vwCl [] _ := (ro0 hP0 hS).sub (ws' := []) [] rfl
  have hDc : va_D (fun q => z0 ≤ q) [] := hD0.pick (ws' := []) [] (by decide) rfl
  have hFc := AnA (ws := []) hS.1
  refine va_calli (va_runV (As := []) (rest := []) ⟨hx, hb, hml, hown, ht⟩ (k_J0_isLatin1_aae02_v2 l D g z0 _ a) (cwV 0 ht (gV w_390 w_392 w_393 w_394 w_391) rfl rfl rfl (by decide +kernel) (le2 rfl rfl)) ⟨PP.blind, vk_recv (i := 1) (hZ.m hAz).2.2.1 (by decide) hS, PP.mk' hK hZ hz hAz hS hPc hDc⟩ rfl rfl hl.1 rfl (lv_room (Nat.le_of_ble_eq_true rfl)) dJ0_indexOf_7cf53_1 (le2 rfl rfl)) hS (fun q _ h => hFc q h) hFc (fun r u t H locs ht1 hvm hw hB hz1 hk1 hS => ?_)
  obtain ⟨rfl, hw⟩ := hw
  refine lv_if_eq (tgt := 23) hx hb dJ0_indexOf_7cf53_4 (by decide) (fun c_1 => ?_) (fun c_1 => ?_)
  · exact absurd c_1 (by decide)
  · refine lv_aload_n hx hb dJ0_indexOf_7cf53_7 rfl (lv_at hl 0 rfl) ?_
    refine vk_getf (v := .ref (g 301)) hx hb ((hZ.m hAz).2.2.1.1 1 (by decide)).2.2.1 hS hown (ht _ w_395) (fun _ h9 => h9) dJ0_indexOf_7cf53_8 ?_
    refine lv_iload_n hx hb dJ0_indexOf_7cf53_11 rfl (lv_at hl 1 rfl) ?_
    refine lv_iload_n hx hb dJ0_indexOf_7cf53_12 rfl (lv_at hl 2 rfl) ?_
    refine lv_aload_n hx hb dJ0_indexOf_7cf53_13 rfl (lv_at hl 0 rfl) ?_
    have hPc : va_P D vwCl [] _ := (ro0 hP0 hS).sub (ws' := []) [] rfl
    have hDc : va_D (fun q => z0 ≤ q) [] := hD0.pick (ws' := []) [] (by decide) rfl
    have hFc := AnA (ws := []) hS.1
    refine va_calli (va_runV (As := []) (rest := [.int 0, .int p0, .ref (g 301)]) ⟨hx, hb, hml, hown, ht⟩ (k_J0_length_8abf5_v3 l D g z0 _ a) (cwV 0 ht (gV w_400 w_402 w_403 w_394 w_401) rfl rfl rfl (by decide +kernel) (le2 rfl rfl)) ⟨PP.blind, vk_recv (i := 1) (hZ.m hAz).2.2.1 (by decide) hS, PP.mk' hK hZ hz hAz hS hPc hDc⟩ rfl rfl hl.1 rfl (lv_room (Nat.le_of_ble_eq_true rfl)) dJ0_indexOf_7cf53_14 (le2 rfl rfl)) hS (fun q _ h => hFc q h) hFc (fun r u t H locs ht1 hvm hw hB hz1 hk1 hS => ?_)
    obtain ⟨rfl, hw⟩ := hw
    have hPc : va_P D vwCl [] _ := (ro0 hP0 hS).sub (ws' := []) [] rfl
    have hDc : va_D (fun q => z0 ≤ q) [] := hD0.pick (ws' := []) [] (by decide) rfl
    have hFc := AnA (ws := []) hS.1
    refine va_calli (va_runS (As := [.ref (g 301), .int p0, .int 0, .int 5]) (rest := []) ⟨hx, hb, hml, hown, ht⟩ (k_J1_indexOf_4cfef_v2 l D g z0 _ a p0) (va_cwS 4 ht (gS w_418 w_420 w_407 w_419) rfl rfl rfl (by decide +kernel) (le2 rfl rfl)) ⟨PP.blind, PP.mk' hK hZ hz hAz hS hPc hDc⟩ rfl rfl hl.1 rfl (lv_room (Nat.le_of_ble_eq_true rfl)) dJ0_indexOf_7cf53_17 (le2 rfl rfl)) hS (fun q _ h => hFc q h) hFc (fun r u t H locs ht1 hvm hw hB hz1 hk1 hS => ?_)
    rcases hw with hw | hw | hw | hw | hw | hw
    · obtain ⟨rfl, hw⟩ := hw
      rcases hw with hw | hw | hw
      · have c_2 := hw
        refine lv_goto (tgt := 36) hx hb dJ0_indexOf_7cf53_20 (by decide) ?_
        refine W.widen (k := 0) (n := 0) (Nat.le_of_ble_eq_true rfl) (Nat.le_of_ble_eq_true rfl) ?_
        exact W.iret (v := (-1)) hx hb hr (fun t ht9 hW9 => ⟨⟨(-1), (), rfl, (Or.inl ⟨rfl, (Or.inl c_2)⟩), trivial⟩, hS.F ht9⟩) hS.2.2 dJ0_indexOf_7cf53_36 hlocks
      · obtain ⟨c_3, c_4⟩ := hw
        refine lv_goto (tgt := 36) hx hb dJ0_indexOf_7cf53_20 (by decide) ?_
        refine W.widen (k := 0) (n := 0) (Nat.le_of_ble_eq_true rfl) (Nat.le_of_ble_eq_true rfl) ?_
        exact W.iret (v := (-1)) hx hb hr (fun t ht9 hW9 => ⟨⟨(-1), (), rfl, (Or.inl ⟨rfl, (Or.inr (Or.inl ⟨c_3, c_4⟩))⟩), trivial⟩, hS.F ht9⟩) hS.2.2 dJ0_indexOf_7cf53_36 hlocks
      · obtain ⟨c_5, c_6, c_7, c_8, c_9, c_10, c_11⟩ := hw
        refine lv_goto (tgt := 36) hx hb dJ0_indexOf_7cf53_20 (by decide) ?_
        refine W.widen (k := 0) (n := 0) (Nat.le_of_ble_eq_true rfl) (Nat.le_of_ble_eq_true rfl) ?_
        exact W.iret (v := (-1)) hx hb hr (fun t ht9 hW9 => ⟨⟨(-1), (), rfl, (Or.inl ⟨rfl, (Or.inr (Or.inr ⟨c_5, c_6, c_7, c_8, c_9, c_10, c_11⟩))⟩), trivial⟩, hS.F ht9⟩) hS.2.2 dJ0_indexOf_7cf53_36 hlocks
    · obtain ⟨rfl, hw⟩ := hw
      obtain ⟨c_12, c_13, c_14, c_15, c_16, c_17, c_18⟩ := hw
      refine lv_goto (tgt := 36) hx hb dJ0_indexOf_7cf53_20 (by decide) ?_
      refine W.widen (k := 0) (n := 0) (Nat.le_of_ble_eq_true rfl) (Nat.le_of_ble_eq_true rfl) ?_
      exact W.iret (v := 4) hx hb hr (fun t ht9 hW9 => ⟨⟨4, (), rfl, (Or.inr (Or.inl ⟨rfl, ⟨c_12, c_13, c_14, c_15, c_16, c_17, c_18⟩⟩)), trivial⟩, hS.F ht9⟩) hS.2.2 dJ0_indexOf_7cf53_36 hlocks
    · obtain ⟨rfl, hw⟩ := hw
      obtain ⟨c_19, c_20, c_21, c_22, c_23, c_24⟩ := hw
      refine lv_goto (tgt := 36) hx hb dJ0_indexOf_7cf53_20 (by decide) ?_
      refine W.widen (k := 0) (n := 0) (Nat.le_of_ble_eq_true rfl) (Nat.le_of_ble_eq_true rfl) ?_
      exact W.iret (v := 3) hx hb hr (fun t ht9 hW9 => ⟨⟨3, (), rfl, (Or.inr (Or.inr (Or.inl ⟨rfl, ⟨c_19, c_20, c_21, c_22, c_23, c_24⟩⟩))), trivial⟩, hS.F ht9⟩) hS.2.2 dJ0_indexOf_7cf53_36 hlocks
    · obtain ⟨rfl, hw⟩ := hw
      obtain ⟨c_25, c_26, c_27, c_28, c_29⟩ := hw
      refine lv_goto (tgt := 36) hx hb dJ0_indexOf_7cf53_20 (by decide) ?_
      refine W.widen (k := 0) (n := 0) (Nat.le_of_ble_eq_true rfl) (Nat.le_of_ble_eq_true rfl) ?_
      exact W.iret (v := 2) hx hb hr (fun t ht9 hW9 => ⟨⟨2, (), rfl, (Or.inr (Or.inr (Or.inr (Or.inl ⟨rfl, ⟨c_25, c_26, c_27, c_28, c_29⟩⟩)))), trivial⟩, hS.F ht9⟩) hS.2.2 dJ0_indexOf_7cf53_36 hlocks
    · obtain ⟨rfl, hw⟩ := hw
      obtain ⟨c_30, c_31, c_32, c_33⟩ := hw
      refine lv_goto (tgt := 36) hx hb dJ0_indexOf_7cf53_20 (by decide) ?_
      refine W.widen (k := 0) (n := 0) (Nat.le_of_ble_eq_true rfl) (Nat.le_of_ble_eq_true rfl) ?_
      exact W.iret (v := 1) hx hb hr (fun t ht9 hW9 => ⟨⟨1, (), rfl, (Or.inr (Or.inr (Or.inr (Or.inr (Or.inl ⟨rfl, ⟨c_30, c_31, c_32, c_33⟩⟩))))), trivial⟩, hS.F ht9⟩) hS.2.2 dJ0_indexOf_7cf53_36 hlocks
    · obtain ⟨rfl, hw⟩ := hw
      obtain ⟨c_34, c_35, c_36⟩ := hw
      refine lv_goto (tgt := 36) hx hb dJ0_indexOf_7cf53_20 (by decide) ?_
      refine W.widen (k := 0) (n := 0) (Nat.le_of_ble_eq_true rfl) (Nat.le_of_ble_eq_true rfl) ?_
      exact W.iret (v := 0) hx hb hr (fun t ht9 hW9 => ⟨⟨0, (), rfl, (Or.inr (Or.inr (Or.inr (Or.inr (Or.inr ⟨rfl, ⟨c_34, c_35, c_36⟩⟩))))), trivial⟩, hS.F ht9⟩) hS.2.2 dJ0_indexOf_7cf53_36 hlocks
set_option maxHeartbeats 4000000 in
set_option maxRecDepth 100000 in
theorem k_J0_indexOf_0f7a4_v2 (l : Launch) (D : va_G) (g : Nat → ClassId) (z0 sz : Nat) (a : Nat → Nat) (p0 : Int32) : Met l yJ0_indexOf_0f7a4 (.code yJ0_indexOf_0f7a4 cJ0_indexOf_0f7a4 2 (some .int) :: TG) (rmk 3 0 0 70) (va_Pc [.ref (g 201), .int p0] (PP D g z0 sz [])) (va_Qi (fun (r : Int32) (u : Unit) => ((r = (-1)) ∧ (((¬ p0 = 97) ∧ (¬ p0 = 111) ∧ (¬ p0 = 110) ∧ (¬ p0 = 114) ∧ (¬ p0 = 120)) ∨ ((¬ p0 = 97) ∧ (¬ p0 = 111) ∧ (¬ p0 = 110) ∧ (¬ p0 = 114) ∧ (¬ p0 = 120)) ∨ ((¬ p0 = 97) ∧ (¬ p0 = 111) ∧ (¬ p0 = 110) ∧ (¬ p0 = 114) ∧ (¬ p0 = 120)))) ∨ ((r = 4) ∧ (p0 = 120)) ∨ ((r = 3) ∧ (p0 = 114)) ∨ ((r = 2) ∧ (p0 = 110)) ∨ ((r = 1) ∧ (p0 = 111)) ∨ ((r = 0) ∧ (p0 = 97))) (fun (_ : Unit) (_ : State) => True) (va_A [] sz)) 0 0 (va_A [] sz) := by
  refine met0 (cc := cJ0_indexOf_0f7a4) (n := 2) (by decide) (Nat.le_of_ble_eq_true rfl) ?_
  intro p e s m args below meth c hx hb hr hml hown ht hlocks hnm hP0 hD0 hK hZ hsz hz ls hl
  subst hsz
  have hA : ∀ q : Nat, s.heap.size ≤ q → va_A [] s.heap.size q := Anw
  have hAz : ∀ q, va_A [] s.heap.size q → z0 ≤ q := A0z hz
  have hS : va_S (va_A [] s.heap.size) s.heap s.heap [] := va_S.rf
  have hl : lv_has ls 2 [(0, .ref (g 201)), (1, .int p0)] := hl
  refine lv_aload_n hx hb dJ0_indexOf_0f7a4_0 rfl (lv_at hl 0 rfl) ?_
  refine lv_iload_n hx hb dJ0_indexOf_0f7a4_1 rfl (lv_at hl 1 rfl) ?_
  refine lv_iconst (v := 0) hx hb dJ0_indexOf_0f7a4_2 (by decide) ?_
  have hPc : va_P D vwCl [] _ := (ro0 hP0 hS).sub (ws' := []) [] rfl
  have hDc : va_D (fun q => z0 ≤ q) [] := hD0.pick (ws' := []) [] (by decide) rfl
  have hFc := AnA (ws := []) hS.1
  refine va_calli (va_runV (As := [.int p0, .int 0]) (rest := []) ⟨hx, hb, hml, hown, ht⟩ (k_J0_indexOf_7cf53_v2 l D g z0 _ a p0) (cwV 2 ht (gV w_421 w_423 w_424 w_394 w_422) rfl rfl rfl (by decide +kernel) (le2 rfl rfl)) ⟨PP.blind, vk_recv (i := 1) (hZ.m hAz).2.2.1 (by decide) hS, PP.mk' hK hZ hz hAz hS hPc hDc⟩ rfl rfl hl.1 rfl (lv_room (Nat.le_of_ble_eq_true rfl)) dJ0_indexOf_0f7a4_3 (le2 rfl rfl)) hS (fun q _ h => hFc q h) hFc (fun r u t H locs ht1 hvm hw hB hz1 hk1 hS => ?_)
  rcases hw with hw | hw | hw | hw | hw | hw
  · obtain ⟨rfl, hw⟩ := hw
    rcases hw with hw | hw | hw
    · have c_1 := hw
      refine W.widen (k := 0) (n := 0) (Nat.le_of_ble_eq_true rfl) (Nat.le_of_ble_eq_true rfl) ?_
      exact W.iret (v := (-1)) hx hb hr (fun t ht9 hW9 => ⟨⟨(-1), (), rfl, (Or.inl ⟨rfl, (Or.inl ⟨(fun h9 => absurd (h9 ▸ c_1) (by decide)), (fun h9 => absurd (h9 ▸ c_1) (by decide)), (fun h9 => absurd (h9 ▸ c_1) (by decide)), (fun h9 => absurd (h9 ▸ c_1) (by decide)), (fun h9 => absurd (h9 ▸ c_1) (by decide))⟩)⟩), trivial⟩, hS.F ht9⟩) hS.2.2 dJ0_indexOf_0f7a4_6 hlocks
    · obtain ⟨c_2, c_3⟩ := hw
      refine W.widen (k := 0) (n := 0) (Nat.le_of_ble_eq_true rfl) (Nat.le_of_ble_eq_true rfl) ?_
      exact W.iret (v := (-1)) hx hb hr (fun t ht9 hW9 => ⟨⟨(-1), (), rfl, (Or.inl ⟨rfl, (Or.inl ⟨(fun h9 => absurd (h9 ▸ c_3) (by decide)), (fun h9 => absurd (h9 ▸ c_3) (by decide)), (fun h9 => absurd (h9 ▸ c_3) (by decide)), (fun h9 => absurd (h9 ▸ c_3) (by decide)), (fun h9 => absurd (h9 ▸ c_3) (by decide))⟩)⟩), trivial⟩, hS.F ht9⟩) hS.2.2 dJ0_indexOf_0f7a4_6 hlocks
    · obtain ⟨c_4, c_5, c_6, c_7, c_8, c_9, c_10⟩ := hw
      refine W.widen (k := 0) (n := 0) (Nat.le_of_ble_eq_true rfl) (Nat.le_of_ble_eq_true rfl) ?_
      exact W.iret (v := (-1)) hx hb hr (fun t ht9 hW9 => ⟨⟨(-1), (), rfl, (Or.inl ⟨rfl, (Or.inl ⟨(fun h9 => c_6 (by rw [h9]; decide)), (fun h9 => c_7 (by rw [h9]; decide)), (fun h9 => c_8 (by rw [h9]; decide)), (fun h9 => c_9 (by rw [h9]; decide)), (fun h9 => c_10 (by rw [h9]; decide))⟩)⟩), trivial⟩, hS.F ht9⟩) hS.2.2 dJ0_indexOf_0f7a4_6 hlocks
  · obtain ⟨rfl, hw⟩ := hw
    obtain ⟨c_11, c_12, c_13, c_14, c_15, c_16, c_17⟩ := hw
    refine W.widen (k := 0) (n := 0) (Nat.le_of_ble_eq_true rfl) (Nat.le_of_ble_eq_true rfl) ?_
    exact W.iret (v := 4) hx hb hr (fun t ht9 hW9 => ⟨⟨4, (), rfl, (Or.inr (Or.inl ⟨rfl, (ix_eq (n := 120) c_11 c_12 (by decide) c_17)⟩)), trivial⟩, hS.F ht9⟩) hS.2.2 dJ0_indexOf_0f7a4_6 hlocks
  · obtain ⟨rfl, hw⟩ := hw
    obtain ⟨c_18, c_19, c_20, c_21, c_22, c_23⟩ := hw
    refine W.widen (k := 0) (n := 0) (Nat.le_of_ble_eq_true rfl) (Nat.le_of_ble_eq_true rfl) ?_
    exact W.iret (v := 3) hx hb hr (fun t ht9 hW9 => ⟨⟨3, (), rfl, (Or.inr (Or.inr (Or.inl ⟨rfl, (ix_eq (n := 114) c_18 c_19 (by decide) c_23)⟩))), trivial⟩, hS.F ht9⟩) hS.2.2 dJ0_indexOf_0f7a4_6 hlocks
  · obtain ⟨rfl, hw⟩ := hw
    obtain ⟨c_24, c_25, c_26, c_27, c_28⟩ := hw
    refine W.widen (k := 0) (n := 0) (Nat.le_of_ble_eq_true rfl) (Nat.le_of_ble_eq_true rfl) ?_
    exact W.iret (v := 2) hx hb hr (fun t ht9 hW9 => ⟨⟨2, (), rfl, (Or.inr (Or.inr (Or.inr (Or.inl ⟨rfl, (ix_eq (n := 110) c_24 c_25 (by decide) c_28)⟩)))), trivial⟩, hS.F ht9⟩) hS.2.2 dJ0_indexOf_0f7a4_6 hlocks
  · obtain ⟨rfl, hw⟩ := hw
    obtain ⟨c_29, c_30, c_31, c_32⟩ := hw
    refine W.widen (k := 0) (n := 0) (Nat.le_of_ble_eq_true rfl) (Nat.le_of_ble_eq_true rfl) ?_
    exact W.iret (v := 1) hx hb hr (fun t ht9 hW9 => ⟨⟨1, (), rfl, (Or.inr (Or.inr (Or.inr (Or.inr (Or.inl ⟨rfl, (ix_eq (n := 111) c_29 c_30 (by decide) c_32)⟩))))), trivial⟩, hS.F ht9⟩) hS.2.2 dJ0_indexOf_0f7a4_6 hlocks
  · obtain ⟨rfl, hw⟩ := hw
    obtain ⟨c_33, c_34, c_35⟩ := hw
    refine W.widen (k := 0) (n := 0) (Nat.le_of_ble_eq_true rfl) (Nat.le_of_ble_eq_true rfl) ?_
    exact W.iret (v := 0) hx hb hr (fun t ht9 hW9 => ⟨⟨0, (), rfl, (Or.inr (Or.inr (Or.inr (Or.inr (Or.inr ⟨rfl, (ix_eq (n := 97) c_33 c_34 (by decide) c_35)⟩))))), trivial⟩, hS.F ht9⟩) hS.2.2 dJ0_indexOf_0f7a4_6 hlocks
set_option maxHeartbeats 4000000 in
set_option maxRecDepth 100000 in
theorem k_X15_gate (l : Launch) (D : va_G) (g : Nat → ClassId) (z0 sz : Nat) (a : Nat → Nat) (p0 : Int32) (p1 : Int32) (p2 : Int32) (hc_p0 : isC p0) : Met l yX15_gate (.code yX15_gate cX15_gate 6 (some .int) :: TG) (rmk 4 0 0 91) (va_Pc [.ref (a 200), .int p0, .int p1, .int p2] (PP D g z0 sz [((a 200), f_m a g), ((a 201), .inr (5, [.int 0, .ref (g 100), .int 0]))])) (va_Qi (fun (r : Int32) (u : Int32) => ((r = 0) ∧ (u = 2) ∧ ((p0 = 98) ∨ ((¬ p0 = 98) ∧ (¬ p0 = 118) ∧ (p0 = 120)) ∨ ((¬ p0 = 98) ∧ (¬ p0 = 118) ∧ (p0 = 114)) ∨ ((¬ p0 = 98) ∧ (¬ p0 = 118) ∧ (p0 = 110)) ∨ ((¬ p0 = 98) ∧ (¬ p0 = 118) ∧ (p0 = 111)) ∨ ((¬ p0 = 98) ∧ (¬ p0 = 118) ∧ (p0 = 97)) ∨ ((¬ p0 = 98) ∧ (p0 = 118)))) ∨ ((r = 0) ∧ (u = 1) ∧ (((¬ p0 = 98) ∧ (¬ p0 = 118) ∧ (¬ p0 = 97) ∧ (¬ p0 = 111) ∧ (¬ p0 = 110) ∧ (¬ p0 = 114) ∧ (¬ p0 = 120)) ∨ ((¬ p0 = 98) ∧ (¬ p0 = 118) ∧ (¬ p0 = 97) ∧ (¬ p0 = 111) ∧ (¬ p0 = 110) ∧ (¬ p0 = 114) ∧ (¬ p0 = 120)) ∨ ((¬ p0 = 98) ∧ (¬ p0 = 118) ∧ (¬ p0 = 97) ∧ (¬ p0 = 111) ∧ (¬ p0 = 110) ∧ (¬ p0 = 114) ∧ (¬ p0 = 120))))) (fun (u : Int32) (t : State) => va_P D vwCl [((a 200), .inr (21, [.int u, .ref (a 201), .ref (a 202), .ref (a 203), .ref (a 204), .ref (a 205), .ref (a 206), .int 0, .int 0, .int 0, .int 0, .ref (a 208), .ref (a 209), .ref (a 210), .ref (a 211), .ref (a 212), .int 4, .int 12, .int (-1), .int 0, .ref (g 200), .ref (a 213), .int 0, .int 97, .ref (a 214), .ref (a 215), .ref (a 207), .null, .int 0]))] t.heap ∧ va_D (va_A [((a 200), f_m a g), ((a 201), .inr (5, [.int 0, .ref (g 100), .int 0]))] sz) [((a 200), .inr (21, [.int u, .ref (a 201), .ref (a 202), .ref (a 203), .ref (a 204), .ref (a 205), .ref (a 206), .int 0, .int 0, .int 0, .int 0, .ref (a 208), .ref (a 209), .ref (a 210), .ref (a 211), .ref (a 212), .int 4, .int 12, .int (-1), .int 0, .ref (g 200), .ref (a 213), .int 0, .int 97, .ref (a 214), .ref (a 215), .ref (a 207), .null, .int 0]))]) (va_A [((a 200), f_m a g), ((a 201), .inr (5, [.int 0, .ref (g 100), .int 0]))] sz)) 0 0 (va_A [((a 200), f_m a g), ((a 201), .inr (5, [.int 0, .ref (g 100), .int 0]))] sz) := by
  refine met0 (cc := cX15_gate) (n := 6) (by decide) (Nat.le_of_ble_eq_true rfl) ?_
  intro p e s m args below meth c hx hb hr hml hown ht hlocks hnm hP0 hD0 hK hZ hsz hz ls hl
  subst hsz
  have hA : ∀ q : Nat, s.heap.size ≤ q → va_A [((a 200), f_m a g), ((a 201), .inr (5, [.int 0, .ref (g 100), .int 0]))] s.heap.size q := Anw
  have hAz : ∀ q, va_A [((a 200), f_m a g), ((a 201), .inr (5, [.int 0, .ref (g 100), .int 0]))] s.heap.size q → z0 ≤ q := Awz hz hD0
  have hS : va_S (va_A [((a 200), f_m a g), ((a 201), .inr (5, [.int 0, .ref (g 100), .int 0]))] s.heap.size) s.heap s.heap [] := va_S.rf
  have hD : va_D (va_A [((a 200), f_m a g), ((a 201), .inr (5, [.int 0, .ref (g 100), .int 0]))] s.heap.size) [((a 200), f_m a g), ((a 201), .inr (5, [.int 0, .ref (g 100), .int 0]))] := hD0.self
  have hP : va_P D vwCl [((a 200), f_m a g), ((a 201), .inr (5, [.int 0, .ref (g 100), .int 0]))] s.heap := hP0
  have hl : lv_has ls 6 [(0, .ref (a 200)), (1, .int p0), (2, .int p1), (3, .int p2)] := hl
  refine lv_iload_n hx hb dX15_gate_0 rfl (lv_at hl 1 rfl) ?_
  refine lv_bipush (v := 98) hx hb dX15_gate_1 (by decide) ?_
  refine lv_icmp_eq (tgt := 12) hx hb dX15_gate_3 (by decide) (fun c_1 => ?_) (fun c_1 => ?_)
  · refine lv_iconst (v := 1) hx hb dX15_gate_12 (by decide) ?_
    refine lv_goto (tgt := 17) hx hb dX15_gate_13 (by decide) ?_
    refine lv_istore (lv' := [(4, .int 1), (0, .ref (a 200)), (1, .int p0), (2, .int p1), (3, .int p2)]) hx hb dX15_gate_17 hl (by decide) rfl (fun ls hl => ?_)
    refine lv_iload hx hb dX15_gate_19 (lv_at hl 0 rfl) ?_
    refine lv_if_ne (tgt := 33) hx hb dX15_gate_21 (by decide) (fun c_2 => ?_) (fun c_2 => ?_)
    · refine lv_iconst (v := 1) hx hb dX15_gate_33 (by decide) ?_
      refine lv_goto (tgt := 38) hx hb dX15_gate_34 (by decide) ?_
      refine lv_istore (lv' := [(5, .int 1), (4, .int 1), (0, .ref (a 200)), (1, .int p0), (2, .int p1), (3, .int p2)]) hx hb dX15_gate_38 hl (by decide) rfl (fun ls hl => ?_)
      refine lv_aload_n hx hb dX15_gate_40 rfl (lv_at hl 2 rfl) ?_
      refine lv_iload hx hb dX15_gate_41 (lv_at hl 0 rfl) ?_
      refine lv_if_ne (tgt := 50) hx hb dX15_gate_43 (by decide) (fun c_3 => ?_) (fun c_3 => ?_)
      · refine lv_aload_n hx hb dX15_gate_50 rfl (lv_at hl 2 rfl) ?_
        refine lv_iload_n hx hb dX15_gate_51 rfl (lv_at hl 4 rfl) ?_
        have hPc : va_P D vwCl [((a 200), f_m a g), ((a 201), .inr (5, [.int 0, .ref (g 100), .int 0]))] _ := hP.sub (ws' := [((a 200), f_m a g), ((a 201), .inr (5, [.int 0, .ref (g 100), .int 0]))]) [0, 1] rfl
        have hDc : va_D (fun q => z0 ≤ q) [((a 200), f_m a g), ((a 201), .inr (5, [.int 0, .ref (g 100), .int 0]))] := (hD.to hAz).pick (ws' := [((a 200), f_m a g), ((a 201), .inr (5, [.int 0, .ref (g 100), .int 0]))]) [0, 1] (by decide) rfl
        have hFc := AnA (ws := [((a 200), f_m a g), ((a 201), .inr (5, [.int 0, .ref (g 100), .int 0]))]) hS.1
        refine va_calli (va_runV (As := [.int p1]) (rest := [.ref (a 200)]) ⟨hx, hb, hml, hown, ht⟩ (k_X15_isLine l D g z0 _ a p1) (cwV 1 ht (gV w_429 w_431 w_432 w_334 w_430) rfl rfl rfl (by decide +kernel) (le2 rfl rfl)) ⟨PP.blind, va_recv hK.1 hP (ci := 21) (q0 := 0) rfl rfl, PP.mk' hK hZ hz hAz hS hPc hDc⟩ rfl rfl hl.1 rfl (lv_room (Nat.le_of_ble_eq_true rfl)) dX15_gate_52 (le2 rfl rfl)) hS (fun q _ h => hFc q h) hFc (fun r u t H locs ht1 hvm hw hB hz1 hk1 hS => ?_)
        obtain ⟨rfl, hw⟩ := hw
        have hP := ro1 hP hk1
        refine lv_if_eq (tgt := 71) hx hb dX15_gate_55 (by decide) (fun c_4 => ?_) (fun c_4 => ?_)
        · refine lv_iconst (v := 2) hx hb dX15_gate_71 (by decide) ?_
          refine lv_goto (tgt := 105) hx hb dX15_gate_72 (by decide) ?_
          have hPc : va_P D vwCl [((a 200), f_m a g)] _ := hP.sub (ws' := [((a 200), f_m a g)]) [0] rfl
          have hDc : va_D (fun q => z0 ≤ q) [((a 200), f_m a g)] := (hD.to hAz).pick (ws' := [((a 200), f_m a g)]) [0] (by decide) rfl
          have hFc := va_free (wc := [((a 200), f_m a g)]) hD hS hA [0] rfl
          refine va_calli (va_runV (As := [.int 2]) (rest := []) ⟨hx, hb, hml, hown, ht⟩ (k_X15_isWrong_v2 l D g z0 _ a) (cwV 1 ht (gV w_376 w_378 w_379 w_334 w_377) rfl rfl rfl (by decide +kernel) (le2 rfl rfl)) ⟨PP.blind, va_recv hK.1 hP (ci := 21) (q0 := 0) rfl rfl, PP.mk' hK hZ hz hAz hS hPc hDc⟩ rfl rfl hl.1 rfl (lv_room (Nat.le_of_ble_eq_true rfl)) dX15_gate_105 (le2 rfl rfl)) hS (fun q _ h => hFc q h) hFc (fun r u t H locs ht1 hvm hw hB hz1 hk1 hS => ?_)
          obtain ⟨rfl, hw⟩ := hw
          obtain ⟨hP1, hD1⟩ := hB
          rw [ht1] at hP1
          obtain ⟨hP, hD⟩ := va_join (wr := [((a 201), .inr (5, [.int 0, .ref (g 100), .int 0]))]) (w1 := [((a 200), .inr (21, [.int 2, .ref (a 201), .ref (a 202), .ref (a 203), .ref (a 204), .ref (a 205), .ref (a 206), .int 0, .int 0, .int 0, .int 0, .ref (a 208), .ref (a 209), .ref (a 210), .ref (a 211), .ref (a 212), .int 4, .int 12, .int (-1), .int 0, .ref (g 200), .ref (a 213), .int 0, .int 97, .ref (a 214), .ref (a 215), .ref (a 207), .null, .int 0]))]) hP hD [0] [1] rfl rfl (by decide) (by decide) hk1 hFc hP1 hD1
          have hP : va_P D vwCl [((a 201), .inr (5, [.int 0, .ref (g 100), .int 0])), ((a 200), .inr (21, [.int 2, .ref (a 201), .ref (a 202), .ref (a 203), .ref (a 204), .ref (a 205), .ref (a 206), .int 0, .int 0, .int 0, .int 0, .ref (a 208), .ref (a 209), .ref (a 210), .ref (a 211), .ref (a 212), .int 4, .int 12, .int (-1), .int 0, .ref (g 200), .ref (a 213), .int 0, .int 97, .ref (a 214), .ref (a 215), .ref (a 207), .null, .int 0]))] H := hP
          have hD : va_D (va_A [((a 200), f_m a g), ((a 201), .inr (5, [.int 0, .ref (g 100), .int 0]))] s.heap.size) [((a 201), .inr (5, [.int 0, .ref (g 100), .int 0])), ((a 200), .inr (21, [.int 2, .ref (a 201), .ref (a 202), .ref (a 203), .ref (a 204), .ref (a 205), .ref (a 206), .int 0, .int 0, .int 0, .int 0, .ref (a 208), .ref (a 209), .ref (a 210), .ref (a 211), .ref (a 212), .int 4, .int 12, .int (-1), .int 0, .ref (g 200), .ref (a 213), .int 0, .int 97, .ref (a 214), .ref (a 215), .ref (a 207), .null, .int 0]))] := hD
          refine lv_if_eq (tgt := 113) hx hb dX15_gate_108 (by decide) (fun c_5 => ?_) (fun c_5 => ?_)
          · exact absurd c_5 (by decide)
          · refine lv_iconst (v := 0) hx hb dX15_gate_111 (by decide) ?_
            have hP9 := hP.sub (ws' := [((a 200), .inr (21, [.int 2, .ref (a 201), .ref (a 202), .ref (a 203), .ref (a 204), .ref (a 205), .ref (a 206), .int 0, .int 0, .int 0, .int 0, .ref (a 208), .ref (a 209), .ref (a 210), .ref (a 211), .ref (a 212), .int 4, .int 12, .int (-1), .int 0, .ref (g 200), .ref (a 213), .int 0, .int 97, .ref (a 214), .ref (a 215), .ref (a 207), .null, .int 0]))]) [1] rfl
            have hD9 := hD.sub (ws' := [((a 200), .inr (21, [.int 2, .ref (a 201), .ref (a 202), .ref (a 203), .ref (a 204), .ref (a 205), .ref (a 206), .int 0, .int 0, .int 0, .int 0, .ref (a 208), .ref (a 209), .ref (a 210), .ref (a 211), .ref (a 212), .int 4, .int 12, .int (-1), .int 0, .ref (g 200), .ref (a 213), .int 0, .int 97, .ref (a 214), .ref (a 215), .ref (a 207), .null, .int 0]))]) [1] (by decide) rfl
            refine W.widen (k := 0) (n := 0) (Nat.le_of_ble_eq_true rfl) (Nat.le_of_ble_eq_true rfl) ?_
            exact W.iret (v := 0) hx hb hr (fun t ht9 hW9 => ⟨⟨0, 2, rfl, (Or.inl ⟨rfl, rfl, (Or.inl c_1)⟩), ⟨(by rw [ht9]; exact hP9), hD9⟩⟩, hS.F ht9⟩) hS.2.2 dX15_gate_112 hlocks
        · exact absurd c_4 (by decide)
      · exact absurd c_3 (by decide)
    · exact absurd c_2 (by decide)
  · refine lv_iload_n hx hb dX15_gate_6 rfl (lv_at hl 1 rfl) ?_
    refine lv_bipush (v := 118) hx hb dX15_gate_7 (by decide) ?_
    refine lv_icmp_ne (tgt := 16) hx hb dX15_gate_9 (by decide) (fun c_6 => ?_) (fun c_6 => ?_)
    · refine lv_iconst (v := 0) hx hb dX15_gate_16 (by decide) ?_
      refine lv_istore (lv' := [(4, .int 0), (0, .ref (a 200)), (1, .int p0), (2, .int p1), (3, .int p2)]) hx hb dX15_gate_17 hl (by decide) rfl (fun ls hl => ?_)
      refine lv_iload hx hb dX15_gate_19 (lv_at hl 0 rfl) ?_
      refine lv_if_ne (tgt := 33) hx hb dX15_gate_21 (by decide) (fun c_7 => ?_) (fun c_7 => ?_)
      · exact absurd c_7 (by decide)
      · refine va_ldcS (index := 132) (tx := "aonrx") (q := g 201) hx hb hown (hK.2.2.2.2.2.2.1 1 (by decide)) dX15_gate_24 ?_
        refine lv_iload_n hx hb dX15_gate_26 rfl (lv_at hl 2 rfl) ?_
        have hPc : va_P D vwCl [] _ := hP.sub (ws' := []) [] rfl
        have hDc : va_D (fun q => z0 ≤ q) [] := (hD.to hAz).pick (ws' := []) [] (by decide) rfl
        have hFc := AnA (ws := [((a 200), f_m a g), ((a 201), .inr (5, [.int 0, .ref (g 100), .int 0]))]) hS.1
        refine va_calli (va_runV (As := [.int p0]) (rest := []) ⟨hx, hb, hml, hown, ht⟩ (k_J0_indexOf_0f7a4_v2 l D g z0 _ a p0) (cwV 1 ht (gV w_425 w_427 w_428 w_394 w_426) rfl rfl rfl (by decide +kernel) (le2 rfl rfl)) ⟨PP.blind, vk_recv (i := 1) (hZ.m hAz).2.2.1 (by decide) hS, PP.mk' hK hZ hz hAz hS hPc hDc⟩ rfl rfl hl.1 rfl (lv_room (Nat.le_of_ble_eq_true rfl)) dX15_gate_27 (le2 rfl rfl)) hS (fun q _ h => hFc q h) hFc (fun r u t H locs ht1 hvm hw hB hz1 hk1 hS => ?_)
        rcases hw with hw | hw | hw | hw | hw | hw
        · obtain ⟨rfl, hw⟩ := hw
          rcases hw with hw | hw | hw
          · obtain ⟨c_8, c_9, c_10, c_11, c_12⟩ := hw
            have hP := ro1 hP hk1
            refine lv_if_lt (tgt := 37) hx hb dX15_gate_30 (by decide) (fun c_13 => ?_) (fun c_13 => ?_)
            · refine lv_iconst (v := 0) hx hb dX15_gate_37 (by decide) ?_
              refine lv_istore (lv' := [(5, .int 0), (4, .int 0), (0, .ref (a 200)), (1, .int p0), (2, .int p1), (3, .int p2)]) hx hb dX15_gate_38 hl (by decide) rfl (fun ls hl => ?_)
              refine lv_aload_n hx hb dX15_gate_40 rfl (lv_at hl 2 rfl) ?_
              refine lv_iload hx hb dX15_gate_41 (lv_at hl 0 rfl) ?_
              refine lv_if_ne (tgt := 50) hx hb dX15_gate_43 (by decide) (fun c_14 => ?_) (fun c_14 => ?_)
              · exact absurd c_14 (by decide)
              · refine lv_iconst (v := 1) hx hb dX15_gate_46 (by decide) ?_
                refine lv_goto (tgt := 105) hx hb dX15_gate_47 (by decide) ?_
                have hPc : va_P D vwCl [((a 200), f_m a g)] _ := hP.sub (ws' := [((a 200), f_m a g)]) [0] rfl
                have hDc : va_D (fun q => z0 ≤ q) [((a 200), f_m a g)] := (hD.to hAz).pick (ws' := [((a 200), f_m a g)]) [0] (by decide) rfl
                have hFc := va_free (wc := [((a 200), f_m a g)]) hD hS hA [0] rfl
                refine va_calli (va_runV (As := [.int 1]) (rest := []) ⟨hx, hb, hml, hown, ht⟩ (k_X15_isWrong l D g z0 _ a) (cwV 1 ht (gV w_376 w_378 w_379 w_334 w_377) rfl rfl rfl (by decide +kernel) (le2 rfl rfl)) ⟨PP.blind, va_recv hK.1 hP (ci := 21) (q0 := 0) rfl rfl, PP.mk' hK hZ hz hAz hS hPc hDc⟩ rfl rfl hl.1 rfl (lv_room (Nat.le_of_ble_eq_true rfl)) dX15_gate_105 (le2 rfl rfl)) hS (fun q _ h => hFc q h) hFc (fun r u t H locs ht1 hvm hw hB hz1 hk1 hS => ?_)
                obtain ⟨rfl, hw⟩ := hw
                obtain ⟨hP1, hD1⟩ := hB
                rw [ht1] at hP1
                obtain ⟨hP, hD⟩ := va_join (wr := [((a 201), .inr (5, [.int 0, .ref (g 100), .int 0]))]) (w1 := [((a 200), .inr (21, [.int 1, .ref (a 201), .ref (a 202), .ref (a 203), .ref (a 204), .ref (a 205), .ref (a 206), .int 0, .int 0, .int 0, .int 0, .ref (a 208), .ref (a 209), .ref (a 210), .ref (a 211), .ref (a 212), .int 4, .int 12, .int (-1), .int 0, .ref (g 200), .ref (a 213), .int 0, .int 97, .ref (a 214), .ref (a 215), .ref (a 207), .null, .int 0]))]) hP hD [0] [1] rfl rfl (by decide) (by decide) hk1 hFc hP1 hD1
                have hP : va_P D vwCl [((a 201), .inr (5, [.int 0, .ref (g 100), .int 0])), ((a 200), .inr (21, [.int 1, .ref (a 201), .ref (a 202), .ref (a 203), .ref (a 204), .ref (a 205), .ref (a 206), .int 0, .int 0, .int 0, .int 0, .ref (a 208), .ref (a 209), .ref (a 210), .ref (a 211), .ref (a 212), .int 4, .int 12, .int (-1), .int 0, .ref (g 200), .ref (a 213), .int 0, .int 97, .ref (a 214), .ref (a 215), .ref (a 207), .null, .int 0]))] H := hP
                have hD : va_D (va_A [((a 200), f_m a g), ((a 201), .inr (5, [.int 0, .ref (g 100), .int 0]))] s.heap.size) [((a 201), .inr (5, [.int 0, .ref (g 100), .int 0])), ((a 200), .inr (21, [.int 1, .ref (a 201), .ref (a 202), .ref (a 203), .ref (a 204), .ref (a 205), .ref (a 206), .int 0, .int 0, .int 0, .int 0, .ref (a 208), .ref (a 209), .ref (a 210), .ref (a 211), .ref (a 212), .int 4, .int 12, .int (-1), .int 0, .ref (g 200), .ref (a 213), .int 0, .int 97, .ref (a 214), .ref (a 215), .ref (a 207), .null, .int 0]))] := hD
                refine lv_if_eq (tgt := 113) hx hb dX15_gate_108 (by decide) (fun c_15 => ?_) (fun c_15 => ?_)
                · exact absurd c_15 (by decide)
                · refine lv_iconst (v := 0) hx hb dX15_gate_111 (by decide) ?_
                  have hP9 := hP.sub (ws' := [((a 200), .inr (21, [.int 1, .ref (a 201), .ref (a 202), .ref (a 203), .ref (a 204), .ref (a 205), .ref (a 206), .int 0, .int 0, .int 0, .int 0, .ref (a 208), .ref (a 209), .ref (a 210), .ref (a 211), .ref (a 212), .int 4, .int 12, .int (-1), .int 0, .ref (g 200), .ref (a 213), .int 0, .int 97, .ref (a 214), .ref (a 215), .ref (a 207), .null, .int 0]))]) [1] rfl
                  have hD9 := hD.sub (ws' := [((a 200), .inr (21, [.int 1, .ref (a 201), .ref (a 202), .ref (a 203), .ref (a 204), .ref (a 205), .ref (a 206), .int 0, .int 0, .int 0, .int 0, .ref (a 208), .ref (a 209), .ref (a 210), .ref (a 211), .ref (a 212), .int 4, .int 12, .int (-1), .int 0, .ref (g 200), .ref (a 213), .int 0, .int 97, .ref (a 214), .ref (a 215), .ref (a 207), .null, .int 0]))]) [1] (by decide) rfl
                  refine W.widen (k := 0) (n := 0) (Nat.le_of_ble_eq_true rfl) (Nat.le_of_ble_eq_true rfl) ?_
                  exact W.iret (v := 0) hx hb hr (fun t ht9 hW9 => ⟨⟨0, 1, rfl, (Or.inr ⟨rfl, rfl, (Or.inl ⟨c_1, c_6, c_8, c_9, c_10, c_11, c_12⟩)⟩), ⟨(by rw [ht9]; exact hP9), hD9⟩⟩, hS.F ht9⟩) hS.2.2 dX15_gate_112 hlocks
            · exact absurd c_13 (by decide)
          · obtain ⟨c_16, c_17, c_18, c_19, c_20⟩ := hw
            have hP := ro1 hP hk1
            refine lv_if_lt (tgt := 37) hx hb dX15_gate_30 (by decide) (fun c_21 => ?_) (fun c_21 => ?_)
            · refine lv_iconst (v := 0) hx hb dX15_gate_37 (by decide) ?_
              refine lv_istore (lv' := [(5, .int 0), (4, .int 0), (0, .ref (a 200)), (1, .int p0), (2, .int p1), (3, .int p2)]) hx hb dX15_gate_38 hl (by decide) rfl (fun ls hl => ?_)
              refine lv_aload_n hx hb dX15_gate_40 rfl (lv_at hl 2 rfl) ?_
              refine lv_iload hx hb dX15_gate_41 (lv_at hl 0 rfl) ?_
              refine lv_if_ne (tgt := 50) hx hb dX15_gate_43 (by decide) (fun c_22 => ?_) (fun c_22 => ?_)
              · exact absurd c_22 (by decide)
              · refine lv_iconst (v := 1) hx hb dX15_gate_46 (by decide) ?_
                refine lv_goto (tgt := 105) hx hb dX15_gate_47 (by decide) ?_
                have hPc : va_P D vwCl [((a 200), f_m a g)] _ := hP.sub (ws' := [((a 200), f_m a g)]) [0] rfl
                have hDc : va_D (fun q => z0 ≤ q) [((a 200), f_m a g)] := (hD.to hAz).pick (ws' := [((a 200), f_m a g)]) [0] (by decide) rfl
                have hFc := va_free (wc := [((a 200), f_m a g)]) hD hS hA [0] rfl
                refine va_calli (va_runV (As := [.int 1]) (rest := []) ⟨hx, hb, hml, hown, ht⟩ (k_X15_isWrong l D g z0 _ a) (cwV 1 ht (gV w_376 w_378 w_379 w_334 w_377) rfl rfl rfl (by decide +kernel) (le2 rfl rfl)) ⟨PP.blind, va_recv hK.1 hP (ci := 21) (q0 := 0) rfl rfl, PP.mk' hK hZ hz hAz hS hPc hDc⟩ rfl rfl hl.1 rfl (lv_room (Nat.le_of_ble_eq_true rfl)) dX15_gate_105 (le2 rfl rfl)) hS (fun q _ h => hFc q h) hFc (fun r u t H locs ht1 hvm hw hB hz1 hk1 hS => ?_)
                obtain ⟨rfl, hw⟩ := hw
                obtain ⟨hP1, hD1⟩ := hB
                rw [ht1] at hP1
                obtain ⟨hP, hD⟩ := va_join (wr := [((a 201), .inr (5, [.int 0, .ref (g 100), .int 0]))]) (w1 := [((a 200), .inr (21, [.int 1, .ref (a 201), .ref (a 202), .ref (a 203), .ref (a 204), .ref (a 205), .ref (a 206), .int 0, .int 0, .int 0, .int 0, .ref (a 208), .ref (a 209), .ref (a 210), .ref (a 211), .ref (a 212), .int 4, .int 12, .int (-1), .int 0, .ref (g 200), .ref (a 213), .int 0, .int 97, .ref (a 214), .ref (a 215), .ref (a 207), .null, .int 0]))]) hP hD [0] [1] rfl rfl (by decide) (by decide) hk1 hFc hP1 hD1
                have hP : va_P D vwCl [((a 201), .inr (5, [.int 0, .ref (g 100), .int 0])), ((a 200), .inr (21, [.int 1, .ref (a 201), .ref (a 202), .ref (a 203), .ref (a 204), .ref (a 205), .ref (a 206), .int 0, .int 0, .int 0, .int 0, .ref (a 208), .ref (a 209), .ref (a 210), .ref (a 211), .ref (a 212), .int 4, .int 12, .int (-1), .int 0, .ref (g 200), .ref (a 213), .int 0, .int 97, .ref (a 214), .ref (a 215), .ref (a 207), .null, .int 0]))] H := hP
                have hD : va_D (va_A [((a 200), f_m a g), ((a 201), .inr (5, [.int 0, .ref (g 100), .int 0]))] s.heap.size) [((a 201), .inr (5, [.int 0, .ref (g 100), .int 0])), ((a 200), .inr (21, [.int 1, .ref (a 201), .ref (a 202), .ref (a 203), .ref (a 204), .ref (a 205), .ref (a 206), .int 0, .int 0, .int 0, .int 0, .ref (a 208), .ref (a 209), .ref (a 210), .ref (a 211), .ref (a 212), .int 4, .int 12, .int (-1), .int 0, .ref (g 200), .ref (a 213), .int 0, .int 97, .ref (a 214), .ref (a 215), .ref (a 207), .null, .int 0]))] := hD
                refine lv_if_eq (tgt := 113) hx hb dX15_gate_108 (by decide) (fun c_23 => ?_) (fun c_23 => ?_)
                · exact absurd c_23 (by decide)
                · refine lv_iconst (v := 0) hx hb dX15_gate_111 (by decide) ?_
                  have hP9 := hP.sub (ws' := [((a 200), .inr (21, [.int 1, .ref (a 201), .ref (a 202), .ref (a 203), .ref (a 204), .ref (a 205), .ref (a 206), .int 0, .int 0, .int 0, .int 0, .ref (a 208), .ref (a 209), .ref (a 210), .ref (a 211), .ref (a 212), .int 4, .int 12, .int (-1), .int 0, .ref (g 200), .ref (a 213), .int 0, .int 97, .ref (a 214), .ref (a 215), .ref (a 207), .null, .int 0]))]) [1] rfl
                  have hD9 := hD.sub (ws' := [((a 200), .inr (21, [.int 1, .ref (a 201), .ref (a 202), .ref (a 203), .ref (a 204), .ref (a 205), .ref (a 206), .int 0, .int 0, .int 0, .int 0, .ref (a 208), .ref (a 209), .ref (a 210), .ref (a 211), .ref (a 212), .int 4, .int 12, .int (-1), .int 0, .ref (g 200), .ref (a 213), .int 0, .int 97, .ref (a 214), .ref (a 215), .ref (a 207), .null, .int 0]))]) [1] (by decide) rfl
                  refine W.widen (k := 0) (n := 0) (Nat.le_of_ble_eq_true rfl) (Nat.le_of_ble_eq_true rfl) ?_
                  exact W.iret (v := 0) hx hb hr (fun t ht9 hW9 => ⟨⟨0, 1, rfl, (Or.inr ⟨rfl, rfl, (Or.inl ⟨c_1, c_6, c_16, c_17, c_18, c_19, c_20⟩)⟩), ⟨(by rw [ht9]; exact hP9), hD9⟩⟩, hS.F ht9⟩) hS.2.2 dX15_gate_112 hlocks
            · exact absurd c_21 (by decide)
          · obtain ⟨c_24, c_25, c_26, c_27, c_28⟩ := hw
            have hP := ro1 hP hk1
            refine lv_if_lt (tgt := 37) hx hb dX15_gate_30 (by decide) (fun c_29 => ?_) (fun c_29 => ?_)
            · refine lv_iconst (v := 0) hx hb dX15_gate_37 (by decide) ?_
              refine lv_istore (lv' := [(5, .int 0), (4, .int 0), (0, .ref (a 200)), (1, .int p0), (2, .int p1), (3, .int p2)]) hx hb dX15_gate_38 hl (by decide) rfl (fun ls hl => ?_)
              refine lv_aload_n hx hb dX15_gate_40 rfl (lv_at hl 2 rfl) ?_
              refine lv_iload hx hb dX15_gate_41 (lv_at hl 0 rfl) ?_
              refine lv_if_ne (tgt := 50) hx hb dX15_gate_43 (by decide) (fun c_30 => ?_) (fun c_30 => ?_)
              · exact absurd c_30 (by decide)
              · refine lv_iconst (v := 1) hx hb dX15_gate_46 (by decide) ?_
                refine lv_goto (tgt := 105) hx hb dX15_gate_47 (by decide) ?_
                have hPc : va_P D vwCl [((a 200), f_m a g)] _ := hP.sub (ws' := [((a 200), f_m a g)]) [0] rfl
                have hDc : va_D (fun q => z0 ≤ q) [((a 200), f_m a g)] := (hD.to hAz).pick (ws' := [((a 200), f_m a g)]) [0] (by decide) rfl
                have hFc := va_free (wc := [((a 200), f_m a g)]) hD hS hA [0] rfl
                refine va_calli (va_runV (As := [.int 1]) (rest := []) ⟨hx, hb, hml, hown, ht⟩ (k_X15_isWrong l D g z0 _ a) (cwV 1 ht (gV w_376 w_378 w_379 w_334 w_377) rfl rfl rfl (by decide +kernel) (le2 rfl rfl)) ⟨PP.blind, va_recv hK.1 hP (ci := 21) (q0 := 0) rfl rfl, PP.mk' hK hZ hz hAz hS hPc hDc⟩ rfl rfl hl.1 rfl (lv_room (Nat.le_of_ble_eq_true rfl)) dX15_gate_105 (le2 rfl rfl)) hS (fun q _ h => hFc q h) hFc (fun r u t H locs ht1 hvm hw hB hz1 hk1 hS => ?_)
                obtain ⟨rfl, hw⟩ := hw
                obtain ⟨hP1, hD1⟩ := hB
                rw [ht1] at hP1
                obtain ⟨hP, hD⟩ := va_join (wr := [((a 201), .inr (5, [.int 0, .ref (g 100), .int 0]))]) (w1 := [((a 200), .inr (21, [.int 1, .ref (a 201), .ref (a 202), .ref (a 203), .ref (a 204), .ref (a 205), .ref (a 206), .int 0, .int 0, .int 0, .int 0, .ref (a 208), .ref (a 209), .ref (a 210), .ref (a 211), .ref (a 212), .int 4, .int 12, .int (-1), .int 0, .ref (g 200), .ref (a 213), .int 0, .int 97, .ref (a 214), .ref (a 215), .ref (a 207), .null, .int 0]))]) hP hD [0] [1] rfl rfl (by decide) (by decide) hk1 hFc hP1 hD1
                have hP : va_P D vwCl [((a 201), .inr (5, [.int 0, .ref (g 100), .int 0])), ((a 200), .inr (21, [.int 1, .ref (a 201), .ref (a 202), .ref (a 203), .ref (a 204), .ref (a 205), .ref (a 206), .int 0, .int 0, .int 0, .int 0, .ref (a 208), .ref (a 209), .ref (a 210), .ref (a 211), .ref (a 212), .int 4, .int 12, .int (-1), .int 0, .ref (g 200), .ref (a 213), .int 0, .int 97, .ref (a 214), .ref (a 215), .ref (a 207), .null, .int 0]))] H := hP
                have hD : va_D (va_A [((a 200), f_m a g), ((a 201), .inr (5, [.int 0, .ref (g 100), .int 0]))] s.heap.size) [((a 201), .inr (5, [.int 0, .ref (g 100), .int 0])), ((a 200), .inr (21, [.int 1, .ref (a 201), .ref (a 202), .ref (a 203), .ref (a 204), .ref (a 205), .ref (a 206), .int 0, .int 0, .int 0, .int 0, .ref (a 208), .ref (a 209), .ref (a 210), .ref (a 211), .ref (a 212), .int 4, .int 12, .int (-1), .int 0, .ref (g 200), .ref (a 213), .int 0, .int 97, .ref (a 214), .ref (a 215), .ref (a 207), .null, .int 0]))] := hD
                refine lv_if_eq (tgt := 113) hx hb dX15_gate_108 (by decide) (fun c_31 => ?_) (fun c_31 => ?_)
                · exact absurd c_31 (by decide)
                · refine lv_iconst (v := 0) hx hb dX15_gate_111 (by decide) ?_
                  have hP9 := hP.sub (ws' := [((a 200), .inr (21, [.int 1, .ref (a 201), .ref (a 202), .ref (a 203), .ref (a 204), .ref (a 205), .ref (a 206), .int 0, .int 0, .int 0, .int 0, .ref (a 208), .ref (a 209), .ref (a 210), .ref (a 211), .ref (a 212), .int 4, .int 12, .int (-1), .int 0, .ref (g 200), .ref (a 213), .int 0, .int 97, .ref (a 214), .ref (a 215), .ref (a 207), .null, .int 0]))]) [1] rfl
                  have hD9 := hD.sub (ws' := [((a 200), .inr (21, [.int 1, .ref (a 201), .ref (a 202), .ref (a 203), .ref (a 204), .ref (a 205), .ref (a 206), .int 0, .int 0, .int 0, .int 0, .ref (a 208), .ref (a 209), .ref (a 210), .ref (a 211), .ref (a 212), .int 4, .int 12, .int (-1), .int 0, .ref (g 200), .ref (a 213), .int 0, .int 97, .ref (a 214), .ref (a 215), .ref (a 207), .null, .int 0]))]) [1] (by decide) rfl
                  refine W.widen (k := 0) (n := 0) (Nat.le_of_ble_eq_true rfl) (Nat.le_of_ble_eq_true rfl) ?_
                  exact W.iret (v := 0) hx hb hr (fun t ht9 hW9 => ⟨⟨0, 1, rfl, (Or.inr ⟨rfl, rfl, (Or.inl ⟨c_1, c_6, c_24, c_25, c_26, c_27, c_28⟩)⟩), ⟨(by rw [ht9]; exact hP9), hD9⟩⟩, hS.F ht9⟩) hS.2.2 dX15_gate_112 hlocks
            · exact absurd c_29 (by decide)
        · obtain ⟨rfl, hw⟩ := hw
          have c_32 := hw
          have hP := ro1 hP hk1
          refine lv_if_lt (tgt := 37) hx hb dX15_gate_30 (by decide) (fun c_33 => ?_) (fun c_33 => ?_)
          · exact absurd c_33 (by decide)
          · refine lv_iconst (v := 1) hx hb dX15_gate_33 (by decide) ?_
            refine lv_goto (tgt := 38) hx hb dX15_gate_34 (by decide) ?_
            refine lv_istore (lv' := [(5, .int 1), (4, .int 0), (0, .ref (a 200)), (1, .int p0), (2, .int p1), (3, .int p2)]) hx hb dX15_gate_38 hl (by decide) rfl (fun ls hl => ?_)
            refine lv_aload_n hx hb dX15_gate_40 rfl (lv_at hl 2 rfl) ?_
            refine lv_iload hx hb dX15_gate_41 (lv_at hl 0 rfl) ?_
            refine lv_if_ne (tgt := 50) hx hb dX15_gate_43 (by decide) (fun c_34 => ?_) (fun c_34 => ?_)
            · refine lv_aload_n hx hb dX15_gate_50 rfl (lv_at hl 2 rfl) ?_
              refine lv_iload_n hx hb dX15_gate_51 rfl (lv_at hl 4 rfl) ?_
              have hPc : va_P D vwCl [((a 200), f_m a g), ((a 201), .inr (5, [.int 0, .ref (g 100), .int 0]))] _ := hP.sub (ws' := [((a 200), f_m a g), ((a 201), .inr (5, [.int 0, .ref (g 100), .int 0]))]) [0, 1] rfl
              have hDc : va_D (fun q => z0 ≤ q) [((a 200), f_m a g), ((a 201), .inr (5, [.int 0, .ref (g 100), .int 0]))] := (hD.to hAz).pick (ws' := [((a 200), f_m a g), ((a 201), .inr (5, [.int 0, .ref (g 100), .int 0]))]) [0, 1] (by decide) rfl
              have hFc := AnA (ws := [((a 200), f_m a g), ((a 201), .inr (5, [.int 0, .ref (g 100), .int 0]))]) hS.1
              refine va_calli (va_runV (As := [.int p1]) (rest := [.ref (a 200)]) ⟨hx, hb, hml, hown, ht⟩ (k_X15_isLine l D g z0 _ a p1) (cwV 1 ht (gV w_429 w_431 w_432 w_334 w_430) rfl rfl rfl (by decide +kernel) (le2 rfl rfl)) ⟨PP.blind, va_recv hK.1 hP (ci := 21) (q0 := 0) rfl rfl, PP.mk' hK hZ hz hAz hS hPc hDc⟩ rfl rfl hl.1 rfl (lv_room (Nat.le_of_ble_eq_true rfl)) dX15_gate_52 (le2 rfl rfl)) hS (fun q _ h => hFc q h) hFc (fun r u t H locs ht1 hvm hw hB hz1 hk1 hS => ?_)
              obtain ⟨rfl, hw⟩ := hw
              have hP := ro1 hP hk1
              refine lv_if_eq (tgt := 71) hx hb dX15_gate_55 (by decide) (fun c_35 => ?_) (fun c_35 => ?_)
              · refine lv_iconst (v := 2) hx hb dX15_gate_71 (by decide) ?_
                refine lv_goto (tgt := 105) hx hb dX15_gate_72 (by decide) ?_
                have hPc : va_P D vwCl [((a 200), f_m a g)] _ := hP.sub (ws' := [((a 200), f_m a g)]) [0] rfl
                have hDc : va_D (fun q => z0 ≤ q) [((a 200), f_m a g)] := (hD.to hAz).pick (ws' := [((a 200), f_m a g)]) [0] (by decide) rfl
                have hFc := va_free (wc := [((a 200), f_m a g)]) hD hS hA [0] rfl
                refine va_calli (va_runV (As := [.int 2]) (rest := []) ⟨hx, hb, hml, hown, ht⟩ (k_X15_isWrong_v2 l D g z0 _ a) (cwV 1 ht (gV w_376 w_378 w_379 w_334 w_377) rfl rfl rfl (by decide +kernel) (le2 rfl rfl)) ⟨PP.blind, va_recv hK.1 hP (ci := 21) (q0 := 0) rfl rfl, PP.mk' hK hZ hz hAz hS hPc hDc⟩ rfl rfl hl.1 rfl (lv_room (Nat.le_of_ble_eq_true rfl)) dX15_gate_105 (le2 rfl rfl)) hS (fun q _ h => hFc q h) hFc (fun r u t H locs ht1 hvm hw hB hz1 hk1 hS => ?_)
                obtain ⟨rfl, hw⟩ := hw
                obtain ⟨hP1, hD1⟩ := hB
                rw [ht1] at hP1
                obtain ⟨hP, hD⟩ := va_join (wr := [((a 201), .inr (5, [.int 0, .ref (g 100), .int 0]))]) (w1 := [((a 200), .inr (21, [.int 2, .ref (a 201), .ref (a 202), .ref (a 203), .ref (a 204), .ref (a 205), .ref (a 206), .int 0, .int 0, .int 0, .int 0, .ref (a 208), .ref (a 209), .ref (a 210), .ref (a 211), .ref (a 212), .int 4, .int 12, .int (-1), .int 0, .ref (g 200), .ref (a 213), .int 0, .int 97, .ref (a 214), .ref (a 215), .ref (a 207), .null, .int 0]))]) hP hD [0] [1] rfl rfl (by decide) (by decide) hk1 hFc hP1 hD1
                have hP : va_P D vwCl [((a 201), .inr (5, [.int 0, .ref (g 100), .int 0])), ((a 200), .inr (21, [.int 2, .ref (a 201), .ref (a 202), .ref (a 203), .ref (a 204), .ref (a 205), .ref (a 206), .int 0, .int 0, .int 0, .int 0, .ref (a 208), .ref (a 209), .ref (a 210), .ref (a 211), .ref (a 212), .int 4, .int 12, .int (-1), .int 0, .ref (g 200), .ref (a 213), .int 0, .int 97, .ref (a 214), .ref (a 215), .ref (a 207), .null, .int 0]))] H := hP
                have hD : va_D (va_A [((a 200), f_m a g), ((a 201), .inr (5, [.int 0, .ref (g 100), .int 0]))] s.heap.size) [((a 201), .inr (5, [.int 0, .ref (g 100), .int 0])), ((a 200), .inr (21, [.int 2, .ref (a 201), .ref (a 202), .ref (a 203), .ref (a 204), .ref (a 205), .ref (a 206), .int 0, .int 0, .int 0, .int 0, .ref (a 208), .ref (a 209), .ref (a 210), .ref (a 211), .ref (a 212), .int 4, .int 12, .int (-1), .int 0, .ref (g 200), .ref (a 213), .int 0, .int 97, .ref (a 214), .ref (a 215), .ref (a 207), .null, .int 0]))] := hD
                refine lv_if_eq (tgt := 113) hx hb dX15_gate_108 (by decide) (fun c_36 => ?_) (fun c_36 => ?_)
                · exact absurd c_36 (by decide)
                · refine lv_iconst (v := 0) hx hb dX15_gate_111 (by decide) ?_
                  have hP9 := hP.sub (ws' := [((a 200), .inr (21, [.int 2, .ref (a 201), .ref (a 202), .ref (a 203), .ref (a 204), .ref (a 205), .ref (a 206), .int 0, .int 0, .int 0, .int 0, .ref (a 208), .ref (a 209), .ref (a 210), .ref (a 211), .ref (a 212), .int 4, .int 12, .int (-1), .int 0, .ref (g 200), .ref (a 213), .int 0, .int 97, .ref (a 214), .ref (a 215), .ref (a 207), .null, .int 0]))]) [1] rfl
                  have hD9 := hD.sub (ws' := [((a 200), .inr (21, [.int 2, .ref (a 201), .ref (a 202), .ref (a 203), .ref (a 204), .ref (a 205), .ref (a 206), .int 0, .int 0, .int 0, .int 0, .ref (a 208), .ref (a 209), .ref (a 210), .ref (a 211), .ref (a 212), .int 4, .int 12, .int (-1), .int 0, .ref (g 200), .ref (a 213), .int 0, .int 97, .ref (a 214), .ref (a 215), .ref (a 207), .null, .int 0]))]) [1] (by decide) rfl
                  refine W.widen (k := 0) (n := 0) (Nat.le_of_ble_eq_true rfl) (Nat.le_of_ble_eq_true rfl) ?_
                  exact W.iret (v := 0) hx hb hr (fun t ht9 hW9 => ⟨⟨0, 2, rfl, (Or.inl ⟨rfl, rfl, (Or.inr (Or.inl ⟨c_1, c_6, c_32⟩))⟩), ⟨(by rw [ht9]; exact hP9), hD9⟩⟩, hS.F ht9⟩) hS.2.2 dX15_gate_112 hlocks
              · exact absurd c_35 (by decide)
            · exact absurd c_34 (by decide)
        · obtain ⟨rfl, hw⟩ := hw
          have c_37 := hw
          have hP := ro1 hP hk1
          refine lv_if_lt (tgt := 37) hx hb dX15_gate_30 (by decide) (fun c_38 => ?_) (fun c_38 => ?_)
          · exact absurd c_38 (by decide)
          · refine lv_iconst (v := 1) hx hb dX15_gate_33 (by decide) ?_
            refine lv_goto (tgt := 38) hx hb dX15_gate_34 (by decide) ?_
            refine lv_istore (lv' := [(5, .int 1), (4, .int 0), (0, .ref (a 200)), (1, .int p0), (2, .int p1), (3, .int p2)]) hx hb dX15_gate_38 hl (by decide) rfl (fun ls hl => ?_)
            refine lv_aload_n hx hb dX15_gate_40 rfl (lv_at hl 2 rfl) ?_
            refine lv_iload hx hb dX15_gate_41 (lv_at hl 0 rfl) ?_
            refine lv_if_ne (tgt := 50) hx hb dX15_gate_43 (by decide) (fun c_39 => ?_) (fun c_39 => ?_)
            · refine lv_aload_n hx hb dX15_gate_50 rfl (lv_at hl 2 rfl) ?_
              refine lv_iload_n hx hb dX15_gate_51 rfl (lv_at hl 4 rfl) ?_
              have hPc : va_P D vwCl [((a 200), f_m a g), ((a 201), .inr (5, [.int 0, .ref (g 100), .int 0]))] _ := hP.sub (ws' := [((a 200), f_m a g), ((a 201), .inr (5, [.int 0, .ref (g 100), .int 0]))]) [0, 1] rfl
              have hDc : va_D (fun q => z0 ≤ q) [((a 200), f_m a g), ((a 201), .inr (5, [.int 0, .ref (g 100), .int 0]))] := (hD.to hAz).pick (ws' := [((a 200), f_m a g), ((a 201), .inr (5, [.int 0, .ref (g 100), .int 0]))]) [0, 1] (by decide) rfl
              have hFc := AnA (ws := [((a 200), f_m a g), ((a 201), .inr (5, [.int 0, .ref (g 100), .int 0]))]) hS.1
              refine va_calli (va_runV (As := [.int p1]) (rest := [.ref (a 200)]) ⟨hx, hb, hml, hown, ht⟩ (k_X15_isLine l D g z0 _ a p1) (cwV 1 ht (gV w_429 w_431 w_432 w_334 w_430) rfl rfl rfl (by decide +kernel) (le2 rfl rfl)) ⟨PP.blind, va_recv hK.1 hP (ci := 21) (q0 := 0) rfl rfl, PP.mk' hK hZ hz hAz hS hPc hDc⟩ rfl rfl hl.1 rfl (lv_room (Nat.le_of_ble_eq_true rfl)) dX15_gate_52 (le2 rfl rfl)) hS (fun q _ h => hFc q h) hFc (fun r u t H locs ht1 hvm hw hB hz1 hk1 hS => ?_)
              obtain ⟨rfl, hw⟩ := hw
              have hP := ro1 hP hk1
              refine lv_if_eq (tgt := 71) hx hb dX15_gate_55 (by decide) (fun c_40 => ?_) (fun c_40 => ?_)
              · refine lv_iconst (v := 2) hx hb dX15_gate_71 (by decide) ?_
                refine lv_goto (tgt := 105) hx hb dX15_gate_72 (by decide) ?_
                have hPc : va_P D vwCl [((a 200), f_m a g)] _ := hP.sub (ws' := [((a 200), f_m a g)]) [0] rfl
                have hDc : va_D (fun q => z0 ≤ q) [((a 200), f_m a g)] := (hD.to hAz).pick (ws' := [((a 200), f_m a g)]) [0] (by decide) rfl
                have hFc := va_free (wc := [((a 200), f_m a g)]) hD hS hA [0] rfl
                refine va_calli (va_runV (As := [.int 2]) (rest := []) ⟨hx, hb, hml, hown, ht⟩ (k_X15_isWrong_v2 l D g z0 _ a) (cwV 1 ht (gV w_376 w_378 w_379 w_334 w_377) rfl rfl rfl (by decide +kernel) (le2 rfl rfl)) ⟨PP.blind, va_recv hK.1 hP (ci := 21) (q0 := 0) rfl rfl, PP.mk' hK hZ hz hAz hS hPc hDc⟩ rfl rfl hl.1 rfl (lv_room (Nat.le_of_ble_eq_true rfl)) dX15_gate_105 (le2 rfl rfl)) hS (fun q _ h => hFc q h) hFc (fun r u t H locs ht1 hvm hw hB hz1 hk1 hS => ?_)
                obtain ⟨rfl, hw⟩ := hw
                obtain ⟨hP1, hD1⟩ := hB
                rw [ht1] at hP1
                obtain ⟨hP, hD⟩ := va_join (wr := [((a 201), .inr (5, [.int 0, .ref (g 100), .int 0]))]) (w1 := [((a 200), .inr (21, [.int 2, .ref (a 201), .ref (a 202), .ref (a 203), .ref (a 204), .ref (a 205), .ref (a 206), .int 0, .int 0, .int 0, .int 0, .ref (a 208), .ref (a 209), .ref (a 210), .ref (a 211), .ref (a 212), .int 4, .int 12, .int (-1), .int 0, .ref (g 200), .ref (a 213), .int 0, .int 97, .ref (a 214), .ref (a 215), .ref (a 207), .null, .int 0]))]) hP hD [0] [1] rfl rfl (by decide) (by decide) hk1 hFc hP1 hD1
                have hP : va_P D vwCl [((a 201), .inr (5, [.int 0, .ref (g 100), .int 0])), ((a 200), .inr (21, [.int 2, .ref (a 201), .ref (a 202), .ref (a 203), .ref (a 204), .ref (a 205), .ref (a 206), .int 0, .int 0, .int 0, .int 0, .ref (a 208), .ref (a 209), .ref (a 210), .ref (a 211), .ref (a 212), .int 4, .int 12, .int (-1), .int 0, .ref (g 200), .ref (a 213), .int 0, .int 97, .ref (a 214), .ref (a 215), .ref (a 207), .null, .int 0]))] H := hP
                have hD : va_D (va_A [((a 200), f_m a g), ((a 201), .inr (5, [.int 0, .ref (g 100), .int 0]))] s.heap.size) [((a 201), .inr (5, [.int 0, .ref (g 100), .int 0])), ((a 200), .inr (21, [.int 2, .ref (a 201), .ref (a 202), .ref (a 203), .ref (a 204), .ref (a 205), .ref (a 206), .int 0, .int 0, .int 0, .int 0, .ref (a 208), .ref (a 209), .ref (a 210), .ref (a 211), .ref (a 212), .int 4, .int 12, .int (-1), .int 0, .ref (g 200), .ref (a 213), .int 0, .int 97, .ref (a 214), .ref (a 215), .ref (a 207), .null, .int 0]))] := hD
                refine lv_if_eq (tgt := 113) hx hb dX15_gate_108 (by decide) (fun c_41 => ?_) (fun c_41 => ?_)
                · exact absurd c_41 (by decide)
                · refine lv_iconst (v := 0) hx hb dX15_gate_111 (by decide) ?_
                  have hP9 := hP.sub (ws' := [((a 200), .inr (21, [.int 2, .ref (a 201), .ref (a 202), .ref (a 203), .ref (a 204), .ref (a 205), .ref (a 206), .int 0, .int 0, .int 0, .int 0, .ref (a 208), .ref (a 209), .ref (a 210), .ref (a 211), .ref (a 212), .int 4, .int 12, .int (-1), .int 0, .ref (g 200), .ref (a 213), .int 0, .int 97, .ref (a 214), .ref (a 215), .ref (a 207), .null, .int 0]))]) [1] rfl
                  have hD9 := hD.sub (ws' := [((a 200), .inr (21, [.int 2, .ref (a 201), .ref (a 202), .ref (a 203), .ref (a 204), .ref (a 205), .ref (a 206), .int 0, .int 0, .int 0, .int 0, .ref (a 208), .ref (a 209), .ref (a 210), .ref (a 211), .ref (a 212), .int 4, .int 12, .int (-1), .int 0, .ref (g 200), .ref (a 213), .int 0, .int 97, .ref (a 214), .ref (a 215), .ref (a 207), .null, .int 0]))]) [1] (by decide) rfl
                  refine W.widen (k := 0) (n := 0) (Nat.le_of_ble_eq_true rfl) (Nat.le_of_ble_eq_true rfl) ?_
                  exact W.iret (v := 0) hx hb hr (fun t ht9 hW9 => ⟨⟨0, 2, rfl, (Or.inl ⟨rfl, rfl, (Or.inr (Or.inr (Or.inl ⟨c_1, c_6, c_37⟩)))⟩), ⟨(by rw [ht9]; exact hP9), hD9⟩⟩, hS.F ht9⟩) hS.2.2 dX15_gate_112 hlocks
              · exact absurd c_40 (by decide)
            · exact absurd c_39 (by decide)
        · obtain ⟨rfl, hw⟩ := hw
          have c_42 := hw
          have hP := ro1 hP hk1
          refine lv_if_lt (tgt := 37) hx hb dX15_gate_30 (by decide) (fun c_43 => ?_) (fun c_43 => ?_)
          · exact absurd c_43 (by decide)
          · refine lv_iconst (v := 1) hx hb dX15_gate_33 (by decide) ?_
            refine lv_goto (tgt := 38) hx hb dX15_gate_34 (by decide) ?_
            refine lv_istore (lv' := [(5, .int 1), (4, .int 0), (0, .ref (a 200)), (1, .int p0), (2, .int p1), (3, .int p2)]) hx hb dX15_gate_38 hl (by decide) rfl (fun ls hl => ?_)
            refine lv_aload_n hx hb dX15_gate_40 rfl (lv_at hl 2 rfl) ?_
            refine lv_iload hx hb dX15_gate_41 (lv_at hl 0 rfl) ?_
            refine lv_if_ne (tgt := 50) hx hb dX15_gate_43 (by decide) (fun c_44 => ?_) (fun c_44 => ?_)
            · refine lv_aload_n hx hb dX15_gate_50 rfl (lv_at hl 2 rfl) ?_
              refine lv_iload_n hx hb dX15_gate_51 rfl (lv_at hl 4 rfl) ?_
              have hPc : va_P D vwCl [((a 200), f_m a g), ((a 201), .inr (5, [.int 0, .ref (g 100), .int 0]))] _ := hP.sub (ws' := [((a 200), f_m a g), ((a 201), .inr (5, [.int 0, .ref (g 100), .int 0]))]) [0, 1] rfl
              have hDc : va_D (fun q => z0 ≤ q) [((a 200), f_m a g), ((a 201), .inr (5, [.int 0, .ref (g 100), .int 0]))] := (hD.to hAz).pick (ws' := [((a 200), f_m a g), ((a 201), .inr (5, [.int 0, .ref (g 100), .int 0]))]) [0, 1] (by decide) rfl
              have hFc := AnA (ws := [((a 200), f_m a g), ((a 201), .inr (5, [.int 0, .ref (g 100), .int 0]))]) hS.1
              refine va_calli (va_runV (As := [.int p1]) (rest := [.ref (a 200)]) ⟨hx, hb, hml, hown, ht⟩ (k_X15_isLine l D g z0 _ a p1) (cwV 1 ht (gV w_429 w_431 w_432 w_334 w_430) rfl rfl rfl (by decide +kernel) (le2 rfl rfl)) ⟨PP.blind, va_recv hK.1 hP (ci := 21) (q0 := 0) rfl rfl, PP.mk' hK hZ hz hAz hS hPc hDc⟩ rfl rfl hl.1 rfl (lv_room (Nat.le_of_ble_eq_true rfl)) dX15_gate_52 (le2 rfl rfl)) hS (fun q _ h => hFc q h) hFc (fun r u t H locs ht1 hvm hw hB hz1 hk1 hS => ?_)
              obtain ⟨rfl, hw⟩ := hw
              have hP := ro1 hP hk1
              refine lv_if_eq (tgt := 71) hx hb dX15_gate_55 (by decide) (fun c_45 => ?_) (fun c_45 => ?_)
              · refine lv_iconst (v := 2) hx hb dX15_gate_71 (by decide) ?_
                refine lv_goto (tgt := 105) hx hb dX15_gate_72 (by decide) ?_
                have hPc : va_P D vwCl [((a 200), f_m a g)] _ := hP.sub (ws' := [((a 200), f_m a g)]) [0] rfl
                have hDc : va_D (fun q => z0 ≤ q) [((a 200), f_m a g)] := (hD.to hAz).pick (ws' := [((a 200), f_m a g)]) [0] (by decide) rfl
                have hFc := va_free (wc := [((a 200), f_m a g)]) hD hS hA [0] rfl
                refine va_calli (va_runV (As := [.int 2]) (rest := []) ⟨hx, hb, hml, hown, ht⟩ (k_X15_isWrong_v2 l D g z0 _ a) (cwV 1 ht (gV w_376 w_378 w_379 w_334 w_377) rfl rfl rfl (by decide +kernel) (le2 rfl rfl)) ⟨PP.blind, va_recv hK.1 hP (ci := 21) (q0 := 0) rfl rfl, PP.mk' hK hZ hz hAz hS hPc hDc⟩ rfl rfl hl.1 rfl (lv_room (Nat.le_of_ble_eq_true rfl)) dX15_gate_105 (le2 rfl rfl)) hS (fun q _ h => hFc q h) hFc (fun r u t H locs ht1 hvm hw hB hz1 hk1 hS => ?_)
                obtain ⟨rfl, hw⟩ := hw
                obtain ⟨hP1, hD1⟩ := hB
                rw [ht1] at hP1
                obtain ⟨hP, hD⟩ := va_join (wr := [((a 201), .inr (5, [.int 0, .ref (g 100), .int 0]))]) (w1 := [((a 200), .inr (21, [.int 2, .ref (a 201), .ref (a 202), .ref (a 203), .ref (a 204), .ref (a 205), .ref (a 206), .int 0, .int 0, .int 0, .int 0, .ref (a 208), .ref (a 209), .ref (a 210), .ref (a 211), .ref (a 212), .int 4, .int 12, .int (-1), .int 0, .ref (g 200), .ref (a 213), .int 0, .int 97, .ref (a 214), .ref (a 215), .ref (a 207), .null, .int 0]))]) hP hD [0] [1] rfl rfl (by decide) (by decide) hk1 hFc hP1 hD1
                have hP : va_P D vwCl [((a 201), .inr (5, [.int 0, .ref (g 100), .int 0])), ((a 200), .inr (21, [.int 2, .ref (a 201), .ref (a 202), .ref (a 203), .ref (a 204), .ref (a 205), .ref (a 206), .int 0, .int 0, .int 0, .int 0, .ref (a 208), .ref (a 209), .ref (a 210), .ref (a 211), .ref (a 212), .int 4, .int 12, .int (-1), .int 0, .ref (g 200), .ref (a 213), .int 0, .int 97, .ref (a 214), .ref (a 215), .ref (a 207), .null, .int 0]))] H := hP
                have hD : va_D (va_A [((a 200), f_m a g), ((a 201), .inr (5, [.int 0, .ref (g 100), .int 0]))] s.heap.size) [((a 201), .inr (5, [.int 0, .ref (g 100), .int 0])), ((a 200), .inr (21, [.int 2, .ref (a 201), .ref (a 202), .ref (a 203), .ref (a 204), .ref (a 205), .ref (a 206), .int 0, .int 0, .int 0, .int 0, .ref (a 208), .ref (a 209), .ref (a 210), .ref (a 211), .ref (a 212), .int 4, .int 12, .int (-1), .int 0, .ref (g 200), .ref (a 213), .int 0, .int 97, .ref (a 214), .ref (a 215), .ref (a 207), .null, .int 0]))] := hD
                refine lv_if_eq (tgt := 113) hx hb dX15_gate_108 (by decide) (fun c_46 => ?_) (fun c_46 => ?_)
                · exact absurd c_46 (by decide)
                · refine lv_iconst (v := 0) hx hb dX15_gate_111 (by decide) ?_
                  have hP9 := hP.sub (ws' := [((a 200), .inr (21, [.int 2, .ref (a 201), .ref (a 202), .ref (a 203), .ref (a 204), .ref (a 205), .ref (a 206), .int 0, .int 0, .int 0, .int 0, .ref (a 208), .ref (a 209), .ref (a 210), .ref (a 211), .ref (a 212), .int 4, .int 12, .int (-1), .int 0, .ref (g 200), .ref (a 213), .int 0, .int 97, .ref (a 214), .ref (a 215), .ref (a 207), .null, .int 0]))]) [1] rfl
                  have hD9 := hD.sub (ws' := [((a 200), .inr (21, [.int 2, .ref (a 201), .ref (a 202), .ref (a 203), .ref (a 204), .ref (a 205), .ref (a 206), .int 0, .int 0, .int 0, .int 0, .ref (a 208), .ref (a 209), .ref (a 210), .ref (a 211), .ref (a 212), .int 4, .int 12, .int (-1), .int 0, .ref (g 200), .ref (a 213), .int 0, .int 97, .ref (a 214), .ref (a 215), .ref (a 207), .null, .int 0]))]) [1] (by decide) rfl
                  refine W.widen (k := 0) (n := 0) (Nat.le_of_ble_eq_true rfl) (Nat.le_of_ble_eq_true rfl) ?_
                  exact W.iret (v := 0) hx hb hr (fun t ht9 hW9 => ⟨⟨0, 2, rfl, (Or.inl ⟨rfl, rfl, (Or.inr (Or.inr (Or.inr (Or.inl ⟨c_1, c_6, c_42⟩))))⟩), ⟨(by rw [ht9]; exact hP9), hD9⟩⟩, hS.F ht9⟩) hS.2.2 dX15_gate_112 hlocks
              · exact absurd c_45 (by decide)
            · exact absurd c_44 (by decide)
        · obtain ⟨rfl, hw⟩ := hw
          have c_47 := hw
          have hP := ro1 hP hk1
          refine lv_if_lt (tgt := 37) hx hb dX15_gate_30 (by decide) (fun c_48 => ?_) (fun c_48 => ?_)
          · exact absurd c_48 (by decide)
          · refine lv_iconst (v := 1) hx hb dX15_gate_33 (by decide) ?_
            refine lv_goto (tgt := 38) hx hb dX15_gate_34 (by decide) ?_
            refine lv_istore (lv' := [(5, .int 1), (4, .int 0), (0, .ref (a 200)), (1, .int p0), (2, .int p1), (3, .int p2)]) hx hb dX15_gate_38 hl (by decide) rfl (fun ls hl => ?_)
            refine lv_aload_n hx hb dX15_gate_40 rfl (lv_at hl 2 rfl) ?_
            refine lv_iload hx hb dX15_gate_41 (lv_at hl 0 rfl) ?_
            refine lv_if_ne (tgt := 50) hx hb dX15_gate_43 (by decide) (fun c_49 => ?_) (fun c_49 => ?_)
            · refine lv_aload_n hx hb dX15_gate_50 rfl (lv_at hl 2 rfl) ?_
              refine lv_iload_n hx hb dX15_gate_51 rfl (lv_at hl 4 rfl) ?_
              have hPc : va_P D vwCl [((a 200), f_m a g), ((a 201), .inr (5, [.int 0, .ref (g 100), .int 0]))] _ := hP.sub (ws' := [((a 200), f_m a g), ((a 201), .inr (5, [.int 0, .ref (g 100), .int 0]))]) [0, 1] rfl
              have hDc : va_D (fun q => z0 ≤ q) [((a 200), f_m a g), ((a 201), .inr (5, [.int 0, .ref (g 100), .int 0]))] := (hD.to hAz).pick (ws' := [((a 200), f_m a g), ((a 201), .inr (5, [.int 0, .ref (g 100), .int 0]))]) [0, 1] (by decide) rfl
              have hFc := AnA (ws := [((a 200), f_m a g), ((a 201), .inr (5, [.int 0, .ref (g 100), .int 0]))]) hS.1
              refine va_calli (va_runV (As := [.int p1]) (rest := [.ref (a 200)]) ⟨hx, hb, hml, hown, ht⟩ (k_X15_isLine l D g z0 _ a p1) (cwV 1 ht (gV w_429 w_431 w_432 w_334 w_430) rfl rfl rfl (by decide +kernel) (le2 rfl rfl)) ⟨PP.blind, va_recv hK.1 hP (ci := 21) (q0 := 0) rfl rfl, PP.mk' hK hZ hz hAz hS hPc hDc⟩ rfl rfl hl.1 rfl (lv_room (Nat.le_of_ble_eq_true rfl)) dX15_gate_52 (le2 rfl rfl)) hS (fun q _ h => hFc q h) hFc (fun r u t H locs ht1 hvm hw hB hz1 hk1 hS => ?_)
              obtain ⟨rfl, hw⟩ := hw
              have hP := ro1 hP hk1
              refine lv_if_eq (tgt := 71) hx hb dX15_gate_55 (by decide) (fun c_50 => ?_) (fun c_50 => ?_)
              · refine lv_iconst (v := 2) hx hb dX15_gate_71 (by decide) ?_
                refine lv_goto (tgt := 105) hx hb dX15_gate_72 (by decide) ?_
                have hPc : va_P D vwCl [((a 200), f_m a g)] _ := hP.sub (ws' := [((a 200), f_m a g)]) [0] rfl
                have hDc : va_D (fun q => z0 ≤ q) [((a 200), f_m a g)] := (hD.to hAz).pick (ws' := [((a 200), f_m a g)]) [0] (by decide) rfl
                have hFc := va_free (wc := [((a 200), f_m a g)]) hD hS hA [0] rfl
                refine va_calli (va_runV (As := [.int 2]) (rest := []) ⟨hx, hb, hml, hown, ht⟩ (k_X15_isWrong_v2 l D g z0 _ a) (cwV 1 ht (gV w_376 w_378 w_379 w_334 w_377) rfl rfl rfl (by decide +kernel) (le2 rfl rfl)) ⟨PP.blind, va_recv hK.1 hP (ci := 21) (q0 := 0) rfl rfl, PP.mk' hK hZ hz hAz hS hPc hDc⟩ rfl rfl hl.1 rfl (lv_room (Nat.le_of_ble_eq_true rfl)) dX15_gate_105 (le2 rfl rfl)) hS (fun q _ h => hFc q h) hFc (fun r u t H locs ht1 hvm hw hB hz1 hk1 hS => ?_)
                obtain ⟨rfl, hw⟩ := hw
                obtain ⟨hP1, hD1⟩ := hB
                rw [ht1] at hP1
                obtain ⟨hP, hD⟩ := va_join (wr := [((a 201), .inr (5, [.int 0, .ref (g 100), .int 0]))]) (w1 := [((a 200), .inr (21, [.int 2, .ref (a 201), .ref (a 202), .ref (a 203), .ref (a 204), .ref (a 205), .ref (a 206), .int 0, .int 0, .int 0, .int 0, .ref (a 208), .ref (a 209), .ref (a 210), .ref (a 211), .ref (a 212), .int 4, .int 12, .int (-1), .int 0, .ref (g 200), .ref (a 213), .int 0, .int 97, .ref (a 214), .ref (a 215), .ref (a 207), .null, .int 0]))]) hP hD [0] [1] rfl rfl (by decide) (by decide) hk1 hFc hP1 hD1
                have hP : va_P D vwCl [((a 201), .inr (5, [.int 0, .ref (g 100), .int 0])), ((a 200), .inr (21, [.int 2, .ref (a 201), .ref (a 202), .ref (a 203), .ref (a 204), .ref (a 205), .ref (a 206), .int 0, .int 0, .int 0, .int 0, .ref (a 208), .ref (a 209), .ref (a 210), .ref (a 211), .ref (a 212), .int 4, .int 12, .int (-1), .int 0, .ref (g 200), .ref (a 213), .int 0, .int 97, .ref (a 214), .ref (a 215), .ref (a 207), .null, .int 0]))] H := hP
                have hD : va_D (va_A [((a 200), f_m a g), ((a 201), .inr (5, [.int 0, .ref (g 100), .int 0]))] s.heap.size) [((a 201), .inr (5, [.int 0, .ref (g 100), .int 0])), ((a 200), .inr (21, [.int 2, .ref (a 201), .ref (a 202), .ref (a 203), .ref (a 204), .ref (a 205), .ref (a 206), .int 0, .int 0, .int 0, .int 0, .ref (a 208), .ref (a 209), .ref (a 210), .ref (a 211), .ref (a 212), .int 4, .int 12, .int (-1), .int 0, .ref (g 200), .ref (a 213), .int 0, .int 97, .ref (a 214), .ref (a 215), .ref (a 207), .null, .int 0]))] := hD
                refine lv_if_eq (tgt := 113) hx hb dX15_gate_108 (by decide) (fun c_51 => ?_) (fun c_51 => ?_)
                · exact absurd c_51 (by decide)
                · refine lv_iconst (v := 0) hx hb dX15_gate_111 (by decide) ?_
                  have hP9 := hP.sub (ws' := [((a 200), .inr (21, [.int 2, .ref (a 201), .ref (a 202), .ref (a 203), .ref (a 204), .ref (a 205), .ref (a 206), .int 0, .int 0, .int 0, .int 0, .ref (a 208), .ref (a 209), .ref (a 210), .ref (a 211), .ref (a 212), .int 4, .int 12, .int (-1), .int 0, .ref (g 200), .ref (a 213), .int 0, .int 97, .ref (a 214), .ref (a 215), .ref (a 207), .null, .int 0]))]) [1] rfl
                  have hD9 := hD.sub (ws' := [((a 200), .inr (21, [.int 2, .ref (a 201), .ref (a 202), .ref (a 203), .ref (a 204), .ref (a 205), .ref (a 206), .int 0, .int 0, .int 0, .int 0, .ref (a 208), .ref (a 209), .ref (a 210), .ref (a 211), .ref (a 212), .int 4, .int 12, .int (-1), .int 0, .ref (g 200), .ref (a 213), .int 0, .int 97, .ref (a 214), .ref (a 215), .ref (a 207), .null, .int 0]))]) [1] (by decide) rfl
                  refine W.widen (k := 0) (n := 0) (Nat.le_of_ble_eq_true rfl) (Nat.le_of_ble_eq_true rfl) ?_
                  exact W.iret (v := 0) hx hb hr (fun t ht9 hW9 => ⟨⟨0, 2, rfl, (Or.inl ⟨rfl, rfl, (Or.inr (Or.inr (Or.inr (Or.inr (Or.inl ⟨c_1, c_6, c_47⟩)))))⟩), ⟨(by rw [ht9]; exact hP9), hD9⟩⟩, hS.F ht9⟩) hS.2.2 dX15_gate_112 hlocks
              · exact absurd c_50 (by decide)
            · exact absurd c_49 (by decide)
        · obtain ⟨rfl, hw⟩ := hw
          have c_52 := hw
          have hP := ro1 hP hk1
          refine lv_if_lt (tgt := 37) hx hb dX15_gate_30 (by decide) (fun c_53 => ?_) (fun c_53 => ?_)
          · exact absurd c_53 (by decide)
          · refine lv_iconst (v := 1) hx hb dX15_gate_33 (by decide) ?_
            refine lv_goto (tgt := 38) hx hb dX15_gate_34 (by decide) ?_
            refine lv_istore (lv' := [(5, .int 1), (4, .int 0), (0, .ref (a 200)), (1, .int p0), (2, .int p1), (3, .int p2)]) hx hb dX15_gate_38 hl (by decide) rfl (fun ls hl => ?_)
            refine lv_aload_n hx hb dX15_gate_40 rfl (lv_at hl 2 rfl) ?_
            refine lv_iload hx hb dX15_gate_41 (lv_at hl 0 rfl) ?_
            refine lv_if_ne (tgt := 50) hx hb dX15_gate_43 (by decide) (fun c_54 => ?_) (fun c_54 => ?_)
            · refine lv_aload_n hx hb dX15_gate_50 rfl (lv_at hl 2 rfl) ?_
              refine lv_iload_n hx hb dX15_gate_51 rfl (lv_at hl 4 rfl) ?_
              have hPc : va_P D vwCl [((a 200), f_m a g), ((a 201), .inr (5, [.int 0, .ref (g 100), .int 0]))] _ := hP.sub (ws' := [((a 200), f_m a g), ((a 201), .inr (5, [.int 0, .ref (g 100), .int 0]))]) [0, 1] rfl
              have hDc : va_D (fun q => z0 ≤ q) [((a 200), f_m a g), ((a 201), .inr (5, [.int 0, .ref (g 100), .int 0]))] := (hD.to hAz).pick (ws' := [((a 200), f_m a g), ((a 201), .inr (5, [.int 0, .ref (g 100), .int 0]))]) [0, 1] (by decide) rfl
              have hFc := AnA (ws := [((a 200), f_m a g), ((a 201), .inr (5, [.int 0, .ref (g 100), .int 0]))]) hS.1
              refine va_calli (va_runV (As := [.int p1]) (rest := [.ref (a 200)]) ⟨hx, hb, hml, hown, ht⟩ (k_X15_isLine l D g z0 _ a p1) (cwV 1 ht (gV w_429 w_431 w_432 w_334 w_430) rfl rfl rfl (by decide +kernel) (le2 rfl rfl)) ⟨PP.blind, va_recv hK.1 hP (ci := 21) (q0 := 0) rfl rfl, PP.mk' hK hZ hz hAz hS hPc hDc⟩ rfl rfl hl.1 rfl (lv_room (Nat.le_of_ble_eq_true rfl)) dX15_gate_52 (le2 rfl rfl)) hS (fun q _ h => hFc q h) hFc (fun r u t H locs ht1 hvm hw hB hz1 hk1 hS => ?_)
              obtain ⟨rfl, hw⟩ := hw
              have hP := ro1 hP hk1
              refine lv_if_eq (tgt := 71) hx hb dX15_gate_55 (by decide) (fun c_55 => ?_) (fun c_55 => ?_)
              · refine lv_iconst (v := 2) hx hb dX15_gate_71 (by decide) ?_
                refine lv_goto (tgt := 105) hx hb dX15_gate_72 (by decide) ?_
                have hPc : va_P D vwCl [((a 200), f_m a g)] _ := hP.sub (ws' := [((a 200), f_m a g)]) [0] rfl
                have hDc : va_D (fun q => z0 ≤ q) [((a 200), f_m a g)] := (hD.to hAz).pick (ws' := [((a 200), f_m a g)]) [0] (by decide) rfl
                have hFc := va_free (wc := [((a 200), f_m a g)]) hD hS hA [0] rfl
                refine va_calli (va_runV (As := [.int 2]) (rest := []) ⟨hx, hb, hml, hown, ht⟩ (k_X15_isWrong_v2 l D g z0 _ a) (cwV 1 ht (gV w_376 w_378 w_379 w_334 w_377) rfl rfl rfl (by decide +kernel) (le2 rfl rfl)) ⟨PP.blind, va_recv hK.1 hP (ci := 21) (q0 := 0) rfl rfl, PP.mk' hK hZ hz hAz hS hPc hDc⟩ rfl rfl hl.1 rfl (lv_room (Nat.le_of_ble_eq_true rfl)) dX15_gate_105 (le2 rfl rfl)) hS (fun q _ h => hFc q h) hFc (fun r u t H locs ht1 hvm hw hB hz1 hk1 hS => ?_)
                obtain ⟨rfl, hw⟩ := hw
                obtain ⟨hP1, hD1⟩ := hB
                rw [ht1] at hP1
                obtain ⟨hP, hD⟩ := va_join (wr := [((a 201), .inr (5, [.int 0, .ref (g 100), .int 0]))]) (w1 := [((a 200), .inr (21, [.int 2, .ref (a 201), .ref (a 202), .ref (a 203), .ref (a 204), .ref (a 205), .ref (a 206), .int 0, .int 0, .int 0, .int 0, .ref (a 208), .ref (a 209), .ref (a 210), .ref (a 211), .ref (a 212), .int 4, .int 12, .int (-1), .int 0, .ref (g 200), .ref (a 213), .int 0, .int 97, .ref (a 214), .ref (a 215), .ref (a 207), .null, .int 0]))]) hP hD [0] [1] rfl rfl (by decide) (by decide) hk1 hFc hP1 hD1
                have hP : va_P D vwCl [((a 201), .inr (5, [.int 0, .ref (g 100), .int 0])), ((a 200), .inr (21, [.int 2, .ref (a 201), .ref (a 202), .ref (a 203), .ref (a 204), .ref (a 205), .ref (a 206), .int 0, .int 0, .int 0, .int 0, .ref (a 208), .ref (a 209), .ref (a 210), .ref (a 211), .ref (a 212), .int 4, .int 12, .int (-1), .int 0, .ref (g 200), .ref (a 213), .int 0, .int 97, .ref (a 214), .ref (a 215), .ref (a 207), .null, .int 0]))] H := hP
                have hD : va_D (va_A [((a 200), f_m a g), ((a 201), .inr (5, [.int 0, .ref (g 100), .int 0]))] s.heap.size) [((a 201), .inr (5, [.int 0, .ref (g 100), .int 0])), ((a 200), .inr (21, [.int 2, .ref (a 201), .ref (a 202), .ref (a 203), .ref (a 204), .ref (a 205), .ref (a 206), .int 0, .int 0, .int 0, .int 0, .ref (a 208), .ref (a 209), .ref (a 210), .ref (a 211), .ref (a 212), .int 4, .int 12, .int (-1), .int 0, .ref (g 200), .ref (a 213), .int 0, .int 97, .ref (a 214), .ref (a 215), .ref (a 207), .null, .int 0]))] := hD
                refine lv_if_eq (tgt := 113) hx hb dX15_gate_108 (by decide) (fun c_56 => ?_) (fun c_56 => ?_)
                · exact absurd c_56 (by decide)
                · refine lv_iconst (v := 0) hx hb dX15_gate_111 (by decide) ?_
                  have hP9 := hP.sub (ws' := [((a 200), .inr (21, [.int 2, .ref (a 201), .ref (a 202), .ref (a 203), .ref (a 204), .ref (a 205), .ref (a 206), .int 0, .int 0, .int 0, .int 0, .ref (a 208), .ref (a 209), .ref (a 210), .ref (a 211), .ref (a 212), .int 4, .int 12, .int (-1), .int 0, .ref (g 200), .ref (a 213), .int 0, .int 97, .ref (a 214), .ref (a 215), .ref (a 207), .null, .int 0]))]) [1] rfl
                  have hD9 := hD.sub (ws' := [((a 200), .inr (21, [.int 2, .ref (a 201), .ref (a 202), .ref (a 203), .ref (a 204), .ref (a 205), .ref (a 206), .int 0, .int 0, .int 0, .int 0, .ref (a 208), .ref (a 209), .ref (a 210), .ref (a 211), .ref (a 212), .int 4, .int 12, .int (-1), .int 0, .ref (g 200), .ref (a 213), .int 0, .int 97, .ref (a 214), .ref (a 215), .ref (a 207), .null, .int 0]))]) [1] (by decide) rfl
                  refine W.widen (k := 0) (n := 0) (Nat.le_of_ble_eq_true rfl) (Nat.le_of_ble_eq_true rfl) ?_
                  exact W.iret (v := 0) hx hb hr (fun t ht9 hW9 => ⟨⟨0, 2, rfl, (Or.inl ⟨rfl, rfl, (Or.inr (Or.inr (Or.inr (Or.inr (Or.inr (Or.inl ⟨c_1, c_6, c_52⟩))))))⟩), ⟨(by rw [ht9]; exact hP9), hD9⟩⟩, hS.F ht9⟩) hS.2.2 dX15_gate_112 hlocks
              · exact absurd c_55 (by decide)
            · exact absurd c_54 (by decide)
    · refine lv_iconst (v := 1) hx hb dX15_gate_12 (by decide) ?_
      refine lv_goto (tgt := 17) hx hb dX15_gate_13 (by decide) ?_
      refine lv_istore (lv' := [(4, .int 1), (0, .ref (a 200)), (1, .int p0), (2, .int p1), (3, .int p2)]) hx hb dX15_gate_17 hl (by decide) rfl (fun ls hl => ?_)
      refine lv_iload hx hb dX15_gate_19 (lv_at hl 0 rfl) ?_
      refine lv_if_ne (tgt := 33) hx hb dX15_gate_21 (by decide) (fun c_57 => ?_) (fun c_57 => ?_)
      · refine lv_iconst (v := 1) hx hb dX15_gate_33 (by decide) ?_
        refine lv_goto (tgt := 38) hx hb dX15_gate_34 (by decide) ?_
        refine lv_istore (lv' := [(5, .int 1), (4, .int 1), (0, .ref (a 200)), (1, .int p0), (2, .int p1), (3, .int p2)]) hx hb dX15_gate_38 hl (by decide) rfl (fun ls hl => ?_)
        refine lv_aload_n hx hb dX15_gate_40 rfl (lv_at hl 2 rfl) ?_
        refine lv_iload hx hb dX15_gate_41 (lv_at hl 0 rfl) ?_
        refine lv_if_ne (tgt := 50) hx hb dX15_gate_43 (by decide) (fun c_58 => ?_) (fun c_58 => ?_)
        · refine lv_aload_n hx hb dX15_gate_50 rfl (lv_at hl 2 rfl) ?_
          refine lv_iload_n hx hb dX15_gate_51 rfl (lv_at hl 4 rfl) ?_
          have hPc : va_P D vwCl [((a 200), f_m a g), ((a 201), .inr (5, [.int 0, .ref (g 100), .int 0]))] _ := hP.sub (ws' := [((a 200), f_m a g), ((a 201), .inr (5, [.int 0, .ref (g 100), .int 0]))]) [0, 1] rfl
          have hDc : va_D (fun q => z0 ≤ q) [((a 200), f_m a g), ((a 201), .inr (5, [.int 0, .ref (g 100), .int 0]))] := (hD.to hAz).pick (ws' := [((a 200), f_m a g), ((a 201), .inr (5, [.int 0, .ref (g 100), .int 0]))]) [0, 1] (by decide) rfl
          have hFc := AnA (ws := [((a 200), f_m a g), ((a 201), .inr (5, [.int 0, .ref (g 100), .int 0]))]) hS.1
          refine va_calli (va_runV (As := [.int p1]) (rest := [.ref (a 200)]) ⟨hx, hb, hml, hown, ht⟩ (k_X15_isLine l D g z0 _ a p1) (cwV 1 ht (gV w_429 w_431 w_432 w_334 w_430) rfl rfl rfl (by decide +kernel) (le2 rfl rfl)) ⟨PP.blind, va_recv hK.1 hP (ci := 21) (q0 := 0) rfl rfl, PP.mk' hK hZ hz hAz hS hPc hDc⟩ rfl rfl hl.1 rfl (lv_room (Nat.le_of_ble_eq_true rfl)) dX15_gate_52 (le2 rfl rfl)) hS (fun q _ h => hFc q h) hFc (fun r u t H locs ht1 hvm hw hB hz1 hk1 hS => ?_)
          obtain ⟨rfl, hw⟩ := hw
          have hP := ro1 hP hk1
          refine lv_if_eq (tgt := 71) hx hb dX15_gate_55 (by decide) (fun c_59 => ?_) (fun c_59 => ?_)
          · refine lv_iconst (v := 2) hx hb dX15_gate_71 (by decide) ?_
            refine lv_goto (tgt := 105) hx hb dX15_gate_72 (by decide) ?_
            have hPc : va_P D vwCl [((a 200), f_m a g)] _ := hP.sub (ws' := [((a 200), f_m a g)]) [0] rfl
            have hDc : va_D (fun q => z0 ≤ q) [((a 200), f_m a g)] := (hD.to hAz).pick (ws' := [((a 200), f_m a g)]) [0] (by decide) rfl
            have hFc := va_free (wc := [((a 200), f_m a g)]) hD hS hA [0] rfl
            refine va_calli (va_runV (As := [.int 2]) (rest := []) ⟨hx, hb, hml, hown, ht⟩ (k_X15_isWrong_v2 l D g z0 _ a) (cwV 1 ht (gV w_376 w_378 w_379 w_334 w_377) rfl rfl rfl (by decide +kernel) (le2 rfl rfl)) ⟨PP.blind, va_recv hK.1 hP (ci := 21) (q0 := 0) rfl rfl, PP.mk' hK hZ hz hAz hS hPc hDc⟩ rfl rfl hl.1 rfl (lv_room (Nat.le_of_ble_eq_true rfl)) dX15_gate_105 (le2 rfl rfl)) hS (fun q _ h => hFc q h) hFc (fun r u t H locs ht1 hvm hw hB hz1 hk1 hS => ?_)
            obtain ⟨rfl, hw⟩ := hw
            obtain ⟨hP1, hD1⟩ := hB
            rw [ht1] at hP1
            obtain ⟨hP, hD⟩ := va_join (wr := [((a 201), .inr (5, [.int 0, .ref (g 100), .int 0]))]) (w1 := [((a 200), .inr (21, [.int 2, .ref (a 201), .ref (a 202), .ref (a 203), .ref (a 204), .ref (a 205), .ref (a 206), .int 0, .int 0, .int 0, .int 0, .ref (a 208), .ref (a 209), .ref (a 210), .ref (a 211), .ref (a 212), .int 4, .int 12, .int (-1), .int 0, .ref (g 200), .ref (a 213), .int 0, .int 97, .ref (a 214), .ref (a 215), .ref (a 207), .null, .int 0]))]) hP hD [0] [1] rfl rfl (by decide) (by decide) hk1 hFc hP1 hD1
            have hP : va_P D vwCl [((a 201), .inr (5, [.int 0, .ref (g 100), .int 0])), ((a 200), .inr (21, [.int 2, .ref (a 201), .ref (a 202), .ref (a 203), .ref (a 204), .ref (a 205), .ref (a 206), .int 0, .int 0, .int 0, .int 0, .ref (a 208), .ref (a 209), .ref (a 210), .ref (a 211), .ref (a 212), .int 4, .int 12, .int (-1), .int 0, .ref (g 200), .ref (a 213), .int 0, .int 97, .ref (a 214), .ref (a 215), .ref (a 207), .null, .int 0]))] H := hP
            have hD : va_D (va_A [((a 200), f_m a g), ((a 201), .inr (5, [.int 0, .ref (g 100), .int 0]))] s.heap.size) [((a 201), .inr (5, [.int 0, .ref (g 100), .int 0])), ((a 200), .inr (21, [.int 2, .ref (a 201), .ref (a 202), .ref (a 203), .ref (a 204), .ref (a 205), .ref (a 206), .int 0, .int 0, .int 0, .int 0, .ref (a 208), .ref (a 209), .ref (a 210), .ref (a 211), .ref (a 212), .int 4, .int 12, .int (-1), .int 0, .ref (g 200), .ref (a 213), .int 0, .int 97, .ref (a 214), .ref (a 215), .ref (a 207), .null, .int 0]))] := hD
            refine lv_if_eq (tgt := 113) hx hb dX15_gate_108 (by decide) (fun c_60 => ?_) (fun c_60 => ?_)
            · exact absurd c_60 (by decide)
            · refine lv_iconst (v := 0) hx hb dX15_gate_111 (by decide) ?_
              have hP9 := hP.sub (ws' := [((a 200), .inr (21, [.int 2, .ref (a 201), .ref (a 202), .ref (a 203), .ref (a 204), .ref (a 205), .ref (a 206), .int 0, .int 0, .int 0, .int 0, .ref (a 208), .ref (a 209), .ref (a 210), .ref (a 211), .ref (a 212), .int 4, .int 12, .int (-1), .int 0, .ref (g 200), .ref (a 213), .int 0, .int 97, .ref (a 214), .ref (a 215), .ref (a 207), .null, .int 0]))]) [1] rfl
              have hD9 := hD.sub (ws' := [((a 200), .inr (21, [.int 2, .ref (a 201), .ref (a 202), .ref (a 203), .ref (a 204), .ref (a 205), .ref (a 206), .int 0, .int 0, .int 0, .int 0, .ref (a 208), .ref (a 209), .ref (a 210), .ref (a 211), .ref (a 212), .int 4, .int 12, .int (-1), .int 0, .ref (g 200), .ref (a 213), .int 0, .int 97, .ref (a 214), .ref (a 215), .ref (a 207), .null, .int 0]))]) [1] (by decide) rfl
              refine W.widen (k := 0) (n := 0) (Nat.le_of_ble_eq_true rfl) (Nat.le_of_ble_eq_true rfl) ?_
              exact W.iret (v := 0) hx hb hr (fun t ht9 hW9 => ⟨⟨0, 2, rfl, (Or.inl ⟨rfl, rfl, (Or.inr (Or.inr (Or.inr (Or.inr (Or.inr (Or.inr ⟨c_1, c_6⟩))))))⟩), ⟨(by rw [ht9]; exact hP9), hD9⟩⟩, hS.F ht9⟩) hS.2.2 dX15_gate_112 hlocks
          · exact absurd c_59 (by decide)
        · exact absurd c_58 (by decide)
      · exact absurd c_57 (by decide)
set_option maxHeartbeats 4000000 in
set_option maxRecDepth 100000 in
theorem k_X15_isWire (l : Launch) (D : va_G) (g : Nat → ClassId) (z0 sz : Nat) (a : Nat → Nat) (p0 : Int32) : Met l yX15_isWire (.code yX15_isWire cX15_isWire 2 (some .boolean) :: TG) (rmk 1 0 0 22) (va_Pc [.ref (a 200), .int p0] (PP D g z0 sz [((a 200), f_m a g)])) (va_Qi (fun (r : Int32) (u : Unit) => (r = 0) ∧ True) (fun (_ : Unit) (_ : State) => True) (va_A [] sz)) 0 0 (va_A [] sz) := by
  refine met0 (cc := cX15_isWire) (n := 2) (by decide) (Nat.le_of_ble_eq_true rfl) ?_
  intro p e s m args below meth c hx hb hr hml hown ht hlocks hnm hP0 hD0 hK hZ hsz hz ls hl
  subst hsz
  have hA : ∀ q : Nat, s.heap.size ≤ q → va_A [] s.heap.size q := Anw
  have hAz : ∀ q, va_A [] s.heap.size q → z0 ≤ q := A0z hz
  have hS : va_S (va_A [] s.heap.size) s.heap s.heap [] := va_S.rf
  have hl : lv_has ls 2 [(0, .ref (a 200)), (1, .int p0)] := hl
  refine lv_iload_n hx hb dX15_isWire_0 rfl (lv_at hl 1 rfl) ?_
  refine lv_iconst (v := 0) hx hb dX15_isWire_1 (by decide) ?_
  refine lv_aload_n hx hb dX15_isWire_2 rfl (lv_at hl 0 rfl) ?_
  refine va_get (D := D) (ci := 21) (v := .int 0) (C := RX15) (T := TX15) (N := 29) hx hb ht in_X15 hown hK.1 (ro0 hP0 hS) 0 rfl rfl 22 (by decide) (ht _ w_380) (fun _ h9 => h9) rfl dX15_isWire_3 ?_
  refine lv_iconst (v := 1) hx hb dX15_isWire_6 (by decide) ?_
  refine lv_isub hx hb dX15_isWire_7 ?_
  refine r_topi (v := (-1)) (by decide) ?_
  have hPc : va_P D vwCl [] _ := (ro0 hP0 hS).sub (ws' := []) [] rfl
  have hDc : va_D (fun q => z0 ≤ q) [] := hD0.pick (ws' := []) [] (by decide) rfl
  have hFc := AnA (ws := []) hS.1
  refine va_calli (va_runS (As := [.int p0, .int 0, .int (-1)]) (rest := []) ⟨hx, hb, hml, hown, ht⟩ (k_X15_isBetween l D g z0 _ a p0) (va_cwS 3 ht (gS w_369 w_371 w_334 w_370) rfl rfl rfl (by decide +kernel) (le2 rfl rfl)) ⟨PP.blind, PP.mk' hK hZ hz hAz hS hPc hDc⟩ rfl rfl hl.1 rfl (lv_room (Nat.le_of_ble_eq_true rfl)) dX15_isWire_8 (le2 rfl rfl)) hS (fun q _ h => hFc q h) hFc (fun r u t H locs ht1 hvm hw hB hz1 hk1 hS => ?_)
  obtain ⟨rfl, hw⟩ := hw
  refine W.widen (k := 0) (n := 0) (Nat.le_of_ble_eq_true rfl) (Nat.le_of_ble_eq_true rfl) ?_
  exact W.zret (v := 0) hx hb hr rfl (fun t ht9 hW9 => ⟨⟨0, (), rfl, ⟨rfl, trivial⟩, trivial⟩, hS.F ht9⟩) hS.2.2 dX15_isWire_11 hlocks
set_option maxHeartbeats 4000000 in
set_option maxRecDepth 100000 in
theorem k_X15_isNoWire (l : Launch) (D : va_G) (g : Nat → ClassId) (z0 sz : Nat) (a : Nat → Nat) (p0 : Int32) (p1 : Int32) (hc_p1 : isC p1) : Met l yX15_isNoWire (.code yX15_isNoWire cX15_isNoWire 3 (some .boolean) :: TG) (rmk 2 0 0 43) (va_Pc [.ref (a 200), .int p0, .int p1] (PP D g z0 sz [((a 200), f_m a g)])) (va_Qi (fun (r : Int32) (u : Unit) => (r = 1) ∧ True) (fun (u : Unit) (t : State) => va_P D vwCl [((a 200), .inr (21, [.int 1, .ref (a 201), .ref (a 202), .ref (a 203), .ref (a 204), .ref (a 205), .ref (a 206), .int 0, .int 0, .int 0, .int 0, .ref (a 208), .ref (a 209), .ref (a 210), .ref (a 211), .ref (a 212), .int 4, .int 12, .int (-1), .int 0, .ref (g 200), .ref (a 213), .int 0, .int 97, .ref (a 214), .ref (a 215), .ref (a 207), .null, .int 0]))] t.heap ∧ va_D (va_A [((a 200), f_m a g)] sz) [((a 200), .inr (21, [.int 1, .ref (a 201), .ref (a 202), .ref (a 203), .ref (a 204), .ref (a 205), .ref (a 206), .int 0, .int 0, .int 0, .int 0, .ref (a 208), .ref (a 209), .ref (a 210), .ref (a 211), .ref (a 212), .int 4, .int 12, .int (-1), .int 0, .ref (g 200), .ref (a 213), .int 0, .int 97, .ref (a 214), .ref (a 215), .ref (a 207), .null, .int 0]))]) (va_A [((a 200), f_m a g)] sz)) 0 0 (va_A [((a 200), f_m a g)] sz) := by
  refine met0 (cc := cX15_isNoWire) (n := 3) (by decide) (Nat.le_of_ble_eq_true rfl) ?_
  intro p e s m args below meth c hx hb hr hml hown ht hlocks hnm hP0 hD0 hK hZ hsz hz ls hl
  subst hsz
  have hA : ∀ q : Nat, s.heap.size ≤ q → va_A [((a 200), f_m a g)] s.heap.size q := Anw
  have hAz : ∀ q, va_A [((a 200), f_m a g)] s.heap.size q → z0 ≤ q := Awz hz hD0
  have hS : va_S (va_A [((a 200), f_m a g)] s.heap.size) s.heap s.heap [] := va_S.rf
  have hD : va_D (va_A [((a 200), f_m a g)] s.heap.size) [((a 200), f_m a g)] := hD0.self
  have hP : va_P D vwCl [((a 200), f_m a g)] s.heap := hP0
  have hl : lv_has ls 3 [(0, .ref (a 200)), (1, .int p0), (2, .int p1)] := hl
  refine lv_aload_n hx hb dX15_isNoWire_0 rfl (lv_at hl 0 rfl) ?_
  refine lv_aload_n hx hb dX15_isNoWire_1 rfl (lv_at hl 0 rfl) ?_
  refine lv_iload_n hx hb dX15_isNoWire_2 rfl (lv_at hl 1 rfl) ?_
  have hPc : va_P D vwCl [((a 200), f_m a g)] _ := hP.sub (ws' := [((a 200), f_m a g)]) [0] rfl
  have hDc : va_D (fun q => z0 ≤ q) [((a 200), f_m a g)] := (hD.to hAz).pick (ws' := [((a 200), f_m a g)]) [0] (by decide) rfl
  have hFc := AnA (ws := [((a 200), f_m a g)]) hS.1
  refine va_calli (va_runV (As := [.int p0]) (rest := [.ref (a 200)]) ⟨hx, hb, hml, hown, ht⟩ (k_X15_isWire l D g z0 _ a p0) (cwV 1 ht (gV w_502 w_504 w_505 w_334 w_503) rfl rfl rfl (by decide +kernel) (le2 rfl rfl)) ⟨PP.blind, va_recv hK.1 hP (ci := 21) (q0 := 0) rfl rfl, PP.mk' hK hZ hz hAz hS hPc hDc⟩ rfl rfl hl.1 rfl (lv_room (Nat.le_of_ble_eq_true rfl)) dX15_isNoWire_3 (le2 rfl rfl)) hS (fun q _ h => hFc q h) hFc (fun r u t H locs ht1 hvm hw hB hz1 hk1 hS => ?_)
  obtain ⟨rfl, hw⟩ := hw
  have hP := ro1 hP hk1
  refine lv_if_ne (tgt := 13) hx hb dX15_isNoWire_6 (by decide) (fun c_1 => ?_) (fun c_1 => ?_)
  · exact absurd c_1 (by decide)
  · refine lv_iconst (v := 1) hx hb dX15_isNoWire_9 (by decide) ?_
    refine lv_goto (tgt := 30) hx hb dX15_isNoWire_10 (by decide) ?_
    have hPc : va_P D vwCl [((a 200), f_m a g)] _ := hP.sub (ws' := [((a 200), f_m a g)]) [0] rfl
    have hDc : va_D (fun q => z0 ≤ q) [((a 200), f_m a g)] := (hD.to hAz).pick (ws' := [((a 200), f_m a g)]) [0] (by decide) rfl
    have hFc := va_free (wc := [((a 200), f_m a g)]) hD hS hA [0] rfl
    refine va_calli (va_runV (As := [.int 1]) (rest := []) ⟨hx, hb, hml, hown, ht⟩ (k_X15_isWrong l D g z0 _ a) (cwV 1 ht (gV w_376 w_378 w_379 w_334 w_377) rfl rfl rfl (by decide +kernel) (le2 rfl rfl)) ⟨PP.blind, va_recv hK.1 hP (ci := 21) (q0 := 0) rfl rfl, PP.mk' hK hZ hz hAz hS hPc hDc⟩ rfl rfl hl.1 rfl (lv_room (Nat.le_of_ble_eq_true rfl)) dX15_isNoWire_30 (le2 rfl rfl)) hS (fun q _ h => hFc q h) hFc (fun r u t H locs ht1 hvm hw hB hz1 hk1 hS => ?_)
    obtain ⟨rfl, hw⟩ := hw
    obtain ⟨hP1, hD1⟩ := hB
    rw [ht1] at hP1
    obtain ⟨hP, hD⟩ := va_join (wr := []) (w1 := [((a 200), .inr (21, [.int 1, .ref (a 201), .ref (a 202), .ref (a 203), .ref (a 204), .ref (a 205), .ref (a 206), .int 0, .int 0, .int 0, .int 0, .ref (a 208), .ref (a 209), .ref (a 210), .ref (a 211), .ref (a 212), .int 4, .int 12, .int (-1), .int 0, .ref (g 200), .ref (a 213), .int 0, .int 97, .ref (a 214), .ref (a 215), .ref (a 207), .null, .int 0]))]) hP hD [0] [] rfl rfl (by decide) (by decide) hk1 hFc hP1 hD1
    have hP : va_P D vwCl [((a 200), .inr (21, [.int 1, .ref (a 201), .ref (a 202), .ref (a 203), .ref (a 204), .ref (a 205), .ref (a 206), .int 0, .int 0, .int 0, .int 0, .ref (a 208), .ref (a 209), .ref (a 210), .ref (a 211), .ref (a 212), .int 4, .int 12, .int (-1), .int 0, .ref (g 200), .ref (a 213), .int 0, .int 97, .ref (a 214), .ref (a 215), .ref (a 207), .null, .int 0]))] H := hP
    have hD : va_D (va_A [((a 200), f_m a g)] s.heap.size) [((a 200), .inr (21, [.int 1, .ref (a 201), .ref (a 202), .ref (a 203), .ref (a 204), .ref (a 205), .ref (a 206), .int 0, .int 0, .int 0, .int 0, .ref (a 208), .ref (a 209), .ref (a 210), .ref (a 211), .ref (a 212), .int 4, .int 12, .int (-1), .int 0, .ref (g 200), .ref (a 213), .int 0, .int 97, .ref (a 214), .ref (a 215), .ref (a 207), .null, .int 0]))] := hD
    have hP9 := hP.sub (ws' := [((a 200), .inr (21, [.int 1, .ref (a 201), .ref (a 202), .ref (a 203), .ref (a 204), .ref (a 205), .ref (a 206), .int 0, .int 0, .int 0, .int 0, .ref (a 208), .ref (a 209), .ref (a 210), .ref (a 211), .ref (a 212), .int 4, .int 12, .int (-1), .int 0, .ref (g 200), .ref (a 213), .int 0, .int 97, .ref (a 214), .ref (a 215), .ref (a 207), .null, .int 0]))]) [0] rfl
    have hD9 := hD.sub (ws' := [((a 200), .inr (21, [.int 1, .ref (a 201), .ref (a 202), .ref (a 203), .ref (a 204), .ref (a 205), .ref (a 206), .int 0, .int 0, .int 0, .int 0, .ref (a 208), .ref (a 209), .ref (a 210), .ref (a 211), .ref (a 212), .int 4, .int 12, .int (-1), .int 0, .ref (g 200), .ref (a 213), .int 0, .int 97, .ref (a 214), .ref (a 215), .ref (a 207), .null, .int 0]))]) [0] (by decide) rfl
    refine W.widen (k := 0) (n := 0) (Nat.le_of_ble_eq_true rfl) (Nat.le_of_ble_eq_true rfl) ?_
    exact W.zret (v := 1) hx hb hr rfl (fun t ht9 hW9 => ⟨⟨1, (), rfl, ⟨rfl, trivial⟩, ⟨(by rw [ht9]; exact hP9), hD9⟩⟩, hS.F ht9⟩) hS.2.2 dX15_isNoWire_33 hlocks
set_option maxHeartbeats 4000000 in
set_option maxRecDepth 100000 in
theorem k_X15_got (l : Launch) (D : va_G) (g : Nat → ClassId) (z0 sz : Nat) (a : Nat → Nat) (p0 : Int32) (p1 : Int32) (hc_p1 : isC p1) : Met l yX15_got (.code yX15_got cX15_got 3 (some .int) :: TG) (rmk 3 0 0 65) (va_Pc [.ref (a 200), .int p0, .int p1] (PP D g z0 sz [((a 200), f_m a g)])) (va_Qi (fun (r : Int32) (u : Unit) => (r = 0) ∧ True) (fun (u : Unit) (t : State) => va_P D vwCl [((a 200), .inr (21, [.int 1, .ref (a 201), .ref (a 202), .ref (a 203), .ref (a 204), .ref (a 205), .ref (a 206), .int 0, .int 0, .int 0, .int 0, .ref (a 208), .ref (a 209), .ref (a 210), .ref (a 211), .ref (a 212), .int 4, .int 12, .int (-1), .int 0, .ref (g 200), .ref (a 213), .int 0, .int 97, .ref (a 214), .ref (a 215), .ref (a 207), .null, .int 0]))] t.heap ∧ va_D (va_A [((a 200), f_m a g)] sz) [((a 200), .inr (21, [.int 1, .ref (a 201), .ref (a 202), .ref (a 203), .ref (a 204), .ref (a 205), .ref (a 206), .int 0, .int 0, .int 0, .int 0, .ref (a 208), .ref (a 209), .ref (a 210), .ref (a 211), .ref (a 212), .int 4, .int 12, .int (-1), .int 0, .ref (g 200), .ref (a 213), .int 0, .int 97, .ref (a 214), .ref (a 215), .ref (a 207), .null, .int 0]))]) (va_A [((a 200), f_m a g)] sz)) 0 0 (va_A [((a 200), f_m a g)] sz) := by
  refine met0 (cc := cX15_got) (n := 3) (by decide) (Nat.le_of_ble_eq_true rfl) ?_
  intro p e s m args below meth c hx hb hr hml hown ht hlocks hnm hP0 hD0 hK hZ hsz hz ls hl
  subst hsz
  have hA : ∀ q : Nat, s.heap.size ≤ q → va_A [((a 200), f_m a g)] s.heap.size q := Anw
  have hAz : ∀ q, va_A [((a 200), f_m a g)] s.heap.size q → z0 ≤ q := Awz hz hD0
  have hS : va_S (va_A [((a 200), f_m a g)] s.heap.size) s.heap s.heap [] := va_S.rf
  have hD : va_D (va_A [((a 200), f_m a g)] s.heap.size) [((a 200), f_m a g)] := hD0.self
  have hP : va_P D vwCl [((a 200), f_m a g)] s.heap := hP0
  have hl : lv_has ls 3 [(0, .ref (a 200)), (1, .int p0), (2, .int p1)] := hl
  refine lv_aload_n hx hb dX15_got_0 rfl (lv_at hl 0 rfl) ?_
  refine lv_iload_n hx hb dX15_got_1 rfl (lv_at hl 1 rfl) ?_
  refine lv_iload_n hx hb dX15_got_2 rfl (lv_at hl 2 rfl) ?_
  have hPc : va_P D vwCl [((a 200), f_m a g)] _ := hP.sub (ws' := [((a 200), f_m a g)]) [0] rfl
  have hDc : va_D (fun q => z0 ≤ q) [((a 200), f_m a g)] := (hD.to hAz).pick (ws' := [((a 200), f_m a g)]) [0] (by decide) rfl
  have hFc := va_free (wc := [((a 200), f_m a g)]) hD hS hA [0] rfl
  refine va_calli (va_runV (As := [.int p0, .int p1]) (rest := []) ⟨hx, hb, hml, hown, ht⟩ (k_X15_isNoWire l D g z0 _ a p0 p1 hc_p1) (cwV 2 ht (gV w_506 w_508 w_509 w_334 w_507) rfl rfl rfl (by decide +kernel) (le2 rfl rfl)) ⟨PP.blind, va_recv hK.1 hP (ci := 21) (q0 := 0) rfl rfl, PP.mk' hK hZ hz hAz hS hPc hDc⟩ rfl rfl hl.1 rfl (lv_room (Nat.le_of_ble_eq_true rfl)) dX15_got_3 (le2 rfl rfl)) hS (fun q _ h => hFc q h) hFc (fun r u t H locs ht1 hvm hw hB hz1 hk1 hS => ?_)
  obtain ⟨rfl, hw⟩ := hw
  obtain ⟨hP1, hD1⟩ := hB
  rw [ht1] at hP1
  obtain ⟨hP, hD⟩ := va_join (wr := []) (w1 := [((a 200), .inr (21, [.int 1, .ref (a 201), .ref (a 202), .ref (a 203), .ref (a 204), .ref (a 205), .ref (a 206), .int 0, .int 0, .int 0, .int 0, .ref (a 208), .ref (a 209), .ref (a 210), .ref (a 211), .ref (a 212), .int 4, .int 12, .int (-1), .int 0, .ref (g 200), .ref (a 213), .int 0, .int 97, .ref (a 214), .ref (a 215), .ref (a 207), .null, .int 0]))]) hP hD [0] [] rfl rfl (by decide) (by decide) hk1 hFc hP1 hD1
  have hP : va_P D vwCl [((a 200), .inr (21, [.int 1, .ref (a 201), .ref (a 202), .ref (a 203), .ref (a 204), .ref (a 205), .ref (a 206), .int 0, .int 0, .int 0, .int 0, .ref (a 208), .ref (a 209), .ref (a 210), .ref (a 211), .ref (a 212), .int 4, .int 12, .int (-1), .int 0, .ref (g 200), .ref (a 213), .int 0, .int 97, .ref (a 214), .ref (a 215), .ref (a 207), .null, .int 0]))] H := hP
  have hD : va_D (va_A [((a 200), f_m a g)] s.heap.size) [((a 200), .inr (21, [.int 1, .ref (a 201), .ref (a 202), .ref (a 203), .ref (a 204), .ref (a 205), .ref (a 206), .int 0, .int 0, .int 0, .int 0, .ref (a 208), .ref (a 209), .ref (a 210), .ref (a 211), .ref (a 212), .int 4, .int 12, .int (-1), .int 0, .ref (g 200), .ref (a 213), .int 0, .int 97, .ref (a 214), .ref (a 215), .ref (a 207), .null, .int 0]))] := hD
  refine lv_if_eq (tgt := 13) hx hb dX15_got_6 (by decide) (fun c_1 => ?_) (fun c_1 => ?_)
  · exact absurd c_1 (by decide)
  · refine lv_iconst (v := 0) hx hb dX15_got_9 (by decide) ?_
    refine lv_goto (tgt := 19) hx hb dX15_got_10 (by decide) ?_
    have hP9 := hP.sub (ws' := [((a 200), .inr (21, [.int 1, .ref (a 201), .ref (a 202), .ref (a 203), .ref (a 204), .ref (a 205), .ref (a 206), .int 0, .int 0, .int 0, .int 0, .ref (a 208), .ref (a 209), .ref (a 210), .ref (a 211), .ref (a 212), .int 4, .int 12, .int (-1), .int 0, .ref (g 200), .ref (a 213), .int 0, .int 97, .ref (a 214), .ref (a 215), .ref (a 207), .null, .int 0]))]) [0] rfl
    have hD9 := hD.sub (ws' := [((a 200), .inr (21, [.int 1, .ref (a 201), .ref (a 202), .ref (a 203), .ref (a 204), .ref (a 205), .ref (a 206), .int 0, .int 0, .int 0, .int 0, .ref (a 208), .ref (a 209), .ref (a 210), .ref (a 211), .ref (a 212), .int 4, .int 12, .int (-1), .int 0, .ref (g 200), .ref (a 213), .int 0, .int 97, .ref (a 214), .ref (a 215), .ref (a 207), .null, .int 0]))]) [0] (by decide) rfl
    refine W.widen (k := 0) (n := 0) (Nat.le_of_ble_eq_true rfl) (Nat.le_of_ble_eq_true rfl) ?_
    exact W.iret (v := 0) hx hb hr (fun t ht9 hW9 => ⟨⟨0, (), rfl, ⟨rfl, trivial⟩, ⟨(by rw [ht9]; exact hP9), hD9⟩⟩, hS.F ht9⟩) hS.2.2 dX15_got_19 hlocks
set_option maxHeartbeats 4000000 in
set_option maxRecDepth 100000 in
theorem k_X15_hardest (l : Launch) (D : va_G) (g : Nat → ClassId) (z0 sz : Nat) (a : Nat → Nat) : Met l yX15_hardest (.code yX15_hardest cX15_hardest 6 (some .int) :: TG) (rmk 5 3 7 95) (va_Pc [.ref (a 200)] (PP D g z0 sz [((a 200), f_m a g), ((a 201), .inr (5, [.int 0, .ref (g 100), .int 0]))])) (va_Qi (fun (r : Int32) (u : Unit) => (r = 0) ∧ True) (fun (u : Unit) (t : State) => va_P D vwCl [((a 200), .inr (21, [.int 1, .ref (a 201), .ref (a 202), .ref (a 203), .ref (a 204), .ref (a 205), .ref (a 206), .int 0, .int 0, .int 0, .int 0, .ref (a 208), .ref (a 209), .ref (a 210), .ref (a 211), .ref (a 212), .int 4, .int 12, .int (-1), .int 0, .ref (g 200), .ref (a 213), .int 0, .int 97, .ref (a 214), .ref (a 215), .ref (a 207), .null, .int 0]))] t.heap ∧ va_D (va_A [((a 200), f_m a g), ((a 201), .inr (5, [.int 0, .ref (g 100), .int 0]))] sz) [((a 200), .inr (21, [.int 1, .ref (a 201), .ref (a 202), .ref (a 203), .ref (a 204), .ref (a 205), .ref (a 206), .int 0, .int 0, .int 0, .int 0, .ref (a 208), .ref (a 209), .ref (a 210), .ref (a 211), .ref (a 212), .int 4, .int 12, .int (-1), .int 0, .ref (g 200), .ref (a 213), .int 0, .int 97, .ref (a 214), .ref (a 215), .ref (a 207), .null, .int 0]))]) (va_A [((a 200), f_m a g), ((a 201), .inr (5, [.int 0, .ref (g 100), .int 0]))] sz)) 3 7 (va_A [((a 200), f_m a g), ((a 201), .inr (5, [.int 0, .ref (g 100), .int 0]))] sz) := by
  refine met0 (cc := cX15_hardest) (n := 6) (by decide) (Nat.le_of_ble_eq_true rfl) ?_
  intro p e s m args below meth c hx hb hr hml hown ht hlocks hnm hP0 hD0 hK hZ hsz hz ls hl
  subst hsz
  have hA : ∀ q : Nat, s.heap.size ≤ q → va_A [((a 200), f_m a g), ((a 201), .inr (5, [.int 0, .ref (g 100), .int 0]))] s.heap.size q := Anw
  have hAz : ∀ q, va_A [((a 200), f_m a g), ((a 201), .inr (5, [.int 0, .ref (g 100), .int 0]))] s.heap.size q → z0 ≤ q := Awz hz hD0
  have hS : va_S (va_A [((a 200), f_m a g), ((a 201), .inr (5, [.int 0, .ref (g 100), .int 0]))] s.heap.size) s.heap s.heap [] := va_S.rf
  have hD : va_D (va_A [((a 200), f_m a g), ((a 201), .inr (5, [.int 0, .ref (g 100), .int 0]))] s.heap.size) [((a 200), f_m a g), ((a 201), .inr (5, [.int 0, .ref (g 100), .int 0]))] := hD0.self
  have hP : va_P D vwCl [((a 200), f_m a g), ((a 201), .inr (5, [.int 0, .ref (g 100), .int 0]))] s.heap := hP0
  have hl : lv_has ls 6 [(0, .ref (a 200))] := hl
  refine lv_iconst (v := (-1)) hx hb dX15_hardest_0 (by decide) ?_
  refine lv_istore_n (lv' := [(1, .int (-1)), (0, .ref (a 200))]) hx hb dX15_hardest_1 rfl hl (by decide) rfl (fun ls hl => ?_)
  refine lv_iconst (v := 0) hx hb dX15_hardest_2 (by decide) ?_
  refine lv_istore_n (lv' := [(2, .int 0), (1, .int (-1)), (0, .ref (a 200))]) hx hb dX15_hardest_3 rfl hl (by decide) rfl (fun ls hl => ?_)
  refine lv_aload_n hx hb dX15_hardest_4 rfl (lv_at hl 2 rfl) ?_
  have hPc : va_P D vwCl [((a 200), f_m a g), ((a 201), .inr (5, [.int 0, .ref (g 100), .int 0]))] _ := hP.sub (ws' := [((a 200), f_m a g), ((a 201), .inr (5, [.int 0, .ref (g 100), .int 0]))]) [0, 1] rfl
  have hDc : va_D (fun q => z0 ≤ q) [((a 200), f_m a g), ((a 201), .inr (5, [.int 0, .ref (g 100), .int 0]))] := (hD.to hAz).pick (ws' := [((a 200), f_m a g), ((a 201), .inr (5, [.int 0, .ref (g 100), .int 0]))]) [0, 1] (by decide) rfl
  have hFc := va_free (wc := [((a 200), f_m a g), ((a 201), .inr (5, [.int 0, .ref (g 100), .int 0]))]) hD hS hA [0, 1] rfl
  refine va_callr (va_runV (As := []) (rest := []) ⟨hx, hb, hml, hown, ht⟩ (k_X15_allClasses l D g z0 _ a) (cwV 0 ht (gV w_364 w_366 w_367 w_334 w_365) rfl rfl rfl (by decide +kernel) (le2 rfl rfl)) ⟨PP.blind, va_recv hK.1 hP (ci := 21) (q0 := 0) rfl rfl, PP.mk' hK hZ hz hAz hS hPc hDc⟩ rfl rfl hl.1 rfl (lv_room (Nat.le_of_ble_eq_true rfl)) dX15_hardest_5 (le2 rfl rfl)) hS (fun q _ h => hFc q h) hFc (fun u ra t H locs ht1 hvm hw hB hz1 hk1 hS => ?_)
  obtain ⟨q_1, hr9, hP1, hD1⟩ := hB
  rw [ht1] at hP1
  obtain ⟨hP, hD⟩ := va_join (wr := []) (w1 := [(q_1, .inr (5, [.int 0, .ref (g 100), .int 0])), ((a 200), f_m a g), ((a 201), .inr (5, [.int 0, .ref (g 100), .int 0]))]) hP hD [0, 1] [] rfl rfl (by decide) (by decide) hk1 hFc hP1 hD1
  subst hr9
  have hP : va_P D vwCl [(q_1, .inr (5, [.int 0, .ref (g 100), .int 0])), ((a 200), f_m a g), ((a 201), .inr (5, [.int 0, .ref (g 100), .int 0]))] H := hP
  have hD : va_D (va_A [((a 200), f_m a g), ((a 201), .inr (5, [.int 0, .ref (g 100), .int 0]))] s.heap.size) [(q_1, .inr (5, [.int 0, .ref (g 100), .int 0])), ((a 200), f_m a g), ((a 201), .inr (5, [.int 0, .ref (g 100), .int 0]))] := hD
  have hPc : va_P D vwCl [(q_1, .inr (5, [.int 0, .ref (g 100), .int 0]))] _ := hP.sub (ws' := [(q_1, .inr (5, [.int 0, .ref (g 100), .int 0]))]) [0] rfl
  have hDc : va_D (fun q => z0 ≤ q) [(q_1, .inr (5, [.int 0, .ref (g 100), .int 0]))] := (hD.to hAz).pick (ws' := [(q_1, .inr (5, [.int 0, .ref (g 100), .int 0]))]) [0] (by decide) rfl
  have hFc := va_free (wc := [(q_1, .inr (5, [.int 0, .ref (g 100), .int 0]))]) hD hS hA [0] rfl
  refine va_callFr (va_runF (As := []) (rest := []) (hK.1.1 5 _ rfl).2 ⟨hx, hb, hml, hown, ht⟩ (k_Jx4a65c_iterator_32c93 l D g z0 _ a q_1) (va_cwF 0 ht (gF w_319 w_321 w_322 w_323 w_320) rfl rfl rfl (hK.2.2.2.1 _ (List.mem_of_getElem? (i := 3) rfl)) (by decide +kernel) (le2 rfl rfl)) ⟨PP.blind, va_recv hK.1 hP (ci := 5) (q0 := 0) rfl rfl, PP.mk' hK hZ hz hAz hS hPc hDc⟩ rfl rfl hl.1 rfl (lv_room (Nat.le_of_ble_eq_true rfl)) dX15_hardest_8 (le2 rfl rfl)) hS (fun q _ h => hFc q h) hFc (fun u ra t H locs ht1 hvm hw hB hz1 hk1 hS => ?_)
  obtain ⟨q_2, hr9, hP1, hD1⟩ := hB
  rw [ht1] at hP1
  obtain ⟨hP, hD⟩ := va_join (wr := [((a 200), f_m a g), ((a 201), .inr (5, [.int 0, .ref (g 100), .int 0]))]) (w1 := [(q_2, .inr (4, [.int 0, .int (-1), .int 0, .ref q_1])), (q_1, .inr (5, [.int 0, .ref (g 100), .int 0]))]) hP hD [0] [1, 2] rfl rfl (by decide) (by decide) hk1 hFc hP1 hD1
  subst hr9
  have hP : va_P D vwCl [((a 200), f_m a g), ((a 201), .inr (5, [.int 0, .ref (g 100), .int 0])), (q_2, .inr (4, [.int 0, .int (-1), .int 0, .ref q_1])), (q_1, .inr (5, [.int 0, .ref (g 100), .int 0]))] H := hP
  have hD : va_D (va_A [((a 200), f_m a g), ((a 201), .inr (5, [.int 0, .ref (g 100), .int 0]))] s.heap.size) [((a 200), f_m a g), ((a 201), .inr (5, [.int 0, .ref (g 100), .int 0])), (q_2, .inr (4, [.int 0, .int (-1), .int 0, .ref q_1])), (q_1, .inr (5, [.int 0, .ref (g 100), .int 0]))] := hD
  refine lv_astore_n (lv' := [(3, .ref q_2), (2, .int 0), (1, .int (-1)), (0, .ref (a 200))]) hx hb dX15_hardest_13 rfl hl (by decide) rfl (fun ls hl => ?_)
  refine lv_aload_n hx hb dX15_hardest_14 rfl (lv_at hl 0 rfl) ?_
  have hPc : va_P D vwCl [(q_2, .inr (4, [.int 0, .int (-1), .int 0, .ref q_1])), (q_1, .inr (5, [.int 0, .ref (g 100), .int 0]))] _ := hP.sub (ws' := [(q_2, .inr (4, [.int 0, .int (-1), .int 0, .ref q_1])), (q_1, .inr (5, [.int 0, .ref (g 100), .int 0]))]) [2, 3] rfl
  have hDc : va_D (fun q => z0 ≤ q) [(q_2, .inr (4, [.int 0, .int (-1), .int 0, .ref q_1])), (q_1, .inr (5, [.int 0, .ref (g 100), .int 0]))] := (hD.to hAz).pick (ws' := [(q_2, .inr (4, [.int 0, .int (-1), .int 0, .ref q_1])), (q_1, .inr (5, [.int 0, .ref (g 100), .int 0]))]) [2, 3] (by decide) rfl
  have hFc := AnA (ws := [((a 200), f_m a g), ((a 201), .inr (5, [.int 0, .ref (g 100), .int 0]))]) hS.1
  refine va_callFi (va_runF (As := []) (rest := []) (hK.1.1 4 _ rfl).2 ⟨hx, hb, hml, hown, ht⟩ (k_Jx35411_hasNext_aae02 l D g z0 _ a q_2 q_1) (va_cwF 0 ht (gF w_326 w_328 w_329 w_307 w_327) rfl rfl rfl (hK.2.2.2.1 _ (List.mem_of_getElem? (i := 4) rfl)) (by decide +kernel) (le2 rfl rfl)) ⟨PP.blind, va_recv hK.1 hP (ci := 4) (q0 := 2) rfl rfl, PP.mk' hK hZ hz hAz hS hPc hDc⟩ rfl rfl hl.1 rfl (lv_room (Nat.le_of_ble_eq_true rfl)) dX15_hardest_15 (le2 rfl rfl)) hS (fun q _ h => hFc q h) hFc (fun r u t H locs ht1 hvm hw hB hz1 hk1 hS => ?_)
  obtain ⟨rfl, hw⟩ := hw
  have hP := ro1 hP hk1
  refine lv_if_eq (tgt := 85) hx hb dX15_hardest_20 (by decide) (fun c_3 => ?_) (fun c_3 => ?_)
  · refine lv_aload_n hx hb dX15_hardest_85 rfl (lv_at hl 3 rfl) ?_
    refine lv_iload_n hx hb dX15_hardest_86 rfl (lv_at hl 2 rfl) ?_
    refine lv_iconst (v := (-1)) hx hb dX15_hardest_87 (by decide) ?_
    refine lv_icmp_ne (tgt := 95) hx hb dX15_hardest_88 (by decide) (fun c_4 => ?_) (fun c_4 => ?_)
    · exact absurd c_4 (by decide)
    · refine lv_iconst (v := 1) hx hb dX15_hardest_91 (by decide) ?_
      refine lv_goto (tgt := 96) hx hb dX15_hardest_92 (by decide) ?_
      have hPc : va_P D vwCl [((a 200), f_m a g)] _ := hP.sub (ws' := [((a 200), f_m a g)]) [0] rfl
      have hDc : va_D (fun q => z0 ≤ q) [((a 200), f_m a g)] := (hD.to hAz).pick (ws' := [((a 200), f_m a g)]) [0] (by decide) rfl
      have hFc := va_free (wc := [((a 200), f_m a g)]) hD hS hA [0] rfl
      refine va_calli (va_runV (As := [.int 1]) (rest := []) ⟨hx, hb, hml, hown, ht⟩ (k_X15_isWrong l D g z0 _ a) (cwV 1 ht (gV w_376 w_378 w_379 w_334 w_377) rfl rfl rfl (by decide +kernel) (le2 rfl rfl)) ⟨PP.blind, va_recv hK.1 hP (ci := 21) (q0 := 0) rfl rfl, PP.mk' hK hZ hz hAz hS hPc hDc⟩ rfl rfl hl.1 rfl (lv_room (Nat.le_of_ble_eq_true rfl)) dX15_hardest_96 (le2 rfl rfl)) hS (fun q _ h => hFc q h) hFc (fun r u t H locs ht1 hvm hw hB hz1 hk1 hS => ?_)
      obtain ⟨rfl, hw⟩ := hw
      obtain ⟨hP1, hD1⟩ := hB
      rw [ht1] at hP1
      obtain ⟨hP, hD⟩ := va_join (wr := [((a 201), .inr (5, [.int 0, .ref (g 100), .int 0])), (q_2, .inr (4, [.int 0, .int (-1), .int 0, .ref q_1])), (q_1, .inr (5, [.int 0, .ref (g 100), .int 0]))]) (w1 := [((a 200), .inr (21, [.int 1, .ref (a 201), .ref (a 202), .ref (a 203), .ref (a 204), .ref (a 205), .ref (a 206), .int 0, .int 0, .int 0, .int 0, .ref (a 208), .ref (a 209), .ref (a 210), .ref (a 211), .ref (a 212), .int 4, .int 12, .int (-1), .int 0, .ref (g 200), .ref (a 213), .int 0, .int 97, .ref (a 214), .ref (a 215), .ref (a 207), .null, .int 0]))]) hP hD [0] [1, 2, 3] rfl rfl (by decide) (by decide) hk1 hFc hP1 hD1
      have hP : va_P D vwCl [((a 201), .inr (5, [.int 0, .ref (g 100), .int 0])), (q_2, .inr (4, [.int 0, .int (-1), .int 0, .ref q_1])), (q_1, .inr (5, [.int 0, .ref (g 100), .int 0])), ((a 200), .inr (21, [.int 1, .ref (a 201), .ref (a 202), .ref (a 203), .ref (a 204), .ref (a 205), .ref (a 206), .int 0, .int 0, .int 0, .int 0, .ref (a 208), .ref (a 209), .ref (a 210), .ref (a 211), .ref (a 212), .int 4, .int 12, .int (-1), .int 0, .ref (g 200), .ref (a 213), .int 0, .int 97, .ref (a 214), .ref (a 215), .ref (a 207), .null, .int 0]))] H := hP
      have hD : va_D (va_A [((a 200), f_m a g), ((a 201), .inr (5, [.int 0, .ref (g 100), .int 0]))] s.heap.size) [((a 201), .inr (5, [.int 0, .ref (g 100), .int 0])), (q_2, .inr (4, [.int 0, .int (-1), .int 0, .ref q_1])), (q_1, .inr (5, [.int 0, .ref (g 100), .int 0])), ((a 200), .inr (21, [.int 1, .ref (a 201), .ref (a 202), .ref (a 203), .ref (a 204), .ref (a 205), .ref (a 206), .int 0, .int 0, .int 0, .int 0, .ref (a 208), .ref (a 209), .ref (a 210), .ref (a 211), .ref (a 212), .int 4, .int 12, .int (-1), .int 0, .ref (g 200), .ref (a 213), .int 0, .int 97, .ref (a 214), .ref (a 215), .ref (a 207), .null, .int 0]))] := hD
      refine lv_if_eq (tgt := 106) hx hb dX15_hardest_99 (by decide) (fun c_5 => ?_) (fun c_5 => ?_)
      · exact absurd c_5 (by decide)
      · refine lv_iconst (v := 0) hx hb dX15_hardest_102 (by decide) ?_
        refine lv_goto (tgt := 107) hx hb dX15_hardest_103 (by decide) ?_
        have hP9 := hP.sub (ws' := [((a 200), .inr (21, [.int 1, .ref (a 201), .ref (a 202), .ref (a 203), .ref (a 204), .ref (a 205), .ref (a 206), .int 0, .int 0, .int 0, .int 0, .ref (a 208), .ref (a 209), .ref (a 210), .ref (a 211), .ref (a 212), .int 4, .int 12, .int (-1), .int 0, .ref (g 200), .ref (a 213), .int 0, .int 97, .ref (a 214), .ref (a 215), .ref (a 207), .null, .int 0]))]) [3] rfl
        have hD9 := hD.sub (ws' := [((a 200), .inr (21, [.int 1, .ref (a 201), .ref (a 202), .ref (a 203), .ref (a 204), .ref (a 205), .ref (a 206), .int 0, .int 0, .int 0, .int 0, .ref (a 208), .ref (a 209), .ref (a 210), .ref (a 211), .ref (a 212), .int 4, .int 12, .int (-1), .int 0, .ref (g 200), .ref (a 213), .int 0, .int 97, .ref (a 214), .ref (a 215), .ref (a 207), .null, .int 0]))]) [3] (by decide) rfl
        refine W.widen (k := 3) (n := 7) (Nat.le_of_ble_eq_true rfl) (Nat.le_of_ble_eq_true rfl) ?_
        exact W.iret (v := 0) hx hb hr (fun t ht9 hW9 => ⟨⟨0, (), rfl, ⟨rfl, trivial⟩, ⟨(by rw [ht9]; exact hP9), hD9⟩⟩, hS.F ht9⟩) hS.2.2 dX15_hardest_107 hlocks
  · exact absurd c_3 (by decide)
set_option maxHeartbeats 4000000 in
set_option maxRecDepth 100000 in
theorem k_Jx4a65c_add_72be8_v3 (l : Launch) (D : va_G) (g : Nat → ClassId) (z0 sz : Nat) (a : Nat → Nat) (h0 : Nat) (h1 : Nat) (h2 : Nat) (fh2 : Nat → Int32) : Met l yJx4a65c_add_72be8 (.code yJx4a65c_add_72be8 cJx4a65c_add_72be8 4 none :: TG) (rmk 3 1 10 57) (va_Pc [.ref h0, .ref h1, .ref (g 100), .int 0] (PP D g z0 sz [(h0, .inr (5, [.int 1, .ref (g 100), .int 0])), (h1, .inr (19, [.int 105, .ref h2, .int 0, .int (-1), .int 0, .int (-1), .int 0, .int 0]))])) (va_Qv (fun (u : Unit) => True) (fun (u : Unit) (t : State) => ∃ (q_2 : Nat), va_P D vwCl [(h1, .inr (19, [.int 105, .ref h2, .int 0, .int (-1), .int 0, .int (-1), .int 0, .int 0])), (h0, .inr (5, [.int 1, .ref q_2, .int 1])), (q_2, .inl (g 8, 10, .inr (.inr (.inr (.inr (va_up (fun _ => none) (0 : Int32).toNatClampNeg (some h1)))))))] t.heap ∧ va_D (va_A [(h0, .inr (5, [.int 1, .ref (g 100), .int 0])), (h1, .inr (19, [.int 105, .ref h2, .int 0, .int (-1), .int 0, .int (-1), .int 0, .int 0]))] sz) [(h1, .inr (19, [.int 105, .ref h2, .int 0, .int (-1), .int 0, .int (-1), .int 0, .int 0])), (h0, .inr (5, [.int 1, .ref q_2, .int 1])), (q_2, .inl (g 8, 10, .inr (.inr (.inr (.inr (va_up (fun _ => none) (0 : Int32).toNatClampNeg (some h1)))))))]) (va_A [(h0, .inr (5, [.int 1, .ref (g 100), .int 0])), (h1, .inr (19, [.int 105, .ref h2, .int 0, .int (-1), .int 0, .int (-1), .int 0, .int 0]))] sz)) 1 10 (va_A [(h0, .inr (5, [.int 1, .ref (g 100), .int 0])), (h1, .inr (19, [.int 105, .ref h2, .int 0, .int (-1), .int 0, .int (-1), .int 0, .int 0]))] sz) := by
  refine met0 (cc := cJx4a65c_add_72be8) (n := 4) (by decide) (Nat.le_of_ble_eq_true rfl) ?_
  intro p e s m args below meth c hx hb hr hml hown ht hlocks hnm hP0 hD0 hK hZ hsz hz ls hl
  subst hsz
  have hA : ∀ q : Nat, s.heap.size ≤ q → va_A [(h0, .inr (5, [.int 1, .ref (g 100), .int 0])), (h1, .inr (19, [.int 105, .ref h2, .int 0, .int (-1), .int 0, .int (-1), .int 0, .int 0]))] s.heap.size q := Anw
  have hAz : ∀ q, va_A [(h0, .inr (5, [.int 1, .ref (g 100), .int 0])), (h1, .inr (19, [.int 105, .ref h2, .int 0, .int (-1), .int 0, .int (-1), .int 0, .int 0]))] s.heap.size q → z0 ≤ q := Awz hz hD0
  have hS : va_S (va_A [(h0, .inr (5, [.int 1, .ref (g 100), .int 0])), (h1, .inr (19, [.int 105, .ref h2, .int 0, .int (-1), .int 0, .int (-1), .int 0, .int 0]))] s.heap.size) s.heap s.heap [] := va_S.rf
  have hD : va_D (va_A [(h0, .inr (5, [.int 1, .ref (g 100), .int 0])), (h1, .inr (19, [.int 105, .ref h2, .int 0, .int (-1), .int 0, .int (-1), .int 0, .int 0]))] s.heap.size) [(h0, .inr (5, [.int 1, .ref (g 100), .int 0])), (h1, .inr (19, [.int 105, .ref h2, .int 0, .int (-1), .int 0, .int (-1), .int 0, .int 0]))] := hD0.self
  have hP : va_P D vwCl [(h0, .inr (5, [.int 1, .ref (g 100), .int 0])), (h1, .inr (19, [.int 105, .ref h2, .int 0, .int (-1), .int 0, .int (-1), .int 0, .int 0]))] s.heap := hP0
  have hl : lv_has ls 4 [(0, .ref h0), (1, .ref h1), (2, .ref (g 100)), (3, .int 0)] := hl
  refine lv_iload_n hx hb dJx4a65c_add_72be8_0 rfl (lv_at hl 3 rfl) ?_
  refine lv_aload_n hx hb dJx4a65c_add_72be8_1 rfl (lv_at hl 2 rfl) ?_
  refine va_tlen (v := 0) hx hb (hZ.m hAz).2.1 hS rfl dJx4a65c_add_72be8_2 ?_
  refine lv_icmp_ne (tgt := 11) hx hb dJx4a65c_add_72be8_3 (by decide) (fun c_1 => ?_) (fun c_1 => ?_)
  · exact absurd c_1 (by decide)
  · refine lv_aload_n hx hb dJx4a65c_add_72be8_6 rfl (lv_at hl 0 rfl) ?_
    have hPc : va_P D vwCl [(h0, .inr (5, [.int 1, .ref (g 100), .int 0]))] _ := hP.sub (ws' := [(h0, .inr (5, [.int 1, .ref (g 100), .int 0]))]) [0] rfl
    have hDc : va_D (fun q => z0 ≤ q) [(h0, .inr (5, [.int 1, .ref (g 100), .int 0]))] := (hD.to hAz).pick (ws' := [(h0, .inr (5, [.int 1, .ref (g 100), .int 0]))]) [0] (by decide) rfl
    have hFc := va_free (wc := [(h0, .inr (5, [.int 1, .ref (g 100), .int 0]))]) hD hS hA [0] rfl
    refine va_callr (va_runV (As := []) (rest := []) ⟨hx, hb, hml, hown, ht⟩ (k_Jx4a65c_grow_d5877 l D g z0 _ a h0) (cwV 0 ht (gV w_463 w_465 w_466 w_323 w_464) rfl rfl rfl (by decide +kernel) (le2 rfl rfl)) ⟨PP.blind, va_recv hK.1 hP (ci := 5) (q0 := 0) rfl rfl, PP.mk' hK hZ hz hAz hS hPc hDc⟩ rfl rfl hl.1 rfl (lv_room (Nat.le_of_ble_eq_true rfl)) dJx4a65c_add_72be8_7 (le2 rfl rfl)) hS (fun q _ h => hFc q h) hFc (fun u ra t H locs ht1 hvm hw hB hz1 hk1 hS => ?_)
    obtain ⟨q_2, hr9, hP1, hD1⟩ := hB
    rw [ht1] at hP1
    obtain ⟨hP, hD⟩ := va_join (wr := [(h1, .inr (19, [.int 105, .ref h2, .int 0, .int (-1), .int 0, .int (-1), .int 0, .int 0]))]) (w1 := [(h0, .inr (5, [.int 1, .ref q_2, .int 0])), (q_2, .inl (g 8, 10, .inr (.inr (.inr (.inr (fun _ => none))))))]) hP hD [0] [1] rfl rfl (by decide) (by decide) hk1 hFc hP1 hD1
    subst hr9
    have hP : va_P D vwCl [(h1, .inr (19, [.int 105, .ref h2, .int 0, .int (-1), .int 0, .int (-1), .int 0, .int 0])), (h0, .inr (5, [.int 1, .ref q_2, .int 0])), (q_2, .inl (g 8, 10, .inr (.inr (.inr (.inr (fun _ => none))))))] H := hP
    have hD : va_D (va_A [(h0, .inr (5, [.int 1, .ref (g 100), .int 0])), (h1, .inr (19, [.int 105, .ref h2, .int 0, .int (-1), .int 0, .int (-1), .int 0, .int 0]))] s.heap.size) [(h1, .inr (19, [.int 105, .ref h2, .int 0, .int (-1), .int 0, .int (-1), .int 0, .int 0])), (h0, .inr (5, [.int 1, .ref q_2, .int 0])), (q_2, .inl (g 8, 10, .inr (.inr (.inr (.inr (fun _ => none))))))] := hD
    refine lv_astore_n (lv' := [(2, .ref q_2), (0, .ref h0), (1, .ref h1), (3, .int 0)]) hx hb dJx4a65c_add_72be8_10 rfl hl (by decide) rfl (fun ls hl => ?_)
    refine lv_aload_n hx hb dJx4a65c_add_72be8_11 rfl (lv_at hl 0 rfl) ?_
    refine lv_iload_n hx hb dJx4a65c_add_72be8_12 rfl (lv_at hl 3 rfl) ?_
    refine lv_aload_n hx hb dJx4a65c_add_72be8_13 rfl (lv_at hl 2 rfl) ?_
    refine vb_astq (C := "StuckatBenchModel$Line") hx hb hK.1 hP hD hS 2 8 rfl rfl (va_recv hK.1 hP (ci := 19) (q0 := 0) rfl rfl) (vb_asgC (hK.2.2.1 _ w_476)) (by unfold vp_in; decide) dJx4a65c_add_72be8_14 (fun H locs hP hD hS => ?_)
    have hP : va_P D vwCl [(h1, .inr (19, [.int 105, .ref h2, .int 0, .int (-1), .int 0, .int (-1), .int 0, .int 0])), (h0, .inr (5, [.int 1, .ref q_2, .int 0])), (q_2, .inl (g 8, 10, .inr (.inr (.inr (.inr (va_up (fun _ => none) (0 : Int32).toNatClampNeg (some h1)))))))] H := hP
    have hD : va_D (va_A [(h0, .inr (5, [.int 1, .ref (g 100), .int 0])), (h1, .inr (19, [.int 105, .ref h2, .int 0, .int (-1), .int 0, .int (-1), .int 0, .int 0]))] s.heap.size) [(h1, .inr (19, [.int 105, .ref h2, .int 0, .int (-1), .int 0, .int (-1), .int 0, .int 0])), (h0, .inr (5, [.int 1, .ref q_2, .int 0])), (q_2, .inl (g 8, 10, .inr (.inr (.inr (.inr (va_up (fun _ => none) (0 : Int32).toNatClampNeg (some h1)))))))] := hD
    refine lv_aload_n hx hb dJx4a65c_add_72be8_15 rfl (lv_at hl 1 rfl) ?_
    refine lv_iload_n hx hb dJx4a65c_add_72be8_16 rfl (lv_at hl 3 rfl) ?_
    refine lv_iconst (v := 1) hx hb dJx4a65c_add_72be8_17 (by decide) ?_
    refine lv_iadd hx hb dJx4a65c_add_72be8_18 ?_
    refine r_topi (v := 1) (by decide) ?_
    refine va_put (D := D) (ci := 5) (v := .int 1) (ty := .int) (C := RJx4a65c) (T := TJx4a65c) (N := 3) hx hb ht in_Jx4a65c tyJx4a65c tyJx4a65c_ok nmJx4a65c hown hK.1 hP hD hS 1 rfl rfl 2 (by decide) (ht _ w_355) (fun _ h9 => h9) rfl (by decide +kernel) rfl rfl (Nat.le_of_ble_eq_true rfl) dJx4a65c_add_72be8_19 (fun H locs hP hD hS => ?_)
    have hP : va_P D vwCl [(h1, .inr (19, [.int 105, .ref h2, .int 0, .int (-1), .int 0, .int (-1), .int 0, .int 0])), (h0, .inr (5, [.int 1, .ref q_2, .int 1])), (q_2, .inl (g 8, 10, .inr (.inr (.inr (.inr (va_up (fun _ => none) (0 : Int32).toNatClampNeg (some h1)))))))] H := hP
    have hD : va_D (va_A [(h0, .inr (5, [.int 1, .ref (g 100), .int 0])), (h1, .inr (19, [.int 105, .ref h2, .int 0, .int (-1), .int 0, .int (-1), .int 0, .int 0]))] s.heap.size) [(h1, .inr (19, [.int 105, .ref h2, .int 0, .int (-1), .int 0, .int (-1), .int 0, .int 0])), (h0, .inr (5, [.int 1, .ref q_2, .int 1])), (q_2, .inl (g 8, 10, .inr (.inr (.inr (.inr (va_up (fun _ => none) (0 : Int32).toNatClampNeg (some h1)))))))] := hD
    have hP9 := hP.sub (ws' := [(h1, .inr (19, [.int 105, .ref h2, .int 0, .int (-1), .int 0, .int (-1), .int 0, .int 0])), (h0, .inr (5, [.int 1, .ref q_2, .int 1])), (q_2, .inl (g 8, 10, .inr (.inr (.inr (.inr (va_up (fun _ => none) (0 : Int32).toNatClampNeg (some h1)))))))]) [0, 1, 2] rfl
    have hD9 := hD.sub (ws' := [(h1, .inr (19, [.int 105, .ref h2, .int 0, .int (-1), .int 0, .int (-1), .int 0, .int 0])), (h0, .inr (5, [.int 1, .ref q_2, .int 1])), (q_2, .inl (g 8, 10, .inr (.inr (.inr (.inr (va_up (fun _ => none) (0 : Int32).toNatClampNeg (some h1)))))))]) [0, 1, 2] (by decide) rfl
    refine W.widen (k := 1) (n := 10) (Nat.le_of_ble_eq_true rfl) (Nat.le_of_ble_eq_true rfl) ?_
    exact W.vret hx hb hr (fun t ht9 hW9 => ⟨⟨(), rfl, trivial, ⟨q_2, (by rw [ht9]; exact hP9), hD9⟩⟩, hS.F ht9⟩) hS.2.2 dJx4a65c_add_72be8_22 hlocks
set_option maxHeartbeats 4000000 in
set_option maxRecDepth 100000 in
theorem k_Jx4a65c_add_9ea2d_v3 (l : Launch) (D : va_G) (g : Nat → ClassId) (z0 sz : Nat) (a : Nat → Nat) (h0 : Nat) (h1 : Nat) (h2 : Nat) (fh2 : Nat → Int32) : Met l yJx4a65c_add_9ea2d (.code yJx4a65c_add_9ea2d cJx4a65c_add_9ea2d 2 (some .boolean) :: TG) (rmk 4 1 10 80) (va_Pc [.ref h0, .ref h1] (PP D g z0 sz [(h0, .inr (5, [.int 0, .ref (g 100), .int 0])), (h1, .inr (19, [.int 105, .ref h2, .int 0, .int (-1), .int 0, .int (-1), .int 0, .int 0]))])) (va_Qi (fun (r : Int32) (u : Unit) => (r = 1) ∧ True) (fun (u : Unit) (t : State) => ∃ (q_1 : Nat), va_P D vwCl [(h1, .inr (19, [.int 105, .ref h2, .int 0, .int (-1), .int 0, .int (-1), .int 0, .int 0])), (h0, .inr (5, [.int 1, .ref q_1, .int 1])), (q_1, .inl (g 8, 10, .inr (.inr (.inr (.inr (va_up (fun _ => none) (0 : Int32).toNatClampNeg (some h1)))))))] t.heap ∧ va_D (va_A [(h0, .inr (5, [.int 0, .ref (g 100), .int 0])), (h1, .inr (19, [.int 105, .ref h2, .int 0, .int (-1), .int 0, .int (-1), .int 0, .int 0]))] sz) [(h1, .inr (19, [.int 105, .ref h2, .int 0, .int (-1), .int 0, .int (-1), .int 0, .int 0])), (h0, .inr (5, [.int 1, .ref q_1, .int 1])), (q_1, .inl (g 8, 10, .inr (.inr (.inr (.inr (va_up (fun _ => none) (0 : Int32).toNatClampNeg (some h1)))))))]) (va_A [(h0, .inr (5, [.int 0, .ref (g 100), .int 0])), (h1, .inr (19, [.int 105, .ref h2, .int 0, .int (-1), .int 0, .int (-1), .int 0, .int 0]))] sz)) 1 10 (va_A [(h0, .inr (5, [.int 0, .ref (g 100), .int 0])), (h1, .inr (19, [.int 105, .ref h2, .int 0, .int (-1), .int 0, .int (-1), .int 0, .int 0]))] sz) := by
  refine met0 (cc := cJx4a65c_add_9ea2d) (n := 2) (by decide) (Nat.le_of_ble_eq_true rfl) ?_
  intro p e s m args below meth c hx hb hr hml hown ht hlocks hnm hP0 hD0 hK hZ hsz hz ls hl
  subst hsz
  have hA : ∀ q : Nat, s.heap.size ≤ q → va_A [(h0, .inr (5, [.int 0, .ref (g 100), .int 0])), (h1, .inr (19, [.int 105, .ref h2, .int 0, .int (-1), .int 0, .int (-1), .int 0, .int 0]))] s.heap.size q := Anw
  have hAz : ∀ q, va_A [(h0, .inr (5, [.int 0, .ref (g 100), .int 0])), (h1, .inr (19, [.int 105, .ref h2, .int 0, .int (-1), .int 0, .int (-1), .int 0, .int 0]))] s.heap.size q → z0 ≤ q := Awz hz hD0
  have hS : va_S (va_A [(h0, .inr (5, [.int 0, .ref (g 100), .int 0])), (h1, .inr (19, [.int 105, .ref h2, .int 0, .int (-1), .int 0, .int (-1), .int 0, .int 0]))] s.heap.size) s.heap s.heap [] := va_S.rf
  have hD : va_D (va_A [(h0, .inr (5, [.int 0, .ref (g 100), .int 0])), (h1, .inr (19, [.int 105, .ref h2, .int 0, .int (-1), .int 0, .int (-1), .int 0, .int 0]))] s.heap.size) [(h0, .inr (5, [.int 0, .ref (g 100), .int 0])), (h1, .inr (19, [.int 105, .ref h2, .int 0, .int (-1), .int 0, .int (-1), .int 0, .int 0]))] := hD0.self
  have hP : va_P D vwCl [(h0, .inr (5, [.int 0, .ref (g 100), .int 0])), (h1, .inr (19, [.int 105, .ref h2, .int 0, .int (-1), .int 0, .int (-1), .int 0, .int 0]))] s.heap := hP0
  have hl : lv_has ls 2 [(0, .ref h0), (1, .ref h1)] := hl
  refine lv_aload_n hx hb dJx4a65c_add_9ea2d_0 rfl (lv_at hl 0 rfl) ?_
  refine lv_dup hx hb dJx4a65c_add_9ea2d_1 rfl ?_
  refine va_get (D := D) (ci := 5) (v := .int 0) (C := RJx4a65c) (T := TJx4a65c) (N := 3) hx hb ht in_Jx4a65c hown hK.1 hP 0 rfl rfl 0 (by decide) (ht _ w_456) (u_same (ht _ w_314)) rfl dJx4a65c_add_9ea2d_2 ?_
  refine lv_iconst (v := 1) hx hb dJx4a65c_add_9ea2d_5 (by decide) ?_
  refine lv_iadd hx hb dJx4a65c_add_9ea2d_6 ?_
  refine r_topi (v := 1) (by decide) ?_
  refine va_put (D := D) (ci := 5) (v := .int 1) (ty := .int) (C := RJx4a65c) (T := TJx4a65c) (N := 3) hx hb ht in_Jx4a65c tyJx4a65c tyJx4a65c_ok nmJx4a65c hown hK.1 hP hD hS 0 rfl rfl 0 (by decide) (ht _ w_456) (u_same (ht _ w_314)) rfl (by decide +kernel) rfl rfl (Nat.le_of_ble_eq_true rfl) dJx4a65c_add_9ea2d_7 (fun H locs hP hD hS => ?_)
  have hP : va_P D vwCl [(h0, .inr (5, [.int 1, .ref (g 100), .int 0])), (h1, .inr (19, [.int 105, .ref h2, .int 0, .int (-1), .int 0, .int (-1), .int 0, .int 0]))] H := hP
  have hD : va_D (va_A [(h0, .inr (5, [.int 0, .ref (g 100), .int 0])), (h1, .inr (19, [.int 105, .ref h2, .int 0, .int (-1), .int 0, .int (-1), .int 0, .int 0]))] s.heap.size) [(h0, .inr (5, [.int 1, .ref (g 100), .int 0])), (h1, .inr (19, [.int 105, .ref h2, .int 0, .int (-1), .int 0, .int (-1), .int 0, .int 0]))] := hD
  refine lv_aload_n hx hb dJx4a65c_add_9ea2d_10 rfl (lv_at hl 0 rfl) ?_
  refine lv_aload_n hx hb dJx4a65c_add_9ea2d_11 rfl (lv_at hl 1 rfl) ?_
  refine lv_aload_n hx hb dJx4a65c_add_9ea2d_12 rfl (lv_at hl 0 rfl) ?_
  refine va_get (D := D) (ci := 5) (v := .ref (g 100)) (C := RJx4a65c) (T := TJx4a65c) (N := 3) hx hb ht in_Jx4a65c hown hK.1 hP 0 rfl rfl 1 (by decide) (ht _ w_348) (fun _ h9 => h9) rfl dJx4a65c_add_9ea2d_13 ?_
  refine lv_aload_n hx hb dJx4a65c_add_9ea2d_16 rfl (lv_at hl 0 rfl) ?_
  refine va_get (D := D) (ci := 5) (v := .int 0) (C := RJx4a65c) (T := TJx4a65c) (N := 3) hx hb ht in_Jx4a65c hown hK.1 hP 0 rfl rfl 2 (by decide) (ht _ w_355) (fun _ h9 => h9) rfl dJx4a65c_add_9ea2d_17 ?_
  have hPc : va_P D vwCl [(h0, .inr (5, [.int 1, .ref (g 100), .int 0])), (h1, .inr (19, [.int 105, .ref h2, .int 0, .int (-1), .int 0, .int (-1), .int 0, .int 0]))] _ := hP.sub (ws' := [(h0, .inr (5, [.int 1, .ref (g 100), .int 0])), (h1, .inr (19, [.int 105, .ref h2, .int 0, .int (-1), .int 0, .int (-1), .int 0, .int 0]))]) [0, 1] rfl
  have hDc : va_D (fun q => z0 ≤ q) [(h0, .inr (5, [.int 1, .ref (g 100), .int 0])), (h1, .inr (19, [.int 105, .ref h2, .int 0, .int (-1), .int 0, .int (-1), .int 0, .int 0]))] := (hD.to hAz).pick (ws' := [(h0, .inr (5, [.int 1, .ref (g 100), .int 0])), (h1, .inr (19, [.int 105, .ref h2, .int 0, .int (-1), .int 0, .int (-1), .int 0, .int 0]))]) [0, 1] (by decide) rfl
  have hFc := va_free (wc := [(h0, .inr (5, [.int 1, .ref (g 100), .int 0])), (h1, .inr (19, [.int 105, .ref h2, .int 0, .int (-1), .int 0, .int (-1), .int 0, .int 0]))]) hD hS hA [0, 1] rfl
  refine va_callv (va_runV (As := [.ref h1, .ref (g 100), .int 0]) (rest := []) ⟨hx, hb, hml, hown, ht⟩ (k_Jx4a65c_add_72be8_v3 l D g z0 _ a h0 h1 h2 fh2) (cwV 3 ht (gV w_468 w_470 w_471 w_323 w_469) rfl rfl rfl (by decide +kernel) (le2 rfl rfl)) ⟨PP.blind, va_recv hK.1 hP (ci := 5) (q0 := 0) rfl rfl, PP.mk' hK hZ hz hAz hS hPc hDc⟩ rfl rfl hl.1 rfl (lv_room (Nat.le_of_ble_eq_true rfl)) dJx4a65c_add_9ea2d_20 (le2 rfl rfl)) hS (fun q _ h => hFc q h) hFc (fun u t H locs ht1 hvm hw hB hz1 hk1 hS => ?_)
  obtain ⟨q_1, hP1, hD1⟩ := hB
  rw [ht1] at hP1
  obtain ⟨hP, hD⟩ := va_join (wr := []) (w1 := [(h1, .inr (19, [.int 105, .ref h2, .int 0, .int (-1), .int 0, .int (-1), .int 0, .int 0])), (h0, .inr (5, [.int 1, .ref q_1, .int 1])), (q_1, .inl (g 8, 10, .inr (.inr (.inr (.inr (va_up (fun _ => none) (0 : Int32).toNatClampNeg (some h1)))))))]) hP hD [0, 1] [] rfl rfl (by decide) (by decide) hk1 hFc hP1 hD1
  have hP : va_P D vwCl [(h1, .inr (19, [.int 105, .ref h2, .int 0, .int (-1), .int 0, .int (-1), .int 0, .int 0])), (h0, .inr (5, [.int 1, .ref q_1, .int 1])), (q_1, .inl (g 8, 10, .inr (.inr (.inr (.inr (va_up (fun _ => none) (0 : Int32).toNatClampNeg (some h1)))))))] H := hP
  have hD : va_D (va_A [(h0, .inr (5, [.int 0, .ref (g 100), .int 0])), (h1, .inr (19, [.int 105, .ref h2, .int 0, .int (-1), .int 0, .int (-1), .int 0, .int 0]))] s.heap.size) [(h1, .inr (19, [.int 105, .ref h2, .int 0, .int (-1), .int 0, .int (-1), .int 0, .int 0])), (h0, .inr (5, [.int 1, .ref q_1, .int 1])), (q_1, .inl (g 8, 10, .inr (.inr (.inr (.inr (va_up (fun _ => none) (0 : Int32).toNatClampNeg (some h1)))))))] := hD
  refine lv_iconst (v := 1) hx hb dJx4a65c_add_9ea2d_23 (by decide) ?_
  have hP9 := hP.sub (ws' := [(h1, .inr (19, [.int 105, .ref h2, .int 0, .int (-1), .int 0, .int (-1), .int 0, .int 0])), (h0, .inr (5, [.int 1, .ref q_1, .int 1])), (q_1, .inl (g 8, 10, .inr (.inr (.inr (.inr (va_up (fun _ => none) (0 : Int32).toNatClampNeg (some h1)))))))]) [0, 1, 2] rfl
  have hD9 := hD.sub (ws' := [(h1, .inr (19, [.int 105, .ref h2, .int 0, .int (-1), .int 0, .int (-1), .int 0, .int 0])), (h0, .inr (5, [.int 1, .ref q_1, .int 1])), (q_1, .inl (g 8, 10, .inr (.inr (.inr (.inr (va_up (fun _ => none) (0 : Int32).toNatClampNeg (some h1)))))))]) [0, 1, 2] (by decide) rfl
  refine W.widen (k := 1) (n := 10) (Nat.le_of_ble_eq_true rfl) (Nat.le_of_ble_eq_true rfl) ?_
  exact W.zret (v := 1) hx hb hr rfl (fun t ht9 hW9 => ⟨⟨1, (), rfl, ⟨rfl, trivial⟩, ⟨q_1, (by rw [ht9]; exact hP9), hD9⟩⟩, hS.F ht9⟩) hS.2.2 dJx4a65c_add_9ea2d_24 hlocks
set_option maxHeartbeats 4000000 in
set_option maxRecDepth 100000 in
theorem k_X15_addSource_v1 (l : Launch) (D : va_G) (g : Nat → ClassId) (z0 sz : Nat) (a : Nat → Nat) : Met l yX15_addSource (.code yX15_addSource cX15_addSource 3 (some .int) :: TG) (rmk 5 4 28 101) (va_Pc [.ref (a 200), .int 105] (PP D g z0 sz [((a 200), f_m a g), ((a 201), .inr (5, [.int 0, .ref (g 100), .int 0])), ((a 202), .inr (5, [.int 0, .ref (g 100), .int 0]))])) (va_Qi (fun (r : Int32) (u : Unit) => (r = 0) ∧ True) (fun (u : Unit) (t : State) => ∃ (q_6 : Nat) (q_7 : Nat) (q_5 : Nat) (q_9 : Nat), va_P D vwCl [((a 200), f_m a g), (q_6, .inl (g 0, 0, .inl (fun _ => 0))), ((a 202), .inr (5, [.int 1, .ref q_7, .int 1])), (q_7, .inl (g 8, 10, .inr (.inr (.inr (.inr (va_up (fun _ => none) (0 : Int32).toNatClampNeg (some (g 1128)))))))), (q_5, .inr (19, [.int 105, .ref q_6, .int 0, .int (-1), .int 0, .int (-1), .int 0, .int 0])), ((a 201), .inr (5, [.int 1, .ref q_9, .int 1])), (q_9, .inl (g 8, 10, .inr (.inr (.inr (.inr (va_up (fun _ => none) (0 : Int32).toNatClampNeg (some q_5)))))))] t.heap ∧ va_D (va_A [((a 200), f_m a g), ((a 201), .inr (5, [.int 0, .ref (g 100), .int 0])), ((a 202), .inr (5, [.int 0, .ref (g 100), .int 0]))] sz) [((a 200), f_m a g), (q_6, .inl (g 0, 0, .inl (fun _ => 0))), ((a 202), .inr (5, [.int 1, .ref q_7, .int 1])), (q_7, .inl (g 8, 10, .inr (.inr (.inr (.inr (va_up (fun _ => none) (0 : Int32).toNatClampNeg (some (g 1128)))))))), (q_5, .inr (19, [.int 105, .ref q_6, .int 0, .int (-1), .int 0, .int (-1), .int 0, .int 0])), ((a 201), .inr (5, [.int 1, .ref q_9, .int 1])), (q_9, .inl (g 8, 10, .inr (.inr (.inr (.inr (va_up (fun _ => none) (0 : Int32).toNatClampNeg (some q_5)))))))]) (va_A [((a 200), f_m a g), ((a 201), .inr (5, [.int 0, .ref (g 100), .int 0])), ((a 202), .inr (5, [.int 0, .ref (g 100), .int 0]))] sz)) 4 28 (va_A [((a 200), f_m a g), ((a 201), .inr (5, [.int 0, .ref (g 100), .int 0])), ((a 202), .inr (5, [.int 0, .ref (g 100), .int 0]))] sz) := by
  refine met0 (cc := cX15_addSource) (n := 3) (by decide) (Nat.le_of_ble_eq_true rfl) ?_
  intro p e s m args below meth c hx hb hr hml hown ht hlocks hnm hP0 hD0 hK hZ hsz hz ls hl
  subst hsz
  have hA : ∀ q : Nat, s.heap.size ≤ q → va_A [((a 200), f_m a g), ((a 201), .inr (5, [.int 0, .ref (g 100), .int 0])), ((a 202), .inr (5, [.int 0, .ref (g 100), .int 0]))] s.heap.size q := Anw
  have hAz : ∀ q, va_A [((a 200), f_m a g), ((a 201), .inr (5, [.int 0, .ref (g 100), .int 0])), ((a 202), .inr (5, [.int 0, .ref (g 100), .int 0]))] s.heap.size q → z0 ≤ q := Awz hz hD0
  have hS : va_S (va_A [((a 200), f_m a g), ((a 201), .inr (5, [.int 0, .ref (g 100), .int 0])), ((a 202), .inr (5, [.int 0, .ref (g 100), .int 0]))] s.heap.size) s.heap s.heap [] := va_S.rf
  have hD : va_D (va_A [((a 200), f_m a g), ((a 201), .inr (5, [.int 0, .ref (g 100), .int 0])), ((a 202), .inr (5, [.int 0, .ref (g 100), .int 0]))] s.heap.size) [((a 200), f_m a g), ((a 201), .inr (5, [.int 0, .ref (g 100), .int 0])), ((a 202), .inr (5, [.int 0, .ref (g 100), .int 0]))] := hD0.self
  have hP : va_P D vwCl [((a 200), f_m a g), ((a 201), .inr (5, [.int 0, .ref (g 100), .int 0])), ((a 202), .inr (5, [.int 0, .ref (g 100), .int 0]))] s.heap := hP0
  have hl : lv_has ls 3 [(0, .ref (a 200)), (1, .int 105)] := hl
  refine lv_aload_n hx hb dX15_addSource_0 rfl (lv_at hl 0 rfl) ?_
  refine lv_aload_n hx hb dX15_addSource_1 rfl (lv_at hl 0 rfl) ?_
  refine va_get (D := D) (ci := 21) (v := .int 0) (C := RX15) (T := TX15) (N := 29) hx hb ht in_X15 hown hK.1 hP 0 rfl rfl 7 (by decide) (ht _ w_383) (fun _ h9 => h9) rfl dX15_addSource_2 ?_
  refine lv_if_eq (tgt := 12) hx hb dX15_addSource_5 (by decide) (fun c_1 => ?_) (fun c_1 => ?_)
  · refine lv_aload_n hx hb dX15_addSource_12 rfl (lv_at hl 0 rfl) ?_
    refine va_get (D := D) (ci := 21) (v := .ref (a 201)) (C := RX15) (T := TX15) (N := 29) hx hb ht in_X15 hown hK.1 hP 0 rfl rfl 1 (by decide) (ht _ w_354) (fun _ h9 => h9) rfl dX15_addSource_13 ?_
    have hPc : va_P D vwCl [((a 201), .inr (5, [.int 0, .ref (g 100), .int 0]))] _ := hP.sub (ws' := [((a 201), .inr (5, [.int 0, .ref (g 100), .int 0]))]) [1] rfl
    have hDc : va_D (fun q => z0 ≤ q) [((a 201), .inr (5, [.int 0, .ref (g 100), .int 0]))] := (hD.to hAz).pick (ws' := [((a 201), .inr (5, [.int 0, .ref (g 100), .int 0]))]) [1] (by decide) rfl
    have hFc := AnA (ws := [((a 200), f_m a g), ((a 201), .inr (5, [.int 0, .ref (g 100), .int 0])), ((a 202), .inr (5, [.int 0, .ref (g 100), .int 0]))]) hS.1
    refine va_callFi (va_runF (As := []) (rest := [.ref (a 200)]) (hK.1.1 5 _ rfl).2 ⟨hx, hb, hml, hown, ht⟩ (k_Jx4a65c_size_8abf5 l D g z0 _ a (a 201)) (va_cwF 0 ht (gF w_356 w_358 w_359 w_323 w_357) rfl rfl rfl (hK.2.2.2.1 _ (List.mem_of_getElem? (i := 0) rfl)) (by decide +kernel) (le2 rfl rfl)) ⟨PP.blind, va_recv hK.1 hP (ci := 5) (q0 := 1) rfl rfl, PP.mk' hK hZ hz hAz hS hPc hDc⟩ rfl rfl hl.1 rfl (lv_room (Nat.le_of_ble_eq_true rfl)) dX15_addSource_16 (le2 rfl rfl)) hS (fun q _ h => hFc q h) hFc (fun r u t H locs ht1 hvm hw hB hz1 hk1 hS => ?_)
    obtain ⟨rfl, hw⟩ := hw
    have hP := ro1 hP hk1
    refine lv_bipush (v := 40) hx hb dX15_addSource_21 (by decide) ?_
    refine lv_icmp_eq (tgt := 40) hx hb dX15_addSource_23 (by decide) (fun c_2 => ?_) (fun c_2 => ?_)
    · exact absurd c_2 (by decide)
    · refine lv_aload_n hx hb dX15_addSource_26 rfl (lv_at hl 0 rfl) ?_
      refine va_get (D := D) (ci := 21) (v := .ref (a 202)) (C := RX15) (T := TX15) (N := 29) hx hb ht in_X15 hown hK.1 hP 0 rfl rfl 2 (by decide) (ht _ w_437) (fun _ h9 => h9) rfl dX15_addSource_27 ?_
      have hPc : va_P D vwCl [((a 202), .inr (5, [.int 0, .ref (g 100), .int 0]))] _ := hP.sub (ws' := [((a 202), .inr (5, [.int 0, .ref (g 100), .int 0]))]) [2] rfl
      have hDc : va_D (fun q => z0 ≤ q) [((a 202), .inr (5, [.int 0, .ref (g 100), .int 0]))] := (hD.to hAz).pick (ws' := [((a 202), .inr (5, [.int 0, .ref (g 100), .int 0]))]) [2] (by decide) rfl
      have hFc := AnA (ws := [((a 200), f_m a g), ((a 201), .inr (5, [.int 0, .ref (g 100), .int 0])), ((a 202), .inr (5, [.int 0, .ref (g 100), .int 0]))]) hS.1
      refine va_callFi (va_runF (As := []) (rest := [.ref (a 200)]) (hK.1.1 5 _ rfl).2 ⟨hx, hb, hml, hown, ht⟩ (k_Jx4a65c_size_8abf5 l D g z0 _ a (a 202)) (va_cwF 0 ht (gF w_356 w_358 w_359 w_323 w_357) rfl rfl rfl (hK.2.2.2.1 _ (List.mem_of_getElem? (i := 0) rfl)) (by decide +kernel) (le2 rfl rfl)) ⟨PP.blind, va_recv hK.1 hP (ci := 5) (q0 := 2) rfl rfl, PP.mk' hK hZ hz hAz hS hPc hDc⟩ rfl rfl hl.1 rfl (lv_room (Nat.le_of_ble_eq_true rfl)) dX15_addSource_30 (le2 rfl rfl)) hS (fun q _ h => hFc q h) hFc (fun r u t H locs ht1 hvm hw hB hz1 hk1 hS => ?_)
      obtain ⟨rfl, hw⟩ := hw
      have hP := ro1 hP hk1
      refine lv_bipush (v := 12) hx hb dX15_addSource_35 (by decide) ?_
      refine lv_icmp_ne (tgt := 44) hx hb dX15_addSource_37 (by decide) (fun c_3 => ?_) (fun c_3 => ?_)
      · refine lv_iconst (v := 0) hx hb dX15_addSource_44 (by decide) ?_
        have hPc : va_P D vwCl [((a 200), f_m a g)] _ := hP.sub (ws' := [((a 200), f_m a g)]) [0] rfl
        have hDc : va_D (fun q => z0 ≤ q) [((a 200), f_m a g)] := (hD.to hAz).pick (ws' := [((a 200), f_m a g)]) [0] (by decide) rfl
        have hFc := va_free (wc := [((a 200), f_m a g)]) hD hS hA [0] rfl
        refine va_calli (va_runV (As := [.int 0]) (rest := []) ⟨hx, hb, hml, hown, ht⟩ (k_X15_isWrong_v1 l D g z0 _ a) (cwV 1 ht (gV w_376 w_378 w_379 w_334 w_377) rfl rfl rfl (by decide +kernel) (le2 rfl rfl)) ⟨PP.blind, va_recv hK.1 hP (ci := 21) (q0 := 0) rfl rfl, PP.mk' hK hZ hz hAz hS hPc hDc⟩ rfl rfl hl.1 rfl (lv_room (Nat.le_of_ble_eq_true rfl)) dX15_addSource_45 (le2 rfl rfl)) hS (fun q _ h => hFc q h) hFc (fun r u t H locs ht1 hvm hw hB hz1 hk1 hS => ?_)
        obtain ⟨rfl, hw⟩ := hw
        obtain ⟨hP1, hD1⟩ := hB
        rw [ht1] at hP1
        obtain ⟨hP, hD⟩ := va_join (wr := [((a 201), .inr (5, [.int 0, .ref (g 100), .int 0])), ((a 202), .inr (5, [.int 0, .ref (g 100), .int 0]))]) (w1 := [((a 200), f_m a g)]) hP hD [0] [1, 2] rfl rfl (by decide) (by decide) hk1 hFc hP1 hD1
        have hP : va_P D vwCl [((a 201), .inr (5, [.int 0, .ref (g 100), .int 0])), ((a 202), .inr (5, [.int 0, .ref (g 100), .int 0])), ((a 200), f_m a g)] H := hP
        have hD : va_D (va_A [((a 200), f_m a g), ((a 201), .inr (5, [.int 0, .ref (g 100), .int 0])), ((a 202), .inr (5, [.int 0, .ref (g 100), .int 0]))] s.heap.size) [((a 201), .inr (5, [.int 0, .ref (g 100), .int 0])), ((a 202), .inr (5, [.int 0, .ref (g 100), .int 0])), ((a 200), f_m a g)] := hD
        refine lv_if_eq (tgt := 53) hx hb dX15_addSource_48 (by decide) (fun c_4 => ?_) (fun c_4 => ?_)
        · refine va_new (ci := 19) (fs := [.int 0, .null, .int 0, .int 0, .int 0, .int 0, .int 0, .int 0]) (C := RX13) (T := TX13) (N := 8) hx hb ht in_X13 tyX13 tyX13_ok hown (ht _ w_438) (ht _ w_439) (ht _ w_440) hK.1 hP hD hS hA rfl (fun j hj => by rcases (show j = 0 ∨ j = 1 ∨ j = 2 ∨ j = 3 ∨ j = 4 ∨ j = 5 ∨ j = 6 ∨ j = 7 by omega) with rfl | rfl | rfl | rfl | rfl | rfl | rfl | rfl <;> rfl) (Nat.le_of_ble_eq_true rfl) (Nat.le_of_ble_eq_true rfl) dX15_addSource_53 (fun q_5 H hP hD hS => ?_)
          have hP : va_P D vwCl [((a 201), .inr (5, [.int 0, .ref (g 100), .int 0])), ((a 202), .inr (5, [.int 0, .ref (g 100), .int 0])), ((a 200), f_m a g), (q_5, .inr (19, [.int 0, .null, .int 0, .int 0, .int 0, .int 0, .int 0, .int 0]))] H := hP
          have hD : va_D (va_A [((a 200), f_m a g), ((a 201), .inr (5, [.int 0, .ref (g 100), .int 0])), ((a 202), .inr (5, [.int 0, .ref (g 100), .int 0]))] s.heap.size) [((a 201), .inr (5, [.int 0, .ref (g 100), .int 0])), ((a 202), .inr (5, [.int 0, .ref (g 100), .int 0])), ((a 200), f_m a g), (q_5, .inr (19, [.int 0, .null, .int 0, .int 0, .int 0, .int 0, .int 0, .int 0]))] := hD
          refine lv_dup hx hb dX15_addSource_56 rfl ?_
          refine lv_iload_n hx hb dX15_addSource_57 rfl (lv_at hl 1 rfl) ?_
          refine lv_iconst (v := 0) hx hb dX15_addSource_58 (by decide) ?_
          refine r_newa (atype := .int) (cy := g 0) (a0 := (0, .inl (fun _ => 0))) hx hb (ht _ w_353) hK.2.1.1 hP hD hS hA (fun _ => rfl) (by decide) (by decide) (by decide) (Nat.le_of_ble_eq_true rfl) (Nat.le_of_ble_eq_true rfl) dX15_addSource_59 (fun q_6 H hP hD hS => ?_)
          have hP : va_P D vwCl [((a 201), .inr (5, [.int 0, .ref (g 100), .int 0])), ((a 202), .inr (5, [.int 0, .ref (g 100), .int 0])), ((a 200), f_m a g), (q_5, .inr (19, [.int 0, .null, .int 0, .int 0, .int 0, .int 0, .int 0, .int 0])), (q_6, .inl (g 0, 0, .inl (fun _ => 0)))] H := hP
          have hD : va_D (va_A [((a 200), f_m a g), ((a 201), .inr (5, [.int 0, .ref (g 100), .int 0])), ((a 202), .inr (5, [.int 0, .ref (g 100), .int 0]))] s.heap.size) [((a 201), .inr (5, [.int 0, .ref (g 100), .int 0])), ((a 202), .inr (5, [.int 0, .ref (g 100), .int 0])), ((a 200), f_m a g), (q_5, .inr (19, [.int 0, .null, .int 0, .int 0, .int 0, .int 0, .int 0, .int 0])), (q_6, .inl (g 0, 0, .inl (fun _ => 0)))] := hD
          have hPc : va_P D vwCl [(q_5, .inr (19, [.int 0, .null, .int 0, .int 0, .int 0, .int 0, .int 0, .int 0]))] _ := hP.sub (ws' := [(q_5, .inr (19, [.int 0, .null, .int 0, .int 0, .int 0, .int 0, .int 0, .int 0]))]) [3] rfl
          have hDc : va_D (fun q => z0 ≤ q) [(q_5, .inr (19, [.int 0, .null, .int 0, .int 0, .int 0, .int 0, .int 0, .int 0]))] := (hD.to hAz).pick (ws' := [(q_5, .inr (19, [.int 0, .null, .int 0, .int 0, .int 0, .int 0, .int 0, .int 0]))]) [3] (by decide) rfl
          have hFc := va_free (wc := [(q_5, .inr (19, [.int 0, .null, .int 0, .int 0, .int 0, .int 0, .int 0, .int 0]))]) hD hS hA [3] rfl
          refine va_callv (va_runI (As := [.int 105, .ref q_6]) (rest := [.ref q_5]) ⟨hx, hb, hml, hown, ht⟩ (k_X13_init l D g z0 _ a q_5 105 q_6 ⟨rfl, rfl⟩) (cwI 2 ht (gI w_448) rfl rfl rfl (ht _ w_440) (ht _ w_447) (ht _ w_449) rfl (by decide +kernel) (le2 rfl rfl)) ⟨PP.blind, PP.mk' hK hZ hz hAz hS hPc hDc⟩ rfl rfl hl.1 rfl (lv_room (Nat.le_of_ble_eq_true rfl)) dX15_addSource_61 (le2 rfl rfl)) hS (fun q _ h => hFc q h) hFc (fun u t H locs ht1 hvm hw hB hz1 hk1 hS => ?_)
          obtain ⟨hP1, hD1⟩ := hB
          rw [ht1] at hP1
          obtain ⟨hP, hD⟩ := va_join (wr := [((a 201), .inr (5, [.int 0, .ref (g 100), .int 0])), ((a 202), .inr (5, [.int 0, .ref (g 100), .int 0])), ((a 200), f_m a g), (q_6, .inl (g 0, 0, .inl (fun _ => 0)))]) (w1 := [(q_5, .inr (19, [.int 105, .ref q_6, .int (-1), .int (-1), .int 0, .int (-1), .int 0, .int 0]))]) hP hD [3] [0, 1, 2, 4] rfl rfl (by decide) (by decide) hk1 hFc hP1 hD1
          have hP : va_P D vwCl [((a 201), .inr (5, [.int 0, .ref (g 100), .int 0])), ((a 202), .inr (5, [.int 0, .ref (g 100), .int 0])), ((a 200), f_m a g), (q_6, .inl (g 0, 0, .inl (fun _ => 0))), (q_5, .inr (19, [.int 105, .ref q_6, .int (-1), .int (-1), .int 0, .int (-1), .int 0, .int 0]))] H := hP
          have hD : va_D (va_A [((a 200), f_m a g), ((a 201), .inr (5, [.int 0, .ref (g 100), .int 0])), ((a 202), .inr (5, [.int 0, .ref (g 100), .int 0]))] s.heap.size) [((a 201), .inr (5, [.int 0, .ref (g 100), .int 0])), ((a 202), .inr (5, [.int 0, .ref (g 100), .int 0])), ((a 200), f_m a g), (q_6, .inl (g 0, 0, .inl (fun _ => 0))), (q_5, .inr (19, [.int 105, .ref q_6, .int (-1), .int (-1), .int 0, .int (-1), .int 0, .int 0]))] := hD
          refine lv_astore_n (lv' := [(2, .ref q_5), (0, .ref (a 200)), (1, .int 105)]) hx hb dX15_addSource_64 rfl hl (by decide) rfl (fun ls hl => ?_)
          refine lv_aload_n hx hb dX15_addSource_65 rfl (lv_at hl 0 rfl) ?_
          refine lv_aload_n hx hb dX15_addSource_66 rfl (lv_at hl 1 rfl) ?_
          refine va_get (D := D) (ci := 21) (v := .ref (a 202)) (C := RX15) (T := TX15) (N := 29) hx hb ht in_X15 hown hK.1 hP 2 rfl rfl 2 (by decide) (ht _ w_437) (fun _ h9 => h9) rfl dX15_addSource_67 ?_
          have hPc : va_P D vwCl [((a 202), .inr (5, [.int 0, .ref (g 100), .int 0]))] _ := hP.sub (ws' := [((a 202), .inr (5, [.int 0, .ref (g 100), .int 0]))]) [1] rfl
          have hDc : va_D (fun q => z0 ≤ q) [((a 202), .inr (5, [.int 0, .ref (g 100), .int 0]))] := (hD.to hAz).pick (ws' := [((a 202), .inr (5, [.int 0, .ref (g 100), .int 0]))]) [1] (by decide) rfl
          have hFc := AnA (ws := [((a 200), f_m a g), ((a 201), .inr (5, [.int 0, .ref (g 100), .int 0])), ((a 202), .inr (5, [.int 0, .ref (g 100), .int 0]))]) hS.1
          refine va_callFi (va_runF (As := []) (rest := [.ref q_5]) (hK.1.1 5 _ rfl).2 ⟨hx, hb, hml, hown, ht⟩ (k_Jx4a65c_size_8abf5 l D g z0 _ a (a 202)) (va_cwF 0 ht (gF w_356 w_358 w_359 w_323 w_357) rfl rfl rfl (hK.2.2.2.1 _ (List.mem_of_getElem? (i := 0) rfl)) (by decide +kernel) (le2 rfl rfl)) ⟨PP.blind, va_recv hK.1 hP (ci := 5) (q0 := 1) rfl rfl, PP.mk' hK hZ hz hAz hS hPc hDc⟩ rfl rfl hl.1 rfl (lv_room (Nat.le_of_ble_eq_true rfl)) dX15_addSource_70 (le2 rfl rfl)) hS (fun q _ h => hFc q h) hFc (fun r u t H locs ht1 hvm hw hB hz1 hk1 hS => ?_)
          obtain ⟨rfl, hw⟩ := hw
          have hP := ro1 hP hk1
          refine va_putN (D := D) (ci := 19) (v := .int 0) (ty := .int) (C := RX13) (T := TX13) (N := 8) hx hb ht in_X13 tyX13 tyX13_ok nmX13 hown hK.1 hP hD hS 4 rfl rfl 2 (by decide) (hK.2.2.use w_450) (fun _ h9 => h9) rfl (by decide +kernel) rfl rfl (Nat.le_of_ble_eq_true rfl) dX15_addSource_75 (fun H locs hP hD hS => ?_)
          have hP : va_P D vwCl [((a 201), .inr (5, [.int 0, .ref (g 100), .int 0])), ((a 202), .inr (5, [.int 0, .ref (g 100), .int 0])), ((a 200), f_m a g), (q_6, .inl (g 0, 0, .inl (fun _ => 0))), (q_5, .inr (19, [.int 105, .ref q_6, .int 0, .int (-1), .int 0, .int (-1), .int 0, .int 0]))] H := hP
          have hD : va_D (va_A [((a 200), f_m a g), ((a 201), .inr (5, [.int 0, .ref (g 100), .int 0])), ((a 202), .inr (5, [.int 0, .ref (g 100), .int 0]))] s.heap.size) [((a 201), .inr (5, [.int 0, .ref (g 100), .int 0])), ((a 202), .inr (5, [.int 0, .ref (g 100), .int 0])), ((a 200), f_m a g), (q_6, .inl (g 0, 0, .inl (fun _ => 0))), (q_5, .inr (19, [.int 105, .ref q_6, .int 0, .int (-1), .int 0, .int (-1), .int 0, .int 0]))] := hD
          refine lv_aload_n hx hb dX15_addSource_78 rfl (lv_at hl 1 rfl) ?_
          refine va_get (D := D) (ci := 21) (v := .ref (a 202)) (C := RX15) (T := TX15) (N := 29) hx hb ht in_X15 hown hK.1 hP 2 rfl rfl 2 (by decide) (ht _ w_437) (fun _ h9 => h9) rfl dX15_addSource_79 ?_
          refine lv_aload_n hx hb dX15_addSource_82 rfl (lv_at hl 1 rfl) ?_
          refine va_get (D := D) (ci := 21) (v := .ref (a 201)) (C := RX15) (T := TX15) (N := 29) hx hb ht in_X15 hown hK.1 hP 2 rfl rfl 1 (by decide) (ht _ w_354) (fun _ h9 => h9) rfl dX15_addSource_83 ?_
          have hPc : va_P D vwCl [((a 201), .inr (5, [.int 0, .ref (g 100), .int 0]))] _ := hP.sub (ws' := [((a 201), .inr (5, [.int 0, .ref (g 100), .int 0]))]) [0] rfl
          have hDc : va_D (fun q => z0 ≤ q) [((a 201), .inr (5, [.int 0, .ref (g 100), .int 0]))] := (hD.to hAz).pick (ws' := [((a 201), .inr (5, [.int 0, .ref (g 100), .int 0]))]) [0] (by decide) rfl
          have hFc := AnA (ws := [((a 200), f_m a g), ((a 201), .inr (5, [.int 0, .ref (g 100), .int 0])), ((a 202), .inr (5, [.int 0, .ref (g 100), .int 0]))]) hS.1
          refine va_callFi (va_runF (As := []) (rest := [.ref (a 202)]) (hK.1.1 5 _ rfl).2 ⟨hx, hb, hml, hown, ht⟩ (k_Jx4a65c_size_8abf5 l D g z0 _ a (a 201)) (va_cwF 0 ht (gF w_356 w_358 w_359 w_323 w_357) rfl rfl rfl (hK.2.2.2.1 _ (List.mem_of_getElem? (i := 0) rfl)) (by decide +kernel) (le2 rfl rfl)) ⟨PP.blind, va_recv hK.1 hP (ci := 5) (q0 := 0) rfl rfl, PP.mk' hK hZ hz hAz hS hPc hDc⟩ rfl rfl hl.1 rfl (lv_room (Nat.le_of_ble_eq_true rfl)) dX15_addSource_86 (le2 rfl rfl)) hS (fun q _ h => hFc q h) hFc (fun r u t H locs ht1 hvm hw hB hz1 hk1 hS => ?_)
          obtain ⟨rfl, hw⟩ := hw
          have hP := ro1 hP hk1
          have hPc : va_P D vwCl [] _ := hP.sub (ws' := []) [] rfl
          have hDc : va_D (fun q => z0 ≤ q) [] := (hD.to hAz).pick (ws' := []) [] (by decide) rfl
          have hFc := AnA (ws := [((a 200), f_m a g), ((a 201), .inr (5, [.int 0, .ref (g 100), .int 0])), ((a 202), .inr (5, [.int 0, .ref (g 100), .int 0]))]) hS.1
          refine va_callr (va_runS (As := [.int 0]) (rest := [.ref (a 202)]) ⟨hx, hb, hml, hown, ht⟩ (k_J6_valueOf_2dffe l D g z0 _ a) (va_cwS 1 ht (gS w_453 w_455 w_280 w_454) rfl rfl rfl (by decide +kernel) (le2 rfl rfl)) ⟨PP.blind, PP.mk' hK hZ hz hAz hS hPc hDc⟩ rfl rfl hl.1 rfl (lv_room (Nat.le_of_ble_eq_true rfl)) dX15_addSource_91 (le2 rfl rfl)) hS (fun q _ h => hFc q h) hFc (fun u ra t H locs ht1 hvm hw hB hz1 hk1 hS => ?_)
          have hP := ro1 hP hk1
          subst hB
          have hPc : va_P D vwCl [((a 202), .inr (5, [.int 0, .ref (g 100), .int 0]))] _ := hP.sub (ws' := [((a 202), .inr (5, [.int 0, .ref (g 100), .int 0]))]) [1] rfl
          have hDc : va_D (fun q => z0 ≤ q) [((a 202), .inr (5, [.int 0, .ref (g 100), .int 0]))] := (hD.to hAz).pick (ws' := [((a 202), .inr (5, [.int 0, .ref (g 100), .int 0]))]) [1] (by decide) rfl
          have hFc := va_free (wc := [((a 202), .inr (5, [.int 0, .ref (g 100), .int 0]))]) hD hS hA [1] rfl
          refine va_callFi (va_runF (As := [.ref (g 1128)]) (rest := []) (hK.1.1 5 _ rfl).2 ⟨hx, hb, hml, hown, ht⟩ (k_Jx4a65c_add_9ea2d l D g z0 _ a (a 202)) (va_cwF 1 ht (gF w_472 w_474 w_475 w_323 w_473) rfl rfl rfl (hK.2.2.2.1 _ (List.mem_of_getElem? (i := 1) rfl)) (by decide +kernel) (le2 rfl rfl)) ⟨PP.blind, va_recv hK.1 hP (ci := 5) (q0 := 1) rfl rfl, PP.mk' hK hZ hz hAz hS hPc hDc⟩ rfl rfl hl.1 rfl (lv_room (Nat.le_of_ble_eq_true rfl)) dX15_addSource_94 (le2 rfl rfl)) hS (fun q _ h => hFc q h) hFc (fun r u t H locs ht1 hvm hw hB hz1 hk1 hS => ?_)
          obtain ⟨rfl, hw⟩ := hw
          obtain ⟨q_7, hP1, hD1⟩ := hB
          rw [ht1] at hP1
          obtain ⟨hP, hD⟩ := va_join (wr := [((a 201), .inr (5, [.int 0, .ref (g 100), .int 0])), ((a 200), f_m a g), (q_6, .inl (g 0, 0, .inl (fun _ => 0))), (q_5, .inr (19, [.int 105, .ref q_6, .int 0, .int (-1), .int 0, .int (-1), .int 0, .int 0]))]) (w1 := [((a 202), .inr (5, [.int 1, .ref q_7, .int 1])), (q_7, .inl (g 8, 10, .inr (.inr (.inr (.inr (va_up (fun _ => none) (0 : Int32).toNatClampNeg (some (g 1128))))))))]) hP hD [1] [0, 2, 3, 4] rfl rfl (by decide) (by decide) hk1 hFc hP1 hD1
          have hP : va_P D vwCl [((a 201), .inr (5, [.int 0, .ref (g 100), .int 0])), ((a 200), f_m a g), (q_6, .inl (g 0, 0, .inl (fun _ => 0))), (q_5, .inr (19, [.int 105, .ref q_6, .int 0, .int (-1), .int 0, .int (-1), .int 0, .int 0])), ((a 202), .inr (5, [.int 1, .ref q_7, .int 1])), (q_7, .inl (g 8, 10, .inr (.inr (.inr (.inr (va_up (fun _ => none) (0 : Int32).toNatClampNeg (some (g 1128))))))))] H := hP
          have hD : va_D (va_A [((a 200), f_m a g), ((a 201), .inr (5, [.int 0, .ref (g 100), .int 0])), ((a 202), .inr (5, [.int 0, .ref (g 100), .int 0]))] s.heap.size) [((a 201), .inr (5, [.int 0, .ref (g 100), .int 0])), ((a 200), f_m a g), (q_6, .inl (g 0, 0, .inl (fun _ => 0))), (q_5, .inr (19, [.int 105, .ref q_6, .int 0, .int (-1), .int 0, .int (-1), .int 0, .int 0])), ((a 202), .inr (5, [.int 1, .ref q_7, .int 1])), (q_7, .inl (g 8, 10, .inr (.inr (.inr (.inr (va_up (fun _ => none) (0 : Int32).toNatClampNeg (some (g 1128))))))))] := hD
          refine lv_pop hx hb dX15_addSource_99 rfl ?_
          refine lv_iload_n hx hb dX15_addSource_100 rfl (lv_at hl 2 rfl) ?_
          refine lv_bipush (v := 102) hx hb dX15_addSource_101 (by decide) ?_
          refine lv_icmp_ne (tgt := 128) hx hb dX15_addSource_103 (by decide) (fun c_8 => ?_) (fun c_8 => ?_)
          · refine lv_aload_n hx hb dX15_addSource_128 rfl (lv_at hl 1 rfl) ?_
            refine va_get (D := D) (ci := 21) (v := .ref (a 201)) (C := RX15) (T := TX15) (N := 29) hx hb ht in_X15 hown hK.1 hP 1 rfl rfl 1 (by decide) (ht _ w_354) (fun _ h9 => h9) rfl dX15_addSource_129 ?_
            refine lv_aload_n hx hb dX15_addSource_132 rfl (lv_at hl 0 rfl) ?_
            have hPc : va_P D vwCl [((a 201), .inr (5, [.int 0, .ref (g 100), .int 0])), (q_5, .inr (19, [.int 105, .ref q_6, .int 0, .int (-1), .int 0, .int (-1), .int 0, .int 0]))] _ := hP.sub (ws' := [((a 201), .inr (5, [.int 0, .ref (g 100), .int 0])), (q_5, .inr (19, [.int 105, .ref q_6, .int 0, .int (-1), .int 0, .int (-1), .int 0, .int 0]))]) [0, 3] rfl
            have hDc : va_D (fun q => z0 ≤ q) [((a 201), .inr (5, [.int 0, .ref (g 100), .int 0])), (q_5, .inr (19, [.int 105, .ref q_6, .int 0, .int (-1), .int 0, .int (-1), .int 0, .int 0]))] := (hD.to hAz).pick (ws' := [((a 201), .inr (5, [.int 0, .ref (g 100), .int 0])), (q_5, .inr (19, [.int 105, .ref q_6, .int 0, .int (-1), .int 0, .int (-1), .int 0, .int 0]))]) [0, 3] (by decide) rfl
            have hFc := va_free (wc := [((a 201), .inr (5, [.int 0, .ref (g 100), .int 0])), (q_5, .inr (19, [.int 105, .ref q_6, .int 0, .int (-1), .int 0, .int (-1), .int 0, .int 0]))]) hD hS hA [0, 3] rfl
            refine va_callFi (va_runF (As := [.ref q_5]) (rest := []) (hK.1.1 5 _ rfl).2 ⟨hx, hb, hml, hown, ht⟩ (k_Jx4a65c_add_9ea2d_v3 l D g z0 _ a (a 201) q_5 q_6 (fun _ => 0)) (va_cwF 1 ht (gF w_472 w_474 w_475 w_323 w_473) rfl rfl rfl (hK.2.2.2.1 _ (List.mem_of_getElem? (i := 1) rfl)) (by decide +kernel) (le2 rfl rfl)) ⟨PP.blind, va_recv hK.1 hP (ci := 5) (q0 := 0) rfl rfl, PP.mk' hK hZ hz hAz hS hPc hDc⟩ rfl rfl hl.1 rfl (lv_room (Nat.le_of_ble_eq_true rfl)) dX15_addSource_133 (le2 rfl rfl)) hS (fun q _ h => hFc q h) hFc (fun r u t H locs ht1 hvm hw hB hz1 hk1 hS => ?_)
            obtain ⟨rfl, hw⟩ := hw
            obtain ⟨q_9, hP1, hD1⟩ := hB
            rw [ht1] at hP1
            obtain ⟨hP, hD⟩ := va_join (wr := [((a 200), f_m a g), (q_6, .inl (g 0, 0, .inl (fun _ => 0))), ((a 202), .inr (5, [.int 1, .ref q_7, .int 1])), (q_7, .inl (g 8, 10, .inr (.inr (.inr (.inr (va_up (fun _ => none) (0 : Int32).toNatClampNeg (some (g 1128))))))))]) (w1 := [(q_5, .inr (19, [.int 105, .ref q_6, .int 0, .int (-1), .int 0, .int (-1), .int 0, .int 0])), ((a 201), .inr (5, [.int 1, .ref q_9, .int 1])), (q_9, .inl (g 8, 10, .inr (.inr (.inr (.inr (va_up (fun _ => none) (0 : Int32).toNatClampNeg (some q_5)))))))]) hP hD [0, 3] [1, 2, 4, 5] rfl rfl (by decide) (by decide) hk1 hFc hP1 hD1
            have hP : va_P D vwCl [((a 200), f_m a g), (q_6, .inl (g 0, 0, .inl (fun _ => 0))), ((a 202), .inr (5, [.int 1, .ref q_7, .int 1])), (q_7, .inl (g 8, 10, .inr (.inr (.inr (.inr (va_up (fun _ => none) (0 : Int32).toNatClampNeg (some (g 1128)))))))), (q_5, .inr (19, [.int 105, .ref q_6, .int 0, .int (-1), .int 0, .int (-1), .int 0, .int 0])), ((a 201), .inr (5, [.int 1, .ref q_9, .int 1])), (q_9, .inl (g 8, 10, .inr (.inr (.inr (.inr (va_up (fun _ => none) (0 : Int32).toNatClampNeg (some q_5)))))))] H := hP
            have hD : va_D (va_A [((a 200), f_m a g), ((a 201), .inr (5, [.int 0, .ref (g 100), .int 0])), ((a 202), .inr (5, [.int 0, .ref (g 100), .int 0]))] s.heap.size) [((a 200), f_m a g), (q_6, .inl (g 0, 0, .inl (fun _ => 0))), ((a 202), .inr (5, [.int 1, .ref q_7, .int 1])), (q_7, .inl (g 8, 10, .inr (.inr (.inr (.inr (va_up (fun _ => none) (0 : Int32).toNatClampNeg (some (g 1128)))))))), (q_5, .inr (19, [.int 105, .ref q_6, .int 0, .int (-1), .int 0, .int (-1), .int 0, .int 0])), ((a 201), .inr (5, [.int 1, .ref q_9, .int 1])), (q_9, .inl (g 8, 10, .inr (.inr (.inr (.inr (va_up (fun _ => none) (0 : Int32).toNatClampNeg (some q_5)))))))] := hD
            refine lv_pop hx hb dX15_addSource_138 rfl ?_
            refine lv_aload_n hx hb dX15_addSource_139 rfl (lv_at hl 1 rfl) ?_
            refine va_get (D := D) (ci := 21) (v := .ref (a 201)) (C := RX15) (T := TX15) (N := 29) hx hb ht in_X15 hown hK.1 hP 0 rfl rfl 1 (by decide) (ht _ w_354) (fun _ h9 => h9) rfl dX15_addSource_140 ?_
            have hPc : va_P D vwCl [((a 201), .inr (5, [.int 1, .ref q_9, .int 1]))] _ := hP.sub (ws' := [((a 201), .inr (5, [.int 1, .ref q_9, .int 1]))]) [5] rfl
            have hDc : va_D (fun q => z0 ≤ q) [((a 201), .inr (5, [.int 1, .ref q_9, .int 1]))] := (hD.to hAz).pick (ws' := [((a 201), .inr (5, [.int 1, .ref q_9, .int 1]))]) [5] (by decide) rfl
            have hFc := AnA (ws := [((a 200), f_m a g), ((a 201), .inr (5, [.int 0, .ref (g 100), .int 0])), ((a 202), .inr (5, [.int 0, .ref (g 100), .int 0]))]) hS.1
            refine va_callFi (va_runF (As := []) (rest := []) (hK.1.1 5 _ rfl).2 ⟨hx, hb, hml, hown, ht⟩ (k_Jx4a65c_size_8abf5_v1 l D g z0 _ a (a 201) q_9) (va_cwF 0 ht (gF w_356 w_358 w_359 w_323 w_357) rfl rfl rfl (hK.2.2.2.1 _ (List.mem_of_getElem? (i := 0) rfl)) (by decide +kernel) (le2 rfl rfl)) ⟨PP.blind, va_recv hK.1 hP (ci := 5) (q0 := 5) rfl rfl, PP.mk' hK hZ hz hAz hS hPc hDc⟩ rfl rfl hl.1 rfl (lv_room (Nat.le_of_ble_eq_true rfl)) dX15_addSource_143 (le2 rfl rfl)) hS (fun q _ h => hFc q h) hFc (fun r u t H locs ht1 hvm hw hB hz1 hk1 hS => ?_)
            obtain ⟨rfl, hw⟩ := hw
            have hP := ro1 hP hk1
            refine lv_iconst (v := 1) hx hb dX15_addSource_148 (by decide) ?_
            refine lv_isub hx hb dX15_addSource_149 ?_
            refine r_topi (v := 0) (by decide) ?_
            have hP9 := hP.sub (ws' := [((a 200), f_m a g), (q_6, .inl (g 0, 0, .inl (fun _ => 0))), ((a 202), .inr (5, [.int 1, .ref q_7, .int 1])), (q_7, .inl (g 8, 10, .inr (.inr (.inr (.inr (va_up (fun _ => none) (0 : Int32).toNatClampNeg (some (g 1128)))))))), (q_5, .inr (19, [.int 105, .ref q_6, .int 0, .int (-1), .int 0, .int (-1), .int 0, .int 0])), ((a 201), .inr (5, [.int 1, .ref q_9, .int 1])), (q_9, .inl (g 8, 10, .inr (.inr (.inr (.inr (va_up (fun _ => none) (0 : Int32).toNatClampNeg (some q_5)))))))]) [0, 1, 2, 3, 4, 5, 6] rfl
            have hD9 := hD.sub (ws' := [((a 200), f_m a g), (q_6, .inl (g 0, 0, .inl (fun _ => 0))), ((a 202), .inr (5, [.int 1, .ref q_7, .int 1])), (q_7, .inl (g 8, 10, .inr (.inr (.inr (.inr (va_up (fun _ => none) (0 : Int32).toNatClampNeg (some (g 1128)))))))), (q_5, .inr (19, [.int 105, .ref q_6, .int 0, .int (-1), .int 0, .int (-1), .int 0, .int 0])), ((a 201), .inr (5, [.int 1, .ref q_9, .int 1])), (q_9, .inl (g 8, 10, .inr (.inr (.inr (.inr (va_up (fun _ => none) (0 : Int32).toNatClampNeg (some q_5)))))))]) [0, 1, 2, 3, 4, 5, 6] (by decide) rfl
            refine W.widen (k := 4) (n := 28) (Nat.le_of_ble_eq_true rfl) (Nat.le_of_ble_eq_true rfl) ?_
            exact W.iret (v := 0) hx hb hr (fun t ht9 hW9 => ⟨⟨0, (), rfl, ⟨rfl, trivial⟩, ⟨q_6, q_7, q_5, q_9, (by rw [ht9]; exact hP9), hD9⟩⟩, hS.F ht9⟩) hS.2.2 dX15_addSource_150 hlocks
          · exact absurd c_8 (by decide)
        · exact absurd c_4 (by decide)
      · exact absurd c_3 (by decide)
  · exact absurd c_1 (by decide)
set_option maxHeartbeats 4000000 in
set_option maxRecDepth 100000 in
theorem k_X15_input (l : Launch) (D : va_G) (g : Nat → ClassId) (z0 sz : Nat) (a : Nat → Nat) : Met l yX15_input (.code yX15_input cX15_input 1 (some .int) :: TG) (rmk 6 4 28 123) (va_Pc [.ref (a 200)] (PP D g z0 sz [((a 200), f_m a g), ((a 201), .inr (5, [.int 0, .ref (g 100), .int 0])), ((a 202), .inr (5, [.int 0, .ref (g 100), .int 0]))])) (va_Qi (fun (r : Int32) (u : Unit) => (r = 0) ∧ True) (fun (u : Unit) (t : State) => va_P D vwCl [((a 200), f_m a g)] t.heap ∧ va_D (va_A [((a 200), f_m a g), ((a 201), .inr (5, [.int 0, .ref (g 100), .int 0])), ((a 202), .inr (5, [.int 0, .ref (g 100), .int 0]))] sz) [((a 200), f_m a g)]) (va_A [((a 200), f_m a g), ((a 201), .inr (5, [.int 0, .ref (g 100), .int 0])), ((a 202), .inr (5, [.int 0, .ref (g 100), .int 0]))] sz)) 4 28 (va_A [((a 200), f_m a g), ((a 201), .inr (5, [.int 0, .ref (g 100), .int 0])), ((a 202), .inr (5, [.int 0, .ref (g 100), .int 0]))] sz) := by
  refine met0 (cc := cX15_input) (n := 1) (by decide) (Nat.le_of_ble_eq_true rfl) ?_
  intro p e s m args below meth c hx hb hr hml hown ht hlocks hnm hP0 hD0 hK hZ hsz hz ls hl
  subst hsz
  have hA : ∀ q : Nat, s.heap.size ≤ q → va_A [((a 200), f_m a g), ((a 201), .inr (5, [.int 0, .ref (g 100), .int 0])), ((a 202), .inr (5, [.int 0, .ref (g 100), .int 0]))] s.heap.size q := Anw
  have hAz : ∀ q, va_A [((a 200), f_m a g), ((a 201), .inr (5, [.int 0, .ref (g 100), .int 0])), ((a 202), .inr (5, [.int 0, .ref (g 100), .int 0]))] s.heap.size q → z0 ≤ q := Awz hz hD0
  have hS : va_S (va_A [((a 200), f_m a g), ((a 201), .inr (5, [.int 0, .ref (g 100), .int 0])), ((a 202), .inr (5, [.int 0, .ref (g 100), .int 0]))] s.heap.size) s.heap s.heap [] := va_S.rf
  have hD : va_D (va_A [((a 200), f_m a g), ((a 201), .inr (5, [.int 0, .ref (g 100), .int 0])), ((a 202), .inr (5, [.int 0, .ref (g 100), .int 0]))] s.heap.size) [((a 200), f_m a g), ((a 201), .inr (5, [.int 0, .ref (g 100), .int 0])), ((a 202), .inr (5, [.int 0, .ref (g 100), .int 0]))] := hD0.self
  have hP : va_P D vwCl [((a 200), f_m a g), ((a 201), .inr (5, [.int 0, .ref (g 100), .int 0])), ((a 202), .inr (5, [.int 0, .ref (g 100), .int 0]))] s.heap := hP0
  have hl : lv_has ls 1 [(0, .ref (a 200))] := hl
  refine lv_aload_n hx hb dX15_input_0 rfl (lv_at hl 0 rfl) ?_
  refine lv_bipush (v := 105) hx hb dX15_input_1 (by decide) ?_
  have hPc : va_P D vwCl [((a 200), f_m a g), ((a 201), .inr (5, [.int 0, .ref (g 100), .int 0])), ((a 202), .inr (5, [.int 0, .ref (g 100), .int 0]))] _ := hP.sub (ws' := [((a 200), f_m a g), ((a 201), .inr (5, [.int 0, .ref (g 100), .int 0])), ((a 202), .inr (5, [.int 0, .ref (g 100), .int 0]))]) [0, 1, 2] rfl
  have hDc : va_D (fun q => z0 ≤ q) [((a 200), f_m a g), ((a 201), .inr (5, [.int 0, .ref (g 100), .int 0])), ((a 202), .inr (5, [.int 0, .ref (g 100), .int 0]))] := (hD.to hAz).pick (ws' := [((a 200), f_m a g), ((a 201), .inr (5, [.int 0, .ref (g 100), .int 0])), ((a 202), .inr (5, [.int 0, .ref (g 100), .int 0]))]) [0, 1, 2] (by decide) rfl
  have hFc := va_free (wc := [((a 200), f_m a g), ((a 201), .inr (5, [.int 0, .ref (g 100), .int 0])), ((a 202), .inr (5, [.int 0, .ref (g 100), .int 0]))]) hD hS hA [0, 1, 2] rfl
  refine va_calli (va_runV (As := [.int 105]) (rest := []) ⟨hx, hb, hml, hown, ht⟩ (k_X15_addSource_v1 l D g z0 _ a) (cwV 1 ht (gV w_477 w_479 w_480 w_334 w_478) rfl rfl rfl (by decide +kernel) (le2 rfl rfl)) ⟨PP.blind, va_recv hK.1 hP (ci := 21) (q0 := 0) rfl rfl, PP.mk' hK hZ hz hAz hS hPc hDc⟩ rfl rfl hl.1 rfl (lv_room (Nat.le_of_ble_eq_true rfl)) dX15_input_3 (le2 rfl rfl)) hS (fun q _ h => hFc q h) hFc (fun r u t H locs ht1 hvm hw hB hz1 hk1 hS => ?_)
  obtain ⟨rfl, hw⟩ := hw
  obtain ⟨q_1, q_2, q_3, q_4, hP1, hD1⟩ := hB
  rw [ht1] at hP1
  obtain ⟨hP, hD⟩ := va_join (wr := []) (w1 := [((a 200), f_m a g), (q_1, .inl (g 0, 0, .inl (fun _ => 0))), ((a 202), .inr (5, [.int 1, .ref q_2, .int 1])), (q_2, .inl (g 8, 10, .inr (.inr (.inr (.inr (va_up (fun _ => none) (0 : Int32).toNatClampNeg (some (g 1128)))))))), (q_3, .inr (19, [.int 105, .ref q_1, .int 0, .int (-1), .int 0, .int (-1), .int 0, .int 0])), ((a 201), .inr (5, [.int 1, .ref q_4, .int 1])), (q_4, .inl (g 8, 10, .inr (.inr (.inr (.inr (va_up (fun _ => none) (0 : Int32).toNatClampNeg (some q_3)))))))]) hP hD [0, 1, 2] [] rfl rfl (by decide) (by decide) hk1 hFc hP1 hD1
  have hP : va_P D vwCl [((a 200), f_m a g), (q_1, .inl (g 0, 0, .inl (fun _ => 0))), ((a 202), .inr (5, [.int 1, .ref q_2, .int 1])), (q_2, .inl (g 8, 10, .inr (.inr (.inr (.inr (va_up (fun _ => none) (0 : Int32).toNatClampNeg (some (g 1128)))))))), (q_3, .inr (19, [.int 105, .ref q_1, .int 0, .int (-1), .int 0, .int (-1), .int 0, .int 0])), ((a 201), .inr (5, [.int 1, .ref q_4, .int 1])), (q_4, .inl (g 8, 10, .inr (.inr (.inr (.inr (va_up (fun _ => none) (0 : Int32).toNatClampNeg (some q_3)))))))] H := hP
  have hD : va_D (va_A [((a 200), f_m a g), ((a 201), .inr (5, [.int 0, .ref (g 100), .int 0])), ((a 202), .inr (5, [.int 0, .ref (g 100), .int 0]))] s.heap.size) [((a 200), f_m a g), (q_1, .inl (g 0, 0, .inl (fun _ => 0))), ((a 202), .inr (5, [.int 1, .ref q_2, .int 1])), (q_2, .inl (g 8, 10, .inr (.inr (.inr (.inr (va_up (fun _ => none) (0 : Int32).toNatClampNeg (some (g 1128)))))))), (q_3, .inr (19, [.int 105, .ref q_1, .int 0, .int (-1), .int 0, .int (-1), .int 0, .int 0])), ((a 201), .inr (5, [.int 1, .ref q_4, .int 1])), (q_4, .inl (g 8, 10, .inr (.inr (.inr (.inr (va_up (fun _ => none) (0 : Int32).toNatClampNeg (some q_3)))))))] := hD
  have hP9 := hP.sub (ws' := [((a 200), f_m a g)]) [0] rfl
  have hD9 := hD.sub (ws' := [((a 200), f_m a g)]) [0] (by decide) rfl
  refine W.widen (k := 4) (n := 28) (Nat.le_of_ble_eq_true rfl) (Nat.le_of_ble_eq_true rfl) ?_
  exact W.iret (v := 0) hx hb hr (fun t ht9 hW9 => ⟨⟨0, (), rfl, ⟨rfl, trivial⟩, ⟨(by rw [ht9]; exact hP9), hD9⟩⟩, hS.F ht9⟩) hS.2.2 dX15_input_6 hlocks
set_option maxHeartbeats 4000000 in
set_option maxRecDepth 100000 in
theorem k_X15_isImpossible (l : Launch) (D : va_G) (g : Nat → ClassId) (z0 sz : Nat) (a : Nat → Nat) (p0 : Int32) : Met l yX15_isImpossible (.code yX15_isImpossible cX15_isImpossible 2 (some .boolean) :: TG) (rmk 2 0 0 43) (va_Pc [.ref (a 200), .int p0] (PP D g z0 sz [((a 200), f_m a g), ((a 204), .inr (5, [.int 0, .ref (g 100), .int 0]))])) (va_Qi (fun (r : Int32) (u : Unit) => (r = 0) ∧ True) (fun (u : Unit) (t : State) => va_P D vwCl [((a 200), .inr (21, [.int 1, .ref (a 201), .ref (a 202), .ref (a 203), .ref (a 204), .ref (a 205), .ref (a 206), .int 0, .int 0, .int 0, .int 0, .ref (a 208), .ref (a 209), .ref (a 210), .ref (a 211), .ref (a 212), .int 4, .int 12, .int (-1), .int 0, .ref (g 200), .ref (a 213), .int 0, .int 97, .ref (a 214), .ref (a 215), .ref (a 207), .null, .int 0]))] t.heap ∧ va_D (va_A [((a 200), f_m a g), ((a 204), .inr (5, [.int 0, .ref (g 100), .int 0]))] sz) [((a 200), .inr (21, [.int 1, .ref (a 201), .ref (a 202), .ref (a 203), .ref (a 204), .ref (a 205), .ref (a 206), .int 0, .int 0, .int 0, .int 0, .ref (a 208), .ref (a 209), .ref (a 210), .ref (a 211), .ref (a 212), .int 4, .int 12, .int (-1), .int 0, .ref (g 200), .ref (a 213), .int 0, .int 97, .ref (a 214), .ref (a 215), .ref (a 207), .null, .int 0]))]) (va_A [((a 200), f_m a g), ((a 204), .inr (5, [.int 0, .ref (g 100), .int 0]))] sz)) 0 0 (va_A [((a 200), f_m a g), ((a 204), .inr (5, [.int 0, .ref (g 100), .int 0]))] sz) := by
  refine met0 (cc := cX15_isImpossible) (n := 2) (by decide) (Nat.le_of_ble_eq_true rfl) ?_
  intro p e s m args below meth c hx hb hr hml hown ht hlocks hnm hP0 hD0 hK hZ hsz hz ls hl
  subst hsz
  have hA : ∀ q : Nat, s.heap.size ≤ q → va_A [((a 200), f_m a g), ((a 204), .inr (5, [.int 0, .ref (g 100), .int 0]))] s.heap.size q := Anw
  have hAz : ∀ q, va_A [((a 200), f_m a g), ((a 204), .inr (5, [.int 0, .ref (g 100), .int 0]))] s.heap.size q → z0 ≤ q := Awz hz hD0
  have hS : va_S (va_A [((a 200), f_m a g), ((a 204), .inr (5, [.int 0, .ref (g 100), .int 0]))] s.heap.size) s.heap s.heap [] := va_S.rf
  have hD : va_D (va_A [((a 200), f_m a g), ((a 204), .inr (5, [.int 0, .ref (g 100), .int 0]))] s.heap.size) [((a 200), f_m a g), ((a 204), .inr (5, [.int 0, .ref (g 100), .int 0]))] := hD0.self
  have hP : va_P D vwCl [((a 200), f_m a g), ((a 204), .inr (5, [.int 0, .ref (g 100), .int 0]))] s.heap := hP0
  have hl : lv_has ls 2 [(0, .ref (a 200)), (1, .int p0)] := hl
  refine lv_aload_n hx hb dX15_isImpossible_0 rfl (lv_at hl 0 rfl) ?_
  refine lv_aload_n hx hb dX15_isImpossible_1 rfl (lv_at hl 0 rfl) ?_
  refine lv_iload_n hx hb dX15_isImpossible_2 rfl (lv_at hl 1 rfl) ?_
  have hPc : va_P D vwCl [((a 200), f_m a g), ((a 204), .inr (5, [.int 0, .ref (g 100), .int 0]))] _ := hP.sub (ws' := [((a 200), f_m a g), ((a 204), .inr (5, [.int 0, .ref (g 100), .int 0]))]) [0, 1] rfl
  have hDc : va_D (fun q => z0 ≤ q) [((a 200), f_m a g), ((a 204), .inr (5, [.int 0, .ref (g 100), .int 0]))] := (hD.to hAz).pick (ws' := [((a 200), f_m a g), ((a 204), .inr (5, [.int 0, .ref (g 100), .int 0]))]) [0, 1] (by decide) rfl
  have hFc := AnA (ws := [((a 200), f_m a g), ((a 204), .inr (5, [.int 0, .ref (g 100), .int 0]))]) hS.1
  refine va_calli (va_runV (As := [.int p0]) (rest := [.ref (a 200)]) ⟨hx, hb, hml, hown, ht⟩ (k_X15_isFault l D g z0 _ a p0) (cwV 1 ht (gV w_372 w_374 w_375 w_334 w_373) rfl rfl rfl (by decide +kernel) (le2 rfl rfl)) ⟨PP.blind, va_recv hK.1 hP (ci := 21) (q0 := 0) rfl rfl, PP.mk' hK hZ hz hAz hS hPc hDc⟩ rfl rfl hl.1 rfl (lv_room (Nat.le_of_ble_eq_true rfl)) dX15_isImpossible_3 (le2 rfl rfl)) hS (fun q _ h => hFc q h) hFc (fun r u t H locs ht1 hvm hw hB hz1 hk1 hS => ?_)
  obtain ⟨rfl, hw⟩ := hw
  have hP := ro1 hP hk1
  refine lv_if_ne (tgt := 13) hx hb dX15_isImpossible_6 (by decide) (fun c_1 => ?_) (fun c_1 => ?_)
  · exact absurd c_1 (by decide)
  · refine lv_iconst (v := 1) hx hb dX15_isImpossible_9 (by decide) ?_
    refine lv_goto (tgt := 37) hx hb dX15_isImpossible_10 (by decide) ?_
    have hPc : va_P D vwCl [((a 200), f_m a g)] _ := hP.sub (ws' := [((a 200), f_m a g)]) [0] rfl
    have hDc : va_D (fun q => z0 ≤ q) [((a 200), f_m a g)] := (hD.to hAz).pick (ws' := [((a 200), f_m a g)]) [0] (by decide) rfl
    have hFc := va_free (wc := [((a 200), f_m a g)]) hD hS hA [0] rfl
    refine va_calli (va_runV (As := [.int 1]) (rest := []) ⟨hx, hb, hml, hown, ht⟩ (k_X15_isWrong l D g z0 _ a) (cwV 1 ht (gV w_376 w_378 w_379 w_334 w_377) rfl rfl rfl (by decide +kernel) (le2 rfl rfl)) ⟨PP.blind, va_recv hK.1 hP (ci := 21) (q0 := 0) rfl rfl, PP.mk' hK hZ hz hAz hS hPc hDc⟩ rfl rfl hl.1 rfl (lv_room (Nat.le_of_ble_eq_true rfl)) dX15_isImpossible_37 (le2 rfl rfl)) hS (fun q _ h => hFc q h) hFc (fun r u t H locs ht1 hvm hw hB hz1 hk1 hS => ?_)
    obtain ⟨rfl, hw⟩ := hw
    obtain ⟨hP1, hD1⟩ := hB
    rw [ht1] at hP1
    obtain ⟨hP, hD⟩ := va_join (wr := [((a 204), .inr (5, [.int 0, .ref (g 100), .int 0]))]) (w1 := [((a 200), .inr (21, [.int 1, .ref (a 201), .ref (a 202), .ref (a 203), .ref (a 204), .ref (a 205), .ref (a 206), .int 0, .int 0, .int 0, .int 0, .ref (a 208), .ref (a 209), .ref (a 210), .ref (a 211), .ref (a 212), .int 4, .int 12, .int (-1), .int 0, .ref (g 200), .ref (a 213), .int 0, .int 97, .ref (a 214), .ref (a 215), .ref (a 207), .null, .int 0]))]) hP hD [0] [1] rfl rfl (by decide) (by decide) hk1 hFc hP1 hD1
    have hP : va_P D vwCl [((a 204), .inr (5, [.int 0, .ref (g 100), .int 0])), ((a 200), .inr (21, [.int 1, .ref (a 201), .ref (a 202), .ref (a 203), .ref (a 204), .ref (a 205), .ref (a 206), .int 0, .int 0, .int 0, .int 0, .ref (a 208), .ref (a 209), .ref (a 210), .ref (a 211), .ref (a 212), .int 4, .int 12, .int (-1), .int 0, .ref (g 200), .ref (a 213), .int 0, .int 97, .ref (a 214), .ref (a 215), .ref (a 207), .null, .int 0]))] H := hP
    have hD : va_D (va_A [((a 200), f_m a g), ((a 204), .inr (5, [.int 0, .ref (g 100), .int 0]))] s.heap.size) [((a 204), .inr (5, [.int 0, .ref (g 100), .int 0])), ((a 200), .inr (21, [.int 1, .ref (a 201), .ref (a 202), .ref (a 203), .ref (a 204), .ref (a 205), .ref (a 206), .int 0, .int 0, .int 0, .int 0, .ref (a 208), .ref (a 209), .ref (a 210), .ref (a 211), .ref (a 212), .int 4, .int 12, .int (-1), .int 0, .ref (g 200), .ref (a 213), .int 0, .int 97, .ref (a 214), .ref (a 215), .ref (a 207), .null, .int 0]))] := hD
    refine lv_if_ne (tgt := 67) hx hb dX15_isImpossible_40 (by decide) (fun c_2 => ?_) (fun c_2 => ?_)
    · refine lv_iconst (v := 0) hx hb dX15_isImpossible_67 (by decide) ?_
      have hP9 := hP.sub (ws' := [((a 200), .inr (21, [.int 1, .ref (a 201), .ref (a 202), .ref (a 203), .ref (a 204), .ref (a 205), .ref (a 206), .int 0, .int 0, .int 0, .int 0, .ref (a 208), .ref (a 209), .ref (a 210), .ref (a 211), .ref (a 212), .int 4, .int 12, .int (-1), .int 0, .ref (g 200), .ref (a 213), .int 0, .int 97, .ref (a 214), .ref (a 215), .ref (a 207), .null, .int 0]))]) [1] rfl
      have hD9 := hD.sub (ws' := [((a 200), .inr (21, [.int 1, .ref (a 201), .ref (a 202), .ref (a 203), .ref (a 204), .ref (a 205), .ref (a 206), .int 0, .int 0, .int 0, .int 0, .ref (a 208), .ref (a 209), .ref (a 210), .ref (a 211), .ref (a 212), .int 4, .int 12, .int (-1), .int 0, .ref (g 200), .ref (a 213), .int 0, .int 97, .ref (a 214), .ref (a 215), .ref (a 207), .null, .int 0]))]) [1] (by decide) rfl
      refine W.widen (k := 0) (n := 0) (Nat.le_of_ble_eq_true rfl) (Nat.le_of_ble_eq_true rfl) ?_
      exact W.zret (v := 0) hx hb hr rfl (fun t ht9 hW9 => ⟨⟨0, (), rfl, ⟨rfl, trivial⟩, ⟨(by rw [ht9]; exact hP9), hD9⟩⟩, hS.F ht9⟩) hS.2.2 dX15_isImpossible_68 hlocks
    · exact absurd c_2 (by decide)
set_option maxHeartbeats 4000000 in
set_option maxRecDepth 100000 in
theorem k_J0_isEmpty_aae02 (l : Launch) (D : va_G) (g : Nat → ClassId) (z0 sz : Nat) (a : Nat → Nat) : Met l yJ0_isEmpty_aae02 (.code yJ0_isEmpty_aae02 cJ0_isEmpty_aae02 1 (some .boolean) :: TG) (rmk 0 0 0 0) (va_Pc [.ref (g 200)] (PP D g z0 sz [])) (va_Qi (fun (r : Int32) (u : Unit) => (r = 1) ∧ True) (fun (_ : Unit) (_ : State) => True) (va_A [] sz)) 0 0 (va_A [] sz) := by
  refine met0 (cc := cJ0_isEmpty_aae02) (n := 1) (by decide) (Nat.le_of_ble_eq_true rfl) ?_
  intro p e s m args below meth c hx hb hr hml hown ht hlocks hnm hP0 hD0 hK hZ hsz hz ls hl
  subst hsz
  have hA : ∀ q : Nat, s.heap.size ≤ q → va_A [] s.heap.size q := Anw
  have hAz : ∀ q, va_A [] s.heap.size q → z0 ≤ q := A0z hz
  have hS : va_S (va_A [] s.heap.size) s.heap s.heap [] := va_S.rf
  have hl : lv_has ls 1 [(0, .ref (g 200))] := hl
  refine lv_aload_n hx hb dJ0_isEmpty_aae02_0 rfl (lv_at hl 0 rfl) ?_
  refine vk_getf (v := .ref (g 300)) hx hb ((hZ.m hAz).2.2.1.1 0 (by decide)).2.2.1 hS hown (ht _ w_395) (fun _ h9 => h9) dJ0_isEmpty_aae02_1 ?_
  refine va_tlen (v := 0) hx hb ((hZ.m hAz).2.2.1.1 0 (by decide)).2.2.2 hS rfl dJ0_isEmpty_aae02_4 ?_
  refine lv_if_ne (tgt := 12) hx hb dJ0_isEmpty_aae02_5 (by decide) (fun c_1 => ?_) (fun c_1 => ?_)
  · exact absurd c_1 (by decide)
  · refine lv_iconst (v := 1) hx hb dJ0_isEmpty_aae02_8 (by decide) ?_
    refine lv_goto (tgt := 13) hx hb dJ0_isEmpty_aae02_9 (by decide) ?_
    refine W.widen (k := 0) (n := 0) (Nat.le_of_ble_eq_true rfl) (Nat.le_of_ble_eq_true rfl) ?_
    exact W.zret (v := 1) hx hb hr rfl (fun t ht9 hW9 => ⟨⟨1, (), rfl, ⟨rfl, trivial⟩, trivial⟩, hS.F ht9⟩) hS.2.2 dJ0_isEmpty_aae02_13 hlocks
set_option maxHeartbeats 4000000 in
set_option maxRecDepth 100000 in
theorem k_X15_isRightNow (l : Launch) (D : va_G) (g : Nat → ClassId) (z0 sz : Nat) (a : Nat → Nat) : Met l yX15_isRightNow (.code yX15_isRightNow cX15_isRightNow 2 (some .boolean) :: TG) (rmk 1 0 0 20) (va_Pc [.ref (a 200)] (PP D g z0 sz [((a 200), .inr (21, [.int 0, .ref (a 201), .ref (a 202), .ref (a 203), .ref (a 204), .ref (a 205), .ref (a 206), .int 0, .int 0, .int 0, .int 0, .ref (a 208), .ref (a 209), .ref (a 210), .ref (a 211), .ref (a 212), .int 4, .int 12, .int (-1), .int 0, .ref (g 200), .ref (a 213), .int 0, .int 97, .ref (a 214), .ref (a 215), .ref (a 207), .null, .int 0]))])) (va_Qi (fun (r : Int32) (u : Unit) => (r = 0) ∧ True) (fun (_ : Unit) (_ : State) => True) (va_A [] sz)) 0 0 (va_A [] sz) := by
  refine met0 (cc := cX15_isRightNow) (n := 2) (by decide) (Nat.le_of_ble_eq_true rfl) ?_
  intro p e s m args below meth c hx hb hr hml hown ht hlocks hnm hP0 hD0 hK hZ hsz hz ls hl
  subst hsz
  have hA : ∀ q : Nat, s.heap.size ≤ q → va_A [] s.heap.size q := Anw
  have hAz : ∀ q, va_A [] s.heap.size q → z0 ≤ q := A0z hz
  have hS : va_S (va_A [] s.heap.size) s.heap s.heap [] := va_S.rf
  have hl : lv_has ls 2 [(0, .ref (a 200))] := hl
  refine lv_aload_n hx hb dX15_isRightNow_0 rfl (lv_at hl 0 rfl) ?_
  refine va_get (D := D) (ci := 21) (v := .ref (g 200)) (C := RX15) (T := TX15) (N := 29) hx hb ht in_X15 hown hK.1 (ro0 hP0 hS) 0 rfl rfl 20 (by decide) (ht _ w_491) (fun _ h9 => h9) rfl dX15_isRightNow_1 ?_
  have hPc : va_P D vwCl [] _ := (ro0 hP0 hS).sub (ws' := []) [] rfl
  have hDc : va_D (fun q => z0 ≤ q) [] := hD0.pick (ws' := []) [] (by decide) rfl
  have hFc := AnA (ws := []) hS.1
  refine va_calli (va_runV (As := []) (rest := []) ⟨hx, hb, hml, hown, ht⟩ (k_J0_isEmpty_aae02 l D g z0 _ a) (cwV 0 ht (gV w_510 w_512 w_513 w_394 w_511) rfl rfl rfl (by decide +kernel) (le2 rfl rfl)) ⟨PP.blind, vk_recv (i := 0) (hZ.m hAz).2.2.1 (by decide) hS, PP.mk' hK hZ hz hAz hS hPc hDc⟩ rfl rfl hl.1 rfl (lv_room (Nat.le_of_ble_eq_true rfl)) dX15_isRightNow_4 (le2 rfl rfl)) hS (fun q _ h => hFc q h) hFc (fun r u t H locs ht1 hvm hw hB hz1 hk1 hS => ?_)
  obtain ⟨rfl, hw⟩ := hw
  refine lv_if_ne (tgt := 40) hx hb dX15_isRightNow_7 (by decide) (fun c_1 => ?_) (fun c_1 => ?_)
  · refine lv_iconst (v := 0) hx hb dX15_isRightNow_40 (by decide) ?_
    refine lv_istore_n (lv' := [(1, .int 0), (0, .ref (a 200))]) hx hb dX15_isRightNow_41 rfl hl (by decide) rfl (fun ls hl => ?_)
    refine lv_iload_n hx hb dX15_isRightNow_42 rfl (lv_at hl 0 rfl) ?_
    refine lv_if_eq (tgt := 78) hx hb dX15_isRightNow_43 (by decide) (fun c_2 => ?_) (fun c_2 => ?_)
    · refine lv_iconst (v := 0) hx hb dX15_isRightNow_78 (by decide) ?_
      refine W.widen (k := 0) (n := 0) (Nat.le_of_ble_eq_true rfl) (Nat.le_of_ble_eq_true rfl) ?_
      exact W.zret (v := 0) hx hb hr rfl (fun t ht9 hW9 => ⟨⟨0, (), rfl, ⟨rfl, trivial⟩, trivial⟩, hS.F ht9⟩) hS.2.2 dX15_isRightNow_79 hlocks
    · exact absurd c_2 (by decide)
  · exact absurd c_1 (by decide)
set_option maxHeartbeats 4000000 in
set_option maxRecDepth 100000 in
theorem k_X15_isRight (l : Launch) (D : va_G) (g : Nat → ClassId) (z0 sz : Nat) (a : Nat → Nat) : Met l yX15_isRight (.code yX15_isRight cX15_isRight 1 (some .boolean) :: TG) (rmk 2 0 0 41) (va_Pc [.ref (a 200)] (PP D g z0 sz [((a 200), f_m a g)])) (va_Qi (fun (r : Int32) (u : Unit) => (r = 0) ∧ True) (fun (u : Unit) (t : State) => va_P D vwCl [((a 200), .inr (21, [.int 0, .ref (a 201), .ref (a 202), .ref (a 203), .ref (a 204), .ref (a 205), .ref (a 206), .int 0, .int 0, .int 0, .int 0, .ref (a 208), .ref (a 209), .ref (a 210), .ref (a 211), .ref (a 212), .int 4, .int 12, .int (-1), .int 0, .ref (g 200), .ref (a 213), .int 0, .int 97, .ref (a 214), .ref (a 215), .ref (a 207), .null, .int 0]))] t.heap ∧ va_D (va_A [((a 200), f_m a g)] sz) [((a 200), .inr (21, [.int 0, .ref (a 201), .ref (a 202), .ref (a 203), .ref (a 204), .ref (a 205), .ref (a 206), .int 0, .int 0, .int 0, .int 0, .ref (a 208), .ref (a 209), .ref (a 210), .ref (a 211), .ref (a 212), .int 4, .int 12, .int (-1), .int 0, .ref (g 200), .ref (a 213), .int 0, .int 97, .ref (a 214), .ref (a 215), .ref (a 207), .null, .int 0]))]) (va_A [((a 200), f_m a g)] sz)) 0 0 (va_A [((a 200), f_m a g)] sz) := by
  refine met0 (cc := cX15_isRight) (n := 1) (by decide) (Nat.le_of_ble_eq_true rfl) ?_
  intro p e s m args below meth c hx hb hr hml hown ht hlocks hnm hP0 hD0 hK hZ hsz hz ls hl
  subst hsz
  have hA : ∀ q : Nat, s.heap.size ≤ q → va_A [((a 200), f_m a g)] s.heap.size q := Anw
  have hAz : ∀ q, va_A [((a 200), f_m a g)] s.heap.size q → z0 ≤ q := Awz hz hD0
  have hS : va_S (va_A [((a 200), f_m a g)] s.heap.size) s.heap s.heap [] := va_S.rf
  have hD : va_D (va_A [((a 200), f_m a g)] s.heap.size) [((a 200), f_m a g)] := hD0.self
  have hP : va_P D vwCl [((a 200), f_m a g)] s.heap := hP0
  have hl : lv_has ls 1 [(0, .ref (a 200))] := hl
  refine lv_aload_n hx hb dX15_isRight_0 rfl (lv_at hl 0 rfl) ?_
  refine lv_iconst (v := 0) hx hb dX15_isRight_1 (by decide) ?_
  refine va_put (D := D) (ci := 21) (v := .int 0) (ty := .int) (C := RX15) (T := TX15) (N := 29) hx hb ht in_X15 tyX15 tyX15_ok nmX15 hown hK.1 hP hD hS 0 rfl rfl 0 (by decide) (ht _ w_303) (fun _ h9 => h9) rfl (by decide +kernel) rfl rfl (Nat.le_of_ble_eq_true rfl) dX15_isRight_2 (fun H locs hP hD hS => ?_)
  have hP : va_P D vwCl [((a 200), .inr (21, [.int 0, .ref (a 201), .ref (a 202), .ref (a 203), .ref (a 204), .ref (a 205), .ref (a 206), .int 0, .int 0, .int 0, .int 0, .ref (a 208), .ref (a 209), .ref (a 210), .ref (a 211), .ref (a 212), .int 4, .int 12, .int (-1), .int 0, .ref (g 200), .ref (a 213), .int 0, .int 97, .ref (a 214), .ref (a 215), .ref (a 207), .null, .int 0]))] H := hP
  have hD : va_D (va_A [((a 200), f_m a g)] s.heap.size) [((a 200), .inr (21, [.int 0, .ref (a 201), .ref (a 202), .ref (a 203), .ref (a 204), .ref (a 205), .ref (a 206), .int 0, .int 0, .int 0, .int 0, .ref (a 208), .ref (a 209), .ref (a 210), .ref (a 211), .ref (a 212), .int 4, .int 12, .int (-1), .int 0, .ref (g 200), .ref (a 213), .int 0, .int 97, .ref (a 214), .ref (a 215), .ref (a 207), .null, .int 0]))] := hD
  refine lv_aload_n hx hb dX15_isRight_5 rfl (lv_at hl 0 rfl) ?_
  have hPc : va_P D vwCl [((a 200), .inr (21, [.int 0, .ref (a 201), .ref (a 202), .ref (a 203), .ref (a 204), .ref (a 205), .ref (a 206), .int 0, .int 0, .int 0, .int 0, .ref (a 208), .ref (a 209), .ref (a 210), .ref (a 211), .ref (a 212), .int 4, .int 12, .int (-1), .int 0, .ref (g 200), .ref (a 213), .int 0, .int 97, .ref (a 214), .ref (a 215), .ref (a 207), .null, .int 0]))] _ := hP.sub (ws' := [((a 200), .inr (21, [.int 0, .ref (a 201), .ref (a 202), .ref (a 203), .ref (a 204), .ref (a 205), .ref (a 206), .int 0, .int 0, .int 0, .int 0, .ref (a 208), .ref (a 209), .ref (a 210), .ref (a 211), .ref (a 212), .int 4, .int 12, .int (-1), .int 0, .ref (g 200), .ref (a 213), .int 0, .int 97, .ref (a 214), .ref (a 215), .ref (a 207), .null, .int 0]))]) [0] rfl
  have hDc : va_D (fun q => z0 ≤ q) [((a 200), .inr (21, [.int 0, .ref (a 201), .ref (a 202), .ref (a 203), .ref (a 204), .ref (a 205), .ref (a 206), .int 0, .int 0, .int 0, .int 0, .ref (a 208), .ref (a 209), .ref (a 210), .ref (a 211), .ref (a 212), .int 4, .int 12, .int (-1), .int 0, .ref (g 200), .ref (a 213), .int 0, .int 97, .ref (a 214), .ref (a 215), .ref (a 207), .null, .int 0]))] := (hD.to hAz).pick (ws' := [((a 200), .inr (21, [.int 0, .ref (a 201), .ref (a 202), .ref (a 203), .ref (a 204), .ref (a 205), .ref (a 206), .int 0, .int 0, .int 0, .int 0, .ref (a 208), .ref (a 209), .ref (a 210), .ref (a 211), .ref (a 212), .int 4, .int 12, .int (-1), .int 0, .ref (g 200), .ref (a 213), .int 0, .int 97, .ref (a 214), .ref (a 215), .ref (a 207), .null, .int 0]))]) [0] (by decide) rfl
  have hFc := AnA (ws := [((a 200), f_m a g)]) hS.1
  refine va_calli (va_runV (As := []) (rest := []) ⟨hx, hb, hml, hown, ht⟩ (k_X15_isRightNow l D g z0 _ a) (cwV 0 ht (gV w_514 w_516 w_517 w_334 w_515) rfl rfl rfl (by decide +kernel) (le2 rfl rfl)) ⟨PP.blind, va_recv hK.1 hP (ci := 21) (q0 := 0) rfl rfl, PP.mk' hK hZ hz hAz hS hPc hDc⟩ rfl rfl hl.1 rfl (lv_room (Nat.le_of_ble_eq_true rfl)) dX15_isRight_6 (le2 rfl rfl)) hS (fun q _ h => hFc q h) hFc (fun r u t H locs ht1 hvm hw hB hz1 hk1 hS => ?_)
  obtain ⟨rfl, hw⟩ := hw
  have hP := ro1 hP hk1
  have hP9 := hP.sub (ws' := [((a 200), .inr (21, [.int 0, .ref (a 201), .ref (a 202), .ref (a 203), .ref (a 204), .ref (a 205), .ref (a 206), .int 0, .int 0, .int 0, .int 0, .ref (a 208), .ref (a 209), .ref (a 210), .ref (a 211), .ref (a 212), .int 4, .int 12, .int (-1), .int 0, .ref (g 200), .ref (a 213), .int 0, .int 97, .ref (a 214), .ref (a 215), .ref (a 207), .null, .int 0]))]) [0] rfl
  have hD9 := hD.sub (ws' := [((a 200), .inr (21, [.int 0, .ref (a 201), .ref (a 202), .ref (a 203), .ref (a 204), .ref (a 205), .ref (a 206), .int 0, .int 0, .int 0, .int 0, .ref (a 208), .ref (a 209), .ref (a 210), .ref (a 211), .ref (a 212), .int 4, .int 12, .int (-1), .int 0, .ref (g 200), .ref (a 213), .int 0, .int 97, .ref (a 214), .ref (a 215), .ref (a 207), .null, .int 0]))]) [0] (by decide) rfl
  refine W.widen (k := 0) (n := 0) (Nat.le_of_ble_eq_true rfl) (Nat.le_of_ble_eq_true rfl) ?_
  exact W.zret (v := 0) hx hb hr rfl (fun t ht9 hW9 => ⟨⟨0, (), rfl, ⟨rfl, trivial⟩, ⟨(by rw [ht9]; exact hP9), hD9⟩⟩, hS.F ht9⟩) hS.2.2 dX15_isRight_9 hlocks
set_option maxHeartbeats 4000000 in
set_option maxRecDepth 100000 in
theorem k_X15_isSound (l : Launch) (D : va_G) (g : Nat → ClassId) (z0 sz : Nat) (a : Nat → Nat) : Met l yX15_isSound (.code yX15_isSound cX15_isSound 1 (some .boolean) :: TG) (rmk 0 0 0 0) (va_Pc [.ref (a 200)] (PP D g z0 sz [((a 200), f_m a g)])) (va_Qi (fun (r : Int32) (u : Unit) => (r = 1) ∧ True) (fun (u : Unit) (t : State) => va_P D vwCl [((a 200), .inr (21, [.int 0, .ref (a 201), .ref (a 202), .ref (a 203), .ref (a 204), .ref (a 205), .ref (a 206), .int 0, .int 0, .int 0, .int 0, .ref (a 208), .ref (a 209), .ref (a 210), .ref (a 211), .ref (a 212), .int 4, .int 12, .int (-1), .int 0, .ref (g 200), .ref (a 213), .int 0, .int 97, .ref (a 214), .ref (a 215), .ref (a 207), .null, .int 0]))] t.heap ∧ va_D (va_A [((a 200), f_m a g)] sz) [((a 200), .inr (21, [.int 0, .ref (a 201), .ref (a 202), .ref (a 203), .ref (a 204), .ref (a 205), .ref (a 206), .int 0, .int 0, .int 0, .int 0, .ref (a 208), .ref (a 209), .ref (a 210), .ref (a 211), .ref (a 212), .int 4, .int 12, .int (-1), .int 0, .ref (g 200), .ref (a 213), .int 0, .int 97, .ref (a 214), .ref (a 215), .ref (a 207), .null, .int 0]))]) (va_A [((a 200), f_m a g)] sz)) 0 0 (va_A [((a 200), f_m a g)] sz) := by
  refine met0 (cc := cX15_isSound) (n := 1) (by decide) (Nat.le_of_ble_eq_true rfl) ?_
  intro p e s m args below meth c hx hb hr hml hown ht hlocks hnm hP0 hD0 hK hZ hsz hz ls hl
  subst hsz
  have hA : ∀ q : Nat, s.heap.size ≤ q → va_A [((a 200), f_m a g)] s.heap.size q := Anw
  have hAz : ∀ q, va_A [((a 200), f_m a g)] s.heap.size q → z0 ≤ q := Awz hz hD0
  have hS : va_S (va_A [((a 200), f_m a g)] s.heap.size) s.heap s.heap [] := va_S.rf
  have hD : va_D (va_A [((a 200), f_m a g)] s.heap.size) [((a 200), f_m a g)] := hD0.self
  have hP : va_P D vwCl [((a 200), f_m a g)] s.heap := hP0
  have hl : lv_has ls 1 [(0, .ref (a 200))] := hl
  refine lv_aload_n hx hb dX15_isSound_0 rfl (lv_at hl 0 rfl) ?_
  refine lv_iconst (v := 0) hx hb dX15_isSound_1 (by decide) ?_
  refine va_put (D := D) (ci := 21) (v := .int 0) (ty := .int) (C := RX15) (T := TX15) (N := 29) hx hb ht in_X15 tyX15 tyX15_ok nmX15 hown hK.1 hP hD hS 0 rfl rfl 0 (by decide) (ht _ w_303) (fun _ h9 => h9) rfl (by decide +kernel) rfl rfl (Nat.le_of_ble_eq_true rfl) dX15_isSound_2 (fun H locs hP hD hS => ?_)
  have hP : va_P D vwCl [((a 200), .inr (21, [.int 0, .ref (a 201), .ref (a 202), .ref (a 203), .ref (a 204), .ref (a 205), .ref (a 206), .int 0, .int 0, .int 0, .int 0, .ref (a 208), .ref (a 209), .ref (a 210), .ref (a 211), .ref (a 212), .int 4, .int 12, .int (-1), .int 0, .ref (g 200), .ref (a 213), .int 0, .int 97, .ref (a 214), .ref (a 215), .ref (a 207), .null, .int 0]))] H := hP
  have hD : va_D (va_A [((a 200), f_m a g)] s.heap.size) [((a 200), .inr (21, [.int 0, .ref (a 201), .ref (a 202), .ref (a 203), .ref (a 204), .ref (a 205), .ref (a 206), .int 0, .int 0, .int 0, .int 0, .ref (a 208), .ref (a 209), .ref (a 210), .ref (a 211), .ref (a 212), .int 4, .int 12, .int (-1), .int 0, .ref (g 200), .ref (a 213), .int 0, .int 97, .ref (a 214), .ref (a 215), .ref (a 207), .null, .int 0]))] := hD
  refine lv_iconst (v := 1) hx hb dX15_isSound_5 (by decide) ?_
  have hP9 := hP.sub (ws' := [((a 200), .inr (21, [.int 0, .ref (a 201), .ref (a 202), .ref (a 203), .ref (a 204), .ref (a 205), .ref (a 206), .int 0, .int 0, .int 0, .int 0, .ref (a 208), .ref (a 209), .ref (a 210), .ref (a 211), .ref (a 212), .int 4, .int 12, .int (-1), .int 0, .ref (g 200), .ref (a 213), .int 0, .int 97, .ref (a 214), .ref (a 215), .ref (a 207), .null, .int 0]))]) [0] rfl
  have hD9 := hD.sub (ws' := [((a 200), .inr (21, [.int 0, .ref (a 201), .ref (a 202), .ref (a 203), .ref (a 204), .ref (a 205), .ref (a 206), .int 0, .int 0, .int 0, .int 0, .ref (a 208), .ref (a 209), .ref (a 210), .ref (a 211), .ref (a 212), .int 4, .int 12, .int (-1), .int 0, .ref (g 200), .ref (a 213), .int 0, .int 97, .ref (a 214), .ref (a 215), .ref (a 207), .null, .int 0]))]) [0] (by decide) rfl
  refine W.widen (k := 0) (n := 0) (Nat.le_of_ble_eq_true rfl) (Nat.le_of_ble_eq_true rfl) ?_
  exact W.zret (v := 1) hx hb hr rfl (fun t ht9 hW9 => ⟨⟨1, (), rfl, ⟨rfl, trivial⟩, ⟨(by rw [ht9]; exact hP9), hD9⟩⟩, hS.F ht9⟩) hS.2.2 dX15_isSound_6 hlocks
set_option maxHeartbeats 4000000 in
set_option maxRecDepth 100000 in
theorem k_X15_known (l : Launch) (D : va_G) (g : Nat → ClassId) (z0 sz : Nat) (a : Nat → Nat) (p0 : Int32) (p1 : Int32) : Met l yX15_known (.code yX15_known cX15_known 6 (some .int) :: TG) (rmk 2 0 0 43) (va_Pc [.ref (a 200), .int p0, .int p1] (PP D g z0 sz [((a 200), f_m a g), ((a 206), .inr (5, [.int 0, .ref (g 100), .int 0]))])) (va_Qi (fun (r : Int32) (u : Unit) => (r = 0) ∧ True) (fun (u : Unit) (t : State) => va_P D vwCl [((a 200), .inr (21, [.int 1, .ref (a 201), .ref (a 202), .ref (a 203), .ref (a 204), .ref (a 205), .ref (a 206), .int 0, .int 0, .int 0, .int 0, .ref (a 208), .ref (a 209), .ref (a 210), .ref (a 211), .ref (a 212), .int 4, .int 12, .int (-1), .int 0, .ref (g 200), .ref (a 213), .int 0, .int 97, .ref (a 214), .ref (a 215), .ref (a 207), .null, .int 0]))] t.heap ∧ va_D (va_A [((a 200), f_m a g), ((a 206), .inr (5, [.int 0, .ref (g 100), .int 0]))] sz) [((a 200), .inr (21, [.int 1, .ref (a 201), .ref (a 202), .ref (a 203), .ref (a 204), .ref (a 205), .ref (a 206), .int 0, .int 0, .int 0, .int 0, .ref (a 208), .ref (a 209), .ref (a 210), .ref (a 211), .ref (a 212), .int 4, .int 12, .int (-1), .int 0, .ref (g 200), .ref (a 213), .int 0, .int 97, .ref (a 214), .ref (a 215), .ref (a 207), .null, .int 0]))]) (va_A [((a 200), f_m a g), ((a 206), .inr (5, [.int 0, .ref (g 100), .int 0]))] sz)) 0 0 (va_A [((a 200), f_m a g), ((a 206), .inr (5, [.int 0, .ref (g 100), .int 0]))] sz) := by
  refine met0 (cc := cX15_known) (n := 6) (by decide) (Nat.le_of_ble_eq_true rfl) ?_
  intro p e s m args below meth c hx hb hr hml hown ht hlocks hnm hP0 hD0 hK hZ hsz hz ls hl
  subst hsz
  have hA : ∀ q : Nat, s.heap.size ≤ q → va_A [((a 200), f_m a g), ((a 206), .inr (5, [.int 0, .ref (g 100), .int 0]))] s.heap.size q := Anw
  have hAz : ∀ q, va_A [((a 200), f_m a g), ((a 206), .inr (5, [.int 0, .ref (g 100), .int 0]))] s.heap.size q → z0 ≤ q := Awz hz hD0
  have hS : va_S (va_A [((a 200), f_m a g), ((a 206), .inr (5, [.int 0, .ref (g 100), .int 0]))] s.heap.size) s.heap s.heap [] := va_S.rf
  have hD : va_D (va_A [((a 200), f_m a g), ((a 206), .inr (5, [.int 0, .ref (g 100), .int 0]))] s.heap.size) [((a 200), f_m a g), ((a 206), .inr (5, [.int 0, .ref (g 100), .int 0]))] := hD0.self
  have hP : va_P D vwCl [((a 200), f_m a g), ((a 206), .inr (5, [.int 0, .ref (g 100), .int 0]))] s.heap := hP0
  have hl : lv_has ls 6 [(0, .ref (a 200)), (1, .int p0), (2, .int p1)] := hl
  refine lv_aload_n hx hb dX15_known_0 rfl (lv_at hl 0 rfl) ?_
  refine lv_aload_n hx hb dX15_known_1 rfl (lv_at hl 0 rfl) ?_
  refine lv_iload_n hx hb dX15_known_2 rfl (lv_at hl 1 rfl) ?_
  have hPc : va_P D vwCl [((a 200), f_m a g), ((a 206), .inr (5, [.int 0, .ref (g 100), .int 0]))] _ := hP.sub (ws' := [((a 200), f_m a g), ((a 206), .inr (5, [.int 0, .ref (g 100), .int 0]))]) [0, 1] rfl
  have hDc : va_D (fun q => z0 ≤ q) [((a 200), f_m a g), ((a 206), .inr (5, [.int 0, .ref (g 100), .int 0]))] := (hD.to hAz).pick (ws' := [((a 200), f_m a g), ((a 206), .inr (5, [.int 0, .ref (g 100), .int 0]))]) [0, 1] (by decide) rfl
  have hFc := AnA (ws := [((a 200), f_m a g), ((a 206), .inr (5, [.int 0, .ref (g 100), .int 0]))]) hS.1
  refine va_calli (va_runV (As := [.int p0]) (rest := [.ref (a 200)]) ⟨hx, hb, hml, hown, ht⟩ (k_X15_isPattern l D g z0 _ a p0) (cwV 1 ht (gV w_498 w_500 w_501 w_334 w_499) rfl rfl rfl (by decide +kernel) (le2 rfl rfl)) ⟨PP.blind, va_recv hK.1 hP (ci := 21) (q0 := 0) rfl rfl, PP.mk' hK hZ hz hAz hS hPc hDc⟩ rfl rfl hl.1 rfl (lv_room (Nat.le_of_ble_eq_true rfl)) dX15_known_3 (le2 rfl rfl)) hS (fun q _ h => hFc q h) hFc (fun r u t H locs ht1 hvm hw hB hz1 hk1 hS => ?_)
  obtain ⟨rfl, hw⟩ := hw
  have hP := ro1 hP hk1
  refine lv_if_eq (tgt := 13) hx hb dX15_known_6 (by decide) (fun c_1 => ?_) (fun c_1 => ?_)
  · refine lv_iconst (v := 1) hx hb dX15_known_13 (by decide) ?_
    have hPc : va_P D vwCl [((a 200), f_m a g)] _ := hP.sub (ws' := [((a 200), f_m a g)]) [0] rfl
    have hDc : va_D (fun q => z0 ≤ q) [((a 200), f_m a g)] := (hD.to hAz).pick (ws' := [((a 200), f_m a g)]) [0] (by decide) rfl
    have hFc := va_free (wc := [((a 200), f_m a g)]) hD hS hA [0] rfl
    refine va_calli (va_runV (As := [.int 1]) (rest := []) ⟨hx, hb, hml, hown, ht⟩ (k_X15_isWrong l D g z0 _ a) (cwV 1 ht (gV w_376 w_378 w_379 w_334 w_377) rfl rfl rfl (by decide +kernel) (le2 rfl rfl)) ⟨PP.blind, va_recv hK.1 hP (ci := 21) (q0 := 0) rfl rfl, PP.mk' hK hZ hz hAz hS hPc hDc⟩ rfl rfl hl.1 rfl (lv_room (Nat.le_of_ble_eq_true rfl)) dX15_known_14 (le2 rfl rfl)) hS (fun q _ h => hFc q h) hFc (fun r u t H locs ht1 hvm hw hB hz1 hk1 hS => ?_)
    obtain ⟨rfl, hw⟩ := hw
    obtain ⟨hP1, hD1⟩ := hB
    rw [ht1] at hP1
    obtain ⟨hP, hD⟩ := va_join (wr := [((a 206), .inr (5, [.int 0, .ref (g 100), .int 0]))]) (w1 := [((a 200), .inr (21, [.int 1, .ref (a 201), .ref (a 202), .ref (a 203), .ref (a 204), .ref (a 205), .ref (a 206), .int 0, .int 0, .int 0, .int 0, .ref (a 208), .ref (a 209), .ref (a 210), .ref (a 211), .ref (a 212), .int 4, .int 12, .int (-1), .int 0, .ref (g 200), .ref (a 213), .int 0, .int 97, .ref (a 214), .ref (a 215), .ref (a 207), .null, .int 0]))]) hP hD [0] [1] rfl rfl (by decide) (by decide) hk1 hFc hP1 hD1
    have hP : va_P D vwCl [((a 206), .inr (5, [.int 0, .ref (g 100), .int 0])), ((a 200), .inr (21, [.int 1, .ref (a 201), .ref (a 202), .ref (a 203), .ref (a 204), .ref (a 205), .ref (a 206), .int 0, .int 0, .int 0, .int 0, .ref (a 208), .ref (a 209), .ref (a 210), .ref (a 211), .ref (a 212), .int 4, .int 12, .int (-1), .int 0, .ref (g 200), .ref (a 213), .int 0, .int 97, .ref (a 214), .ref (a 215), .ref (a 207), .null, .int 0]))] H := hP
    have hD : va_D (va_A [((a 200), f_m a g), ((a 206), .inr (5, [.int 0, .ref (g 100), .int 0]))] s.heap.size) [((a 206), .inr (5, [.int 0, .ref (g 100), .int 0])), ((a 200), .inr (21, [.int 1, .ref (a 201), .ref (a 202), .ref (a 203), .ref (a 204), .ref (a 205), .ref (a 206), .int 0, .int 0, .int 0, .int 0, .ref (a 208), .ref (a 209), .ref (a 210), .ref (a 211), .ref (a 212), .int 4, .int 12, .int (-1), .int 0, .ref (g 200), .ref (a 213), .int 0, .int 97, .ref (a 214), .ref (a 215), .ref (a 207), .null, .int 0]))] := hD
    refine lv_if_eq (tgt := 22) hx hb dX15_known_17 (by decide) (fun c_2 => ?_) (fun c_2 => ?_)
    · exact absurd c_2 (by decide)
    · refine lv_iconst (v := 0) hx hb dX15_known_20 (by decide) ?_
      have hP9 := hP.sub (ws' := [((a 200), .inr (21, [.int 1, .ref (a 201), .ref (a 202), .ref (a 203), .ref (a 204), .ref (a 205), .ref (a 206), .int 0, .int 0, .int 0, .int 0, .ref (a 208), .ref (a 209), .ref (a 210), .ref (a 211), .ref (a 212), .int 4, .int 12, .int (-1), .int 0, .ref (g 200), .ref (a 213), .int 0, .int 97, .ref (a 214), .ref (a 215), .ref (a 207), .null, .int 0]))]) [1] rfl
      have hD9 := hD.sub (ws' := [((a 200), .inr (21, [.int 1, .ref (a 201), .ref (a 202), .ref (a 203), .ref (a 204), .ref (a 205), .ref (a 206), .int 0, .int 0, .int 0, .int 0, .ref (a 208), .ref (a 209), .ref (a 210), .ref (a 211), .ref (a 212), .int 4, .int 12, .int (-1), .int 0, .ref (g 200), .ref (a 213), .int 0, .int 97, .ref (a 214), .ref (a 215), .ref (a 207), .null, .int 0]))]) [1] (by decide) rfl
      refine W.widen (k := 0) (n := 0) (Nat.le_of_ble_eq_true rfl) (Nat.le_of_ble_eq_true rfl) ?_
      exact W.iret (v := 0) hx hb hr (fun t ht9 hW9 => ⟨⟨0, (), rfl, ⟨rfl, trivial⟩, ⟨(by rw [ht9]; exact hP9), hD9⟩⟩, hS.F ht9⟩) hS.2.2 dX15_known_21 hlocks
  · exact absurd c_1 (by decide)
set_option maxHeartbeats 4000000 in
set_option maxRecDepth 100000 in
theorem k_X15_least (l : Launch) (D : va_G) (g : Nat → ClassId) (z0 sz : Nat) (a : Nat → Nat) (p0 : Int32) (p1 : Int32) : Met l yX15_least (.code yX15_least cX15_least 3 (some .int) :: TG) (rmk 1 0 0 21) (va_Pc [.ref (a 200), .int p0, .int p1] (PP D g z0 sz [((a 200), f_m a g), ((a 207), .inr (5, [.int 0, .ref (g 100), .int 0]))])) (va_Qi (fun (r : Int32) (u : Unit) => (r = 0) ∧ True) (fun (u : Unit) (t : State) => va_P D vwCl [((a 200), .inr (21, [.int 1, .ref (a 201), .ref (a 202), .ref (a 203), .ref (a 204), .ref (a 205), .ref (a 206), .int 0, .int 0, .int 0, .int 0, .ref (a 208), .ref (a 209), .ref (a 210), .ref (a 211), .ref (a 212), .int 4, .int 12, .int (-1), .int 0, .ref (g 200), .ref (a 213), .int 0, .int 97, .ref (a 214), .ref (a 215), .ref (a 207), .null, .int 0]))] t.heap ∧ va_D (va_A [((a 200), f_m a g), ((a 207), .inr (5, [.int 0, .ref (g 100), .int 0]))] sz) [((a 200), .inr (21, [.int 1, .ref (a 201), .ref (a 202), .ref (a 203), .ref (a 204), .ref (a 205), .ref (a 206), .int 0, .int 0, .int 0, .int 0, .ref (a 208), .ref (a 209), .ref (a 210), .ref (a 211), .ref (a 212), .int 4, .int 12, .int (-1), .int 0, .ref (g 200), .ref (a 213), .int 0, .int 97, .ref (a 214), .ref (a 215), .ref (a 207), .null, .int 0]))]) (va_A [((a 200), f_m a g), ((a 207), .inr (5, [.int 0, .ref (g 100), .int 0]))] sz)) 0 0 (va_A [((a 200), f_m a g), ((a 207), .inr (5, [.int 0, .ref (g 100), .int 0]))] sz) := by
  refine met0 (cc := cX15_least) (n := 3) (by decide) (Nat.le_of_ble_eq_true rfl) ?_
  intro p e s m args below meth c hx hb hr hml hown ht hlocks hnm hP0 hD0 hK hZ hsz hz ls hl
  subst hsz
  have hA : ∀ q : Nat, s.heap.size ≤ q → va_A [((a 200), f_m a g), ((a 207), .inr (5, [.int 0, .ref (g 100), .int 0]))] s.heap.size q := Anw
  have hAz : ∀ q, va_A [((a 200), f_m a g), ((a 207), .inr (5, [.int 0, .ref (g 100), .int 0]))] s.heap.size q → z0 ≤ q := Awz hz hD0
  have hS : va_S (va_A [((a 200), f_m a g), ((a 207), .inr (5, [.int 0, .ref (g 100), .int 0]))] s.heap.size) s.heap s.heap [] := va_S.rf
  have hD : va_D (va_A [((a 200), f_m a g), ((a 207), .inr (5, [.int 0, .ref (g 100), .int 0]))] s.heap.size) [((a 200), f_m a g), ((a 207), .inr (5, [.int 0, .ref (g 100), .int 0]))] := hD0.self
  have hP : va_P D vwCl [((a 200), f_m a g), ((a 207), .inr (5, [.int 0, .ref (g 100), .int 0]))] s.heap := hP0
  have hl : lv_has ls 3 [(0, .ref (a 200)), (1, .int p0), (2, .int p1)] := hl
  refine lv_aload_n hx hb dX15_least_0 rfl (lv_at hl 0 rfl) ?_
  refine lv_aload_n hx hb dX15_least_1 rfl (lv_at hl 0 rfl) ?_
  refine va_get (D := D) (ci := 21) (v := .ref (a 207)) (C := RX15) (T := TX15) (N := 29) hx hb ht in_X15 hown hK.1 hP 0 rfl rfl 26 (by decide) (ht _ w_381) (fun _ h9 => h9) rfl dX15_least_2 ?_
  have hPc : va_P D vwCl [((a 207), .inr (5, [.int 0, .ref (g 100), .int 0]))] _ := hP.sub (ws' := [((a 207), .inr (5, [.int 0, .ref (g 100), .int 0]))]) [1] rfl
  have hDc : va_D (fun q => z0 ≤ q) [((a 207), .inr (5, [.int 0, .ref (g 100), .int 0]))] := (hD.to hAz).pick (ws' := [((a 207), .inr (5, [.int 0, .ref (g 100), .int 0]))]) [1] (by decide) rfl
  have hFc := AnA (ws := [((a 200), f_m a g), ((a 207), .inr (5, [.int 0, .ref (g 100), .int 0]))]) hS.1
  refine va_callFi (va_runF (As := []) (rest := [.ref (a 200)]) (hK.1.1 5 _ rfl).2 ⟨hx, hb, hml, hown, ht⟩ (k_Jx4a65c_isEmpty_aae02 l D g z0 _ a (a 207)) (va_cwF 0 ht (gF w_487 w_489 w_490 w_323 w_488) rfl rfl rfl (hK.2.2.2.1 _ (List.mem_of_getElem? (i := 6) rfl)) (by decide +kernel) (le2 rfl rfl)) ⟨PP.blind, va_recv hK.1 hP (ci := 5) (q0 := 1) rfl rfl, PP.mk' hK hZ hz hAz hS hPc hDc⟩ rfl rfl hl.1 rfl (lv_room (Nat.le_of_ble_eq_true rfl)) dX15_least_5 (le2 rfl rfl)) hS (fun q _ h => hFc q h) hFc (fun r u t H locs ht1 hvm hw hB hz1 hk1 hS => ?_)
  obtain ⟨rfl, hw⟩ := hw
  have hP := ro1 hP hk1
  refine lv_if_ne (tgt := 22) hx hb dX15_least_10 (by decide) (fun c_1 => ?_) (fun c_1 => ?_)
  · refine lv_iconst (v := 1) hx hb dX15_least_22 (by decide) ?_
    refine lv_goto (tgt := 27) hx hb dX15_least_23 (by decide) ?_
    have hPc : va_P D vwCl [((a 200), f_m a g)] _ := hP.sub (ws' := [((a 200), f_m a g)]) [0] rfl
    have hDc : va_D (fun q => z0 ≤ q) [((a 200), f_m a g)] := (hD.to hAz).pick (ws' := [((a 200), f_m a g)]) [0] (by decide) rfl
    have hFc := va_free (wc := [((a 200), f_m a g)]) hD hS hA [0] rfl
    refine va_calli (va_runV (As := [.int 1]) (rest := []) ⟨hx, hb, hml, hown, ht⟩ (k_X15_isWrong l D g z0 _ a) (cwV 1 ht (gV w_376 w_378 w_379 w_334 w_377) rfl rfl rfl (by decide +kernel) (le2 rfl rfl)) ⟨PP.blind, va_recv hK.1 hP (ci := 21) (q0 := 0) rfl rfl, PP.mk' hK hZ hz hAz hS hPc hDc⟩ rfl rfl hl.1 rfl (lv_room (Nat.le_of_ble_eq_true rfl)) dX15_least_27 (le2 rfl rfl)) hS (fun q _ h => hFc q h) hFc (fun r u t H locs ht1 hvm hw hB hz1 hk1 hS => ?_)
    obtain ⟨rfl, hw⟩ := hw
    obtain ⟨hP1, hD1⟩ := hB
    rw [ht1] at hP1
    obtain ⟨hP, hD⟩ := va_join (wr := [((a 207), .inr (5, [.int 0, .ref (g 100), .int 0]))]) (w1 := [((a 200), .inr (21, [.int 1, .ref (a 201), .ref (a 202), .ref (a 203), .ref (a 204), .ref (a 205), .ref (a 206), .int 0, .int 0, .int 0, .int 0, .ref (a 208), .ref (a 209), .ref (a 210), .ref (a 211), .ref (a 212), .int 4, .int 12, .int (-1), .int 0, .ref (g 200), .ref (a 213), .int 0, .int 97, .ref (a 214), .ref (a 215), .ref (a 207), .null, .int 0]))]) hP hD [0] [1] rfl rfl (by decide) (by decide) hk1 hFc hP1 hD1
    have hP : va_P D vwCl [((a 207), .inr (5, [.int 0, .ref (g 100), .int 0])), ((a 200), .inr (21, [.int 1, .ref (a 201), .ref (a 202), .ref (a 203), .ref (a 204), .ref (a 205), .ref (a 206), .int 0, .int 0, .int 0, .int 0, .ref (a 208), .ref (a 209), .ref (a 210), .ref (a 211), .ref (a 212), .int 4, .int 12, .int (-1), .int 0, .ref (g 200), .ref (a 213), .int 0, .int 97, .ref (a 214), .ref (a 215), .ref (a 207), .null, .int 0]))] H := hP
    have hD : va_D (va_A [((a 200), f_m a g), ((a 207), .inr (5, [.int 0, .ref (g 100), .int 0]))] s.heap.size) [((a 207), .inr (5, [.int 0, .ref (g 100), .int 0])), ((a 200), .inr (21, [.int 1, .ref (a 201), .ref (a 202), .ref (a 203), .ref (a 204), .ref (a 205), .ref (a 206), .int 0, .int 0, .int 0, .int 0, .ref (a 208), .ref (a 209), .ref (a 210), .ref (a 211), .ref (a 212), .int 4, .int 12, .int (-1), .int 0, .ref (g 200), .ref (a 213), .int 0, .int 97, .ref (a 214), .ref (a 215), .ref (a 207), .null, .int 0]))] := hD
    refine lv_if_eq (tgt := 35) hx hb dX15_least_30 (by decide) (fun c_2 => ?_) (fun c_2 => ?_)
    · exact absurd c_2 (by decide)
    · refine lv_iconst (v := 0) hx hb dX15_least_33 (by decide) ?_
      have hP9 := hP.sub (ws' := [((a 200), .inr (21, [.int 1, .ref (a 201), .ref (a 202), .ref (a 203), .ref (a 204), .ref (a 205), .ref (a 206), .int 0, .int 0, .int 0, .int 0, .ref (a 208), .ref (a 209), .ref (a 210), .ref (a 211), .ref (a 212), .int 4, .int 12, .int (-1), .int 0, .ref (g 200), .ref (a 213), .int 0, .int 97, .ref (a 214), .ref (a 215), .ref (a 207), .null, .int 0]))]) [1] rfl
      have hD9 := hD.sub (ws' := [((a 200), .inr (21, [.int 1, .ref (a 201), .ref (a 202), .ref (a 203), .ref (a 204), .ref (a 205), .ref (a 206), .int 0, .int 0, .int 0, .int 0, .ref (a 208), .ref (a 209), .ref (a 210), .ref (a 211), .ref (a 212), .int 4, .int 12, .int (-1), .int 0, .ref (g 200), .ref (a 213), .int 0, .int 97, .ref (a 214), .ref (a 215), .ref (a 207), .null, .int 0]))]) [1] (by decide) rfl
      refine W.widen (k := 0) (n := 0) (Nat.le_of_ble_eq_true rfl) (Nat.le_of_ble_eq_true rfl) ?_
      exact W.iret (v := 0) hx hb hr (fun t ht9 hW9 => ⟨⟨0, (), rfl, ⟨rfl, trivial⟩, ⟨(by rw [ht9]; exact hP9), hD9⟩⟩, hS.F ht9⟩) hS.2.2 dX15_least_34 hlocks
  · exact absurd c_1 (by decide)
set_option maxHeartbeats 4000000 in
set_option maxRecDepth 100000 in
theorem k_X15_lineOf (l : Launch) (D : va_G) (g : Nat → ClassId) (z0 sz : Nat) (a : Nat → Nat) (p0 : Int32) : Met l yX15_lineOf (.code yX15_lineOf cX15_lineOf 2 (some .int) :: TG) (rmk 2 0 0 43) (va_Pc [.ref (a 200), .int p0] (PP D g z0 sz [((a 200), f_m a g), ((a 204), .inr (5, [.int 0, .ref (g 100), .int 0]))])) (va_Qi (fun (r : Int32) (u : Unit) => (r = 0) ∧ True) (fun (u : Unit) (t : State) => va_P D vwCl [((a 200), .inr (21, [.int 1, .ref (a 201), .ref (a 202), .ref (a 203), .ref (a 204), .ref (a 205), .ref (a 206), .int 0, .int 0, .int 0, .int 0, .ref (a 208), .ref (a 209), .ref (a 210), .ref (a 211), .ref (a 212), .int 4, .int 12, .int (-1), .int 0, .ref (g 200), .ref (a 213), .int 0, .int 97, .ref (a 214), .ref (a 215), .ref (a 207), .null, .int 0]))] t.heap ∧ va_D (va_A [((a 200), f_m a g), ((a 204), .inr (5, [.int 0, .ref (g 100), .int 0]))] sz) [((a 200), .inr (21, [.int 1, .ref (a 201), .ref (a 202), .ref (a 203), .ref (a 204), .ref (a 205), .ref (a 206), .int 0, .int 0, .int 0, .int 0, .ref (a 208), .ref (a 209), .ref (a 210), .ref (a 211), .ref (a 212), .int 4, .int 12, .int (-1), .int 0, .ref (g 200), .ref (a 213), .int 0, .int 97, .ref (a 214), .ref (a 215), .ref (a 207), .null, .int 0]))]) (va_A [((a 200), f_m a g), ((a 204), .inr (5, [.int 0, .ref (g 100), .int 0]))] sz)) 0 0 (va_A [((a 200), f_m a g), ((a 204), .inr (5, [.int 0, .ref (g 100), .int 0]))] sz) := by
  refine met0 (cc := cX15_lineOf) (n := 2) (by decide) (Nat.le_of_ble_eq_true rfl) ?_
  intro p e s m args below meth c hx hb hr hml hown ht hlocks hnm hP0 hD0 hK hZ hsz hz ls hl
  subst hsz
  have hA : ∀ q : Nat, s.heap.size ≤ q → va_A [((a 200), f_m a g), ((a 204), .inr (5, [.int 0, .ref (g 100), .int 0]))] s.heap.size q := Anw
  have hAz : ∀ q, va_A [((a 200), f_m a g), ((a 204), .inr (5, [.int 0, .ref (g 100), .int 0]))] s.heap.size q → z0 ≤ q := Awz hz hD0
  have hS : va_S (va_A [((a 200), f_m a g), ((a 204), .inr (5, [.int 0, .ref (g 100), .int 0]))] s.heap.size) s.heap s.heap [] := va_S.rf
  have hD : va_D (va_A [((a 200), f_m a g), ((a 204), .inr (5, [.int 0, .ref (g 100), .int 0]))] s.heap.size) [((a 200), f_m a g), ((a 204), .inr (5, [.int 0, .ref (g 100), .int 0]))] := hD0.self
  have hP : va_P D vwCl [((a 200), f_m a g), ((a 204), .inr (5, [.int 0, .ref (g 100), .int 0]))] s.heap := hP0
  have hl : lv_has ls 2 [(0, .ref (a 200)), (1, .int p0)] := hl
  refine lv_aload_n hx hb dX15_lineOf_0 rfl (lv_at hl 0 rfl) ?_
  refine lv_aload_n hx hb dX15_lineOf_1 rfl (lv_at hl 0 rfl) ?_
  refine lv_iload_n hx hb dX15_lineOf_2 rfl (lv_at hl 1 rfl) ?_
  have hPc : va_P D vwCl [((a 200), f_m a g), ((a 204), .inr (5, [.int 0, .ref (g 100), .int 0]))] _ := hP.sub (ws' := [((a 200), f_m a g), ((a 204), .inr (5, [.int 0, .ref (g 100), .int 0]))]) [0, 1] rfl
  have hDc : va_D (fun q => z0 ≤ q) [((a 200), f_m a g), ((a 204), .inr (5, [.int 0, .ref (g 100), .int 0]))] := (hD.to hAz).pick (ws' := [((a 200), f_m a g), ((a 204), .inr (5, [.int 0, .ref (g 100), .int 0]))]) [0, 1] (by decide) rfl
  have hFc := AnA (ws := [((a 200), f_m a g), ((a 204), .inr (5, [.int 0, .ref (g 100), .int 0]))]) hS.1
  refine va_calli (va_runV (As := [.int p0]) (rest := [.ref (a 200)]) ⟨hx, hb, hml, hown, ht⟩ (k_X15_isFault l D g z0 _ a p0) (cwV 1 ht (gV w_372 w_374 w_375 w_334 w_373) rfl rfl rfl (by decide +kernel) (le2 rfl rfl)) ⟨PP.blind, va_recv hK.1 hP (ci := 21) (q0 := 0) rfl rfl, PP.mk' hK hZ hz hAz hS hPc hDc⟩ rfl rfl hl.1 rfl (lv_room (Nat.le_of_ble_eq_true rfl)) dX15_lineOf_3 (le2 rfl rfl)) hS (fun q _ h => hFc q h) hFc (fun r u t H locs ht1 hvm hw hB hz1 hk1 hS => ?_)
  obtain ⟨rfl, hw⟩ := hw
  have hP := ro1 hP hk1
  refine lv_if_eq (tgt := 13) hx hb dX15_lineOf_6 (by decide) (fun c_1 => ?_) (fun c_1 => ?_)
  · refine lv_iconst (v := 1) hx hb dX15_lineOf_13 (by decide) ?_
    have hPc : va_P D vwCl [((a 200), f_m a g)] _ := hP.sub (ws' := [((a 200), f_m a g)]) [0] rfl
    have hDc : va_D (fun q => z0 ≤ q) [((a 200), f_m a g)] := (hD.to hAz).pick (ws' := [((a 200), f_m a g)]) [0] (by decide) rfl
    have hFc := va_free (wc := [((a 200), f_m a g)]) hD hS hA [0] rfl
    refine va_calli (va_runV (As := [.int 1]) (rest := []) ⟨hx, hb, hml, hown, ht⟩ (k_X15_isWrong l D g z0 _ a) (cwV 1 ht (gV w_376 w_378 w_379 w_334 w_377) rfl rfl rfl (by decide +kernel) (le2 rfl rfl)) ⟨PP.blind, va_recv hK.1 hP (ci := 21) (q0 := 0) rfl rfl, PP.mk' hK hZ hz hAz hS hPc hDc⟩ rfl rfl hl.1 rfl (lv_room (Nat.le_of_ble_eq_true rfl)) dX15_lineOf_14 (le2 rfl rfl)) hS (fun q _ h => hFc q h) hFc (fun r u t H locs ht1 hvm hw hB hz1 hk1 hS => ?_)
    obtain ⟨rfl, hw⟩ := hw
    obtain ⟨hP1, hD1⟩ := hB
    rw [ht1] at hP1
    obtain ⟨hP, hD⟩ := va_join (wr := [((a 204), .inr (5, [.int 0, .ref (g 100), .int 0]))]) (w1 := [((a 200), .inr (21, [.int 1, .ref (a 201), .ref (a 202), .ref (a 203), .ref (a 204), .ref (a 205), .ref (a 206), .int 0, .int 0, .int 0, .int 0, .ref (a 208), .ref (a 209), .ref (a 210), .ref (a 211), .ref (a 212), .int 4, .int 12, .int (-1), .int 0, .ref (g 200), .ref (a 213), .int 0, .int 97, .ref (a 214), .ref (a 215), .ref (a 207), .null, .int 0]))]) hP hD [0] [1] rfl rfl (by decide) (by decide) hk1 hFc hP1 hD1
    have hP : va_P D vwCl [((a 204), .inr (5, [.int 0, .ref (g 100), .int 0])), ((a 200), .inr (21, [.int 1, .ref (a 201), .ref (a 202), .ref (a 203), .ref (a 204), .ref (a 205), .ref (a 206), .int 0, .int 0, .int 0, .int 0, .ref (a 208), .ref (a 209), .ref (a 210), .ref (a 211), .ref (a 212), .int 4, .int 12, .int (-1), .int 0, .ref (g 200), .ref (a 213), .int 0, .int 97, .ref (a 214), .ref (a 215), .ref (a 207), .null, .int 0]))] H := hP
    have hD : va_D (va_A [((a 200), f_m a g), ((a 204), .inr (5, [.int 0, .ref (g 100), .int 0]))] s.heap.size) [((a 204), .inr (5, [.int 0, .ref (g 100), .int 0])), ((a 200), .inr (21, [.int 1, .ref (a 201), .ref (a 202), .ref (a 203), .ref (a 204), .ref (a 205), .ref (a 206), .int 0, .int 0, .int 0, .int 0, .ref (a 208), .ref (a 209), .ref (a 210), .ref (a 211), .ref (a 212), .int 4, .int 12, .int (-1), .int 0, .ref (g 200), .ref (a 213), .int 0, .int 97, .ref (a 214), .ref (a 215), .ref (a 207), .null, .int 0]))] := hD
    refine lv_if_eq (tgt := 24) hx hb dX15_lineOf_17 (by decide) (fun c_2 => ?_) (fun c_2 => ?_)
    · exact absurd c_2 (by decide)
    · refine lv_iconst (v := 0) hx hb dX15_lineOf_20 (by decide) ?_
      refine lv_goto (tgt := 40) hx hb dX15_lineOf_21 (by decide) ?_
      have hP9 := hP.sub (ws' := [((a 200), .inr (21, [.int 1, .ref (a 201), .ref (a 202), .ref (a 203), .ref (a 204), .ref (a 205), .ref (a 206), .int 0, .int 0, .int 0, .int 0, .ref (a 208), .ref (a 209), .ref (a 210), .ref (a 211), .ref (a 212), .int 4, .int 12, .int (-1), .int 0, .ref (g 200), .ref (a 213), .int 0, .int 97, .ref (a 214), .ref (a 215), .ref (a 207), .null, .int 0]))]) [1] rfl
      have hD9 := hD.sub (ws' := [((a 200), .inr (21, [.int 1, .ref (a 201), .ref (a 202), .ref (a 203), .ref (a 204), .ref (a 205), .ref (a 206), .int 0, .int 0, .int 0, .int 0, .ref (a 208), .ref (a 209), .ref (a 210), .ref (a 211), .ref (a 212), .int 4, .int 12, .int (-1), .int 0, .ref (g 200), .ref (a 213), .int 0, .int 97, .ref (a 214), .ref (a 215), .ref (a 207), .null, .int 0]))]) [1] (by decide) rfl
      refine W.widen (k := 0) (n := 0) (Nat.le_of_ble_eq_true rfl) (Nat.le_of_ble_eq_true rfl) ?_
      exact W.iret (v := 0) hx hb hr (fun t ht9 hW9 => ⟨⟨0, (), rfl, ⟨rfl, trivial⟩, ⟨(by rw [ht9]; exact hP9), hD9⟩⟩, hS.F ht9⟩) hS.2.2 dX15_lineOf_40 hlocks
  · exact absurd c_1 (by decide)
set_option maxHeartbeats 4000000 in
set_option maxRecDepth 100000 in
theorem k_X15_make (l : Launch) (D : va_G) (g : Nat → ClassId) (z0 sz : Nat) (a : Nat → Nat) (p0 : Int32) : Met l yX15_make (.code yX15_make cX15_make 3 (some .int) :: TG) (rmk 2 0 0 43) (va_Pc [.ref (a 200), .int p0] (PP D g z0 sz [((a 200), f_m a g), ((a 204), .inr (5, [.int 0, .ref (g 100), .int 0]))])) (va_Qi (fun (r : Int32) (u : Unit) => (r = 0) ∧ True) (fun (u : Unit) (t : State) => va_P D vwCl [((a 200), .inr (21, [.int 1, .ref (a 201), .ref (a 202), .ref (a 203), .ref (a 204), .ref (a 205), .ref (a 206), .int 0, .int 0, .int 0, .int 0, .ref (a 208), .ref (a 209), .ref (a 210), .ref (a 211), .ref (a 212), .int 4, .int 12, .int (-1), .int 0, .ref (g 200), .ref (a 213), .int 0, .int 97, .ref (a 214), .ref (a 215), .ref (a 207), .null, .int 0]))] t.heap ∧ va_D (va_A [((a 200), f_m a g), ((a 204), .inr (5, [.int 0, .ref (g 100), .int 0]))] sz) [((a 200), .inr (21, [.int 1, .ref (a 201), .ref (a 202), .ref (a 203), .ref (a 204), .ref (a 205), .ref (a 206), .int 0, .int 0, .int 0, .int 0, .ref (a 208), .ref (a 209), .ref (a 210), .ref (a 211), .ref (a 212), .int 4, .int 12, .int (-1), .int 0, .ref (g 200), .ref (a 213), .int 0, .int 97, .ref (a 214), .ref (a 215), .ref (a 207), .null, .int 0]))]) (va_A [((a 200), f_m a g), ((a 204), .inr (5, [.int 0, .ref (g 100), .int 0]))] sz)) 0 0 (va_A [((a 200), f_m a g), ((a 204), .inr (5, [.int 0, .ref (g 100), .int 0]))] sz) := by
  refine met0 (cc := cX15_make) (n := 3) (by decide) (Nat.le_of_ble_eq_true rfl) ?_
  intro p e s m args below meth c hx hb hr hml hown ht hlocks hnm hP0 hD0 hK hZ hsz hz ls hl
  subst hsz
  have hA : ∀ q : Nat, s.heap.size ≤ q → va_A [((a 200), f_m a g), ((a 204), .inr (5, [.int 0, .ref (g 100), .int 0]))] s.heap.size q := Anw
  have hAz : ∀ q, va_A [((a 200), f_m a g), ((a 204), .inr (5, [.int 0, .ref (g 100), .int 0]))] s.heap.size q → z0 ≤ q := Awz hz hD0
  have hS : va_S (va_A [((a 200), f_m a g), ((a 204), .inr (5, [.int 0, .ref (g 100), .int 0]))] s.heap.size) s.heap s.heap [] := va_S.rf
  have hD : va_D (va_A [((a 200), f_m a g), ((a 204), .inr (5, [.int 0, .ref (g 100), .int 0]))] s.heap.size) [((a 200), f_m a g), ((a 204), .inr (5, [.int 0, .ref (g 100), .int 0]))] := hD0.self
  have hP : va_P D vwCl [((a 200), f_m a g), ((a 204), .inr (5, [.int 0, .ref (g 100), .int 0]))] s.heap := hP0
  have hl : lv_has ls 3 [(0, .ref (a 200)), (1, .int p0)] := hl
  refine lv_aload_n hx hb dX15_make_0 rfl (lv_at hl 0 rfl) ?_
  refine lv_aload_n hx hb dX15_make_1 rfl (lv_at hl 0 rfl) ?_
  refine lv_iload_n hx hb dX15_make_2 rfl (lv_at hl 1 rfl) ?_
  have hPc : va_P D vwCl [((a 200), f_m a g), ((a 204), .inr (5, [.int 0, .ref (g 100), .int 0]))] _ := hP.sub (ws' := [((a 200), f_m a g), ((a 204), .inr (5, [.int 0, .ref (g 100), .int 0]))]) [0, 1] rfl
  have hDc : va_D (fun q => z0 ≤ q) [((a 200), f_m a g), ((a 204), .inr (5, [.int 0, .ref (g 100), .int 0]))] := (hD.to hAz).pick (ws' := [((a 200), f_m a g), ((a 204), .inr (5, [.int 0, .ref (g 100), .int 0]))]) [0, 1] (by decide) rfl
  have hFc := AnA (ws := [((a 200), f_m a g), ((a 204), .inr (5, [.int 0, .ref (g 100), .int 0]))]) hS.1
  refine va_calli (va_runV (As := [.int p0]) (rest := [.ref (a 200)]) ⟨hx, hb, hml, hown, ht⟩ (k_X15_isFault l D g z0 _ a p0) (cwV 1 ht (gV w_372 w_374 w_375 w_334 w_373) rfl rfl rfl (by decide +kernel) (le2 rfl rfl)) ⟨PP.blind, va_recv hK.1 hP (ci := 21) (q0 := 0) rfl rfl, PP.mk' hK hZ hz hAz hS hPc hDc⟩ rfl rfl hl.1 rfl (lv_room (Nat.le_of_ble_eq_true rfl)) dX15_make_3 (le2 rfl rfl)) hS (fun q _ h => hFc q h) hFc (fun r u t H locs ht1 hvm hw hB hz1 hk1 hS => ?_)
  obtain ⟨rfl, hw⟩ := hw
  have hP := ro1 hP hk1
  refine lv_if_ne (tgt := 13) hx hb dX15_make_6 (by decide) (fun c_1 => ?_) (fun c_1 => ?_)
  · exact absurd c_1 (by decide)
  · refine lv_iconst (v := 1) hx hb dX15_make_9 (by decide) ?_
    refine lv_goto (tgt := 37) hx hb dX15_make_10 (by decide) ?_
    have hPc : va_P D vwCl [((a 200), f_m a g)] _ := hP.sub (ws' := [((a 200), f_m a g)]) [0] rfl
    have hDc : va_D (fun q => z0 ≤ q) [((a 200), f_m a g)] := (hD.to hAz).pick (ws' := [((a 200), f_m a g)]) [0] (by decide) rfl
    have hFc := va_free (wc := [((a 200), f_m a g)]) hD hS hA [0] rfl
    refine va_calli (va_runV (As := [.int 1]) (rest := []) ⟨hx, hb, hml, hown, ht⟩ (k_X15_isWrong l D g z0 _ a) (cwV 1 ht (gV w_376 w_378 w_379 w_334 w_377) rfl rfl rfl (by decide +kernel) (le2 rfl rfl)) ⟨PP.blind, va_recv hK.1 hP (ci := 21) (q0 := 0) rfl rfl, PP.mk' hK hZ hz hAz hS hPc hDc⟩ rfl rfl hl.1 rfl (lv_room (Nat.le_of_ble_eq_true rfl)) dX15_make_37 (le2 rfl rfl)) hS (fun q _ h => hFc q h) hFc (fun r u t H locs ht1 hvm hw hB hz1 hk1 hS => ?_)
    obtain ⟨rfl, hw⟩ := hw
    obtain ⟨hP1, hD1⟩ := hB
    rw [ht1] at hP1
    obtain ⟨hP, hD⟩ := va_join (wr := [((a 204), .inr (5, [.int 0, .ref (g 100), .int 0]))]) (w1 := [((a 200), .inr (21, [.int 1, .ref (a 201), .ref (a 202), .ref (a 203), .ref (a 204), .ref (a 205), .ref (a 206), .int 0, .int 0, .int 0, .int 0, .ref (a 208), .ref (a 209), .ref (a 210), .ref (a 211), .ref (a 212), .int 4, .int 12, .int (-1), .int 0, .ref (g 200), .ref (a 213), .int 0, .int 97, .ref (a 214), .ref (a 215), .ref (a 207), .null, .int 0]))]) hP hD [0] [1] rfl rfl (by decide) (by decide) hk1 hFc hP1 hD1
    have hP : va_P D vwCl [((a 204), .inr (5, [.int 0, .ref (g 100), .int 0])), ((a 200), .inr (21, [.int 1, .ref (a 201), .ref (a 202), .ref (a 203), .ref (a 204), .ref (a 205), .ref (a 206), .int 0, .int 0, .int 0, .int 0, .ref (a 208), .ref (a 209), .ref (a 210), .ref (a 211), .ref (a 212), .int 4, .int 12, .int (-1), .int 0, .ref (g 200), .ref (a 213), .int 0, .int 97, .ref (a 214), .ref (a 215), .ref (a 207), .null, .int 0]))] H := hP
    have hD : va_D (va_A [((a 200), f_m a g), ((a 204), .inr (5, [.int 0, .ref (g 100), .int 0]))] s.heap.size) [((a 204), .inr (5, [.int 0, .ref (g 100), .int 0])), ((a 200), .inr (21, [.int 1, .ref (a 201), .ref (a 202), .ref (a 203), .ref (a 204), .ref (a 205), .ref (a 206), .int 0, .int 0, .int 0, .int 0, .ref (a 208), .ref (a 209), .ref (a 210), .ref (a 211), .ref (a 212), .int 4, .int 12, .int (-1), .int 0, .ref (g 200), .ref (a 213), .int 0, .int 97, .ref (a 214), .ref (a 215), .ref (a 207), .null, .int 0]))] := hD
    refine lv_if_eq (tgt := 45) hx hb dX15_make_40 (by decide) (fun c_2 => ?_) (fun c_2 => ?_)
    · exact absurd c_2 (by decide)
    · refine lv_iconst (v := 0) hx hb dX15_make_43 (by decide) ?_
      have hP9 := hP.sub (ws' := [((a 200), .inr (21, [.int 1, .ref (a 201), .ref (a 202), .ref (a 203), .ref (a 204), .ref (a 205), .ref (a 206), .int 0, .int 0, .int 0, .int 0, .ref (a 208), .ref (a 209), .ref (a 210), .ref (a 211), .ref (a 212), .int 4, .int 12, .int (-1), .int 0, .ref (g 200), .ref (a 213), .int 0, .int 97, .ref (a 214), .ref (a 215), .ref (a 207), .null, .int 0]))]) [1] rfl
      have hD9 := hD.sub (ws' := [((a 200), .inr (21, [.int 1, .ref (a 201), .ref (a 202), .ref (a 203), .ref (a 204), .ref (a 205), .ref (a 206), .int 0, .int 0, .int 0, .int 0, .ref (a 208), .ref (a 209), .ref (a 210), .ref (a 211), .ref (a 212), .int 4, .int 12, .int (-1), .int 0, .ref (g 200), .ref (a 213), .int 0, .int 97, .ref (a 214), .ref (a 215), .ref (a 207), .null, .int 0]))]) [1] (by decide) rfl
      refine W.widen (k := 0) (n := 0) (Nat.le_of_ble_eq_true rfl) (Nat.le_of_ble_eq_true rfl) ?_
      exact W.iret (v := 0) hx hb hr (fun t ht9 hW9 => ⟨⟨0, (), rfl, ⟨rfl, trivial⟩, ⟨(by rw [ht9]; exact hP9), hD9⟩⟩, hS.F ht9⟩) hS.2.2 dX15_make_44 hlocks
set_option maxHeartbeats 4000000 in
set_option maxRecDepth 100000 in
theorem k_J0_isLatin1_aae02_v3 (l : Launch) (D : va_G) (g : Nat → ClassId) (z0 sz : Nat) (a : Nat → Nat) : Met l yJ0_isLatin1_aae02 (.code yJ0_isLatin1_aae02 cJ0_isLatin1_aae02 1 (some .boolean) :: TG) (rmk 0 0 0 0) (va_Pc [.ref (g 206)] (PP D g z0 sz [])) (va_Qi (fun (r : Int32) (u : Unit) => (r = 1) ∧ True) (fun (_ : Unit) (_ : State) => True) (va_A [] sz)) 0 0 (va_A [] sz) := by
  refine met0 (cc := cJ0_isLatin1_aae02) (n := 1) (by decide) (Nat.le_of_ble_eq_true rfl) ?_
  intro p e s m args below meth c hx hb hr hml hown ht hlocks hnm hP0 hD0 hK hZ hsz hz ls hl
  subst hsz
  have hA : ∀ q : Nat, s.heap.size ≤ q → va_A [] s.heap.size q := Anw
  have hAz : ∀ q, va_A [] s.heap.size q → z0 ≤ q := A0z hz
  have hS : va_S (va_A [] s.heap.size) s.heap s.heap [] := va_S.rf
  have hl : lv_has ls 1 [(0, .ref (g 206))] := hl
  refine va_gets (C := "java/lang/String") (n := "COMPACT_STRINGS") (d := "Z") (v := .int 1) hx hb (hZ.m hAz).2.2.2.1 hS hown (ht _ w_388) (fun _ h9 => h9) dJ0_isLatin1_aae02_0 ?_
  refine lv_if_eq (tgt := 17) hx hb dJ0_isLatin1_aae02_3 (by decide) (fun c_1 => ?_) (fun c_1 => ?_)
  · exact absurd c_1 (by decide)
  · refine lv_aload_n hx hb dJ0_isLatin1_aae02_6 rfl (lv_at hl 0 rfl) ?_
    refine vk_getf (v := .int 0) hx hb ((hZ.m hAz).2.2.1.1 6 (by decide)).2.1 hS hown (ht _ w_389) (fun _ h9 => h9) dJ0_isLatin1_aae02_7 ?_
    refine lv_if_ne (tgt := 17) hx hb dJ0_isLatin1_aae02_10 (by decide) (fun c_2 => ?_) (fun c_2 => ?_)
    · exact absurd c_2 (by decide)
    · refine lv_iconst (v := 1) hx hb dJ0_isLatin1_aae02_13 (by decide) ?_
      refine lv_goto (tgt := 18) hx hb dJ0_isLatin1_aae02_14 (by decide) ?_
      refine W.widen (k := 0) (n := 0) (Nat.le_of_ble_eq_true rfl) (Nat.le_of_ble_eq_true rfl) ?_
      exact W.zret (v := 1) hx hb hr rfl (fun t ht9 hW9 => ⟨⟨1, (), rfl, ⟨rfl, trivial⟩, trivial⟩, hS.F ht9⟩) hS.2.2 dJ0_isLatin1_aae02_18 hlocks
set_option maxHeartbeats 4000000 in
set_option maxRecDepth 100000 in
theorem k_J0_coder_7d493_v4 (l : Launch) (D : va_G) (g : Nat → ClassId) (z0 sz : Nat) (a : Nat → Nat) : Met l yJ0_coder_7d493 (.code yJ0_coder_7d493 cJ0_coder_7d493 1 (some .byte) :: TG) (rmk 0 0 0 0) (va_Pc [.ref (g 206)] (PP D g z0 sz [])) (va_Qi (fun (r : Int32) (u : Unit) => (r = 0) ∧ True) (fun (_ : Unit) (_ : State) => True) (va_A [] sz)) 0 0 (va_A [] sz) := by
  refine met0 (cc := cJ0_coder_7d493) (n := 1) (by decide) (Nat.le_of_ble_eq_true rfl) ?_
  intro p e s m args below meth c hx hb hr hml hown ht hlocks hnm hP0 hD0 hK hZ hsz hz ls hl
  subst hsz
  have hA : ∀ q : Nat, s.heap.size ≤ q → va_A [] s.heap.size q := Anw
  have hAz : ∀ q, va_A [] s.heap.size q → z0 ≤ q := A0z hz
  have hS : va_S (va_A [] s.heap.size) s.heap s.heap [] := va_S.rf
  have hl : lv_has ls 1 [(0, .ref (g 206))] := hl
  refine va_gets (C := "java/lang/String") (n := "COMPACT_STRINGS") (d := "Z") (v := .int 1) hx hb (hZ.m hAz).2.2.2.1 hS hown (ht _ w_388) (fun _ h9 => h9) dJ0_coder_7d493_0 ?_
  refine lv_if_eq (tgt := 13) hx hb dJ0_coder_7d493_3 (by decide) (fun c_1 => ?_) (fun c_1 => ?_)
  · exact absurd c_1 (by decide)
  · refine lv_aload_n hx hb dJ0_coder_7d493_6 rfl (lv_at hl 0 rfl) ?_
    refine vk_getf (v := .int 0) hx hb ((hZ.m hAz).2.2.1.1 6 (by decide)).2.1 hS hown (ht _ w_389) (fun _ h9 => h9) dJ0_coder_7d493_7 ?_
    refine lv_goto (tgt := 14) hx hb dJ0_coder_7d493_10 (by decide) ?_
    refine W.widen (k := 0) (n := 0) (Nat.le_of_ble_eq_true rfl) (Nat.le_of_ble_eq_true rfl) ?_
    exact W.zret (v := 0) hx hb hr rfl (fun t ht9 hW9 => ⟨⟨0, (), rfl, ⟨rfl, trivial⟩, trivial⟩, hS.F ht9⟩) hS.2.2 dJ0_coder_7d493_14 hlocks
set_option maxHeartbeats 4000000 in
set_option maxRecDepth 100000 in
theorem k_J0_length_8abf5_v4 (l : Launch) (D : va_G) (g : Nat → ClassId) (z0 sz : Nat) (a : Nat → Nat) : Met l yJ0_length_8abf5 (.code yJ0_length_8abf5 cJ0_length_8abf5 1 (some .int) :: TG) (rmk 1 0 0 20) (va_Pc [.ref (g 206)] (PP D g z0 sz [])) (va_Qi (fun (r : Int32) (u : Unit) => (r = 5) ∧ True) (fun (_ : Unit) (_ : State) => True) (va_A [] sz)) 0 0 (va_A [] sz) := by
  refine met0 (cc := cJ0_length_8abf5) (n := 1) (by decide) (Nat.le_of_ble_eq_true rfl) ?_
  intro p e s m args below meth c hx hb hr hml hown ht hlocks hnm hP0 hD0 hK hZ hsz hz ls hl
  subst hsz
  have hA : ∀ q : Nat, s.heap.size ≤ q → va_A [] s.heap.size q := Anw
  have hAz : ∀ q, va_A [] s.heap.size q → z0 ≤ q := A0z hz
  have hS : va_S (va_A [] s.heap.size) s.heap s.heap [] := va_S.rf
  have hl : lv_has ls 1 [(0, .ref (g 206))] := hl
  refine lv_aload_n hx hb dJ0_length_8abf5_0 rfl (lv_at hl 0 rfl) ?_
  refine vk_getf (v := .ref (g 306)) hx hb ((hZ.m hAz).2.2.1.1 6 (by decide)).2.2.1 hS hown (ht _ w_395) (fun _ h9 => h9) dJ0_length_8abf5_1 ?_
  refine va_tlen (v := 5) hx hb ((hZ.m hAz).2.2.1.1 6 (by decide)).2.2.2 hS rfl dJ0_length_8abf5_4 ?_
  refine lv_aload_n hx hb dJ0_length_8abf5_5 rfl (lv_at hl 0 rfl) ?_
  have hPc : va_P D vwCl [] _ := (ro0 hP0 hS).sub (ws' := []) [] rfl
  have hDc : va_D (fun q => z0 ≤ q) [] := hD0.pick (ws' := []) [] (by decide) rfl
  have hFc := AnA (ws := []) hS.1
  refine va_calli (va_runV (As := []) (rest := [.int 5]) ⟨hx, hb, hml, hown, ht⟩ (k_J0_coder_7d493_v4 l D g z0 _ a) (cwV 0 ht (gV w_396 w_398 w_399 w_394 w_397) rfl rfl rfl (by decide +kernel) (le2 rfl rfl)) ⟨PP.blind, vk_recv (i := 6) (hZ.m hAz).2.2.1 (by decide) hS, PP.mk' hK hZ hz hAz hS hPc hDc⟩ rfl rfl hl.1 rfl (lv_room (Nat.le_of_ble_eq_true rfl)) dJ0_length_8abf5_6 (le2 rfl rfl)) hS (fun q _ h => hFc q h) hFc (fun r u t H locs ht1 hvm hw hB hz1 hk1 hS => ?_)
  obtain ⟨rfl, hw⟩ := hw
  refine lv_ishr hx hb dJ0_length_8abf5_9 ?_
  refine r_topi (v := 5) (by decide) ?_
  refine W.widen (k := 0) (n := 0) (Nat.le_of_ble_eq_true rfl) (Nat.le_of_ble_eq_true rfl) ?_
  exact W.iret (v := 5) hx hb hr (fun t ht9 hW9 => ⟨⟨5, (), rfl, ⟨rfl, trivial⟩, trivial⟩, hS.F ht9⟩) hS.2.2 dJ0_length_8abf5_10 hlocks
set_option maxHeartbeats 4000000 in
set_option maxRecDepth 100000 in
theorem k_J1_indexOfChar_4cfef_v3 (l : Launch) (D : va_G) (g : Nat → ClassId) (z0 sz : Nat) (a : Nat → Nat) (p0 : Int32) : Met l yJ1_indexOfChar_4cfef (.code yJ1_indexOfChar_4cfef cJ1_indexOfChar_4cfef 6 (some .int) :: TG) (rmk 0 0 0 0) (va_Pc [.ref (g 306), .int p0, .int 0, .int 5] (PP D g z0 sz [])) (va_Qi (fun (r : Int32) (u : Unit) => ((r = (-1)) ∧ ((¬ 115 = p0.toInt8.toInt32) ∧ (¬ 116 = p0.toInt8.toInt32) ∧ (¬ 99 = p0.toInt8.toInt32) ∧ (¬ 105 = p0.toInt8.toInt32) ∧ (¬ 97 = p0.toInt8.toInt32))) ∨ ((r = 4) ∧ ((¬ 115 = p0.toInt8.toInt32) ∧ (¬ 116 = p0.toInt8.toInt32) ∧ (¬ 99 = p0.toInt8.toInt32) ∧ (¬ 105 = p0.toInt8.toInt32) ∧ (97 = p0.toInt8.toInt32))) ∨ ((r = 3) ∧ ((¬ 115 = p0.toInt8.toInt32) ∧ (¬ 116 = p0.toInt8.toInt32) ∧ (¬ 99 = p0.toInt8.toInt32) ∧ (105 = p0.toInt8.toInt32))) ∨ ((r = 2) ∧ ((¬ 115 = p0.toInt8.toInt32) ∧ (¬ 116 = p0.toInt8.toInt32) ∧ (99 = p0.toInt8.toInt32))) ∨ ((r = 1) ∧ ((¬ 115 = p0.toInt8.toInt32) ∧ (116 = p0.toInt8.toInt32))) ∨ ((r = 0) ∧ (115 = p0.toInt8.toInt32))) (fun (_ : Unit) (_ : State) => True) (va_A [] sz)) 0 0 (va_A [] sz) := by
  refine met0 (cc := cJ1_indexOfChar_4cfef) (n := 6) (by decide) (Nat.le_of_ble_eq_true rfl) ?_
  intro p e s m args below meth c hx hb hr hml hown ht hlocks hnm hP0 hD0 hK hZ hsz hz ls hl
  subst hsz
  have hA : ∀ q : Nat, s.heap.size ≤ q → va_A [] s.heap.size q := Anw
  have hAz : ∀ q, va_A [] s.heap.size q → z0 ≤ q := A0z hz
  have hS : va_S (va_A [] s.heap.size) s.heap s.heap [] := va_S.rf
  have hl : lv_has ls 6 [(0, .ref (g 306)), (1, .int p0), (2, .int 0), (3, .int 5)] := hl
  refine lv_iload_n hx hb dJ1_indexOfChar_4cfef_0 rfl (lv_at hl 1 rfl) ?_
  refine lv_i2b (v := p0.toInt8.toInt32) hx hb dJ1_indexOfChar_4cfef_1 rfl ?_
  refine lv_istore (lv' := [(4, .int p0.toInt8.toInt32), (0, .ref (g 306)), (1, .int p0), (2, .int 0), (3, .int 5)]) hx hb dJ1_indexOfChar_4cfef_2 hl (by decide) rfl (fun ls hl => ?_)
  refine lv_iload_n hx hb dJ1_indexOfChar_4cfef_4 rfl (lv_at hl 3 rfl) ?_
  refine lv_istore (lv' := [(5, .int 0), (4, .int p0.toInt8.toInt32), (0, .ref (g 306)), (1, .int p0), (2, .int 0), (3, .int 5)]) hx hb dJ1_indexOfChar_4cfef_5 hl (by decide) rfl (fun ls hl => ?_)
  refine lv_iload hx hb dJ1_indexOfChar_4cfef_7 (lv_at hl 0 rfl) ?_
  refine lv_iload_n hx hb dJ1_indexOfChar_4cfef_9 rfl (lv_at hl 5 rfl) ?_
  refine lv_icmp_ge (tgt := 31) hx hb dJ1_indexOfChar_4cfef_10 (by decide) (fun c_1 => ?_) (fun c_1 => ?_)
  · exact absurd c_1 (by decide)
  · refine lv_aload_n hx hb dJ1_indexOfChar_4cfef_13 rfl (lv_at hl 2 rfl) ?_
    refine lv_iload hx hb dJ1_indexOfChar_4cfef_14 (lv_at hl 0 rfl) ?_
    refine va_tb (v := .int 115) hx hb ((hZ.m hAz).2.2.1.1 6 (by decide)).2.2.2 hS (by unfold vp_in; decide) rfl dJ1_indexOfChar_4cfef_16 ?_
    refine lv_iload hx hb dJ1_indexOfChar_4cfef_17 (lv_at hl 1 rfl) ?_
    refine lv_icmp_ne (tgt := 25) hx hb dJ1_indexOfChar_4cfef_19 (by decide) (fun c_2 => ?_) (fun c_2 => ?_)
    · refine lv_iinc (v := 1) (lv' := [(5, .int 1), (4, .int p0.toInt8.toInt32), (0, .ref (g 306)), (1, .int p0), (2, .int 0), (3, .int 5)]) hx hb dJ1_indexOfChar_4cfef_25 hl (k := 0) rfl (by decide) (by decide) rfl (fun ls hl => ?_)
      refine lv_goto (tgt := 7) hx hb dJ1_indexOfChar_4cfef_28 (by decide) ?_
      refine lv_iload hx hb dJ1_indexOfChar_4cfef_7 (lv_at hl 0 rfl) ?_
      refine lv_iload_n hx hb dJ1_indexOfChar_4cfef_9 rfl (lv_at hl 5 rfl) ?_
      refine lv_icmp_ge (tgt := 31) hx hb dJ1_indexOfChar_4cfef_10 (by decide) (fun c_3 => ?_) (fun c_3 => ?_)
      · exact absurd c_3 (by decide)
      · refine lv_aload_n hx hb dJ1_indexOfChar_4cfef_13 rfl (lv_at hl 2 rfl) ?_
        refine lv_iload hx hb dJ1_indexOfChar_4cfef_14 (lv_at hl 0 rfl) ?_
        refine va_tb (v := .int 116) hx hb ((hZ.m hAz).2.2.1.1 6 (by decide)).2.2.2 hS (by unfold vp_in; decide) rfl dJ1_indexOfChar_4cfef_16 ?_
        refine lv_iload hx hb dJ1_indexOfChar_4cfef_17 (lv_at hl 1 rfl) ?_
        refine lv_icmp_ne (tgt := 25) hx hb dJ1_indexOfChar_4cfef_19 (by decide) (fun c_4 => ?_) (fun c_4 => ?_)
        · refine lv_iinc (v := 2) (lv' := [(5, .int 2), (4, .int p0.toInt8.toInt32), (0, .ref (g 306)), (1, .int p0), (2, .int 0), (3, .int 5)]) hx hb dJ1_indexOfChar_4cfef_25 hl (k := 0) rfl (by decide) (by decide) rfl (fun ls hl => ?_)
          refine lv_goto (tgt := 7) hx hb dJ1_indexOfChar_4cfef_28 (by decide) ?_
          refine lv_iload hx hb dJ1_indexOfChar_4cfef_7 (lv_at hl 0 rfl) ?_
          refine lv_iload_n hx hb dJ1_indexOfChar_4cfef_9 rfl (lv_at hl 5 rfl) ?_
          refine lv_icmp_ge (tgt := 31) hx hb dJ1_indexOfChar_4cfef_10 (by decide) (fun c_5 => ?_) (fun c_5 => ?_)
          · exact absurd c_5 (by decide)
          · refine lv_aload_n hx hb dJ1_indexOfChar_4cfef_13 rfl (lv_at hl 2 rfl) ?_
            refine lv_iload hx hb dJ1_indexOfChar_4cfef_14 (lv_at hl 0 rfl) ?_
            refine va_tb (v := .int 99) hx hb ((hZ.m hAz).2.2.1.1 6 (by decide)).2.2.2 hS (by unfold vp_in; decide) rfl dJ1_indexOfChar_4cfef_16 ?_
            refine lv_iload hx hb dJ1_indexOfChar_4cfef_17 (lv_at hl 1 rfl) ?_
            refine lv_icmp_ne (tgt := 25) hx hb dJ1_indexOfChar_4cfef_19 (by decide) (fun c_6 => ?_) (fun c_6 => ?_)
            · refine lv_iinc (v := 3) (lv' := [(5, .int 3), (4, .int p0.toInt8.toInt32), (0, .ref (g 306)), (1, .int p0), (2, .int 0), (3, .int 5)]) hx hb dJ1_indexOfChar_4cfef_25 hl (k := 0) rfl (by decide) (by decide) rfl (fun ls hl => ?_)
              refine lv_goto (tgt := 7) hx hb dJ1_indexOfChar_4cfef_28 (by decide) ?_
              refine lv_iload hx hb dJ1_indexOfChar_4cfef_7 (lv_at hl 0 rfl) ?_
              refine lv_iload_n hx hb dJ1_indexOfChar_4cfef_9 rfl (lv_at hl 5 rfl) ?_
              refine lv_icmp_ge (tgt := 31) hx hb dJ1_indexOfChar_4cfef_10 (by decide) (fun c_7 => ?_) (fun c_7 => ?_)
              · exact absurd c_7 (by decide)
              · refine lv_aload_n hx hb dJ1_indexOfChar_4cfef_13 rfl (lv_at hl 2 rfl) ?_
                refine lv_iload hx hb dJ1_indexOfChar_4cfef_14 (lv_at hl 0 rfl) ?_
                refine va_tb (v := .int 105) hx hb ((hZ.m hAz).2.2.1.1 6 (by decide)).2.2.2 hS (by unfold vp_in; decide) rfl dJ1_indexOfChar_4cfef_16 ?_
                refine lv_iload hx hb dJ1_indexOfChar_4cfef_17 (lv_at hl 1 rfl) ?_
                refine lv_icmp_ne (tgt := 25) hx hb dJ1_indexOfChar_4cfef_19 (by decide) (fun c_8 => ?_) (fun c_8 => ?_)
                · refine lv_iinc (v := 4) (lv' := [(5, .int 4), (4, .int p0.toInt8.toInt32), (0, .ref (g 306)), (1, .int p0), (2, .int 0), (3, .int 5)]) hx hb dJ1_indexOfChar_4cfef_25 hl (k := 0) rfl (by decide) (by decide) rfl (fun ls hl => ?_)
                  refine lv_goto (tgt := 7) hx hb dJ1_indexOfChar_4cfef_28 (by decide) ?_
                  refine lv_iload hx hb dJ1_indexOfChar_4cfef_7 (lv_at hl 0 rfl) ?_
                  refine lv_iload_n hx hb dJ1_indexOfChar_4cfef_9 rfl (lv_at hl 5 rfl) ?_
                  refine lv_icmp_ge (tgt := 31) hx hb dJ1_indexOfChar_4cfef_10 (by decide) (fun c_9 => ?_) (fun c_9 => ?_)
                  · exact absurd c_9 (by decide)
                  · refine lv_aload_n hx hb dJ1_indexOfChar_4cfef_13 rfl (lv_at hl 2 rfl) ?_
                    refine lv_iload hx hb dJ1_indexOfChar_4cfef_14 (lv_at hl 0 rfl) ?_
                    refine va_tb (v := .int 97) hx hb ((hZ.m hAz).2.2.1.1 6 (by decide)).2.2.2 hS (by unfold vp_in; decide) rfl dJ1_indexOfChar_4cfef_16 ?_
                    refine lv_iload hx hb dJ1_indexOfChar_4cfef_17 (lv_at hl 1 rfl) ?_
                    refine lv_icmp_ne (tgt := 25) hx hb dJ1_indexOfChar_4cfef_19 (by decide) (fun c_10 => ?_) (fun c_10 => ?_)
                    · refine lv_iinc (v := 5) (lv' := [(5, .int 5), (4, .int p0.toInt8.toInt32), (0, .ref (g 306)), (1, .int p0), (2, .int 0), (3, .int 5)]) hx hb dJ1_indexOfChar_4cfef_25 hl (k := 0) rfl (by decide) (by decide) rfl (fun ls hl => ?_)
                      refine lv_goto (tgt := 7) hx hb dJ1_indexOfChar_4cfef_28 (by decide) ?_
                      refine lv_iload hx hb dJ1_indexOfChar_4cfef_7 (lv_at hl 0 rfl) ?_
                      refine lv_iload_n hx hb dJ1_indexOfChar_4cfef_9 rfl (lv_at hl 5 rfl) ?_
                      refine lv_icmp_ge (tgt := 31) hx hb dJ1_indexOfChar_4cfef_10 (by decide) (fun c_11 => ?_) (fun c_11 => ?_)
                      · refine lv_iconst (v := (-1)) hx hb dJ1_indexOfChar_4cfef_31 (by decide) ?_
                        refine W.widen (k := 0) (n := 0) (Nat.le_of_ble_eq_true rfl) (Nat.le_of_ble_eq_true rfl) ?_
                        exact W.iret (v := (-1)) hx hb hr (fun t ht9 hW9 => ⟨⟨(-1), (), rfl, (Or.inl ⟨rfl, ⟨c_2, c_4, c_6, c_8, c_10⟩⟩), trivial⟩, hS.F ht9⟩) hS.2.2 dJ1_indexOfChar_4cfef_32 hlocks
                      · exact absurd c_11 (by decide)
                    · refine lv_iload hx hb dJ1_indexOfChar_4cfef_22 (lv_at hl 0 rfl) ?_
                      refine W.widen (k := 0) (n := 0) (Nat.le_of_ble_eq_true rfl) (Nat.le_of_ble_eq_true rfl) ?_
                      exact W.iret (v := 4) hx hb hr (fun t ht9 hW9 => ⟨⟨4, (), rfl, (Or.inr (Or.inl ⟨rfl, ⟨c_2, c_4, c_6, c_8, c_10⟩⟩)), trivial⟩, hS.F ht9⟩) hS.2.2 dJ1_indexOfChar_4cfef_24 hlocks
                · refine lv_iload hx hb dJ1_indexOfChar_4cfef_22 (lv_at hl 0 rfl) ?_
                  refine W.widen (k := 0) (n := 0) (Nat.le_of_ble_eq_true rfl) (Nat.le_of_ble_eq_true rfl) ?_
                  exact W.iret (v := 3) hx hb hr (fun t ht9 hW9 => ⟨⟨3, (), rfl, (Or.inr (Or.inr (Or.inl ⟨rfl, ⟨c_2, c_4, c_6, c_8⟩⟩))), trivial⟩, hS.F ht9⟩) hS.2.2 dJ1_indexOfChar_4cfef_24 hlocks
            · refine lv_iload hx hb dJ1_indexOfChar_4cfef_22 (lv_at hl 0 rfl) ?_
              refine W.widen (k := 0) (n := 0) (Nat.le_of_ble_eq_true rfl) (Nat.le_of_ble_eq_true rfl) ?_
              exact W.iret (v := 2) hx hb hr (fun t ht9 hW9 => ⟨⟨2, (), rfl, (Or.inr (Or.inr (Or.inr (Or.inl ⟨rfl, ⟨c_2, c_4, c_6⟩⟩)))), trivial⟩, hS.F ht9⟩) hS.2.2 dJ1_indexOfChar_4cfef_24 hlocks
        · refine lv_iload hx hb dJ1_indexOfChar_4cfef_22 (lv_at hl 0 rfl) ?_
          refine W.widen (k := 0) (n := 0) (Nat.le_of_ble_eq_true rfl) (Nat.le_of_ble_eq_true rfl) ?_
          exact W.iret (v := 1) hx hb hr (fun t ht9 hW9 => ⟨⟨1, (), rfl, (Or.inr (Or.inr (Or.inr (Or.inr (Or.inl ⟨rfl, ⟨c_2, c_4⟩⟩))))), trivial⟩, hS.F ht9⟩) hS.2.2 dJ1_indexOfChar_4cfef_24 hlocks
    · refine lv_iload hx hb dJ1_indexOfChar_4cfef_22 (lv_at hl 0 rfl) ?_
      refine W.widen (k := 0) (n := 0) (Nat.le_of_ble_eq_true rfl) (Nat.le_of_ble_eq_true rfl) ?_
      exact W.iret (v := 0) hx hb hr (fun t ht9 hW9 => ⟨⟨0, (), rfl, (Or.inr (Or.inr (Or.inr (Or.inr (Or.inr ⟨rfl, c_2⟩))))), trivial⟩, hS.F ht9⟩) hS.2.2 dJ1_indexOfChar_4cfef_24 hlocks
set_option maxHeartbeats 4000000 in
set_option maxRecDepth 100000 in
theorem k_J1_indexOf_4cfef_v3 (l : Launch) (D : va_G) (g : Nat → ClassId) (z0 sz : Nat) (a : Nat → Nat) (p0 : Int32) : Met l yJ1_indexOf_4cfef (.code yJ1_indexOf_4cfef cJ1_indexOf_4cfef 4 (some .int) :: TG) (rmk 1 0 0 25) (va_Pc [.ref (g 306), .int p0, .int 0, .int 5] (PP D g z0 sz [])) (va_Qi (fun (r : Int32) (u : Unit) => ((r = (-1)) ∧ ((p0 < 0) ∨ ((¬ p0 < 0) ∧ ((255 : Int32) < p0)) ∨ ((¬ p0 < 0) ∧ (¬ (255 : Int32) < p0) ∧ (¬ 115 = p0.toInt8.toInt32) ∧ (¬ 116 = p0.toInt8.toInt32) ∧ (¬ 99 = p0.toInt8.toInt32) ∧ (¬ 105 = p0.toInt8.toInt32) ∧ (¬ 97 = p0.toInt8.toInt32)))) ∨ ((r = 4) ∧ ((¬ p0 < 0) ∧ (¬ (255 : Int32) < p0) ∧ (¬ 115 = p0.toInt8.toInt32) ∧ (¬ 116 = p0.toInt8.toInt32) ∧ (¬ 99 = p0.toInt8.toInt32) ∧ (¬ 105 = p0.toInt8.toInt32) ∧ (97 = p0.toInt8.toInt32))) ∨ ((r = 3) ∧ ((¬ p0 < 0) ∧ (¬ (255 : Int32) < p0) ∧ (¬ 115 = p0.toInt8.toInt32) ∧ (¬ 116 = p0.toInt8.toInt32) ∧ (¬ 99 = p0.toInt8.toInt32) ∧ (105 = p0.toInt8.toInt32))) ∨ ((r = 2) ∧ ((¬ p0 < 0) ∧ (¬ (255 : Int32) < p0) ∧ (¬ 115 = p0.toInt8.toInt32) ∧ (¬ 116 = p0.toInt8.toInt32) ∧ (99 = p0.toInt8.toInt32))) ∨ ((r = 1) ∧ ((¬ p0 < 0) ∧ (¬ (255 : Int32) < p0) ∧ (¬ 115 = p0.toInt8.toInt32) ∧ (116 = p0.toInt8.toInt32))) ∨ ((r = 0) ∧ ((¬ p0 < 0) ∧ (¬ (255 : Int32) < p0) ∧ (115 = p0.toInt8.toInt32)))) (fun (_ : Unit) (_ : State) => True) (va_A [] sz)) 0 0 (va_A [] sz) := by
  refine met0 (cc := cJ1_indexOf_4cfef) (n := 4) (by decide) (Nat.le_of_ble_eq_true rfl) ?_
  intro p e s m args below meth c hx hb hr hml hown ht hlocks hnm hP0 hD0 hK hZ hsz hz ls hl
  subst hsz
  have hA : ∀ q : Nat, s.heap.size ≤ q → va_A [] s.heap.size q := Anw
  have hAz : ∀ q, va_A [] s.heap.size q → z0 ≤ q := A0z hz
  have hS : va_S (va_A [] s.heap.size) s.heap s.heap [] := va_S.rf
  have hl : lv_has ls 4 [(0, .ref (g 306)), (1, .int p0), (2, .int 0), (3, .int 5)] := hl
  refine lv_iload_n hx hb dJ1_indexOf_4cfef_0 rfl (lv_at hl 1 rfl) ?_
  have hPc : va_P D vwCl [] _ := (ro0 hP0 hS).sub (ws' := []) [] rfl
  have hDc : va_D (fun q => z0 ≤ q) [] := hD0.pick (ws' := []) [] (by decide) rfl
  have hFc := AnA (ws := []) hS.1
  refine va_calli (va_runS (As := [.int p0]) (rest := []) ⟨hx, hb, hml, hown, ht⟩ (k_J1_canEncode_9a6ad l D g z0 _ a p0) (va_cwS 1 ht (gS w_404 w_406 w_407 w_405) rfl rfl rfl (by decide +kernel) (le2 rfl rfl)) ⟨PP.blind, PP.mk' hK hZ hz hAz hS hPc hDc⟩ rfl rfl hl.1 rfl (lv_room (Nat.le_of_ble_eq_true rfl)) dJ1_indexOf_4cfef_1 (le2 rfl rfl)) hS (fun q _ h => hFc q h) hFc (fun r u t H locs ht1 hvm hw hB hz1 hk1 hS => ?_)
  rcases hw with hw | hw
  · obtain ⟨rfl, hw⟩ := hw
    rcases hw with hw | hw
    · have c_1 := hw
      refine lv_if_ne (tgt := 9) hx hb dJ1_indexOf_4cfef_4 (by decide) (fun c_2 => ?_) (fun c_2 => ?_)
      · exact absurd c_2 (by decide)
      · refine lv_iconst (v := (-1)) hx hb dJ1_indexOf_4cfef_7 (by decide) ?_
        refine W.widen (k := 0) (n := 0) (Nat.le_of_ble_eq_true rfl) (Nat.le_of_ble_eq_true rfl) ?_
        exact W.iret (v := (-1)) hx hb hr (fun t ht9 hW9 => ⟨⟨(-1), (), rfl, (Or.inl ⟨rfl, (Or.inl c_1)⟩), trivial⟩, hS.F ht9⟩) hS.2.2 dJ1_indexOf_4cfef_8 hlocks
    · obtain ⟨c_3, c_4⟩ := hw
      refine lv_if_ne (tgt := 9) hx hb dJ1_indexOf_4cfef_4 (by decide) (fun c_5 => ?_) (fun c_5 => ?_)
      · exact absurd c_5 (by decide)
      · refine lv_iconst (v := (-1)) hx hb dJ1_indexOf_4cfef_7 (by decide) ?_
        refine W.widen (k := 0) (n := 0) (Nat.le_of_ble_eq_true rfl) (Nat.le_of_ble_eq_true rfl) ?_
        exact W.iret (v := (-1)) hx hb hr (fun t ht9 hW9 => ⟨⟨(-1), (), rfl, (Or.inl ⟨rfl, (Or.inr (Or.inl ⟨c_3, c_4⟩))⟩), trivial⟩, hS.F ht9⟩) hS.2.2 dJ1_indexOf_4cfef_8 hlocks
  · obtain ⟨rfl, hw⟩ := hw
    obtain ⟨c_6, c_7⟩ := hw
    refine lv_if_ne (tgt := 9) hx hb dJ1_indexOf_4cfef_4 (by decide) (fun c_8 => ?_) (fun c_8 => ?_)
    · refine lv_iload_n hx hb dJ1_indexOf_4cfef_9 rfl (lv_at hl 2 rfl) ?_
      refine lv_iconst (v := 0) hx hb dJ1_indexOf_4cfef_10 (by decide) ?_
      refine va_mmax hx hb (hml.trans hl.1.symm) hown (ht _ w_408) (ht _ w_409) (ht _ w_410) (ht _ w_411) (Nat.le_of_ble_eq_true rfl) (Nat.le_of_ble_eq_true rfl) (Nat.le_of_ble_eq_true rfl) (Nat.le_of_ble_eq_true rfl) dJ1_indexOf_4cfef_11 ?_
      refine r_topi (v := 0) (by decide) ?_
      refine lv_istore_n (lv' := [(2, .int 0), (0, .ref (g 306)), (1, .int p0), (3, .int 5)]) hx hb dJ1_indexOf_4cfef_14 rfl hl (by decide) rfl (fun ls hl => ?_)
      refine lv_iload_n hx hb dJ1_indexOf_4cfef_15 rfl (lv_at hl 3 rfl) ?_
      refine lv_aload_n hx hb dJ1_indexOf_4cfef_16 rfl (lv_at hl 1 rfl) ?_
      refine va_tlen (v := 5) hx hb ((hZ.m hAz).2.2.1.1 6 (by decide)).2.2.2 hS rfl dJ1_indexOf_4cfef_17 ?_
      refine va_mmin hx hb (hml.trans hl.1.symm) hown (ht _ w_412) (ht _ w_413) (ht _ w_410) (ht _ w_414) (Nat.le_of_ble_eq_true rfl) (Nat.le_of_ble_eq_true rfl) (Nat.le_of_ble_eq_true rfl) (Nat.le_of_ble_eq_true rfl) dJ1_indexOf_4cfef_18 ?_
      refine r_topi (v := 5) (by decide) ?_
      refine lv_istore_n (lv' := [(3, .int 5), (2, .int 0), (0, .ref (g 306)), (1, .int p0)]) hx hb dJ1_indexOf_4cfef_21 rfl hl (by decide) rfl (fun ls hl => ?_)
      refine lv_iload_n hx hb dJ1_indexOf_4cfef_22 rfl (lv_at hl 1 rfl) ?_
      refine lv_iload_n hx hb dJ1_indexOf_4cfef_23 rfl (lv_at hl 0 rfl) ?_
      refine lv_icmp_lt (tgt := 29) hx hb dJ1_indexOf_4cfef_24 (by decide) (fun c_9 => ?_) (fun c_9 => ?_)
      · refine lv_aload_n hx hb dJ1_indexOf_4cfef_29 rfl (lv_at hl 2 rfl) ?_
        refine lv_iload_n hx hb dJ1_indexOf_4cfef_30 rfl (lv_at hl 3 rfl) ?_
        refine lv_iload_n hx hb dJ1_indexOf_4cfef_31 rfl (lv_at hl 1 rfl) ?_
        refine lv_iload_n hx hb dJ1_indexOf_4cfef_32 rfl (lv_at hl 0 rfl) ?_
        have hPc : va_P D vwCl [] _ := (ro0 hP0 hS).sub (ws' := []) [] rfl
        have hDc : va_D (fun q => z0 ≤ q) [] := hD0.pick (ws' := []) [] (by decide) rfl
        have hFc := AnA (ws := []) hS.1
        refine va_calli (va_runS (As := [.ref (g 306), .int p0, .int 0, .int 5]) (rest := []) ⟨hx, hb, hml, hown, ht⟩ (k_J1_indexOfChar_4cfef_v3 l D g z0 _ a p0) (va_cwS 4 ht (gS w_415 w_417 w_407 w_416) rfl rfl rfl (by decide +kernel) (le2 rfl rfl)) ⟨PP.blind, PP.mk' hK hZ hz hAz hS hPc hDc⟩ rfl rfl hl.1 rfl (lv_room (Nat.le_of_ble_eq_true rfl)) dJ1_indexOf_4cfef_33 (le2 rfl rfl)) hS (fun q _ h => hFc q h) hFc (fun r u t H locs ht1 hvm hw hB hz1 hk1 hS => ?_)
        rcases hw with hw | hw | hw | hw | hw | hw
        · obtain ⟨rfl, hw⟩ := hw
          obtain ⟨c_10, c_11, c_12, c_13, c_14⟩ := hw
          refine W.widen (k := 0) (n := 0) (Nat.le_of_ble_eq_true rfl) (Nat.le_of_ble_eq_true rfl) ?_
          exact W.iret (v := (-1)) hx hb hr (fun t ht9 hW9 => ⟨⟨(-1), (), rfl, (Or.inl ⟨rfl, (Or.inr (Or.inr ⟨c_6, c_7, c_10, c_11, c_12, c_13, c_14⟩))⟩), trivial⟩, hS.F ht9⟩) hS.2.2 dJ1_indexOf_4cfef_36 hlocks
        · obtain ⟨rfl, hw⟩ := hw
          obtain ⟨c_15, c_16, c_17, c_18, c_19⟩ := hw
          refine W.widen (k := 0) (n := 0) (Nat.le_of_ble_eq_true rfl) (Nat.le_of_ble_eq_true rfl) ?_
          exact W.iret (v := 4) hx hb hr (fun t ht9 hW9 => ⟨⟨4, (), rfl, (Or.inr (Or.inl ⟨rfl, ⟨c_6, c_7, c_15, c_16, c_17, c_18, c_19⟩⟩)), trivial⟩, hS.F ht9⟩) hS.2.2 dJ1_indexOf_4cfef_36 hlocks
        · obtain ⟨rfl, hw⟩ := hw
          obtain ⟨c_20, c_21, c_22, c_23⟩ := hw
          refine W.widen (k := 0) (n := 0) (Nat.le_of_ble_eq_true rfl) (Nat.le_of_ble_eq_true rfl) ?_
          exact W.iret (v := 3) hx hb hr (fun t ht9 hW9 => ⟨⟨3, (), rfl, (Or.inr (Or.inr (Or.inl ⟨rfl, ⟨c_6, c_7, c_20, c_21, c_22, c_23⟩⟩))), trivial⟩, hS.F ht9⟩) hS.2.2 dJ1_indexOf_4cfef_36 hlocks
        · obtain ⟨rfl, hw⟩ := hw
          obtain ⟨c_24, c_25, c_26⟩ := hw
          refine W.widen (k := 0) (n := 0) (Nat.le_of_ble_eq_true rfl) (Nat.le_of_ble_eq_true rfl) ?_
          exact W.iret (v := 2) hx hb hr (fun t ht9 hW9 => ⟨⟨2, (), rfl, (Or.inr (Or.inr (Or.inr (Or.inl ⟨rfl, ⟨c_6, c_7, c_24, c_25, c_26⟩⟩)))), trivial⟩, hS.F ht9⟩) hS.2.2 dJ1_indexOf_4cfef_36 hlocks
        · obtain ⟨rfl, hw⟩ := hw
          obtain ⟨c_27, c_28⟩ := hw
          refine W.widen (k := 0) (n := 0) (Nat.le_of_ble_eq_true rfl) (Nat.le_of_ble_eq_true rfl) ?_
          exact W.iret (v := 1) hx hb hr (fun t ht9 hW9 => ⟨⟨1, (), rfl, (Or.inr (Or.inr (Or.inr (Or.inr (Or.inl ⟨rfl, ⟨c_6, c_7, c_27, c_28⟩⟩))))), trivial⟩, hS.F ht9⟩) hS.2.2 dJ1_indexOf_4cfef_36 hlocks
        · obtain ⟨rfl, hw⟩ := hw
          have c_29 := hw
          refine W.widen (k := 0) (n := 0) (Nat.le_of_ble_eq_true rfl) (Nat.le_of_ble_eq_true rfl) ?_
          exact W.iret (v := 0) hx hb hr (fun t ht9 hW9 => ⟨⟨0, (), rfl, (Or.inr (Or.inr (Or.inr (Or.inr (Or.inr ⟨rfl, ⟨c_6, c_7, c_29⟩⟩))))), trivial⟩, hS.F ht9⟩) hS.2.2 dJ1_indexOf_4cfef_36 hlocks
      · exact absurd c_9 (by decide)
    · exact absurd c_8 (by decide)
set_option maxHeartbeats 4000000 in
set_option maxRecDepth 100000 in
theorem k_J0_indexOf_7cf53_v3 (l : Launch) (D : va_G) (g : Nat → ClassId) (z0 sz : Nat) (a : Nat → Nat) (p0 : Int32) : Met l yJ0_indexOf_7cf53 (.code yJ0_indexOf_7cf53 cJ0_indexOf_7cf53 3 (some .int) :: TG) (rmk 2 0 0 48) (va_Pc [.ref (g 206), .int p0, .int 0] (PP D g z0 sz [])) (va_Qi (fun (r : Int32) (u : Unit) => ((r = (-1)) ∧ ((p0 < 0) ∨ ((¬ p0 < 0) ∧ ((255 : Int32) < p0)) ∨ ((¬ p0 < 0) ∧ (¬ (255 : Int32) < p0) ∧ (¬ 115 = p0.toInt8.toInt32) ∧ (¬ 116 = p0.toInt8.toInt32) ∧ (¬ 99 = p0.toInt8.toInt32) ∧ (¬ 105 = p0.toInt8.toInt32) ∧ (¬ 97 = p0.toInt8.toInt32)))) ∨ ((r = 4) ∧ ((¬ p0 < 0) ∧ (¬ (255 : Int32) < p0) ∧ (¬ 115 = p0.toInt8.toInt32) ∧ (¬ 116 = p0.toInt8.toInt32) ∧ (¬ 99 = p0.toInt8.toInt32) ∧ (¬ 105 = p0.toInt8.toInt32) ∧ (97 = p0.toInt8.toInt32))) ∨ ((r = 3) ∧ ((¬ p0 < 0) ∧ (¬ (255 : Int32) < p0) ∧ (¬ 115 = p0.toInt8.toInt32) ∧ (¬ 116 = p0.toInt8.toInt32) ∧ (¬ 99 = p0.toInt8.toInt32) ∧ (105 = p0.toInt8.toInt32))) ∨ ((r = 2) ∧ ((¬ p0 < 0) ∧ (¬ (255 : Int32) < p0) ∧ (¬ 115 = p0.toInt8.toInt32) ∧ (¬ 116 = p0.toInt8.toInt32) ∧ (99 = p0.toInt8.toInt32))) ∨ ((r = 1) ∧ ((¬ p0 < 0) ∧ (¬ (255 : Int32) < p0) ∧ (¬ 115 = p0.toInt8.toInt32) ∧ (116 = p0.toInt8.toInt32))) ∨ ((r = 0) ∧ ((¬ p0 < 0) ∧ (¬ (255 : Int32) < p0) ∧ (115 = p0.toInt8.toInt32)))) (fun (_ : Unit) (_ : State) => True) (va_A [] sz)) 0 0 (va_A [] sz) := by
  refine met0 (cc := cJ0_indexOf_7cf53) (n := 3) (by decide) (Nat.le_of_ble_eq_true rfl) ?_
  intro p e s m args below meth c hx hb hr hml hown ht hlocks hnm hP0 hD0 hK hZ hsz hz ls hl
  subst hsz
  have hA : ∀ q : Nat, s.heap.size ≤ q → va_A [] s.heap.size q := Anw
  have hAz : ∀ q, va_A [] s.heap.size q → z0 ≤ q := A0z hz
  have hS : va_S (va_A [] s.heap.size) s.heap s.heap [] := va_S.rf
  have hl : lv_has ls 3 [(0, .ref (g 206)), (1, .int p0), (2, .int 0)] := hl
  refine lv_aload_n hx hb dJ0_indexOf_7cf53_0 rfl (lv_at hl 0 rfl) ?_
  have hPc : va_P D vwCl [] _ := (ro0 hP0 hS).sub (ws' := []) [] rfl
  have hDc : va_D (fun q => z0 ≤ q) [] := hD0.pick (ws' := []) [] (by decide) rfl
  have hFc := AnA (ws := []) hS.1
  refine va_calli (va_runV (As := []) (rest := []) ⟨hx, hb, hml, hown, ht⟩ (k_J0_isLatin1_aae02_v3 l D g z0 _ a) (cwV 0 ht (gV w_390 w_392 w_393 w_394 w_391) rfl rfl rfl (by decide +kernel) (le2 rfl rfl)) ⟨PP.blind, vk_recv (i := 6) (hZ.m hAz).2.2.1 (by decide) hS, PP.mk' hK hZ hz hAz hS hPc hDc⟩ rfl rfl hl.1 rfl (lv_room (Nat.le_of_ble_eq_true rfl)) dJ0_indexOf_7cf53_1 (le2 rfl rfl)) hS (fun q _ h => hFc q h) hFc (fun r u t H locs ht1 hvm hw hB hz1 hk1 hS => ?_)
  obtain ⟨rfl, hw⟩ := hw
  refine lv_if_eq (tgt := 23) hx hb dJ0_indexOf_7cf53_4 (by decide) (fun c_1 => ?_) (fun c_1 => ?_)
  · exact absurd c_1 (by decide)
  · refine lv_aload_n hx hb dJ0_indexOf_7cf53_7 rfl (lv_at hl 0 rfl) ?_
    refine vk_getf (v := .ref (g 306)) hx hb ((hZ.m hAz).2.2.1.1 6 (by decide)).2.2.1 hS hown (ht _ w_395) (fun _ h9 => h9) dJ0_indexOf_7cf53_8 ?_
    refine lv_iload_n hx hb dJ0_indexOf_7cf53_11 rfl (lv_at hl 1 rfl) ?_
    refine lv_iload_n hx hb dJ0_indexOf_7cf53_12 rfl (lv_at hl 2 rfl) ?_
    refine lv_aload_n hx hb dJ0_indexOf_7cf53_13 rfl (lv_at hl 0 rfl) ?_
    have hPc : va_P D vwCl [] _ := (ro0 hP0 hS).sub (ws' := []) [] rfl
    have hDc : va_D (fun q => z0 ≤ q) [] := hD0.pick (ws' := []) [] (by decide) rfl
    have hFc := AnA (ws := []) hS.1
    refine va_calli (va_runV (As := []) (rest := [.int 0, .int p0, .ref (g 306)]) ⟨hx, hb, hml, hown, ht⟩ (k_J0_length_8abf5_v4 l D g z0 _ a) (cwV 0 ht (gV w_400 w_402 w_403 w_394 w_401) rfl rfl rfl (by decide +kernel) (le2 rfl rfl)) ⟨PP.blind, vk_recv (i := 6) (hZ.m hAz).2.2.1 (by decide) hS, PP.mk' hK hZ hz hAz hS hPc hDc⟩ rfl rfl hl.1 rfl (lv_room (Nat.le_of_ble_eq_true rfl)) dJ0_indexOf_7cf53_14 (le2 rfl rfl)) hS (fun q _ h => hFc q h) hFc (fun r u t H locs ht1 hvm hw hB hz1 hk1 hS => ?_)
    obtain ⟨rfl, hw⟩ := hw
    have hPc : va_P D vwCl [] _ := (ro0 hP0 hS).sub (ws' := []) [] rfl
    have hDc : va_D (fun q => z0 ≤ q) [] := hD0.pick (ws' := []) [] (by decide) rfl
    have hFc := AnA (ws := []) hS.1
    refine va_calli (va_runS (As := [.ref (g 306), .int p0, .int 0, .int 5]) (rest := []) ⟨hx, hb, hml, hown, ht⟩ (k_J1_indexOf_4cfef_v3 l D g z0 _ a p0) (va_cwS 4 ht (gS w_418 w_420 w_407 w_419) rfl rfl rfl (by decide +kernel) (le2 rfl rfl)) ⟨PP.blind, PP.mk' hK hZ hz hAz hS hPc hDc⟩ rfl rfl hl.1 rfl (lv_room (Nat.le_of_ble_eq_true rfl)) dJ0_indexOf_7cf53_17 (le2 rfl rfl)) hS (fun q _ h => hFc q h) hFc (fun r u t H locs ht1 hvm hw hB hz1 hk1 hS => ?_)
    rcases hw with hw | hw | hw | hw | hw | hw
    · obtain ⟨rfl, hw⟩ := hw
      rcases hw with hw | hw | hw
      · have c_2 := hw
        refine lv_goto (tgt := 36) hx hb dJ0_indexOf_7cf53_20 (by decide) ?_
        refine W.widen (k := 0) (n := 0) (Nat.le_of_ble_eq_true rfl) (Nat.le_of_ble_eq_true rfl) ?_
        exact W.iret (v := (-1)) hx hb hr (fun t ht9 hW9 => ⟨⟨(-1), (), rfl, (Or.inl ⟨rfl, (Or.inl c_2)⟩), trivial⟩, hS.F ht9⟩) hS.2.2 dJ0_indexOf_7cf53_36 hlocks
      · obtain ⟨c_3, c_4⟩ := hw
        refine lv_goto (tgt := 36) hx hb dJ0_indexOf_7cf53_20 (by decide) ?_
        refine W.widen (k := 0) (n := 0) (Nat.le_of_ble_eq_true rfl) (Nat.le_of_ble_eq_true rfl) ?_
        exact W.iret (v := (-1)) hx hb hr (fun t ht9 hW9 => ⟨⟨(-1), (), rfl, (Or.inl ⟨rfl, (Or.inr (Or.inl ⟨c_3, c_4⟩))⟩), trivial⟩, hS.F ht9⟩) hS.2.2 dJ0_indexOf_7cf53_36 hlocks
      · obtain ⟨c_5, c_6, c_7, c_8, c_9, c_10, c_11⟩ := hw
        refine lv_goto (tgt := 36) hx hb dJ0_indexOf_7cf53_20 (by decide) ?_
        refine W.widen (k := 0) (n := 0) (Nat.le_of_ble_eq_true rfl) (Nat.le_of_ble_eq_true rfl) ?_
        exact W.iret (v := (-1)) hx hb hr (fun t ht9 hW9 => ⟨⟨(-1), (), rfl, (Or.inl ⟨rfl, (Or.inr (Or.inr ⟨c_5, c_6, c_7, c_8, c_9, c_10, c_11⟩))⟩), trivial⟩, hS.F ht9⟩) hS.2.2 dJ0_indexOf_7cf53_36 hlocks
    · obtain ⟨rfl, hw⟩ := hw
      obtain ⟨c_12, c_13, c_14, c_15, c_16, c_17, c_18⟩ := hw
      refine lv_goto (tgt := 36) hx hb dJ0_indexOf_7cf53_20 (by decide) ?_
      refine W.widen (k := 0) (n := 0) (Nat.le_of_ble_eq_true rfl) (Nat.le_of_ble_eq_true rfl) ?_
      exact W.iret (v := 4) hx hb hr (fun t ht9 hW9 => ⟨⟨4, (), rfl, (Or.inr (Or.inl ⟨rfl, ⟨c_12, c_13, c_14, c_15, c_16, c_17, c_18⟩⟩)), trivial⟩, hS.F ht9⟩) hS.2.2 dJ0_indexOf_7cf53_36 hlocks
    · obtain ⟨rfl, hw⟩ := hw
      obtain ⟨c_19, c_20, c_21, c_22, c_23, c_24⟩ := hw
      refine lv_goto (tgt := 36) hx hb dJ0_indexOf_7cf53_20 (by decide) ?_
      refine W.widen (k := 0) (n := 0) (Nat.le_of_ble_eq_true rfl) (Nat.le_of_ble_eq_true rfl) ?_
      exact W.iret (v := 3) hx hb hr (fun t ht9 hW9 => ⟨⟨3, (), rfl, (Or.inr (Or.inr (Or.inl ⟨rfl, ⟨c_19, c_20, c_21, c_22, c_23, c_24⟩⟩))), trivial⟩, hS.F ht9⟩) hS.2.2 dJ0_indexOf_7cf53_36 hlocks
    · obtain ⟨rfl, hw⟩ := hw
      obtain ⟨c_25, c_26, c_27, c_28, c_29⟩ := hw
      refine lv_goto (tgt := 36) hx hb dJ0_indexOf_7cf53_20 (by decide) ?_
      refine W.widen (k := 0) (n := 0) (Nat.le_of_ble_eq_true rfl) (Nat.le_of_ble_eq_true rfl) ?_
      exact W.iret (v := 2) hx hb hr (fun t ht9 hW9 => ⟨⟨2, (), rfl, (Or.inr (Or.inr (Or.inr (Or.inl ⟨rfl, ⟨c_25, c_26, c_27, c_28, c_29⟩⟩)))), trivial⟩, hS.F ht9⟩) hS.2.2 dJ0_indexOf_7cf53_36 hlocks
    · obtain ⟨rfl, hw⟩ := hw
      obtain ⟨c_30, c_31, c_32, c_33⟩ := hw
      refine lv_goto (tgt := 36) hx hb dJ0_indexOf_7cf53_20 (by decide) ?_
      refine W.widen (k := 0) (n := 0) (Nat.le_of_ble_eq_true rfl) (Nat.le_of_ble_eq_true rfl) ?_
      exact W.iret (v := 1) hx hb hr (fun t ht9 hW9 => ⟨⟨1, (), rfl, (Or.inr (Or.inr (Or.inr (Or.inr (Or.inl ⟨rfl, ⟨c_30, c_31, c_32, c_33⟩⟩))))), trivial⟩, hS.F ht9⟩) hS.2.2 dJ0_indexOf_7cf53_36 hlocks
    · obtain ⟨rfl, hw⟩ := hw
      obtain ⟨c_34, c_35, c_36⟩ := hw
      refine lv_goto (tgt := 36) hx hb dJ0_indexOf_7cf53_20 (by decide) ?_
      refine W.widen (k := 0) (n := 0) (Nat.le_of_ble_eq_true rfl) (Nat.le_of_ble_eq_true rfl) ?_
      exact W.iret (v := 0) hx hb hr (fun t ht9 hW9 => ⟨⟨0, (), rfl, (Or.inr (Or.inr (Or.inr (Or.inr (Or.inr ⟨rfl, ⟨c_34, c_35, c_36⟩⟩))))), trivial⟩, hS.F ht9⟩) hS.2.2 dJ0_indexOf_7cf53_36 hlocks
set_option maxHeartbeats 4000000 in
set_option maxRecDepth 100000 in
theorem k_J0_indexOf_0f7a4_v3 (l : Launch) (D : va_G) (g : Nat → ClassId) (z0 sz : Nat) (a : Nat → Nat) (p0 : Int32) : Met l yJ0_indexOf_0f7a4 (.code yJ0_indexOf_0f7a4 cJ0_indexOf_0f7a4 2 (some .int) :: TG) (rmk 3 0 0 70) (va_Pc [.ref (g 206), .int p0] (PP D g z0 sz [])) (va_Qi (fun (r : Int32) (u : Unit) => ((r = (-1)) ∧ (((¬ p0 = 115) ∧ (¬ p0 = 116) ∧ (¬ p0 = 99) ∧ (¬ p0 = 105) ∧ (¬ p0 = 97)) ∨ ((¬ p0 = 115) ∧ (¬ p0 = 116) ∧ (¬ p0 = 99) ∧ (¬ p0 = 105) ∧ (¬ p0 = 97)) ∨ ((¬ p0 = 115) ∧ (¬ p0 = 116) ∧ (¬ p0 = 99) ∧ (¬ p0 = 105) ∧ (¬ p0 = 97)))) ∨ ((r = 4) ∧ (p0 = 97)) ∨ ((r = 3) ∧ (p0 = 105)) ∨ ((r = 2) ∧ (p0 = 99)) ∨ ((r = 1) ∧ (p0 = 116)) ∨ ((r = 0) ∧ (p0 = 115))) (fun (_ : Unit) (_ : State) => True) (va_A [] sz)) 0 0 (va_A [] sz) := by
  refine met0 (cc := cJ0_indexOf_0f7a4) (n := 2) (by decide) (Nat.le_of_ble_eq_true rfl) ?_
  intro p e s m args below meth c hx hb hr hml hown ht hlocks hnm hP0 hD0 hK hZ hsz hz ls hl
  subst hsz
  have hA : ∀ q : Nat, s.heap.size ≤ q → va_A [] s.heap.size q := Anw
  have hAz : ∀ q, va_A [] s.heap.size q → z0 ≤ q := A0z hz
  have hS : va_S (va_A [] s.heap.size) s.heap s.heap [] := va_S.rf
  have hl : lv_has ls 2 [(0, .ref (g 206)), (1, .int p0)] := hl
  refine lv_aload_n hx hb dJ0_indexOf_0f7a4_0 rfl (lv_at hl 0 rfl) ?_
  refine lv_iload_n hx hb dJ0_indexOf_0f7a4_1 rfl (lv_at hl 1 rfl) ?_
  refine lv_iconst (v := 0) hx hb dJ0_indexOf_0f7a4_2 (by decide) ?_
  have hPc : va_P D vwCl [] _ := (ro0 hP0 hS).sub (ws' := []) [] rfl
  have hDc : va_D (fun q => z0 ≤ q) [] := hD0.pick (ws' := []) [] (by decide) rfl
  have hFc := AnA (ws := []) hS.1
  refine va_calli (va_runV (As := [.int p0, .int 0]) (rest := []) ⟨hx, hb, hml, hown, ht⟩ (k_J0_indexOf_7cf53_v3 l D g z0 _ a p0) (cwV 2 ht (gV w_421 w_423 w_424 w_394 w_422) rfl rfl rfl (by decide +kernel) (le2 rfl rfl)) ⟨PP.blind, vk_recv (i := 6) (hZ.m hAz).2.2.1 (by decide) hS, PP.mk' hK hZ hz hAz hS hPc hDc⟩ rfl rfl hl.1 rfl (lv_room (Nat.le_of_ble_eq_true rfl)) dJ0_indexOf_0f7a4_3 (le2 rfl rfl)) hS (fun q _ h => hFc q h) hFc (fun r u t H locs ht1 hvm hw hB hz1 hk1 hS => ?_)
  rcases hw with hw | hw | hw | hw | hw | hw
  · obtain ⟨rfl, hw⟩ := hw
    rcases hw with hw | hw | hw
    · have c_1 := hw
      refine W.widen (k := 0) (n := 0) (Nat.le_of_ble_eq_true rfl) (Nat.le_of_ble_eq_true rfl) ?_
      exact W.iret (v := (-1)) hx hb hr (fun t ht9 hW9 => ⟨⟨(-1), (), rfl, (Or.inl ⟨rfl, (Or.inl ⟨(fun h9 => absurd (h9 ▸ c_1) (by decide)), (fun h9 => absurd (h9 ▸ c_1) (by decide)), (fun h9 => absurd (h9 ▸ c_1) (by decide)), (fun h9 => absurd (h9 ▸ c_1) (by decide)), (fun h9 => absurd (h9 ▸ c_1) (by decide))⟩)⟩), trivial⟩, hS.F ht9⟩) hS.2.2 dJ0_indexOf_0f7a4_6 hlocks
    · obtain ⟨c_2, c_3⟩ := hw
      refine W.widen (k := 0) (n := 0) (Nat.le_of_ble_eq_true rfl) (Nat.le_of_ble_eq_true rfl) ?_
      exact W.iret (v := (-1)) hx hb hr (fun t ht9 hW9 => ⟨⟨(-1), (), rfl, (Or.inl ⟨rfl, (Or.inl ⟨(fun h9 => absurd (h9 ▸ c_3) (by decide)), (fun h9 => absurd (h9 ▸ c_3) (by decide)), (fun h9 => absurd (h9 ▸ c_3) (by decide)), (fun h9 => absurd (h9 ▸ c_3) (by decide)), (fun h9 => absurd (h9 ▸ c_3) (by decide))⟩)⟩), trivial⟩, hS.F ht9⟩) hS.2.2 dJ0_indexOf_0f7a4_6 hlocks
    · obtain ⟨c_4, c_5, c_6, c_7, c_8, c_9, c_10⟩ := hw
      refine W.widen (k := 0) (n := 0) (Nat.le_of_ble_eq_true rfl) (Nat.le_of_ble_eq_true rfl) ?_
      exact W.iret (v := (-1)) hx hb hr (fun t ht9 hW9 => ⟨⟨(-1), (), rfl, (Or.inl ⟨rfl, (Or.inl ⟨(fun h9 => c_6 (by rw [h9]; decide)), (fun h9 => c_7 (by rw [h9]; decide)), (fun h9 => c_8 (by rw [h9]; decide)), (fun h9 => c_9 (by rw [h9]; decide)), (fun h9 => c_10 (by rw [h9]; decide))⟩)⟩), trivial⟩, hS.F ht9⟩) hS.2.2 dJ0_indexOf_0f7a4_6 hlocks
  · obtain ⟨rfl, hw⟩ := hw
    obtain ⟨c_11, c_12, c_13, c_14, c_15, c_16, c_17⟩ := hw
    refine W.widen (k := 0) (n := 0) (Nat.le_of_ble_eq_true rfl) (Nat.le_of_ble_eq_true rfl) ?_
    exact W.iret (v := 4) hx hb hr (fun t ht9 hW9 => ⟨⟨4, (), rfl, (Or.inr (Or.inl ⟨rfl, (ix_eq (n := 97) c_11 c_12 (by decide) c_17)⟩)), trivial⟩, hS.F ht9⟩) hS.2.2 dJ0_indexOf_0f7a4_6 hlocks
  · obtain ⟨rfl, hw⟩ := hw
    obtain ⟨c_18, c_19, c_20, c_21, c_22, c_23⟩ := hw
    refine W.widen (k := 0) (n := 0) (Nat.le_of_ble_eq_true rfl) (Nat.le_of_ble_eq_true rfl) ?_
    exact W.iret (v := 3) hx hb hr (fun t ht9 hW9 => ⟨⟨3, (), rfl, (Or.inr (Or.inr (Or.inl ⟨rfl, (ix_eq (n := 105) c_18 c_19 (by decide) c_23)⟩))), trivial⟩, hS.F ht9⟩) hS.2.2 dJ0_indexOf_0f7a4_6 hlocks
  · obtain ⟨rfl, hw⟩ := hw
    obtain ⟨c_24, c_25, c_26, c_27, c_28⟩ := hw
    refine W.widen (k := 0) (n := 0) (Nat.le_of_ble_eq_true rfl) (Nat.le_of_ble_eq_true rfl) ?_
    exact W.iret (v := 2) hx hb hr (fun t ht9 hW9 => ⟨⟨2, (), rfl, (Or.inr (Or.inr (Or.inr (Or.inl ⟨rfl, (ix_eq (n := 99) c_24 c_25 (by decide) c_28)⟩)))), trivial⟩, hS.F ht9⟩) hS.2.2 dJ0_indexOf_0f7a4_6 hlocks
  · obtain ⟨rfl, hw⟩ := hw
    obtain ⟨c_29, c_30, c_31, c_32⟩ := hw
    refine W.widen (k := 0) (n := 0) (Nat.le_of_ble_eq_true rfl) (Nat.le_of_ble_eq_true rfl) ?_
    exact W.iret (v := 1) hx hb hr (fun t ht9 hW9 => ⟨⟨1, (), rfl, (Or.inr (Or.inr (Or.inr (Or.inr (Or.inl ⟨rfl, (ix_eq (n := 116) c_29 c_30 (by decide) c_32)⟩))))), trivial⟩, hS.F ht9⟩) hS.2.2 dJ0_indexOf_0f7a4_6 hlocks
  · obtain ⟨rfl, hw⟩ := hw
    obtain ⟨c_33, c_34, c_35⟩ := hw
    refine W.widen (k := 0) (n := 0) (Nat.le_of_ble_eq_true rfl) (Nat.le_of_ble_eq_true rfl) ?_
    exact W.iret (v := 0) hx hb hr (fun t ht9 hW9 => ⟨⟨0, (), rfl, (Or.inr (Or.inr (Or.inr (Or.inr (Or.inr ⟨rfl, (ix_eq (n := 115) c_33 c_34 (by decide) c_35)⟩))))), trivial⟩, hS.F ht9⟩) hS.2.2 dJ0_indexOf_0f7a4_6 hlocks
set_option maxHeartbeats 4000000 in
set_option maxRecDepth 100000 in
theorem k_X15_marchCount (l : Launch) (D : va_G) (g : Nat → ClassId) (z0 sz : Nat) (a : Nat → Nat) (p0 : Int32) (hc_p0 : isC p0) : Met l yX15_marchCount (.code yX15_marchCount cX15_marchCount 10 (some .int) :: TG) (rmk 4 0 0 91) (va_Pc [.ref (a 200), .int p0] (PP D g z0 sz [((a 200), f_m a g)])) (va_Qi (fun (r : Int32) (u : Int32) => ((r = 0) ∧ (u = 1) ∧ (((¬ p0 = 115) ∧ (¬ p0 = 116) ∧ (¬ p0 = 99) ∧ (¬ p0 = 105) ∧ (¬ p0 = 97)) ∨ ((¬ p0 = 115) ∧ (¬ p0 = 116) ∧ (¬ p0 = 99) ∧ (¬ p0 = 105) ∧ (¬ p0 = 97)) ∨ ((¬ p0 = 115) ∧ (¬ p0 = 116) ∧ (¬ p0 = 99) ∧ (¬ p0 = 105) ∧ (¬ p0 = 97)))) ∨ ((r = 0) ∧ (u = 2) ∧ ((p0 = 97) ∨ (p0 = 105) ∨ (p0 = 99) ∨ (p0 = 116) ∨ (p0 = 115)))) (fun (u : Int32) (t : State) => va_P D vwCl [((a 200), .inr (21, [.int u, .ref (a 201), .ref (a 202), .ref (a 203), .ref (a 204), .ref (a 205), .ref (a 206), .int 0, .int 0, .int 0, .int 0, .ref (a 208), .ref (a 209), .ref (a 210), .ref (a 211), .ref (a 212), .int 4, .int 12, .int (-1), .int 0, .ref (g 200), .ref (a 213), .int 0, .int 97, .ref (a 214), .ref (a 215), .ref (a 207), .null, .int 0]))] t.heap ∧ va_D (va_A [((a 200), f_m a g)] sz) [((a 200), .inr (21, [.int u, .ref (a 201), .ref (a 202), .ref (a 203), .ref (a 204), .ref (a 205), .ref (a 206), .int 0, .int 0, .int 0, .int 0, .ref (a 208), .ref (a 209), .ref (a 210), .ref (a 211), .ref (a 212), .int 4, .int 12, .int (-1), .int 0, .ref (g 200), .ref (a 213), .int 0, .int 97, .ref (a 214), .ref (a 215), .ref (a 207), .null, .int 0]))]) (va_A [((a 200), f_m a g)] sz)) 0 0 (va_A [((a 200), f_m a g)] sz) := by
  refine met0 (cc := cX15_marchCount) (n := 10) (by decide) (Nat.le_of_ble_eq_true rfl) ?_
  intro p e s m args below meth c hx hb hr hml hown ht hlocks hnm hP0 hD0 hK hZ hsz hz ls hl
  subst hsz
  have hA : ∀ q : Nat, s.heap.size ≤ q → va_A [((a 200), f_m a g)] s.heap.size q := Anw
  have hAz : ∀ q, va_A [((a 200), f_m a g)] s.heap.size q → z0 ≤ q := Awz hz hD0
  have hS : va_S (va_A [((a 200), f_m a g)] s.heap.size) s.heap s.heap [] := va_S.rf
  have hD : va_D (va_A [((a 200), f_m a g)] s.heap.size) [((a 200), f_m a g)] := hD0.self
  have hP : va_P D vwCl [((a 200), f_m a g)] s.heap := hP0
  have hl : lv_has ls 10 [(0, .ref (a 200)), (1, .int p0)] := hl
  refine lv_aload_n hx hb dX15_marchCount_0 rfl (lv_at hl 0 rfl) ?_
  refine r_ldcSw (index := 483) (tx := "stcia") (q := g 206) hx hb hown (hK.2.2.2.2.2.2.1 6 (by decide)) dX15_marchCount_1 ?_
  refine lv_iload_n hx hb dX15_marchCount_4 rfl (lv_at hl 1 rfl) ?_
  have hPc : va_P D vwCl [] _ := hP.sub (ws' := []) [] rfl
  have hDc : va_D (fun q => z0 ≤ q) [] := (hD.to hAz).pick (ws' := []) [] (by decide) rfl
  have hFc := AnA (ws := [((a 200), f_m a g)]) hS.1
  refine va_calli (va_runV (As := [.int p0]) (rest := [.ref (a 200)]) ⟨hx, hb, hml, hown, ht⟩ (k_J0_indexOf_0f7a4_v3 l D g z0 _ a p0) (cwV 1 ht (gV w_425 w_427 w_428 w_394 w_426) rfl rfl rfl (by decide +kernel) (le2 rfl rfl)) ⟨PP.blind, vk_recv (i := 6) (hZ.m hAz).2.2.1 (by decide) hS, PP.mk' hK hZ hz hAz hS hPc hDc⟩ rfl rfl hl.1 rfl (lv_room (Nat.le_of_ble_eq_true rfl)) dX15_marchCount_5 (le2 rfl rfl)) hS (fun q _ h => hFc q h) hFc (fun r u t H locs ht1 hvm hw hB hz1 hk1 hS => ?_)
  rcases hw with hw | hw | hw | hw | hw | hw
  · obtain ⟨rfl, hw⟩ := hw
    rcases hw with hw | hw | hw
    · obtain ⟨c_1, c_2, c_3, c_4, c_5⟩ := hw
      have hP := ro1 hP hk1
      refine lv_if_ge (tgt := 15) hx hb dX15_marchCount_8 (by decide) (fun c_6 => ?_) (fun c_6 => ?_)
      · exact absurd c_6 (by decide)
      · refine lv_iconst (v := 1) hx hb dX15_marchCount_11 (by decide) ?_
        refine lv_goto (tgt := 27) hx hb dX15_marchCount_12 (by decide) ?_
        have hPc : va_P D vwCl [((a 200), f_m a g)] _ := hP.sub (ws' := [((a 200), f_m a g)]) [0] rfl
        have hDc : va_D (fun q => z0 ≤ q) [((a 200), f_m a g)] := (hD.to hAz).pick (ws' := [((a 200), f_m a g)]) [0] (by decide) rfl
        have hFc := va_free (wc := [((a 200), f_m a g)]) hD hS hA [0] rfl
        refine va_calli (va_runV (As := [.int 1]) (rest := []) ⟨hx, hb, hml, hown, ht⟩ (k_X15_isWrong l D g z0 _ a) (cwV 1 ht (gV w_376 w_378 w_379 w_334 w_377) rfl rfl rfl (by decide +kernel) (le2 rfl rfl)) ⟨PP.blind, va_recv hK.1 hP (ci := 21) (q0 := 0) rfl rfl, PP.mk' hK hZ hz hAz hS hPc hDc⟩ rfl rfl hl.1 rfl (lv_room (Nat.le_of_ble_eq_true rfl)) dX15_marchCount_27 (le2 rfl rfl)) hS (fun q _ h => hFc q h) hFc (fun r u t H locs ht1 hvm hw hB hz1 hk1 hS => ?_)
        obtain ⟨rfl, hw⟩ := hw
        obtain ⟨hP1, hD1⟩ := hB
        rw [ht1] at hP1
        obtain ⟨hP, hD⟩ := va_join (wr := []) (w1 := [((a 200), .inr (21, [.int 1, .ref (a 201), .ref (a 202), .ref (a 203), .ref (a 204), .ref (a 205), .ref (a 206), .int 0, .int 0, .int 0, .int 0, .ref (a 208), .ref (a 209), .ref (a 210), .ref (a 211), .ref (a 212), .int 4, .int 12, .int (-1), .int 0, .ref (g 200), .ref (a 213), .int 0, .int 97, .ref (a 214), .ref (a 215), .ref (a 207), .null, .int 0]))]) hP hD [0] [] rfl rfl (by decide) (by decide) hk1 hFc hP1 hD1
        have hP : va_P D vwCl [((a 200), .inr (21, [.int 1, .ref (a 201), .ref (a 202), .ref (a 203), .ref (a 204), .ref (a 205), .ref (a 206), .int 0, .int 0, .int 0, .int 0, .ref (a 208), .ref (a 209), .ref (a 210), .ref (a 211), .ref (a 212), .int 4, .int 12, .int (-1), .int 0, .ref (g 200), .ref (a 213), .int 0, .int 97, .ref (a 214), .ref (a 215), .ref (a 207), .null, .int 0]))] H := hP
        have hD : va_D (va_A [((a 200), f_m a g)] s.heap.size) [((a 200), .inr (21, [.int 1, .ref (a 201), .ref (a 202), .ref (a 203), .ref (a 204), .ref (a 205), .ref (a 206), .int 0, .int 0, .int 0, .int 0, .ref (a 208), .ref (a 209), .ref (a 210), .ref (a 211), .ref (a 212), .int 4, .int 12, .int (-1), .int 0, .ref (g 200), .ref (a 213), .int 0, .int 97, .ref (a 214), .ref (a 215), .ref (a 207), .null, .int 0]))] := hD
        refine lv_if_eq (tgt := 35) hx hb dX15_marchCount_30 (by decide) (fun c_7 => ?_) (fun c_7 => ?_)
        · exact absurd c_7 (by decide)
        · refine lv_iconst (v := 0) hx hb dX15_marchCount_33 (by decide) ?_
          have hP9 := hP.sub (ws' := [((a 200), .inr (21, [.int 1, .ref (a 201), .ref (a 202), .ref (a 203), .ref (a 204), .ref (a 205), .ref (a 206), .int 0, .int 0, .int 0, .int 0, .ref (a 208), .ref (a 209), .ref (a 210), .ref (a 211), .ref (a 212), .int 4, .int 12, .int (-1), .int 0, .ref (g 200), .ref (a 213), .int 0, .int 97, .ref (a 214), .ref (a 215), .ref (a 207), .null, .int 0]))]) [0] rfl
          have hD9 := hD.sub (ws' := [((a 200), .inr (21, [.int 1, .ref (a 201), .ref (a 202), .ref (a 203), .ref (a 204), .ref (a 205), .ref (a 206), .int 0, .int 0, .int 0, .int 0, .ref (a 208), .ref (a 209), .ref (a 210), .ref (a 211), .ref (a 212), .int 4, .int 12, .int (-1), .int 0, .ref (g 200), .ref (a 213), .int 0, .int 97, .ref (a 214), .ref (a 215), .ref (a 207), .null, .int 0]))]) [0] (by decide) rfl
          refine W.widen (k := 0) (n := 0) (Nat.le_of_ble_eq_true rfl) (Nat.le_of_ble_eq_true rfl) ?_
          exact W.iret (v := 0) hx hb hr (fun t ht9 hW9 => ⟨⟨0, 1, rfl, (Or.inl ⟨rfl, rfl, (Or.inl ⟨c_1, c_2, c_3, c_4, c_5⟩)⟩), ⟨(by rw [ht9]; exact hP9), hD9⟩⟩, hS.F ht9⟩) hS.2.2 dX15_marchCount_34 hlocks
    · obtain ⟨c_8, c_9, c_10, c_11, c_12⟩ := hw
      have hP := ro1 hP hk1
      refine lv_if_ge (tgt := 15) hx hb dX15_marchCount_8 (by decide) (fun c_13 => ?_) (fun c_13 => ?_)
      · exact absurd c_13 (by decide)
      · refine lv_iconst (v := 1) hx hb dX15_marchCount_11 (by decide) ?_
        refine lv_goto (tgt := 27) hx hb dX15_marchCount_12 (by decide) ?_
        have hPc : va_P D vwCl [((a 200), f_m a g)] _ := hP.sub (ws' := [((a 200), f_m a g)]) [0] rfl
        have hDc : va_D (fun q => z0 ≤ q) [((a 200), f_m a g)] := (hD.to hAz).pick (ws' := [((a 200), f_m a g)]) [0] (by decide) rfl
        have hFc := va_free (wc := [((a 200), f_m a g)]) hD hS hA [0] rfl
        refine va_calli (va_runV (As := [.int 1]) (rest := []) ⟨hx, hb, hml, hown, ht⟩ (k_X15_isWrong l D g z0 _ a) (cwV 1 ht (gV w_376 w_378 w_379 w_334 w_377) rfl rfl rfl (by decide +kernel) (le2 rfl rfl)) ⟨PP.blind, va_recv hK.1 hP (ci := 21) (q0 := 0) rfl rfl, PP.mk' hK hZ hz hAz hS hPc hDc⟩ rfl rfl hl.1 rfl (lv_room (Nat.le_of_ble_eq_true rfl)) dX15_marchCount_27 (le2 rfl rfl)) hS (fun q _ h => hFc q h) hFc (fun r u t H locs ht1 hvm hw hB hz1 hk1 hS => ?_)
        obtain ⟨rfl, hw⟩ := hw
        obtain ⟨hP1, hD1⟩ := hB
        rw [ht1] at hP1
        obtain ⟨hP, hD⟩ := va_join (wr := []) (w1 := [((a 200), .inr (21, [.int 1, .ref (a 201), .ref (a 202), .ref (a 203), .ref (a 204), .ref (a 205), .ref (a 206), .int 0, .int 0, .int 0, .int 0, .ref (a 208), .ref (a 209), .ref (a 210), .ref (a 211), .ref (a 212), .int 4, .int 12, .int (-1), .int 0, .ref (g 200), .ref (a 213), .int 0, .int 97, .ref (a 214), .ref (a 215), .ref (a 207), .null, .int 0]))]) hP hD [0] [] rfl rfl (by decide) (by decide) hk1 hFc hP1 hD1
        have hP : va_P D vwCl [((a 200), .inr (21, [.int 1, .ref (a 201), .ref (a 202), .ref (a 203), .ref (a 204), .ref (a 205), .ref (a 206), .int 0, .int 0, .int 0, .int 0, .ref (a 208), .ref (a 209), .ref (a 210), .ref (a 211), .ref (a 212), .int 4, .int 12, .int (-1), .int 0, .ref (g 200), .ref (a 213), .int 0, .int 97, .ref (a 214), .ref (a 215), .ref (a 207), .null, .int 0]))] H := hP
        have hD : va_D (va_A [((a 200), f_m a g)] s.heap.size) [((a 200), .inr (21, [.int 1, .ref (a 201), .ref (a 202), .ref (a 203), .ref (a 204), .ref (a 205), .ref (a 206), .int 0, .int 0, .int 0, .int 0, .ref (a 208), .ref (a 209), .ref (a 210), .ref (a 211), .ref (a 212), .int 4, .int 12, .int (-1), .int 0, .ref (g 200), .ref (a 213), .int 0, .int 97, .ref (a 214), .ref (a 215), .ref (a 207), .null, .int 0]))] := hD
        refine lv_if_eq (tgt := 35) hx hb dX15_marchCount_30 (by decide) (fun c_14 => ?_) (fun c_14 => ?_)
        · exact absurd c_14 (by decide)
        · refine lv_iconst (v := 0) hx hb dX15_marchCount_33 (by decide) ?_
          have hP9 := hP.sub (ws' := [((a 200), .inr (21, [.int 1, .ref (a 201), .ref (a 202), .ref (a 203), .ref (a 204), .ref (a 205), .ref (a 206), .int 0, .int 0, .int 0, .int 0, .ref (a 208), .ref (a 209), .ref (a 210), .ref (a 211), .ref (a 212), .int 4, .int 12, .int (-1), .int 0, .ref (g 200), .ref (a 213), .int 0, .int 97, .ref (a 214), .ref (a 215), .ref (a 207), .null, .int 0]))]) [0] rfl
          have hD9 := hD.sub (ws' := [((a 200), .inr (21, [.int 1, .ref (a 201), .ref (a 202), .ref (a 203), .ref (a 204), .ref (a 205), .ref (a 206), .int 0, .int 0, .int 0, .int 0, .ref (a 208), .ref (a 209), .ref (a 210), .ref (a 211), .ref (a 212), .int 4, .int 12, .int (-1), .int 0, .ref (g 200), .ref (a 213), .int 0, .int 97, .ref (a 214), .ref (a 215), .ref (a 207), .null, .int 0]))]) [0] (by decide) rfl
          refine W.widen (k := 0) (n := 0) (Nat.le_of_ble_eq_true rfl) (Nat.le_of_ble_eq_true rfl) ?_
          exact W.iret (v := 0) hx hb hr (fun t ht9 hW9 => ⟨⟨0, 1, rfl, (Or.inl ⟨rfl, rfl, (Or.inl ⟨c_8, c_9, c_10, c_11, c_12⟩)⟩), ⟨(by rw [ht9]; exact hP9), hD9⟩⟩, hS.F ht9⟩) hS.2.2 dX15_marchCount_34 hlocks
    · obtain ⟨c_15, c_16, c_17, c_18, c_19⟩ := hw
      have hP := ro1 hP hk1
      refine lv_if_ge (tgt := 15) hx hb dX15_marchCount_8 (by decide) (fun c_20 => ?_) (fun c_20 => ?_)
      · exact absurd c_20 (by decide)
      · refine lv_iconst (v := 1) hx hb dX15_marchCount_11 (by decide) ?_
        refine lv_goto (tgt := 27) hx hb dX15_marchCount_12 (by decide) ?_
        have hPc : va_P D vwCl [((a 200), f_m a g)] _ := hP.sub (ws' := [((a 200), f_m a g)]) [0] rfl
        have hDc : va_D (fun q => z0 ≤ q) [((a 200), f_m a g)] := (hD.to hAz).pick (ws' := [((a 200), f_m a g)]) [0] (by decide) rfl
        have hFc := va_free (wc := [((a 200), f_m a g)]) hD hS hA [0] rfl
        refine va_calli (va_runV (As := [.int 1]) (rest := []) ⟨hx, hb, hml, hown, ht⟩ (k_X15_isWrong l D g z0 _ a) (cwV 1 ht (gV w_376 w_378 w_379 w_334 w_377) rfl rfl rfl (by decide +kernel) (le2 rfl rfl)) ⟨PP.blind, va_recv hK.1 hP (ci := 21) (q0 := 0) rfl rfl, PP.mk' hK hZ hz hAz hS hPc hDc⟩ rfl rfl hl.1 rfl (lv_room (Nat.le_of_ble_eq_true rfl)) dX15_marchCount_27 (le2 rfl rfl)) hS (fun q _ h => hFc q h) hFc (fun r u t H locs ht1 hvm hw hB hz1 hk1 hS => ?_)
        obtain ⟨rfl, hw⟩ := hw
        obtain ⟨hP1, hD1⟩ := hB
        rw [ht1] at hP1
        obtain ⟨hP, hD⟩ := va_join (wr := []) (w1 := [((a 200), .inr (21, [.int 1, .ref (a 201), .ref (a 202), .ref (a 203), .ref (a 204), .ref (a 205), .ref (a 206), .int 0, .int 0, .int 0, .int 0, .ref (a 208), .ref (a 209), .ref (a 210), .ref (a 211), .ref (a 212), .int 4, .int 12, .int (-1), .int 0, .ref (g 200), .ref (a 213), .int 0, .int 97, .ref (a 214), .ref (a 215), .ref (a 207), .null, .int 0]))]) hP hD [0] [] rfl rfl (by decide) (by decide) hk1 hFc hP1 hD1
        have hP : va_P D vwCl [((a 200), .inr (21, [.int 1, .ref (a 201), .ref (a 202), .ref (a 203), .ref (a 204), .ref (a 205), .ref (a 206), .int 0, .int 0, .int 0, .int 0, .ref (a 208), .ref (a 209), .ref (a 210), .ref (a 211), .ref (a 212), .int 4, .int 12, .int (-1), .int 0, .ref (g 200), .ref (a 213), .int 0, .int 97, .ref (a 214), .ref (a 215), .ref (a 207), .null, .int 0]))] H := hP
        have hD : va_D (va_A [((a 200), f_m a g)] s.heap.size) [((a 200), .inr (21, [.int 1, .ref (a 201), .ref (a 202), .ref (a 203), .ref (a 204), .ref (a 205), .ref (a 206), .int 0, .int 0, .int 0, .int 0, .ref (a 208), .ref (a 209), .ref (a 210), .ref (a 211), .ref (a 212), .int 4, .int 12, .int (-1), .int 0, .ref (g 200), .ref (a 213), .int 0, .int 97, .ref (a 214), .ref (a 215), .ref (a 207), .null, .int 0]))] := hD
        refine lv_if_eq (tgt := 35) hx hb dX15_marchCount_30 (by decide) (fun c_21 => ?_) (fun c_21 => ?_)
        · exact absurd c_21 (by decide)
        · refine lv_iconst (v := 0) hx hb dX15_marchCount_33 (by decide) ?_
          have hP9 := hP.sub (ws' := [((a 200), .inr (21, [.int 1, .ref (a 201), .ref (a 202), .ref (a 203), .ref (a 204), .ref (a 205), .ref (a 206), .int 0, .int 0, .int 0, .int 0, .ref (a 208), .ref (a 209), .ref (a 210), .ref (a 211), .ref (a 212), .int 4, .int 12, .int (-1), .int 0, .ref (g 200), .ref (a 213), .int 0, .int 97, .ref (a 214), .ref (a 215), .ref (a 207), .null, .int 0]))]) [0] rfl
          have hD9 := hD.sub (ws' := [((a 200), .inr (21, [.int 1, .ref (a 201), .ref (a 202), .ref (a 203), .ref (a 204), .ref (a 205), .ref (a 206), .int 0, .int 0, .int 0, .int 0, .ref (a 208), .ref (a 209), .ref (a 210), .ref (a 211), .ref (a 212), .int 4, .int 12, .int (-1), .int 0, .ref (g 200), .ref (a 213), .int 0, .int 97, .ref (a 214), .ref (a 215), .ref (a 207), .null, .int 0]))]) [0] (by decide) rfl
          refine W.widen (k := 0) (n := 0) (Nat.le_of_ble_eq_true rfl) (Nat.le_of_ble_eq_true rfl) ?_
          exact W.iret (v := 0) hx hb hr (fun t ht9 hW9 => ⟨⟨0, 1, rfl, (Or.inl ⟨rfl, rfl, (Or.inl ⟨c_15, c_16, c_17, c_18, c_19⟩)⟩), ⟨(by rw [ht9]; exact hP9), hD9⟩⟩, hS.F ht9⟩) hS.2.2 dX15_marchCount_34 hlocks
  · obtain ⟨rfl, hw⟩ := hw
    have c_22 := hw
    have hP := ro1 hP hk1
    refine lv_if_ge (tgt := 15) hx hb dX15_marchCount_8 (by decide) (fun c_23 => ?_) (fun c_23 => ?_)
    · refine lv_aload_n hx hb dX15_marchCount_15 rfl (lv_at hl 0 rfl) ?_
      have hPc : va_P D vwCl [((a 200), f_m a g)] _ := hP.sub (ws' := [((a 200), f_m a g)]) [0] rfl
      have hDc : va_D (fun q => z0 ≤ q) [((a 200), f_m a g)] := (hD.to hAz).pick (ws' := [((a 200), f_m a g)]) [0] (by decide) rfl
      have hFc := AnA (ws := [((a 200), f_m a g)]) hS.1
      refine va_calli (va_runV (As := []) (rest := [.ref (a 200)]) ⟨hx, hb, hml, hown, ht⟩ (k_X15_isRightNow l D g z0 _ a) (cwV 0 ht (gV w_514 w_516 w_517 w_334 w_515) rfl rfl rfl (by decide +kernel) (le2 rfl rfl)) ⟨PP.blind, va_recv hK.1 hP (ci := 21) (q0 := 0) rfl rfl, PP.mk' hK hZ hz hAz hS hPc hDc⟩ rfl rfl hl.1 rfl (lv_room (Nat.le_of_ble_eq_true rfl)) dX15_marchCount_16 (le2 rfl rfl)) hS (fun q _ h => hFc q h) hFc (fun r u t H locs ht1 hvm hw hB hz1 hk1 hS => ?_)
      obtain ⟨rfl, hw⟩ := hw
      have hP := ro1 hP hk1
      refine lv_if_ne (tgt := 26) hx hb dX15_marchCount_19 (by decide) (fun c_24 => ?_) (fun c_24 => ?_)
      · exact absurd c_24 (by decide)
      · refine lv_iconst (v := 2) hx hb dX15_marchCount_22 (by decide) ?_
        refine lv_goto (tgt := 27) hx hb dX15_marchCount_23 (by decide) ?_
        have hPc : va_P D vwCl [((a 200), f_m a g)] _ := hP.sub (ws' := [((a 200), f_m a g)]) [0] rfl
        have hDc : va_D (fun q => z0 ≤ q) [((a 200), f_m a g)] := (hD.to hAz).pick (ws' := [((a 200), f_m a g)]) [0] (by decide) rfl
        have hFc := va_free (wc := [((a 200), f_m a g)]) hD hS hA [0] rfl
        refine va_calli (va_runV (As := [.int 2]) (rest := []) ⟨hx, hb, hml, hown, ht⟩ (k_X15_isWrong_v2 l D g z0 _ a) (cwV 1 ht (gV w_376 w_378 w_379 w_334 w_377) rfl rfl rfl (by decide +kernel) (le2 rfl rfl)) ⟨PP.blind, va_recv hK.1 hP (ci := 21) (q0 := 0) rfl rfl, PP.mk' hK hZ hz hAz hS hPc hDc⟩ rfl rfl hl.1 rfl (lv_room (Nat.le_of_ble_eq_true rfl)) dX15_marchCount_27 (le2 rfl rfl)) hS (fun q _ h => hFc q h) hFc (fun r u t H locs ht1 hvm hw hB hz1 hk1 hS => ?_)
        obtain ⟨rfl, hw⟩ := hw
        obtain ⟨hP1, hD1⟩ := hB
        rw [ht1] at hP1
        obtain ⟨hP, hD⟩ := va_join (wr := []) (w1 := [((a 200), .inr (21, [.int 2, .ref (a 201), .ref (a 202), .ref (a 203), .ref (a 204), .ref (a 205), .ref (a 206), .int 0, .int 0, .int 0, .int 0, .ref (a 208), .ref (a 209), .ref (a 210), .ref (a 211), .ref (a 212), .int 4, .int 12, .int (-1), .int 0, .ref (g 200), .ref (a 213), .int 0, .int 97, .ref (a 214), .ref (a 215), .ref (a 207), .null, .int 0]))]) hP hD [0] [] rfl rfl (by decide) (by decide) hk1 hFc hP1 hD1
        have hP : va_P D vwCl [((a 200), .inr (21, [.int 2, .ref (a 201), .ref (a 202), .ref (a 203), .ref (a 204), .ref (a 205), .ref (a 206), .int 0, .int 0, .int 0, .int 0, .ref (a 208), .ref (a 209), .ref (a 210), .ref (a 211), .ref (a 212), .int 4, .int 12, .int (-1), .int 0, .ref (g 200), .ref (a 213), .int 0, .int 97, .ref (a 214), .ref (a 215), .ref (a 207), .null, .int 0]))] H := hP
        have hD : va_D (va_A [((a 200), f_m a g)] s.heap.size) [((a 200), .inr (21, [.int 2, .ref (a 201), .ref (a 202), .ref (a 203), .ref (a 204), .ref (a 205), .ref (a 206), .int 0, .int 0, .int 0, .int 0, .ref (a 208), .ref (a 209), .ref (a 210), .ref (a 211), .ref (a 212), .int 4, .int 12, .int (-1), .int 0, .ref (g 200), .ref (a 213), .int 0, .int 97, .ref (a 214), .ref (a 215), .ref (a 207), .null, .int 0]))] := hD
        refine lv_if_eq (tgt := 35) hx hb dX15_marchCount_30 (by decide) (fun c_25 => ?_) (fun c_25 => ?_)
        · exact absurd c_25 (by decide)
        · refine lv_iconst (v := 0) hx hb dX15_marchCount_33 (by decide) ?_
          have hP9 := hP.sub (ws' := [((a 200), .inr (21, [.int 2, .ref (a 201), .ref (a 202), .ref (a 203), .ref (a 204), .ref (a 205), .ref (a 206), .int 0, .int 0, .int 0, .int 0, .ref (a 208), .ref (a 209), .ref (a 210), .ref (a 211), .ref (a 212), .int 4, .int 12, .int (-1), .int 0, .ref (g 200), .ref (a 213), .int 0, .int 97, .ref (a 214), .ref (a 215), .ref (a 207), .null, .int 0]))]) [0] rfl
          have hD9 := hD.sub (ws' := [((a 200), .inr (21, [.int 2, .ref (a 201), .ref (a 202), .ref (a 203), .ref (a 204), .ref (a 205), .ref (a 206), .int 0, .int 0, .int 0, .int 0, .ref (a 208), .ref (a 209), .ref (a 210), .ref (a 211), .ref (a 212), .int 4, .int 12, .int (-1), .int 0, .ref (g 200), .ref (a 213), .int 0, .int 97, .ref (a 214), .ref (a 215), .ref (a 207), .null, .int 0]))]) [0] (by decide) rfl
          refine W.widen (k := 0) (n := 0) (Nat.le_of_ble_eq_true rfl) (Nat.le_of_ble_eq_true rfl) ?_
          exact W.iret (v := 0) hx hb hr (fun t ht9 hW9 => ⟨⟨0, 2, rfl, (Or.inr ⟨rfl, rfl, (Or.inl c_22)⟩), ⟨(by rw [ht9]; exact hP9), hD9⟩⟩, hS.F ht9⟩) hS.2.2 dX15_marchCount_34 hlocks
    · exact absurd c_23 (by decide)
  · obtain ⟨rfl, hw⟩ := hw
    have c_26 := hw
    have hP := ro1 hP hk1
    refine lv_if_ge (tgt := 15) hx hb dX15_marchCount_8 (by decide) (fun c_27 => ?_) (fun c_27 => ?_)
    · refine lv_aload_n hx hb dX15_marchCount_15 rfl (lv_at hl 0 rfl) ?_
      have hPc : va_P D vwCl [((a 200), f_m a g)] _ := hP.sub (ws' := [((a 200), f_m a g)]) [0] rfl
      have hDc : va_D (fun q => z0 ≤ q) [((a 200), f_m a g)] := (hD.to hAz).pick (ws' := [((a 200), f_m a g)]) [0] (by decide) rfl
      have hFc := AnA (ws := [((a 200), f_m a g)]) hS.1
      refine va_calli (va_runV (As := []) (rest := [.ref (a 200)]) ⟨hx, hb, hml, hown, ht⟩ (k_X15_isRightNow l D g z0 _ a) (cwV 0 ht (gV w_514 w_516 w_517 w_334 w_515) rfl rfl rfl (by decide +kernel) (le2 rfl rfl)) ⟨PP.blind, va_recv hK.1 hP (ci := 21) (q0 := 0) rfl rfl, PP.mk' hK hZ hz hAz hS hPc hDc⟩ rfl rfl hl.1 rfl (lv_room (Nat.le_of_ble_eq_true rfl)) dX15_marchCount_16 (le2 rfl rfl)) hS (fun q _ h => hFc q h) hFc (fun r u t H locs ht1 hvm hw hB hz1 hk1 hS => ?_)
      obtain ⟨rfl, hw⟩ := hw
      have hP := ro1 hP hk1
      refine lv_if_ne (tgt := 26) hx hb dX15_marchCount_19 (by decide) (fun c_28 => ?_) (fun c_28 => ?_)
      · exact absurd c_28 (by decide)
      · refine lv_iconst (v := 2) hx hb dX15_marchCount_22 (by decide) ?_
        refine lv_goto (tgt := 27) hx hb dX15_marchCount_23 (by decide) ?_
        have hPc : va_P D vwCl [((a 200), f_m a g)] _ := hP.sub (ws' := [((a 200), f_m a g)]) [0] rfl
        have hDc : va_D (fun q => z0 ≤ q) [((a 200), f_m a g)] := (hD.to hAz).pick (ws' := [((a 200), f_m a g)]) [0] (by decide) rfl
        have hFc := va_free (wc := [((a 200), f_m a g)]) hD hS hA [0] rfl
        refine va_calli (va_runV (As := [.int 2]) (rest := []) ⟨hx, hb, hml, hown, ht⟩ (k_X15_isWrong_v2 l D g z0 _ a) (cwV 1 ht (gV w_376 w_378 w_379 w_334 w_377) rfl rfl rfl (by decide +kernel) (le2 rfl rfl)) ⟨PP.blind, va_recv hK.1 hP (ci := 21) (q0 := 0) rfl rfl, PP.mk' hK hZ hz hAz hS hPc hDc⟩ rfl rfl hl.1 rfl (lv_room (Nat.le_of_ble_eq_true rfl)) dX15_marchCount_27 (le2 rfl rfl)) hS (fun q _ h => hFc q h) hFc (fun r u t H locs ht1 hvm hw hB hz1 hk1 hS => ?_)
        obtain ⟨rfl, hw⟩ := hw
        obtain ⟨hP1, hD1⟩ := hB
        rw [ht1] at hP1
        obtain ⟨hP, hD⟩ := va_join (wr := []) (w1 := [((a 200), .inr (21, [.int 2, .ref (a 201), .ref (a 202), .ref (a 203), .ref (a 204), .ref (a 205), .ref (a 206), .int 0, .int 0, .int 0, .int 0, .ref (a 208), .ref (a 209), .ref (a 210), .ref (a 211), .ref (a 212), .int 4, .int 12, .int (-1), .int 0, .ref (g 200), .ref (a 213), .int 0, .int 97, .ref (a 214), .ref (a 215), .ref (a 207), .null, .int 0]))]) hP hD [0] [] rfl rfl (by decide) (by decide) hk1 hFc hP1 hD1
        have hP : va_P D vwCl [((a 200), .inr (21, [.int 2, .ref (a 201), .ref (a 202), .ref (a 203), .ref (a 204), .ref (a 205), .ref (a 206), .int 0, .int 0, .int 0, .int 0, .ref (a 208), .ref (a 209), .ref (a 210), .ref (a 211), .ref (a 212), .int 4, .int 12, .int (-1), .int 0, .ref (g 200), .ref (a 213), .int 0, .int 97, .ref (a 214), .ref (a 215), .ref (a 207), .null, .int 0]))] H := hP
        have hD : va_D (va_A [((a 200), f_m a g)] s.heap.size) [((a 200), .inr (21, [.int 2, .ref (a 201), .ref (a 202), .ref (a 203), .ref (a 204), .ref (a 205), .ref (a 206), .int 0, .int 0, .int 0, .int 0, .ref (a 208), .ref (a 209), .ref (a 210), .ref (a 211), .ref (a 212), .int 4, .int 12, .int (-1), .int 0, .ref (g 200), .ref (a 213), .int 0, .int 97, .ref (a 214), .ref (a 215), .ref (a 207), .null, .int 0]))] := hD
        refine lv_if_eq (tgt := 35) hx hb dX15_marchCount_30 (by decide) (fun c_29 => ?_) (fun c_29 => ?_)
        · exact absurd c_29 (by decide)
        · refine lv_iconst (v := 0) hx hb dX15_marchCount_33 (by decide) ?_
          have hP9 := hP.sub (ws' := [((a 200), .inr (21, [.int 2, .ref (a 201), .ref (a 202), .ref (a 203), .ref (a 204), .ref (a 205), .ref (a 206), .int 0, .int 0, .int 0, .int 0, .ref (a 208), .ref (a 209), .ref (a 210), .ref (a 211), .ref (a 212), .int 4, .int 12, .int (-1), .int 0, .ref (g 200), .ref (a 213), .int 0, .int 97, .ref (a 214), .ref (a 215), .ref (a 207), .null, .int 0]))]) [0] rfl
          have hD9 := hD.sub (ws' := [((a 200), .inr (21, [.int 2, .ref (a 201), .ref (a 202), .ref (a 203), .ref (a 204), .ref (a 205), .ref (a 206), .int 0, .int 0, .int 0, .int 0, .ref (a 208), .ref (a 209), .ref (a 210), .ref (a 211), .ref (a 212), .int 4, .int 12, .int (-1), .int 0, .ref (g 200), .ref (a 213), .int 0, .int 97, .ref (a 214), .ref (a 215), .ref (a 207), .null, .int 0]))]) [0] (by decide) rfl
          refine W.widen (k := 0) (n := 0) (Nat.le_of_ble_eq_true rfl) (Nat.le_of_ble_eq_true rfl) ?_
          exact W.iret (v := 0) hx hb hr (fun t ht9 hW9 => ⟨⟨0, 2, rfl, (Or.inr ⟨rfl, rfl, (Or.inr (Or.inl c_26))⟩), ⟨(by rw [ht9]; exact hP9), hD9⟩⟩, hS.F ht9⟩) hS.2.2 dX15_marchCount_34 hlocks
    · exact absurd c_27 (by decide)
  · obtain ⟨rfl, hw⟩ := hw
    have c_30 := hw
    have hP := ro1 hP hk1
    refine lv_if_ge (tgt := 15) hx hb dX15_marchCount_8 (by decide) (fun c_31 => ?_) (fun c_31 => ?_)
    · refine lv_aload_n hx hb dX15_marchCount_15 rfl (lv_at hl 0 rfl) ?_
      have hPc : va_P D vwCl [((a 200), f_m a g)] _ := hP.sub (ws' := [((a 200), f_m a g)]) [0] rfl
      have hDc : va_D (fun q => z0 ≤ q) [((a 200), f_m a g)] := (hD.to hAz).pick (ws' := [((a 200), f_m a g)]) [0] (by decide) rfl
      have hFc := AnA (ws := [((a 200), f_m a g)]) hS.1
      refine va_calli (va_runV (As := []) (rest := [.ref (a 200)]) ⟨hx, hb, hml, hown, ht⟩ (k_X15_isRightNow l D g z0 _ a) (cwV 0 ht (gV w_514 w_516 w_517 w_334 w_515) rfl rfl rfl (by decide +kernel) (le2 rfl rfl)) ⟨PP.blind, va_recv hK.1 hP (ci := 21) (q0 := 0) rfl rfl, PP.mk' hK hZ hz hAz hS hPc hDc⟩ rfl rfl hl.1 rfl (lv_room (Nat.le_of_ble_eq_true rfl)) dX15_marchCount_16 (le2 rfl rfl)) hS (fun q _ h => hFc q h) hFc (fun r u t H locs ht1 hvm hw hB hz1 hk1 hS => ?_)
      obtain ⟨rfl, hw⟩ := hw
      have hP := ro1 hP hk1
      refine lv_if_ne (tgt := 26) hx hb dX15_marchCount_19 (by decide) (fun c_32 => ?_) (fun c_32 => ?_)
      · exact absurd c_32 (by decide)
      · refine lv_iconst (v := 2) hx hb dX15_marchCount_22 (by decide) ?_
        refine lv_goto (tgt := 27) hx hb dX15_marchCount_23 (by decide) ?_
        have hPc : va_P D vwCl [((a 200), f_m a g)] _ := hP.sub (ws' := [((a 200), f_m a g)]) [0] rfl
        have hDc : va_D (fun q => z0 ≤ q) [((a 200), f_m a g)] := (hD.to hAz).pick (ws' := [((a 200), f_m a g)]) [0] (by decide) rfl
        have hFc := va_free (wc := [((a 200), f_m a g)]) hD hS hA [0] rfl
        refine va_calli (va_runV (As := [.int 2]) (rest := []) ⟨hx, hb, hml, hown, ht⟩ (k_X15_isWrong_v2 l D g z0 _ a) (cwV 1 ht (gV w_376 w_378 w_379 w_334 w_377) rfl rfl rfl (by decide +kernel) (le2 rfl rfl)) ⟨PP.blind, va_recv hK.1 hP (ci := 21) (q0 := 0) rfl rfl, PP.mk' hK hZ hz hAz hS hPc hDc⟩ rfl rfl hl.1 rfl (lv_room (Nat.le_of_ble_eq_true rfl)) dX15_marchCount_27 (le2 rfl rfl)) hS (fun q _ h => hFc q h) hFc (fun r u t H locs ht1 hvm hw hB hz1 hk1 hS => ?_)
        obtain ⟨rfl, hw⟩ := hw
        obtain ⟨hP1, hD1⟩ := hB
        rw [ht1] at hP1
        obtain ⟨hP, hD⟩ := va_join (wr := []) (w1 := [((a 200), .inr (21, [.int 2, .ref (a 201), .ref (a 202), .ref (a 203), .ref (a 204), .ref (a 205), .ref (a 206), .int 0, .int 0, .int 0, .int 0, .ref (a 208), .ref (a 209), .ref (a 210), .ref (a 211), .ref (a 212), .int 4, .int 12, .int (-1), .int 0, .ref (g 200), .ref (a 213), .int 0, .int 97, .ref (a 214), .ref (a 215), .ref (a 207), .null, .int 0]))]) hP hD [0] [] rfl rfl (by decide) (by decide) hk1 hFc hP1 hD1
        have hP : va_P D vwCl [((a 200), .inr (21, [.int 2, .ref (a 201), .ref (a 202), .ref (a 203), .ref (a 204), .ref (a 205), .ref (a 206), .int 0, .int 0, .int 0, .int 0, .ref (a 208), .ref (a 209), .ref (a 210), .ref (a 211), .ref (a 212), .int 4, .int 12, .int (-1), .int 0, .ref (g 200), .ref (a 213), .int 0, .int 97, .ref (a 214), .ref (a 215), .ref (a 207), .null, .int 0]))] H := hP
        have hD : va_D (va_A [((a 200), f_m a g)] s.heap.size) [((a 200), .inr (21, [.int 2, .ref (a 201), .ref (a 202), .ref (a 203), .ref (a 204), .ref (a 205), .ref (a 206), .int 0, .int 0, .int 0, .int 0, .ref (a 208), .ref (a 209), .ref (a 210), .ref (a 211), .ref (a 212), .int 4, .int 12, .int (-1), .int 0, .ref (g 200), .ref (a 213), .int 0, .int 97, .ref (a 214), .ref (a 215), .ref (a 207), .null, .int 0]))] := hD
        refine lv_if_eq (tgt := 35) hx hb dX15_marchCount_30 (by decide) (fun c_33 => ?_) (fun c_33 => ?_)
        · exact absurd c_33 (by decide)
        · refine lv_iconst (v := 0) hx hb dX15_marchCount_33 (by decide) ?_
          have hP9 := hP.sub (ws' := [((a 200), .inr (21, [.int 2, .ref (a 201), .ref (a 202), .ref (a 203), .ref (a 204), .ref (a 205), .ref (a 206), .int 0, .int 0, .int 0, .int 0, .ref (a 208), .ref (a 209), .ref (a 210), .ref (a 211), .ref (a 212), .int 4, .int 12, .int (-1), .int 0, .ref (g 200), .ref (a 213), .int 0, .int 97, .ref (a 214), .ref (a 215), .ref (a 207), .null, .int 0]))]) [0] rfl
          have hD9 := hD.sub (ws' := [((a 200), .inr (21, [.int 2, .ref (a 201), .ref (a 202), .ref (a 203), .ref (a 204), .ref (a 205), .ref (a 206), .int 0, .int 0, .int 0, .int 0, .ref (a 208), .ref (a 209), .ref (a 210), .ref (a 211), .ref (a 212), .int 4, .int 12, .int (-1), .int 0, .ref (g 200), .ref (a 213), .int 0, .int 97, .ref (a 214), .ref (a 215), .ref (a 207), .null, .int 0]))]) [0] (by decide) rfl
          refine W.widen (k := 0) (n := 0) (Nat.le_of_ble_eq_true rfl) (Nat.le_of_ble_eq_true rfl) ?_
          exact W.iret (v := 0) hx hb hr (fun t ht9 hW9 => ⟨⟨0, 2, rfl, (Or.inr ⟨rfl, rfl, (Or.inr (Or.inr (Or.inl c_30)))⟩), ⟨(by rw [ht9]; exact hP9), hD9⟩⟩, hS.F ht9⟩) hS.2.2 dX15_marchCount_34 hlocks
    · exact absurd c_31 (by decide)
  · obtain ⟨rfl, hw⟩ := hw
    have c_34 := hw
    have hP := ro1 hP hk1
    refine lv_if_ge (tgt := 15) hx hb dX15_marchCount_8 (by decide) (fun c_35 => ?_) (fun c_35 => ?_)
    · refine lv_aload_n hx hb dX15_marchCount_15 rfl (lv_at hl 0 rfl) ?_
      have hPc : va_P D vwCl [((a 200), f_m a g)] _ := hP.sub (ws' := [((a 200), f_m a g)]) [0] rfl
      have hDc : va_D (fun q => z0 ≤ q) [((a 200), f_m a g)] := (hD.to hAz).pick (ws' := [((a 200), f_m a g)]) [0] (by decide) rfl
      have hFc := AnA (ws := [((a 200), f_m a g)]) hS.1
      refine va_calli (va_runV (As := []) (rest := [.ref (a 200)]) ⟨hx, hb, hml, hown, ht⟩ (k_X15_isRightNow l D g z0 _ a) (cwV 0 ht (gV w_514 w_516 w_517 w_334 w_515) rfl rfl rfl (by decide +kernel) (le2 rfl rfl)) ⟨PP.blind, va_recv hK.1 hP (ci := 21) (q0 := 0) rfl rfl, PP.mk' hK hZ hz hAz hS hPc hDc⟩ rfl rfl hl.1 rfl (lv_room (Nat.le_of_ble_eq_true rfl)) dX15_marchCount_16 (le2 rfl rfl)) hS (fun q _ h => hFc q h) hFc (fun r u t H locs ht1 hvm hw hB hz1 hk1 hS => ?_)
      obtain ⟨rfl, hw⟩ := hw
      have hP := ro1 hP hk1
      refine lv_if_ne (tgt := 26) hx hb dX15_marchCount_19 (by decide) (fun c_36 => ?_) (fun c_36 => ?_)
      · exact absurd c_36 (by decide)
      · refine lv_iconst (v := 2) hx hb dX15_marchCount_22 (by decide) ?_
        refine lv_goto (tgt := 27) hx hb dX15_marchCount_23 (by decide) ?_
        have hPc : va_P D vwCl [((a 200), f_m a g)] _ := hP.sub (ws' := [((a 200), f_m a g)]) [0] rfl
        have hDc : va_D (fun q => z0 ≤ q) [((a 200), f_m a g)] := (hD.to hAz).pick (ws' := [((a 200), f_m a g)]) [0] (by decide) rfl
        have hFc := va_free (wc := [((a 200), f_m a g)]) hD hS hA [0] rfl
        refine va_calli (va_runV (As := [.int 2]) (rest := []) ⟨hx, hb, hml, hown, ht⟩ (k_X15_isWrong_v2 l D g z0 _ a) (cwV 1 ht (gV w_376 w_378 w_379 w_334 w_377) rfl rfl rfl (by decide +kernel) (le2 rfl rfl)) ⟨PP.blind, va_recv hK.1 hP (ci := 21) (q0 := 0) rfl rfl, PP.mk' hK hZ hz hAz hS hPc hDc⟩ rfl rfl hl.1 rfl (lv_room (Nat.le_of_ble_eq_true rfl)) dX15_marchCount_27 (le2 rfl rfl)) hS (fun q _ h => hFc q h) hFc (fun r u t H locs ht1 hvm hw hB hz1 hk1 hS => ?_)
        obtain ⟨rfl, hw⟩ := hw
        obtain ⟨hP1, hD1⟩ := hB
        rw [ht1] at hP1
        obtain ⟨hP, hD⟩ := va_join (wr := []) (w1 := [((a 200), .inr (21, [.int 2, .ref (a 201), .ref (a 202), .ref (a 203), .ref (a 204), .ref (a 205), .ref (a 206), .int 0, .int 0, .int 0, .int 0, .ref (a 208), .ref (a 209), .ref (a 210), .ref (a 211), .ref (a 212), .int 4, .int 12, .int (-1), .int 0, .ref (g 200), .ref (a 213), .int 0, .int 97, .ref (a 214), .ref (a 215), .ref (a 207), .null, .int 0]))]) hP hD [0] [] rfl rfl (by decide) (by decide) hk1 hFc hP1 hD1
        have hP : va_P D vwCl [((a 200), .inr (21, [.int 2, .ref (a 201), .ref (a 202), .ref (a 203), .ref (a 204), .ref (a 205), .ref (a 206), .int 0, .int 0, .int 0, .int 0, .ref (a 208), .ref (a 209), .ref (a 210), .ref (a 211), .ref (a 212), .int 4, .int 12, .int (-1), .int 0, .ref (g 200), .ref (a 213), .int 0, .int 97, .ref (a 214), .ref (a 215), .ref (a 207), .null, .int 0]))] H := hP
        have hD : va_D (va_A [((a 200), f_m a g)] s.heap.size) [((a 200), .inr (21, [.int 2, .ref (a 201), .ref (a 202), .ref (a 203), .ref (a 204), .ref (a 205), .ref (a 206), .int 0, .int 0, .int 0, .int 0, .ref (a 208), .ref (a 209), .ref (a 210), .ref (a 211), .ref (a 212), .int 4, .int 12, .int (-1), .int 0, .ref (g 200), .ref (a 213), .int 0, .int 97, .ref (a 214), .ref (a 215), .ref (a 207), .null, .int 0]))] := hD
        refine lv_if_eq (tgt := 35) hx hb dX15_marchCount_30 (by decide) (fun c_37 => ?_) (fun c_37 => ?_)
        · exact absurd c_37 (by decide)
        · refine lv_iconst (v := 0) hx hb dX15_marchCount_33 (by decide) ?_
          have hP9 := hP.sub (ws' := [((a 200), .inr (21, [.int 2, .ref (a 201), .ref (a 202), .ref (a 203), .ref (a 204), .ref (a 205), .ref (a 206), .int 0, .int 0, .int 0, .int 0, .ref (a 208), .ref (a 209), .ref (a 210), .ref (a 211), .ref (a 212), .int 4, .int 12, .int (-1), .int 0, .ref (g 200), .ref (a 213), .int 0, .int 97, .ref (a 214), .ref (a 215), .ref (a 207), .null, .int 0]))]) [0] rfl
          have hD9 := hD.sub (ws' := [((a 200), .inr (21, [.int 2, .ref (a 201), .ref (a 202), .ref (a 203), .ref (a 204), .ref (a 205), .ref (a 206), .int 0, .int 0, .int 0, .int 0, .ref (a 208), .ref (a 209), .ref (a 210), .ref (a 211), .ref (a 212), .int 4, .int 12, .int (-1), .int 0, .ref (g 200), .ref (a 213), .int 0, .int 97, .ref (a 214), .ref (a 215), .ref (a 207), .null, .int 0]))]) [0] (by decide) rfl
          refine W.widen (k := 0) (n := 0) (Nat.le_of_ble_eq_true rfl) (Nat.le_of_ble_eq_true rfl) ?_
          exact W.iret (v := 0) hx hb hr (fun t ht9 hW9 => ⟨⟨0, 2, rfl, (Or.inr ⟨rfl, rfl, (Or.inr (Or.inr (Or.inr (Or.inl c_34))))⟩), ⟨(by rw [ht9]; exact hP9), hD9⟩⟩, hS.F ht9⟩) hS.2.2 dX15_marchCount_34 hlocks
    · exact absurd c_35 (by decide)
  · obtain ⟨rfl, hw⟩ := hw
    have c_38 := hw
    have hP := ro1 hP hk1
    refine lv_if_ge (tgt := 15) hx hb dX15_marchCount_8 (by decide) (fun c_39 => ?_) (fun c_39 => ?_)
    · refine lv_aload_n hx hb dX15_marchCount_15 rfl (lv_at hl 0 rfl) ?_
      have hPc : va_P D vwCl [((a 200), f_m a g)] _ := hP.sub (ws' := [((a 200), f_m a g)]) [0] rfl
      have hDc : va_D (fun q => z0 ≤ q) [((a 200), f_m a g)] := (hD.to hAz).pick (ws' := [((a 200), f_m a g)]) [0] (by decide) rfl
      have hFc := AnA (ws := [((a 200), f_m a g)]) hS.1
      refine va_calli (va_runV (As := []) (rest := [.ref (a 200)]) ⟨hx, hb, hml, hown, ht⟩ (k_X15_isRightNow l D g z0 _ a) (cwV 0 ht (gV w_514 w_516 w_517 w_334 w_515) rfl rfl rfl (by decide +kernel) (le2 rfl rfl)) ⟨PP.blind, va_recv hK.1 hP (ci := 21) (q0 := 0) rfl rfl, PP.mk' hK hZ hz hAz hS hPc hDc⟩ rfl rfl hl.1 rfl (lv_room (Nat.le_of_ble_eq_true rfl)) dX15_marchCount_16 (le2 rfl rfl)) hS (fun q _ h => hFc q h) hFc (fun r u t H locs ht1 hvm hw hB hz1 hk1 hS => ?_)
      obtain ⟨rfl, hw⟩ := hw
      have hP := ro1 hP hk1
      refine lv_if_ne (tgt := 26) hx hb dX15_marchCount_19 (by decide) (fun c_40 => ?_) (fun c_40 => ?_)
      · exact absurd c_40 (by decide)
      · refine lv_iconst (v := 2) hx hb dX15_marchCount_22 (by decide) ?_
        refine lv_goto (tgt := 27) hx hb dX15_marchCount_23 (by decide) ?_
        have hPc : va_P D vwCl [((a 200), f_m a g)] _ := hP.sub (ws' := [((a 200), f_m a g)]) [0] rfl
        have hDc : va_D (fun q => z0 ≤ q) [((a 200), f_m a g)] := (hD.to hAz).pick (ws' := [((a 200), f_m a g)]) [0] (by decide) rfl
        have hFc := va_free (wc := [((a 200), f_m a g)]) hD hS hA [0] rfl
        refine va_calli (va_runV (As := [.int 2]) (rest := []) ⟨hx, hb, hml, hown, ht⟩ (k_X15_isWrong_v2 l D g z0 _ a) (cwV 1 ht (gV w_376 w_378 w_379 w_334 w_377) rfl rfl rfl (by decide +kernel) (le2 rfl rfl)) ⟨PP.blind, va_recv hK.1 hP (ci := 21) (q0 := 0) rfl rfl, PP.mk' hK hZ hz hAz hS hPc hDc⟩ rfl rfl hl.1 rfl (lv_room (Nat.le_of_ble_eq_true rfl)) dX15_marchCount_27 (le2 rfl rfl)) hS (fun q _ h => hFc q h) hFc (fun r u t H locs ht1 hvm hw hB hz1 hk1 hS => ?_)
        obtain ⟨rfl, hw⟩ := hw
        obtain ⟨hP1, hD1⟩ := hB
        rw [ht1] at hP1
        obtain ⟨hP, hD⟩ := va_join (wr := []) (w1 := [((a 200), .inr (21, [.int 2, .ref (a 201), .ref (a 202), .ref (a 203), .ref (a 204), .ref (a 205), .ref (a 206), .int 0, .int 0, .int 0, .int 0, .ref (a 208), .ref (a 209), .ref (a 210), .ref (a 211), .ref (a 212), .int 4, .int 12, .int (-1), .int 0, .ref (g 200), .ref (a 213), .int 0, .int 97, .ref (a 214), .ref (a 215), .ref (a 207), .null, .int 0]))]) hP hD [0] [] rfl rfl (by decide) (by decide) hk1 hFc hP1 hD1
        have hP : va_P D vwCl [((a 200), .inr (21, [.int 2, .ref (a 201), .ref (a 202), .ref (a 203), .ref (a 204), .ref (a 205), .ref (a 206), .int 0, .int 0, .int 0, .int 0, .ref (a 208), .ref (a 209), .ref (a 210), .ref (a 211), .ref (a 212), .int 4, .int 12, .int (-1), .int 0, .ref (g 200), .ref (a 213), .int 0, .int 97, .ref (a 214), .ref (a 215), .ref (a 207), .null, .int 0]))] H := hP
        have hD : va_D (va_A [((a 200), f_m a g)] s.heap.size) [((a 200), .inr (21, [.int 2, .ref (a 201), .ref (a 202), .ref (a 203), .ref (a 204), .ref (a 205), .ref (a 206), .int 0, .int 0, .int 0, .int 0, .ref (a 208), .ref (a 209), .ref (a 210), .ref (a 211), .ref (a 212), .int 4, .int 12, .int (-1), .int 0, .ref (g 200), .ref (a 213), .int 0, .int 97, .ref (a 214), .ref (a 215), .ref (a 207), .null, .int 0]))] := hD
        refine lv_if_eq (tgt := 35) hx hb dX15_marchCount_30 (by decide) (fun c_41 => ?_) (fun c_41 => ?_)
        · exact absurd c_41 (by decide)
        · refine lv_iconst (v := 0) hx hb dX15_marchCount_33 (by decide) ?_
          have hP9 := hP.sub (ws' := [((a 200), .inr (21, [.int 2, .ref (a 201), .ref (a 202), .ref (a 203), .ref (a 204), .ref (a 205), .ref (a 206), .int 0, .int 0, .int 0, .int 0, .ref (a 208), .ref (a 209), .ref (a 210), .ref (a 211), .ref (a 212), .int 4, .int 12, .int (-1), .int 0, .ref (g 200), .ref (a 213), .int 0, .int 97, .ref (a 214), .ref (a 215), .ref (a 207), .null, .int 0]))]) [0] rfl
          have hD9 := hD.sub (ws' := [((a 200), .inr (21, [.int 2, .ref (a 201), .ref (a 202), .ref (a 203), .ref (a 204), .ref (a 205), .ref (a 206), .int 0, .int 0, .int 0, .int 0, .ref (a 208), .ref (a 209), .ref (a 210), .ref (a 211), .ref (a 212), .int 4, .int 12, .int (-1), .int 0, .ref (g 200), .ref (a 213), .int 0, .int 97, .ref (a 214), .ref (a 215), .ref (a 207), .null, .int 0]))]) [0] (by decide) rfl
          refine W.widen (k := 0) (n := 0) (Nat.le_of_ble_eq_true rfl) (Nat.le_of_ble_eq_true rfl) ?_
          exact W.iret (v := 0) hx hb hr (fun t ht9 hW9 => ⟨⟨0, 2, rfl, (Or.inr ⟨rfl, rfl, (Or.inr (Or.inr (Or.inr (Or.inr c_38))))⟩), ⟨(by rw [ht9]; exact hP9), hD9⟩⟩, hS.F ht9⟩) hS.2.2 dX15_marchCount_34 hlocks
    · exact absurd c_39 (by decide)
